theorem om_1178 : (0 ≤ 0) := by omega
theorem om_1179 {a : Int} (h0 : (0 ≤ a)) : (-2147483648 ≤ a * 16) := by omega
theorem om_1180 {a : Int} (h0 : (a ≤ 16)) : (a * 16 ≤ 2147483647) := by omega
theorem om_1181 {a b c : Int} (h0 : (a = c * 16)) (h1 : (0 ≤ b)) (h2 : (0 ≤ c)) : (-2147483648 ≤ a + b) := by omega
theorem om_1182 {a b c : Int} (h0 : (a = c * 16)) (h1 : (c < b)) (h2 : (b ≤ 16)) : (a + b ≤ 2147483647) := by omega
theorem om_1183 {a b c d : Int} (h0 : (a = b + c)) (h1 : (b = d * 16)) (h2 : (0 ≤ c)) (h3 : (0 ≤ d)) : (0 ≤ a) := by omega
theorem om_1184 {a b c d e : Int} (h0 : (a = b + c)) (h1 : (b = d * 16)) (h2 : (c < e)) (h3 : (d < e)) (h4 : (e ≤ 16)) : (a < (256 : Nat)) := by omega
theorem om_1185 {a b c : Int} (h0 : (a < b)) (h1 : (b < c)) (h2 : (c ≤ 16)) : (a < b ∧ b < 16) := by omega
theorem om_1186 {a : Int} (h0 : (a ≤ 16)) : (a ≤ 16) := by omega
theorem om_1187 {a b : Int} (h0 : (a = b + 1)) : (a ≤ b + 1) := by omega
set_option maxHeartbeats 4000000 in
set_option maxRecDepth 100000 in
theorem k_X0_learn (l : Launch) (D : va_G) (cB cC cI cJ : ClassId) (sz : Nat) (a0 a1 a2 a3 a4 a5 a6 a7 : Nat) (x0 x1 x2 x3 x4 x5 x6 x7 x8 x9 x10 : Int32) (y0 : Int64) (f0 f1 f2 : Nat → Int32) (g0 : Nat → Int64) (h_x0 : zBd x0.toInt 0 16) (h_x1 : zBd x1.toInt 0 1) (h_x2 : zBd x2.toInt 0 256) (h_x4 : zBd x4.toInt (-1) 8) (h_x5 : zBd x5.toInt (-1) 5) (h_x6 : zBd x6.toInt (-1) 6) (h_x7 : zBd x7.toInt 0 6) (h_x8 : zBd x8.toInt 0 16) (hf_f0 : (∀ j, (-7) ≤ (f0 j).toInt ∧ (f0 j).toInt ≤ 7)) (hg_kn : knQ x1.toInt x0.toInt g0 f1 f0 x5.toInt x6.toInt x8.toInt) : Met l yX0_learn (.code yX0_learn cX0_learn 4 none :: lw_gd) ({ frames := 3, cells := 0, slots := 0, locals := 75 }) (gPre D [(cB, .byte), (cC, .char), (cI, .int), (cJ, .long)] [.ref a0, .ref a1] (zS_95 cB cC cI cJ a0 a2 a3 x0 x1 y0 x2 x3 a2 g0 a1 a4 a5 a6 x4 x5 x6 x7 x8 x9 x10 a6 f0 a4 a7 a7 f1 a3 f2) sz) (va_Qv (fun u => (0 ≤ (u.2.2.2.1 0).toInt ∧ (u.2.2.2.1 0).toInt ≤ 16) ∧ (0 ≤ (u.2.2.2.1 1).toInt ∧ (u.2.2.2.1 1).toInt ≤ 1) ∧ ((u.2.2.2.1 0).toInt = x8.toInt ∧ wlQ (u.2.2.1 0) f1 f0 x5.toInt x6.toInt x8.toInt x8.toInt 0)) (gB D (va_A (zS_95 cB cC cI cJ a0 a2 a3 x0 x1 y0 x2 x3 a2 g0 a1 a4 a5 a6 x4 x5 x6 x7 x8 x9 x10 a6 f0 a4 a7 a7 f1 a3 f2) sz) (fun u : gEx => (zS_95 cB cC cI cJ a0 a2 a3 (u.2.2.2.1 0) (u.2.2.2.1 1) y0 x2 x3 a2 (u.2.2.1 0) a1 a4 a5 a6 x4 x5 x6 x7 x8 x9 x10 a6 f0 a4 a7 a7 f1 a3 (u.2.1 0)))) (va_A (zS_95 cB cC cI cJ a0 a2 a3 x0 x1 y0 x2 x3 a2 g0 a1 a4 a5 a6 x4 x5 x6 x7 x8 x9 x10 a6 f0 a4 a7 a7 f1 a3 f2) sz)) 0 0 (va_A (zS_95 cB cC cI cJ a0 a2 a3 x0 x1 y0 x2 x3 a2 g0 a1 a4 a5 a6 x4 x5 x6 x7 x8 x9 x10 a6 f0 a4 a7 a7 f1 a3 f2) sz) := by
  refine gOf_v (by decide +kernel) (Nat.le_of_ble_eq_true rfl) ?_
  intro p e s m args below meth c ls A Q hx hb hts hown hml hN hK hP hD hA hl hret
  replace hown : s.vm.findClass RX0 = some m.cls := hown
  have hS : va_S A s.heap s.heap [] := va_S.rf
  replace hP : va_P D gcl (zS_95 cB cC cI cJ a0 a2 a3 x0 x1 y0 x2 x3 a2 g0 a1 a4 a5 a6 x4 x5 x6 x7 x8 x9 x10 a6 f0 a4 a7 a7 f1 a3 f2) s.heap := hP
  replace hl : lv_has ls 4 [(0, .ref a0), (1, .ref a1)] := hl
  have ry0 := n_rngL y0
  have rx3 : zBd x3.toInt (-2147483648) 2147483647 := n_rng x3
  have rx9 : zBd x9.toInt (-2147483648) 2147483647 := n_rng x9
  have rx10 : zBd x10.toInt (-2147483648) 2147483647 := n_rng x10
  refine lv_aload_n (pc := 0) hx hb dX0_learn_0 rfl (lv_at hl 0 rfl) ?_
  refine va_get (pc := 1) (ci := 0) (v := .int x1) (C := RX0) (T := TX0) (N := 7) hx hb hts iX0 hown hK hP 0 rfl rfl 3 (by decide) (hts _ tw_317) (fun _ h9 => h9) rfl dX0_learn_1 ?_
  have bd_h_x1 : 0 ≤ x1.toInt ∧ x1.toInt ≤ 1 := h_x1
  refine b_if_eq (pc := 4) (tgt := 8) hx hb rfl  dX0_learn_4 (by decide) (fun c_1 => ?_) (fun c_1 => ?_)
  ·
    refine lv_aload_n (pc := 8) hx hb dX0_learn_8 rfl (lv_at hl 0 rfl) ?_
    refine lv_iconst (pc := 9) (v := 1) hx hb dX0_learn_9 (by decide) ?_
    refine va_put (pc := 10) (ci := 0) (v := .int 1) (ty := .boolean) (C := RX0) (T := TX0) (N := 7) hx hb hts iX0 tyX0 tyX0_ok nmX0 hown hK hP hD hS 0 rfl rfl 3 (by decide) (hts _ tw_317) (fun _ h9 => h9) rfl (by decide +kernel) (by decide +kernel) (by decide +kernel) (Nat.le_of_ble_eq_true rfl) dX0_learn_10 (fun H locs hP hD hS => ?_)
    replace hP : va_P D gcl (zS_95 cB cC cI cJ a0 a2 a3 x0 1 y0 x2 x3 a2 g0 a1 a4 a5 a6 x4 x5 x6 x7 x8 x9 x10 a6 f0 a4 a7 a7 f1 a3 f2) H := hP
    replace hD : va_D A (zS_95 cB cC cI cJ a0 a2 a3 x0 1 y0 x2 x3 a2 g0 a1 a4 a5 a6 x4 x5 x6 x7 x8 x9 x10 a6 f0 a4 a7 a7 f1 a3 f2) := hD
    refine lv_aload_n (pc := 13) hx hb dX0_learn_13 rfl (lv_at hl 0 rfl) ?_
    refine lv_aload_n (pc := 14) hx hb dX0_learn_14 rfl (lv_at hl 1 rfl) ?_
    refine va_getN (pc := 15) (ci := 1) (v := .int x8) (C := RX1) (T := TX1) (N := 10) hx hb hts iX1 hown hK hP 2 rfl rfl 7 (by decide) (va_Nw.use rfl (hN _ tn_136)) (fun _ h9 => h9) rfl dX0_learn_15 ?_
    refine va_put (pc := 18) (ci := 0) (v := .int x8) (ty := .int) (C := RX0) (T := TX0) (N := 7) hx hb hts iX0 tyX0 tyX0_ok nmX0 hown hK hP hD hS 0 rfl rfl 2 (by decide) (hts _ tw_316) (fun _ h9 => h9) rfl (by decide +kernel) rfl rfl (Nat.le_of_ble_eq_true rfl) dX0_learn_18 (fun H locs hP hD hS => ?_)
    replace hP : va_P D gcl (zS_95 cB cC cI cJ a0 a2 a3 x8 1 y0 x2 x3 a2 g0 a1 a4 a5 a6 x4 x5 x6 x7 x8 x9 x10 a6 f0 a4 a7 a7 f1 a3 f2) H := hP
    replace hD : va_D A (zS_95 cB cC cI cJ a0 a2 a3 x8 1 y0 x2 x3 a2 g0 a1 a4 a5 a6 x4 x5 x6 x7 x8 x9 x10 a6 f0 a4 a7 a7 f1 a3 f2) := hD
    refine lv_iconst (pc := 21) (v := 0) hx hb dX0_learn_21 (by decide) ?_
    refine lv_istore_n (pc := 22) (lv' := [(2, .int 0), (0, .ref a0), (1, .ref a1)]) hx hb dX0_learn_22 rfl hl (by decide) rfl (fun ls hl => ?_)
    have lp_8 : ∀ (n : Nat) (x_2 : Int32) (f_5 : Nat → Int32) (g_4 : Nat → Int64) (H : Heap) (locs : List Loc) (ls : Array Slot), (0 ≤ x_2.toInt ∧ x_2.toInt ≤ 16) → (x_2.toInt ≤ x8.toInt ∨ x_2.toInt = 0) → (wlQ g_4 f1 f0 x5.toInt x6.toInt x8.toInt x_2.toInt 0) → (2147483647 - x_2.toInt).toNat < n → va_P D gcl (zS_95 cB cC cI cJ a0 a2 a3 x8 1 y0 x2 x3 a2 g_4 a1 a4 a5 a6 x4 x5 x6 x7 x8 x9 x10 a6 f0 a4 a7 a7 f1 a3 f_5) H → va_D A (zS_95 cB cC cI cJ a0 a2 a3 x8 1 y0 x2 x3 a2 g_4 a1 a4 a5 a6 x4 x5 x6 x7 x8 x9 x10 a6 f0 a4 a7 a7 f1 a3 f_5) → va_S A s.heap H locs → lv_has ls 4 [(2, .int x_2), (0, .ref a0), (1, .ref a1)] → W p l e ({ frames := 3, cells := 0, slots := 0, locals := 75 }) s m args below meth c H locs 0 0 Q (F0 m 23 ls []) := by
      intro n
      induction n with
      | zero => intro x_2 f_5 g_4 H locs ls hi_3 hi_6 hi_7 hmu; exact absurd hmu (Nat.not_lt_zero _)
      | succ n ih_lp_8 =>
        intro x_2 f_5 g_4 H locs ls hi_3 hi_6 hi_7 hmu_lp_8 hP hD hS hl
        refine lv_iload_n (pc := 23) hx hb dX0_learn_23 rfl (lv_at hl 0 rfl) ?_
        refine lv_aload_n (pc := 24) hx hb dX0_learn_24 rfl (lv_at hl 1 rfl) ?_
        refine va_get (pc := 25) (ci := 0) (v := .int x8) (C := RX0) (T := TX0) (N := 7) hx hb hts iX0 hown hK hP 0 rfl rfl 2 (by decide) (hts _ tw_316) (fun _ h9 => h9) rfl dX0_learn_25 ?_
        have bd_h_x8 : 0 ≤ x8.toInt ∧ x8.toInt ≤ 16 := h_x8
        refine b_icmp_ge (pc := 28) (tgt := 73) hx hb rfl rfl  dX0_learn_28 (by decide) (fun c_9 => ?_) (fun c_9 => ?_)
        ·
          have k8_0 := tI_1
          exact hret ((fun _ => 0), (fun k => [f_5].getD k (fun _ => 0)), (fun k => [g_4].getD k (fun _ => 0)), (fun k => [x8, 1].getD k 0), (fun _ => 0)) dX0_learn_73 ⟨(show (0 ≤ (x8 : Int32).toInt ∧ (x8 : Int32).toInt ≤ 16) from h_x8), (show (0 ≤ (1 : Int32).toInt ∧ (1 : Int32).toInt ≤ 1) from (n_c tI_1 (by decide))), (show x8.toInt = x8.toInt ∧ wlQ g_4 f1 f0 x5.toInt x6.toInt x8.toInt x8.toInt 0 from kn_end (kn := 0) hi_7 (by first | exact (om_53) | ((first | omega | (unfold zBd at *; omega)))) rfl)⟩ (g_psub (wc := (zS_95 cB cC cI cJ a0 a2 a3 x8 1 y0 x2 x3 a2 g_4 a1 a4 a5 a6 x4 x5 x6 x7 x8 x9 x10 a6 f0 a4 a7 a7 f1 a3 f_5)) hP [0, 1, 2, 3, 4, 5, 6] rfl) (hD.sub (ws' := (zS_95 cB cC cI cJ a0 a2 a3 x8 1 y0 x2 x3 a2 g_4 a1 a4 a5 a6 x4 x5 x6 x7 x8 x9 x10 a6 f0 a4 a7 a7 f1 a3 f_5)) [0, 1, 2, 3, 4, 5, 6] (by decide) rfl) hS
        ·
          refine lv_iload_n (pc := 31) hx hb dX0_learn_31 rfl (lv_at hl 0 rfl) ?_
          refine lv_iconst (pc := 32) (v := 1) hx hb dX0_learn_32 (by decide) ?_
          refine b_iadd (pc := 33) hx hb rfl tI_1 (by first | exact (om_2 hi_3.1) | ((first | omega | (unfold zBd at *; omega)))) (by first | exact (om_940 hi_3.2) | ((first | omega | (unfold zBd at *; omega)))) dX0_learn_33 (fun x_10 ex_10 => ?_)
          refine lv_istore_n (pc := 34) (lv' := [(3, .int x_10), (2, .int x_2), (0, .ref a0), (1, .ref a1)]) hx hb dX0_learn_34 rfl hl (by decide) rfl (fun ls hl => ?_)
          have lp_17 : ∀ (n : Nat) (x_11 : Int32) (f_14 : Nat → Int32) (g_13 : Nat → Int64) (H : Heap) (locs : List Loc) (ls : Array Slot), (0 ≤ x_11.toInt ∧ x_11.toInt ≤ 16) → (x_2.toInt < x_11.toInt ∧ (x_11.toInt ≤ x8.toInt ∨ x_11.toInt = x_2.toInt + 1)) → (wlQ g_13 f1 f0 x5.toInt x6.toInt x8.toInt x_2.toInt x_11.toInt) → (2147483647 - x_11.toInt).toNat < n → va_P D gcl (zS_95 cB cC cI cJ a0 a2 a3 x8 1 y0 x2 x3 a2 g_13 a1 a4 a5 a6 x4 x5 x6 x7 x8 x9 x10 a6 f0 a4 a7 a7 f1 a3 f_14) H → va_D A (zS_95 cB cC cI cJ a0 a2 a3 x8 1 y0 x2 x3 a2 g_13 a1 a4 a5 a6 x4 x5 x6 x7 x8 x9 x10 a6 f0 a4 a7 a7 f1 a3 f_14) → va_S A s.heap H locs → lv_has ls 4 [(3, .int x_11), (2, .int x_2), (0, .ref a0), (1, .ref a1)] → W p l e ({ frames := 3, cells := 0, slots := 0, locals := 75 }) s m args below meth c H locs 0 0 Q (F0 m 35 ls []) := by
            intro n
            induction n with
            | zero => intro x_11 f_14 g_13 H locs ls hi_12 hi_15 hi_16 hmu; exact absurd hmu (Nat.not_lt_zero _)
            | succ n ih_lp_17 =>
              intro x_11 f_14 g_13 H locs ls hi_12 hi_15 hi_16 hmu_lp_17 hP hD hS hl
              refine lv_iload_n (pc := 35) hx hb dX0_learn_35 rfl (lv_at hl 0 rfl) ?_
              refine lv_aload_n (pc := 36) hx hb dX0_learn_36 rfl (lv_at hl 2 rfl) ?_
              refine va_get (pc := 37) (ci := 0) (v := .int x8) (C := RX0) (T := TX0) (N := 7) hx hb hts iX0 hown hK hP 0 rfl rfl 2 (by decide) (hts _ tw_316) (fun _ h9 => h9) rfl dX0_learn_37 ?_
              refine b_icmp_ge (pc := 40) (tgt := 67) hx hb rfl rfl  dX0_learn_40 (by decide) (fun c_18 => ?_) (fun c_18 => ?_)
              ·
                refine b_iinc (pc := 67) hx hb dX0_learn_67 hl (k := 1) rfl rfl tI_1 (by first | exact (om_2 hi_3.1) | ((first | omega | (unfold zBd at *; omega)))) (by first | exact (om_940 hi_3.2) | ((first | omega | (unfold zBd at *; omega)))) (by decide) (fun x_19 ex_19 ls hl => ?_)
                replace hl : lv_has ls 4 [(2, .int x_19), (3, .int x_11), (0, .ref a0), (1, .ref a1)] := hl
                refine lv_goto (pc := 70) (tgt := 23) hx hb dX0_learn_70 (by decide) ?_
                exact ih_lp_8 x_19 f_14 g_13 _ _ ls (by first | exact (om_1110 ex_19 hi_3.1 hi_15.1 hi_12.2) | ((first | omega | (unfold zBd at *; omega)))) (by first | exact (om_344 ex_19 c_9) | ((first | omega | (unfold zBd at *; omega)))) (wl_out hi_16 (by first | exact (om_503 c_18) | ((first | omega | (unfold zBd at *; omega)))) (by first | exact (om_5 ex_19) | ((first | omega | (unfold zBd at *; omega)))) (by first | exact (om_1178) | ((first | omega | (unfold zBd at *; omega))))) (by (first | omega | (unfold zBd at *; omega))) hP hD hS (lv_sub hl [0, 2, 3] rfl)
              ·
                refine lv_aload_n (pc := 43) hx hb dX0_learn_43 rfl (lv_at hl 2 rfl) ?_
                refine va_get (pc := 44) (ci := 0) (v := .ref a2) (C := RX0) (T := TX0) (N := 7) hx hb hts iX0 hown hK hP 0 rfl rfl 0 (by decide) (hts _ tw_314) (fun _ h9 => h9) rfl dX0_learn_44 ?_
                refine lv_iload_n (pc := 47) hx hb dX0_learn_47 rfl (lv_at hl 1 rfl) ?_
                refine lv_bipush (pc := 48) (v := 16) hx hb dX0_learn_48 (by decide) ?_
                refine b_imul (pc := 50) hx hb rfl tI_16 (by first | exact (om_1179 hi_3.1) | ((first | omega | (unfold zBd at *; omega)))) (by first | exact (om_1180 hi_3.2) | ((first | omega | (unfold zBd at *; omega)))) dX0_learn_50 (fun x_20 ex_20 => ?_)
                refine lv_iload_n (pc := 51) hx hb dX0_learn_51 rfl (lv_at hl 0 rfl) ?_
                refine b_iadd (pc := 52) hx hb rfl rfl (by first | exact (om_1181 ex_20 hi_12.1 hi_3.1) | ((first | omega | (unfold zBd at *; omega)))) (by first | exact (om_1182 ex_20 hi_15.1 hi_12.2) | ((first | omega | (unfold zBd at *; omega)))) dX0_learn_52 (fun x_21 ex_21 => ?_)
                refine lv_aload_n (pc := 53) hx hb dX0_learn_53 rfl (lv_at hl 2 rfl) ?_
                refine lv_aload_n (pc := 54) hx hb dX0_learn_54 rfl (lv_at hl 3 rfl) ?_
                refine lv_iload_n (pc := 55) hx hb dX0_learn_55 rfl (lv_at hl 1 rfl) ?_
                refine lv_iload_n (pc := 56) hx hb dX0_learn_56 rfl (lv_at hl 0 rfl) ?_
                refine gd_l (pc := 57) (wc := (zS_112 cB cC cI cJ a0 a2 a3 x8 1 y0 x2 x3 a3 f_14 a1 a4 a5 a6 x4 x5 x6 x7 x8 x9 x10 a6 f0 a4 a7 a7 f1)) hP hD hS hA [0, 6, 2, 3, 4, 5] rfl (by decide +kernel) (fun _ => by rfl) (fun hPc hDc => va_runV (As := [.ref a1, .int x_2, .int x_11]) (rest := [.int x_21, .ref a2]) ⟨hx, hb, hml, hown, hts⟩ (k_X0_worthOfPair l D cB cC cI cJ _ a0 a1 a2 a3 a4 a5 a6 a7 x_2 x_11 x8 1 x2 x3 x4 x5 x6 x7 x8 x9 x10 y0 f_14 f0 f1 (by first | exact (om_1112 hi_3.1 c_9 h_x8.2) | (have k0 := tI_1; (first | omega | (unfold zBd at *; omega)))) (by first | exact (om_1112 hi_12.1 c_18 h_x8.2) | (have k0 := tI_1; (first | omega | (unfold zBd at *; omega)))) h_x8 (n_c tI_1 (by decide)) h_x2 h_x4 h_x5 h_x6 h_x7 h_x8 hf_f0) ⟨gcwB hts tw_1199 tw_11 tw_1196 hd_yX0_worthOfPair ⟨Nat.le_of_ble_eq_true rfl, Nat.le_of_ble_eq_true rfl⟩, hts _ tw_1198, hts _ tp_46⟩ ⟨gblind, va_recv hK hPc (ci := 0) (q0 := 0) rfl rfl, (gpreS hPc hK hDc hN).2⟩ rfl rfl hl.1 rfl (lv_room (Nat.le_of_ble_eq_true rfl)) dX0_learn_57 ⟨Nat.le_of_ble_eq_true rfl, Nat.le_of_ble_eq_true rfl⟩) (fun r_23 u_22 H locs hw_24 hP hD hS => ?_)
                replace hP : va_P D gcl (zS_95 cB cC cI cJ a0 a2 a3 x8 1 y0 x2 x3 a2 g_13 a1 a4 a5 a6 x4 x5 x6 x7 x8 x9 x10 a6 f0 a4 a7 a7 f1 a3 (u_22.2.1 0)) H := hP
                replace hD : va_D A (zS_95 cB cC cI cJ a0 a2 a3 x8 1 y0 x2 x3 a2 g_13 a1 a4 a5 a6 x4 x5 x6 x7 x8 x9 x10 a6 f0 a4 a7 a7 f1 a3 (u_22.2.1 0)) := hD
                have hw_25 : (r_23 = pX9 f1 f0 x5.toInt x6.toInt x_2.toInt x_11.toInt) := hw_24
                have kk0_r_23 := tI_1
                have rr_23 := n_rngL r_23
                refine e_lastore (pc := 60) hx hb hK hP hD hS 1 3 rfl rfl (n_in rfl (by first | exact (om_1183 ex_21 ex_20 hi_12.1 hi_3.1) | ((first | omega | (unfold zBd at *; omega)))) (by first | exact (om_1184 ex_21 ex_20 c_18 c_9 h_x8.2) | ((first | omega | (unfold zBd at *; omega))))) dX0_learn_60 (fun g_26 eg_26 H locs hP hD hS => ?_)
                replace hP : va_P D gcl (zS_95 cB cC cI cJ a0 a2 a3 x8 1 y0 x2 x3 a2 g_26 a1 a4 a5 a6 x4 x5 x6 x7 x8 x9 x10 a6 f0 a4 a7 a7 f1 a3 (u_22.2.1 0)) H := hP
                replace hD : va_D A (zS_95 cB cC cI cJ a0 a2 a3 x8 1 y0 x2 x3 a2 g_26 a1 a4 a5 a6 x4 x5 x6 x7 x8 x9 x10 a6 f0 a4 a7 a7 f1 a3 (u_22.2.1 0)) := hD
                refine b_iinc (pc := 61) hx hb dX0_learn_61 hl (k := 0) rfl rfl tI_1 (by first | exact (om_2 hi_12.1) | ((first | omega | (unfold zBd at *; omega)))) (by first | exact (om_940 hi_12.2) | ((first | omega | (unfold zBd at *; omega)))) (by decide) (fun x_27 ex_27 ls hl => ?_)
                replace hl : lv_has ls 4 [(3, .int x_27), (2, .int x_2), (0, .ref a0), (1, .ref a1)] := hl
                refine lv_goto (pc := 64) (tgt := 35) hx hb dX0_learn_64 (by decide) ?_
                exact ih_lp_17 x_27 (u_22.2.1 0) g_26 _ _ ls (by first | exact (om_1110 ex_27 hi_12.1 c_18 h_x8.2) | ((first | omega | (unfold zBd at *; omega)))) (by first | exact (om_1028 ex_27 hi_15.1 c_18) | ((first | omega | (unfold zBd at *; omega)))) (wl_put hi_16 eg_26 (by (first | omega | (unfold zBd at *; omega))) hw_25 (by first | exact (om_0 hi_3.1) | ((first | omega | (unfold zBd at *; omega)))) (by first | exact (om_1185 hi_15.1 c_18 h_x8.2) | ((first | omega | (unfold zBd at *; omega)))) (by first | exact (om_1186 h_x8.2) | ((first | omega | (unfold zBd at *; omega)))) (by first | exact (om_5 ex_27) | ((first | omega | (unfold zBd at *; omega))))) (by (first | omega | (unfold zBd at *; omega))) hP hD hS (lv_sub hl [0, 1, 2, 3] rfl)
          exact lp_17 _ x_10 f_5 g_4 _ _ ls (by first | exact (om_1110 ex_10 hi_3.1 c_9 h_x8.2) | ((first | omega | (unfold zBd at *; omega)))) (by have q := tI_0; (first | omega | (unfold zBd at *; omega))) (wl_in hi_7 (by first | exact (om_1187 ex_10) | ((first | omega | (unfold zBd at *; omega))))) (Nat.lt_succ_self _) hP hD hS (lv_sub hl [0, 1, 2, 3] rfl)
    exact lp_8 _ 0 f2 g0 _ _ ls (n_c tI_0 (by decide)) (by have q := tI_0; (first | omega | (unfold zBd at *; omega))) (wl_0 tI_0 (by first | exact (om_1178) | ((first | omega | (unfold zBd at *; omega))))) (Nat.lt_succ_self _) hP hD hS (lv_sub hl [0, 1, 2] rfl)
  ·
    exact hret ((fun _ => 0), (fun k => [f2].getD k (fun _ => 0)), (fun k => [g0].getD k (fun _ => 0)), (fun k => [x0, x1].getD k 0), (fun _ => 0)) dX0_learn_7 ⟨(show (0 ≤ (x0 : Int32).toInt ∧ (x0 : Int32).toInt ≤ 16) from h_x0), (show (0 ≤ (x1 : Int32).toInt ∧ (x1 : Int32).toInt ≤ 1) from h_x1), (show x0.toInt = x8.toInt ∧ wlQ g0 f1 f0 x5.toInt x6.toInt x8.toInt x8.toInt 0 from kn_yes hg_kn (by first | exact (om_34 c_1) | ((first | omega | (unfold zBd at *; omega)))))⟩ (g_psub (wc := (zS_95 cB cC cI cJ a0 a2 a3 x0 x1 y0 x2 x3 a2 g0 a1 a4 a5 a6 x4 x5 x6 x7 x8 x9 x10 a6 f0 a4 a7 a7 f1 a3 f2)) hP [0, 1, 2, 3, 4, 5, 6] rfl) (hD.sub (ws' := (zS_95 cB cC cI cJ a0 a2 a3 x0 x1 y0 x2 x3 a2 g0 a1 a4 a5 a6 x4 x5 x6 x7 x8 x9 x10 a6 f0 a4 a7 a7 f1 a3 f2)) [0, 1, 2, 3, 4, 5, 6] (by decide) rfl) hS
theorem om_1188 {a : Int} (h0 : (a ≤ 15)) : (a * 16 ≤ 2147483647) := by omega
theorem om_1189 {a b c : Int} (h0 : (a = c * 16)) (h1 : (b ≤ 15)) (h2 : (c ≤ 15)) : (a + b ≤ 2147483647) := by omega
theorem om_1190 {a b c d : Int} (h0 : (a = b + c)) (h1 : (b = d * 16)) (h2 : (c ≤ 15)) (h3 : (d ≤ 15)) : (a < (256 : Nat)) := by omega
theorem om_1191 {a : Int} : (a ≤ a + 1) := by omega
theorem om_1192 {a : Int} (h0 : (a ≤ 240)) : (a + 1 ≤ 2147483647) := by omega
theorem om_1193 {a b : Int} (h0 : (a = b + 1)) (h1 : (0 ≤ b)) (h2 : (b ≤ 240)) : ((0 ≤ a ∧ a ≤ 256)) := by omega
theorem om_1194 {a : Int} (h0 : (a ≤ 15)) : (100 * a ≤ 2147483647) := by omega
theorem om_1195 {a b c : Int} (h0 : (a = 100 * c)) (h1 : (b ≤ 15)) (h2 : (c ≤ 15)) : (a + b ≤ 2147483647) := by omega
theorem om_1196 {a : Int} : (¬ (¬ a = a)) := by omega
theorem om_1197 {a b : Int} (h0 : (0 ≤ b)) (h1 : (a = 1)) : (a ≤ b + 1) := by omega
set_option maxHeartbeats 4000000 in
set_option maxRecDepth 100000 in
theorem k_X0_weighPair (l : Launch) (D : va_G) (cB cC cI cJ : ClassId) (sz : Nat) (a0 a1 a2 : Nat) (x0 x1 x2 x3 x4 x5 : Int32) (y0 : Int64) (g0 : Nat → Int64) (hp1 : (0 ≤ x0.toInt ∧ x0.toInt ≤ 15)) (hp2 : (0 ≤ x1.toInt ∧ x1.toInt ≤ 15)) (h_x2 : zBd x2.toInt 0 16) (h_x3 : zBd x3.toInt 0 1) (h_x4 : zBd x4.toInt 0 256) (hg__lp : x4.toInt ≤ 240) : Met l yX0_weighPair (.code yX0_weighPair cX0_weighPair 5 none :: lw_gd) ({ frames := 0, cells := 0, slots := 0, locals := 0 }) (gPre D [(cB, .byte), (cC, .char), (cI, .int), (cJ, .long)] [.ref a0, .int x0, .int x1] (zS_47 cB cC cI cJ a0 a1 a2 x2 x3 y0 x4 x5 a1 g0) sz) (va_Qv (fun u => (0 ≤ (u.2.2.2.1 0).toInt ∧ (u.2.2.2.1 0).toInt ≤ 256) ∧ (wgQ (wrC g0 x0.toInt x1.toInt) y0.toInt x4.toInt x5.toInt (u.2.2.2.2 0).toInt (u.2.2.2.1 0).toInt (u.2.2.2.1 1).toInt x0.toInt x1.toInt) ∧ ((u.2.2.2.1 0).toInt ≤ x4.toInt + 1)) (gB D (va_A (zS_47 cB cC cI cJ a0 a1 a2 x2 x3 y0 x4 x5 a1 g0) sz) (fun u : gEx => (zS_47 cB cC cI cJ a0 a1 a2 x2 x3 (u.2.2.2.2 0) (u.2.2.2.1 0) (u.2.2.2.1 1) a1 g0))) (va_A (zS_47 cB cC cI cJ a0 a1 a2 x2 x3 y0 x4 x5 a1 g0) sz)) 0 0 (va_A (zS_47 cB cC cI cJ a0 a1 a2 x2 x3 y0 x4 x5 a1 g0) sz) := by
  refine gOf_v (by decide +kernel) (Nat.le_of_ble_eq_true rfl) ?_
  intro p e s m args below meth c ls A Q hx hb hts hown hml hN hK hP hD hA hl hret
  replace hown : s.vm.findClass RX0 = some m.cls := hown
  have hS : va_S A s.heap s.heap [] := va_S.rf
  replace hP : va_P D gcl (zS_47 cB cC cI cJ a0 a1 a2 x2 x3 y0 x4 x5 a1 g0) s.heap := hP
  replace hl : lv_has ls 5 [(0, .ref a0), (1, .int x0), (2, .int x1)] := hl
  have ry0 := n_rngL y0
  have rx5 : zBd x5.toInt (-2147483648) 2147483647 := n_rng x5
  refine lv_aload_n (pc := 0) hx hb dX0_weighPair_0 rfl (lv_at hl 0 rfl) ?_
  refine va_get (pc := 1) (ci := 0) (v := .ref a1) (C := RX0) (T := TX0) (N := 7) hx hb hts iX0 hown hK hP 0 rfl rfl 0 (by decide) (hts _ tw_314) (fun _ h9 => h9) rfl dX0_weighPair_1 ?_
  refine lv_iload_n (pc := 4) hx hb dX0_weighPair_4 rfl (lv_at hl 1 rfl) ?_
  refine lv_bipush (pc := 5) (v := 16) hx hb dX0_weighPair_5 (by decide) ?_
  refine b_imul (pc := 7) hx hb rfl tI_16 (by first | exact (om_1179 hp1.1) | ((first | omega | (unfold zBd at *; omega)))) (by first | exact (om_1188 hp1.2) | ((first | omega | (unfold zBd at *; omega)))) dX0_weighPair_7 (fun x_1 ex_1 => ?_)
  refine lv_iload_n (pc := 8) hx hb dX0_weighPair_8 rfl (lv_at hl 2 rfl) ?_
  refine b_iadd (pc := 9) hx hb rfl rfl (by first | exact (om_1181 ex_1 hp2.1 hp1.1) | ((first | omega | (unfold zBd at *; omega)))) (by first | exact (om_1189 ex_1 hp2.2 hp1.2) | ((first | omega | (unfold zBd at *; omega)))) dX0_weighPair_9 (fun x_2 ex_2 => ?_)
  refine va_lald (pc := 10) hx hb hK hP 1 3 rfl rfl (n_in rfl (by first | exact (om_1183 ex_2 ex_1 hp2.1 hp1.1) | ((first | omega | (unfold zBd at *; omega)))) (by first | exact (om_1190 ex_2 ex_1 hp2.2 hp1.2) | ((first | omega | (unfold zBd at *; omega))))) dX0_weighPair_10 ?_
  refine lv_topl (fun y_3 ey_3 => ?_)
  have ry_3 := n_rngL y_3
  replace ey_3 : y_3 = g0 (x_2.toInt).toNat := ey_3
  have ty_3 := congrArg Int64.toInt ey_3
  refine lv_lstore_n (pc := 11) (lv' := [(3, .long y_3), (0, .ref a0), (1, .int x0), (2, .int x1)]) hx hb dX0_weighPair_11 rfl hl (by decide) rfl (fun ls hl => ?_)
  refine lv_lload_n (pc := 12) hx hb dX0_weighPair_12 rfl (lv_at hl 0 rfl) ?_
  refine lv_aload_n (pc := 13) hx hb dX0_weighPair_13 rfl (lv_at hl 1 rfl) ?_
  refine va_get (pc := 14) (ci := 0) (v := .long y0) (C := RX0) (T := TX0) (N := 7) hx hb hts iX0 hown hK hP 0 rfl rfl 4 (by decide) (hts _ tw_318) (fun _ h9 => h9) rfl dX0_weighPair_14 ?_
  refine b_lcmp_ge (pc := 17) (tgt := 41) hx hb rfl rfl dX0_weighPair_17 dX0_weighPair_18 (by decide) (fun c_4 => ?_) (fun c_4 => ?_)
  ·
    refine lv_lload_n (pc := 41) hx hb dX0_weighPair_41 rfl (lv_at hl 0 rfl) ?_
    refine lv_aload_n (pc := 42) hx hb dX0_weighPair_42 rfl (lv_at hl 1 rfl) ?_
    refine va_get (pc := 43) (ci := 0) (v := .long y0) (C := RX0) (T := TX0) (N := 7) hx hb hts iX0 hown hK hP 0 rfl rfl 4 (by decide) (hts _ tw_318) (fun _ h9 => h9) rfl dX0_weighPair_43 ?_
    refine b_lcmp_ne (pc := 46) (tgt := 60) hx hb rfl rfl dX0_weighPair_46 dX0_weighPair_47 (by decide) (fun c_5 => ?_) (fun c_5 => ?_)
    ·
      exact hret ((fun _ => 0), (fun _ => (fun _ => 0)), (fun _ => (fun _ => 0)), (fun k => [x4, x5].getD k 0), (fun k => [y0].getD k 0)) dX0_weighPair_60 ⟨(show (0 ≤ (x4 : Int32).toInt ∧ (x4 : Int32).toInt ≤ 256) from h_x4), (show wgQ (wrC g0 x0.toInt x1.toInt) y0.toInt x4.toInt x5.toInt y0.toInt x4.toInt x5.toInt x0.toInt x1.toInt from (by have q := wr_e (a := x0.toInt) (b := x1.toInt) ey_3 (by (first | omega | (unfold zBd at *; omega))); unfold wgQ; (first | omega | (unfold zBd at *; omega)))), (show x4.toInt ≤ x4.toInt + 1 from (by first | exact (om_1191) | ((first | omega | (unfold zBd at *; omega)))))⟩ (g_psub (wc := (zS_47 cB cC cI cJ a0 a1 a2 x2 x3 y0 x4 x5 a1 g0)) hP [0, 1] rfl) (hD.sub (ws' := (zS_47 cB cC cI cJ a0 a1 a2 x2 x3 y0 x4 x5 a1 g0)) [0, 1] (by decide) rfl) hS
    ·
      refine lv_aload_n (pc := 50) hx hb dX0_weighPair_50 rfl (lv_at hl 1 rfl) ?_
      refine lv_dup (pc := 51) hx hb dX0_weighPair_51 rfl ?_
      refine va_get (pc := 52) (ci := 0) (v := .int x4) (C := RX0) (T := TX0) (N := 7) hx hb hts iX0 hown hK hP 0 rfl rfl 5 (by decide) (hts _ tw_320) (fun _ h9 => h9) rfl dX0_weighPair_52 ?_
      have bd_h_x4 : 0 ≤ x4.toInt ∧ x4.toInt ≤ 256 := h_x4
      refine lv_iconst (pc := 55) (v := 1) hx hb dX0_weighPair_55 (by decide) ?_
      refine b_iadd (pc := 56) hx hb rfl tI_1 (by first | exact (om_2 h_x4.1) | ((first | omega | (unfold zBd at *; omega)))) (by first | exact (om_1192 hg__lp) | ((first | omega | (unfold zBd at *; omega)))) dX0_weighPair_56 (fun x_6 ex_6 => ?_)
      refine va_put (pc := 57) (ci := 0) (v := .int x_6) (ty := .int) (C := RX0) (T := TX0) (N := 7) hx hb hts iX0 tyX0 tyX0_ok nmX0 hown hK hP hD hS 0 rfl rfl 5 (by decide) (hts _ tw_320) (fun _ h9 => h9) rfl (by decide +kernel) rfl rfl (Nat.le_of_ble_eq_true rfl) dX0_weighPair_57 (fun H locs hP hD hS => ?_)
      replace hP : va_P D gcl (zS_47 cB cC cI cJ a0 a1 a2 x2 x3 y0 x_6 x5 a1 g0) H := hP
      replace hD : va_D A (zS_47 cB cC cI cJ a0 a1 a2 x2 x3 y0 x_6 x5 a1 g0) := hD
      exact hret ((fun _ => 0), (fun _ => (fun _ => 0)), (fun _ => (fun _ => 0)), (fun k => [x_6, x5].getD k 0), (fun k => [y0].getD k 0)) dX0_weighPair_60 ⟨(show (0 ≤ (x_6 : Int32).toInt ∧ (x_6 : Int32).toInt ≤ 256) from (by first | exact (om_1193 ex_6 h_x4.1 hg__lp) | ((first | omega | (unfold zBd at *; omega))))), (show wgQ (wrC g0 x0.toInt x1.toInt) y0.toInt x4.toInt x5.toInt y0.toInt x_6.toInt x5.toInt x0.toInt x1.toInt from (by have q := wr_e (a := x0.toInt) (b := x1.toInt) ey_3 (by (first | omega | (unfold zBd at *; omega))); unfold wgQ; (first | omega | (unfold zBd at *; omega)))), (show x_6.toInt ≤ x4.toInt + 1 from (by first | exact (om_1187 ex_6) | ((first | omega | (unfold zBd at *; omega)))))⟩ (g_psub (wc := (zS_47 cB cC cI cJ a0 a1 a2 x2 x3 y0 x_6 x5 a1 g0)) hP [0, 1] rfl) (hD.sub (ws' := (zS_47 cB cC cI cJ a0 a1 a2 x2 x3 y0 x_6 x5 a1 g0)) [0, 1] (by decide) rfl) hS
  ·
    refine lv_aload_n (pc := 21) hx hb dX0_weighPair_21 rfl (lv_at hl 1 rfl) ?_
    refine lv_lload_n (pc := 22) hx hb dX0_weighPair_22 rfl (lv_at hl 0 rfl) ?_
    refine va_put (pc := 23) (ci := 0) (v := .long y_3) (ty := .long) (C := RX0) (T := TX0) (N := 7) hx hb hts iX0 tyX0 tyX0_ok nmX0 hown hK hP hD hS 0 rfl rfl 4 (by decide) (hts _ tw_318) (fun _ h9 => h9) rfl (by decide +kernel) rfl rfl (Nat.le_of_ble_eq_true rfl) dX0_weighPair_23 (fun H locs hP hD hS => ?_)
    replace hP : va_P D gcl (zS_47 cB cC cI cJ a0 a1 a2 x2 x3 y_3 x4 x5 a1 g0) H := hP
    replace hD : va_D A (zS_47 cB cC cI cJ a0 a1 a2 x2 x3 y_3 x4 x5 a1 g0) := hD
    refine lv_aload_n (pc := 26) hx hb dX0_weighPair_26 rfl (lv_at hl 1 rfl) ?_
    refine lv_iconst (pc := 27) (v := 0) hx hb dX0_weighPair_27 (by decide) ?_
    refine va_put (pc := 28) (ci := 0) (v := .int 0) (ty := .int) (C := RX0) (T := TX0) (N := 7) hx hb hts iX0 tyX0 tyX0_ok nmX0 hown hK hP hD hS 0 rfl rfl 5 (by decide) (hts _ tw_320) (fun _ h9 => h9) rfl (by decide +kernel) (by decide +kernel) (by decide +kernel) (Nat.le_of_ble_eq_true rfl) dX0_weighPair_28 (fun H locs hP hD hS => ?_)
    replace hP : va_P D gcl (zS_47 cB cC cI cJ a0 a1 a2 x2 x3 y_3 0 x5 a1 g0) H := hP
    replace hD : va_D A (zS_47 cB cC cI cJ a0 a1 a2 x2 x3 y_3 0 x5 a1 g0) := hD
    refine lv_aload_n (pc := 31) hx hb dX0_weighPair_31 rfl (lv_at hl 1 rfl) ?_
    refine lv_bipush (pc := 32) (v := 100) hx hb dX0_weighPair_32 (by decide) ?_
    refine lv_iload_n (pc := 34) hx hb dX0_weighPair_34 rfl (lv_at hl 2 rfl) ?_
    refine b_imul (pc := 35) hx hb tI_100 rfl (by first | exact (om_1031 hp1.1) | ((first | omega | (unfold zBd at *; omega)))) (by first | exact (om_1194 hp1.2) | ((first | omega | (unfold zBd at *; omega)))) dX0_weighPair_35 (fun x_7 ex_7 => ?_)
    refine lv_iload_n (pc := 36) hx hb dX0_weighPair_36 rfl (lv_at hl 3 rfl) ?_
    refine b_iadd (pc := 37) hx hb rfl rfl (by first | exact (om_1033 ex_7 hp2.1 hp1.1) | ((first | omega | (unfold zBd at *; omega)))) (by first | exact (om_1195 ex_7 hp2.2 hp1.2) | ((first | omega | (unfold zBd at *; omega)))) dX0_weighPair_37 (fun x_8 ex_8 => ?_)
    refine va_put (pc := 38) (ci := 0) (v := .int x_8) (ty := .int) (C := RX0) (T := TX0) (N := 7) hx hb hts iX0 tyX0 tyX0_ok nmX0 hown hK hP hD hS 0 rfl rfl 6 (by decide) (hts _ tw_322) (fun _ h9 => h9) rfl (by decide +kernel) rfl rfl (Nat.le_of_ble_eq_true rfl) dX0_weighPair_38 (fun H locs hP hD hS => ?_)
    replace hP : va_P D gcl (zS_47 cB cC cI cJ a0 a1 a2 x2 x3 y_3 0 x_8 a1 g0) H := hP
    replace hD : va_D A (zS_47 cB cC cI cJ a0 a1 a2 x2 x3 y_3 0 x_8 a1 g0) := hD
    refine lv_lload_n (pc := 41) hx hb dX0_weighPair_41 rfl (lv_at hl 0 rfl) ?_
    refine lv_aload_n (pc := 42) hx hb dX0_weighPair_42 rfl (lv_at hl 1 rfl) ?_
    refine va_get (pc := 43) (ci := 0) (v := .long y_3) (C := RX0) (T := TX0) (N := 7) hx hb hts iX0 hown hK hP 0 rfl rfl 4 (by decide) (hts _ tw_318) (fun _ h9 => h9) rfl dX0_weighPair_43 ?_
    refine b_lcmp_ne (pc := 46) (tgt := 60) hx hb rfl rfl dX0_weighPair_46 dX0_weighPair_47 (by decide) (fun c_9 => absurd c_9 (by first | exact (om_1196) | ((first | omega | (unfold zBd at *; omega))))) (fun c_9 => ?_)
    refine lv_aload_n (pc := 50) hx hb dX0_weighPair_50 rfl (lv_at hl 1 rfl) ?_
    refine lv_dup (pc := 51) hx hb dX0_weighPair_51 rfl ?_
    refine va_get (pc := 52) (ci := 0) (v := .int 0) (C := RX0) (T := TX0) (N := 7) hx hb hts iX0 hown hK hP 0 rfl rfl 5 (by decide) (hts _ tw_320) (fun _ h9 => h9) rfl dX0_weighPair_52 ?_
    refine lv_iconst (pc := 55) (v := 1) hx hb dX0_weighPair_55 (by decide) ?_
    refine lv_iadd (pc := 56) hx hb dX0_weighPair_56 ?_
    refine gI (y := 1) (by decide +kernel) ?_
    refine va_put (pc := 57) (ci := 0) (v := .int 1) (ty := .int) (C := RX0) (T := TX0) (N := 7) hx hb hts iX0 tyX0 tyX0_ok nmX0 hown hK hP hD hS 0 rfl rfl 5 (by decide) (hts _ tw_320) (fun _ h9 => h9) rfl (by decide +kernel) (by decide +kernel) (by decide +kernel) (Nat.le_of_ble_eq_true rfl) dX0_weighPair_57 (fun H locs hP hD hS => ?_)
    replace hP : va_P D gcl (zS_47 cB cC cI cJ a0 a1 a2 x2 x3 y_3 1 x_8 a1 g0) H := hP
    replace hD : va_D A (zS_47 cB cC cI cJ a0 a1 a2 x2 x3 y_3 1 x_8 a1 g0) := hD
    have k8_0 := tI_1
    exact hret ((fun _ => 0), (fun _ => (fun _ => 0)), (fun _ => (fun _ => 0)), (fun k => [1, x_8].getD k 0), (fun k => [y_3].getD k 0)) dX0_weighPair_60 ⟨(show (0 ≤ (1 : Int32).toInt ∧ (1 : Int32).toInt ≤ 256) from (n_c tI_1 (by decide))), (show wgQ (wrC g0 x0.toInt x1.toInt) y0.toInt x4.toInt x5.toInt y_3.toInt (1 : Int32).toInt x_8.toInt x0.toInt x1.toInt from (by have q := wr_e (a := x0.toInt) (b := x1.toInt) ey_3 (by (first | omega | (unfold zBd at *; omega))); unfold wgQ; (first | omega | (unfold zBd at *; omega)))), (show (1 : Int32).toInt ≤ x4.toInt + 1 from (by first | exact (om_1197 h_x4.1 tI_1) | (have k8_0 := tI_1; (first | omega | (unfold zBd at *; omega)))))⟩ (g_psub (wc := (zS_47 cB cC cI cJ a0 a1 a2 x2 x3 y_3 1 x_8 a1 g0)) hP [0, 1] rfl) (hD.sub (ws' := (zS_47 cB cC cI cJ a0 a1 a2 x2 x3 y_3 1 x_8 a1 g0)) [0, 1] (by decide) rfl) hS
theorem om_1198 {a b c d : Int} (h0 : (b = c + 1)) (h1 : (a ≤ 16 * c + d)) (h2 : (d ≤ 16)) : ((a ≤ 16 * b)) := by omega
theorem om_1199 {a b c d : Int} (h0 : (c = d + 1)) (h1 : (a ≤ 16 * b + d)) : ((a ≤ 16 * b + c)) := by omega
theorem om_1200 {a b c d : Int} (h0 : (a ≤ 16 * b + c)) (h1 : (c < d)) (h2 : (b < c)) (h3 : (d ≤ 16)) : (a ≤ 240) := by omega
theorem om_1201 {a b c d e : Int} (h0 : (c = d + 1)) (h1 : (a ≤ e + 1)) (h2 : (e ≤ 16 * b + d)) : ((a ≤ 16 * b + c)) := by omega
theorem om_1202 {a b : Int} (h0 : (a < b)) (h1 : (b ≤ 16)) : (a < 16) := by omega
set_option maxHeartbeats 4000000 in
set_option maxRecDepth 100000 in
theorem k_X0_findLeast (l : Launch) (D : va_G) (cB cC cI cJ : ClassId) (sz : Nat) (a0 a1 a2 : Nat) (x0 x1 x2 x3 x4 : Int32) (y0 : Int64) (g0 : Nat → Int64) (h_x1 : zBd x1.toInt 0 16) (h_x2 : zBd x2.toInt 0 1) (h_x3 : zBd x3.toInt 0 256) : Met l yX0_findLeast (.code yX0_findLeast cX0_findLeast 4 none :: lw_gd) ({ frames := 1, cells := 0, slots := 0, locals := 24 }) (gPre D [(cB, .byte), (cC, .char), (cI, .int), (cJ, .long)] [.ref a0, .int x0] (zS_47 cB cC cI cJ a0 a1 a2 x1 x2 y0 x3 x4 a1 g0) sz) (va_Qv (fun u => (0 ≤ (u.2.2.2.1 0).toInt ∧ (u.2.2.2.1 0).toInt ≤ 256) ∧ (flE (flX (wrC g0) x1.toInt x0.toInt (1000000000000000, 0, x4.toInt)) (u.2.2.2.2 0).toInt (u.2.2.2.1 0).toInt (u.2.2.2.1 1).toInt (16 * x1.toInt))) (gB D (va_A (zS_47 cB cC cI cJ a0 a1 a2 x1 x2 y0 x3 x4 a1 g0) sz) (fun u : gEx => (zS_47 cB cC cI cJ a0 a1 a2 x1 x2 (u.2.2.2.2 0) (u.2.2.2.1 0) (u.2.2.2.1 1) a1 g0))) (va_A (zS_47 cB cC cI cJ a0 a1 a2 x1 x2 y0 x3 x4 a1 g0) sz)) 0 0 (va_A (zS_47 cB cC cI cJ a0 a1 a2 x1 x2 y0 x3 x4 a1 g0) sz) := by
  refine gOf_v (by decide +kernel) (Nat.le_of_ble_eq_true rfl) ?_
  intro p e s m args below meth c ls A Q hx hb hts hown hml hN hK hP hD hA hl hret
  replace hown : s.vm.findClass RX0 = some m.cls := hown
  have hS : va_S A s.heap s.heap [] := va_S.rf
  replace hP : va_P D gcl (zS_47 cB cC cI cJ a0 a1 a2 x1 x2 y0 x3 x4 a1 g0) s.heap := hP
  replace hl : lv_has ls 4 [(0, .ref a0), (1, .int x0)] := hl
  have rx0 : zBd x0.toInt (-2147483648) 2147483647 := n_rng x0
  have ry0 := n_rngL y0
  have rx4 : zBd x4.toInt (-2147483648) 2147483647 := n_rng x4
  refine lv_aload_n (pc := 0) hx hb dX0_findLeast_0 rfl (lv_at hl 0 rfl) ?_
  refine lv_ldc2 (pc := 1) hx hb hown (hts _ tw_1206) dX0_findLeast_1 ?_
  refine va_put (pc := 4) (ci := 0) (v := .long 1000000000000000) (ty := .long) (C := RX0) (T := TX0) (N := 7) hx hb hts iX0 tyX0 tyX0_ok nmX0 hown hK hP hD hS 0 rfl rfl 4 (by decide) (hts _ tw_318) (fun _ h9 => h9) rfl (by decide +kernel) (by decide +kernel) (by decide +kernel) (Nat.le_of_ble_eq_true rfl) dX0_findLeast_4 (fun H locs hP hD hS => ?_)
  replace hP : va_P D gcl (zS_47 cB cC cI cJ a0 a1 a2 x1 x2 1000000000000000 x3 x4 a1 g0) H := hP
  replace hD : va_D A (zS_47 cB cC cI cJ a0 a1 a2 x1 x2 1000000000000000 x3 x4 a1 g0) := hD
  refine lv_aload_n (pc := 7) hx hb dX0_findLeast_7 rfl (lv_at hl 0 rfl) ?_
  refine lv_iconst (pc := 8) (v := 0) hx hb dX0_findLeast_8 (by decide) ?_
  refine va_put (pc := 9) (ci := 0) (v := .int 0) (ty := .int) (C := RX0) (T := TX0) (N := 7) hx hb hts iX0 tyX0 tyX0_ok nmX0 hown hK hP hD hS 0 rfl rfl 5 (by decide) (hts _ tw_320) (fun _ h9 => h9) rfl (by decide +kernel) (by decide +kernel) (by decide +kernel) (Nat.le_of_ble_eq_true rfl) dX0_findLeast_9 (fun H locs hP hD hS => ?_)
  replace hP : va_P D gcl (zS_47 cB cC cI cJ a0 a1 a2 x1 x2 1000000000000000 0 x4 a1 g0) H := hP
  replace hD : va_D A (zS_47 cB cC cI cJ a0 a1 a2 x1 x2 1000000000000000 0 x4 a1 g0) := hD
  refine lv_iconst (pc := 12) (v := 0) hx hb dX0_findLeast_12 (by decide) ?_
  refine lv_istore_n (pc := 13) (lv' := [(2, .int 0), (0, .ref a0), (1, .int x0)]) hx hb dX0_findLeast_13 rfl hl (by decide) rfl (fun ls hl => ?_)
  have lp_12 : ∀ (n : Nat) (x_1 x_5 x_7 : Int32) (y_3 : Int64) (H : Heap) (locs : List Loc) (ls : Array Slot), (0 ≤ x_1.toInt ∧ x_1.toInt ≤ 16) → (0 ≤ x_5.toInt ∧ x_5.toInt ≤ 256) → (x_1.toInt ≤ x1.toInt ∨ x_1.toInt = 0) → (x_5.toInt ≤ 16 * x_1.toInt) → (flE (flX (wrC g0) x1.toInt x0.toInt (1000000000000000, 0, x4.toInt)) y_3.toInt x_5.toInt x_7.toInt (16 * x_1.toInt)) → (2147483647 - x_1.toInt).toNat < n → va_P D gcl (zS_47 cB cC cI cJ a0 a1 a2 x1 x2 y_3 x_5 x_7 a1 g0) H → va_D A (zS_47 cB cC cI cJ a0 a1 a2 x1 x2 y_3 x_5 x_7 a1 g0) → va_S A s.heap H locs → lv_has ls 4 [(2, .int x_1), (0, .ref a0), (1, .int x0)] → W p l e ({ frames := 1, cells := 0, slots := 0, locals := 24 }) s m args below meth c H locs 0 0 Q (F0 m 14 ls []) := by
    intro n
    induction n with
    | zero => intro x_1 x_5 x_7 y_3 H locs ls hi_2 hi_6 hi_9 hi_10 hi_11 hmu; exact absurd hmu (Nat.not_lt_zero _)
    | succ n ih_lp_12 =>
      intro x_1 x_5 x_7 y_3 H locs ls hi_2 hi_6 hi_9 hi_10 hi_11 hmu_lp_12 hP hD hS hl
      have hi_4 := n_rngL y_3
      have hi_8 := n_rng x_7
      refine lv_iload_n (pc := 14) hx hb dX0_findLeast_14 rfl (lv_at hl 0 rfl) ?_
      refine lv_aload_n (pc := 15) hx hb dX0_findLeast_15 rfl (lv_at hl 1 rfl) ?_
      refine va_get (pc := 16) (ci := 0) (v := .int x1) (C := RX0) (T := TX0) (N := 7) hx hb hts iX0 hown hK hP 0 rfl rfl 2 (by decide) (hts _ tw_316) (fun _ h9 => h9) rfl dX0_findLeast_16 ?_
      have bd_h_x1 : 0 ≤ x1.toInt ∧ x1.toInt ≤ 16 := h_x1
      refine b_icmp_ge (pc := 19) (tgt := 62) hx hb rfl rfl  dX0_findLeast_19 (by decide) (fun c_13 => ?_) (fun c_13 => ?_)
      ·
        exact hret ((fun _ => 0), (fun _ => (fun _ => 0)), (fun _ => (fun _ => 0)), (fun k => [x_5, x_7].getD k 0), (fun k => [y_3].getD k 0)) dX0_findLeast_62 ⟨(show (0 ≤ (x_5 : Int32).toInt ∧ (x_5 : Int32).toInt ≤ 256) from hi_6), (show flE (flX (wrC g0) x1.toInt x0.toInt (1000000000000000, 0, x4.toInt)) y_3.toInt x_5.toInt x_7.toInt (16 * x1.toInt) from flE_end hi_11 (by (first | omega | (unfold zBd at *; omega))) (by (first | omega | (unfold zBd at *; omega))) (by (first | omega | (unfold zBd at *; omega))) rfl)⟩ (g_psub (wc := (zS_47 cB cC cI cJ a0 a1 a2 x1 x2 y_3 x_5 x_7 a1 g0)) hP [0, 1] rfl) (hD.sub (ws' := (zS_47 cB cC cI cJ a0 a1 a2 x1 x2 y_3 x_5 x_7 a1 g0)) [0, 1] (by decide) rfl) hS
      ·
        refine lv_iload_n (pc := 22) hx hb dX0_findLeast_22 rfl (lv_at hl 0 rfl) ?_
        refine lv_iconst (pc := 23) (v := 1) hx hb dX0_findLeast_23 (by decide) ?_
        refine b_iadd (pc := 24) hx hb rfl tI_1 (by first | exact (om_2 hi_2.1) | ((first | omega | (unfold zBd at *; omega)))) (by first | exact (om_940 hi_2.2) | ((first | omega | (unfold zBd at *; omega)))) dX0_findLeast_24 (fun x_14 ex_14 => ?_)
        refine lv_istore_n (pc := 25) (lv' := [(3, .int x_14), (2, .int x_1), (0, .ref a0), (1, .int x0)]) hx hb dX0_findLeast_25 rfl hl (by decide) rfl (fun ls hl => ?_)
        have lp_26 : ∀ (n : Nat) (x_15 x_19 x_21 : Int32) (y_17 : Int64) (H : Heap) (locs : List Loc) (ls : Array Slot), (0 ≤ x_15.toInt ∧ x_15.toInt ≤ 16) → (0 ≤ x_19.toInt ∧ x_19.toInt ≤ 256) → (x_1.toInt < x_15.toInt ∧ (x_15.toInt ≤ x1.toInt ∨ x_15.toInt = x_1.toInt + 1)) → (x_19.toInt ≤ 16 * x_1.toInt + x_15.toInt) → (flE (flX (wrC g0) x1.toInt x0.toInt (1000000000000000, 0, x4.toInt)) y_17.toInt x_19.toInt x_21.toInt (16 * x_1.toInt + x_15.toInt)) → (2147483647 - x_15.toInt).toNat < n → va_P D gcl (zS_47 cB cC cI cJ a0 a1 a2 x1 x2 y_17 x_19 x_21 a1 g0) H → va_D A (zS_47 cB cC cI cJ a0 a1 a2 x1 x2 y_17 x_19 x_21 a1 g0) → va_S A s.heap H locs → lv_has ls 4 [(3, .int x_15), (2, .int x_1), (0, .ref a0), (1, .int x0)] → W p l e ({ frames := 1, cells := 0, slots := 0, locals := 24 }) s m args below meth c H locs 0 0 Q (F0 m 26 ls []) := by
          intro n
          induction n with
          | zero => intro x_15 x_19 x_21 y_17 H locs ls hi_16 hi_20 hi_23 hi_24 hi_25 hmu; exact absurd hmu (Nat.not_lt_zero _)
          | succ n ih_lp_26 =>
            intro x_15 x_19 x_21 y_17 H locs ls hi_16 hi_20 hi_23 hi_24 hi_25 hmu_lp_26 hP hD hS hl
            have hi_18 := n_rngL y_17
            have hi_22 := n_rng x_21
            refine lv_iload_n (pc := 26) hx hb dX0_findLeast_26 rfl (lv_at hl 0 rfl) ?_
            refine lv_aload_n (pc := 27) hx hb dX0_findLeast_27 rfl (lv_at hl 2 rfl) ?_
            refine va_get (pc := 28) (ci := 0) (v := .int x1) (C := RX0) (T := TX0) (N := 7) hx hb hts iX0 hown hK hP 0 rfl rfl 2 (by decide) (hts _ tw_316) (fun _ h9 => h9) rfl dX0_findLeast_28 ?_
            refine b_icmp_ge (pc := 31) (tgt := 56) hx hb rfl rfl  dX0_findLeast_31 (by decide) (fun c_27 => ?_) (fun c_27 => ?_)
            ·
              refine b_iinc (pc := 56) hx hb dX0_findLeast_56 hl (k := 1) rfl rfl tI_1 (by first | exact (om_2 hi_2.1) | ((first | omega | (unfold zBd at *; omega)))) (by first | exact (om_940 hi_2.2) | ((first | omega | (unfold zBd at *; omega)))) (by decide) (fun x_28 ex_28 ls hl => ?_)
              replace hl : lv_has ls 4 [(2, .int x_28), (3, .int x_15), (0, .ref a0), (1, .int x0)] := hl
              refine lv_goto (pc := 59) (tgt := 14) hx hb dX0_findLeast_59 (by decide) ?_
              exact ih_lp_12 x_28 x_19 x_21 y_17 _ _ ls (by first | exact (om_1110 ex_28 hi_2.1 hi_23.1 hi_16.2) | ((first | omega | (unfold zBd at *; omega)))) hi_20 (by first | exact (om_344 ex_28 c_13) | ((first | omega | (unfold zBd at *; omega)))) (by first | exact (om_1198 ex_28 hi_24 hi_16.2) | ((first | omega | (unfold zBd at *; omega)))) (fl_out flS_X hi_25 (by (first | omega | (unfold zBd at *; omega))) (by (first | omega | (unfold zBd at *; omega))) (by (first | omega | (unfold zBd at *; omega))) (by (first | omega | (unfold zBd at *; omega))) rfl (by (first | omega | (unfold zBd at *; omega)))) (by (first | omega | (unfold zBd at *; omega))) hP hD hS (lv_sub hl [0, 2, 3] rfl)
            ·
              refine lv_iload_n (pc := 34) hx hb dX0_findLeast_34 rfl (lv_at hl 1 rfl) ?_
              refine lv_iload_n (pc := 35) hx hb dX0_findLeast_35 rfl (lv_at hl 3 rfl) ?_
              refine b_icmp_eq (pc := 36) (tgt := 50) hx hb rfl rfl  dX0_findLeast_36 (by decide) (fun c_29 => ?_) (fun c_29 => ?_)
              ·
                refine b_iinc (pc := 50) hx hb dX0_findLeast_50 hl (k := 0) rfl rfl tI_1 (by first | exact (om_2 hi_16.1) | ((first | omega | (unfold zBd at *; omega)))) (by first | exact (om_940 hi_16.2) | ((first | omega | (unfold zBd at *; omega)))) (by decide) (fun x_30 ex_30 ls hl => ?_)
                replace hl : lv_has ls 4 [(3, .int x_30), (2, .int x_1), (0, .ref a0), (1, .int x0)] := hl
                refine lv_goto (pc := 53) (tgt := 26) hx hb dX0_findLeast_53 (by decide) ?_
                exact ih_lp_26 x_30 x_19 x_21 y_17 _ _ ls (by first | exact (om_1110 ex_30 hi_16.1 c_27 h_x1.2) | ((first | omega | (unfold zBd at *; omega)))) hi_20 (by first | exact (om_1028 ex_30 hi_23.1 c_27) | ((first | omega | (unfold zBd at *; omega)))) (by first | exact (om_1199 ex_30 hi_24) | ((first | omega | (unfold zBd at *; omega)))) (fl_skip flS_X hi_25 (by (first | omega | (unfold zBd at *; omega))) (by (first | omega | (unfold zBd at *; omega))) (by (first | omega | (unfold zBd at *; omega))) (by (first | omega | (unfold zBd at *; omega))) rfl (by (first | omega | (unfold zBd at *; omega)))) (by (first | omega | (unfold zBd at *; omega))) hP hD hS (lv_sub hl [0, 1, 2, 3] rfl)
              ·
                refine lv_iload_n (pc := 39) hx hb dX0_findLeast_39 rfl (lv_at hl 0 rfl) ?_
                refine lv_iload_n (pc := 40) hx hb dX0_findLeast_40 rfl (lv_at hl 3 rfl) ?_
                refine b_icmp_eq (pc := 41) (tgt := 50) hx hb rfl rfl  dX0_findLeast_41 (by decide) (fun c_31 => ?_) (fun c_31 => ?_)
                ·
                  refine b_iinc (pc := 50) hx hb dX0_findLeast_50 hl (k := 0) rfl rfl tI_1 (by first | exact (om_2 hi_16.1) | ((first | omega | (unfold zBd at *; omega)))) (by first | exact (om_940 hi_16.2) | ((first | omega | (unfold zBd at *; omega)))) (by decide) (fun x_32 ex_32 ls hl => ?_)
                  replace hl : lv_has ls 4 [(3, .int x_32), (2, .int x_1), (0, .ref a0), (1, .int x0)] := hl
                  refine lv_goto (pc := 53) (tgt := 26) hx hb dX0_findLeast_53 (by decide) ?_
                  exact ih_lp_26 x_32 x_19 x_21 y_17 _ _ ls (by first | exact (om_1110 ex_32 hi_16.1 c_27 h_x1.2) | ((first | omega | (unfold zBd at *; omega)))) hi_20 (by first | exact (om_1028 ex_32 hi_23.1 c_27) | ((first | omega | (unfold zBd at *; omega)))) (by first | exact (om_1199 ex_32 hi_24) | ((first | omega | (unfold zBd at *; omega)))) (fl_skip flS_X hi_25 (by (first | omega | (unfold zBd at *; omega))) (by (first | omega | (unfold zBd at *; omega))) (by (first | omega | (unfold zBd at *; omega))) (by (first | omega | (unfold zBd at *; omega))) rfl (by (first | omega | (unfold zBd at *; omega)))) (by (first | omega | (unfold zBd at *; omega))) hP hD hS (lv_sub hl [0, 1, 2, 3] rfl)
                ·
                  refine lv_aload_n (pc := 44) hx hb dX0_findLeast_44 rfl (lv_at hl 2 rfl) ?_
                  refine lv_iload_n (pc := 45) hx hb dX0_findLeast_45 rfl (lv_at hl 1 rfl) ?_
                  refine lv_iload_n (pc := 46) hx hb dX0_findLeast_46 rfl (lv_at hl 0 rfl) ?_
                  refine gd_v (pc := 47) (wc := (zS_47 cB cC cI cJ a0 a1 a2 x1 x2 y_17 x_19 x_21 a1 g0)) hP hD hS hA [0, 1] rfl (by decide +kernel) (fun _ => by rfl) (fun hPc hDc => va_runV (As := [.int x_1, .int x_15]) (rest := []) ⟨hx, hb, hml, hown, hts⟩ (k_X0_weighPair l D cB cC cI cJ _ a0 a1 a2 x_1 x_15 x1 x2 x_19 x_21 y_17 g0 (by first | exact (om_1112 hi_2.1 c_13 h_x1.2) | ((first | omega | (unfold zBd at *; omega)))) (by first | exact (om_1112 hi_16.1 c_27 h_x1.2) | ((first | omega | (unfold zBd at *; omega)))) h_x1 h_x2 hi_20 (by first | exact (om_1200 hi_24 c_27 hi_23.1 h_x1.2) | ((first | omega | (unfold zBd at *; omega))))) ⟨gcwB hts tw_1210 tw_11 tw_1207 hd_yX0_weighPair ⟨Nat.le_of_ble_eq_true rfl, Nat.le_of_ble_eq_true rfl⟩, hts _ tw_1209, hts _ tp_47⟩ ⟨gblind, va_recv hK hPc (ci := 0) (q0 := 0) rfl rfl, (gpreS hPc hK hDc hN).2⟩ rfl rfl hl.1 rfl (lv_room (Nat.le_of_ble_eq_true rfl)) dX0_findLeast_47 ⟨Nat.le_of_ble_eq_true rfl, Nat.le_of_ble_eq_true rfl⟩) (fun u_33 H locs hw_35 hP hD hS => ?_)
                  replace hP : va_P D gcl (zS_47 cB cC cI cJ a0 a1 a2 x1 x2 (u_33.2.2.2.2 0) (u_33.2.2.2.1 0) (u_33.2.2.2.1 1) a1 g0) H := hP
                  replace hD : va_D A (zS_47 cB cC cI cJ a0 a1 a2 x1 x2 (u_33.2.2.2.2 0) (u_33.2.2.2.1 0) (u_33.2.2.2.1 1) a1 g0) := hD
                  have ru_33_0 := n_rngL (u_33.2.2.2.2 0)
                  have ru_33_1 : zBd (u_33.2.2.2.1 1).toInt (-2147483648) 2147483647 := n_rng (u_33.2.2.2.1 1)
                  obtain ⟨hw_36, hw_37, hw_38⟩ := hw_35
                  replace hw_36 : zBd (u_33.2.2.2.1 0).toInt 0 256 := hw_36
                  replace hw_37 : (wgQ (wrC g0 x_1.toInt x_15.toInt) y_17.toInt x_19.toInt x_21.toInt (u_33.2.2.2.2 0).toInt (u_33.2.2.2.1 0).toInt (u_33.2.2.2.1 1).toInt x_1.toInt x_15.toInt) := hw_37
                  replace hw_38 : ((u_33.2.2.2.1 0).toInt ≤ x_19.toInt + 1) := hw_38
                  refine b_iinc (pc := 50) hx hb dX0_findLeast_50 hl (k := 0) rfl rfl tI_1 (by first | exact (om_2 hi_16.1) | ((first | omega | (unfold zBd at *; omega)))) (by first | exact (om_940 hi_16.2) | ((first | omega | (unfold zBd at *; omega)))) (by decide) (fun x_39 ex_39 ls hl => ?_)
                  replace hl : lv_has ls 4 [(3, .int x_39), (2, .int x_1), (0, .ref a0), (1, .int x0)] := hl
                  refine lv_goto (pc := 53) (tgt := 26) hx hb dX0_findLeast_53 (by decide) ?_
                  exact ih_lp_26 x_39 (u_33.2.2.2.1 0) (u_33.2.2.2.1 1) (u_33.2.2.2.2 0) _ _ ls (by first | exact (om_1110 ex_39 hi_16.1 c_27 h_x1.2) | ((first | omega | (unfold zBd at *; omega)))) hw_36 (by first | exact (om_1028 ex_39 hi_23.1 c_27) | ((first | omega | (unfold zBd at *; omega)))) (by first | exact (om_1201 ex_39 hw_38 hi_24) | ((first | omega | (unfold zBd at *; omega)))) (fl_weigh hi_25 hw_37 rfl (by first | exact (om_0 hi_2.1) | ((first | omega | (unfold zBd at *; omega)))) (by (first | omega | (unfold zBd at *; omega))) (by first | exact (om_1202 c_27 h_x1.2) | ((first | omega | (unfold zBd at *; omega)))) rfl (by (first | omega | (unfold zBd at *; omega)))) (by (first | omega | (unfold zBd at *; omega))) hP hD hS (lv_sub hl [0, 1, 2, 3] rfl)
        exact lp_26 _ x_14 x_5 x_7 y_3 _ _ ls (by first | exact (om_1110 ex_14 hi_2.1 c_13 h_x1.2) | ((first | omega | (unfold zBd at *; omega)))) hi_6 (by have q := tI_0; (first | omega | (unfold zBd at *; omega))) (by have q := tI_0; (first | omega | (unfold zBd at *; omega))) (fl_in flS_X hi_11 (by (first | omega | (unfold zBd at *; omega))) (by (first | omega | (unfold zBd at *; omega))) rfl rfl (by (first | omega | (unfold zBd at *; omega)))) (Nat.lt_succ_self _) hP hD hS (lv_sub hl [0, 1, 2, 3] rfl)
  exact lp_12 _ 0 0 x4 1000000000000000 _ _ ls (n_c tI_0 (by decide)) (n_c tI_0 (by decide)) (by have q := tI_0; (first | omega | (unfold zBd at *; omega))) (by have q := tI_0; (first | omega | (unfold zBd at *; omega))) (flE_0 tL_1000000000000000 tI_0 rfl (by have q := tI_0; (first | omega | (unfold zBd at *; omega)))) (Nat.lt_succ_self _) hP hD hS (lv_sub hl [0, 1, 2] rfl)
theorem om_1203 {a b : Int} (h0 : ((-9223372036854775808) ≤ a)) (h1 : (0 ≤ b)) (h2 : (b ≤ 4)) (h3 : (a ≤ 9223372036854775807)) : (((((-9223372036854775808) ≤ a ∧ a ≤ 9223372036854775807)) ∨ (((-9223372036854775807) ≤ a ∧ a ≤ 9223372036854775807) ∧ (0 ≤ b ∧ b ≤ 4)))) := by omega
set_option maxHeartbeats 4000000 in
set_option maxRecDepth 100000 in
theorem k_X6_lookAtLine (l : Launch) (D : va_G) (cB cC cI cJ : ClassId) (sz : Nat) (a0 a1 a2 a3 a4 a5 a6 a7 a8 a9 a10 : Nat) (x0 x1 : Int32) (y0 : Int64) (f0 f1 f2 f3 : Nat → Int32) (g0 g1 g2 : Nat → Int64) (h_x1 : zBd x1.toInt 0 4) (hf_f3 : (∀ j, 0 ≤ (f3 j).toInt ∧ (f3 j).toInt ≤ 23)) : Met l yX6_lookAtLine (.code yX6_lookAtLine cX6_lookAtLine 6 none :: lw_gd) ({ frames := 2, cells := 0, slots := 0, locals := 52 }) (gPre D [(cB, .byte), (cC, .char), (cI, .int), (cJ, .long)] [.ref a0, .int x0] (zS_96 cB cC cI cJ a0 a1 a2 a3 y0 a1 a4 a5 a6 a7 a8 a9 a10 x1 a4 g0 a8 f0 a6 g1 a7 f1 a5 g2 a2 f2 a10 f3) sz) (va_Qv (fun u => ((((-9223372036854775808) ≤ y0.toInt ∧ y0.toInt ≤ 9223372036854775807)) ∨ (((-9223372036854775807) ≤ y0.toInt ∧ y0.toInt ≤ 9223372036854775807) ∧ (0 ≤ x1.toInt ∧ x1.toInt ≤ 4)))) (gB D (va_A (zS_96 cB cC cI cJ a0 a1 a2 a3 y0 a1 a4 a5 a6 a7 a8 a9 a10 x1 a4 g0 a8 f0 a6 g1 a7 f1 a5 g2 a2 f2 a10 f3) sz) (fun u : gEx => (zS_96 cB cC cI cJ a0 a1 a2 a3 (u.2.2.2.2 0) a1 a4 a5 a6 a7 a8 a9 a10 x1 a4 g0 a8 f0 a6 g1 a7 f1 a5 g2 a2 (u.2.1 0) a10 f3))) (va_A (zS_96 cB cC cI cJ a0 a1 a2 a3 y0 a1 a4 a5 a6 a7 a8 a9 a10 x1 a4 g0 a8 f0 a6 g1 a7 f1 a5 g2 a2 f2 a10 f3) sz)) 0 0 (va_A (zS_96 cB cC cI cJ a0 a1 a2 a3 y0 a1 a4 a5 a6 a7 a8 a9 a10 x1 a4 g0 a8 f0 a6 g1 a7 f1 a5 g2 a2 f2 a10 f3) sz) := by
  refine gOf_v (by decide +kernel) (Nat.le_of_ble_eq_true rfl) ?_
  intro p e s m args below meth c ls A Q hx hb hts hown hml hN hK hP hD hA hl hret
  replace hown : s.vm.findClass RX6 = some m.cls := hown
  have hS : va_S A s.heap s.heap [] := va_S.rf
  replace hP : va_P D gcl (zS_96 cB cC cI cJ a0 a1 a2 a3 y0 a1 a4 a5 a6 a7 a8 a9 a10 x1 a4 g0 a8 f0 a6 g1 a7 f1 a5 g2 a2 f2 a10 f3) s.heap := hP
  replace hl : lv_has ls 6 [(0, .ref a0), (1, .int x0)] := hl
  have rx0 : zBd x0.toInt (-2147483648) 2147483647 := n_rng x0
  have ry0 := n_rngL y0
  refine lv_aload_n (pc := 0) hx hb dX6_lookAtLine_0 rfl (lv_at hl 0 rfl) ?_
  refine va_get (pc := 1) (ci := 6) (v := .ref a1) (C := RX6) (T := TX6) (N := 4) hx hb hts iX6 hown hK hP 0 rfl rfl 0 (by decide) (hts _ tw_293) (fun _ h9 => h9) rfl dX6_lookAtLine_1 ?_
  refine lv_iload_n (pc := 4) hx hb dX6_lookAtLine_4 rfl (lv_at hl 1 rfl) ?_
  refine gd_i (pc := 5) (wc := (zS_106 cB cC cI cJ a1 a4 a5 a6 a7 a8 a9 a10 x1 a4 g0 a8 f0 a6 g1 a7 f1 a5 g2)) hP hD hS hA [1, 2, 3, 4, 5, 6] rfl (by decide +kernel) (fun _ => by rfl) (fun hPc hDc => va_runV (As := [.int x0]) (rest := []) ⟨hx, hb, hml, hown, hts⟩ (k_X10_bestDigit l D cB cC cI cJ _ a1 a4 a5 a6 a7 a8 a9 a10 x0 x1 f0 f1 g0 g1 g2 h_x1) ⟨gcwB hts tw_1151 tw_8 tw_1148 hd_yX10_bestDigit ⟨Nat.le_of_ble_eq_true rfl, Nat.le_of_ble_eq_true rfl⟩, hts _ tw_1149, hts _ tw_1150⟩ ⟨gblind, va_recv hK hPc (ci := 10) (q0 := 0) rfl rfl, (gpreS hPc hK hDc hN).2⟩ rfl rfl hl.1 rfl (lv_room (Nat.le_of_ble_eq_true rfl)) dX6_lookAtLine_5 ⟨Nat.le_of_ble_eq_true rfl, Nat.le_of_ble_eq_true rfl⟩) (fun r_2 u_1 H locs hw_3 hP hD hS => ?_)
  replace hP : va_P D gcl (zS_96 cB cC cI cJ a0 a1 a2 a3 y0 a1 a4 a5 a6 a7 a8 a9 a10 x1 a4 g0 a8 f0 a6 g1 a7 f1 a5 g2 a2 f2 a10 f3) H := hP
  replace hD : va_D A (zS_96 cB cC cI cJ a0 a1 a2 a3 y0 a1 a4 a5 a6 a7 a8 a9 a10 x1 a4 g0 a8 f0 a6 g1 a7 f1 a5 g2 a2 f2 a10 f3) := hD
  have hw_4 : ((((-2147483648) ≤ r_2.toInt ∧ r_2.toInt ≤ 2147483647) ∧ ((-2147483648) ≤ x0.toInt ∧ x0.toInt ≤ 2147483647)) ∨ (((-2147483648) ≤ r_2.toInt ∧ r_2.toInt ≤ 2147483647) ∧ ((-2147483647) ≤ x0.toInt ∧ x0.toInt ≤ 2147483647)) ∨ (r_2.toInt = 0)) := hw_3
  have rr_2 : zBd r_2.toInt (-2147483648) 2147483647 := n_rng r_2
  refine lv_istore_n (pc := 8) (lv' := [(2, .int r_2), (0, .ref a0), (1, .int x0)]) hx hb dX6_lookAtLine_8 rfl hl (by decide) rfl (fun ls hl => ?_)
  refine lv_aload_n (pc := 9) hx hb dX6_lookAtLine_9 rfl (lv_at hl 1 rfl) ?_
  refine va_get (pc := 10) (ci := 6) (v := .ref a1) (C := RX6) (T := TX6) (N := 4) hx hb hts iX6 hown hK hP 0 rfl rfl 0 (by decide) (hts _ tw_293) (fun _ h9 => h9) rfl dX6_lookAtLine_10 ?_
  refine lv_iload_n (pc := 13) hx hb dX6_lookAtLine_13 rfl (lv_at hl 0 rfl) ?_
  refine gd_l (pc := 14) (wc := (zS_94 cB cC cI cJ a1 a4 a5 a6 a7 a8 a9 a10 x1 a7 f1 a8 f0 a5 g2 a4 g0 a6 g1)) hP hD hS hA [1, 5, 3, 6, 2, 4] rfl (by decide +kernel) (fun _ => by rfl) (fun hPc hDc => va_runV (As := [.int r_2]) (rest := []) ⟨hx, hb, hml, hown, hts⟩ (k_X10_squaresAt l D cB cC cI cJ _ a1 a4 a5 a6 a7 a8 a9 a10 r_2 x1 f1 f0 g2 g0 g1 h_x1) ⟨gcwB hts tw_922 tw_8 tw_1158 hd_yX10_squaresAt ⟨Nat.le_of_ble_eq_true rfl, Nat.le_of_ble_eq_true rfl⟩, hts _ tw_920, hts _ tw_921⟩ ⟨gblind, va_recv hK hPc (ci := 10) (q0 := 0) rfl rfl, (gpreS hPc hK hDc hN).2⟩ rfl rfl hl.1 rfl (lv_room (Nat.le_of_ble_eq_true rfl)) dX6_lookAtLine_14 ⟨Nat.le_of_ble_eq_true rfl, Nat.le_of_ble_eq_true rfl⟩) (fun r_6 u_5 H locs hw_7 hP hD hS => ?_)
  replace hP : va_P D gcl (zS_96 cB cC cI cJ a0 a1 a2 a3 y0 a1 a4 a5 a6 a7 a8 a9 a10 x1 a4 g0 a8 f0 a6 g1 a7 f1 a5 g2 a2 f2 a10 f3) H := hP
  replace hD : va_D A (zS_96 cB cC cI cJ a0 a1 a2 a3 y0 a1 a4 a5 a6 a7 a8 a9 a10 x1 a4 g0 a8 f0 a6 g1 a7 f1 a5 g2 a2 f2 a10 f3) := hD
  have hw_8 : ((((-9223372036854775808) ≤ r_6.toInt ∧ r_6.toInt ≤ 9223372036854775807))) := hw_7
  have rr_6 := n_rngL r_6
  refine lv_lstore_n (pc := 17) (lv' := [(3, .long r_6), (2, .int r_2), (0, .ref a0), (1, .int x0)]) hx hb dX6_lookAtLine_17 rfl hl (by decide) rfl (fun ls hl => ?_)
  refine lv_lload_n (pc := 18) hx hb dX6_lookAtLine_18 rfl (lv_at hl 0 rfl) ?_
  refine lv_aload_n (pc := 19) hx hb dX6_lookAtLine_19 rfl (lv_at hl 2 rfl) ?_
  refine va_get (pc := 20) (ci := 6) (v := .long y0) (C := RX6) (T := TX6) (N := 4) hx hb hts iX6 hown hK hP 0 rfl rfl 3 (by decide) (hts _ tw_297) (fun _ h9 => h9) rfl dX6_lookAtLine_20 ?_
  refine b_lcmp_ge (pc := 23) (tgt := 110) hx hb rfl rfl dX6_lookAtLine_23 dX6_lookAtLine_24 (by decide) (fun c_9 => ?_) (fun c_9 => ?_)
  ·
    exact hret ((fun _ => 0), (fun k => [f2].getD k (fun _ => 0)), (fun _ => (fun _ => 0)), (fun _ => 0), (fun k => [y0].getD k 0)) dX6_lookAtLine_110 (show ((((-9223372036854775808) ≤ y0.toInt ∧ y0.toInt ≤ 9223372036854775807)) ∨ (((-9223372036854775807) ≤ y0.toInt ∧ y0.toInt ≤ 9223372036854775807) ∧ (0 ≤ x1.toInt ∧ x1.toInt ≤ 4))) from (by first | exact (om_1203 ry0.1 h_x1.1 h_x1.2 ry0.2) | ((first | omega | (unfold zBd at *; omega))))) (g_psub (wc := (zS_96 cB cC cI cJ a0 a1 a2 a3 y0 a1 a4 a5 a6 a7 a8 a9 a10 x1 a4 g0 a8 f0 a6 g1 a7 f1 a5 g2 a2 f2 a10 f3)) hP [0, 1, 2, 3, 4, 5, 6, 7, 8] rfl) (hD.sub (ws' := (zS_96 cB cC cI cJ a0 a1 a2 a3 y0 a1 a4 a5 a6 a7 a8 a9 a10 x1 a4 g0 a8 f0 a6 g1 a7 f1 a5 g2 a2 f2 a10 f3)) [0, 1, 2, 3, 4, 5, 6, 7, 8] (by decide) rfl) hS
  ·
    refine lv_aload_n (pc := 27) hx hb dX6_lookAtLine_27 rfl (lv_at hl 2 rfl) ?_
    refine lv_lload_n (pc := 28) hx hb dX6_lookAtLine_28 rfl (lv_at hl 0 rfl) ?_
    refine va_put (pc := 29) (ci := 6) (v := .long r_6) (ty := .long) (C := RX6) (T := TX6) (N := 4) hx hb hts iX6 tyX6 tyX6_ok nmX6 hown hK hP hD hS 0 rfl rfl 3 (by decide) (hts _ tw_297) (fun _ h9 => h9) rfl (by decide +kernel) rfl rfl (Nat.le_of_ble_eq_true rfl) dX6_lookAtLine_29 (fun H locs hP hD hS => ?_)
    replace hP : va_P D gcl (zS_96 cB cC cI cJ a0 a1 a2 a3 r_6 a1 a4 a5 a6 a7 a8 a9 a10 x1 a4 g0 a8 f0 a6 g1 a7 f1 a5 g2 a2 f2 a10 f3) H := hP
    replace hD : va_D A (zS_96 cB cC cI cJ a0 a1 a2 a3 r_6 a1 a4 a5 a6 a7 a8 a9 a10 x1 a4 g0 a8 f0 a6 g1 a7 f1 a5 g2 a2 f2 a10 f3) := hD
    refine lv_iconst (pc := 32) (v := 0) hx hb dX6_lookAtLine_32 (by decide) ?_
    refine lv_istore (pc := 33) (lv' := [(5, .int 0), (3, .long r_6), (2, .int r_2), (0, .ref a0), (1, .int x0)]) hx hb dX6_lookAtLine_33 hl (by decide) rfl (fun ls hl => ?_)
    have lp_13 : ∀ (n : Nat) (x_10 : Int32) (f_12 : Nat → Int32) (H : Heap) (locs : List Loc) (ls : Array Slot), (0 ≤ x_10.toInt ∧ x_10.toInt ≤ 2147483647) → (2147483647 - x_10.toInt).toNat < n → va_P D gcl (zS_96 cB cC cI cJ a0 a1 a2 a3 r_6 a1 a4 a5 a6 a7 a8 a9 a10 x1 a4 g0 a8 f0 a6 g1 a7 f1 a5 g2 a2 f_12 a10 f3) H → va_D A (zS_96 cB cC cI cJ a0 a1 a2 a3 r_6 a1 a4 a5 a6 a7 a8 a9 a10 x1 a4 g0 a8 f0 a6 g1 a7 f1 a5 g2 a2 f_12 a10 f3) → va_S A s.heap H locs → lv_has ls 6 [(5, .int x_10), (3, .long r_6), (2, .int r_2), (0, .ref a0), (1, .int x0)] → W p l e ({ frames := 2, cells := 0, slots := 0, locals := 52 }) s m args below meth c H locs 0 0 Q (F0 m 35 ls []) := by
      intro n
      induction n with
      | zero => intro x_10 f_12 H locs ls hi_11 hmu; exact absurd hmu (Nat.not_lt_zero _)
      | succ n ih_lp_13 =>
        intro x_10 f_12 H locs ls hi_11 hmu_lp_13 hP hD hS hl
        refine lv_iload (pc := 35) hx hb dX6_lookAtLine_35 (lv_at hl 0 rfl) ?_
        refine lv_aload_n (pc := 37) hx hb dX6_lookAtLine_37 rfl (lv_at hl 3 rfl) ?_
        refine va_get (pc := 38) (ci := 6) (v := .ref a1) (C := RX6) (T := TX6) (N := 4) hx hb hts iX6 hown hK hP 0 rfl rfl 0 (by decide) (hts _ tw_293) (fun _ h9 => h9) rfl dX6_lookAtLine_38 ?_
        refine va_getN (pc := 41) (ci := 10) (v := .int x1) (C := RX10) (T := TX10) (N := 8) hx hb hts iX10 hown hK hP 1 rfl rfl 7 (by decide) (va_Nw.use rfl (hN _ tn_221)) (fun _ h9 => h9) rfl dX6_lookAtLine_41 ?_
        refine b_icmp_ge (pc := 44) (tgt := 81) hx hb rfl rfl  dX6_lookAtLine_44 (by decide) (fun c_14 => ?_) (fun c_14 => ?_)
        ·
          refine lv_aload_n (pc := 81) hx hb dX6_lookAtLine_81 rfl (lv_at hl 3 rfl) ?_
          refine va_get (pc := 82) (ci := 6) (v := .ref a2) (C := RX6) (T := TX6) (N := 4) hx hb hts iX6 hown hK hP 0 rfl rfl 1 (by decide) (hts _ tw_294) (fun _ h9 => h9) rfl dX6_lookAtLine_82 ?_
          refine lv_aload_n (pc := 85) hx hb dX6_lookAtLine_85 rfl (lv_at hl 3 rfl) ?_
          refine va_get (pc := 86) (ci := 6) (v := .ref a1) (C := RX6) (T := TX6) (N := 4) hx hb hts iX6 hown hK hP 0 rfl rfl 0 (by decide) (hts _ tw_293) (fun _ h9 => h9) rfl dX6_lookAtLine_86 ?_
          refine va_getN (pc := 89) (ci := 10) (v := .int x1) (C := RX10) (T := TX10) (N := 8) hx hb hts iX10 hown hK hP 1 rfl rfl 7 (by decide) (va_Nw.use rfl (hN _ tn_221)) (fun _ h9 => h9) rfl dX6_lookAtLine_89 ?_
          refine lv_aload_n (pc := 92) hx hb dX6_lookAtLine_92 rfl (lv_at hl 3 rfl) ?_
          refine va_get (pc := 93) (ci := 6) (v := .ref a1) (C := RX6) (T := TX6) (N := 4) hx hb hts iX6 hown hK hP 0 rfl rfl 0 (by decide) (hts _ tw_293) (fun _ h9 => h9) rfl dX6_lookAtLine_93 ?_
          refine va_getN (pc := 96) (ci := 10) (v := .ref a7) (C := RX10) (T := TX10) (N := 8) hx hb hts iX10 hown hK hP 1 rfl rfl 3 (by decide) (va_Nw.use rfl (hN _ tn_212)) (fun _ h9 => h9) rfl dX6_lookAtLine_96 ?_
          refine lv_aload_n (pc := 99) hx hb dX6_lookAtLine_99 rfl (lv_at hl 3 rfl) ?_
          refine va_get (pc := 100) (ci := 6) (v := .ref a1) (C := RX6) (T := TX6) (N := 4) hx hb hts iX6 hown hK hP 0 rfl rfl 0 (by decide) (hts _ tw_293) (fun _ h9 => h9) rfl dX6_lookAtLine_100 ?_
          refine va_getN (pc := 103) (ci := 10) (v := .int x1) (C := RX10) (T := TX10) (N := 8) hx hb hts iX10 hown hK hP 1 rfl rfl 7 (by decide) (va_Nw.use rfl (hN _ tn_221)) (fun _ h9 => h9) rfl dX6_lookAtLine_103 ?_
          refine va_iald (pc := 106) hx hb hK hP 5 2 rfl rfl (n_in rfl (by first | exact (om_0 h_x1.1) | ((first | omega | (unfold zBd at *; omega)))) (by first | exact (om_1135 h_x1.2) | ((first | omega | (unfold zBd at *; omega))))) dX6_lookAtLine_106 ?_
          refine lv_topi (fun x_15 ex_15 => ?_)
          have rx_15 : zBd x_15.toInt (-2147483648) 2147483647 := n_rng x_15
          refine lv_iload_n (pc := 107) hx hb dX6_lookAtLine_107 rfl (lv_at hl 2 rfl) ?_
          refine lv_iadd (pc := 108) hx hb dX6_lookAtLine_108 ?_
          refine lv_topi (fun x_16 _ => ?_)
          have rx_16 : zBd x_16.toInt (-2147483648) 2147483647 := n_rng x_16
          refine g_iastore (pc := 109) hx hb hK hP hD hS 7 2 rfl rfl (n_in rfl (by first | exact (om_0 h_x1.1) | ((first | omega | (unfold zBd at *; omega)))) (by first | exact (om_1135 h_x1.2) | ((first | omega | (unfold zBd at *; omega))))) dX6_lookAtLine_109 (fun f_17 H locs hP hD hS => ?_)
          replace hP : va_P D gcl (zS_96 cB cC cI cJ a0 a1 a2 a3 r_6 a1 a4 a5 a6 a7 a8 a9 a10 x1 a4 g0 a8 f0 a6 g1 a7 f1 a5 g2 a2 f_17 a10 f3) H := hP
          replace hD : va_D A (zS_96 cB cC cI cJ a0 a1 a2 a3 r_6 a1 a4 a5 a6 a7 a8 a9 a10 x1 a4 g0 a8 f0 a6 g1 a7 f1 a5 g2 a2 f_17 a10 f3) := hD
          exact hret ((fun _ => 0), (fun k => [f_17].getD k (fun _ => 0)), (fun _ => (fun _ => 0)), (fun _ => 0), (fun k => [r_6].getD k 0)) dX6_lookAtLine_110 (show ((((-9223372036854775808) ≤ y0.toInt ∧ y0.toInt ≤ 9223372036854775807)) ∨ (((-9223372036854775807) ≤ y0.toInt ∧ y0.toInt ≤ 9223372036854775807) ∧ (0 ≤ x1.toInt ∧ x1.toInt ≤ 4))) from (by first | exact (om_1203 ry0.1 h_x1.1 h_x1.2 ry0.2) | ((first | omega | (unfold zBd at *; omega))))) (g_psub (wc := (zS_96 cB cC cI cJ a0 a1 a2 a3 r_6 a1 a4 a5 a6 a7 a8 a9 a10 x1 a4 g0 a8 f0 a6 g1 a7 f1 a5 g2 a2 f_17 a10 f3)) hP [0, 1, 2, 3, 4, 5, 6, 7, 8] rfl) (hD.sub (ws' := (zS_96 cB cC cI cJ a0 a1 a2 a3 r_6 a1 a4 a5 a6 a7 a8 a9 a10 x1 a4 g0 a8 f0 a6 g1 a7 f1 a5 g2 a2 f_17 a10 f3)) [0, 1, 2, 3, 4, 5, 6, 7, 8] (by decide) rfl) hS
        ·
          refine lv_aload_n (pc := 47) hx hb dX6_lookAtLine_47 rfl (lv_at hl 3 rfl) ?_
          refine va_get (pc := 48) (ci := 6) (v := .ref a2) (C := RX6) (T := TX6) (N := 4) hx hb hts iX6 hown hK hP 0 rfl rfl 1 (by decide) (hts _ tw_294) (fun _ h9 => h9) rfl dX6_lookAtLine_48 ?_
          refine lv_iload (pc := 51) hx hb dX6_lookAtLine_51 (lv_at hl 0 rfl) ?_
          refine lv_aload_n (pc := 53) hx hb dX6_lookAtLine_53 rfl (lv_at hl 3 rfl) ?_
          refine va_get (pc := 54) (ci := 6) (v := .ref a1) (C := RX6) (T := TX6) (N := 4) hx hb hts iX6 hown hK hP 0 rfl rfl 0 (by decide) (hts _ tw_293) (fun _ h9 => h9) rfl dX6_lookAtLine_54 ?_
          refine va_getN (pc := 57) (ci := 10) (v := .ref a7) (C := RX10) (T := TX10) (N := 8) hx hb hts iX10 hown hK hP 1 rfl rfl 3 (by decide) (va_Nw.use rfl (hN _ tn_212)) (fun _ h9 => h9) rfl dX6_lookAtLine_57 ?_
          refine lv_iload (pc := 60) hx hb dX6_lookAtLine_60 (lv_at hl 0 rfl) ?_
          refine va_iald (pc := 62) hx hb hK hP 5 2 rfl rfl (n_in rfl (by first | exact (om_0 hi_11.1) | ((first | omega | (unfold zBd at *; omega)))) (by first | exact (om_1140 c_14 h_x1.2) | ((first | omega | (unfold zBd at *; omega))))) dX6_lookAtLine_62 ?_
          refine lv_topi (fun x_18 ex_18 => ?_)
          have rx_18 : zBd x_18.toInt (-2147483648) 2147483647 := n_rng x_18
          refine lv_aload_n (pc := 63) hx hb dX6_lookAtLine_63 rfl (lv_at hl 3 rfl) ?_
          refine va_get (pc := 64) (ci := 6) (v := .ref a1) (C := RX6) (T := TX6) (N := 4) hx hb hts iX6 hown hK hP 0 rfl rfl 0 (by decide) (hts _ tw_293) (fun _ h9 => h9) rfl dX6_lookAtLine_64 ?_
          refine va_getN (pc := 67) (ci := 10) (v := .ref a10) (C := RX10) (T := TX10) (N := 8) hx hb hts iX10 hown hK hP 1 rfl rfl 6 (by decide) (va_Nw.use rfl (hN _ tn_217)) (fun _ h9 => h9) rfl dX6_lookAtLine_67 ?_
          refine lv_iload (pc := 70) hx hb dX6_lookAtLine_70 (lv_at hl 0 rfl) ?_
          refine va_iald (pc := 72) hx hb hK hP 8 2 rfl rfl (n_in rfl (by first | exact (om_0 hi_11.1) | ((first | omega | (unfold zBd at *; omega)))) (by first | exact (om_1140 c_14 h_x1.2) | ((first | omega | (unfold zBd at *; omega))))) dX6_lookAtLine_72 ?_
          refine lv_topi (fun x_19 ex_19 => ?_)
          have rx_19 : (0 ≤ x_19.toInt ∧ x_19.toInt ≤ 23) := by rw [ex_19]; exact hf_f3 _
          refine lv_iadd (pc := 73) hx hb dX6_lookAtLine_73 ?_
          refine lv_topi (fun x_20 _ => ?_)
          have rx_20 : zBd x_20.toInt (-2147483648) 2147483647 := n_rng x_20
          refine g_iastore (pc := 74) hx hb hK hP hD hS 7 2 rfl rfl (n_in rfl (by first | exact (om_0 hi_11.1) | ((first | omega | (unfold zBd at *; omega)))) (by first | exact (om_1140 c_14 h_x1.2) | ((first | omega | (unfold zBd at *; omega))))) dX6_lookAtLine_74 (fun f_21 H locs hP hD hS => ?_)
          replace hP : va_P D gcl (zS_96 cB cC cI cJ a0 a1 a2 a3 r_6 a1 a4 a5 a6 a7 a8 a9 a10 x1 a4 g0 a8 f0 a6 g1 a7 f1 a5 g2 a2 f_21 a10 f3) H := hP
          replace hD : va_D A (zS_96 cB cC cI cJ a0 a1 a2 a3 r_6 a1 a4 a5 a6 a7 a8 a9 a10 x1 a4 g0 a8 f0 a6 g1 a7 f1 a5 g2 a2 f_21 a10 f3) := hD
          refine b_iinc (pc := 75) hx hb dX6_lookAtLine_75 hl (k := 0) rfl rfl tI_1 (by first | exact (om_2 hi_11.1) | ((first | omega | (unfold zBd at *; omega)))) (by first | exact (om_1141 c_14 h_x1.2) | ((first | omega | (unfold zBd at *; omega)))) (by decide) (fun x_22 ex_22 ls hl => ?_)
          replace hl : lv_has ls 6 [(5, .int x_22), (3, .long r_6), (2, .int r_2), (0, .ref a0), (1, .int x0)] := hl
          refine lv_goto (pc := 78) (tgt := 35) hx hb dX6_lookAtLine_78 (by decide) ?_
          exact ih_lp_13 x_22 f_21 _ _ ls (by first | exact (om_1145 ex_22 hi_11.1 c_14 h_x1.2) | ((first | omega | (unfold zBd at *; omega)))) (by (first | omega | (unfold zBd at *; omega))) hP hD hS (lv_sub hl [0, 1, 2, 3, 4] rfl)
    exact lp_13 _ 0 f2 _ _ ls (n_c tI_0 (by decide)) (Nat.lt_succ_self _) hP hD hS (lv_sub hl [0, 1, 2, 3, 4] rfl)
theorem om_1204 {a : Int} (h0 : ((-3) ≤ a)) : (-2147483648 ≤ a - 1) := by omega
theorem om_1205 {a : Int} (h0 : (a ≤ 24)) : (a - 1 ≤ 2147483647) := by omega
theorem om_1206 {a : Int} (h0 : ((-2) ≤ a)) : (a ≠ -2147483648) := by omega
theorem om_1207 {a : Int} (h0 : ((-2) ≤ a)) : (-2147483648 ≤ 2 * a) := by omega
theorem om_1208 {a : Int} (h0 : (a ≤ 7)) : (2 * a ≤ 2147483647) := by omega
theorem om_1209 {a b : Int} (h0 : (a = 2 * b)) (h1 : ((-2) ≤ b)) : (-2147483648 ≤ a + 1) := by omega
theorem om_1210 {a b : Int} (h0 : (a = 2 * b)) (h1 : (b ≤ 7)) : (a + 1 ≤ 2147483647) := by omega
theorem om_1211 {a b c : Int} (h0 : (a = b + 1)) (h1 : (b = 2 * c)) (h2 : ((-2) ≤ c)) (h3 : (c ≤ 7)) : (((-3) ≤ a ∧ a ≤ 24)) := by omega
set_option maxHeartbeats 4000000 in
set_option maxRecDepth 100000 in
theorem k_X6_findShortest (l : Launch) (D : va_G) (cB cC cI cJ : ClassId) (sz : Nat) (a0 a1 a2 a3 a4 a5 a6 a7 a8 a9 a10 a11 a12 a13 a14 a15 : Nat) (x0 x1 x2 x3 x4 x5 x6 x7 x8 x9 : Int32) (y0 : Int64) (f0 f1 f2 f3 f4 f5 : Nat → Int32) (g0 g1 g2 : Nat → Int64) (hp3 : ((-2) ≤ x1.toInt ∧ x1.toInt ≤ 7)) (h_x2 : zBd x2.toInt 0 4) (h_x3 : zBd x3.toInt (-1) 8) (h_x4 : zBd x4.toInt (-1) 5) (h_x5 : zBd x5.toInt (-1) 6) (h_x6 : zBd x6.toInt 0 6) (h_x7 : zBd x7.toInt 0 16) (hf_f1 : (∀ j, (-3) ≤ (f1 j).toInt ∧ (f1 j).toInt ≤ 24)) (hf_f2 : (∀ j, 0 ≤ (f2 j).toInt ∧ (f2 j).toInt ≤ 23)) : Met l yX6_findShortest (.code yX6_findShortest cX6_findShortest 8 none :: lw_gd) ({ frames := 3, cells := 0, slots := 0, locals := 77 }) (gPre D [(cB, .byte), (cC, .char), (cI, .int), (cJ, .long)] [.ref a0, .ref a1, .int x0, .int x1] (zS_71 cB cC cI cJ a0 a2 a3 a4 y0 a2 a5 a6 a7 a8 a9 a10 a11 x2 a1 a12 a13 a14 x3 x4 x5 x6 x7 x8 x9 a12 a15 a15 f0 a5 g0 a7 g1 a6 g2 a10 f1 a11 f2 a8 f3 a9 f4 a3 f5) sz) (va_Qv (fun u => ((((-1) ≤ x4.toInt ∧ x4.toInt ≤ 5))) ∧ (0 ≤ (u.2.2.2.1 0).toInt ∧ (u.2.2.2.1 0).toInt ≤ 4) ∧ (∀ j, (-3) ≤ ((u.2.1 0) j).toInt ∧ ((u.2.1 0) j).toInt ≤ 24) ∧ (∀ j, 0 ≤ ((u.2.1 1) j).toInt ∧ ((u.2.1 1) j).toInt ≤ 23)) (gB D (va_A (zS_71 cB cC cI cJ a0 a2 a3 a4 y0 a2 a5 a6 a7 a8 a9 a10 a11 x2 a1 a12 a13 a14 x3 x4 x5 x6 x7 x8 x9 a12 a15 a15 f0 a5 g0 a7 g1 a6 g2 a10 f1 a11 f2 a8 f3 a9 f4 a3 f5) sz) (fun u : gEx => (zS_71 cB cC cI cJ a0 a2 a3 a4 (u.2.2.2.2 0) a2 a5 a6 a7 a8 a9 a10 a11 (u.2.2.2.1 0) a1 a12 a13 a14 x3 x4 x5 x6 x7 x8 x9 a12 a15 a15 f0 a5 (u.2.2.1 0) a7 (u.2.2.1 1) a6 (u.2.2.1 2) a10 (u.2.1 0) a11 (u.2.1 1) a8 (u.2.1 2) a9 (u.2.1 3) a3 (u.2.1 4)))) (va_A (zS_71 cB cC cI cJ a0 a2 a3 a4 y0 a2 a5 a6 a7 a8 a9 a10 a11 x2 a1 a12 a13 a14 x3 x4 x5 x6 x7 x8 x9 a12 a15 a15 f0 a5 g0 a7 g1 a6 g2 a10 f1 a11 f2 a8 f3 a9 f4 a3 f5) sz)) 0 0 (va_A (zS_71 cB cC cI cJ a0 a2 a3 a4 y0 a2 a5 a6 a7 a8 a9 a10 a11 x2 a1 a12 a13 a14 x3 x4 x5 x6 x7 x8 x9 a12 a15 a15 f0 a5 g0 a7 g1 a6 g2 a10 f1 a11 f2 a8 f3 a9 f4 a3 f5) sz) := by
  refine gOf_v (by decide +kernel) (Nat.le_of_ble_eq_true rfl) ?_
  intro p e s m args below meth c ls A Q hx hb hts hown hml hN hK hP hD hA hl hret
  replace hown : s.vm.findClass RX6 = some m.cls := hown
  have hS : va_S A s.heap s.heap [] := va_S.rf
  replace hP : va_P D gcl (zS_71 cB cC cI cJ a0 a2 a3 a4 y0 a2 a5 a6 a7 a8 a9 a10 a11 x2 a1 a12 a13 a14 x3 x4 x5 x6 x7 x8 x9 a12 a15 a15 f0 a5 g0 a7 g1 a6 g2 a10 f1 a11 f2 a8 f3 a9 f4 a3 f5) s.heap := hP
  replace hl : lv_has ls 8 [(0, .ref a0), (1, .ref a1), (2, .int x0), (3, .int x1)] := hl
  have rx0 : zBd x0.toInt (-2147483648) 2147483647 := n_rng x0
  have ry0 := n_rngL y0
  have rx8 : zBd x8.toInt (-2147483648) 2147483647 := n_rng x8
  have rx9 : zBd x9.toInt (-2147483648) 2147483647 := n_rng x9
  refine lv_aload_n (pc := 0) hx hb dX6_findShortest_0 rfl (lv_at hl 0 rfl) ?_
  refine va_get (pc := 1) (ci := 6) (v := .ref a2) (C := RX6) (T := TX6) (N := 4) hx hb hts iX6 hown hK hP 0 rfl rfl 0 (by decide) (hts _ tw_293) (fun _ h9 => h9) rfl dX6_findShortest_1 ?_
  refine lv_aload_n (pc := 4) hx hb dX6_findShortest_4 rfl (lv_at hl 1 rfl) ?_
  refine gd_v (pc := 5) (wc := (zS_42 cB cC cI cJ a2 a5 a6 a7 a8 a9 a10 a11 x2 a1 a12 a13 a14 x3 x4 x5 x6 x7 x8 x9 a12 a15 a15 f0 a5 g0 a7 g1 a6 g2)) hP hD hS hA [1, 2, 3, 4, 5, 6, 7] rfl (by decide +kernel) (fun _ => by rfl) (fun hPc hDc => va_runV (As := [.ref a1]) (rest := []) ⟨hx, hb, hml, hown, hts⟩ (k_X10_start l D cB cC cI cJ _ a2 a1 a5 a6 a7 a8 a9 a10 a11 a12 a13 a14 a15 x2 x3 x4 x5 x6 x7 x8 x9 f0 g0 g1 g2 h_x2 h_x3 h_x4 h_x5 h_x6 h_x7) ⟨gcwB hts tw_883 tw_8 tw_1139 hd_yX10_start ⟨Nat.le_of_ble_eq_true rfl, Nat.le_of_ble_eq_true rfl⟩, hts _ tw_881, hts _ tw_882⟩ ⟨gblind, va_recv hK hPc (ci := 10) (q0 := 0) rfl rfl, (gpreS hPc hK hDc hN).2⟩ rfl rfl hl.1 rfl (lv_room (Nat.le_of_ble_eq_true rfl)) dX6_findShortest_5 ⟨Nat.le_of_ble_eq_true rfl, Nat.le_of_ble_eq_true rfl⟩) (fun u_1 H locs hw_3 hP hD hS => ?_)
  replace hP : va_P D gcl (zS_71 cB cC cI cJ a0 a2 a3 a4 y0 a2 a5 a6 a7 a8 a9 a10 a11 (u_1.2.2.2.1 0) a1 a12 a13 a14 x3 x4 x5 x6 x7 x8 x9 a12 a15 a15 f0 a5 (u_1.2.2.1 0) a7 (u_1.2.2.1 1) a6 (u_1.2.2.1 2) a10 f1 a11 f2 a8 f3 a9 f4 a3 f5) H := hP
  replace hD : va_D A (zS_71 cB cC cI cJ a0 a2 a3 a4 y0 a2 a5 a6 a7 a8 a9 a10 a11 (u_1.2.2.2.1 0) a1 a12 a13 a14 x3 x4 x5 x6 x7 x8 x9 a12 a15 a15 f0 a5 (u_1.2.2.1 0) a7 (u_1.2.2.1 1) a6 (u_1.2.2.1 2) a10 f1 a11 f2 a8 f3 a9 f4 a3 f5) := hD
  have hw_4 : (0 ≤ (u_1.2.2.2.1 0).toInt ∧ (u_1.2.2.2.1 0).toInt ≤ 4) := hw_3
  refine lv_iconst (pc := 8) (v := 0) hx hb dX6_findShortest_8 (by decide) ?_
  refine lv_istore (pc := 9) (lv' := [(4, .int 0), (0, .ref a0), (1, .ref a1), (2, .int x0), (3, .int x1)]) hx hb dX6_findShortest_9 hl (by decide) rfl (fun ls hl => ?_)
  have lp_11 : ∀ (n : Nat) (x_5 : Int32) (f_7 f_9 f_10 : Nat → Int32) (H : Heap) (locs : List Loc) (ls : Array Slot), (0 ≤ x_5.toInt ∧ x_5.toInt ≤ 2147483647) → (∀ j, (-3) ≤ (f_7 j).toInt ∧ (f_7 j).toInt ≤ 24) → (2147483647 - x_5.toInt).toNat < n → va_P D gcl (zS_71 cB cC cI cJ a0 a2 a3 a4 y0 a2 a5 a6 a7 a8 a9 a10 a11 (u_1.2.2.2.1 0) a1 a12 a13 a14 x3 x4 x5 x6 x7 x8 x9 a12 a15 a15 f0 a5 (u_1.2.2.1 0) a7 (u_1.2.2.1 1) a6 (u_1.2.2.1 2) a10 f_7 a11 f2 a8 f_9 a9 f_10 a3 f5) H → va_D A (zS_71 cB cC cI cJ a0 a2 a3 a4 y0 a2 a5 a6 a7 a8 a9 a10 a11 (u_1.2.2.2.1 0) a1 a12 a13 a14 x3 x4 x5 x6 x7 x8 x9 a12 a15 a15 f0 a5 (u_1.2.2.1 0) a7 (u_1.2.2.1 1) a6 (u_1.2.2.1 2) a10 f_7 a11 f2 a8 f_9 a9 f_10 a3 f5) → va_S A s.heap H locs → lv_has ls 8 [(4, .int x_5), (0, .ref a0), (1, .ref a1), (2, .int x0), (3, .int x1)] → W p l e ({ frames := 3, cells := 0, slots := 0, locals := 77 }) s m args below meth c H locs 0 0 Q (F0 m 11 ls []) := by
    intro n
    induction n with
    | zero => intro x_5 f_7 f_9 f_10 H locs ls hi_6 hi_8 hmu; exact absurd hmu (Nat.not_lt_zero _)
    | succ n ih_lp_11 =>
      intro x_5 f_7 f_9 f_10 H locs ls hi_6 hi_8 hmu_lp_11 hP hD hS hl
      refine lv_iload (pc := 11) hx hb dX6_findShortest_11 (lv_at hl 0 rfl) ?_
      refine lv_aload_n (pc := 13) hx hb dX6_findShortest_13 rfl (lv_at hl 2 rfl) ?_
      refine va_getN (pc := 14) (ci := 1) (v := .int x4) (C := RX1) (T := TX1) (N := 10) hx hb hts iX1 hown hK hP 2 rfl rfl 4 (by decide) (va_Nw.use rfl (hN _ tn_121)) (fun _ h9 => h9) rfl dX6_findShortest_14 ?_
      refine b_icmp_ge (pc := 17) (tgt := 78) hx hb rfl rfl  dX6_findShortest_17 (by decide) (fun c_12 => ?_) (fun c_12 => ?_)
      ·
        refine lv_aload_n (pc := 78) hx hb dX6_findShortest_78 rfl (lv_at hl 1 rfl) ?_
        refine lv_ldc2 (pc := 79) hx hb hown (hts _ tw_1141) dX6_findShortest_79 ?_
        refine va_put (pc := 82) (ci := 6) (v := .long 1000000000000000) (ty := .long) (C := RX6) (T := TX6) (N := 4) hx hb hts iX6 tyX6 tyX6_ok nmX6 hown hK hP hD hS 0 rfl rfl 3 (by decide) (hts _ tw_297) (fun _ h9 => h9) rfl (by decide +kernel) (by decide +kernel) (by decide +kernel) (Nat.le_of_ble_eq_true rfl) dX6_findShortest_82 (fun H locs hP hD hS => ?_)
        replace hP : va_P D gcl (zS_71 cB cC cI cJ a0 a2 a3 a4 1000000000000000 a2 a5 a6 a7 a8 a9 a10 a11 (u_1.2.2.2.1 0) a1 a12 a13 a14 x3 x4 x5 x6 x7 x8 x9 a12 a15 a15 f0 a5 (u_1.2.2.1 0) a7 (u_1.2.2.1 1) a6 (u_1.2.2.1 2) a10 f_7 a11 f2 a8 f_9 a9 f_10 a3 f5) H := hP
        replace hD : va_D A (zS_71 cB cC cI cJ a0 a2 a3 a4 1000000000000000 a2 a5 a6 a7 a8 a9 a10 a11 (u_1.2.2.2.1 0) a1 a12 a13 a14 x3 x4 x5 x6 x7 x8 x9 a12 a15 a15 f0 a5 (u_1.2.2.1 0) a7 (u_1.2.2.1 1) a6 (u_1.2.2.1 2) a10 f_7 a11 f2 a8 f_9 a9 f_10 a3 f5) := hD
        refine lv_aload_n (pc := 85) hx hb dX6_findShortest_85 rfl (lv_at hl 1 rfl) ?_
        refine va_get (pc := 86) (ci := 6) (v := .ref a2) (C := RX6) (T := TX6) (N := 4) hx hb hts iX6 hown hK hP 0 rfl rfl 0 (by decide) (hts _ tw_293) (fun _ h9 => h9) rfl dX6_findShortest_86 ?_
        refine va_getN (pc := 89) (ci := 10) (v := .ref a10) (C := RX10) (T := TX10) (N := 8) hx hb hts iX10 hown hK hP 1 rfl rfl 5 (by decide) (va_Nw.use rfl (hN _ tn_215)) (fun _ h9 => h9) rfl dX6_findShortest_89 ?_
        refine lv_aload_n (pc := 92) hx hb dX6_findShortest_92 rfl (lv_at hl 1 rfl) ?_
        refine va_get (pc := 93) (ci := 6) (v := .ref a2) (C := RX6) (T := TX6) (N := 4) hx hb hts iX6 hown hK hP 0 rfl rfl 0 (by decide) (hts _ tw_293) (fun _ h9 => h9) rfl dX6_findShortest_93 ?_
        refine va_getN (pc := 96) (ci := 10) (v := .int (u_1.2.2.2.1 0)) (C := RX10) (T := TX10) (N := 8) hx hb hts iX10 hown hK hP 1 rfl rfl 7 (by decide) (va_Nw.use rfl (hN _ tn_221)) (fun _ h9 => h9) rfl dX6_findShortest_96 ?_
        refine va_iald (pc := 99) hx hb hK hP 8 2 rfl rfl (n_in rfl (by first | exact (om_0 hw_4.1) | ((first | omega | (unfold zBd at *; omega)))) (by first | exact (om_1135 hw_4.2) | ((first | omega | (unfold zBd at *; omega))))) dX6_findShortest_99 ?_
        refine lv_topi (fun x_13 ex_13 => ?_)
        have rx_13 : ((-3) ≤ x_13.toInt ∧ x_13.toInt ≤ 24) := by rw [ex_13]; exact hi_8 _
        refine lv_istore (pc := 100) (lv' := [(4, .int x_13), (0, .ref a0), (1, .ref a1), (2, .int x0), (3, .int x1)]) hx hb dX6_findShortest_100 hl (by decide) rfl (fun ls hl => ?_)
        refine lv_iload (pc := 102) hx hb dX6_findShortest_102 (lv_at hl 0 rfl) ?_
        refine lv_iconst (pc := 104) (v := 1) hx hb dX6_findShortest_104 (by decide) ?_
        refine b_isub (pc := 105) hx hb rfl tI_1 (by first | exact (om_1204 rx_13.1) | ((first | omega | (unfold zBd at *; omega)))) (by first | exact (om_1205 rx_13.2) | ((first | omega | (unfold zBd at *; omega)))) dX6_findShortest_105 (fun x_14 ex_14 => ?_)
        refine lv_iconst (pc := 106) (v := 2) hx hb dX6_findShortest_106 (by decide) ?_
        refine lv_idiv (pc := 107) hx hb dX6_findShortest_107 (fun h => by have q := congrArg Int32.toInt h; have k := tI_0; have k2 := tI_2; (first | omega | (unfold zBd at *; omega))) ?_
        refine lv_topi (fun x_15 _ => ?_)
        have rx_15 : zBd x_15.toInt (-2147483648) 2147483647 := n_rng x_15
        refine lv_istore (pc := 108) (lv' := [(5, .int x_15), (4, .int x_13), (0, .ref a0), (1, .ref a1), (2, .int x0), (3, .int x1)]) hx hb dX6_findShortest_108 hl (by decide) rfl (fun ls hl => ?_)
        refine lv_aload_n (pc := 110) hx hb dX6_findShortest_110 rfl (lv_at hl 2 rfl) ?_
        refine va_get (pc := 111) (ci := 6) (v := .ref a2) (C := RX6) (T := TX6) (N := 4) hx hb hts iX6 hown hK hP 0 rfl rfl 0 (by decide) (hts _ tw_293) (fun _ h9 => h9) rfl dX6_findShortest_111 ?_
        refine gd_i (pc := 114) (wc := (zS_83 cB cC cI cJ a2 a5 a6 a7 a8 a9 a10 a11 (u_1.2.2.2.1 0) a10 f_7)) hP hD hS hA [1, 8] rfl (by decide +kernel) (fun _ => by rfl) (fun hPc hDc => va_runV (As := []) (rest := []) ⟨hx, hb, hml, hown, hts⟩ (k_X10_lineCount l D cB cC cI cJ _ a2 a5 a6 a7 a8 a9 a10 a11 (u_1.2.2.2.1 0) f_7 hw_4 hi_8) ⟨gcwB hts tw_914 tw_8 tw_1142 hd_yX10_lineCount ⟨Nat.le_of_ble_eq_true rfl, Nat.le_of_ble_eq_true rfl⟩, hts _ tw_912, hts _ tw_913⟩ ⟨gblind, va_recv hK hPc (ci := 10) (q0 := 0) rfl rfl, (gpreS hPc hK hDc hN).2⟩ rfl rfl hl.1 rfl (lv_room (Nat.le_of_ble_eq_true rfl)) dX6_findShortest_114 ⟨Nat.le_of_ble_eq_true rfl, Nat.le_of_ble_eq_true rfl⟩) (fun r_17 u_16 H locs hw_18 hP hD hS => ?_)
        replace hP : va_P D gcl (zS_71 cB cC cI cJ a0 a2 a3 a4 1000000000000000 a2 a5 a6 a7 a8 a9 a10 a11 (u_1.2.2.2.1 0) a1 a12 a13 a14 x3 x4 x5 x6 x7 x8 x9 a12 a15 a15 f0 a5 (u_1.2.2.1 0) a7 (u_1.2.2.1 1) a6 (u_1.2.2.1 2) a10 f_7 a11 f2 a8 f_9 a9 f_10 a3 f5) H := hP
        replace hD : va_D A (zS_71 cB cC cI cJ a0 a2 a3 a4 1000000000000000 a2 a5 a6 a7 a8 a9 a10 a11 (u_1.2.2.2.1 0) a1 a12 a13 a14 x3 x4 x5 x6 x7 x8 x9 a12 a15 a15 f0 a5 (u_1.2.2.1 0) a7 (u_1.2.2.1 1) a6 (u_1.2.2.1 2) a10 f_7 a11 f2 a8 f_9 a9 f_10 a3 f5) := hD
        have hw_19 : ((((-2147483648) ≤ r_17.toInt ∧ r_17.toInt ≤ 2147483647) ∧ (0 ≤ (u_1.2.2.2.1 0).toInt ∧ (u_1.2.2.2.1 0).toInt ≤ 4))) := hw_18
        have rr_17 : zBd r_17.toInt (-2147483648) 2147483647 := n_rng r_17
        refine lv_iconst (pc := 117) (v := 1) hx hb dX6_findShortest_117 (by decide) ?_
        refine lv_isub (pc := 118) hx hb dX6_findShortest_118 ?_
        refine lv_topi (fun x_20 _ => ?_)
        have rx_20 : zBd x_20.toInt (-2147483648) 2147483647 := n_rng x_20
        refine lv_iconst (pc := 119) (v := 2) hx hb dX6_findShortest_119 (by decide) ?_
        refine lv_idiv (pc := 120) hx hb dX6_findShortest_120 (fun h => by have q := congrArg Int32.toInt h; have k := tI_0; have k2 := tI_2; (first | omega | (unfold zBd at *; omega))) ?_
        refine lv_topi (fun x_21 _ => ?_)
        have rx_21 : zBd x_21.toInt (-2147483648) 2147483647 := n_rng x_21
        refine lv_istore (pc := 121) (lv' := [(6, .int x_21), (5, .int x_15), (4, .int x_13), (0, .ref a0), (1, .ref a1), (2, .int x0), (3, .int x1)]) hx hb dX6_findShortest_121 hl (by decide) rfl (fun ls hl => ?_)
        refine lv_aload_n (pc := 123) hx hb dX6_findShortest_123 rfl (lv_at hl 3 rfl) ?_
        refine va_get (pc := 124) (ci := 6) (v := .ref a2) (C := RX6) (T := TX6) (N := 4) hx hb hts iX6 hown hK hP 0 rfl rfl 0 (by decide) (hts _ tw_293) (fun _ h9 => h9) rfl dX6_findShortest_124 ?_
        refine gd_v (pc := 127) (wc := (zS_25 cB cC cI cJ a2 a5 a6 a7 a8 a9 a10 a11 (u_1.2.2.2.1 0) a11 f2 a8 f_9 a9 f_10 a6 (u_1.2.2.1 2) a5 (u_1.2.2.1 0) a7 (u_1.2.2.1 1))) hP hD hS hA [1, 9, 10, 11, 7, 5, 6] rfl (by decide +kernel) (fun _ => by rfl) (fun hPc hDc => va_runV (As := []) (rest := []) ⟨hx, hb, hml, hown, hts⟩ (k_X10_firstLine l D cB cC cI cJ _ a2 a5 a6 a7 a8 a9 a10 a11 (u_1.2.2.2.1 0) f2 f_9 f_10 (u_1.2.2.1 2) (u_1.2.2.1 0) (u_1.2.2.1 1) hw_4 hf_f2) ⟨gcwB hts tw_904 tw_8 tw_1143 hd_yX10_firstLine ⟨Nat.le_of_ble_eq_true rfl, Nat.le_of_ble_eq_true rfl⟩, hts _ tw_902, hts _ tw_903⟩ ⟨gblind, va_recv hK hPc (ci := 10) (q0 := 0) rfl rfl, (gpreS hPc hK hDc hN).2⟩ rfl rfl hl.1 rfl (lv_room (Nat.le_of_ble_eq_true rfl)) dX6_findShortest_127 ⟨Nat.le_of_ble_eq_true rfl, Nat.le_of_ble_eq_true rfl⟩) (fun u_22 H locs hw_24 hP hD hS => ?_)
        replace hP : va_P D gcl (zS_71 cB cC cI cJ a0 a2 a3 a4 1000000000000000 a2 a5 a6 a7 a8 a9 a10 a11 (u_1.2.2.2.1 0) a1 a12 a13 a14 x3 x4 x5 x6 x7 x8 x9 a12 a15 a15 f0 a5 (u_1.2.2.1 0) a7 (u_22.2.2.1 1) a6 (u_22.2.2.1 0) a10 f_7 a11 (u_22.2.1 0) a8 f_9 a9 f_10 a3 f5) H := hP
        replace hD : va_D A (zS_71 cB cC cI cJ a0 a2 a3 a4 1000000000000000 a2 a5 a6 a7 a8 a9 a10 a11 (u_1.2.2.2.1 0) a1 a12 a13 a14 x3 x4 x5 x6 x7 x8 x9 a12 a15 a15 f0 a5 (u_1.2.2.1 0) a7 (u_22.2.2.1 1) a6 (u_22.2.2.1 0) a10 f_7 a11 (u_22.2.1 0) a8 f_9 a9 f_10 a3 f5) := hD
        have hw_25 : (∀ j, 0 ≤ ((u_22.2.1 0) j).toInt ∧ ((u_22.2.1 0) j).toInt ≤ 23) := hw_24
        refine lv_iconst (pc := 130) (v := 0) hx hb dX6_findShortest_130 (by decide) ?_
        refine lv_istore (pc := 131) (lv' := [(7, .int 0), (6, .int x_21), (5, .int x_15), (4, .int x_13), (0, .ref a0), (1, .ref a1), (2, .int x0), (3, .int x1)]) hx hb dX6_findShortest_131 hl (by decide) rfl (fun ls hl => ?_)
        have lp_35 : ∀ (n : Nat) (x_26 : Int32) (y_28 : Int64) (f_32 f_34 : Nat → Int32) (g_30 g_31 : Nat → Int64) (H : Heap) (locs : List Loc) (ls : Array Slot), (0 ≤ x_26.toInt ∧ x_26.toInt ≤ 2147483647) → (∀ j, 0 ≤ (f_32 j).toInt ∧ (f_32 j).toInt ≤ 23) → (2147483647 - x_26.toInt).toNat < n → va_P D gcl (zS_71 cB cC cI cJ a0 a2 a3 a4 y_28 a2 a5 a6 a7 a8 a9 a10 a11 (u_1.2.2.2.1 0) a1 a12 a13 a14 x3 x4 x5 x6 x7 x8 x9 a12 a15 a15 f0 a5 (u_1.2.2.1 0) a7 g_30 a6 g_31 a10 f_7 a11 f_32 a8 f_9 a9 f_10 a3 f_34) H → va_D A (zS_71 cB cC cI cJ a0 a2 a3 a4 y_28 a2 a5 a6 a7 a8 a9 a10 a11 (u_1.2.2.2.1 0) a1 a12 a13 a14 x3 x4 x5 x6 x7 x8 x9 a12 a15 a15 f0 a5 (u_1.2.2.1 0) a7 g_30 a6 g_31 a10 f_7 a11 f_32 a8 f_9 a9 f_10 a3 f_34) → va_S A s.heap H locs → lv_has ls 8 [(7, .int x_26), (6, .int x_21), (5, .int x_15), (4, .int x_13), (0, .ref a0), (1, .ref a1), (2, .int x0), (3, .int x1)] → W p l e ({ frames := 3, cells := 0, slots := 0, locals := 77 }) s m args below meth c H locs 0 0 Q (F0 m 133 ls []) := by
          intro n
          induction n with
          | zero => intro x_26 y_28 f_32 f_34 g_30 g_31 H locs ls hi_27 hi_33 hmu; exact absurd hmu (Nat.not_lt_zero _)
          | succ n ih_lp_35 =>
            intro x_26 y_28 f_32 f_34 g_30 g_31 H locs ls hi_27 hi_33 hmu_lp_35 hP hD hS hl
            have hi_29 := n_rngL y_28
            refine lv_iload (pc := 133) hx hb dX6_findShortest_133 (lv_at hl 0 rfl) ?_
            refine lv_iload (pc := 135) hx hb dX6_findShortest_135 (lv_at hl 1 rfl) ?_
            refine b_icmp_ge (pc := 137) (tgt := 159) hx hb rfl rfl  dX6_findShortest_137 (by decide) (fun c_36 => ?_) (fun c_36 => ?_)
            ·
              refine lv_iload (pc := 159) hx hb dX6_findShortest_159 (lv_at hl 2 rfl) ?_
              refine b_if_le (pc := 161) (tgt := 170) hx hb rfl  dX6_findShortest_161 (by decide) (fun c_37 => ?_) (fun c_37 => ?_)
              ·
                exact hret ((fun _ => 0), (fun k => [f_7, f_32, f_9, f_10, f_34].getD k (fun _ => 0)), (fun k => [(u_1.2.2.1 0), g_30, g_31].getD k (fun _ => 0)), (fun k => [(u_1.2.2.2.1 0)].getD k 0), (fun k => [y_28].getD k 0)) dX6_findShortest_170 ⟨(show ((((-1) ≤ x4.toInt ∧ x4.toInt ≤ 5))) from h_x4), (show (0 ≤ ((u_1.2.2.2.1 0) : Int32).toInt ∧ ((u_1.2.2.2.1 0) : Int32).toInt ≤ 4) from hw_4), hi_8, hi_33⟩ (g_psub (wc := (zS_71 cB cC cI cJ a0 a2 a3 a4 y_28 a2 a5 a6 a7 a8 a9 a10 a11 (u_1.2.2.2.1 0) a1 a12 a13 a14 x3 x4 x5 x6 x7 x8 x9 a12 a15 a15 f0 a5 (u_1.2.2.1 0) a7 g_30 a6 g_31 a10 f_7 a11 f_32 a8 f_9 a9 f_10 a3 f_34)) hP [0, 1, 2, 3, 4, 5, 6, 7, 8, 9, 10, 11, 12] rfl) (hD.sub (ws' := (zS_71 cB cC cI cJ a0 a2 a3 a4 y_28 a2 a5 a6 a7 a8 a9 a10 a11 (u_1.2.2.2.1 0) a1 a12 a13 a14 x3 x4 x5 x6 x7 x8 x9 a12 a15 a15 f0 a5 (u_1.2.2.1 0) a7 g_30 a6 g_31 a10 f_7 a11 f_32 a8 f_9 a9 f_10 a3 f_34)) [0, 1, 2, 3, 4, 5, 6, 7, 8, 9, 10, 11, 12] (by decide) rfl) hS
              ·
                refine lv_aload_n (pc := 164) hx hb dX6_findShortest_164 rfl (lv_at hl 4 rfl) ?_
                refine lv_iload (pc := 165) hx hb dX6_findShortest_165 (lv_at hl 2 rfl) ?_
                refine gc_v (pc := 167) (wc := (zS_96 cB cC cI cJ a0 a2 a3 a4 y_28 a2 a5 a6 a7 a8 a9 a10 a11 (u_1.2.2.2.1 0) a5 (u_1.2.2.1 0) a9 f_10 a7 g_30 a8 f_9 a6 g_31 a3 f_34 a11 f_32)) (wr := [(a1, .inr (1, [.ref a12, .ref a13, .ref a14, .int x3, .int x4, .int x5, .int x6, .int x7, .int x8, .int x9])), (a12, .inr (8, [.ref a15])), (a15, .inl (cI, 30, .inl f0)), (a10, .inl (cI, 5, .inl f_7))]) hP hD hS hA [0, 1, 5, 11, 6, 10, 7, 12, 9] [2, 3, 4, 8] rfl rfl (by decide +kernel) (by decide +kernel) (by decide +kernel) (fun hPc hDc => va_runV (As := [.int x_15]) (rest := []) ⟨hx, hb, hml, hown, hts⟩ (k_X6_lookAtLine l D cB cC cI cJ _ a0 a2 a3 a4 a5 a6 a7 a8 a9 a10 a11 x_15 (u_1.2.2.2.1 0) y_28 f_10 f_9 f_34 f_32 (u_1.2.2.1 0) g_30 g_31 hw_4 hi_33) ⟨gcwB hts tw_1147 tw_9 tw_1144 hd_yX6_lookAtLine ⟨Nat.le_of_ble_eq_true rfl, Nat.le_of_ble_eq_true rfl⟩, hts _ tw_1146, hts _ tp_45⟩ ⟨gblind, va_recv hK hPc (ci := 6) (q0 := 0) rfl rfl, (gpreS hPc hK hDc hN).2⟩ rfl rfl hl.1 rfl (lv_room (Nat.le_of_ble_eq_true rfl)) dX6_findShortest_167 ⟨Nat.le_of_ble_eq_true rfl, Nat.le_of_ble_eq_true rfl⟩) (fun u_38 H locs hw_40 hP hD hS => ?_)
                replace hP : va_P D gcl (zS_190 cB cC cI cJ a1 a12 a13 a14 x3 x4 x5 x6 x7 x8 x9 a12 a15 a15 f0 a10 f_7 a0 a2 a3 a4 (u_38.2.2.2.2 0) a2 a5 a6 a7 a8 a9 a10 a11 (u_1.2.2.2.1 0) a5 (u_1.2.2.1 0) a9 f_10 a7 g_30 a8 f_9 a6 g_31 a3 (u_38.2.1 0) a11 f_32) H := hP
                replace hD : va_D A (zS_190 cB cC cI cJ a1 a12 a13 a14 x3 x4 x5 x6 x7 x8 x9 a12 a15 a15 f0 a10 f_7 a0 a2 a3 a4 (u_38.2.2.2.2 0) a2 a5 a6 a7 a8 a9 a10 a11 (u_1.2.2.2.1 0) a5 (u_1.2.2.1 0) a9 f_10 a7 g_30 a8 f_9 a6 g_31 a3 (u_38.2.1 0) a11 f_32) := hD
                have ru_38_0 := n_rngL (u_38.2.2.2.2 0)
                have hw_41 : ((((-9223372036854775808) ≤ y_28.toInt ∧ y_28.toInt ≤ 9223372036854775807)) ∨ (((-9223372036854775807) ≤ y_28.toInt ∧ y_28.toInt ≤ 9223372036854775807) ∧ (0 ≤ (u_1.2.2.2.1 0).toInt ∧ (u_1.2.2.2.1 0).toInt ≤ 4))) := hw_40
                exact hret ((fun _ => 0), (fun k => [f_7, f_32, f_9, f_10, (u_38.2.1 0)].getD k (fun _ => 0)), (fun k => [(u_1.2.2.1 0), g_30, g_31].getD k (fun _ => 0)), (fun k => [(u_1.2.2.2.1 0)].getD k 0), (fun k => [(u_38.2.2.2.2 0)].getD k 0)) dX6_findShortest_170 ⟨(show ((((-1) ≤ x4.toInt ∧ x4.toInt ≤ 5))) from h_x4), (show (0 ≤ ((u_1.2.2.2.1 0) : Int32).toInt ∧ ((u_1.2.2.2.1 0) : Int32).toInt ≤ 4) from hw_4), hi_8, hi_33⟩ (g_psub (wc := (zS_71 cB cC cI cJ a0 a2 a3 a4 (u_38.2.2.2.2 0) a2 a5 a6 a7 a8 a9 a10 a11 (u_1.2.2.2.1 0) a1 a12 a13 a14 x3 x4 x5 x6 x7 x8 x9 a12 a15 a15 f0 a5 (u_1.2.2.1 0) a7 g_30 a6 g_31 a10 f_7 a11 f_32 a8 f_9 a9 f_10 a3 (u_38.2.1 0))) hP [4, 5, 0, 1, 2, 6, 8, 10, 3, 12, 9, 7, 11] rfl) (hD.sub (ws' := (zS_71 cB cC cI cJ a0 a2 a3 a4 (u_38.2.2.2.2 0) a2 a5 a6 a7 a8 a9 a10 a11 (u_1.2.2.2.1 0) a1 a12 a13 a14 x3 x4 x5 x6 x7 x8 x9 a12 a15 a15 f0 a5 (u_1.2.2.1 0) a7 g_30 a6 g_31 a10 f_7 a11 f_32 a8 f_9 a9 f_10 a3 (u_38.2.1 0))) [4, 5, 0, 1, 2, 6, 8, 10, 3, 12, 9, 7, 11] (by decide) rfl) hS
            ·
              refine lv_aload_n (pc := 140) hx hb dX6_findShortest_140 rfl (lv_at hl 4 rfl) ?_
              refine lv_iload (pc := 141) hx hb dX6_findShortest_141 (lv_at hl 3 rfl) ?_
              refine gc_v (pc := 143) (wc := (zS_96 cB cC cI cJ a0 a2 a3 a4 y_28 a2 a5 a6 a7 a8 a9 a10 a11 (u_1.2.2.2.1 0) a5 (u_1.2.2.1 0) a9 f_10 a7 g_30 a8 f_9 a6 g_31 a3 f_34 a11 f_32)) (wr := [(a1, .inr (1, [.ref a12, .ref a13, .ref a14, .int x3, .int x4, .int x5, .int x6, .int x7, .int x8, .int x9])), (a12, .inr (8, [.ref a15])), (a15, .inl (cI, 30, .inl f0)), (a10, .inl (cI, 5, .inl f_7))]) hP hD hS hA [0, 1, 5, 11, 6, 10, 7, 12, 9] [2, 3, 4, 8] rfl rfl (by decide +kernel) (by decide +kernel) (by decide +kernel) (fun hPc hDc => va_runV (As := [.int x_13]) (rest := []) ⟨hx, hb, hml, hown, hts⟩ (k_X6_lookAtLine l D cB cC cI cJ _ a0 a2 a3 a4 a5 a6 a7 a8 a9 a10 a11 x_13 (u_1.2.2.2.1 0) y_28 f_10 f_9 f_34 f_32 (u_1.2.2.1 0) g_30 g_31 hw_4 hi_33) ⟨gcwB hts tw_1147 tw_9 tw_1144 hd_yX6_lookAtLine ⟨Nat.le_of_ble_eq_true rfl, Nat.le_of_ble_eq_true rfl⟩, hts _ tw_1146, hts _ tp_45⟩ ⟨gblind, va_recv hK hPc (ci := 6) (q0 := 0) rfl rfl, (gpreS hPc hK hDc hN).2⟩ rfl rfl hl.1 rfl (lv_room (Nat.le_of_ble_eq_true rfl)) dX6_findShortest_143 ⟨Nat.le_of_ble_eq_true rfl, Nat.le_of_ble_eq_true rfl⟩) (fun u_42 H locs hw_44 hP hD hS => ?_)
              replace hP : va_P D gcl (zS_190 cB cC cI cJ a1 a12 a13 a14 x3 x4 x5 x6 x7 x8 x9 a12 a15 a15 f0 a10 f_7 a0 a2 a3 a4 (u_42.2.2.2.2 0) a2 a5 a6 a7 a8 a9 a10 a11 (u_1.2.2.2.1 0) a5 (u_1.2.2.1 0) a9 f_10 a7 g_30 a8 f_9 a6 g_31 a3 (u_42.2.1 0) a11 f_32) H := hP
              replace hD : va_D A (zS_190 cB cC cI cJ a1 a12 a13 a14 x3 x4 x5 x6 x7 x8 x9 a12 a15 a15 f0 a10 f_7 a0 a2 a3 a4 (u_42.2.2.2.2 0) a2 a5 a6 a7 a8 a9 a10 a11 (u_1.2.2.2.1 0) a5 (u_1.2.2.1 0) a9 f_10 a7 g_30 a8 f_9 a6 g_31 a3 (u_42.2.1 0) a11 f_32) := hD
              have ru_42_0 := n_rngL (u_42.2.2.2.2 0)
              have hw_45 : ((((-9223372036854775808) ≤ y_28.toInt ∧ y_28.toInt ≤ 9223372036854775807)) ∨ (((-9223372036854775807) ≤ y_28.toInt ∧ y_28.toInt ≤ 9223372036854775807) ∧ (0 ≤ (u_1.2.2.2.1 0).toInt ∧ (u_1.2.2.2.1 0).toInt ≤ 4))) := hw_44
              refine lv_aload_n (pc := 146) hx hb dX6_findShortest_146 rfl (lv_at hl 4 rfl) ?_
              refine va_get (pc := 147) (ci := 6) (v := .ref a2) (C := RX6) (T := TX6) (N := 4) hx hb hts iX6 hown hK hP 4 rfl rfl 0 (by decide) (hts _ tw_293) (fun _ h9 => h9) rfl dX6_findShortest_147 ?_
              refine gd_v (pc := 150) (wc := (zS_46 cB cC cI cJ a2 a5 a6 a7 a8 a9 a10 a11 (u_1.2.2.2.1 0) a11 f_32 a10 f_7 a8 f_9 a9 f_10 a6 g_31 a5 (u_1.2.2.1 0) a7 g_30)) hP hD hS hA [5, 12, 3, 9, 7, 10, 6, 8] rfl (by decide +kernel) (fun _ => by rfl) (fun hPc hDc => va_runV (As := []) (rest := []) ⟨hx, hb, hml, hown, hts⟩ (k_X10_nextLine l D cB cC cI cJ _ a2 a5 a6 a7 a8 a9 a10 a11 (u_1.2.2.2.1 0) f_32 f_7 f_9 f_10 g_31 (u_1.2.2.1 0) g_30 hw_4 hi_33 hi_8) ⟨gcwB hts tw_936 tw_8 tw_1159 hd_yX10_nextLine ⟨Nat.le_of_ble_eq_true rfl, Nat.le_of_ble_eq_true rfl⟩, hts _ tw_934, hts _ tw_935⟩ ⟨gblind, va_recv hK hPc (ci := 10) (q0 := 0) rfl rfl, (gpreS hPc hK hDc hN).2⟩ rfl rfl hl.1 rfl (lv_room (Nat.le_of_ble_eq_true rfl)) dX6_findShortest_150 ⟨Nat.le_of_ble_eq_true rfl, Nat.le_of_ble_eq_true rfl⟩) (fun u_46 H locs hw_48 hP hD hS => ?_)
              replace hP : va_P D gcl (zS_190 cB cC cI cJ a1 a12 a13 a14 x3 x4 x5 x6 x7 x8 x9 a12 a15 a15 f0 a10 f_7 a0 a2 a3 a4 (u_42.2.2.2.2 0) a2 a5 a6 a7 a8 a9 a10 a11 (u_1.2.2.2.1 0) a5 (u_1.2.2.1 0) a9 f_10 a7 (u_46.2.2.1 1) a8 f_9 a6 (u_46.2.2.1 0) a3 (u_42.2.1 0) a11 (u_46.2.1 0)) H := hP
              replace hD : va_D A (zS_190 cB cC cI cJ a1 a12 a13 a14 x3 x4 x5 x6 x7 x8 x9 a12 a15 a15 f0 a10 f_7 a0 a2 a3 a4 (u_42.2.2.2.2 0) a2 a5 a6 a7 a8 a9 a10 a11 (u_1.2.2.2.1 0) a5 (u_1.2.2.1 0) a9 f_10 a7 (u_46.2.2.1 1) a8 f_9 a6 (u_46.2.2.1 0) a3 (u_42.2.1 0) a11 (u_46.2.1 0)) := hD
              have hw_49 : (∀ j, 0 ≤ ((u_46.2.1 0) j).toInt ∧ ((u_46.2.1 0) j).toInt ≤ 23) := hw_48
              refine b_iinc (pc := 153) hx hb dX6_findShortest_153 hl (k := 0) rfl rfl tI_1 (by first | exact (om_2 hi_27.1) | ((first | omega | (unfold zBd at *; omega)))) (by first | exact (om_1087 c_36 rx_21.2) | ((first | omega | (unfold zBd at *; omega)))) (by decide) (fun x_50 ex_50 ls hl => ?_)
              replace hl : lv_has ls 8 [(7, .int x_50), (6, .int x_21), (5, .int x_15), (4, .int x_13), (0, .ref a0), (1, .ref a1), (2, .int x0), (3, .int x1)] := hl
              refine lv_goto (pc := 156) (tgt := 133) hx hb dX6_findShortest_156 (by decide) ?_
              exact ih_lp_35 x_50 (u_42.2.2.2.2 0) (u_46.2.1 0) (u_42.2.1 0) (u_46.2.2.1 1) (u_46.2.2.1 0) _ _ ls (by first | exact (om_1088 ex_50 hi_27.1 c_36 rx_21.2) | ((first | omega | (unfold zBd at *; omega)))) hw_49 (by (first | omega | (unfold zBd at *; omega))) (g_psub hP [4, 5, 0, 1, 2, 6, 8, 10, 3, 12, 9, 7, 11] rfl) (hD.sub [4, 5, 0, 1, 2, 6, 8, 10, 3, 12, 9, 7, 11] (by decide) rfl) hS (lv_sub hl [0, 1, 2, 3, 4, 5, 6, 7] rfl)
        exact lp_35 _ 0 1000000000000000 (u_22.2.1 0) f5 (u_22.2.2.1 1) (u_22.2.2.1 0) _ _ ls (n_c tI_0 (by decide)) hw_25 (Nat.lt_succ_self _) hP hD hS (lv_sub hl [0, 1, 2, 3, 4, 5, 6, 7] rfl)
      ·
        refine lv_iload_n (pc := 20) hx hb dX6_findShortest_20 rfl (lv_at hl 3 rfl) ?_
        refine lv_iload (pc := 21) hx hb dX6_findShortest_21 (lv_at hl 0 rfl) ?_
        refine lv_ishr (pc := 23) hx hb dX6_findShortest_23 ?_
        refine lv_topi (fun x_51 _ => ?_)
        have rx_51 : zBd x_51.toInt (-2147483648) 2147483647 := n_rng x_51
        refine lv_iconst (pc := 24) (v := 1) hx hb dX6_findShortest_24 (by decide) ?_
        refine b_iand (pc := 25) (M := 1) hx hb 1 (by decide +kernel) (by decide) (by decide) dX6_findShortest_25 (fun x_52 ex_52 => ?_)
        have rx_52 : (0 ≤ x_52.toInt ∧ x_52.toInt ≤ 1) := ex_52
        refine lv_iconst (pc := 26) (v := 1) hx hb dX6_findShortest_26 (by decide) ?_
        refine b_icmp_ne (pc := 27) (tgt := 34) hx hb rfl tI_1  dX6_findShortest_27 (by decide) (fun c_53 => ?_) (fun c_53 => ?_)
        ·
          refine lv_iconst (pc := 34) (v := 0) hx hb dX6_findShortest_34 (by decide) ?_
          refine lv_istore (pc := 35) (lv' := [(5, .int 0), (4, .int x_5), (0, .ref a0), (1, .ref a1), (2, .int x0), (3, .int x1)]) hx hb dX6_findShortest_35 hl (by decide) rfl (fun ls hl => ?_)
          refine lv_aload_n (pc := 37) hx hb dX6_findShortest_37 rfl (lv_at hl 2 rfl) ?_
          refine va_get (pc := 38) (ci := 6) (v := .ref a2) (C := RX6) (T := TX6) (N := 4) hx hb hts iX6 hown hK hP 0 rfl rfl 0 (by decide) (hts _ tw_293) (fun _ h9 => h9) rfl dX6_findShortest_38 ?_
          refine lv_iload (pc := 41) hx hb dX6_findShortest_41 (lv_at hl 1 rfl) ?_
          refine lv_iload (pc := 43) hx hb dX6_findShortest_43 (lv_at hl 0 rfl) ?_
          refine b_if_eq (pc := 45) (tgt := 53) hx hb tI_0  dX6_findShortest_45 (by decide) (fun c_54 => ?_) (fun c_54 => absurd c_54 (by first | exact (om_27) | ((first | omega | (unfold zBd at *; omega)))))
          refine lv_iconst (pc := 53) (v := 0) hx hb dX6_findShortest_53 (by decide) ?_
          refine lv_iconst (pc := 54) (v := 1) hx hb dX6_findShortest_54 (by decide) ?_
          refine lv_iload (pc := 55) hx hb dX6_findShortest_55 (lv_at hl 0 rfl) ?_
          refine b_if_eq (pc := 57) (tgt := 68) hx hb tI_0  dX6_findShortest_57 (by decide) (fun c_55 => ?_) (fun c_55 => absurd c_55 (by first | exact (om_27) | ((first | omega | (unfold zBd at *; omega)))))
          refine lv_iconst (pc := 68) (v := 1) hx hb dX6_findShortest_68 (by decide) ?_
          refine gd_v (pc := 69) (wc := (zS_29 cB cC cI cJ a2 a5 a6 a7 a8 a9 a10 a11 (u_1.2.2.2.1 0) a8 f_9 a9 f_10 a10 f_7)) hP hD hS hA [1, 10, 11, 8] rfl (by decide +kernel) (fun _ => by rfl) (fun hPc hDc => va_runV (As := [.int x_5, .int 0, .int 1, .int 1]) (rest := []) ⟨hx, hb, hml, hown, hts⟩ (k_X10_setNumbers l D cB cC cI cJ _ a2 a5 a6 a7 a8 a9 a10 a11 x_5 0 1 1 (u_1.2.2.2.1 0) f_9 f_10 f_7 (by first | exact (om_360 hi_6.1 c_12 h_x4.2) | (have k0 := tI_0; have k1 := tI_1; have k2 := tI_1; (first | omega | (unfold zBd at *; omega)))) (n_c tI_1 (by decide)) hw_4 hi_8) ⟨gcwB hts tw_900 tw_8 tw_1140 hd_yX10_setNumbers ⟨Nat.le_of_ble_eq_true rfl, Nat.le_of_ble_eq_true rfl⟩, hts _ tw_898, hts _ tw_899⟩ ⟨gblind, va_recv hK hPc (ci := 10) (q0 := 0) rfl rfl, (gpreS hPc hK hDc hN).2⟩ rfl rfl hl.1 rfl (lv_room (Nat.le_of_ble_eq_true rfl)) dX6_findShortest_69 ⟨Nat.le_of_ble_eq_true rfl, Nat.le_of_ble_eq_true rfl⟩) (fun u_56 H locs hw_58 hP hD hS => ?_)
          replace hP : va_P D gcl (zS_71 cB cC cI cJ a0 a2 a3 a4 y0 a2 a5 a6 a7 a8 a9 a10 a11 (u_1.2.2.2.1 0) a1 a12 a13 a14 x3 x4 x5 x6 x7 x8 x9 a12 a15 a15 f0 a5 (u_1.2.2.1 0) a7 (u_1.2.2.1 1) a6 (u_1.2.2.1 2) a10 (u_56.2.1 2) a11 f2 a8 (u_56.2.1 0) a9 (u_56.2.1 1) a3 f5) H := hP
          replace hD : va_D A (zS_71 cB cC cI cJ a0 a2 a3 a4 y0 a2 a5 a6 a7 a8 a9 a10 a11 (u_1.2.2.2.1 0) a1 a12 a13 a14 x3 x4 x5 x6 x7 x8 x9 a12 a15 a15 f0 a5 (u_1.2.2.1 0) a7 (u_1.2.2.1 1) a6 (u_1.2.2.1 2) a10 (u_56.2.1 2) a11 f2 a8 (u_56.2.1 0) a9 (u_56.2.1 1) a3 f5) := hD
          have hw_59 : (∀ j, (-3) ≤ ((u_56.2.1 2) j).toInt ∧ ((u_56.2.1 2) j).toInt ≤ 24) := hw_58
          have kk0_r_57 := tI_0
          have kk1_r_57 := tI_1
          have kk2_r_57 := tI_1
          refine b_iinc (pc := 72) hx hb dX6_findShortest_72 hl (k := 1) rfl rfl tI_1 (by first | exact (om_2 hi_6.1) | ((first | omega | (unfold zBd at *; omega)))) (by first | exact (om_338 c_12 h_x4.2) | ((first | omega | (unfold zBd at *; omega)))) (by decide) (fun x_60 ex_60 ls hl => ?_)
          replace hl : lv_has ls 8 [(4, .int x_60), (5, .int 0), (0, .ref a0), (1, .ref a1), (2, .int x0), (3, .int x1)] := hl
          refine lv_goto (pc := 75) (tgt := 11) hx hb dX6_findShortest_75 (by decide) ?_
          exact ih_lp_11 x_60 (u_56.2.1 2) (u_56.2.1 0) (u_56.2.1 1) _ _ ls (by first | exact (om_339 ex_60 hi_6.1 c_12 h_x4.2) | ((first | omega | (unfold zBd at *; omega)))) hw_59 (by (first | omega | (unfold zBd at *; omega))) hP hD hS (lv_sub hl [0, 2, 3, 4, 5] rfl)
        ·
          refine lv_iconst (pc := 30) (v := 1) hx hb dX6_findShortest_30 (by decide) ?_
          refine lv_goto (pc := 31) (tgt := 35) hx hb dX6_findShortest_31 (by decide) ?_
          refine lv_istore (pc := 35) (lv' := [(5, .int 1), (4, .int x_5), (0, .ref a0), (1, .ref a1), (2, .int x0), (3, .int x1)]) hx hb dX6_findShortest_35 hl (by decide) rfl (fun ls hl => ?_)
          refine lv_aload_n (pc := 37) hx hb dX6_findShortest_37 rfl (lv_at hl 2 rfl) ?_
          refine va_get (pc := 38) (ci := 6) (v := .ref a2) (C := RX6) (T := TX6) (N := 4) hx hb hts iX6 hown hK hP 0 rfl rfl 0 (by decide) (hts _ tw_293) (fun _ h9 => h9) rfl dX6_findShortest_38 ?_
          refine lv_iload (pc := 41) hx hb dX6_findShortest_41 (lv_at hl 1 rfl) ?_
          refine lv_iload (pc := 43) hx hb dX6_findShortest_43 (lv_at hl 0 rfl) ?_
          refine b_if_eq (pc := 45) (tgt := 53) hx hb tI_1  dX6_findShortest_45 (by decide) (fun c_61 => absurd c_61 (by first | exact (om_26) | ((first | omega | (unfold zBd at *; omega))))) (fun c_61 => ?_)
          refine lv_iload_n (pc := 48) hx hb dX6_findShortest_48 rfl (lv_at hl 5 rfl) ?_
          refine b_ineg (pc := 49) hx hb rfl (by first | exact (om_1206 hp3.1) | ((first | omega | (unfold zBd at *; omega)))) dX6_findShortest_49 (fun x_62 ex_62 => ?_)
          refine lv_goto (pc := 50) (tgt := 54) hx hb dX6_findShortest_50 (by decide) ?_
          refine lv_iconst (pc := 54) (v := 1) hx hb dX6_findShortest_54 (by decide) ?_
          refine lv_iload (pc := 55) hx hb dX6_findShortest_55 (lv_at hl 0 rfl) ?_
          refine b_if_eq (pc := 57) (tgt := 68) hx hb tI_1  dX6_findShortest_57 (by decide) (fun c_63 => absurd c_63 (by first | exact (om_26) | ((first | omega | (unfold zBd at *; omega))))) (fun c_63 => ?_)
          refine lv_iconst (pc := 60) (v := 2) hx hb dX6_findShortest_60 (by decide) ?_
          refine lv_iload_n (pc := 61) hx hb dX6_findShortest_61 rfl (lv_at hl 5 rfl) ?_
          refine b_imul (pc := 62) hx hb tI_2 rfl (by first | exact (om_1207 hp3.1) | ((first | omega | (unfold zBd at *; omega)))) (by first | exact (om_1208 hp3.2) | ((first | omega | (unfold zBd at *; omega)))) dX6_findShortest_62 (fun x_64 ex_64 => ?_)
          refine lv_iconst (pc := 63) (v := 1) hx hb dX6_findShortest_63 (by decide) ?_
          refine b_iadd (pc := 64) hx hb rfl tI_1 (by first | exact (om_1209 ex_64 hp3.1) | ((first | omega | (unfold zBd at *; omega)))) (by first | exact (om_1210 ex_64 hp3.2) | ((first | omega | (unfold zBd at *; omega)))) dX6_findShortest_64 (fun x_65 ex_65 => ?_)
          refine lv_goto (pc := 65) (tgt := 69) hx hb dX6_findShortest_65 (by decide) ?_
          refine gd_v (pc := 69) (wc := (zS_29 cB cC cI cJ a2 a5 a6 a7 a8 a9 a10 a11 (u_1.2.2.2.1 0) a8 f_9 a9 f_10 a10 f_7)) hP hD hS hA [1, 10, 11, 8] rfl (by decide +kernel) (fun _ => by rfl) (fun hPc hDc => va_runV (As := [.int x_5, .int x_62, .int 1, .int x_65]) (rest := []) ⟨hx, hb, hml, hown, hts⟩ (k_X10_setNumbers l D cB cC cI cJ _ a2 a5 a6 a7 a8 a9 a10 a11 x_5 x_62 1 x_65 (u_1.2.2.2.1 0) f_9 f_10 f_7 (by first | exact (om_360 hi_6.1 c_12 h_x4.2) | (have k0 := tI_1; (first | omega | (unfold zBd at *; omega)))) (by first | exact (om_1211 ex_65 ex_64 hp3.1 hp3.2) | (have k0 := tI_1; (first | omega | (unfold zBd at *; omega)))) hw_4 hi_8) ⟨gcwB hts tw_900 tw_8 tw_1140 hd_yX10_setNumbers ⟨Nat.le_of_ble_eq_true rfl, Nat.le_of_ble_eq_true rfl⟩, hts _ tw_898, hts _ tw_899⟩ ⟨gblind, va_recv hK hPc (ci := 10) (q0 := 0) rfl rfl, (gpreS hPc hK hDc hN).2⟩ rfl rfl hl.1 rfl (lv_room (Nat.le_of_ble_eq_true rfl)) dX6_findShortest_69 ⟨Nat.le_of_ble_eq_true rfl, Nat.le_of_ble_eq_true rfl⟩) (fun u_66 H locs hw_68 hP hD hS => ?_)
          replace hP : va_P D gcl (zS_71 cB cC cI cJ a0 a2 a3 a4 y0 a2 a5 a6 a7 a8 a9 a10 a11 (u_1.2.2.2.1 0) a1 a12 a13 a14 x3 x4 x5 x6 x7 x8 x9 a12 a15 a15 f0 a5 (u_1.2.2.1 0) a7 (u_1.2.2.1 1) a6 (u_1.2.2.1 2) a10 (u_66.2.1 2) a11 f2 a8 (u_66.2.1 0) a9 (u_66.2.1 1) a3 f5) H := hP
          replace hD : va_D A (zS_71 cB cC cI cJ a0 a2 a3 a4 y0 a2 a5 a6 a7 a8 a9 a10 a11 (u_1.2.2.2.1 0) a1 a12 a13 a14 x3 x4 x5 x6 x7 x8 x9 a12 a15 a15 f0 a5 (u_1.2.2.1 0) a7 (u_1.2.2.1 1) a6 (u_1.2.2.1 2) a10 (u_66.2.1 2) a11 f2 a8 (u_66.2.1 0) a9 (u_66.2.1 1) a3 f5) := hD
          have hw_69 : (∀ j, (-3) ≤ ((u_66.2.1 2) j).toInt ∧ ((u_66.2.1 2) j).toInt ≤ 24) := hw_68
          have kk0_r_67 := tI_1
          refine b_iinc (pc := 72) hx hb dX6_findShortest_72 hl (k := 1) rfl rfl tI_1 (by first | exact (om_2 hi_6.1) | ((first | omega | (unfold zBd at *; omega)))) (by first | exact (om_338 c_12 h_x4.2) | ((first | omega | (unfold zBd at *; omega)))) (by decide) (fun x_70 ex_70 ls hl => ?_)
          replace hl : lv_has ls 8 [(4, .int x_70), (5, .int 1), (0, .ref a0), (1, .ref a1), (2, .int x0), (3, .int x1)] := hl
          refine lv_goto (pc := 75) (tgt := 11) hx hb dX6_findShortest_75 (by decide) ?_
          exact ih_lp_11 x_70 (u_66.2.1 2) (u_66.2.1 0) (u_66.2.1 1) _ _ ls (by first | exact (om_339 ex_70 hi_6.1 c_12 h_x4.2) | ((first | omega | (unfold zBd at *; omega)))) hw_69 (by (first | omega | (unfold zBd at *; omega))) hP hD hS (lv_sub hl [0, 2, 3, 4, 5] rfl)
  exact lp_11 _ 0 f1 f3 f4 _ _ ls (n_c tI_0 (by decide)) hf_f1 (Nat.lt_succ_self _) hP hD hS (lv_sub hl [0, 1, 2, 3, 4] rfl)
theorem om_1212 {a : Int} (h0 : (a ≤ 31)) : (a < (32 : Nat)) := by omega
theorem om_1213 {a b : Int} (h0 : (a ≥ 0)) (h1 : (a ≤ 9223372036854775807)) : ((((0 ≤ a ∧ a ≤ 9223372036854775807) ∧ b = b) ∨ (((-9223372036854775808) ≤ a ∧ a ≤ 9223372036854775807)))) := by omega
theorem om_1214 {a b : Int} (h0 : (a = b - 1)) (h1 : ((-1) ≤ b)) (h2 : (b ≤ 8)) : (((-2) ≤ a ∧ a ≤ 7)) := by omega
theorem om_1215 {a b c : Int} (h0 : ((-9223372036854775808) ≤ a)) (h1 : (a ≤ 9223372036854775807)) : ((((0 ≤ a ∧ a ≤ 9223372036854775807) ∧ b = c) ∨ (((-9223372036854775808) ≤ a ∧ a ≤ 9223372036854775807)))) := by omega
set_option maxHeartbeats 4000000 in
set_option maxRecDepth 100000 in
theorem k_X6_apartOf (l : Launch) (D : va_G) (cB cC cI cJ : ClassId) (sz : Nat) (a0 a1 a2 a3 a4 a5 a6 a7 a8 a9 a10 a11 a12 a13 a14 a15 : Nat) (x0 x1 x2 x3 x4 x5 x6 x7 x8 : Int32) (y0 : Int64) (f0 f1 f2 f3 f4 f5 : Nat → Int32) (g0 g1 g2 g3 : Nat → Int64) (hp2 : (0 ≤ x0.toInt ∧ x0.toInt ≤ 31)) (h_x1 : zBd x1.toInt (-1) 8) (h_x2 : zBd x2.toInt (-1) 5) (h_x3 : zBd x3.toInt (-1) 6) (h_x4 : zBd x4.toInt 0 6) (h_x5 : zBd x5.toInt 0 16) (h_x8 : zBd x8.toInt 0 4) (hf_f1 : (∀ j, (-3) ≤ (f1 j).toInt ∧ (f1 j).toInt ≤ 24)) (hf_f2 : (∀ j, 0 ≤ (f2 j).toInt ∧ (f2 j).toInt ≤ 23)) : Met l yX6_apartOf (.code yX6_apartOf cX6_apartOf 3 (some .long) :: lw_gd) ({ frames := 4, cells := 0, slots := 0, locals := 104 }) (gPre D [(cB, .byte), (cC, .char), (cI, .int), (cJ, .long)] [.ref a0, .ref a1, .int x0] (zS_158 cB cC cI cJ a0 a2 a3 a4 y0 a4 g0 a1 a5 a6 a7 x1 x2 x3 x4 x5 x6 x7 a2 a8 a9 a10 a11 a12 a13 a14 x8 a5 a15 a15 f0 a8 g1 a10 g2 a9 g3 a13 f1 a14 f2 a11 f3 a12 f4 a3 f5) sz) (va_Ql (fun r u => (((0 ≤ r.toInt ∧ r.toInt ≤ 9223372036854775807) ∧ (u.2.2.2.1 0).toInt = x8.toInt) ∨ (((-9223372036854775808) ≤ r.toInt ∧ r.toInt ≤ 9223372036854775807))) ∧ (0 ≤ (u.2.2.2.1 0).toInt ∧ (u.2.2.2.1 0).toInt ≤ 4) ∧ (∀ j, (-3) ≤ ((u.2.1 0) j).toInt ∧ ((u.2.1 0) j).toInt ≤ 24) ∧ (∀ j, 0 ≤ ((u.2.1 1) j).toInt ∧ ((u.2.1 1) j).toInt ≤ 23)) (gB D (va_A (zS_158 cB cC cI cJ a0 a2 a3 a4 y0 a4 g0 a1 a5 a6 a7 x1 x2 x3 x4 x5 x6 x7 a2 a8 a9 a10 a11 a12 a13 a14 x8 a5 a15 a15 f0 a8 g1 a10 g2 a9 g3 a13 f1 a14 f2 a11 f3 a12 f4 a3 f5) sz) (fun u : gEx => (zS_158 cB cC cI cJ a0 a2 a3 a4 (u.2.2.2.2 0) a4 (u.2.2.1 0) a1 a5 a6 a7 x1 x2 x3 x4 x5 x6 x7 a2 a8 a9 a10 a11 a12 a13 a14 (u.2.2.2.1 0) a5 a15 a15 f0 a8 (u.2.2.1 1) a10 (u.2.2.1 2) a9 (u.2.2.1 3) a13 (u.2.1 0) a14 (u.2.1 1) a11 (u.2.1 2) a12 (u.2.1 3) a3 (u.2.1 4)))) (va_A (zS_158 cB cC cI cJ a0 a2 a3 a4 y0 a4 g0 a1 a5 a6 a7 x1 x2 x3 x4 x5 x6 x7 a2 a8 a9 a10 a11 a12 a13 a14 x8 a5 a15 a15 f0 a8 g1 a10 g2 a9 g3 a13 f1 a14 f2 a11 f3 a12 f4 a3 f5) sz)) 0 0 (va_A (zS_158 cB cC cI cJ a0 a2 a3 a4 y0 a4 g0 a1 a5 a6 a7 x1 x2 x3 x4 x5 x6 x7 a2 a8 a9 a10 a11 a12 a13 a14 x8 a5 a15 a15 f0 a8 g1 a10 g2 a9 g3 a13 f1 a14 f2 a11 f3 a12 f4 a3 f5) sz) := by
  refine gOf_l (by decide +kernel) (Nat.le_of_ble_eq_true rfl) ?_
  intro p e s m args below meth c ls A Q hx hb hts hown hml hN hK hP hD hA hl hret
  replace hown : s.vm.findClass RX6 = some m.cls := hown
  have hS : va_S A s.heap s.heap [] := va_S.rf
  replace hP : va_P D gcl (zS_158 cB cC cI cJ a0 a2 a3 a4 y0 a4 g0 a1 a5 a6 a7 x1 x2 x3 x4 x5 x6 x7 a2 a8 a9 a10 a11 a12 a13 a14 x8 a5 a15 a15 f0 a8 g1 a10 g2 a9 g3 a13 f1 a14 f2 a11 f3 a12 f4 a3 f5) s.heap := hP
  replace hl : lv_has ls 3 [(0, .ref a0), (1, .ref a1), (2, .int x0)] := hl
  have ry0 := n_rngL y0
  have rx6 : zBd x6.toInt (-2147483648) 2147483647 := n_rng x6
  have rx7 : zBd x7.toInt (-2147483648) 2147483647 := n_rng x7
  refine lv_aload_n (pc := 0) hx hb dX6_apartOf_0 rfl (lv_at hl 0 rfl) ?_
  refine va_get (pc := 1) (ci := 6) (v := .ref a4) (C := RX6) (T := TX6) (N := 4) hx hb hts iX6 hown hK hP 0 rfl rfl 2 (by decide) (hts _ tw_296) (fun _ h9 => h9) rfl dX6_apartOf_1 ?_
  refine lv_iload_n (pc := 4) hx hb dX6_apartOf_4 rfl (lv_at hl 2 rfl) ?_
  refine va_lald (pc := 5) hx hb hK hP 1 3 rfl rfl (n_in rfl (by first | exact (om_0 hp2.1) | ((first | omega | (unfold zBd at *; omega)))) (by first | exact (om_1212 hp2.2) | ((first | omega | (unfold zBd at *; omega))))) dX6_apartOf_5 ?_
  refine lv_topl (fun y_1 ey_1 => ?_)
  have ry_1 := n_rngL y_1
  refine lv_lconst (pc := 6) (v := 0) hx hb dX6_apartOf_6 (by decide) ?_
  refine b_lcmp_ge (pc := 7) (tgt := 37) hx hb rfl tL_0 dX6_apartOf_7 dX6_apartOf_8 (by decide) (fun c_2 => ?_) (fun c_2 => ?_)
  ·
    refine lv_aload_n (pc := 37) hx hb dX6_apartOf_37 rfl (lv_at hl 0 rfl) ?_
    refine va_get (pc := 38) (ci := 6) (v := .ref a4) (C := RX6) (T := TX6) (N := 4) hx hb hts iX6 hown hK hP 0 rfl rfl 2 (by decide) (hts _ tw_296) (fun _ h9 => h9) rfl dX6_apartOf_38 ?_
    refine lv_iload_n (pc := 41) hx hb dX6_apartOf_41 rfl (lv_at hl 2 rfl) ?_
    refine va_lald (pc := 42) hx hb hK hP 1 3 rfl rfl (n_in rfl (by first | exact (om_0 hp2.1) | ((first | omega | (unfold zBd at *; omega)))) (by first | exact (om_1212 hp2.2) | ((first | omega | (unfold zBd at *; omega))))) dX6_apartOf_42 ?_
    refine gL (y := y_1) ey_1.symm ?_
    exact hret y_1 ((fun _ => 0), (fun k => [f1, f2, f3, f4, f5].getD k (fun _ => 0)), (fun k => [g0, g1, g2, g3].getD k (fun _ => 0)), (fun k => [x8].getD k 0), (fun k => [y0].getD k 0)) dX6_apartOf_43 ⟨(show (((0 ≤ y_1.toInt ∧ y_1.toInt ≤ 9223372036854775807) ∧ (x8 : Int32).toInt = x8.toInt) ∨ (((-9223372036854775808) ≤ y_1.toInt ∧ y_1.toInt ≤ 9223372036854775807))) from (by first | exact (om_1213 c_2 ry_1.2) | ((first | omega | (unfold zBd at *; omega))))), (show (0 ≤ (x8 : Int32).toInt ∧ (x8 : Int32).toInt ≤ 4) from h_x8), hf_f1, hf_f2⟩ (g_psub (wc := (zS_158 cB cC cI cJ a0 a2 a3 a4 y0 a4 g0 a1 a5 a6 a7 x1 x2 x3 x4 x5 x6 x7 a2 a8 a9 a10 a11 a12 a13 a14 x8 a5 a15 a15 f0 a8 g1 a10 g2 a9 g3 a13 f1 a14 f2 a11 f3 a12 f4 a3 f5)) hP [0, 1, 2, 3, 4, 5, 6, 7, 8, 9, 10, 11, 12, 13] rfl) (hD.sub (ws' := (zS_158 cB cC cI cJ a0 a2 a3 a4 y0 a4 g0 a1 a5 a6 a7 x1 x2 x3 x4 x5 x6 x7 a2 a8 a9 a10 a11 a12 a13 a14 x8 a5 a15 a15 f0 a8 g1 a10 g2 a9 g3 a13 f1 a14 f2 a11 f3 a12 f4 a3 f5)) [0, 1, 2, 3, 4, 5, 6, 7, 8, 9, 10, 11, 12, 13] (by decide) rfl) hS
  ·
    refine lv_aload_n (pc := 11) hx hb dX6_apartOf_11 rfl (lv_at hl 0 rfl) ?_
    refine lv_aload_n (pc := 12) hx hb dX6_apartOf_12 rfl (lv_at hl 1 rfl) ?_
    refine lv_iload_n (pc := 13) hx hb dX6_apartOf_13 rfl (lv_at hl 2 rfl) ?_
    refine lv_aload_n (pc := 14) hx hb dX6_apartOf_14 rfl (lv_at hl 1 rfl) ?_
    refine va_getN (pc := 15) (ci := 1) (v := .int x1) (C := RX1) (T := TX1) (N := 10) hx hb hts iX1 hown hK hP 2 rfl rfl 3 (by decide) (va_Nw.use rfl (hN _ tn_111)) (fun _ h9 => h9) rfl dX6_apartOf_15 ?_
    refine lv_iconst (pc := 18) (v := 1) hx hb dX6_apartOf_18 (by decide) ?_
    refine b_isub (pc := 19) hx hb rfl tI_1 (by first | exact (om_1089 h_x1.1) | ((first | omega | (unfold zBd at *; omega)))) (by first | exact (om_1094 h_x1.2) | ((first | omega | (unfold zBd at *; omega)))) dX6_apartOf_19 (fun x_3 ex_3 => ?_)
    refine gc_v (pc := 20) (wc := (zS_71 cB cC cI cJ a0 a2 a3 a4 y0 a2 a8 a9 a10 a11 a12 a13 a14 x8 a1 a5 a6 a7 x1 x2 x3 x4 x5 x6 x7 a5 a15 a15 f0 a8 g1 a10 g2 a9 g3 a13 f1 a14 f2 a11 f3 a12 f4 a3 f5)) (wr := [(a4, .inl (cJ, 32, .inr (.inl g0)))]) hP hD hS hA [0, 3, 2, 4, 5, 6, 7, 8, 9, 10, 11, 12, 13] [1] rfl rfl (by decide +kernel) (by decide +kernel) (by decide +kernel) (fun hPc hDc => va_runV (As := [.ref a1, .int x0, .int x_3]) (rest := []) ⟨hx, hb, hml, hown, hts⟩ (k_X6_findShortest l D cB cC cI cJ _ a0 a1 a2 a3 a4 a8 a9 a10 a11 a12 a13 a14 a5 a6 a7 a15 x0 x_3 x8 x1 x2 x3 x4 x5 x6 x7 y0 f0 f1 f2 f3 f4 f5 g1 g2 g3 (by first | exact (om_1214 ex_3 h_x1.1 h_x1.2) | ((first | omega | (unfold zBd at *; omega)))) h_x8 h_x1 h_x2 h_x3 h_x4 h_x5 hf_f1 hf_f2) ⟨gcwB hts tw_1138 tw_9 tw_1168 hd_yX6_findShortest ⟨Nat.le_of_ble_eq_true rfl, Nat.le_of_ble_eq_true rfl⟩, hts _ tw_1136, hts _ tw_1137⟩ ⟨gblind, va_recv hK hPc (ci := 6) (q0 := 0) rfl rfl, (gpreS hPc hK hDc hN).2⟩ rfl rfl hl.1 rfl (lv_room (Nat.le_of_ble_eq_true rfl)) dX6_apartOf_20 ⟨Nat.le_of_ble_eq_true rfl, Nat.le_of_ble_eq_true rfl⟩) (fun u_4 H locs hw_6 hP hD hS => ?_)
    replace hP : va_P D gcl (zS_197 cB cC cI cJ a4 g0 a0 a2 a3 a4 (u_4.2.2.2.2 0) a2 a8 a9 a10 a11 a12 a13 a14 (u_4.2.2.2.1 0) a1 a5 a6 a7 x1 x2 x3 x4 x5 x6 x7 a5 a15 a15 f0 a8 (u_4.2.2.1 0) a10 (u_4.2.2.1 1) a9 (u_4.2.2.1 2) a13 (u_4.2.1 0) a14 (u_4.2.1 1) a11 (u_4.2.1 2) a12 (u_4.2.1 3) a3 (u_4.2.1 4)) H := hP
    replace hD : va_D A (zS_197 cB cC cI cJ a4 g0 a0 a2 a3 a4 (u_4.2.2.2.2 0) a2 a8 a9 a10 a11 a12 a13 a14 (u_4.2.2.2.1 0) a1 a5 a6 a7 x1 x2 x3 x4 x5 x6 x7 a5 a15 a15 f0 a8 (u_4.2.2.1 0) a10 (u_4.2.2.1 1) a9 (u_4.2.2.1 2) a13 (u_4.2.1 0) a14 (u_4.2.1 1) a11 (u_4.2.1 2) a12 (u_4.2.1 3) a3 (u_4.2.1 4)) := hD
    have ru_4_0 := n_rngL (u_4.2.2.2.2 0)
    obtain ⟨hw_7, hw_8, hw_9, hw_10⟩ := hw_6
    replace hw_7 : ((((-1) ≤ x2.toInt ∧ x2.toInt ≤ 5))) := hw_7
    replace hw_8 : zBd (u_4.2.2.2.1 0).toInt 0 4 := hw_8
    replace hw_9 : (∀ j, (-3) ≤ ((u_4.2.1 0) j).toInt ∧ ((u_4.2.1 0) j).toInt ≤ 24) := hw_9
    replace hw_10 : (∀ j, 0 ≤ ((u_4.2.1 1) j).toInt ∧ ((u_4.2.1 1) j).toInt ≤ 23) := hw_10
    refine lv_aload_n (pc := 23) hx hb dX6_apartOf_23 rfl (lv_at hl 0 rfl) ?_
    refine va_get (pc := 24) (ci := 6) (v := .ref a4) (C := RX6) (T := TX6) (N := 4) hx hb hts iX6 hown hK hP 1 rfl rfl 2 (by decide) (hts _ tw_296) (fun _ h9 => h9) rfl dX6_apartOf_24 ?_
    refine lv_iload_n (pc := 27) hx hb dX6_apartOf_27 rfl (lv_at hl 2 rfl) ?_
    refine lv_ldc2 (pc := 28) hx hb hown (hts _ tw_1169) dX6_apartOf_28 ?_
    refine lv_aload_n (pc := 31) hx hb dX6_apartOf_31 rfl (lv_at hl 0 rfl) ?_
    refine va_get (pc := 32) (ci := 6) (v := .long (u_4.2.2.2.2 0)) (C := RX6) (T := TX6) (N := 4) hx hb hts iX6 hown hK hP 1 rfl rfl 3 (by decide) (hts _ tw_297) (fun _ h9 => h9) rfl dX6_apartOf_32 ?_
    refine lv_lmul (pc := 35) hx hb dX6_apartOf_35 ?_
    refine lv_topl (fun y_11 _ => ?_)
    have ry_11 := n_rngL y_11
    refine g_lastore (pc := 36) hx hb hK hP hD hS 0 3 rfl rfl (n_in rfl (by first | exact (om_0 hp2.1) | ((first | omega | (unfold zBd at *; omega)))) (by first | exact (om_1212 hp2.2) | ((first | omega | (unfold zBd at *; omega))))) dX6_apartOf_36 (fun g_12 H locs hP hD hS => ?_)
    replace hP : va_P D gcl (zS_197 cB cC cI cJ a4 g_12 a0 a2 a3 a4 (u_4.2.2.2.2 0) a2 a8 a9 a10 a11 a12 a13 a14 (u_4.2.2.2.1 0) a1 a5 a6 a7 x1 x2 x3 x4 x5 x6 x7 a5 a15 a15 f0 a8 (u_4.2.2.1 0) a10 (u_4.2.2.1 1) a9 (u_4.2.2.1 2) a13 (u_4.2.1 0) a14 (u_4.2.1 1) a11 (u_4.2.1 2) a12 (u_4.2.1 3) a3 (u_4.2.1 4)) H := hP
    replace hD : va_D A (zS_197 cB cC cI cJ a4 g_12 a0 a2 a3 a4 (u_4.2.2.2.2 0) a2 a8 a9 a10 a11 a12 a13 a14 (u_4.2.2.2.1 0) a1 a5 a6 a7 x1 x2 x3 x4 x5 x6 x7 a5 a15 a15 f0 a8 (u_4.2.2.1 0) a10 (u_4.2.2.1 1) a9 (u_4.2.2.1 2) a13 (u_4.2.1 0) a14 (u_4.2.1 1) a11 (u_4.2.1 2) a12 (u_4.2.1 3) a3 (u_4.2.1 4)) := hD
    refine lv_aload_n (pc := 37) hx hb dX6_apartOf_37 rfl (lv_at hl 0 rfl) ?_
    refine va_get (pc := 38) (ci := 6) (v := .ref a4) (C := RX6) (T := TX6) (N := 4) hx hb hts iX6 hown hK hP 1 rfl rfl 2 (by decide) (hts _ tw_296) (fun _ h9 => h9) rfl dX6_apartOf_38 ?_
    refine lv_iload_n (pc := 41) hx hb dX6_apartOf_41 rfl (lv_at hl 2 rfl) ?_
    refine va_lald (pc := 42) hx hb hK hP 0 3 rfl rfl (n_in rfl (by first | exact (om_0 hp2.1) | ((first | omega | (unfold zBd at *; omega)))) (by first | exact (om_1212 hp2.2) | ((first | omega | (unfold zBd at *; omega))))) dX6_apartOf_42 ?_
    refine lv_topl (fun y_13 ey_13 => ?_)
    have ry_13 := n_rngL y_13
    exact hret y_13 ((fun _ => 0), (fun k => [(u_4.2.1 0), (u_4.2.1 1), (u_4.2.1 2), (u_4.2.1 3), (u_4.2.1 4)].getD k (fun _ => 0)), (fun k => [g_12, (u_4.2.2.1 0), (u_4.2.2.1 1), (u_4.2.2.1 2)].getD k (fun _ => 0)), (fun k => [(u_4.2.2.2.1 0)].getD k 0), (fun k => [(u_4.2.2.2.2 0)].getD k 0)) dX6_apartOf_43 ⟨(show (((0 ≤ y_13.toInt ∧ y_13.toInt ≤ 9223372036854775807) ∧ ((u_4.2.2.2.1 0) : Int32).toInt = x8.toInt) ∨ (((-9223372036854775808) ≤ y_13.toInt ∧ y_13.toInt ≤ 9223372036854775807))) from (by first | exact (om_1215 ry_13.1 ry_13.2) | ((first | omega | (unfold zBd at *; omega))))), (show (0 ≤ ((u_4.2.2.2.1 0) : Int32).toInt ∧ ((u_4.2.2.2.1 0) : Int32).toInt ≤ 4) from hw_8), hw_9, hw_10⟩ (g_psub (wc := (zS_158 cB cC cI cJ a0 a2 a3 a4 (u_4.2.2.2.2 0) a4 g_12 a1 a5 a6 a7 x1 x2 x3 x4 x5 x6 x7 a2 a8 a9 a10 a11 a12 a13 a14 (u_4.2.2.2.1 0) a5 a15 a15 f0 a8 (u_4.2.2.1 0) a10 (u_4.2.2.1 1) a9 (u_4.2.2.1 2) a13 (u_4.2.1 0) a14 (u_4.2.1 1) a11 (u_4.2.1 2) a12 (u_4.2.1 3) a3 (u_4.2.1 4))) hP [1, 0, 3, 2, 4, 5, 6, 7, 8, 9, 10, 11, 12, 13] rfl) (hD.sub (ws' := (zS_158 cB cC cI cJ a0 a2 a3 a4 (u_4.2.2.2.2 0) a4 g_12 a1 a5 a6 a7 x1 x2 x3 x4 x5 x6 x7 a2 a8 a9 a10 a11 a12 a13 a14 (u_4.2.2.2.1 0) a5 a15 a15 f0 a8 (u_4.2.2.1 0) a10 (u_4.2.2.1 1) a9 (u_4.2.2.1 2) a13 (u_4.2.1 0) a14 (u_4.2.1 1) a11 (u_4.2.1 2) a12 (u_4.2.1 3) a3 (u_4.2.1 4))) [1, 0, 3, 2, 4, 5, 6, 7, 8, 9, 10, 11, 12, 13] (by decide) rfl) hS
theorem om_1216 {a : Int} (h0 : (a < 40)) : (a < (40 : Nat)) := by omega
theorem om_1217 {a : Int} (h0 : (a < 40)) : (a + 1 ≤ 2147483647) := by omega
theorem om_1218 {a b : Int} (h0 : (a = b + 1)) (h1 : (0 ≤ b)) (h2 : (b < 40)) : ((0 ≤ a ∧ a ≤ 2147483647)) := by omega
set_option maxHeartbeats 4000000 in
set_option maxRecDepth 100000 in
theorem k_J7_fill_d0a16_40 (l : Launch) (D : va_G) (cB cC cI cJ : ClassId) (sz : Nat) (a0 : Nat) (y0 : Int64) (g0 : Nat → Int64) : Met l yJ7_fill_d0a16 (.code yJ7_fill_d0a16 cJ7_fill_d0a16 5 none :: lw_gd) ({ frames := 0, cells := 0, slots := 0, locals := 0 }) (gPre D [(cB, .byte), (cC, .char), (cI, .int), (cJ, .long)] [.ref a0, .long y0] [(a0, .inl (cJ, 40, .inr (.inl g0)))] sz) (va_Qv (fun u => True) (gB D (va_A [(a0, .inl (cJ, 40, .inr (.inl g0)))] sz) (fun u : gEx => [(a0, .inl (cJ, 40, .inr (.inl (u.2.2.1 0))))])) (va_A [(a0, .inl (cJ, 40, .inr (.inl g0)))] sz)) 0 0 (va_A [(a0, .inl (cJ, 40, .inr (.inl g0)))] sz) := by
  refine gOf_v (by decide +kernel) (Nat.le_of_ble_eq_true rfl) ?_
  intro p e s m args below meth c ls A Q hx hb hts hown hml hN hK hP hD hA hl hret
  replace hown : s.vm.findClass RJ7 = some m.cls := hown
  have hS : va_S A s.heap s.heap [] := va_S.rf
  replace hP : va_P D gcl [(a0, .inl (cJ, 40, .inr (.inl g0)))] s.heap := hP
  replace hl : lv_has ls 5 [(0, .ref a0), (1, .long y0)] := hl
  have ry0 := n_rngL y0
  refine lv_iconst (pc := 0) (v := 0) hx hb dJ7_fill_d0a16_0 (by decide) ?_
  refine lv_istore_n (pc := 1) (lv' := [(3, .int 0), (0, .ref a0), (1, .long y0)]) hx hb dJ7_fill_d0a16_1 rfl hl (by decide) rfl (fun ls hl => ?_)
  refine lv_aload_n (pc := 2) hx hb dJ7_fill_d0a16_2 rfl (lv_at hl 1 rfl) ?_
  refine va_alen (pc := 3) (v := 40) hx hb hK hP 0 3 rfl rfl rfl dJ7_fill_d0a16_3 ?_
  refine lv_istore (pc := 4) (lv' := [(4, .int 40), (3, .int 0), (0, .ref a0), (1, .long y0)]) hx hb dJ7_fill_d0a16_4 hl (by decide) rfl (fun ls hl => ?_)
  have lp_4 : ∀ (n : Nat) (x_1 : Int32) (g_3 : Nat → Int64) (H : Heap) (locs : List Loc) (ls : Array Slot), (0 ≤ x_1.toInt ∧ x_1.toInt ≤ 2147483647) → (2147483647 - x_1.toInt).toNat < n → va_P D gcl [(a0, .inl (cJ, 40, .inr (.inl g_3)))] H → va_D A [(a0, .inl (cJ, 40, .inr (.inl g_3)))] → va_S A s.heap H locs → lv_has ls 5 [(4, .int 40), (3, .int x_1), (0, .ref a0), (1, .long y0)] → W p l e ({ frames := 0, cells := 0, slots := 0, locals := 0 }) s m args below meth c H locs 0 0 Q (F0 m 6 ls []) := by
    intro n
    induction n with
    | zero => intro x_1 g_3 H locs ls hi_2 hmu; exact absurd hmu (Nat.not_lt_zero _)
    | succ n ih_lp_4 =>
      intro x_1 g_3 H locs ls hi_2 hmu_lp_4 hP hD hS hl
      refine lv_iload_n (pc := 6) hx hb dJ7_fill_d0a16_6 rfl (lv_at hl 1 rfl) ?_
      refine lv_iload (pc := 7) hx hb dJ7_fill_d0a16_7 (lv_at hl 0 rfl) ?_
      refine b_icmp_ge (pc := 9) (tgt := 22) hx hb rfl tI_40  dJ7_fill_d0a16_9 (by decide) (fun c_5 => ?_) (fun c_5 => ?_)
      ·
        exact hret ((fun _ => 0), (fun _ => (fun _ => 0)), (fun k => [g_3].getD k (fun _ => 0)), (fun _ => 0), (fun _ => 0)) dJ7_fill_d0a16_22 trivial (g_psub (wc := [(a0, .inl (cJ, 40, .inr (.inl g_3)))]) hP [0] rfl) (hD.sub (ws' := [(a0, .inl (cJ, 40, .inr (.inl g_3)))]) [0] (by decide) rfl) hS
      ·
        refine lv_aload_n (pc := 12) hx hb dJ7_fill_d0a16_12 rfl (lv_at hl 2 rfl) ?_
        refine lv_iload_n (pc := 13) hx hb dJ7_fill_d0a16_13 rfl (lv_at hl 1 rfl) ?_
        refine lv_lload_n (pc := 14) hx hb dJ7_fill_d0a16_14 rfl (lv_at hl 3 rfl) ?_
        refine g_lastore (pc := 15) hx hb hK hP hD hS 0 3 rfl rfl (n_in rfl (by first | exact (om_0 hi_2.1) | ((first | omega | (unfold zBd at *; omega)))) (by first | exact (om_1216 c_5) | ((first | omega | (unfold zBd at *; omega))))) dJ7_fill_d0a16_15 (fun g_6 H locs hP hD hS => ?_)
        replace hP : va_P D gcl [(a0, .inl (cJ, 40, .inr (.inl g_6)))] H := hP
        replace hD : va_D A [(a0, .inl (cJ, 40, .inr (.inl g_6)))] := hD
        refine b_iinc (pc := 16) hx hb dJ7_fill_d0a16_16 hl (k := 1) rfl rfl tI_1 (by first | exact (om_2 hi_2.1) | ((first | omega | (unfold zBd at *; omega)))) (by first | exact (om_1217 c_5) | ((first | omega | (unfold zBd at *; omega)))) (by decide) (fun x_7 ex_7 ls hl => ?_)
        replace hl : lv_has ls 5 [(3, .int x_7), (4, .int 40), (0, .ref a0), (1, .long y0)] := hl
        refine lv_goto (pc := 19) (tgt := 6) hx hb dJ7_fill_d0a16_19 (by decide) ?_
        exact ih_lp_4 x_7 g_6 _ _ ls (by first | exact (om_1218 ex_7 hi_2.1 c_5) | ((first | omega | (unfold zBd at *; omega)))) (by (first | omega | (unfold zBd at *; omega))) hP hD hS (lv_sub hl [1, 0, 2, 3] rfl)
  exact lp_4 _ 0 g0 _ _ ls (n_c tI_0 (by decide)) (Nat.lt_succ_self _) hP hD hS (lv_sub hl [0, 1, 2, 3] rfl)
set_option maxHeartbeats 4000000 in
set_option maxRecDepth 100000 in
theorem k_X10_start_8 (l : Launch) (D : va_G) (cB cC cI cJ : ClassId) (sz : Nat) (a0 a1 a2 a3 a4 a5 a6 a7 a8 a9 a10 a11 a12 : Nat) (x0 x1 x2 x3 x4 x5 x6 x7 : Int32) (f0 : Nat → Int32) (g0 g1 g2 : Nat → Int64) (h_x0 : zBd x0.toInt 0 4) (h_x1 : zBd x1.toInt (-1) 8) (h_x2 : zBd x2.toInt (-1) 5) (h_x3 : zBd x3.toInt (-1) 6) (h_x4 : zBd x4.toInt 0 6) (h_x5 : zBd x5.toInt 0 16) : Met l yX10_start (.code yX10_start cX10_start 4 none :: lw_gd) ({ frames := 2, cells := 0, slots := 0, locals := 46 }) (gPre D [(cB, .byte), (cC, .char), (cI, .int), (cJ, .long)] [.ref a0, .ref a1] (zS_42 cB cC cI cJ a0 a2 a3 a4 a5 a6 a7 a8 x0 a1 a9 a10 a11 x1 x2 x3 x4 x5 x6 x7 a9 a12 a12 f0 a2 g0 a4 g1 a3 g2) sz) (va_Qv (fun u => (0 ≤ (u.2.2.2.1 0).toInt ∧ (u.2.2.2.1 0).toInt ≤ 4)) (gB D (va_A (zS_42 cB cC cI cJ a0 a2 a3 a4 a5 a6 a7 a8 x0 a1 a9 a10 a11 x1 x2 x3 x4 x5 x6 x7 a9 a12 a12 f0 a2 g0 a4 g1 a3 g2) sz) (fun u : gEx => (zS_42 cB cC cI cJ a0 a2 a3 a4 a5 a6 a7 a8 (u.2.2.2.1 0) a1 a9 a10 a11 x1 x2 x3 x4 x5 x6 x7 a9 a12 a12 f0 a2 (u.2.2.1 0) a4 (u.2.2.1 1) a3 (u.2.2.1 2)))) (va_A (zS_42 cB cC cI cJ a0 a2 a3 a4 a5 a6 a7 a8 x0 a1 a9 a10 a11 x1 x2 x3 x4 x5 x6 x7 a9 a12 a12 f0 a2 g0 a4 g1 a3 g2) sz)) 0 0 (va_A (zS_42 cB cC cI cJ a0 a2 a3 a4 a5 a6 a7 a8 x0 a1 a9 a10 a11 x1 x2 x3 x4 x5 x6 x7 a9 a12 a12 f0 a2 g0 a4 g1 a3 g2) sz) := by
  refine gOf_v (by decide +kernel) (Nat.le_of_ble_eq_true rfl) ?_
  intro p e s m args below meth c ls A Q hx hb hts hown hml hN hK hP hD hA hl hret
  replace hown : s.vm.findClass RX10 = some m.cls := hown
  have hS : va_S A s.heap s.heap [] := va_S.rf
  replace hP : va_P D gcl (zS_42 cB cC cI cJ a0 a2 a3 a4 a5 a6 a7 a8 x0 a1 a9 a10 a11 x1 x2 x3 x4 x5 x6 x7 a9 a12 a12 f0 a2 g0 a4 g1 a3 g2) s.heap := hP
  replace hl : lv_has ls 4 [(0, .ref a0), (1, .ref a1)] := hl
  have rx6 : zBd x6.toInt (-2147483648) 2147483647 := n_rng x6
  have rx7 : zBd x7.toInt (-2147483648) 2147483647 := n_rng x7
  refine lv_aload_n (pc := 0) hx hb dX10_start_0 rfl (lv_at hl 0 rfl) ?_
  refine lv_iconst (pc := 1) (v := 0) hx hb dX10_start_1 (by decide) ?_
  refine lv_aload_n (pc := 2) hx hb dX10_start_2 rfl (lv_at hl 1 rfl) ?_
  refine va_getN (pc := 3) (ci := 1) (v := .int x2) (C := RX1) (T := TX1) (N := 10) hx hb hts iX1 hown hK hP 1 rfl rfl 4 (by decide) (va_Nw.use rfl (hN _ tn_117)) (fun _ h9 => h9) rfl dX10_start_3 ?_
  refine lv_iconst (pc := 6) (v := 1) hx hb dX10_start_6 (by decide) ?_
  refine b_isub (pc := 7) hx hb rfl tI_1 (by first | exact (om_1089 h_x2.1) | ((first | omega | (unfold zBd at *; omega)))) (by first | exact (om_207 h_x2.2) | ((first | omega | (unfold zBd at *; omega)))) dX10_start_7 (fun x_1 ex_1 => ?_)
  refine va_mmax (pc := 8) hx hb (hml.trans hl.1.symm) hown (hts _ tw_884) (hts _ tw_885) (hts _ tw_19) (hts _ tw_886) (Nat.le_of_ble_eq_true rfl) (Nat.le_of_ble_eq_true rfl) (Nat.le_of_ble_eq_true rfl) (Nat.le_of_ble_eq_true rfl) dX10_start_8 ?_
  refine lv_topi (fun x_2 ex_2 => ?_)
  have ex_2 := n_max tI_0 rfl ex_2
  have rx_2 : zBd x_2.toInt (-2147483648) 2147483647 := n_rng x_2
  refine va_put (pc := 11) (ci := 10) (v := .int x_2) (ty := .int) (C := RX10) (T := TX10) (N := 8) hx hb hts iX10 tyX10 tyX10_ok nmX10 hown hK hP hD hS 0 rfl rfl 7 (by decide) (hts _ tw_220) (fun _ h9 => h9) rfl (by decide +kernel) rfl rfl (Nat.le_of_ble_eq_true rfl) dX10_start_11 (fun H locs hP hD hS => ?_)
  replace hP : va_P D gcl (zS_42 cB cC cI cJ a0 a2 a3 a4 a5 a6 a7 a8 x_2 a1 a9 a10 a11 x1 x2 x3 x4 x5 x6 x7 a9 a12 a12 f0 a2 g0 a4 g1 a3 g2) H := hP
  replace hD : va_D A (zS_42 cB cC cI cJ a0 a2 a3 a4 a5 a6 a7 a8 x_2 a1 a9 a10 a11 x1 x2 x3 x4 x5 x6 x7 a9 a12 a12 f0 a2 g0 a4 g1 a3 g2) := hD
  refine lv_iconst (pc := 14) (v := 0) hx hb dX10_start_14 (by decide) ?_
  refine lv_istore_n (pc := 15) (lv' := [(2, .int 0), (0, .ref a0), (1, .ref a1)]) hx hb dX10_start_15 rfl hl (by decide) rfl (fun ls hl => ?_)
  have lp_7 : ∀ (n : Nat) (x_3 : Int32) (g_5 g_6 : Nat → Int64) (H : Heap) (locs : List Loc) (ls : Array Slot), (0 ≤ x_3.toInt ∧ x_3.toInt ≤ 2147483647) → (2147483647 - x_3.toInt).toNat < n → va_P D gcl (zS_42 cB cC cI cJ a0 a2 a3 a4 a5 a6 a7 a8 x_2 a1 a9 a10 a11 x1 x2 x3 x4 x5 x6 x7 a9 a12 a12 f0 a2 g_5 a4 g_6 a3 g2) H → va_D A (zS_42 cB cC cI cJ a0 a2 a3 a4 a5 a6 a7 a8 x_2 a1 a9 a10 a11 x1 x2 x3 x4 x5 x6 x7 a9 a12 a12 f0 a2 g_5 a4 g_6 a3 g2) → va_S A s.heap H locs → lv_has ls 4 [(2, .int x_3), (0, .ref a0), (1, .ref a1)] → W p l e ({ frames := 2, cells := 0, slots := 0, locals := 46 }) s m args below meth c H locs 0 0 Q (F0 m 16 ls []) := by
    intro n
    induction n with
    | zero => intro x_3 g_5 g_6 H locs ls hi_4 hmu; exact absurd hmu (Nat.not_lt_zero _)
    | succ n ih_lp_7 =>
      intro x_3 g_5 g_6 H locs ls hi_4 hmu_lp_7 hP hD hS hl
      refine lv_iload_n (pc := 16) hx hb dX10_start_16 rfl (lv_at hl 0 rfl) ?_
      refine lv_aload_n (pc := 17) hx hb dX10_start_17 rfl (lv_at hl 1 rfl) ?_
      refine va_get (pc := 18) (ci := 10) (v := .int x_2) (C := RX10) (T := TX10) (N := 8) hx hb hts iX10 hown hK hP 0 rfl rfl 7 (by decide) (hts _ tw_220) (fun _ h9 => h9) rfl dX10_start_18 ?_
      refine b_icmp_gt (pc := 21) (tgt := 73) hx hb rfl rfl  dX10_start_21 (by decide) (fun c_8 => ?_) (fun c_8 => ?_)
      ·
        refine lv_aload_n (pc := 73) hx hb dX10_start_73 rfl (lv_at hl 1 rfl) ?_
        refine va_get (pc := 74) (ci := 10) (v := .ref a3) (C := RX10) (T := TX10) (N := 8) hx hb hts iX10 hown hK hP 0 rfl rfl 1 (by decide) (hts _ tw_209) (fun _ h9 => h9) rfl dX10_start_74 ?_
        refine lv_iconst (pc := 77) (v := 0) hx hb dX10_start_77 (by decide) ?_
        refine lv_lconst (pc := 78) (v := 0) hx hb dX10_start_78 (by decide) ?_
        refine g_lastore (pc := 79) hx hb hK hP hD hS 6 3 rfl rfl (gin rfl) dX10_start_79 (fun g_9 H locs hP hD hS => ?_)
        replace hP : va_P D gcl (zS_42 cB cC cI cJ a0 a2 a3 a4 a5 a6 a7 a8 x_2 a1 a9 a10 a11 x1 x2 x3 x4 x5 x6 x7 a9 a12 a12 f0 a2 g_5 a4 g_6 a3 g_9) H := hP
        replace hD : va_D A (zS_42 cB cC cI cJ a0 a2 a3 a4 a5 a6 a7 a8 x_2 a1 a9 a10 a11 x1 x2 x3 x4 x5 x6 x7 a9 a12 a12 f0 a2 g_5 a4 g_6 a3 g_9) := hD
        exact hret ((fun _ => 0), (fun _ => (fun _ => 0)), (fun k => [g_5, g_6, g_9].getD k (fun _ => 0)), (fun k => [x_2].getD k 0), (fun _ => 0)) dX10_start_80 (show (0 ≤ (x_2 : Int32).toInt ∧ (x_2 : Int32).toInt ≤ 4) from (by first | exact (om_1121 ex_2 ex_1 h_x2.2) | ((first | omega | (unfold zBd at *; omega))))) (g_psub (wc := (zS_42 cB cC cI cJ a0 a2 a3 a4 a5 a6 a7 a8 x_2 a1 a9 a10 a11 x1 x2 x3 x4 x5 x6 x7 a9 a12 a12 f0 a2 g_5 a4 g_6 a3 g_9)) hP [0, 1, 2, 3, 4, 5, 6] rfl) (hD.sub (ws' := (zS_42 cB cC cI cJ a0 a2 a3 a4 a5 a6 a7 a8 x_2 a1 a9 a10 a11 x1 x2 x3 x4 x5 x6 x7 a9 a12 a12 f0 a2 g_5 a4 g_6 a3 g_9)) [0, 1, 2, 3, 4, 5, 6] (by decide) rfl) hS
      ·
        refine lv_iconst (pc := 24) (v := 0) hx hb dX10_start_24 (by decide) ?_
        refine lv_istore_n (pc := 25) (lv' := [(3, .int 0), (2, .int x_3), (0, .ref a0), (1, .ref a1)]) hx hb dX10_start_25 rfl hl (by decide) rfl (fun ls hl => ?_)
        have lp_13 : ∀ (n : Nat) (x_10 : Int32) (g_12 : Nat → Int64) (H : Heap) (locs : List Loc) (ls : Array Slot), (0 ≤ x_10.toInt ∧ x_10.toInt ≤ 2147483647) → (2147483647 - x_10.toInt).toNat < n → va_P D gcl (zS_42 cB cC cI cJ a0 a2 a3 a4 a5 a6 a7 a8 x_2 a1 a9 a10 a11 x1 x2 x3 x4 x5 x6 x7 a9 a12 a12 f0 a2 g_12 a4 g_6 a3 g2) H → va_D A (zS_42 cB cC cI cJ a0 a2 a3 a4 a5 a6 a7 a8 x_2 a1 a9 a10 a11 x1 x2 x3 x4 x5 x6 x7 a9 a12 a12 f0 a2 g_12 a4 g_6 a3 g2) → va_S A s.heap H locs → lv_has ls 4 [(3, .int x_10), (2, .int x_3), (0, .ref a0), (1, .ref a1)] → W p l e ({ frames := 2, cells := 0, slots := 0, locals := 46 }) s m args below meth c H locs 0 0 Q (F0 m 26 ls []) := by
          intro n
          induction n with
          | zero => intro x_10 g_12 H locs ls hi_11 hmu; exact absurd hmu (Nat.not_lt_zero _)
          | succ n ih_lp_13 =>
            intro x_10 g_12 H locs ls hi_11 hmu_lp_13 hP hD hS hl
            refine lv_iload_n (pc := 26) hx hb dX10_start_26 rfl (lv_at hl 0 rfl) ?_
            refine lv_aload_n (pc := 27) hx hb dX10_start_27 rfl (lv_at hl 2 rfl) ?_
            refine va_get (pc := 28) (ci := 10) (v := .int x_2) (C := RX10) (T := TX10) (N := 8) hx hb hts iX10 hown hK hP 0 rfl rfl 7 (by decide) (hts _ tw_220) (fun _ h9 => h9) rfl dX10_start_28 ?_
            refine b_icmp_gt (pc := 31) (tgt := 60) hx hb rfl rfl  dX10_start_31 (by decide) (fun c_14 => ?_) (fun c_14 => ?_)
            ·
              refine lv_aload_n (pc := 60) hx hb dX10_start_60 rfl (lv_at hl 2 rfl) ?_
              refine va_get (pc := 61) (ci := 10) (v := .ref a4) (C := RX10) (T := TX10) (N := 8) hx hb hts iX10 hown hK hP 0 rfl rfl 2 (by decide) (hts _ tw_210) (fun _ h9 => h9) rfl dX10_start_61 ?_
              refine lv_iload_n (pc := 64) hx hb dX10_start_64 rfl (lv_at hl 1 rfl) ?_
              refine lv_lconst (pc := 65) (v := 0) hx hb dX10_start_65 (by decide) ?_
              refine g_lastore (pc := 66) hx hb hK hP hD hS 5 3 rfl rfl (n_in rfl (by first | exact (om_0 hi_4.1) | ((first | omega | (unfold zBd at *; omega)))) (by first | exact (om_1122 ex_2 c_8 ex_1 h_x2.2) | ((first | omega | (unfold zBd at *; omega))))) dX10_start_66 (fun g_15 H locs hP hD hS => ?_)
              replace hP : va_P D gcl (zS_42 cB cC cI cJ a0 a2 a3 a4 a5 a6 a7 a8 x_2 a1 a9 a10 a11 x1 x2 x3 x4 x5 x6 x7 a9 a12 a12 f0 a2 g_12 a4 g_15 a3 g2) H := hP
              replace hD : va_D A (zS_42 cB cC cI cJ a0 a2 a3 a4 a5 a6 a7 a8 x_2 a1 a9 a10 a11 x1 x2 x3 x4 x5 x6 x7 a9 a12 a12 f0 a2 g_12 a4 g_15 a3 g2) := hD
              refine b_iinc (pc := 67) hx hb dX10_start_67 hl (k := 1) rfl rfl tI_1 (by first | exact (om_2 hi_4.1) | ((first | omega | (unfold zBd at *; omega)))) (by first | exact (om_1123 c_8 c_14 hi_11.2) | ((first | omega | (unfold zBd at *; omega)))) (by decide) (fun x_16 ex_16 ls hl => ?_)
              replace hl : lv_has ls 4 [(2, .int x_16), (3, .int x_10), (0, .ref a0), (1, .ref a1)] := hl
              refine lv_goto (pc := 70) (tgt := 16) hx hb dX10_start_70 (by decide) ?_
              exact ih_lp_7 x_16 g_12 g_15 _ _ ls (by first | exact (om_1124 ex_16 hi_4.1 ex_2 c_8 ex_1 h_x2.2) | ((first | omega | (unfold zBd at *; omega)))) (by (first | omega | (unfold zBd at *; omega))) hP hD hS (lv_sub hl [0, 2, 3] rfl)
            ·
              refine lv_aload_n (pc := 34) hx hb dX10_start_34 rfl (lv_at hl 2 rfl) ?_
              refine va_get (pc := 35) (ci := 10) (v := .ref a2) (C := RX10) (T := TX10) (N := 8) hx hb hts iX10 hown hK hP 0 rfl rfl 0 (by decide) (hts _ tw_207) (fun _ h9 => h9) rfl dX10_start_35 ?_
              refine lv_iload_n (pc := 38) hx hb dX10_start_38 rfl (lv_at hl 1 rfl) ?_
              refine lv_iconst (pc := 39) (v := 5) hx hb dX10_start_39 (by decide) ?_
              refine b_imul (pc := 40) hx hb rfl tI_5 (by first | exact (om_330 hi_4.1) | ((first | omega | (unfold zBd at *; omega)))) (by first | exact (om_1125 ex_2 c_8 ex_1 h_x2.2) | ((first | omega | (unfold zBd at *; omega)))) dX10_start_40 (fun x_17 ex_17 => ?_)
              refine lv_iload_n (pc := 41) hx hb dX10_start_41 rfl (lv_at hl 0 rfl) ?_
              refine b_iadd (pc := 42) hx hb rfl rfl (by first | exact (om_332 ex_17 hi_11.1 hi_4.1) | ((first | omega | (unfold zBd at *; omega)))) (by first | exact (om_1126 ex_2 ex_17 c_14 c_8 ex_1 h_x2.2) | ((first | omega | (unfold zBd at *; omega)))) dX10_start_42 (fun x_18 ex_18 => ?_)
              refine lv_aload_n (pc := 43) hx hb dX10_start_43 rfl (lv_at hl 3 rfl) ?_
              refine va_getN (pc := 44) (ci := 1) (v := .ref a9) (C := RX1) (T := TX1) (N := 10) hx hb hts iX1 hown hK hP 1 rfl rfl 0 (by decide) (va_Nw.use rfl (hN _ tn_99)) (fun _ h9 => h9) rfl dX10_start_44 ?_
              refine lv_iload_n (pc := 47) hx hb dX10_start_47 rfl (lv_at hl 1 rfl) ?_
              refine lv_iload_n (pc := 48) hx hb dX10_start_48 rfl (lv_at hl 0 rfl) ?_
              refine gd_i (pc := 49) (wc := [(a9, .inr (8, [.ref a12])), (a12, .inl (cI, 30, .inl f0))]) hP hD hS hA [2, 3] rfl (by decide +kernel) (fun _ => by rfl) (fun hPc hDc => va_runV (As := [.int x_3, .int x_10]) (rest := [.int x_18, .ref a2]) ⟨hx, hb, hml, hown, hts⟩ (k_X8_productOf l D cB cC cI cJ _ a9 a12 x_3 x_10 f0 (by first | exact (om_1127 hi_4.1 ex_2 c_8 ex_1 h_x2.2) | ((first | omega | (unfold zBd at *; omega)))) (by first | exact (om_1127 hi_11.1 ex_2 c_14 ex_1 h_x2.2) | ((first | omega | (unfold zBd at *; omega))))) ⟨gcwB hts tw_799 tw_5 tw_887 hd_yX8_productOf ⟨Nat.le_of_ble_eq_true rfl, Nat.le_of_ble_eq_true rfl⟩, hts _ tw_797, hts _ tw_798⟩ ⟨gblind, va_recv hK hPc (ci := 8) (q0 := 0) rfl rfl, (gpreS hPc hK hDc hN).2⟩ rfl rfl hl.1 rfl (lv_room (Nat.le_of_ble_eq_true rfl)) dX10_start_49 ⟨Nat.le_of_ble_eq_true rfl, Nat.le_of_ble_eq_true rfl⟩) (fun r_20 u_19 H locs hw_21 hP hD hS => ?_)
              replace hP : va_P D gcl (zS_42 cB cC cI cJ a0 a2 a3 a4 a5 a6 a7 a8 x_2 a1 a9 a10 a11 x1 x2 x3 x4 x5 x6 x7 a9 a12 a12 f0 a2 g_12 a4 g_6 a3 g2) H := hP
              replace hD : va_D A (zS_42 cB cC cI cJ a0 a2 a3 a4 a5 a6 a7 a8 x_2 a1 a9 a10 a11 x1 x2 x3 x4 x5 x6 x7 a9 a12 a12 f0 a2 g_12 a4 g_6 a3 g2) := hD
              have hw_22 : ((((-2147483648) ≤ r_20.toInt ∧ r_20.toInt ≤ 2147483647))) := hw_21
              have rr_20 : zBd r_20.toInt (-2147483648) 2147483647 := n_rng r_20
              refine b_i2l (pc := 52) hx hb rfl dX10_start_52 (fun y_23 ey_23 => ?_)
              have ry_23 : zBd r_20.toInt (-2147483648) 2147483647 := n_rng r_20
              refine g_lastore (pc := 53) hx hb hK hP hD hS 4 3 rfl rfl (n_in rfl (by first | exact (om_334 ex_18 ex_17 hi_11.1 hi_4.1) | ((first | omega | (unfold zBd at *; omega)))) (by first | exact (om_1128 ex_2 ex_18 ex_17 c_14 c_8 ex_1 h_x2.2) | ((first | omega | (unfold zBd at *; omega))))) dX10_start_53 (fun g_24 H locs hP hD hS => ?_)
              replace hP : va_P D gcl (zS_42 cB cC cI cJ a0 a2 a3 a4 a5 a6 a7 a8 x_2 a1 a9 a10 a11 x1 x2 x3 x4 x5 x6 x7 a9 a12 a12 f0 a2 g_24 a4 g_6 a3 g2) H := hP
              replace hD : va_D A (zS_42 cB cC cI cJ a0 a2 a3 a4 a5 a6 a7 a8 x_2 a1 a9 a10 a11 x1 x2 x3 x4 x5 x6 x7 a9 a12 a12 f0 a2 g_24 a4 g_6 a3 g2) := hD
              refine b_iinc (pc := 54) hx hb dX10_start_54 hl (k := 0) rfl rfl tI_1 (by first | exact (om_2 hi_11.1) | ((first | omega | (unfold zBd at *; omega)))) (by first | exact (om_1129 ex_2 c_14 ex_1 h_x2.2) | ((first | omega | (unfold zBd at *; omega)))) (by decide) (fun x_25 ex_25 ls hl => ?_)
              replace hl : lv_has ls 4 [(3, .int x_25), (2, .int x_3), (0, .ref a0), (1, .ref a1)] := hl
              refine lv_goto (pc := 57) (tgt := 26) hx hb dX10_start_57 (by decide) ?_
              exact ih_lp_13 x_25 g_24 _ _ ls (by first | exact (om_1124 ex_25 hi_11.1 ex_2 c_14 ex_1 h_x2.2) | ((first | omega | (unfold zBd at *; omega)))) (by (first | omega | (unfold zBd at *; omega))) hP hD hS (lv_sub hl [0, 1, 2, 3] rfl)
        exact lp_13 _ 0 g_5 _ _ ls (n_c tI_0 (by decide)) (Nat.lt_succ_self _) hP hD hS (lv_sub hl [0, 1, 2, 3] rfl)
  exact lp_7 _ 0 g0 g1 _ _ ls (n_c tI_0 (by decide)) (Nat.lt_succ_self _) hP hD hS (lv_sub hl [0, 1, 2] rfl)
set_option maxHeartbeats 4000000 in
set_option maxRecDepth 100000 in
theorem k_X10_aimAt_8_6 (l : Launch) (D : va_G) (cB cC cI cJ : ClassId) (sz : Nat) (a0 a1 a2 a3 a4 a5 a6 a7 a8 a9 a10 a11 a12 a13 : Nat) (x0 x1 x2 x3 x4 x5 x6 x7 : Int32) (f0 f1 : Nat → Int32) (g0 g1 : Nat → Int64) (h_x0 : zBd x0.toInt 0 4) (h_x1 : zBd x1.toInt (-1) 8) (h_x2 : zBd x2.toInt (-1) 5) (h_x3 : zBd x3.toInt (-1) 6) (h_x4 : zBd x4.toInt 0 6) (h_x5 : zBd x5.toInt 0 16) : Met l yX10_aimAt (.code yX10_aimAt cX10_aimAt 9 none :: lw_gd) ({ frames := 1, cells := 0, slots := 0, locals := 22 }) (gPre D [(cB, .byte), (cC, .char), (cI, .int), (cJ, .long)] [.ref a0, .ref a1, .ref a2] (zS_113 cB cC cI cJ a0 a3 a4 a5 a6 a7 a8 a9 x0 a1 a10 a11 a12 x1 x2 x3 x4 x5 x6 x7 a4 g0 a5 g1 a2 f0 a10 a13 a13 f1) sz) (va_Qv (fun u => ((((-1) ≤ x3.toInt ∧ x3.toInt ≤ 6) ∧ (0 ≤ x0.toInt ∧ x0.toInt ≤ 4)))) (gB D (va_A (zS_113 cB cC cI cJ a0 a3 a4 a5 a6 a7 a8 a9 x0 a1 a10 a11 a12 x1 x2 x3 x4 x5 x6 x7 a4 g0 a5 g1 a2 f0 a10 a13 a13 f1) sz) (fun u : gEx => (zS_113 cB cC cI cJ a0 a3 a4 a5 a6 a7 a8 a9 x0 a1 a10 a11 a12 x1 x2 x3 x4 x5 x6 x7 a4 (u.2.2.1 0) a5 (u.2.2.1 1) a2 f0 a10 a13 a13 f1))) (va_A (zS_113 cB cC cI cJ a0 a3 a4 a5 a6 a7 a8 a9 x0 a1 a10 a11 a12 x1 x2 x3 x4 x5 x6 x7 a4 g0 a5 g1 a2 f0 a10 a13 a13 f1) sz)) 0 0 (va_A (zS_113 cB cC cI cJ a0 a3 a4 a5 a6 a7 a8 a9 x0 a1 a10 a11 a12 x1 x2 x3 x4 x5 x6 x7 a4 g0 a5 g1 a2 f0 a10 a13 a13 f1) sz) := by
  refine gOf_v (by decide +kernel) (Nat.le_of_ble_eq_true rfl) ?_
  intro p e s m args below meth c ls A Q hx hb hts hown hml hN hK hP hD hA hl hret
  replace hown : s.vm.findClass RX10 = some m.cls := hown
  have hS : va_S A s.heap s.heap [] := va_S.rf
  replace hP : va_P D gcl (zS_113 cB cC cI cJ a0 a3 a4 a5 a6 a7 a8 a9 x0 a1 a10 a11 a12 x1 x2 x3 x4 x5 x6 x7 a4 g0 a5 g1 a2 f0 a10 a13 a13 f1) s.heap := hP
  replace hl : lv_has ls 9 [(0, .ref a0), (1, .ref a1), (2, .ref a2)] := hl
  have rx6 : zBd x6.toInt (-2147483648) 2147483647 := n_rng x6
  have rx7 : zBd x7.toInt (-2147483648) 2147483647 := n_rng x7
  refine lv_lconst (pc := 0) (v := 0) hx hb dX10_aimAt_0 (by decide) ?_
  refine lv_lstore_n (pc := 1) (lv' := [(3, .long 0), (0, .ref a0), (1, .ref a1), (2, .ref a2)]) hx hb dX10_aimAt_1 rfl hl (by decide) rfl (fun ls hl => ?_)
  refine lv_iconst (pc := 2) (v := 0) hx hb dX10_aimAt_2 (by decide) ?_
  refine lv_istore (pc := 3) (lv' := [(5, .int 0), (3, .long 0), (0, .ref a0), (1, .ref a1), (2, .ref a2)]) hx hb dX10_aimAt_3 hl (by decide) rfl (fun ls hl => ?_)
  have lp_5 : ∀ (n : Nat) (x_1 : Int32) (y_3 : Int64) (H : Heap) (locs : List Loc) (ls : Array Slot), (0 ≤ x_1.toInt ∧ x_1.toInt ≤ 2147483647) → (2147483647 - x_1.toInt).toNat < n → va_P D gcl (zS_113 cB cC cI cJ a0 a3 a4 a5 a6 a7 a8 a9 x0 a1 a10 a11 a12 x1 x2 x3 x4 x5 x6 x7 a4 g0 a5 g1 a2 f0 a10 a13 a13 f1) H → va_D A (zS_113 cB cC cI cJ a0 a3 a4 a5 a6 a7 a8 a9 x0 a1 a10 a11 a12 x1 x2 x3 x4 x5 x6 x7 a4 g0 a5 g1 a2 f0 a10 a13 a13 f1) → va_S A s.heap H locs → lv_has ls 9 [(5, .int x_1), (3, .long y_3), (0, .ref a0), (1, .ref a1), (2, .ref a2)] → W p l e ({ frames := 1, cells := 0, slots := 0, locals := 22 }) s m args below meth c H locs 0 0 Q (F0 m 5 ls []) := by
    intro n
    induction n with
    | zero => intro x_1 y_3 H locs ls hi_2 hmu; exact absurd hmu (Nat.not_lt_zero _)
    | succ n ih_lp_5 =>
      intro x_1 y_3 H locs ls hi_2 hmu_lp_5 hP hD hS hl
      have hi_4 := n_rngL y_3
      refine lv_iload (pc := 5) hx hb dX10_aimAt_5 (lv_at hl 0 rfl) ?_
      refine lv_aload_n (pc := 7) hx hb dX10_aimAt_7 rfl (lv_at hl 3 rfl) ?_
      refine va_getN (pc := 8) (ci := 1) (v := .int x3) (C := RX1) (T := TX1) (N := 10) hx hb hts iX1 hown hK hP 1 rfl rfl 5 (by decide) (va_Nw.use rfl (hN _ tn_126)) (fun _ h9 => h9) rfl dX10_aimAt_8 ?_
      refine b_icmp_ge (pc := 11) (tgt := 34) hx hb rfl rfl  dX10_aimAt_11 (by decide) (fun c_6 => ?_) (fun c_6 => ?_)
      ·
        refine lv_aload_n (pc := 34) hx hb dX10_aimAt_34 rfl (lv_at hl 2 rfl) ?_
        refine va_get (pc := 35) (ci := 10) (v := .ref a4) (C := RX10) (T := TX10) (N := 8) hx hb hts iX10 hown hK hP 0 rfl rfl 1 (by decide) (hts _ tw_209) (fun _ h9 => h9) rfl dX10_aimAt_35 ?_
        refine lv_iconst (pc := 38) (v := 0) hx hb dX10_aimAt_38 (by decide) ?_
        refine lv_lload_n (pc := 39) hx hb dX10_aimAt_39 rfl (lv_at hl 1 rfl) ?_
        refine g_lastore (pc := 40) hx hb hK hP hD hS 2 3 rfl rfl (gin rfl) dX10_aimAt_40 (fun g_7 H locs hP hD hS => ?_)
        replace hP : va_P D gcl (zS_113 cB cC cI cJ a0 a3 a4 a5 a6 a7 a8 a9 x0 a1 a10 a11 a12 x1 x2 x3 x4 x5 x6 x7 a4 g_7 a5 g1 a2 f0 a10 a13 a13 f1) H := hP
        replace hD : va_D A (zS_113 cB cC cI cJ a0 a3 a4 a5 a6 a7 a8 a9 x0 a1 a10 a11 a12 x1 x2 x3 x4 x5 x6 x7 a4 g_7 a5 g1 a2 f0 a10 a13 a13 f1) := hD
        refine lv_iconst (pc := 41) (v := 0) hx hb dX10_aimAt_41 (by decide) ?_
        refine lv_istore (pc := 42) (lv' := [(5, .int 0), (3, .long y_3), (0, .ref a0), (1, .ref a1), (2, .ref a2)]) hx hb dX10_aimAt_42 hl (by decide) rfl (fun ls hl => ?_)
        have lp_11 : ∀ (n : Nat) (x_8 : Int32) (g_10 : Nat → Int64) (H : Heap) (locs : List Loc) (ls : Array Slot), (0 ≤ x_8.toInt ∧ x_8.toInt ≤ 2147483647) → (2147483647 - x_8.toInt).toNat < n → va_P D gcl (zS_113 cB cC cI cJ a0 a3 a4 a5 a6 a7 a8 a9 x0 a1 a10 a11 a12 x1 x2 x3 x4 x5 x6 x7 a4 g_7 a5 g_10 a2 f0 a10 a13 a13 f1) H → va_D A (zS_113 cB cC cI cJ a0 a3 a4 a5 a6 a7 a8 a9 x0 a1 a10 a11 a12 x1 x2 x3 x4 x5 x6 x7 a4 g_7 a5 g_10 a2 f0 a10 a13 a13 f1) → va_S A s.heap H locs → lv_has ls 9 [(5, .int x_8), (3, .long y_3), (0, .ref a0), (1, .ref a1), (2, .ref a2)] → W p l e ({ frames := 1, cells := 0, slots := 0, locals := 22 }) s m args below meth c H locs 0 0 Q (F0 m 44 ls []) := by
          intro n
          induction n with
          | zero => intro x_8 g_10 H locs ls hi_9 hmu; exact absurd hmu (Nat.not_lt_zero _)
          | succ n ih_lp_11 =>
            intro x_8 g_10 H locs ls hi_9 hmu_lp_11 hP hD hS hl
            refine lv_iload (pc := 44) hx hb dX10_aimAt_44 (lv_at hl 0 rfl) ?_
            refine lv_aload_n (pc := 46) hx hb dX10_aimAt_46 rfl (lv_at hl 2 rfl) ?_
            refine va_get (pc := 47) (ci := 10) (v := .int x0) (C := RX10) (T := TX10) (N := 8) hx hb hts iX10 hown hK hP 0 rfl rfl 7 (by decide) (hts _ tw_220) (fun _ h9 => h9) rfl dX10_aimAt_47 ?_
            have bd_h_x0 : 0 ≤ x0.toInt ∧ x0.toInt ≤ 4 := h_x0
            refine b_icmp_gt (pc := 50) (tgt := 112) hx hb rfl rfl  dX10_aimAt_50 (by decide) (fun c_12 => ?_) (fun c_12 => ?_)
            ·
              exact hret ((fun _ => 0), (fun _ => (fun _ => 0)), (fun k => [g_7, g_10].getD k (fun _ => 0)), (fun _ => 0), (fun _ => 0)) dX10_aimAt_112 (show ((((-1) ≤ x3.toInt ∧ x3.toInt ≤ 6) ∧ (0 ≤ x0.toInt ∧ x0.toInt ≤ 4))) from (by first | exact (om_1130 h_x3.1 h_x3.2 h_x0.1 h_x0.2) | ((first | omega | (unfold zBd at *; omega))))) (g_psub (wc := (zS_113 cB cC cI cJ a0 a3 a4 a5 a6 a7 a8 a9 x0 a1 a10 a11 a12 x1 x2 x3 x4 x5 x6 x7 a4 g_7 a5 g_10 a2 f0 a10 a13 a13 f1)) hP [0, 1, 2, 3, 4, 5, 6] rfl) (hD.sub (ws' := (zS_113 cB cC cI cJ a0 a3 a4 a5 a6 a7 a8 a9 x0 a1 a10 a11 a12 x1 x2 x3 x4 x5 x6 x7 a4 g_7 a5 g_10 a2 f0 a10 a13 a13 f1)) [0, 1, 2, 3, 4, 5, 6] (by decide) rfl) hS
            ·
              refine lv_lconst (pc := 53) (v := 0) hx hb dX10_aimAt_53 (by decide) ?_
              refine lv_lstore (pc := 54) (lv' := [(6, .long 0), (5, .int x_8), (3, .long y_3), (0, .ref a0), (1, .ref a1), (2, .ref a2)]) hx hb dX10_aimAt_54 hl (by decide) rfl (fun ls hl => ?_)
              refine lv_iconst (pc := 56) (v := 0) hx hb dX10_aimAt_56 (by decide) ?_
              refine lv_istore (pc := 57) (lv' := [(8, .int 0), (6, .long 0), (5, .int x_8), (3, .long y_3), (0, .ref a0), (1, .ref a1), (2, .ref a2)]) hx hb dX10_aimAt_57 hl (by decide) rfl (fun ls hl => ?_)
              have lp_17 : ∀ (n : Nat) (x_13 : Int32) (y_15 : Int64) (H : Heap) (locs : List Loc) (ls : Array Slot), (0 ≤ x_13.toInt ∧ x_13.toInt ≤ 2147483647) → (2147483647 - x_13.toInt).toNat < n → va_P D gcl (zS_113 cB cC cI cJ a0 a3 a4 a5 a6 a7 a8 a9 x0 a1 a10 a11 a12 x1 x2 x3 x4 x5 x6 x7 a4 g_7 a5 g_10 a2 f0 a10 a13 a13 f1) H → va_D A (zS_113 cB cC cI cJ a0 a3 a4 a5 a6 a7 a8 a9 x0 a1 a10 a11 a12 x1 x2 x3 x4 x5 x6 x7 a4 g_7 a5 g_10 a2 f0 a10 a13 a13 f1) → va_S A s.heap H locs → lv_has ls 9 [(8, .int x_13), (6, .long y_15), (5, .int x_8), (3, .long y_3), (0, .ref a0), (1, .ref a1), (2, .ref a2)] → W p l e ({ frames := 1, cells := 0, slots := 0, locals := 22 }) s m args below meth c H locs 0 0 Q (F0 m 59 ls []) := by
                intro n
                induction n with
                | zero => intro x_13 y_15 H locs ls hi_14 hmu; exact absurd hmu (Nat.not_lt_zero _)
                | succ n ih_lp_17 =>
                  intro x_13 y_15 H locs ls hi_14 hmu_lp_17 hP hD hS hl
                  have hi_16 := n_rngL y_15
                  refine lv_iload (pc := 59) hx hb dX10_aimAt_59 (lv_at hl 0 rfl) ?_
                  refine lv_aload_n (pc := 61) hx hb dX10_aimAt_61 rfl (lv_at hl 5 rfl) ?_
                  refine va_getN (pc := 62) (ci := 1) (v := .int x3) (C := RX1) (T := TX1) (N := 10) hx hb hts iX1 hown hK hP 1 rfl rfl 5 (by decide) (va_Nw.use rfl (hN _ tn_126)) (fun _ h9 => h9) rfl dX10_aimAt_62 ?_
                  refine b_icmp_ge (pc := 65) (tgt := 97) hx hb rfl rfl  dX10_aimAt_65 (by decide) (fun c_18 => ?_) (fun c_18 => ?_)
                  ·
                    refine lv_aload_n (pc := 97) hx hb dX10_aimAt_97 rfl (lv_at hl 4 rfl) ?_
                    refine va_get (pc := 98) (ci := 10) (v := .ref a5) (C := RX10) (T := TX10) (N := 8) hx hb hts iX10 hown hK hP 0 rfl rfl 2 (by decide) (hts _ tw_210) (fun _ h9 => h9) rfl dX10_aimAt_98 ?_
                    refine lv_iload (pc := 101) hx hb dX10_aimAt_101 (lv_at hl 2 rfl) ?_
                    refine lv_lload (pc := 103) hx hb dX10_aimAt_103 (lv_at hl 1 rfl) ?_
                    refine g_lastore (pc := 105) hx hb hK hP hD hS 3 3 rfl rfl (n_in rfl (by first | exact (om_0 hi_9.1) | ((first | omega | (unfold zBd at *; omega)))) (by first | exact (om_1131 c_12 h_x0.2) | ((first | omega | (unfold zBd at *; omega))))) dX10_aimAt_105 (fun g_19 H locs hP hD hS => ?_)
                    replace hP : va_P D gcl (zS_113 cB cC cI cJ a0 a3 a4 a5 a6 a7 a8 a9 x0 a1 a10 a11 a12 x1 x2 x3 x4 x5 x6 x7 a4 g_7 a5 g_19 a2 f0 a10 a13 a13 f1) H := hP
                    replace hD : va_D A (zS_113 cB cC cI cJ a0 a3 a4 a5 a6 a7 a8 a9 x0 a1 a10 a11 a12 x1 x2 x3 x4 x5 x6 x7 a4 g_7 a5 g_19 a2 f0 a10 a13 a13 f1) := hD
                    refine b_iinc (pc := 106) hx hb dX10_aimAt_106 hl (k := 2) rfl rfl tI_1 (by first | exact (om_2 hi_9.1) | ((first | omega | (unfold zBd at *; omega)))) (by first | exact (om_1132 c_12 h_x0.2) | ((first | omega | (unfold zBd at *; omega)))) (by decide) (fun x_20 ex_20 ls hl => ?_)
                    replace hl : lv_has ls 9 [(5, .int x_20), (8, .int x_13), (6, .long y_15), (3, .long y_3), (0, .ref a0), (1, .ref a1), (2, .ref a2)] := hl
                    refine lv_goto (pc := 109) (tgt := 44) hx hb dX10_aimAt_109 (by decide) ?_
                    exact ih_lp_11 x_20 g_19 _ _ ls (by first | exact (om_1133 ex_20 hi_9.1 c_12 h_x0.2) | ((first | omega | (unfold zBd at *; omega)))) (by (first | omega | (unfold zBd at *; omega))) hP hD hS (lv_sub hl [0, 3, 4, 5, 6] rfl)
                  ·
                    refine lv_lload (pc := 68) hx hb dX10_aimAt_68 (lv_at hl 1 rfl) ?_
                    refine lv_aload_n (pc := 70) hx hb dX10_aimAt_70 rfl (lv_at hl 6 rfl) ?_
                    refine lv_iload (pc := 71) hx hb dX10_aimAt_71 (lv_at hl 0 rfl) ?_
                    refine va_iald (pc := 73) hx hb hK hP 4 2 rfl rfl (n_in rfl (by first | exact (om_0 hi_14.1) | ((first | omega | (unfold zBd at *; omega)))) (by first | exact (om_1082 c_18 h_x3.2) | ((first | omega | (unfold zBd at *; omega))))) dX10_aimAt_73 ?_
                    refine lv_topi (fun x_21 ex_21 => ?_)
                    have rx_21 : zBd x_21.toInt (-2147483648) 2147483647 := n_rng x_21
                    refine b_i2l (pc := 74) hx hb rfl dX10_aimAt_74 (fun y_22 ey_22 => ?_)
                    have ry_22 : zBd x_21.toInt (-2147483648) 2147483647 := n_rng x_21
                    refine lv_aload_n (pc := 75) hx hb dX10_aimAt_75 rfl (lv_at hl 5 rfl) ?_
                    refine va_getN (pc := 76) (ci := 1) (v := .ref a10) (C := RX1) (T := TX1) (N := 10) hx hb hts iX1 hown hK hP 1 rfl rfl 0 (by decide) (va_Nw.use rfl (hN _ tn_99)) (fun _ h9 => h9) rfl dX10_aimAt_76 ?_
                    refine lv_iload (pc := 79) hx hb dX10_aimAt_79 (lv_at hl 0 rfl) ?_
                    refine lv_iload (pc := 81) hx hb dX10_aimAt_81 (lv_at hl 2 rfl) ?_
                    refine gd_i (pc := 83) (wc := [(a10, .inr (8, [.ref a13])), (a13, .inl (cI, 30, .inl f1))]) hP hD hS hA [5, 6] rfl (by decide +kernel) (fun _ => by rfl) (fun hPc hDc => va_runV (As := [.int x_13, .int x_8]) (rest := [.long y_22, .long y_15]) ⟨hx, hb, hml, hown, hts⟩ (k_X8_at l D cB cC cI cJ _ a10 a13 x_13 x_8 f1 (by first | exact (om_1083 hi_14.1 c_18 h_x3.2) | ((first | omega | (unfold zBd at *; omega)))) (by first | exact (om_1134 hi_9.1 c_12 h_x0.2) | ((first | omega | (unfold zBd at *; omega))))) ⟨gcwB hts tw_791 tw_5 tw_892 hd_yX8_at ⟨Nat.le_of_ble_eq_true rfl, Nat.le_of_ble_eq_true rfl⟩, hts _ tw_789, hts _ tw_790⟩ ⟨gblind, va_recv hK hPc (ci := 8) (q0 := 0) rfl rfl, (gpreS hPc hK hDc hN).2⟩ rfl rfl hl.1 rfl (lv_room (Nat.le_of_ble_eq_true rfl)) dX10_aimAt_83 ⟨Nat.le_of_ble_eq_true rfl, Nat.le_of_ble_eq_true rfl⟩) (fun r_24 u_23 H locs hw_25 hP hD hS => ?_)
                    replace hP : va_P D gcl (zS_113 cB cC cI cJ a0 a3 a4 a5 a6 a7 a8 a9 x0 a1 a10 a11 a12 x1 x2 x3 x4 x5 x6 x7 a4 g_7 a5 g_10 a2 f0 a10 a13 a13 f1) H := hP
                    replace hD : va_D A (zS_113 cB cC cI cJ a0 a3 a4 a5 a6 a7 a8 a9 x0 a1 a10 a11 a12 x1 x2 x3 x4 x5 x6 x7 a4 g_7 a5 g_10 a2 f0 a10 a13 a13 f1) := hD
                    have hw_26 : ((((-2147483648) ≤ r_24.toInt ∧ r_24.toInt ≤ 2147483647))) := hw_25
                    have rr_24 : zBd r_24.toInt (-2147483648) 2147483647 := n_rng r_24
                    refine b_i2l (pc := 86) hx hb rfl dX10_aimAt_86 (fun y_27 ey_27 => ?_)
                    have ry_27 : zBd r_24.toInt (-2147483648) 2147483647 := n_rng r_24
                    refine lv_lmul (pc := 87) hx hb dX10_aimAt_87 ?_
                    refine lv_topl (fun y_28 _ => ?_)
                    have ry_28 := n_rngL y_28
                    refine lv_ladd (pc := 88) hx hb dX10_aimAt_88 ?_
                    refine lv_topl (fun y_29 _ => ?_)
                    have ry_29 := n_rngL y_29
                    refine lv_lstore (pc := 89) (lv' := [(6, .long y_29), (8, .int x_13), (5, .int x_8), (3, .long y_3), (0, .ref a0), (1, .ref a1), (2, .ref a2)]) hx hb dX10_aimAt_89 hl (by decide) rfl (fun ls hl => ?_)
                    refine b_iinc (pc := 91) hx hb dX10_aimAt_91 hl (k := 1) rfl rfl tI_1 (by first | exact (om_2 hi_14.1) | ((first | omega | (unfold zBd at *; omega)))) (by first | exact (om_1084 c_18 h_x3.2) | ((first | omega | (unfold zBd at *; omega)))) (by decide) (fun x_30 ex_30 ls hl => ?_)
                    replace hl : lv_has ls 9 [(8, .int x_30), (6, .long y_29), (5, .int x_8), (3, .long y_3), (0, .ref a0), (1, .ref a1), (2, .ref a2)] := hl
                    refine lv_goto (pc := 94) (tgt := 59) hx hb dX10_aimAt_94 (by decide) ?_
                    exact ih_lp_17 x_30 y_29 _ _ ls (by first | exact (om_1085 ex_30 hi_14.1 c_18 h_x3.2) | ((first | omega | (unfold zBd at *; omega)))) (by (first | omega | (unfold zBd at *; omega))) hP hD hS (lv_sub hl [0, 1, 2, 3, 4, 5, 6] rfl)
              exact lp_17 _ 0 0 _ _ ls (n_c tI_0 (by decide)) (Nat.lt_succ_self _) hP hD hS (lv_sub hl [0, 1, 2, 3, 4, 5, 6] rfl)
        exact lp_11 _ 0 g1 _ _ ls (n_c tI_0 (by decide)) (Nat.lt_succ_self _) hP hD hS (lv_sub hl [0, 1, 2, 3, 4] rfl)
      ·
        refine lv_lload_n (pc := 14) hx hb dX10_aimAt_14 rfl (lv_at hl 1 rfl) ?_
        refine lv_aload_n (pc := 15) hx hb dX10_aimAt_15 rfl (lv_at hl 4 rfl) ?_
        refine lv_iload (pc := 16) hx hb dX10_aimAt_16 (lv_at hl 0 rfl) ?_
        refine va_iald (pc := 18) hx hb hK hP 4 2 rfl rfl (n_in rfl (by first | exact (om_0 hi_2.1) | ((first | omega | (unfold zBd at *; omega)))) (by first | exact (om_1082 c_6 h_x3.2) | ((first | omega | (unfold zBd at *; omega))))) dX10_aimAt_18 ?_
        refine lv_topi (fun x_31 ex_31 => ?_)
        have rx_31 : zBd x_31.toInt (-2147483648) 2147483647 := n_rng x_31
        refine b_i2l (pc := 19) hx hb rfl dX10_aimAt_19 (fun y_32 ey_32 => ?_)
        have ry_32 : zBd x_31.toInt (-2147483648) 2147483647 := n_rng x_31
        refine lv_aload_n (pc := 20) hx hb dX10_aimAt_20 rfl (lv_at hl 4 rfl) ?_
        refine lv_iload (pc := 21) hx hb dX10_aimAt_21 (lv_at hl 0 rfl) ?_
        refine va_iald (pc := 23) hx hb hK hP 4 2 rfl rfl (n_in rfl (by first | exact (om_0 hi_2.1) | ((first | omega | (unfold zBd at *; omega)))) (by first | exact (om_1082 c_6 h_x3.2) | ((first | omega | (unfold zBd at *; omega))))) dX10_aimAt_23 ?_
        refine gI (y := x_31) ex_31.symm ?_
        refine b_i2l (pc := 24) hx hb rfl dX10_aimAt_24 (fun y_33 ey_33 => ?_)
        have ry_33 : zBd x_31.toInt (-2147483648) 2147483647 := n_rng x_31
        refine lv_lmul (pc := 25) hx hb dX10_aimAt_25 ?_
        refine lv_topl (fun y_34 _ => ?_)
        have ry_34 := n_rngL y_34
        refine lv_ladd (pc := 26) hx hb dX10_aimAt_26 ?_
        refine lv_topl (fun y_35 _ => ?_)
        have ry_35 := n_rngL y_35
        refine lv_lstore_n (pc := 27) (lv' := [(3, .long y_35), (5, .int x_1), (0, .ref a0), (1, .ref a1), (2, .ref a2)]) hx hb dX10_aimAt_27 rfl hl (by decide) rfl (fun ls hl => ?_)
        refine b_iinc (pc := 28) hx hb dX10_aimAt_28 hl (k := 1) rfl rfl tI_1 (by first | exact (om_2 hi_2.1) | ((first | omega | (unfold zBd at *; omega)))) (by first | exact (om_1084 c_6 h_x3.2) | ((first | omega | (unfold zBd at *; omega)))) (by decide) (fun x_36 ex_36 ls hl => ?_)
        replace hl : lv_has ls 9 [(5, .int x_36), (3, .long y_35), (0, .ref a0), (1, .ref a1), (2, .ref a2)] := hl
        refine lv_goto (pc := 31) (tgt := 5) hx hb dX10_aimAt_31 (by decide) ?_
        exact ih_lp_5 x_36 y_35 _ _ ls (by first | exact (om_1085 ex_36 hi_2.1 c_6 h_x3.2) | ((first | omega | (unfold zBd at *; omega)))) (by (first | omega | (unfold zBd at *; omega))) hP hD hS (lv_sub hl [0, 1, 2, 3, 4] rfl)
  exact lp_5 _ 0 0 _ _ ls (n_c tI_0 (by decide)) (Nat.lt_succ_self _) hP hD hS (lv_sub hl [0, 1, 2, 3, 4] rfl)
theorem om_1219 {a : Int} (h0 : ((-1) ≤ a)) : ((-1) ≤ a) := by omega
set_option maxHeartbeats 4000000 in
set_option maxRecDepth 100000 in
theorem k_X10_setNumbers_8 (l : Launch) (D : va_G) (cB cC cI cJ : ClassId) (sz : Nat) (a0 a1 a2 a3 a4 a5 a6 a7 : Nat) (x0 x1 x2 x3 x4 : Int32) (f0 f1 f2 : Nat → Int32) (hp1 : (0 ≤ x0.toInt ∧ x0.toInt ≤ 4)) (hp4 : ((-1) ≤ x3.toInt ∧ x3.toInt ≤ 8)) (h_x4 : zBd x4.toInt 0 4) (hf_f2 : (∀ j, (-1) ≤ (f2 j).toInt ∧ (f2 j).toInt ≤ 8)) : Met l yX10_setNumbers (.code yX10_setNumbers cX10_setNumbers 5 none :: lw_gd) ({ frames := 0, cells := 0, slots := 0, locals := 0 }) (gPre D [(cB, .byte), (cC, .char), (cI, .int), (cJ, .long)] [.ref a0, .int x0, .int x1, .int x2, .int x3] (zS_29 cB cC cI cJ a0 a1 a2 a3 a4 a5 a6 a7 x4 a4 f0 a5 f1 a6 f2) sz) (va_Qv (fun u => (∀ j, (-1) ≤ ((u.2.1 2) j).toInt ∧ ((u.2.1 2) j).toInt ≤ 8)) (gB D (va_A (zS_29 cB cC cI cJ a0 a1 a2 a3 a4 a5 a6 a7 x4 a4 f0 a5 f1 a6 f2) sz) (fun u : gEx => (zS_29 cB cC cI cJ a0 a1 a2 a3 a4 a5 a6 a7 x4 a4 (u.2.1 0) a5 (u.2.1 1) a6 (u.2.1 2)))) (va_A (zS_29 cB cC cI cJ a0 a1 a2 a3 a4 a5 a6 a7 x4 a4 f0 a5 f1 a6 f2) sz)) 0 0 (va_A (zS_29 cB cC cI cJ a0 a1 a2 a3 a4 a5 a6 a7 x4 a4 f0 a5 f1 a6 f2) sz) := by
  refine gOf_v (by decide +kernel) (Nat.le_of_ble_eq_true rfl) ?_
  intro p e s m args below meth c ls A Q hx hb hts hown hml hN hK hP hD hA hl hret
  replace hown : s.vm.findClass RX10 = some m.cls := hown
  have hS : va_S A s.heap s.heap [] := va_S.rf
  replace hP : va_P D gcl (zS_29 cB cC cI cJ a0 a1 a2 a3 a4 a5 a6 a7 x4 a4 f0 a5 f1 a6 f2) s.heap := hP
  replace hl : lv_has ls 5 [(0, .ref a0), (1, .int x0), (2, .int x1), (3, .int x2), (4, .int x3)] := hl
  have rx1 : zBd x1.toInt (-2147483648) 2147483647 := n_rng x1
  have rx2 : zBd x2.toInt (-2147483648) 2147483647 := n_rng x2
  refine lv_aload_n (pc := 0) hx hb dX10_setNumbers_0 rfl (lv_at hl 0 rfl) ?_
  refine va_get (pc := 1) (ci := 10) (v := .ref a4) (C := RX10) (T := TX10) (N := 8) hx hb hts iX10 hown hK hP 0 rfl rfl 3 (by decide) (hts _ tw_211) (fun _ h9 => h9) rfl dX10_setNumbers_1 ?_
  refine lv_iload_n (pc := 4) hx hb dX10_setNumbers_4 rfl (lv_at hl 1 rfl) ?_
  refine lv_iload_n (pc := 5) hx hb dX10_setNumbers_5 rfl (lv_at hl 2 rfl) ?_
  refine g_iastore (pc := 6) hx hb hK hP hD hS 1 2 rfl rfl (n_in rfl (by first | exact (om_0 hp1.1) | ((first | omega | (unfold zBd at *; omega)))) (by first | exact (om_1135 hp1.2) | ((first | omega | (unfold zBd at *; omega))))) dX10_setNumbers_6 (fun f_1 H locs hP hD hS => ?_)
  replace hP : va_P D gcl (zS_29 cB cC cI cJ a0 a1 a2 a3 a4 a5 a6 a7 x4 a4 f_1 a5 f1 a6 f2) H := hP
  replace hD : va_D A (zS_29 cB cC cI cJ a0 a1 a2 a3 a4 a5 a6 a7 x4 a4 f_1 a5 f1 a6 f2) := hD
  refine lv_aload_n (pc := 7) hx hb dX10_setNumbers_7 rfl (lv_at hl 0 rfl) ?_
  refine va_get (pc := 8) (ci := 10) (v := .ref a5) (C := RX10) (T := TX10) (N := 8) hx hb hts iX10 hown hK hP 0 rfl rfl 4 (by decide) (hts _ tw_213) (fun _ h9 => h9) rfl dX10_setNumbers_8 ?_
  refine lv_iload_n (pc := 11) hx hb dX10_setNumbers_11 rfl (lv_at hl 1 rfl) ?_
  refine lv_iload_n (pc := 12) hx hb dX10_setNumbers_12 rfl (lv_at hl 3 rfl) ?_
  refine g_iastore (pc := 13) hx hb hK hP hD hS 2 2 rfl rfl (n_in rfl (by first | exact (om_0 hp1.1) | ((first | omega | (unfold zBd at *; omega)))) (by first | exact (om_1135 hp1.2) | ((first | omega | (unfold zBd at *; omega))))) dX10_setNumbers_13 (fun f_2 H locs hP hD hS => ?_)
  replace hP : va_P D gcl (zS_29 cB cC cI cJ a0 a1 a2 a3 a4 a5 a6 a7 x4 a4 f_1 a5 f_2 a6 f2) H := hP
  replace hD : va_D A (zS_29 cB cC cI cJ a0 a1 a2 a3 a4 a5 a6 a7 x4 a4 f_1 a5 f_2 a6 f2) := hD
  refine lv_aload_n (pc := 14) hx hb dX10_setNumbers_14 rfl (lv_at hl 0 rfl) ?_
  refine va_get (pc := 15) (ci := 10) (v := .ref a6) (C := RX10) (T := TX10) (N := 8) hx hb hts iX10 hown hK hP 0 rfl rfl 5 (by decide) (hts _ tw_214) (fun _ h9 => h9) rfl dX10_setNumbers_15 ?_
  refine lv_iload_n (pc := 18) hx hb dX10_setNumbers_18 rfl (lv_at hl 1 rfl) ?_
  refine lv_iload (pc := 19) hx hb dX10_setNumbers_19 (lv_at hl 4 rfl) ?_
  refine h_iastore (pc := 21) hx hb hK hP hD hS 3 2 rfl rfl (n_in rfl (by first | exact (om_0 hp1.1) | ((first | omega | (unfold zBd at *; omega)))) (by first | exact (om_1135 hp1.2) | ((first | omega | (unfold zBd at *; omega))))) dX10_setNumbers_21 hf_f2 (by first | exact (om_1219 hp4.1) | ((first | omega | (unfold zBd at *; omega)))) (by first | exact (om_502 hp4.2) | ((first | omega | (unfold zBd at *; omega)))) (fun f_3 hf_3 H locs hP hD hS => ?_)
  replace hP : va_P D gcl (zS_29 cB cC cI cJ a0 a1 a2 a3 a4 a5 a6 a7 x4 a4 f_1 a5 f_2 a6 f_3) H := hP
  replace hD : va_D A (zS_29 cB cC cI cJ a0 a1 a2 a3 a4 a5 a6 a7 x4 a4 f_1 a5 f_2 a6 f_3) := hD
  exact hret ((fun _ => 0), (fun k => [f_1, f_2, f_3].getD k (fun _ => 0)), (fun _ => (fun _ => 0)), (fun _ => 0), (fun _ => 0)) dX10_setNumbers_22 hf_3 (g_psub (wc := (zS_29 cB cC cI cJ a0 a1 a2 a3 a4 a5 a6 a7 x4 a4 f_1 a5 f_2 a6 f_3)) hP [0, 1, 2, 3] rfl) (hD.sub (ws' := (zS_29 cB cC cI cJ a0 a1 a2 a3 a4 a5 a6 a7 x4 a4 f_1 a5 f_2 a6 f_3)) [0, 1, 2, 3] (by decide) rfl) hS
set_option maxHeartbeats 4000000 in
set_option maxRecDepth 100000 in
theorem k_X10_setAllNumbers_8 (l : Launch) (D : va_G) (cB cC cI cJ : ClassId) (sz : Nat) (a0 a1 a2 a3 a4 a5 a6 a7 : Nat) (x0 x1 x2 x3 : Int32) (f0 f1 f2 : Nat → Int32) (hp3 : ((-1) ≤ x2.toInt ∧ x2.toInt ≤ 8)) (h_x3 : zBd x3.toInt 0 4) (hf_f2 : (∀ j, (-1) ≤ (f2 j).toInt ∧ (f2 j).toInt ≤ 8)) : Met l yX10_setAllNumbers (.code yX10_setAllNumbers cX10_setAllNumbers 5 none :: lw_gd) ({ frames := 1, cells := 0, slots := 0, locals := 24 }) (gPre D [(cB, .byte), (cC, .char), (cI, .int), (cJ, .long)] [.ref a0, .int x0, .int x1, .int x2] (zS_29 cB cC cI cJ a0 a1 a2 a3 a4 a5 a6 a7 x3 a4 f0 a5 f1 a6 f2) sz) (va_Qv (fun u => (((0 ≤ x3.toInt ∧ x3.toInt ≤ 4))) ∧ (∀ j, (-1) ≤ ((u.2.1 2) j).toInt ∧ ((u.2.1 2) j).toInt ≤ 8)) (gB D (va_A (zS_29 cB cC cI cJ a0 a1 a2 a3 a4 a5 a6 a7 x3 a4 f0 a5 f1 a6 f2) sz) (fun u : gEx => (zS_29 cB cC cI cJ a0 a1 a2 a3 a4 a5 a6 a7 x3 a4 (u.2.1 0) a5 (u.2.1 1) a6 (u.2.1 2)))) (va_A (zS_29 cB cC cI cJ a0 a1 a2 a3 a4 a5 a6 a7 x3 a4 f0 a5 f1 a6 f2) sz)) 0 0 (va_A (zS_29 cB cC cI cJ a0 a1 a2 a3 a4 a5 a6 a7 x3 a4 f0 a5 f1 a6 f2) sz) := by
  refine gOf_v (by decide +kernel) (Nat.le_of_ble_eq_true rfl) ?_
  intro p e s m args below meth c ls A Q hx hb hts hown hml hN hK hP hD hA hl hret
  replace hown : s.vm.findClass RX10 = some m.cls := hown
  have hS : va_S A s.heap s.heap [] := va_S.rf
  replace hP : va_P D gcl (zS_29 cB cC cI cJ a0 a1 a2 a3 a4 a5 a6 a7 x3 a4 f0 a5 f1 a6 f2) s.heap := hP
  replace hl : lv_has ls 5 [(0, .ref a0), (1, .int x0), (2, .int x1), (3, .int x2)] := hl
  have rx0 : zBd x0.toInt (-2147483648) 2147483647 := n_rng x0
  have rx1 : zBd x1.toInt (-2147483648) 2147483647 := n_rng x1
  refine lv_iconst (pc := 0) (v := 0) hx hb dX10_setAllNumbers_0 (by decide) ?_
  refine lv_istore (pc := 1) (lv' := [(4, .int 0), (0, .ref a0), (1, .int x0), (2, .int x1), (3, .int x2)]) hx hb dX10_setAllNumbers_1 hl (by decide) rfl (fun ls hl => ?_)
  have lp_7 : ∀ (n : Nat) (x_1 : Int32) (f_3 f_4 f_5 : Nat → Int32) (H : Heap) (locs : List Loc) (ls : Array Slot), (0 ≤ x_1.toInt ∧ x_1.toInt ≤ 2147483647) → (∀ j, (-1) ≤ (f_5 j).toInt ∧ (f_5 j).toInt ≤ 8) → (2147483647 - x_1.toInt).toNat < n → va_P D gcl (zS_29 cB cC cI cJ a0 a1 a2 a3 a4 a5 a6 a7 x3 a4 f_3 a5 f_4 a6 f_5) H → va_D A (zS_29 cB cC cI cJ a0 a1 a2 a3 a4 a5 a6 a7 x3 a4 f_3 a5 f_4 a6 f_5) → va_S A s.heap H locs → lv_has ls 5 [(4, .int x_1), (0, .ref a0), (1, .int x0), (2, .int x1), (3, .int x2)] → W p l e ({ frames := 1, cells := 0, slots := 0, locals := 24 }) s m args below meth c H locs 0 0 Q (F0 m 3 ls []) := by
    intro n
    induction n with
    | zero => intro x_1 f_3 f_4 f_5 H locs ls hi_2 hi_6 hmu; exact absurd hmu (Nat.not_lt_zero _)
    | succ n ih_lp_7 =>
      intro x_1 f_3 f_4 f_5 H locs ls hi_2 hi_6 hmu_lp_7 hP hD hS hl
      refine lv_iload (pc := 3) hx hb dX10_setAllNumbers_3 (lv_at hl 0 rfl) ?_
      refine lv_aload_n (pc := 5) hx hb dX10_setAllNumbers_5 rfl (lv_at hl 1 rfl) ?_
      refine va_get (pc := 6) (ci := 10) (v := .int x3) (C := RX10) (T := TX10) (N := 8) hx hb hts iX10 hown hK hP 0 rfl rfl 7 (by decide) (hts _ tw_220) (fun _ h9 => h9) rfl dX10_setAllNumbers_6 ?_
      have bd_h_x3 : 0 ≤ x3.toInt ∧ x3.toInt ≤ 4 := h_x3
      refine b_icmp_gt (pc := 9) (tgt := 27) hx hb rfl rfl  dX10_setAllNumbers_9 (by decide) (fun c_8 => ?_) (fun c_8 => ?_)
      ·
        exact hret ((fun _ => 0), (fun k => [f_3, f_4, f_5].getD k (fun _ => 0)), (fun _ => (fun _ => 0)), (fun _ => 0), (fun _ => 0)) dX10_setAllNumbers_27 ⟨(show (((0 ≤ x3.toInt ∧ x3.toInt ≤ 4))) from h_x3), hi_6⟩ (g_psub (wc := (zS_29 cB cC cI cJ a0 a1 a2 a3 a4 a5 a6 a7 x3 a4 f_3 a5 f_4 a6 f_5)) hP [0, 1, 2, 3] rfl) (hD.sub (ws' := (zS_29 cB cC cI cJ a0 a1 a2 a3 a4 a5 a6 a7 x3 a4 f_3 a5 f_4 a6 f_5)) [0, 1, 2, 3] (by decide) rfl) hS
      ·
        refine lv_aload_n (pc := 12) hx hb dX10_setAllNumbers_12 rfl (lv_at hl 1 rfl) ?_
        refine lv_iload (pc := 13) hx hb dX10_setAllNumbers_13 (lv_at hl 0 rfl) ?_
        refine lv_iload_n (pc := 15) hx hb dX10_setAllNumbers_15 rfl (lv_at hl 2 rfl) ?_
        refine lv_iload_n (pc := 16) hx hb dX10_setAllNumbers_16 rfl (lv_at hl 3 rfl) ?_
        refine lv_iload_n (pc := 17) hx hb dX10_setAllNumbers_17 rfl (lv_at hl 4 rfl) ?_
        refine gd_v (pc := 18) (wc := (zS_29 cB cC cI cJ a0 a1 a2 a3 a4 a5 a6 a7 x3 a4 f_3 a5 f_4 a6 f_5)) hP hD hS hA [0, 1, 2, 3] rfl (by decide +kernel) (fun _ => by rfl) (fun hPc hDc => va_runV (As := [.int x_1, .int x0, .int x1, .int x2]) (rest := []) ⟨hx, hb, hml, hown, hts⟩ (k_X10_setNumbers_8 l D cB cC cI cJ _ a0 a1 a2 a3 a4 a5 a6 a7 x_1 x0 x1 x2 x3 f_3 f_4 f_5 (by first | exact (om_1134 hi_2.1 c_8 h_x3.2) | ((first | omega | (unfold zBd at *; omega)))) hp3 h_x3 hi_6) ⟨gcwB hts tw_900 tw_8 tw_897 hd_yX10_setNumbers ⟨Nat.le_of_ble_eq_true rfl, Nat.le_of_ble_eq_true rfl⟩, hts _ tw_898, hts _ tw_899⟩ ⟨gblind, va_recv hK hPc (ci := 10) (q0 := 0) rfl rfl, (gpreS hPc hK hDc hN).2⟩ rfl rfl hl.1 rfl (lv_room (Nat.le_of_ble_eq_true rfl)) dX10_setAllNumbers_18 ⟨Nat.le_of_ble_eq_true rfl, Nat.le_of_ble_eq_true rfl⟩) (fun u_9 H locs hw_11 hP hD hS => ?_)
        replace hP : va_P D gcl (zS_29 cB cC cI cJ a0 a1 a2 a3 a4 a5 a6 a7 x3 a4 (u_9.2.1 0) a5 (u_9.2.1 1) a6 (u_9.2.1 2)) H := hP
        replace hD : va_D A (zS_29 cB cC cI cJ a0 a1 a2 a3 a4 a5 a6 a7 x3 a4 (u_9.2.1 0) a5 (u_9.2.1 1) a6 (u_9.2.1 2)) := hD
        have hw_12 : (∀ j, (-1) ≤ ((u_9.2.1 2) j).toInt ∧ ((u_9.2.1 2) j).toInt ≤ 8) := hw_11
        refine b_iinc (pc := 21) hx hb dX10_setAllNumbers_21 hl (k := 0) rfl rfl tI_1 (by first | exact (om_2 hi_2.1) | ((first | omega | (unfold zBd at *; omega)))) (by first | exact (om_1132 c_8 h_x3.2) | ((first | omega | (unfold zBd at *; omega)))) (by decide) (fun x_13 ex_13 ls hl => ?_)
        replace hl : lv_has ls 5 [(4, .int x_13), (0, .ref a0), (1, .int x0), (2, .int x1), (3, .int x2)] := hl
        refine lv_goto (pc := 24) (tgt := 3) hx hb dX10_setAllNumbers_24 (by decide) ?_
        exact ih_lp_7 x_13 (u_9.2.1 0) (u_9.2.1 1) (u_9.2.1 2) _ _ ls (by first | exact (om_1133 ex_13 hi_2.1 c_8 h_x3.2) | ((first | omega | (unfold zBd at *; omega)))) hw_12 (by (first | omega | (unfold zBd at *; omega))) hP hD hS (lv_sub hl [0, 1, 2, 3, 4] rfl)
  exact lp_7 _ 0 f0 f1 f2 _ _ ls (n_c tI_0 (by decide)) hf_f2 (Nat.lt_succ_self _) hP hD hS (lv_sub hl [0, 1, 2, 3, 4] rfl)
set_option maxHeartbeats 4000000 in
set_option maxRecDepth 100000 in
theorem k_J7_fill_53178_5r0_7 (l : Launch) (D : va_G) (cB cC cI cJ : ClassId) (sz : Nat) (a0 : Nat) (x0 : Int32) (f0 : Nat → Int32) (hp1 : (0 ≤ x0.toInt ∧ x0.toInt ≤ 7)) (hf_f0 : (∀ j, 0 ≤ (f0 j).toInt ∧ (f0 j).toInt ≤ 7)) : Met l yJ7_fill_53178 (.code yJ7_fill_53178 cJ7_fill_53178 4 none :: lw_gd) ({ frames := 0, cells := 0, slots := 0, locals := 0 }) (gPre D [(cB, .byte), (cC, .char), (cI, .int), (cJ, .long)] [.ref a0, .int x0] [(a0, .inl (cI, 5, .inl f0))] sz) (va_Qv (fun u => (∀ j, 0 ≤ ((u.2.1 0) j).toInt ∧ ((u.2.1 0) j).toInt ≤ 7)) (gB D (va_A [(a0, .inl (cI, 5, .inl f0))] sz) (fun u : gEx => [(a0, .inl (cI, 5, .inl (u.2.1 0)))])) (va_A [(a0, .inl (cI, 5, .inl f0))] sz)) 0 0 (va_A [(a0, .inl (cI, 5, .inl f0))] sz) := by
  refine gOf_v (by decide +kernel) (Nat.le_of_ble_eq_true rfl) ?_
  intro p e s m args below meth c ls A Q hx hb hts hown hml hN hK hP hD hA hl hret
  replace hown : s.vm.findClass RJ7 = some m.cls := hown
  have hS : va_S A s.heap s.heap [] := va_S.rf
  replace hP : va_P D gcl [(a0, .inl (cI, 5, .inl f0))] s.heap := hP
  replace hl : lv_has ls 4 [(0, .ref a0), (1, .int x0)] := hl
  refine lv_iconst (pc := 0) (v := 0) hx hb dJ7_fill_53178_0 (by decide) ?_
  refine lv_istore_n (pc := 1) (lv' := [(2, .int 0), (0, .ref a0), (1, .int x0)]) hx hb dJ7_fill_53178_1 rfl hl (by decide) rfl (fun ls hl => ?_)
  refine lv_aload_n (pc := 2) hx hb dJ7_fill_53178_2 rfl (lv_at hl 1 rfl) ?_
  refine va_alen (pc := 3) (v := 5) hx hb hK hP 0 2 rfl rfl rfl dJ7_fill_53178_3 ?_
  refine lv_istore_n (pc := 4) (lv' := [(3, .int 5), (2, .int 0), (0, .ref a0), (1, .int x0)]) hx hb dJ7_fill_53178_4 rfl hl (by decide) rfl (fun ls hl => ?_)
  have lp_5 : ∀ (n : Nat) (x_1 : Int32) (f_3 : Nat → Int32) (H : Heap) (locs : List Loc) (ls : Array Slot), (0 ≤ x_1.toInt ∧ x_1.toInt ≤ 2147483647) → (∀ j, 0 ≤ (f_3 j).toInt ∧ (f_3 j).toInt ≤ 7) → (2147483647 - x_1.toInt).toNat < n → va_P D gcl [(a0, .inl (cI, 5, .inl f_3))] H → va_D A [(a0, .inl (cI, 5, .inl f_3))] → va_S A s.heap H locs → lv_has ls 4 [(3, .int 5), (2, .int x_1), (0, .ref a0), (1, .int x0)] → W p l e ({ frames := 0, cells := 0, slots := 0, locals := 0 }) s m args below meth c H locs 0 0 Q (F0 m 5 ls []) := by
    intro n
    induction n with
    | zero => intro x_1 f_3 H locs ls hi_2 hi_4 hmu; exact absurd hmu (Nat.not_lt_zero _)
    | succ n ih_lp_5 =>
      intro x_1 f_3 H locs ls hi_2 hi_4 hmu_lp_5 hP hD hS hl
      refine lv_iload_n (pc := 5) hx hb dJ7_fill_53178_5 rfl (lv_at hl 1 rfl) ?_
      refine lv_iload_n (pc := 6) hx hb dJ7_fill_53178_6 rfl (lv_at hl 0 rfl) ?_
      refine b_icmp_ge (pc := 7) (tgt := 20) hx hb rfl tI_5  dJ7_fill_53178_7 (by decide) (fun c_6 => ?_) (fun c_6 => ?_)
      ·
        exact hret ((fun _ => 0), (fun k => [f_3].getD k (fun _ => 0)), (fun _ => (fun _ => 0)), (fun _ => 0), (fun _ => 0)) dJ7_fill_53178_20 hi_4 (g_psub (wc := [(a0, .inl (cI, 5, .inl f_3))]) hP [0] rfl) (hD.sub (ws' := [(a0, .inl (cI, 5, .inl f_3))]) [0] (by decide) rfl) hS
      ·
        refine lv_aload_n (pc := 10) hx hb dJ7_fill_53178_10 rfl (lv_at hl 2 rfl) ?_
        refine lv_iload_n (pc := 11) hx hb dJ7_fill_53178_11 rfl (lv_at hl 1 rfl) ?_
        refine lv_iload_n (pc := 12) hx hb dJ7_fill_53178_12 rfl (lv_at hl 3 rfl) ?_
        refine h_iastore (pc := 13) hx hb hK hP hD hS 0 2 rfl rfl (n_in rfl (by first | exact (om_0 hi_2.1) | ((first | omega | (unfold zBd at *; omega)))) (by first | exact (om_434 c_6) | ((first | omega | (unfold zBd at *; omega))))) dJ7_fill_53178_13 hi_4 (by first | exact (om_0 hp1.1) | ((first | omega | (unfold zBd at *; omega)))) (by first | exact (om_337 hp1.2) | ((first | omega | (unfold zBd at *; omega)))) (fun f_7 hf_7 H locs hP hD hS => ?_)
        replace hP : va_P D gcl [(a0, .inl (cI, 5, .inl f_7))] H := hP
        replace hD : va_D A [(a0, .inl (cI, 5, .inl f_7))] := hD
        refine b_iinc (pc := 14) hx hb dJ7_fill_53178_14 hl (k := 1) rfl rfl tI_1 (by first | exact (om_2 hi_2.1) | ((first | omega | (unfold zBd at *; omega)))) (by first | exact (om_409 c_6) | ((first | omega | (unfold zBd at *; omega)))) (by decide) (fun x_8 ex_8 ls hl => ?_)
        replace hl : lv_has ls 4 [(2, .int x_8), (3, .int 5), (0, .ref a0), (1, .int x0)] := hl
        refine lv_goto (pc := 17) (tgt := 5) hx hb dJ7_fill_53178_17 (by decide) ?_
        exact ih_lp_5 x_8 f_7 _ _ ls (by first | exact (om_410 ex_8 hi_2.1 c_6) | ((first | omega | (unfold zBd at *; omega)))) hf_7 (by (first | omega | (unfold zBd at *; omega))) hP hD hS (lv_sub hl [1, 0, 2, 3] rfl)
  exact lp_5 _ 0 f0 _ _ ls (n_c tI_0 (by decide)) hf_f0 (Nat.lt_succ_self _) hP hD hS (lv_sub hl [0, 1, 2, 3] rfl)
set_option maxHeartbeats 4000000 in
set_option maxRecDepth 100000 in
theorem k_X10_settle_8 (l : Launch) (D : va_G) (cB cC cI cJ : ClassId) (sz : Nat) (a0 a1 a2 a3 a4 a5 a6 a7 : Nat) (x0 x1 : Int32) (f0 f1 f2 : Nat → Int32) (g0 g1 g2 : Nat → Int64) (hp1 : (0 ≤ x0.toInt ∧ x0.toInt ≤ 4)) (h_x1 : zBd x1.toInt 0 4) (hf_f2 : (∀ j, 0 ≤ (f2 j).toInt ∧ (f2 j).toInt ≤ 7)) : Met l yX10_settle (.code yX10_settle cX10_settle 7 none :: lw_gd) ({ frames := 0, cells := 0, slots := 0, locals := 0 }) (gPre D [(cB, .byte), (cC, .char), (cI, .int), (cJ, .long)] [.ref a0, .int x0] (zS_25 cB cC cI cJ a0 a1 a2 a3 a4 a5 a6 a7 x1 a4 f0 a5 f1 a7 f2 a2 g0 a1 g1 a3 g2) sz) (va_Qv (fun u => (((0 ≤ x1.toInt ∧ x1.toInt ≤ 4)))) (gB D (va_A (zS_25 cB cC cI cJ a0 a1 a2 a3 a4 a5 a6 a7 x1 a4 f0 a5 f1 a7 f2 a2 g0 a1 g1 a3 g2) sz) (fun u : gEx => (zS_25 cB cC cI cJ a0 a1 a2 a3 a4 a5 a6 a7 x1 a4 f0 a5 f1 a7 f2 a2 (u.2.2.1 0) a1 g1 a3 (u.2.2.1 1)))) (va_A (zS_25 cB cC cI cJ a0 a1 a2 a3 a4 a5 a6 a7 x1 a4 f0 a5 f1 a7 f2 a2 g0 a1 g1 a3 g2) sz)) 0 0 (va_A (zS_25 cB cC cI cJ a0 a1 a2 a3 a4 a5 a6 a7 x1 a4 f0 a5 f1 a7 f2 a2 g0 a1 g1 a3 g2) sz) := by
  refine gOf_v (by decide +kernel) (Nat.le_of_ble_eq_true rfl) ?_
  intro p e s m args below meth c ls A Q hx hb hts hown hml hN hK hP hD hA hl hret
  replace hown : s.vm.findClass RX10 = some m.cls := hown
  have hS : va_S A s.heap s.heap [] := va_S.rf
  replace hP : va_P D gcl (zS_25 cB cC cI cJ a0 a1 a2 a3 a4 a5 a6 a7 x1 a4 f0 a5 f1 a7 f2 a2 g0 a1 g1 a3 g2) s.heap := hP
  replace hl : lv_has ls 7 [(0, .ref a0), (1, .int x0)] := hl
  refine lv_iload_n (pc := 0) hx hb dX10_settle_0 rfl (lv_at hl 1 rfl) ?_
  refine lv_istore_n (pc := 1) (lv' := [(2, .int x0), (0, .ref a0), (1, .int x0)]) hx hb dX10_settle_1 rfl hl (by decide) rfl (fun ls hl => ?_)
  have lp_5 : ∀ (n : Nat) (x_1 : Int32) (g_3 g_4 : Nat → Int64) (H : Heap) (locs : List Loc) (ls : Array Slot), (0 ≤ x_1.toInt ∧ x_1.toInt ≤ 2147483647) → (2147483647 - x_1.toInt).toNat < n → va_P D gcl (zS_25 cB cC cI cJ a0 a1 a2 a3 a4 a5 a6 a7 x1 a4 f0 a5 f1 a7 f2 a2 g_3 a1 g1 a3 g_4) H → va_D A (zS_25 cB cC cI cJ a0 a1 a2 a3 a4 a5 a6 a7 x1 a4 f0 a5 f1 a7 f2 a2 g_3 a1 g1 a3 g_4) → va_S A s.heap H locs → lv_has ls 7 [(2, .int x_1), (0, .ref a0), (1, .int x0)] → W p l e ({ frames := 0, cells := 0, slots := 0, locals := 0 }) s m args below meth c H locs 0 0 Q (F0 m 2 ls []) := by
    intro n
    induction n with
    | zero => intro x_1 g_3 g_4 H locs ls hi_2 hmu; exact absurd hmu (Nat.not_lt_zero _)
    | succ n ih_lp_5 =>
      intro x_1 g_3 g_4 H locs ls hi_2 hmu_lp_5 hP hD hS hl
      refine lv_iload_n (pc := 2) hx hb dX10_settle_2 rfl (lv_at hl 0 rfl) ?_
      refine lv_aload_n (pc := 3) hx hb dX10_settle_3 rfl (lv_at hl 1 rfl) ?_
      refine va_get (pc := 4) (ci := 10) (v := .int x1) (C := RX10) (T := TX10) (N := 8) hx hb hts iX10 hown hK hP 0 rfl rfl 7 (by decide) (hts _ tw_220) (fun _ h9 => h9) rfl dX10_settle_4 ?_
      have bd_h_x1 : 0 ≤ x1.toInt ∧ x1.toInt ≤ 4 := h_x1
      refine b_icmp_ge (pc := 7) (tgt := 138) hx hb rfl rfl  dX10_settle_7 (by decide) (fun c_6 => ?_) (fun c_6 => ?_)
      ·
        exact hret ((fun _ => 0), (fun _ => (fun _ => 0)), (fun k => [g_3, g_4].getD k (fun _ => 0)), (fun _ => 0), (fun _ => 0)) dX10_settle_138 (show (((0 ≤ x1.toInt ∧ x1.toInt ≤ 4))) from h_x1) (g_psub (wc := (zS_25 cB cC cI cJ a0 a1 a2 a3 a4 a5 a6 a7 x1 a4 f0 a5 f1 a7 f2 a2 g_3 a1 g1 a3 g_4)) hP [0, 1, 2, 3, 4, 5, 6] rfl) (hD.sub (ws' := (zS_25 cB cC cI cJ a0 a1 a2 a3 a4 a5 a6 a7 x1 a4 f0 a5 f1 a7 f2 a2 g_3 a1 g1 a3 g_4)) [0, 1, 2, 3, 4, 5, 6] (by decide) rfl) hS
      ·
        refine lv_iload_n (pc := 10) hx hb dX10_settle_10 rfl (lv_at hl 0 rfl) ?_
        refine lv_iconst (pc := 11) (v := 5) hx hb dX10_settle_11 (by decide) ?_
        refine b_imul (pc := 12) hx hb rfl tI_5 (by first | exact (om_330 hi_2.1) | ((first | omega | (unfold zBd at *; omega)))) (by first | exact (om_1139 c_6 h_x1.2) | ((first | omega | (unfold zBd at *; omega)))) dX10_settle_12 (fun x_7 ex_7 => ?_)
        refine lv_istore_n (pc := 13) (lv' := [(3, .int x_7), (2, .int x_1), (0, .ref a0), (1, .int x0)]) hx hb dX10_settle_13 rfl hl (by decide) rfl (fun ls hl => ?_)
        refine lv_aload_n (pc := 14) hx hb dX10_settle_14 rfl (lv_at hl 2 rfl) ?_
        refine va_get (pc := 15) (ci := 10) (v := .ref a4) (C := RX10) (T := TX10) (N := 8) hx hb hts iX10 hown hK hP 0 rfl rfl 3 (by decide) (hts _ tw_211) (fun _ h9 => h9) rfl dX10_settle_15 ?_
        refine lv_iload_n (pc := 18) hx hb dX10_settle_18 rfl (lv_at hl 1 rfl) ?_
        refine va_iald (pc := 19) hx hb hK hP 1 2 rfl rfl (n_in rfl (by first | exact (om_0 hi_2.1) | ((first | omega | (unfold zBd at *; omega)))) (by first | exact (om_1140 c_6 h_x1.2) | ((first | omega | (unfold zBd at *; omega))))) dX10_settle_19 ?_
        refine lv_topi (fun x_8 ex_8 => ?_)
        have rx_8 : zBd x_8.toInt (-2147483648) 2147483647 := n_rng x_8
        refine lv_aload_n (pc := 20) hx hb dX10_settle_20 rfl (lv_at hl 2 rfl) ?_
        refine va_get (pc := 21) (ci := 10) (v := .ref a5) (C := RX10) (T := TX10) (N := 8) hx hb hts iX10 hown hK hP 0 rfl rfl 4 (by decide) (hts _ tw_213) (fun _ h9 => h9) rfl dX10_settle_21 ?_
        refine lv_iload_n (pc := 24) hx hb dX10_settle_24 rfl (lv_at hl 1 rfl) ?_
        refine va_iald (pc := 25) hx hb hK hP 2 2 rfl rfl (n_in rfl (by first | exact (om_0 hi_2.1) | ((first | omega | (unfold zBd at *; omega)))) (by first | exact (om_1140 c_6 h_x1.2) | ((first | omega | (unfold zBd at *; omega))))) dX10_settle_25 ?_
        refine lv_topi (fun x_9 ex_9 => ?_)
        have rx_9 : zBd x_9.toInt (-2147483648) 2147483647 := n_rng x_9
        refine lv_aload_n (pc := 26) hx hb dX10_settle_26 rfl (lv_at hl 2 rfl) ?_
        refine va_get (pc := 27) (ci := 10) (v := .ref a7) (C := RX10) (T := TX10) (N := 8) hx hb hts iX10 hown hK hP 0 rfl rfl 6 (by decide) (hts _ tw_216) (fun _ h9 => h9) rfl dX10_settle_27 ?_
        refine lv_iload_n (pc := 30) hx hb dX10_settle_30 rfl (lv_at hl 1 rfl) ?_
        refine va_iald (pc := 31) hx hb hK hP 3 2 rfl rfl (n_in rfl (by first | exact (om_0 hi_2.1) | ((first | omega | (unfold zBd at *; omega)))) (by first | exact (om_1140 c_6 h_x1.2) | ((first | omega | (unfold zBd at *; omega))))) dX10_settle_31 ?_
        refine lv_topi (fun x_10 ex_10 => ?_)
        have rx_10 : (0 ≤ x_10.toInt ∧ x_10.toInt ≤ 7) := by rw [ex_10]; exact hf_f2 _
        refine lv_imul (pc := 32) hx hb dX10_settle_32 ?_
        refine lv_topi (fun x_11 _ => ?_)
        have rx_11 : zBd x_11.toInt (-2147483648) 2147483647 := n_rng x_11
        refine lv_iadd (pc := 33) hx hb dX10_settle_33 ?_
        refine lv_topi (fun x_12 _ => ?_)
        have rx_12 : zBd x_12.toInt (-2147483648) 2147483647 := n_rng x_12
        refine b_i2l (pc := 34) hx hb rfl dX10_settle_34 (fun y_13 ey_13 => ?_)
        have ry_13 : zBd x_12.toInt (-2147483648) 2147483647 := n_rng x_12
        refine lv_lstore (pc := 35) (lv' := [(4, .long y_13), (3, .int x_7), (2, .int x_1), (0, .ref a0), (1, .int x0)]) hx hb dX10_settle_35 hl (by decide) rfl (fun ls hl => ?_)
        refine lv_aload_n (pc := 37) hx hb dX10_settle_37 rfl (lv_at hl 3 rfl) ?_
        refine va_get (pc := 38) (ci := 10) (v := .ref a2) (C := RX10) (T := TX10) (N := 8) hx hb hts iX10 hown hK hP 0 rfl rfl 1 (by decide) (hts _ tw_209) (fun _ h9 => h9) rfl dX10_settle_38 ?_
        refine lv_iload_n (pc := 41) hx hb dX10_settle_41 rfl (lv_at hl 2 rfl) ?_
        refine lv_iconst (pc := 42) (v := 1) hx hb dX10_settle_42 (by decide) ?_
        refine b_iadd (pc := 43) hx hb rfl tI_1 (by first | exact (om_2 hi_2.1) | ((first | omega | (unfold zBd at *; omega)))) (by first | exact (om_1141 c_6 h_x1.2) | ((first | omega | (unfold zBd at *; omega)))) dX10_settle_43 (fun x_14 ex_14 => ?_)
        refine lv_aload_n (pc := 44) hx hb dX10_settle_44 rfl (lv_at hl 3 rfl) ?_
        refine va_get (pc := 45) (ci := 10) (v := .ref a2) (C := RX10) (T := TX10) (N := 8) hx hb hts iX10 hown hK hP 0 rfl rfl 1 (by decide) (hts _ tw_209) (fun _ h9 => h9) rfl dX10_settle_45 ?_
        refine lv_iload_n (pc := 48) hx hb dX10_settle_48 rfl (lv_at hl 2 rfl) ?_
        refine va_lald (pc := 49) hx hb hK hP 4 3 rfl rfl (n_in rfl (by first | exact (om_0 hi_2.1) | ((first | omega | (unfold zBd at *; omega)))) (by first | exact (om_1140 c_6 h_x1.2) | ((first | omega | (unfold zBd at *; omega))))) dX10_settle_49 ?_
        refine lv_topl (fun y_15 ey_15 => ?_)
        have ry_15 := n_rngL y_15
        refine lv_lload (pc := 50) hx hb dX10_settle_50 (lv_at hl 0 rfl) ?_
        refine lv_lload (pc := 52) hx hb dX10_settle_52 (lv_at hl 0 rfl) ?_
        refine lv_aload_n (pc := 54) hx hb dX10_settle_54 rfl (lv_at hl 3 rfl) ?_
        refine va_get (pc := 55) (ci := 10) (v := .ref a1) (C := RX10) (T := TX10) (N := 8) hx hb hts iX10 hown hK hP 0 rfl rfl 0 (by decide) (hts _ tw_207) (fun _ h9 => h9) rfl dX10_settle_55 ?_
        refine lv_iload_n (pc := 58) hx hb dX10_settle_58 rfl (lv_at hl 1 rfl) ?_
        refine lv_iload_n (pc := 59) hx hb dX10_settle_59 rfl (lv_at hl 2 rfl) ?_
        refine b_iadd (pc := 60) hx hb rfl rfl (by first | exact (om_405 ex_7 hi_2.1) | ((first | omega | (unfold zBd at *; omega)))) (by first | exact (om_1142 ex_7 c_6 h_x1.2) | ((first | omega | (unfold zBd at *; omega)))) dX10_settle_60 (fun x_16 ex_16 => ?_)
        refine va_lald (pc := 61) hx hb hK hP 5 3 rfl rfl (n_in rfl (by first | exact (om_407 ex_16 ex_7 hi_2.1) | ((first | omega | (unfold zBd at *; omega)))) (by first | exact (om_1143 ex_16 ex_7 c_6 h_x1.2) | ((first | omega | (unfold zBd at *; omega))))) dX10_settle_61 ?_
        refine lv_topl (fun y_17 ey_17 => ?_)
        have ry_17 := n_rngL y_17
        refine lv_lmul (pc := 62) hx hb dX10_settle_62 ?_
        refine lv_topl (fun y_18 _ => ?_)
        have ry_18 := n_rngL y_18
        refine lv_ldc2 (pc := 63) hx hb hown (hts _ tw_910) dX10_settle_63 ?_
        refine lv_aload_n (pc := 66) hx hb dX10_settle_66 rfl (lv_at hl 3 rfl) ?_
        refine va_get (pc := 67) (ci := 10) (v := .ref a3) (C := RX10) (T := TX10) (N := 8) hx hb hts iX10 hown hK hP 0 rfl rfl 2 (by decide) (hts _ tw_210) (fun _ h9 => h9) rfl dX10_settle_67 ?_
        refine lv_iload_n (pc := 70) hx hb dX10_settle_70 rfl (lv_at hl 1 rfl) ?_
        refine lv_iload_n (pc := 71) hx hb dX10_settle_71 rfl (lv_at hl 2 rfl) ?_
        refine b_iadd (pc := 72) hx hb rfl rfl (by first | exact (om_405 ex_7 hi_2.1) | ((first | omega | (unfold zBd at *; omega)))) (by first | exact (om_1142 ex_7 c_6 h_x1.2) | ((first | omega | (unfold zBd at *; omega)))) dX10_settle_72 (fun x_19 ex_19 => ?_)
        refine va_lald (pc := 73) hx hb hK hP 6 3 rfl rfl (n_in rfl (by first | exact (om_407 ex_19 ex_7 hi_2.1) | ((first | omega | (unfold zBd at *; omega)))) (by first | exact (om_1143 ex_19 ex_7 c_6 h_x1.2) | ((first | omega | (unfold zBd at *; omega))))) dX10_settle_73 ?_
        refine lv_topl (fun y_20 ey_20 => ?_)
        have ry_20 := n_rngL y_20
        refine lv_lmul (pc := 74) hx hb dX10_settle_74 ?_
        refine lv_topl (fun y_21 _ => ?_)
        have ry_21 := n_rngL y_21
        refine lv_lsub (pc := 75) hx hb dX10_settle_75 ?_
        refine lv_topl (fun y_22 _ => ?_)
        have ry_22 := n_rngL y_22
        refine lv_lmul (pc := 76) hx hb dX10_settle_76 ?_
        refine lv_topl (fun y_23 _ => ?_)
        have ry_23 := n_rngL y_23
        refine lv_ladd (pc := 77) hx hb dX10_settle_77 ?_
        refine lv_topl (fun y_24 _ => ?_)
        have ry_24 := n_rngL y_24
        refine g_lastore (pc := 78) hx hb hK hP hD hS 4 3 rfl rfl (n_in rfl (by first | exact (om_917 ex_14 hi_2.1) | ((first | omega | (unfold zBd at *; omega)))) (by first | exact (om_1144 ex_14 c_6 h_x1.2) | ((first | omega | (unfold zBd at *; omega))))) dX10_settle_78 (fun g_25 H locs hP hD hS => ?_)
        replace hP : va_P D gcl (zS_25 cB cC cI cJ a0 a1 a2 a3 a4 a5 a6 a7 x1 a4 f0 a5 f1 a7 f2 a2 g_25 a1 g1 a3 g_4) H := hP
        replace hD : va_D A (zS_25 cB cC cI cJ a0 a1 a2 a3 a4 a5 a6 a7 x1 a4 f0 a5 f1 a7 f2 a2 g_25 a1 g1 a3 g_4) := hD
        refine lv_iload_n (pc := 79) hx hb dX10_settle_79 rfl (lv_at hl 2 rfl) ?_
        refine lv_iconst (pc := 80) (v := 1) hx hb dX10_settle_80 (by decide) ?_
        refine b_iadd (pc := 81) hx hb rfl tI_1 (by first | exact (om_2 hi_2.1) | ((first | omega | (unfold zBd at *; omega)))) (by first | exact (om_1141 c_6 h_x1.2) | ((first | omega | (unfold zBd at *; omega)))) dX10_settle_81 (fun x_26 ex_26 => ?_)
        refine lv_istore (pc := 82) (lv' := [(6, .int x_26), (4, .long y_13), (3, .int x_7), (2, .int x_1), (0, .ref a0), (1, .int x0)]) hx hb dX10_settle_82 hl (by decide) rfl (fun ls hl => ?_)
        have lp_30 : ∀ (n : Nat) (x_27 : Int32) (g_29 : Nat → Int64) (H : Heap) (locs : List Loc) (ls : Array Slot), (1 ≤ x_27.toInt ∧ x_27.toInt ≤ 2147483647) → (2147483647 - x_27.toInt).toNat < n → va_P D gcl (zS_25 cB cC cI cJ a0 a1 a2 a3 a4 a5 a6 a7 x1 a4 f0 a5 f1 a7 f2 a2 g_25 a1 g1 a3 g_29) H → va_D A (zS_25 cB cC cI cJ a0 a1 a2 a3 a4 a5 a6 a7 x1 a4 f0 a5 f1 a7 f2 a2 g_25 a1 g1 a3 g_29) → va_S A s.heap H locs → lv_has ls 7 [(6, .int x_27), (4, .long y_13), (3, .int x_7), (2, .int x_1), (0, .ref a0), (1, .int x0)] → W p l e ({ frames := 0, cells := 0, slots := 0, locals := 0 }) s m args below meth c H locs 0 0 Q (F0 m 84 ls []) := by
          intro n
          induction n with
          | zero => intro x_27 g_29 H locs ls hi_28 hmu; exact absurd hmu (Nat.not_lt_zero _)
          | succ n ih_lp_30 =>
            intro x_27 g_29 H locs ls hi_28 hmu_lp_30 hP hD hS hl
            refine lv_iload (pc := 84) hx hb dX10_settle_84 (lv_at hl 0 rfl) ?_
            refine lv_aload_n (pc := 86) hx hb dX10_settle_86 rfl (lv_at hl 4 rfl) ?_
            refine va_get (pc := 87) (ci := 10) (v := .int x1) (C := RX10) (T := TX10) (N := 8) hx hb hts iX10 hown hK hP 0 rfl rfl 7 (by decide) (hts _ tw_220) (fun _ h9 => h9) rfl dX10_settle_87 ?_
            refine b_icmp_gt (pc := 90) (tgt := 132) hx hb rfl rfl  dX10_settle_90 (by decide) (fun c_31 => ?_) (fun c_31 => ?_)
            ·
              refine b_iinc (pc := 132) hx hb dX10_settle_132 hl (k := 3) rfl rfl tI_1 (by first | exact (om_2 hi_2.1) | ((first | omega | (unfold zBd at *; omega)))) (by first | exact (om_1141 c_6 h_x1.2) | ((first | omega | (unfold zBd at *; omega)))) (by decide) (fun x_32 ex_32 ls hl => ?_)
              replace hl : lv_has ls 7 [(2, .int x_32), (6, .int x_27), (4, .long y_13), (3, .int x_7), (0, .ref a0), (1, .int x0)] := hl
              refine lv_goto (pc := 135) (tgt := 2) hx hb dX10_settle_135 (by decide) ?_
              exact ih_lp_5 x_32 g_25 g_29 _ _ ls (by first | exact (om_1145 ex_32 hi_2.1 c_6 h_x1.2) | ((first | omega | (unfold zBd at *; omega)))) (by (first | omega | (unfold zBd at *; omega))) hP hD hS (lv_sub hl [0, 4, 5] rfl)
            ·
              refine lv_aload_n (pc := 93) hx hb dX10_settle_93 rfl (lv_at hl 4 rfl) ?_
              refine va_get (pc := 94) (ci := 10) (v := .ref a3) (C := RX10) (T := TX10) (N := 8) hx hb hts iX10 hown hK hP 0 rfl rfl 2 (by decide) (hts _ tw_210) (fun _ h9 => h9) rfl dX10_settle_94 ?_
              refine lv_iload_n (pc := 97) hx hb dX10_settle_97 rfl (lv_at hl 2 rfl) ?_
              refine lv_iconst (pc := 98) (v := 5) hx hb dX10_settle_98 (by decide) ?_
              refine b_iadd (pc := 99) hx hb rfl tI_5 (by first | exact (om_1146 ex_7 hi_2.1) | ((first | omega | (unfold zBd at *; omega)))) (by first | exact (om_1147 ex_7 c_6 h_x1.2) | ((first | omega | (unfold zBd at *; omega)))) dX10_settle_99 (fun x_33 ex_33 => ?_)
              refine lv_iload (pc := 100) hx hb dX10_settle_100 (lv_at hl 0 rfl) ?_
              refine b_iadd (pc := 102) hx hb rfl rfl (by first | exact (om_1148 ex_33 hi_28.1 ex_7 hi_2.1) | ((first | omega | (unfold zBd at *; omega)))) (by first | exact (om_1149 ex_33 c_31 ex_7 c_6 h_x1.2) | ((first | omega | (unfold zBd at *; omega)))) dX10_settle_102 (fun x_34 ex_34 => ?_)
              refine lv_aload_n (pc := 103) hx hb dX10_settle_103 rfl (lv_at hl 4 rfl) ?_
              refine va_get (pc := 104) (ci := 10) (v := .ref a3) (C := RX10) (T := TX10) (N := 8) hx hb hts iX10 hown hK hP 0 rfl rfl 2 (by decide) (hts _ tw_210) (fun _ h9 => h9) rfl dX10_settle_104 ?_
              refine lv_iload_n (pc := 107) hx hb dX10_settle_107 rfl (lv_at hl 2 rfl) ?_
              refine lv_iload (pc := 108) hx hb dX10_settle_108 (lv_at hl 0 rfl) ?_
              refine b_iadd (pc := 110) hx hb rfl rfl (by first | exact (om_1150 hi_28.1 ex_7 hi_2.1) | ((first | omega | (unfold zBd at *; omega)))) (by first | exact (om_1151 c_31 ex_7 c_6 h_x1.2) | ((first | omega | (unfold zBd at *; omega)))) dX10_settle_110 (fun x_35 ex_35 => ?_)
              refine va_lald (pc := 111) hx hb hK hP 6 3 rfl rfl (n_in rfl (by first | exact (om_1152 ex_35 hi_28.1 ex_7 hi_2.1) | ((first | omega | (unfold zBd at *; omega)))) (by first | exact (om_1153 ex_35 c_31 ex_7 c_6 h_x1.2) | ((first | omega | (unfold zBd at *; omega))))) dX10_settle_111 ?_
              refine lv_topl (fun y_36 ey_36 => ?_)
              have ry_36 := n_rngL y_36
              refine lv_lload (pc := 112) hx hb dX10_settle_112 (lv_at hl 1 rfl) ?_
              refine lv_aload_n (pc := 114) hx hb dX10_settle_114 rfl (lv_at hl 4 rfl) ?_
              refine va_get (pc := 115) (ci := 10) (v := .ref a1) (C := RX10) (T := TX10) (N := 8) hx hb hts iX10 hown hK hP 0 rfl rfl 0 (by decide) (hts _ tw_207) (fun _ h9 => h9) rfl dX10_settle_115 ?_
              refine lv_iload_n (pc := 118) hx hb dX10_settle_118 rfl (lv_at hl 2 rfl) ?_
              refine lv_iload (pc := 119) hx hb dX10_settle_119 (lv_at hl 0 rfl) ?_
              refine b_iadd (pc := 121) hx hb rfl rfl (by first | exact (om_1150 hi_28.1 ex_7 hi_2.1) | ((first | omega | (unfold zBd at *; omega)))) (by first | exact (om_1151 c_31 ex_7 c_6 h_x1.2) | ((first | omega | (unfold zBd at *; omega)))) dX10_settle_121 (fun x_37 ex_37 => ?_)
              refine va_lald (pc := 122) hx hb hK hP 5 3 rfl rfl (n_in rfl (by first | exact (om_1152 ex_37 hi_28.1 ex_7 hi_2.1) | ((first | omega | (unfold zBd at *; omega)))) (by first | exact (om_1153 ex_37 c_31 ex_7 c_6 h_x1.2) | ((first | omega | (unfold zBd at *; omega))))) dX10_settle_122 ?_
              refine lv_topl (fun y_38 ey_38 => ?_)
              have ry_38 := n_rngL y_38
              refine lv_lmul (pc := 123) hx hb dX10_settle_123 ?_
              refine lv_topl (fun y_39 _ => ?_)
              have ry_39 := n_rngL y_39
              refine lv_lsub (pc := 124) hx hb dX10_settle_124 ?_
              refine lv_topl (fun y_40 _ => ?_)
              have ry_40 := n_rngL y_40
              refine g_lastore (pc := 125) hx hb hK hP hD hS 6 3 rfl rfl (n_in rfl (by first | exact (om_1154 ex_34 ex_33 hi_28.1 ex_7 hi_2.1) | ((first | omega | (unfold zBd at *; omega)))) (by first | exact (om_1155 ex_34 ex_33 c_31 ex_7 c_6 h_x1.2) | ((first | omega | (unfold zBd at *; omega))))) dX10_settle_125 (fun g_41 H locs hP hD hS => ?_)
              replace hP : va_P D gcl (zS_25 cB cC cI cJ a0 a1 a2 a3 a4 a5 a6 a7 x1 a4 f0 a5 f1 a7 f2 a2 g_25 a1 g1 a3 g_41) H := hP
              replace hD : va_D A (zS_25 cB cC cI cJ a0 a1 a2 a3 a4 a5 a6 a7 x1 a4 f0 a5 f1 a7 f2 a2 g_25 a1 g1 a3 g_41) := hD
              refine b_iinc (pc := 126) hx hb dX10_settle_126 hl (k := 0) rfl rfl tI_1 (by first | exact (om_139 hi_28.1) | ((first | omega | (unfold zBd at *; omega)))) (by first | exact (om_1132 c_31 h_x1.2) | ((first | omega | (unfold zBd at *; omega)))) (by decide) (fun x_42 ex_42 ls hl => ?_)
              replace hl : lv_has ls 7 [(6, .int x_42), (4, .long y_13), (3, .int x_7), (2, .int x_1), (0, .ref a0), (1, .int x0)] := hl
              refine lv_goto (pc := 129) (tgt := 84) hx hb dX10_settle_129 (by decide) ?_
              exact ih_lp_30 x_42 g_41 _ _ ls (by first | exact (om_1156 ex_42 hi_28.1 c_31 h_x1.2) | ((first | omega | (unfold zBd at *; omega)))) (by (first | omega | (unfold zBd at *; omega))) hP hD hS (lv_sub hl [0, 1, 2, 3, 4, 5] rfl)
        exact lp_30 _ x_26 g_4 _ _ ls (by first | exact (om_1157 ex_26 hi_2.1 c_6 h_x1.2) | ((first | omega | (unfold zBd at *; omega)))) (Nat.lt_succ_self _) hP hD hS (lv_sub hl [0, 1, 2, 3, 4, 5] rfl)
  exact lp_5 _ x0 g0 g2 _ _ ls (by first | exact (om_1158 hp1.1 hp1.2) | ((first | omega | (unfold zBd at *; omega)))) (Nat.lt_succ_self _) hP hD hS (lv_sub hl [0, 1, 2] rfl)
set_option maxHeartbeats 4000000 in
set_option maxRecDepth 100000 in
theorem k_X10_firstLine_8 (l : Launch) (D : va_G) (cB cC cI cJ : ClassId) (sz : Nat) (a0 a1 a2 a3 a4 a5 a6 a7 : Nat) (x0 : Int32) (f0 f1 f2 : Nat → Int32) (g0 g1 g2 : Nat → Int64) (h_x0 : zBd x0.toInt 0 4) (hf_f0 : (∀ j, 0 ≤ (f0 j).toInt ∧ (f0 j).toInt ≤ 7)) : Met l yX10_firstLine (.code yX10_firstLine cX10_firstLine 1 none :: lw_gd) ({ frames := 1, cells := 0, slots := 0, locals := 26 }) (gPre D [(cB, .byte), (cC, .char), (cI, .int), (cJ, .long)] [.ref a0] (zS_25 cB cC cI cJ a0 a1 a2 a3 a4 a5 a6 a7 x0 a7 f0 a4 f1 a5 f2 a2 g0 a1 g1 a3 g2) sz) (va_Qv (fun u => (∀ j, 0 ≤ ((u.2.1 0) j).toInt ∧ ((u.2.1 0) j).toInt ≤ 7)) (gB D (va_A (zS_25 cB cC cI cJ a0 a1 a2 a3 a4 a5 a6 a7 x0 a7 f0 a4 f1 a5 f2 a2 g0 a1 g1 a3 g2) sz) (fun u : gEx => (zS_25 cB cC cI cJ a0 a1 a2 a3 a4 a5 a6 a7 x0 a7 (u.2.1 0) a4 f1 a5 f2 a2 (u.2.2.1 0) a1 g1 a3 (u.2.2.1 1)))) (va_A (zS_25 cB cC cI cJ a0 a1 a2 a3 a4 a5 a6 a7 x0 a7 f0 a4 f1 a5 f2 a2 g0 a1 g1 a3 g2) sz)) 0 0 (va_A (zS_25 cB cC cI cJ a0 a1 a2 a3 a4 a5 a6 a7 x0 a7 f0 a4 f1 a5 f2 a2 g0 a1 g1 a3 g2) sz) := by
  refine gOf_v (by decide +kernel) (Nat.le_of_ble_eq_true rfl) ?_
  intro p e s m args below meth c ls A Q hx hb hts hown hml hN hK hP hD hA hl hret
  replace hown : s.vm.findClass RX10 = some m.cls := hown
  have hS : va_S A s.heap s.heap [] := va_S.rf
  replace hP : va_P D gcl (zS_25 cB cC cI cJ a0 a1 a2 a3 a4 a5 a6 a7 x0 a7 f0 a4 f1 a5 f2 a2 g0 a1 g1 a3 g2) s.heap := hP
  replace hl : lv_has ls 1 [(0, .ref a0)] := hl
  refine lv_aload_n (pc := 0) hx hb dX10_firstLine_0 rfl (lv_at hl 0 rfl) ?_
  refine va_get (pc := 1) (ci := 10) (v := .ref a7) (C := RX10) (T := TX10) (N := 8) hx hb hts iX10 hown hK hP 0 rfl rfl 6 (by decide) (hts _ tw_216) (fun _ h9 => h9) rfl dX10_firstLine_1 ?_
  refine lv_iconst (pc := 4) (v := 0) hx hb dX10_firstLine_4 (by decide) ?_
  refine gd_v (pc := 5) (wc := [(a7, .inl (cI, 5, .inl f0))]) hP hD hS hA [1] rfl (by decide +kernel) (fun _ => by rfl) (fun hPc hDc => va_runS (As := [.ref a7, .int 0]) (rest := []) ⟨hx, hb, hml, hown, hts⟩ (k_J7_fill_53178_5r0_7 l D cB cC cI cJ _ a7 0 f0 (n_c tI_0 (by decide)) hf_f0) ⟨gcwB hts tw_505 tw_10 tw_905 hd_yJ7_fill_53178 ⟨Nat.le_of_ble_eq_true rfl, Nat.le_of_ble_eq_true rfl⟩, hts _ tw_504⟩ (gpreS hPc hK hDc hN) rfl rfl hl.1 rfl (lv_room (Nat.le_of_ble_eq_true rfl)) dX10_firstLine_5 ⟨Nat.le_of_ble_eq_true rfl, Nat.le_of_ble_eq_true rfl⟩) (fun u_1 H locs hw_3 hP hD hS => ?_)
  replace hP : va_P D gcl (zS_25 cB cC cI cJ a0 a1 a2 a3 a4 a5 a6 a7 x0 a7 (u_1.2.1 0) a4 f1 a5 f2 a2 g0 a1 g1 a3 g2) H := hP
  replace hD : va_D A (zS_25 cB cC cI cJ a0 a1 a2 a3 a4 a5 a6 a7 x0 a7 (u_1.2.1 0) a4 f1 a5 f2 a2 g0 a1 g1 a3 g2) := hD
  have hw_4 : (∀ j, 0 ≤ ((u_1.2.1 0) j).toInt ∧ ((u_1.2.1 0) j).toInt ≤ 7) := hw_3
  have kk0_r_2 := tI_0
  refine lv_aload_n (pc := 8) hx hb dX10_firstLine_8 rfl (lv_at hl 0 rfl) ?_
  refine lv_iconst (pc := 9) (v := 0) hx hb dX10_firstLine_9 (by decide) ?_
  refine gd_v (pc := 10) (wc := (zS_25 cB cC cI cJ a0 a1 a2 a3 a4 a5 a6 a7 x0 a4 f1 a5 f2 a7 (u_1.2.1 0) a2 g0 a1 g1 a3 g2)) hP hD hS hA [0, 2, 3, 1, 4, 5, 6] rfl (by decide +kernel) (fun _ => by rfl) (fun hPc hDc => va_runV (As := [.int 0]) (rest := []) ⟨hx, hb, hml, hown, hts⟩ (k_X10_settle_8 l D cB cC cI cJ _ a0 a1 a2 a3 a4 a5 a6 a7 0 x0 f1 f2 (u_1.2.1 0) g0 g1 g2 (n_c tI_0 (by decide)) h_x0 hw_4) ⟨gcwB hts tw_909 tw_8 tw_906 hd_yX10_settle ⟨Nat.le_of_ble_eq_true rfl, Nat.le_of_ble_eq_true rfl⟩, hts _ tw_908, hts _ tp_33⟩ ⟨gblind, va_recv hK hPc (ci := 10) (q0 := 0) rfl rfl, (gpreS hPc hK hDc hN).2⟩ rfl rfl hl.1 rfl (lv_room (Nat.le_of_ble_eq_true rfl)) dX10_firstLine_10 ⟨Nat.le_of_ble_eq_true rfl, Nat.le_of_ble_eq_true rfl⟩) (fun u_5 H locs hw_7 hP hD hS => ?_)
  replace hP : va_P D gcl (zS_25 cB cC cI cJ a0 a1 a2 a3 a4 a5 a6 a7 x0 a7 (u_1.2.1 0) a4 f1 a5 f2 a2 (u_5.2.2.1 0) a1 g1 a3 (u_5.2.2.1 1)) H := hP
  replace hD : va_D A (zS_25 cB cC cI cJ a0 a1 a2 a3 a4 a5 a6 a7 x0 a7 (u_1.2.1 0) a4 f1 a5 f2 a2 (u_5.2.2.1 0) a1 g1 a3 (u_5.2.2.1 1)) := hD
  have hw_8 : (((0 ≤ x0.toInt ∧ x0.toInt ≤ 4))) := hw_7
  have kk0_r_6 := tI_0
  exact hret ((fun _ => 0), (fun k => [(u_1.2.1 0)].getD k (fun _ => 0)), (fun k => [(u_5.2.2.1 0), (u_5.2.2.1 1)].getD k (fun _ => 0)), (fun _ => 0), (fun _ => 0)) dX10_firstLine_13 hw_4 (g_psub (wc := (zS_25 cB cC cI cJ a0 a1 a2 a3 a4 a5 a6 a7 x0 a7 (u_1.2.1 0) a4 f1 a5 f2 a2 (u_5.2.2.1 0) a1 g1 a3 (u_5.2.2.1 1))) hP [0, 1, 2, 3, 4, 5, 6] rfl) (hD.sub (ws' := (zS_25 cB cC cI cJ a0 a1 a2 a3 a4 a5 a6 a7 x0 a7 (u_1.2.1 0) a4 f1 a5 f2 a2 (u_5.2.2.1 0) a1 g1 a3 (u_5.2.2.1 1))) [0, 1, 2, 3, 4, 5, 6] (by decide) rfl) hS
theorem om_1220 {a : Int} (h0 : (a ≤ 8)) : (-2147483648 ≤ 1 - a) := by omega
theorem om_1221 {a : Int} (h0 : ((-1) ≤ a)) : (1 - a ≤ 2147483647) := by omega
set_option maxHeartbeats 4000000 in
set_option maxRecDepth 100000 in
theorem k_X7_startWalk_6 (l : Launch) (D : va_G) (cB cC cI cJ : ClassId) (sz : Nat) (a0 a1 a2 a3 a4 a5 a6 a7 a8 a9 a10 a11 a12 a13 a14 a15 a16 a17 a18 a19 a20 a21 : Nat) (x0 x1 x2 x3 x4 x5 x6 x7 x8 x9 : Int32) (y0 : Int64) (f0 f1 f2 f3 f4 f5 : Nat → Int32) (g0 g1 g2 : Nat → Int64) (h_x0 : zBd x0.toInt 0 10) (h_x1 : zBd x1.toInt 0 1) (h_x2 : zBd x2.toInt 0 4) (h_x3 : zBd x3.toInt (-1) 8) (h_x4 : zBd x4.toInt (-1) 5) (h_x5 : zBd x5.toInt (-1) 6) (h_x6 : zBd x6.toInt 0 6) (h_x7 : zBd x7.toInt 0 16) (hf_f4 : (∀ j, (-1) ≤ (f4 j).toInt ∧ (f4 j).toInt ≤ 8)) (hf_f5 : (∀ j, 0 ≤ (f5 j).toInt ∧ (f5 j).toInt ≤ 7)) : Met l yX7_startWalk (.code yX7_startWalk cX7_startWalk 3 none :: lw_gd) ({ frames := 3, cells := 0, slots := 0, locals := 69 }) (gPre D [(cB, .byte), (cC, .char), (cI, .int), (cJ, .long)] [.ref a0, .ref a1, .ref a2] (zS_66 cB cC cI cJ a0 a3 a4 a5 a6 a7 a8 a9 a10 x0 y0 x1 a3 a11 a12 a13 a14 a15 a16 a17 x2 a1 a18 a19 a20 x3 x4 x5 x6 x7 x8 x9 a18 a21 a21 f0 a11 g0 a13 g1 a12 g2 a2 f1 a14 f2 a15 f3 a16 f4 a17 f5) sz) (va_Qv (fun u => (0 ≤ (u.2.2.2.1 0).toInt ∧ (u.2.2.2.1 0).toInt ≤ 4) ∧ (∀ j, (-1) ≤ ((u.2.1 2) j).toInt ∧ ((u.2.1 2) j).toInt ≤ 8) ∧ (∀ j, 0 ≤ ((u.2.1 3) j).toInt ∧ ((u.2.1 3) j).toInt ≤ 7)) (gB D (va_A (zS_66 cB cC cI cJ a0 a3 a4 a5 a6 a7 a8 a9 a10 x0 y0 x1 a3 a11 a12 a13 a14 a15 a16 a17 x2 a1 a18 a19 a20 x3 x4 x5 x6 x7 x8 x9 a18 a21 a21 f0 a11 g0 a13 g1 a12 g2 a2 f1 a14 f2 a15 f3 a16 f4 a17 f5) sz) (fun u : gEx => (zS_66 cB cC cI cJ a0 a3 a4 a5 a6 a7 a8 a9 a10 x0 y0 x1 a3 a11 a12 a13 a14 a15 a16 a17 (u.2.2.2.1 0) a1 a18 a19 a20 x3 x4 x5 x6 x7 x8 x9 a18 a21 a21 f0 a11 (u.2.2.1 0) a13 (u.2.2.1 1) a12 (u.2.2.1 2) a2 f1 a14 (u.2.1 0) a15 (u.2.1 1) a16 (u.2.1 2) a17 (u.2.1 3)))) (va_A (zS_66 cB cC cI cJ a0 a3 a4 a5 a6 a7 a8 a9 a10 x0 y0 x1 a3 a11 a12 a13 a14 a15 a16 a17 x2 a1 a18 a19 a20 x3 x4 x5 x6 x7 x8 x9 a18 a21 a21 f0 a11 g0 a13 g1 a12 g2 a2 f1 a14 f2 a15 f3 a16 f4 a17 f5) sz)) 0 0 (va_A (zS_66 cB cC cI cJ a0 a3 a4 a5 a6 a7 a8 a9 a10 x0 y0 x1 a3 a11 a12 a13 a14 a15 a16 a17 x2 a1 a18 a19 a20 x3 x4 x5 x6 x7 x8 x9 a18 a21 a21 f0 a11 g0 a13 g1 a12 g2 a2 f1 a14 f2 a15 f3 a16 f4 a17 f5) sz) := by
  refine gOf_v (by decide +kernel) (Nat.le_of_ble_eq_true rfl) ?_
  intro p e s m args below meth c ls A Q hx hb hts hown hml hN hK hP hD hA hl hret
  replace hown : s.vm.findClass RX7 = some m.cls := hown
  have hS : va_S A s.heap s.heap [] := va_S.rf
  replace hP : va_P D gcl (zS_66 cB cC cI cJ a0 a3 a4 a5 a6 a7 a8 a9 a10 x0 y0 x1 a3 a11 a12 a13 a14 a15 a16 a17 x2 a1 a18 a19 a20 x3 x4 x5 x6 x7 x8 x9 a18 a21 a21 f0 a11 g0 a13 g1 a12 g2 a2 f1 a14 f2 a15 f3 a16 f4 a17 f5) s.heap := hP
  replace hl : lv_has ls 3 [(0, .ref a0), (1, .ref a1), (2, .ref a2)] := hl
  have ry0 := n_rngL y0
  have rx8 : zBd x8.toInt (-2147483648) 2147483647 := n_rng x8
  have rx9 : zBd x9.toInt (-2147483648) 2147483647 := n_rng x9
  refine lv_aload_n (pc := 0) hx hb dX7_startWalk_0 rfl (lv_at hl 0 rfl) ?_
  refine va_get (pc := 1) (ci := 7) (v := .ref a3) (C := RX7) (T := TX7) (N := 11) hx hb hts iX7 hown hK hP 0 rfl rfl 0 (by decide) (hts _ tw_242) (fun _ h9 => h9) rfl dX7_startWalk_1 ?_
  refine lv_aload_n (pc := 4) hx hb dX7_startWalk_4 rfl (lv_at hl 1 rfl) ?_
  refine gd_v (pc := 5) (wc := (zS_42 cB cC cI cJ a3 a11 a12 a13 a14 a15 a16 a17 x2 a1 a18 a19 a20 x3 x4 x5 x6 x7 x8 x9 a18 a21 a21 f0 a11 g0 a13 g1 a12 g2)) hP hD hS hA [1, 2, 3, 4, 5, 6, 7] rfl (by decide +kernel) (fun _ => by rfl) (fun hPc hDc => va_runV (As := [.ref a1]) (rest := []) ⟨hx, hb, hml, hown, hts⟩ (k_X10_start_8 l D cB cC cI cJ _ a3 a1 a11 a12 a13 a14 a15 a16 a17 a18 a19 a20 a21 x2 x3 x4 x5 x6 x7 x8 x9 f0 g0 g1 g2 h_x2 h_x3 h_x4 h_x5 h_x6 h_x7) ⟨gcwB hts tw_883 tw_8 tw_880 hd_yX10_start ⟨Nat.le_of_ble_eq_true rfl, Nat.le_of_ble_eq_true rfl⟩, hts _ tw_881, hts _ tw_882⟩ ⟨gblind, va_recv hK hPc (ci := 10) (q0 := 0) rfl rfl, (gpreS hPc hK hDc hN).2⟩ rfl rfl hl.1 rfl (lv_room (Nat.le_of_ble_eq_true rfl)) dX7_startWalk_5 ⟨Nat.le_of_ble_eq_true rfl, Nat.le_of_ble_eq_true rfl⟩) (fun u_1 H locs hw_3 hP hD hS => ?_)
  replace hP : va_P D gcl (zS_66 cB cC cI cJ a0 a3 a4 a5 a6 a7 a8 a9 a10 x0 y0 x1 a3 a11 a12 a13 a14 a15 a16 a17 (u_1.2.2.2.1 0) a1 a18 a19 a20 x3 x4 x5 x6 x7 x8 x9 a18 a21 a21 f0 a11 (u_1.2.2.1 0) a13 (u_1.2.2.1 1) a12 (u_1.2.2.1 2) a2 f1 a14 f2 a15 f3 a16 f4 a17 f5) H := hP
  replace hD : va_D A (zS_66 cB cC cI cJ a0 a3 a4 a5 a6 a7 a8 a9 a10 x0 y0 x1 a3 a11 a12 a13 a14 a15 a16 a17 (u_1.2.2.2.1 0) a1 a18 a19 a20 x3 x4 x5 x6 x7 x8 x9 a18 a21 a21 f0 a11 (u_1.2.2.1 0) a13 (u_1.2.2.1 1) a12 (u_1.2.2.1 2) a2 f1 a14 f2 a15 f3 a16 f4 a17 f5) := hD
  have hw_4 : (0 ≤ (u_1.2.2.2.1 0).toInt ∧ (u_1.2.2.2.1 0).toInt ≤ 4) := hw_3
  refine lv_aload_n (pc := 8) hx hb dX7_startWalk_8 rfl (lv_at hl 0 rfl) ?_
  refine va_get (pc := 9) (ci := 7) (v := .ref a3) (C := RX7) (T := TX7) (N := 11) hx hb hts iX7 hown hK hP 0 rfl rfl 0 (by decide) (hts _ tw_242) (fun _ h9 => h9) rfl dX7_startWalk_9 ?_
  refine lv_aload_n (pc := 12) hx hb dX7_startWalk_12 rfl (lv_at hl 1 rfl) ?_
  refine lv_aload_n (pc := 13) hx hb dX7_startWalk_13 rfl (lv_at hl 2 rfl) ?_
  refine gd_v (pc := 14) (wc := (zS_113 cB cC cI cJ a3 a11 a12 a13 a14 a15 a16 a17 (u_1.2.2.2.1 0) a1 a18 a19 a20 x3 x4 x5 x6 x7 x8 x9 a12 (u_1.2.2.1 2) a13 (u_1.2.2.1 1) a2 f1 a18 a21 a21 f0)) hP hD hS hA [1, 2, 7, 6, 8, 3, 4] rfl (by decide +kernel) (fun _ => by rfl) (fun hPc hDc => va_runV (As := [.ref a1, .ref a2]) (rest := []) ⟨hx, hb, hml, hown, hts⟩ (k_X10_aimAt_8_6 l D cB cC cI cJ _ a3 a1 a2 a11 a12 a13 a14 a15 a16 a17 a18 a19 a20 a21 (u_1.2.2.2.1 0) x3 x4 x5 x6 x7 x8 x9 f1 f0 (u_1.2.2.1 2) (u_1.2.2.1 1) hw_4 h_x3 h_x4 h_x5 h_x6 h_x7) ⟨gcwB hts tw_891 tw_8 tw_888 hd_yX10_aimAt ⟨Nat.le_of_ble_eq_true rfl, Nat.le_of_ble_eq_true rfl⟩, hts _ tw_889, hts _ tw_890⟩ ⟨gblind, va_recv hK hPc (ci := 10) (q0 := 0) rfl rfl, (gpreS hPc hK hDc hN).2⟩ rfl rfl hl.1 rfl (lv_room (Nat.le_of_ble_eq_true rfl)) dX7_startWalk_14 ⟨Nat.le_of_ble_eq_true rfl, Nat.le_of_ble_eq_true rfl⟩) (fun u_5 H locs hw_7 hP hD hS => ?_)
  replace hP : va_P D gcl (zS_66 cB cC cI cJ a0 a3 a4 a5 a6 a7 a8 a9 a10 x0 y0 x1 a3 a11 a12 a13 a14 a15 a16 a17 (u_1.2.2.2.1 0) a1 a18 a19 a20 x3 x4 x5 x6 x7 x8 x9 a18 a21 a21 f0 a11 (u_1.2.2.1 0) a13 (u_5.2.2.1 1) a12 (u_5.2.2.1 0) a2 f1 a14 f2 a15 f3 a16 f4 a17 f5) H := hP
  replace hD : va_D A (zS_66 cB cC cI cJ a0 a3 a4 a5 a6 a7 a8 a9 a10 x0 y0 x1 a3 a11 a12 a13 a14 a15 a16 a17 (u_1.2.2.2.1 0) a1 a18 a19 a20 x3 x4 x5 x6 x7 x8 x9 a18 a21 a21 f0 a11 (u_1.2.2.1 0) a13 (u_5.2.2.1 1) a12 (u_5.2.2.1 0) a2 f1 a14 f2 a15 f3 a16 f4 a17 f5) := hD
  have hw_8 : ((((-1) ≤ x5.toInt ∧ x5.toInt ≤ 6) ∧ (0 ≤ (u_1.2.2.2.1 0).toInt ∧ (u_1.2.2.2.1 0).toInt ≤ 4))) := hw_7
  refine lv_aload_n (pc := 17) hx hb dX7_startWalk_17 rfl (lv_at hl 0 rfl) ?_
  refine va_get (pc := 18) (ci := 7) (v := .ref a3) (C := RX7) (T := TX7) (N := 11) hx hb hts iX7 hown hK hP 0 rfl rfl 0 (by decide) (hts _ tw_242) (fun _ h9 => h9) rfl dX7_startWalk_18 ?_
  refine lv_iconst (pc := 21) (v := 1) hx hb dX7_startWalk_21 (by decide) ?_
  refine lv_aload_n (pc := 22) hx hb dX7_startWalk_22 rfl (lv_at hl 1 rfl) ?_
  refine va_getN (pc := 23) (ci := 1) (v := .int x3) (C := RX1) (T := TX1) (N := 10) hx hb hts iX1 hown hK hP 2 rfl rfl 3 (by decide) (va_Nw.use rfl (hN _ tn_112)) (fun _ h9 => h9) rfl dX7_startWalk_23 ?_
  refine b_isub (pc := 26) hx hb tI_1 rfl (by first | exact (om_1220 h_x3.2) | ((first | omega | (unfold zBd at *; omega)))) (by first | exact (om_1221 h_x3.1) | ((first | omega | (unfold zBd at *; omega)))) dX7_startWalk_26 (fun x_9 ex_9 => ?_)
  refine lv_iconst (pc := 27) (v := 2) hx hb dX7_startWalk_27 (by decide) ?_
  refine lv_aload_n (pc := 28) hx hb dX7_startWalk_28 rfl (lv_at hl 1 rfl) ?_
  refine va_getN (pc := 29) (ci := 1) (v := .int x3) (C := RX1) (T := TX1) (N := 10) hx hb hts iX1 hown hK hP 2 rfl rfl 3 (by decide) (va_Nw.use rfl (hN _ tn_112)) (fun _ h9 => h9) rfl dX7_startWalk_29 ?_
  refine gd_v (pc := 32) (wc := (zS_29 cB cC cI cJ a3 a11 a12 a13 a14 a15 a16 a17 (u_1.2.2.2.1 0) a14 f2 a15 f3 a16 f4)) hP hD hS hA [1, 9, 10, 11] rfl (by decide +kernel) (fun _ => by rfl) (fun hPc hDc => va_runV (As := [.int x_9, .int 2, .int x3]) (rest := []) ⟨hx, hb, hml, hown, hts⟩ (k_X10_setAllNumbers_8 l D cB cC cI cJ _ a3 a11 a12 a13 a14 a15 a16 a17 x_9 2 x3 (u_1.2.2.2.1 0) f2 f3 f4 h_x3 hw_4 hf_f4) ⟨gcwB hts tw_896 tw_8 tw_893 hd_yX10_setAllNumbers ⟨Nat.le_of_ble_eq_true rfl, Nat.le_of_ble_eq_true rfl⟩, hts _ tw_894, hts _ tw_895⟩ ⟨gblind, va_recv hK hPc (ci := 10) (q0 := 0) rfl rfl, (gpreS hPc hK hDc hN).2⟩ rfl rfl hl.1 rfl (lv_room (Nat.le_of_ble_eq_true rfl)) dX7_startWalk_32 ⟨Nat.le_of_ble_eq_true rfl, Nat.le_of_ble_eq_true rfl⟩) (fun u_10 H locs hw_12 hP hD hS => ?_)
  replace hP : va_P D gcl (zS_66 cB cC cI cJ a0 a3 a4 a5 a6 a7 a8 a9 a10 x0 y0 x1 a3 a11 a12 a13 a14 a15 a16 a17 (u_1.2.2.2.1 0) a1 a18 a19 a20 x3 x4 x5 x6 x7 x8 x9 a18 a21 a21 f0 a11 (u_1.2.2.1 0) a13 (u_5.2.2.1 1) a12 (u_5.2.2.1 0) a2 f1 a14 (u_10.2.1 0) a15 (u_10.2.1 1) a16 (u_10.2.1 2) a17 f5) H := hP
  replace hD : va_D A (zS_66 cB cC cI cJ a0 a3 a4 a5 a6 a7 a8 a9 a10 x0 y0 x1 a3 a11 a12 a13 a14 a15 a16 a17 (u_1.2.2.2.1 0) a1 a18 a19 a20 x3 x4 x5 x6 x7 x8 x9 a18 a21 a21 f0 a11 (u_1.2.2.1 0) a13 (u_5.2.2.1 1) a12 (u_5.2.2.1 0) a2 f1 a14 (u_10.2.1 0) a15 (u_10.2.1 1) a16 (u_10.2.1 2) a17 f5) := hD
  obtain ⟨hw_13, hw_14⟩ := hw_12
  replace hw_13 : (((0 ≤ (u_1.2.2.2.1 0).toInt ∧ (u_1.2.2.2.1 0).toInt ≤ 4))) := hw_13
  replace hw_14 : (∀ j, (-1) ≤ ((u_10.2.1 2) j).toInt ∧ ((u_10.2.1 2) j).toInt ≤ 8) := hw_14
  have kk0_r_11 := tI_2
  refine lv_aload_n (pc := 35) hx hb dX7_startWalk_35 rfl (lv_at hl 0 rfl) ?_
  refine va_get (pc := 36) (ci := 7) (v := .ref a3) (C := RX7) (T := TX7) (N := 11) hx hb hts iX7 hown hK hP 0 rfl rfl 0 (by decide) (hts _ tw_242) (fun _ h9 => h9) rfl dX7_startWalk_36 ?_
  refine gd_v (pc := 39) (wc := (zS_25 cB cC cI cJ a3 a11 a12 a13 a14 a15 a16 a17 (u_1.2.2.2.1 0) a17 f5 a14 (u_10.2.1 0) a15 (u_10.2.1 1) a12 (u_5.2.2.1 0) a11 (u_1.2.2.1 0) a13 (u_5.2.2.1 1))) hP hD hS hA [1, 12, 9, 10, 7, 5, 6] rfl (by decide +kernel) (fun _ => by rfl) (fun hPc hDc => va_runV (As := []) (rest := []) ⟨hx, hb, hml, hown, hts⟩ (k_X10_firstLine_8 l D cB cC cI cJ _ a3 a11 a12 a13 a14 a15 a16 a17 (u_1.2.2.2.1 0) f5 (u_10.2.1 0) (u_10.2.1 1) (u_5.2.2.1 0) (u_1.2.2.1 0) (u_5.2.2.1 1) hw_13 hf_f5) ⟨gcwB hts tw_904 tw_8 tw_901 hd_yX10_firstLine ⟨Nat.le_of_ble_eq_true rfl, Nat.le_of_ble_eq_true rfl⟩, hts _ tw_902, hts _ tw_903⟩ ⟨gblind, va_recv hK hPc (ci := 10) (q0 := 0) rfl rfl, (gpreS hPc hK hDc hN).2⟩ rfl rfl hl.1 rfl (lv_room (Nat.le_of_ble_eq_true rfl)) dX7_startWalk_39 ⟨Nat.le_of_ble_eq_true rfl, Nat.le_of_ble_eq_true rfl⟩) (fun u_15 H locs hw_17 hP hD hS => ?_)
  replace hP : va_P D gcl (zS_66 cB cC cI cJ a0 a3 a4 a5 a6 a7 a8 a9 a10 x0 y0 x1 a3 a11 a12 a13 a14 a15 a16 a17 (u_1.2.2.2.1 0) a1 a18 a19 a20 x3 x4 x5 x6 x7 x8 x9 a18 a21 a21 f0 a11 (u_1.2.2.1 0) a13 (u_15.2.2.1 1) a12 (u_15.2.2.1 0) a2 f1 a14 (u_10.2.1 0) a15 (u_10.2.1 1) a16 (u_10.2.1 2) a17 (u_15.2.1 0)) H := hP
  replace hD : va_D A (zS_66 cB cC cI cJ a0 a3 a4 a5 a6 a7 a8 a9 a10 x0 y0 x1 a3 a11 a12 a13 a14 a15 a16 a17 (u_1.2.2.2.1 0) a1 a18 a19 a20 x3 x4 x5 x6 x7 x8 x9 a18 a21 a21 f0 a11 (u_1.2.2.1 0) a13 (u_15.2.2.1 1) a12 (u_15.2.2.1 0) a2 f1 a14 (u_10.2.1 0) a15 (u_10.2.1 1) a16 (u_10.2.1 2) a17 (u_15.2.1 0)) := hD
  have hw_18 : (∀ j, 0 ≤ ((u_15.2.1 0) j).toInt ∧ ((u_15.2.1 0) j).toInt ≤ 7) := hw_17
  exact hret ((fun _ => 0), (fun k => [(u_10.2.1 0), (u_10.2.1 1), (u_10.2.1 2), (u_15.2.1 0)].getD k (fun _ => 0)), (fun k => [(u_1.2.2.1 0), (u_15.2.2.1 1), (u_15.2.2.1 0)].getD k (fun _ => 0)), (fun k => [(u_1.2.2.2.1 0)].getD k 0), (fun _ => 0)) dX7_startWalk_42 ⟨(show (0 ≤ ((u_1.2.2.2.1 0) : Int32).toInt ∧ ((u_1.2.2.2.1 0) : Int32).toInt ≤ 4) from hw_13), hw_14, hw_18⟩ (g_psub (wc := (zS_66 cB cC cI cJ a0 a3 a4 a5 a6 a7 a8 a9 a10 x0 y0 x1 a3 a11 a12 a13 a14 a15 a16 a17 (u_1.2.2.2.1 0) a1 a18 a19 a20 x3 x4 x5 x6 x7 x8 x9 a18 a21 a21 f0 a11 (u_1.2.2.1 0) a13 (u_15.2.2.1 1) a12 (u_15.2.2.1 0) a2 f1 a14 (u_10.2.1 0) a15 (u_10.2.1 1) a16 (u_10.2.1 2) a17 (u_15.2.1 0))) hP [0, 1, 2, 3, 4, 5, 6, 7, 8, 9, 10, 11, 12] rfl) (hD.sub (ws' := (zS_66 cB cC cI cJ a0 a3 a4 a5 a6 a7 a8 a9 a10 x0 y0 x1 a3 a11 a12 a13 a14 a15 a16 a17 (u_1.2.2.2.1 0) a1 a18 a19 a20 x3 x4 x5 x6 x7 x8 x9 a18 a21 a21 f0 a11 (u_1.2.2.1 0) a13 (u_15.2.2.1 1) a12 (u_15.2.2.1 0) a2 f1 a14 (u_10.2.1 0) a15 (u_10.2.1 1) a16 (u_10.2.1 2) a17 (u_15.2.1 0))) [0, 1, 2, 3, 4, 5, 6, 7, 8, 9, 10, 11, 12] (by decide) rfl) hS
set_option maxHeartbeats 4000000 in
set_option maxRecDepth 100000 in
theorem k_X10_lineCount_8 (l : Launch) (D : va_G) (cB cC cI cJ : ClassId) (sz : Nat) (a0 a1 a2 a3 a4 a5 a6 a7 : Nat) (x0 : Int32) (f0 : Nat → Int32) (h_x0 : zBd x0.toInt 0 4) (hf_f0 : (∀ j, (-1) ≤ (f0 j).toInt ∧ (f0 j).toInt ≤ 8)) : Met l yX10_lineCount (.code yX10_lineCount cX10_lineCount 3 (some .int) :: lw_gd) ({ frames := 0, cells := 0, slots := 0, locals := 0 }) (gPre D [(cB, .byte), (cC, .char), (cI, .int), (cJ, .long)] [.ref a0] (zS_83 cB cC cI cJ a0 a1 a2 a3 a4 a5 a6 a7 x0 a6 f0) sz) (va_Qi (fun r u => ((((-2147483648) ≤ r.toInt ∧ r.toInt ≤ 2147483647) ∧ (0 ≤ x0.toInt ∧ x0.toInt ≤ 4)))) (gB D (va_A (zS_83 cB cC cI cJ a0 a1 a2 a3 a4 a5 a6 a7 x0 a6 f0) sz) (fun u : gEx => (zS_83 cB cC cI cJ a0 a1 a2 a3 a4 a5 a6 a7 x0 a6 f0))) (va_A (zS_83 cB cC cI cJ a0 a1 a2 a3 a4 a5 a6 a7 x0 a6 f0) sz)) 0 0 (va_A (zS_83 cB cC cI cJ a0 a1 a2 a3 a4 a5 a6 a7 x0 a6 f0) sz) := by
  refine gOf_i (by decide +kernel) (Nat.le_of_ble_eq_true rfl) ?_
  intro p e s m args below meth c ls A Q hx hb hts hown hml hN hK hP hD hA hl hret
  replace hown : s.vm.findClass RX10 = some m.cls := hown
  have hS : va_S A s.heap s.heap [] := va_S.rf
  replace hP : va_P D gcl (zS_83 cB cC cI cJ a0 a1 a2 a3 a4 a5 a6 a7 x0 a6 f0) s.heap := hP
  replace hl : lv_has ls 3 [(0, .ref a0)] := hl
  refine lv_iconst (pc := 0) (v := 1) hx hb dX10_lineCount_0 (by decide) ?_
  refine lv_istore_n (pc := 1) (lv' := [(1, .int 1), (0, .ref a0)]) hx hb dX10_lineCount_1 rfl hl (by decide) rfl (fun ls hl => ?_)
  refine lv_iconst (pc := 2) (v := 0) hx hb dX10_lineCount_2 (by decide) ?_
  refine lv_istore_n (pc := 3) (lv' := [(2, .int 0), (1, .int 1), (0, .ref a0)]) hx hb dX10_lineCount_3 rfl hl (by decide) rfl (fun ls hl => ?_)
  have lp_5 : ∀ (n : Nat) (x_1 x_3 : Int32) (H : Heap) (locs : List Loc) (ls : Array Slot), (0 ≤ x_1.toInt ∧ x_1.toInt ≤ 2147483647) → (2147483647 - x_1.toInt).toNat < n → va_P D gcl (zS_83 cB cC cI cJ a0 a1 a2 a3 a4 a5 a6 a7 x0 a6 f0) H → va_D A (zS_83 cB cC cI cJ a0 a1 a2 a3 a4 a5 a6 a7 x0 a6 f0) → va_S A s.heap H locs → lv_has ls 3 [(2, .int x_1), (1, .int x_3), (0, .ref a0)] → W p l e ({ frames := 0, cells := 0, slots := 0, locals := 0 }) s m args below meth c H locs 0 0 Q (F0 m 4 ls []) := by
    intro n
    induction n with
    | zero => intro x_1 x_3 H locs ls hi_2 hmu; exact absurd hmu (Nat.not_lt_zero _)
    | succ n ih_lp_5 =>
      intro x_1 x_3 H locs ls hi_2 hmu_lp_5 hP hD hS hl
      have hi_4 := n_rng x_3
      refine lv_iload_n (pc := 4) hx hb dX10_lineCount_4 rfl (lv_at hl 0 rfl) ?_
      refine lv_aload_n (pc := 5) hx hb dX10_lineCount_5 rfl (lv_at hl 2 rfl) ?_
      refine va_get (pc := 6) (ci := 10) (v := .int x0) (C := RX10) (T := TX10) (N := 8) hx hb hts iX10 hown hK hP 0 rfl rfl 7 (by decide) (hts _ tw_220) (fun _ h9 => h9) rfl dX10_lineCount_6 ?_
      have bd_h_x0 : 0 ≤ x0.toInt ∧ x0.toInt ≤ 4 := h_x0
      refine b_icmp_ge (pc := 9) (tgt := 27) hx hb rfl rfl  dX10_lineCount_9 (by decide) (fun c_6 => ?_) (fun c_6 => ?_)
      ·
        refine lv_iload_n (pc := 27) hx hb dX10_lineCount_27 rfl (lv_at hl 1 rfl) ?_
        exact hret x_3 ((fun _ => 0), (fun _ => (fun _ => 0)), (fun _ => (fun _ => 0)), (fun _ => 0), (fun _ => 0)) dX10_lineCount_28 (show ((((-2147483648) ≤ x_3.toInt ∧ x_3.toInt ≤ 2147483647) ∧ (0 ≤ x0.toInt ∧ x0.toInt ≤ 4))) from (by first | exact (om_1159 hi_4.1 hi_4.2 h_x0.1 h_x0.2) | ((first | omega | (unfold zBd at *; omega))))) (g_psub (wc := (zS_83 cB cC cI cJ a0 a1 a2 a3 a4 a5 a6 a7 x0 a6 f0)) hP [0, 1] rfl) (hD.sub (ws' := (zS_83 cB cC cI cJ a0 a1 a2 a3 a4 a5 a6 a7 x0 a6 f0)) [0, 1] (by decide) rfl) hS
      ·
        refine lv_iload_n (pc := 12) hx hb dX10_lineCount_12 rfl (lv_at hl 1 rfl) ?_
        refine lv_aload_n (pc := 13) hx hb dX10_lineCount_13 rfl (lv_at hl 2 rfl) ?_
        refine va_get (pc := 14) (ci := 10) (v := .ref a6) (C := RX10) (T := TX10) (N := 8) hx hb hts iX10 hown hK hP 0 rfl rfl 5 (by decide) (hts _ tw_214) (fun _ h9 => h9) rfl dX10_lineCount_14 ?_
        refine lv_iload_n (pc := 17) hx hb dX10_lineCount_17 rfl (lv_at hl 0 rfl) ?_
        refine va_iald (pc := 18) hx hb hK hP 1 2 rfl rfl (n_in rfl (by first | exact (om_0 hi_2.1) | ((first | omega | (unfold zBd at *; omega)))) (by first | exact (om_1140 c_6 h_x0.2) | ((first | omega | (unfold zBd at *; omega))))) dX10_lineCount_18 ?_
        refine lv_topi (fun x_7 ex_7 => ?_)
        have rx_7 : ((-1) ≤ x_7.toInt ∧ x_7.toInt ≤ 8) := by rw [ex_7]; exact hf_f0 _
        refine lv_imul (pc := 19) hx hb dX10_lineCount_19 ?_
        refine lv_topi (fun x_8 _ => ?_)
        have rx_8 : zBd x_8.toInt (-2147483648) 2147483647 := n_rng x_8
        refine lv_istore_n (pc := 20) (lv' := [(1, .int x_8), (2, .int x_1), (0, .ref a0)]) hx hb dX10_lineCount_20 rfl hl (by decide) rfl (fun ls hl => ?_)
        refine b_iinc (pc := 21) hx hb dX10_lineCount_21 hl (k := 1) rfl rfl tI_1 (by first | exact (om_2 hi_2.1) | ((first | omega | (unfold zBd at *; omega)))) (by first | exact (om_1141 c_6 h_x0.2) | ((first | omega | (unfold zBd at *; omega)))) (by decide) (fun x_9 ex_9 ls hl => ?_)
        replace hl : lv_has ls 3 [(2, .int x_9), (1, .int x_8), (0, .ref a0)] := hl
        refine lv_goto (pc := 24) (tgt := 4) hx hb dX10_lineCount_24 (by decide) ?_
        exact ih_lp_5 x_9 x_8 _ _ ls (by first | exact (om_1145 ex_9 hi_2.1 c_6 h_x0.2) | ((first | omega | (unfold zBd at *; omega)))) (by (first | omega | (unfold zBd at *; omega))) hP hD hS (lv_sub hl [0, 1, 2] rfl)
  exact lp_5 _ 0 1 _ _ ls (n_c tI_0 (by decide)) (Nat.lt_succ_self _) hP hD hS (lv_sub hl [0, 1, 2] rfl)
theorem om_1222 {a : Int} (h0 : (0 ≤ a)) : (-2147483648 ≤ a * 8) := by omega
theorem om_1223 {a : Int} (h0 : (a ≤ 4)) : (a * 8 ≤ 2147483647) := by omega
theorem om_1224 {a b c : Int} (h0 : (a = c * 8)) (h1 : (0 ≤ b)) (h2 : (0 ≤ c)) : (-2147483648 ≤ a + b) := by omega
theorem om_1225 {a b c : Int} (h0 : (a = c * 8)) (h1 : (b ≤ 7)) (h2 : (c ≤ 4)) : (a + b ≤ 2147483647) := by omega
theorem om_1226 {a b c d : Int} (h0 : (a = b + c)) (h1 : (b = d * 8)) (h2 : (0 ≤ c)) (h3 : (0 ≤ d)) : (0 ≤ a) := by omega
theorem om_1227 {a b c d : Int} (h0 : (a = b + c)) (h1 : (b = d * 8)) (h2 : (c ≤ 7)) (h3 : (d ≤ 4)) : (a < (40 : Nat)) := by omega
set_option maxHeartbeats 4000000 in
set_option maxRecDepth 100000 in
theorem k_X7_note (l : Launch) (D : va_G) (cB cC cI cJ : ClassId) (sz : Nat) (a0 a1 a2 a3 a4 a5 a6 a7 a8 : Nat) (x0 x1 x2 x3 : Int32) (y0 y1 y2 : Int64) (g0 g1 : Nat → Int64) (hp1 : (0 ≤ x0.toInt ∧ x0.toInt ≤ 4)) (hp2 : (0 ≤ x1.toInt ∧ x1.toInt ≤ 7)) (h_x2 : zBd x2.toInt 0 10) (h_x3 : zBd x3.toInt 0 1) : Met l yX7_note (.code yX7_note cX7_note 8 none :: lw_gd) ({ frames := 1, cells := 0, slots := 0, locals := 22 }) (gPre D [(cB, .byte), (cC, .char), (cI, .int), (cJ, .long)] [.ref a0, .int x0, .int x1, .long y0, .long y1] (zS_144 cB cC cI cJ a0 a1 a2 a3 a4 a5 a6 a7 a8 x2 y2 x3 a4 g0 a5 g1) sz) (va_Qv (fun u => True) (gB D (va_A (zS_144 cB cC cI cJ a0 a1 a2 a3 a4 a5 a6 a7 a8 x2 y2 x3 a4 g0 a5 g1) sz) (fun u : gEx => (zS_144 cB cC cI cJ a0 a1 a2 a3 a4 a5 a6 a7 a8 x2 y2 x3 a4 (u.2.2.1 0) a5 (u.2.2.1 1)))) (va_A (zS_144 cB cC cI cJ a0 a1 a2 a3 a4 a5 a6 a7 a8 x2 y2 x3 a4 g0 a5 g1) sz)) 0 0 (va_A (zS_144 cB cC cI cJ a0 a1 a2 a3 a4 a5 a6 a7 a8 x2 y2 x3 a4 g0 a5 g1) sz) := by
  refine gOf_v (by decide +kernel) (Nat.le_of_ble_eq_true rfl) ?_
  intro p e s m args below meth c ls A Q hx hb hts hown hml hN hK hP hD hA hl hret
  replace hown : s.vm.findClass RX7 = some m.cls := hown
  have hS : va_S A s.heap s.heap [] := va_S.rf
  replace hP : va_P D gcl (zS_144 cB cC cI cJ a0 a1 a2 a3 a4 a5 a6 a7 a8 x2 y2 x3 a4 g0 a5 g1) s.heap := hP
  replace hl : lv_has ls 8 [(0, .ref a0), (1, .int x0), (2, .int x1), (3, .long y0), (5, .long y1)] := hl
  have ry0 := n_rngL y0
  have ry1 := n_rngL y1
  have ry2 := n_rngL y2
  refine lv_iload_n (pc := 0) hx hb dX7_note_0 rfl (lv_at hl 1 rfl) ?_
  refine lv_bipush (pc := 1) (v := 8) hx hb dX7_note_1 (by decide) ?_
  refine b_imul (pc := 3) hx hb rfl tI_8 (by first | exact (om_1222 hp1.1) | ((first | omega | (unfold zBd at *; omega)))) (by first | exact (om_1223 hp1.2) | ((first | omega | (unfold zBd at *; omega)))) dX7_note_3 (fun x_1 ex_1 => ?_)
  refine lv_iload_n (pc := 4) hx hb dX7_note_4 rfl (lv_at hl 2 rfl) ?_
  refine b_iadd (pc := 5) hx hb rfl rfl (by first | exact (om_1224 ex_1 hp2.1 hp1.1) | ((first | omega | (unfold zBd at *; omega)))) (by first | exact (om_1225 ex_1 hp2.2 hp1.2) | ((first | omega | (unfold zBd at *; omega)))) dX7_note_5 (fun x_2 ex_2 => ?_)
  refine lv_istore (pc := 6) (lv' := [(7, .int x_2), (0, .ref a0), (1, .int x0), (2, .int x1), (3, .long y0), (5, .long y1)]) hx hb dX7_note_6 hl (by decide) rfl (fun ls hl => ?_)
  refine lv_aload_n (pc := 8) hx hb dX7_note_8 rfl (lv_at hl 1 rfl) ?_
  refine va_get (pc := 9) (ci := 7) (v := .ref a4) (C := RX7) (T := TX7) (N := 11) hx hb hts iX7 hown hK hP 0 rfl rfl 3 (by decide) (hts _ tw_247) (fun _ h9 => h9) rfl dX7_note_9 ?_
  refine lv_iload (pc := 12) hx hb dX7_note_12 (lv_at hl 0 rfl) ?_
  refine lv_aload_n (pc := 14) hx hb dX7_note_14 rfl (lv_at hl 1 rfl) ?_
  refine va_get (pc := 15) (ci := 7) (v := .ref a4) (C := RX7) (T := TX7) (N := 11) hx hb hts iX7 hown hK hP 0 rfl rfl 3 (by decide) (hts _ tw_247) (fun _ h9 => h9) rfl dX7_note_15 ?_
  refine lv_iload (pc := 18) hx hb dX7_note_18 (lv_at hl 0 rfl) ?_
  refine va_lald (pc := 20) hx hb hK hP 1 3 rfl rfl (n_in rfl (by first | exact (om_1226 ex_2 ex_1 hp2.1 hp1.1) | ((first | omega | (unfold zBd at *; omega)))) (by first | exact (om_1227 ex_2 ex_1 hp2.2 hp1.2) | ((first | omega | (unfold zBd at *; omega))))) dX7_note_20 ?_
  refine lv_topl (fun y_3 ey_3 => ?_)
  have ry_3 := n_rngL y_3
  refine lv_lload_n (pc := 21) hx hb dX7_note_21 rfl (lv_at hl 4 rfl) ?_
  refine va_mmin_long (pc := 22) hx hb (hml.trans hl.1.symm) hown (hts _ tw_928) (hts _ tw_857) (hts _ tw_19) (hts _ tw_858) (Nat.le_of_ble_eq_true rfl) (Nat.le_of_ble_eq_true rfl) (Nat.le_of_ble_eq_true rfl) (Nat.le_of_ble_eq_true rfl) dX7_note_22 ?_
  refine lv_topl (fun y_4 ey_4 => ?_)
  have ey_4 := n_minL rfl rfl ey_4
  have ry_4 := n_rngL y_4
  refine g_lastore (pc := 25) hx hb hK hP hD hS 1 3 rfl rfl (n_in rfl (by first | exact (om_1226 ex_2 ex_1 hp2.1 hp1.1) | ((first | omega | (unfold zBd at *; omega)))) (by first | exact (om_1227 ex_2 ex_1 hp2.2 hp1.2) | ((first | omega | (unfold zBd at *; omega))))) dX7_note_25 (fun g_5 H locs hP hD hS => ?_)
  replace hP : va_P D gcl (zS_144 cB cC cI cJ a0 a1 a2 a3 a4 a5 a6 a7 a8 x2 y2 x3 a4 g_5 a5 g1) H := hP
  replace hD : va_D A (zS_144 cB cC cI cJ a0 a1 a2 a3 a4 a5 a6 a7 a8 x2 y2 x3 a4 g_5 a5 g1) := hD
  refine lv_aload_n (pc := 26) hx hb dX7_note_26 rfl (lv_at hl 1 rfl) ?_
  refine va_get (pc := 27) (ci := 7) (v := .ref a5) (C := RX7) (T := TX7) (N := 11) hx hb hts iX7 hown hK hP 0 rfl rfl 4 (by decide) (hts _ tw_248) (fun _ h9 => h9) rfl dX7_note_27 ?_
  refine lv_iload (pc := 30) hx hb dX7_note_30 (lv_at hl 0 rfl) ?_
  refine lv_dup2_11 (pc := 32) hx hb dX7_note_32 rfl rfl ?_
  refine va_lald (pc := 33) hx hb hK hP 2 3 rfl rfl (n_in rfl (by first | exact (om_1226 ex_2 ex_1 hp2.1 hp1.1) | ((first | omega | (unfold zBd at *; omega)))) (by first | exact (om_1227 ex_2 ex_1 hp2.2 hp1.2) | ((first | omega | (unfold zBd at *; omega))))) dX7_note_33 ?_
  refine lv_topl (fun y_6 ey_6 => ?_)
  have ry_6 := n_rngL y_6
  refine lv_lload (pc := 34) hx hb dX7_note_34 (lv_at hl 5 rfl) ?_
  refine lv_ladd (pc := 36) hx hb dX7_note_36 ?_
  refine lv_topl (fun y_7 _ => ?_)
  have ry_7 := n_rngL y_7
  refine g_lastore (pc := 37) hx hb hK hP hD hS 2 3 rfl rfl (n_in rfl (by first | exact (om_1226 ex_2 ex_1 hp2.1 hp1.1) | ((first | omega | (unfold zBd at *; omega)))) (by first | exact (om_1227 ex_2 ex_1 hp2.2 hp1.2) | ((first | omega | (unfold zBd at *; omega))))) dX7_note_37 (fun g_8 H locs hP hD hS => ?_)
  replace hP : va_P D gcl (zS_144 cB cC cI cJ a0 a1 a2 a3 a4 a5 a6 a7 a8 x2 y2 x3 a4 g_5 a5 g_8) H := hP
  replace hD : va_D A (zS_144 cB cC cI cJ a0 a1 a2 a3 a4 a5 a6 a7 a8 x2 y2 x3 a4 g_5 a5 g_8) := hD
  exact hret ((fun _ => 0), (fun _ => (fun _ => 0)), (fun k => [g_5, g_8].getD k (fun _ => 0)), (fun _ => 0), (fun _ => 0)) dX7_note_38 trivial (g_psub (wc := (zS_144 cB cC cI cJ a0 a1 a2 a3 a4 a5 a6 a7 a8 x2 y2 x3 a4 g_5 a5 g_8)) hP [0, 1, 2] rfl) (hD.sub (ws' := (zS_144 cB cC cI cJ a0 a1 a2 a3 a4 a5 a6 a7 a8 x2 y2 x3 a4 g_5 a5 g_8)) [0, 1, 2] (by decide) rfl) hS
set_option maxHeartbeats 4000000 in
set_option maxRecDepth 100000 in
theorem k_X10_squaresAt_8 (l : Launch) (D : va_G) (cB cC cI cJ : ClassId) (sz : Nat) (a0 a1 a2 a3 a4 a5 a6 a7 : Nat) (x0 x1 : Int32) (f0 f1 : Nat → Int32) (g0 g1 g2 : Nat → Int64) (h_x1 : zBd x1.toInt 0 4) : Met l yX10_squaresAt (.code yX10_squaresAt cX10_squaresAt 5 (some .long) :: lw_gd) ({ frames := 0, cells := 0, slots := 0, locals := 0 }) (gPre D [(cB, .byte), (cC, .char), (cI, .int), (cJ, .long)] [.ref a0, .int x0] (zS_94 cB cC cI cJ a0 a1 a2 a3 a4 a5 a6 a7 x1 a4 f0 a5 f1 a2 g0 a1 g1 a3 g2) sz) (va_Ql (fun r u => ((((-9223372036854775808) ≤ r.toInt ∧ r.toInt ≤ 9223372036854775807)))) (gB D (va_A (zS_94 cB cC cI cJ a0 a1 a2 a3 a4 a5 a6 a7 x1 a4 f0 a5 f1 a2 g0 a1 g1 a3 g2) sz) (fun u : gEx => (zS_94 cB cC cI cJ a0 a1 a2 a3 a4 a5 a6 a7 x1 a4 f0 a5 f1 a2 g0 a1 g1 a3 g2))) (va_A (zS_94 cB cC cI cJ a0 a1 a2 a3 a4 a5 a6 a7 x1 a4 f0 a5 f1 a2 g0 a1 g1 a3 g2) sz)) 0 0 (va_A (zS_94 cB cC cI cJ a0 a1 a2 a3 a4 a5 a6 a7 x1 a4 f0 a5 f1 a2 g0 a1 g1 a3 g2) sz) := by
  refine gOf_l (by decide +kernel) (Nat.le_of_ble_eq_true rfl) ?_
  intro p e s m args below meth c ls A Q hx hb hts hown hml hN hK hP hD hA hl hret
  replace hown : s.vm.findClass RX10 = some m.cls := hown
  have hS : va_S A s.heap s.heap [] := va_S.rf
  replace hP : va_P D gcl (zS_94 cB cC cI cJ a0 a1 a2 a3 a4 a5 a6 a7 x1 a4 f0 a5 f1 a2 g0 a1 g1 a3 g2) s.heap := hP
  replace hl : lv_has ls 5 [(0, .ref a0), (1, .int x0)] := hl
  have rx0 : zBd x0.toInt (-2147483648) 2147483647 := n_rng x0
  refine lv_aload_n (pc := 0) hx hb dX10_squaresAt_0 rfl (lv_at hl 0 rfl) ?_
  refine va_get (pc := 1) (ci := 10) (v := .int x1) (C := RX10) (T := TX10) (N := 8) hx hb hts iX10 hown hK hP 0 rfl rfl 7 (by decide) (hts _ tw_220) (fun _ h9 => h9) rfl dX10_squaresAt_1 ?_
  have bd_h_x1 : 0 ≤ x1.toInt ∧ x1.toInt ≤ 4 := h_x1
  refine lv_iconst (pc := 4) (v := 5) hx hb dX10_squaresAt_4 (by decide) ?_
  refine b_imul (pc := 5) hx hb rfl tI_5 (by first | exact (om_330 h_x1.1) | ((first | omega | (unfold zBd at *; omega)))) (by first | exact (om_1160 h_x1.2) | ((first | omega | (unfold zBd at *; omega)))) dX10_squaresAt_5 (fun x_1 ex_1 => ?_)
  refine lv_aload_n (pc := 6) hx hb dX10_squaresAt_6 rfl (lv_at hl 0 rfl) ?_
  refine va_get (pc := 7) (ci := 10) (v := .int x1) (C := RX10) (T := TX10) (N := 8) hx hb hts iX10 hown hK hP 0 rfl rfl 7 (by decide) (hts _ tw_220) (fun _ h9 => h9) rfl dX10_squaresAt_7 ?_
  refine b_iadd (pc := 10) hx hb rfl rfl (by first | exact (om_405 ex_1 h_x1.1) | ((first | omega | (unfold zBd at *; omega)))) (by first | exact (om_1161 ex_1 h_x1.2) | ((first | omega | (unfold zBd at *; omega)))) dX10_squaresAt_10 (fun x_2 ex_2 => ?_)
  refine lv_istore_n (pc := 11) (lv' := [(2, .int x_2), (0, .ref a0), (1, .int x0)]) hx hb dX10_squaresAt_11 rfl hl (by decide) rfl (fun ls hl => ?_)
  refine lv_aload_n (pc := 12) hx hb dX10_squaresAt_12 rfl (lv_at hl 1 rfl) ?_
  refine va_get (pc := 13) (ci := 10) (v := .ref a4) (C := RX10) (T := TX10) (N := 8) hx hb hts iX10 hown hK hP 0 rfl rfl 3 (by decide) (hts _ tw_211) (fun _ h9 => h9) rfl dX10_squaresAt_13 ?_
  refine lv_aload_n (pc := 16) hx hb dX10_squaresAt_16 rfl (lv_at hl 1 rfl) ?_
  refine va_get (pc := 17) (ci := 10) (v := .int x1) (C := RX10) (T := TX10) (N := 8) hx hb hts iX10 hown hK hP 0 rfl rfl 7 (by decide) (hts _ tw_220) (fun _ h9 => h9) rfl dX10_squaresAt_17 ?_
  refine va_iald (pc := 20) hx hb hK hP 1 2 rfl rfl (n_in rfl (by first | exact (om_0 h_x1.1) | ((first | omega | (unfold zBd at *; omega)))) (by first | exact (om_1135 h_x1.2) | ((first | omega | (unfold zBd at *; omega))))) dX10_squaresAt_20 ?_
  refine lv_topi (fun x_3 ex_3 => ?_)
  have rx_3 : zBd x_3.toInt (-2147483648) 2147483647 := n_rng x_3
  refine lv_aload_n (pc := 21) hx hb dX10_squaresAt_21 rfl (lv_at hl 1 rfl) ?_
  refine va_get (pc := 22) (ci := 10) (v := .ref a5) (C := RX10) (T := TX10) (N := 8) hx hb hts iX10 hown hK hP 0 rfl rfl 4 (by decide) (hts _ tw_213) (fun _ h9 => h9) rfl dX10_squaresAt_22 ?_
  refine lv_aload_n (pc := 25) hx hb dX10_squaresAt_25 rfl (lv_at hl 1 rfl) ?_
  refine va_get (pc := 26) (ci := 10) (v := .int x1) (C := RX10) (T := TX10) (N := 8) hx hb hts iX10 hown hK hP 0 rfl rfl 7 (by decide) (hts _ tw_220) (fun _ h9 => h9) rfl dX10_squaresAt_26 ?_
  refine va_iald (pc := 29) hx hb hK hP 2 2 rfl rfl (n_in rfl (by first | exact (om_0 h_x1.1) | ((first | omega | (unfold zBd at *; omega)))) (by first | exact (om_1135 h_x1.2) | ((first | omega | (unfold zBd at *; omega))))) dX10_squaresAt_29 ?_
  refine lv_topi (fun x_4 ex_4 => ?_)
  have rx_4 : zBd x_4.toInt (-2147483648) 2147483647 := n_rng x_4
  refine lv_iload_n (pc := 30) hx hb dX10_squaresAt_30 rfl (lv_at hl 2 rfl) ?_
  refine lv_imul (pc := 31) hx hb dX10_squaresAt_31 ?_
  refine lv_topi (fun x_5 _ => ?_)
  have rx_5 : zBd x_5.toInt (-2147483648) 2147483647 := n_rng x_5
  refine lv_iadd (pc := 32) hx hb dX10_squaresAt_32 ?_
  refine lv_topi (fun x_6 _ => ?_)
  have rx_6 : zBd x_6.toInt (-2147483648) 2147483647 := n_rng x_6
  refine b_i2l (pc := 33) hx hb rfl dX10_squaresAt_33 (fun y_7 ey_7 => ?_)
  have ry_7 : zBd x_6.toInt (-2147483648) 2147483647 := n_rng x_6
  refine lv_lstore_n (pc := 34) (lv' := [(3, .long y_7), (2, .int x_2), (0, .ref a0), (1, .int x0)]) hx hb dX10_squaresAt_34 rfl hl (by decide) rfl (fun ls hl => ?_)
  refine lv_aload_n (pc := 35) hx hb dX10_squaresAt_35 rfl (lv_at hl 2 rfl) ?_
  refine va_get (pc := 36) (ci := 10) (v := .ref a2) (C := RX10) (T := TX10) (N := 8) hx hb hts iX10 hown hK hP 0 rfl rfl 1 (by decide) (hts _ tw_209) (fun _ h9 => h9) rfl dX10_squaresAt_36 ?_
  refine lv_aload_n (pc := 39) hx hb dX10_squaresAt_39 rfl (lv_at hl 2 rfl) ?_
  refine va_get (pc := 40) (ci := 10) (v := .int x1) (C := RX10) (T := TX10) (N := 8) hx hb hts iX10 hown hK hP 0 rfl rfl 7 (by decide) (hts _ tw_220) (fun _ h9 => h9) rfl dX10_squaresAt_40 ?_
  refine va_lald (pc := 43) hx hb hK hP 3 3 rfl rfl (n_in rfl (by first | exact (om_0 h_x1.1) | ((first | omega | (unfold zBd at *; omega)))) (by first | exact (om_1135 h_x1.2) | ((first | omega | (unfold zBd at *; omega))))) dX10_squaresAt_43 ?_
  refine lv_topl (fun y_8 ey_8 => ?_)
  have ry_8 := n_rngL y_8
  refine lv_lload_n (pc := 44) hx hb dX10_squaresAt_44 rfl (lv_at hl 0 rfl) ?_
  refine lv_lload_n (pc := 45) hx hb dX10_squaresAt_45 rfl (lv_at hl 0 rfl) ?_
  refine lv_aload_n (pc := 46) hx hb dX10_squaresAt_46 rfl (lv_at hl 2 rfl) ?_
  refine va_get (pc := 47) (ci := 10) (v := .ref a1) (C := RX10) (T := TX10) (N := 8) hx hb hts iX10 hown hK hP 0 rfl rfl 0 (by decide) (hts _ tw_207) (fun _ h9 => h9) rfl dX10_squaresAt_47 ?_
  refine lv_iload_n (pc := 50) hx hb dX10_squaresAt_50 rfl (lv_at hl 1 rfl) ?_
  refine va_lald (pc := 51) hx hb hK hP 4 3 rfl rfl (n_in rfl (by first | exact (om_407 ex_2 ex_1 h_x1.1) | ((first | omega | (unfold zBd at *; omega)))) (by first | exact (om_1162 ex_2 ex_1 h_x1.2) | ((first | omega | (unfold zBd at *; omega))))) dX10_squaresAt_51 ?_
  refine lv_topl (fun y_9 ey_9 => ?_)
  have ry_9 := n_rngL y_9
  refine lv_lmul (pc := 52) hx hb dX10_squaresAt_52 ?_
  refine lv_topl (fun y_10 _ => ?_)
  have ry_10 := n_rngL y_10
  refine lv_ldc2 (pc := 53) hx hb hown (hts _ tw_910) dX10_squaresAt_53 ?_
  refine lv_aload_n (pc := 56) hx hb dX10_squaresAt_56 rfl (lv_at hl 2 rfl) ?_
  refine va_get (pc := 57) (ci := 10) (v := .ref a3) (C := RX10) (T := TX10) (N := 8) hx hb hts iX10 hown hK hP 0 rfl rfl 2 (by decide) (hts _ tw_210) (fun _ h9 => h9) rfl dX10_squaresAt_57 ?_
  refine lv_iload_n (pc := 60) hx hb dX10_squaresAt_60 rfl (lv_at hl 1 rfl) ?_
  refine va_lald (pc := 61) hx hb hK hP 5 3 rfl rfl (n_in rfl (by first | exact (om_407 ex_2 ex_1 h_x1.1) | ((first | omega | (unfold zBd at *; omega)))) (by first | exact (om_1162 ex_2 ex_1 h_x1.2) | ((first | omega | (unfold zBd at *; omega))))) dX10_squaresAt_61 ?_
  refine lv_topl (fun y_11 ey_11 => ?_)
  have ry_11 := n_rngL y_11
  refine lv_lmul (pc := 62) hx hb dX10_squaresAt_62 ?_
  refine lv_topl (fun y_12 _ => ?_)
  have ry_12 := n_rngL y_12
  refine lv_lsub (pc := 63) hx hb dX10_squaresAt_63 ?_
  refine lv_topl (fun y_13 _ => ?_)
  have ry_13 := n_rngL y_13
  refine lv_lmul (pc := 64) hx hb dX10_squaresAt_64 ?_
  refine lv_topl (fun y_14 _ => ?_)
  have ry_14 := n_rngL y_14
  refine lv_ladd (pc := 65) hx hb dX10_squaresAt_65 ?_
  refine lv_topl (fun y_15 _ => ?_)
  have ry_15 := n_rngL y_15
  exact hret y_15 ((fun _ => 0), (fun _ => (fun _ => 0)), (fun _ => (fun _ => 0)), (fun _ => 0), (fun _ => 0)) dX10_squaresAt_66 (show ((((-9223372036854775808) ≤ y_15.toInt ∧ y_15.toInt ≤ 9223372036854775807))) from (by first | exact (om_1163 ry_15.1 ry_15.2) | ((first | omega | (unfold zBd at *; omega))))) (g_psub (wc := (zS_94 cB cC cI cJ a0 a1 a2 a3 a4 a5 a6 a7 x1 a4 f0 a5 f1 a2 g0 a1 g1 a3 g2)) hP [0, 1, 2, 3, 4, 5] rfl) (hD.sub (ws' := (zS_94 cB cC cI cJ a0 a1 a2 a3 a4 a5 a6 a7 x1 a4 f0 a5 f1 a2 g0 a1 g1 a3 g2)) [0, 1, 2, 3, 4, 5] (by decide) rfl) hS
theorem om_1228 {a : Int} (h0 : (a ≤ 0)) : (a < (10 : Nat)) := by omega
theorem om_1229 {a b : Int} (h0 : (a = b + 1)) (h1 : (0 ≤ b)) (h2 : (¬ b = 10)) (h3 : (b ≤ 10)) : ((0 ≤ a ∧ a ≤ 10)) := by omega
theorem om_1230 {a : Int} (h0 : (a ≤ 9)) : (a - 1 ≤ 2147483647) := by omega
theorem om_1231 {a b : Int} (h0 : (a = b - 1)) (h1 : (b ≤ 9)) : (a < (10 : Nat)) := by omega
theorem om_1232 {a : Int} (h0 : (a > 0)) : (0 ≤ a) := by omega
theorem om_1233 {a : Int} (h0 : (a ≤ 9)) : (a < (10 : Nat)) := by omega
theorem om_1234 {a : Int} (h0 : (a > 0)) : (-2147483648 ≤ a + (-1)) := by omega
theorem om_1235 {a : Int} (h0 : (a ≤ 9)) : (a + (-1) ≤ 2147483647) := by omega
theorem om_1236 {a b : Int} (h0 : (a = b + (-1))) (h1 : (b > 0)) (h2 : (b ≤ 9)) : ((0 ≤ a ∧ a ≤ 9)) := by omega
theorem om_1237 {a : Int} (h0 : (0 ≤ a)) (h1 : (¬ a = 10)) (h2 : (a ≤ 10)) : ((0 ≤ a ∧ a ≤ 9)) := by omega
theorem om_1238 {a : Int} (h0 : (a = 10)) : (-2147483648 ≤ a - 1) := by omega
theorem om_1239 {a : Int} (h0 : (a = 10)) : (a - 1 ≤ 2147483647) := by omega
theorem om_1240 {a b : Int} (h0 : (a = b - 1)) (h1 : (b = 10)) : (-2147483648 ≤ a + 1) := by omega
theorem om_1241 {a b : Int} (h0 : (a = b - 1)) (h1 : (b = 10)) : (a + 1 ≤ 2147483647) := by omega
theorem om_1242 {a b c : Int} (h0 : (a = b + 1)) (h1 : (b = c - 1)) (h2 : (c = 10)) : ((0 ≤ a ∧ a ≤ 10)) := by omega
theorem om_1243 {a b : Int} (h0 : (a = b - 1)) (h1 : (b = 10)) : ((0 ≤ a ∧ a ≤ 9)) := by omega
set_option maxHeartbeats 4000000 in
set_option maxRecDepth 100000 in
theorem k_X7_admit (l : Launch) (D : va_G) (cB cC cI cJ : ClassId) (sz : Nat) (a0 a1 a2 a3 a4 a5 a6 a7 a8 : Nat) (x0 x1 x2 : Int32) (y0 y1 : Int64) (f0 : Nat → Int32) (g0 : Nat → Int64) (h_x1 : zBd x1.toInt 0 10) (h_x2 : zBd x2.toInt 0 1) : Met l yX7_admit (.code yX7_admit cX7_admit 5 none :: lw_gd) ({ frames := 0, cells := 0, slots := 0, locals := 0 }) (gPre D [(cB, .byte), (cC, .char), (cI, .int), (cJ, .long)] [.ref a0, .int x0, .long y0] (zS_32 cB cC cI cJ a0 a1 a2 a3 a4 a5 a6 a7 a8 x1 y1 x2 a2 g0 a3 f0) sz) (va_Qv (fun u => (0 ≤ (u.2.2.2.1 0).toInt ∧ (u.2.2.2.1 0).toInt ≤ 10)) (gB D (va_A (zS_32 cB cC cI cJ a0 a1 a2 a3 a4 a5 a6 a7 a8 x1 y1 x2 a2 g0 a3 f0) sz) (fun u : gEx => (zS_32 cB cC cI cJ a0 a1 a2 a3 a4 a5 a6 a7 a8 (u.2.2.2.1 0) y1 x2 a2 (u.2.2.1 0) a3 (u.2.1 0)))) (va_A (zS_32 cB cC cI cJ a0 a1 a2 a3 a4 a5 a6 a7 a8 x1 y1 x2 a2 g0 a3 f0) sz)) 0 0 (va_A (zS_32 cB cC cI cJ a0 a1 a2 a3 a4 a5 a6 a7 a8 x1 y1 x2 a2 g0 a3 f0) sz) := by
  refine gOf_v (by decide +kernel) (Nat.le_of_ble_eq_true rfl) ?_
  intro p e s m args below meth c ls A Q hx hb hts hown hml hN hK hP hD hA hl hret
  replace hown : s.vm.findClass RX7 = some m.cls := hown
  have hS : va_S A s.heap s.heap [] := va_S.rf
  replace hP : va_P D gcl (zS_32 cB cC cI cJ a0 a1 a2 a3 a4 a5 a6 a7 a8 x1 y1 x2 a2 g0 a3 f0) s.heap := hP
  replace hl : lv_has ls 5 [(0, .ref a0), (1, .int x0), (2, .long y0)] := hl
  have rx0 : zBd x0.toInt (-2147483648) 2147483647 := n_rng x0
  have ry0 := n_rngL y0
  have ry1 := n_rngL y1
  refine lv_aload_n (pc := 0) hx hb dX7_admit_0 rfl (lv_at hl 0 rfl) ?_
  refine va_get (pc := 1) (ci := 7) (v := .int x1) (C := RX7) (T := TX7) (N := 11) hx hb hts iX7 hown hK hP 0 rfl rfl 8 (by decide) (hts _ tw_254) (fun _ h9 => h9) rfl dX7_admit_1 ?_
  have bd_h_x1 : 0 ≤ x1.toInt ∧ x1.toInt ≤ 10 := h_x1
  refine lv_bipush (pc := 4) (v := 10) hx hb dX7_admit_4 (by decide) ?_
  refine b_icmp_ne (pc := 6) (tgt := 32) hx hb rfl tI_10  dX7_admit_6 (by decide) (fun c_1 => ?_) (fun c_1 => ?_)
  ·
    as_aux_lemma =>
      refine lv_aload_n (pc := 32) hx hb dX7_admit_32 rfl (lv_at hl 0 rfl) ?_
      refine va_get (pc := 33) (ci := 7) (v := .int x1) (C := RX7) (T := TX7) (N := 11) hx hb hts iX7 hown hK hP 0 rfl rfl 8 (by decide) (hts _ tw_254) (fun _ h9 => h9) rfl dX7_admit_33 ?_
      refine lv_istore (pc := 36) (lv' := [(4, .int x1), (0, .ref a0), (1, .int x0), (2, .long y0)]) hx hb dX7_admit_36 hl (by decide) rfl (fun ls hl => ?_)
      have lp_6 : ∀ (n : Nat) (x_2 : Int32) (f_5 : Nat → Int32) (g_4 : Nat → Int64) (H : Heap) (locs : List Loc) (ls : Array Slot), (0 ≤ x_2.toInt ∧ x_2.toInt ≤ 9) → (x_2.toInt + 2147483648).toNat < n → va_P D gcl (zS_32 cB cC cI cJ a0 a1 a2 a3 a4 a5 a6 a7 a8 x1 y1 x2 a2 g_4 a3 f_5) H → va_D A (zS_32 cB cC cI cJ a0 a1 a2 a3 a4 a5 a6 a7 a8 x1 y1 x2 a2 g_4 a3 f_5) → va_S A s.heap H locs → lv_has ls 5 [(4, .int x_2), (0, .ref a0), (1, .int x0), (2, .long y0)] → W p l e ({ frames := 0, cells := 0, slots := 0, locals := 0 }) s m args below meth c H locs 0 0 Q (F0 m 38 ls []) := by
        intro n
        induction n with
        | zero => intro x_2 f_5 g_4 H locs ls hi_3 hmu; exact absurd hmu (Nat.not_lt_zero _)
        | succ n ih_lp_6 =>
          intro x_2 f_5 g_4 H locs ls hi_3 hmu_lp_6 hP hD hS hl
          refine lv_iload (pc := 38) hx hb dX7_admit_38 (lv_at hl 0 rfl) ?_
          refine b_if_le (pc := 40) (tgt := 95) hx hb rfl  dX7_admit_40 (by decide) (fun c_7 => ?_) (fun c_7 => ?_)
          ·
            as_aux_lemma =>
              refine lv_aload_n (pc := 95) hx hb dX7_admit_95 rfl (lv_at hl 1 rfl) ?_
              refine va_get (pc := 96) (ci := 7) (v := .ref a2) (C := RX7) (T := TX7) (N := 11) hx hb hts iX7 hown hK hP 0 rfl rfl 1 (by decide) (hts _ tw_243) (fun _ h9 => h9) rfl dX7_admit_96 ?_
              refine lv_iload (pc := 99) hx hb dX7_admit_99 (lv_at hl 0 rfl) ?_
              refine lv_lload_n (pc := 101) hx hb dX7_admit_101 rfl (lv_at hl 3 rfl) ?_
              refine g_lastore (pc := 102) hx hb hK hP hD hS 1 3 rfl rfl (n_in rfl (by first | exact (om_0 hi_3.1) | ((first | omega | (unfold zBd at *; omega)))) (by first | exact (om_1228 c_7) | ((first | omega | (unfold zBd at *; omega))))) dX7_admit_102 (fun g_8 H locs hP hD hS => ?_)
              replace hP : va_P D gcl (zS_32 cB cC cI cJ a0 a1 a2 a3 a4 a5 a6 a7 a8 x1 y1 x2 a2 g_8 a3 f_5) H := hP
              replace hD : va_D A (zS_32 cB cC cI cJ a0 a1 a2 a3 a4 a5 a6 a7 a8 x1 y1 x2 a2 g_8 a3 f_5) := hD
              refine lv_aload_n (pc := 103) hx hb dX7_admit_103 rfl (lv_at hl 1 rfl) ?_
              refine va_get (pc := 104) (ci := 7) (v := .ref a3) (C := RX7) (T := TX7) (N := 11) hx hb hts iX7 hown hK hP 0 rfl rfl 2 (by decide) (hts _ tw_245) (fun _ h9 => h9) rfl dX7_admit_104 ?_
              refine lv_iload (pc := 107) hx hb dX7_admit_107 (lv_at hl 0 rfl) ?_
              refine lv_iload_n (pc := 109) hx hb dX7_admit_109 rfl (lv_at hl 2 rfl) ?_
              refine g_iastore (pc := 110) hx hb hK hP hD hS 2 2 rfl rfl (n_in rfl (by first | exact (om_0 hi_3.1) | ((first | omega | (unfold zBd at *; omega)))) (by first | exact (om_1228 c_7) | ((first | omega | (unfold zBd at *; omega))))) dX7_admit_110 (fun f_9 H locs hP hD hS => ?_)
              replace hP : va_P D gcl (zS_32 cB cC cI cJ a0 a1 a2 a3 a4 a5 a6 a7 a8 x1 y1 x2 a2 g_8 a3 f_9) H := hP
              replace hD : va_D A (zS_32 cB cC cI cJ a0 a1 a2 a3 a4 a5 a6 a7 a8 x1 y1 x2 a2 g_8 a3 f_9) := hD
              as_aux_lemma =>
                refine lv_aload_n (pc := 111) hx hb dX7_admit_111 rfl (lv_at hl 1 rfl) ?_
                refine lv_dup (pc := 112) hx hb dX7_admit_112 rfl ?_
                refine va_get (pc := 113) (ci := 7) (v := .int x1) (C := RX7) (T := TX7) (N := 11) hx hb hts iX7 hown hK hP 0 rfl rfl 8 (by decide) (hts _ tw_254) (fun _ h9 => h9) rfl dX7_admit_113 ?_
                refine lv_iconst (pc := 116) (v := 1) hx hb dX7_admit_116 (by decide) ?_
                refine b_iadd (pc := 117) hx hb rfl tI_1 (by first | exact (om_2 h_x1.1) | ((first | omega | (unfold zBd at *; omega)))) (by first | exact (om_1016 h_x1.2) | ((first | omega | (unfold zBd at *; omega)))) dX7_admit_117 (fun x_10 ex_10 => ?_)
                refine va_put (pc := 118) (ci := 7) (v := .int x_10) (ty := .int) (C := RX7) (T := TX7) (N := 11) hx hb hts iX7 tyX7 tyX7_ok nmX7 hown hK hP hD hS 0 rfl rfl 8 (by decide) (hts _ tw_254) (fun _ h9 => h9) rfl (by decide +kernel) rfl rfl (Nat.le_of_ble_eq_true rfl) dX7_admit_118 (fun H locs hP hD hS => ?_)
                replace hP : va_P D gcl (zS_32 cB cC cI cJ a0 a1 a2 a3 a4 a5 a6 a7 a8 x_10 y1 x2 a2 g_8 a3 f_9) H := hP
                replace hD : va_D A (zS_32 cB cC cI cJ a0 a1 a2 a3 a4 a5 a6 a7 a8 x_10 y1 x2 a2 g_8 a3 f_9) := hD
                exact hret ((fun _ => 0), (fun k => [f_9].getD k (fun _ => 0)), (fun k => [g_8].getD k (fun _ => 0)), (fun k => [x_10].getD k 0), (fun _ => 0)) dX7_admit_121 (show (0 ≤ (x_10 : Int32).toInt ∧ (x_10 : Int32).toInt ≤ 10) from (by first | exact (om_1229 ex_10 h_x1.1 c_1 h_x1.2) | ((first | omega | (unfold zBd at *; omega))))) (g_psub (wc := (zS_32 cB cC cI cJ a0 a1 a2 a3 a4 a5 a6 a7 a8 x_10 y1 x2 a2 g_8 a3 f_9)) hP [0, 1, 2] rfl) (hD.sub (ws' := (zS_32 cB cC cI cJ a0 a1 a2 a3 a4 a5 a6 a7 a8 x_10 y1 x2 a2 g_8 a3 f_9)) [0, 1, 2] (by decide) rfl) hS
          ·
            as_aux_lemma =>
              refine lv_aload_n (pc := 43) hx hb dX7_admit_43 rfl (lv_at hl 1 rfl) ?_
              refine va_get (pc := 44) (ci := 7) (v := .ref a2) (C := RX7) (T := TX7) (N := 11) hx hb hts iX7 hown hK hP 0 rfl rfl 1 (by decide) (hts _ tw_243) (fun _ h9 => h9) rfl dX7_admit_44 ?_
              refine lv_iload (pc := 47) hx hb dX7_admit_47 (lv_at hl 0 rfl) ?_
              refine lv_iconst (pc := 49) (v := 1) hx hb dX7_admit_49 (by decide) ?_
              refine b_isub (pc := 50) hx hb rfl tI_1 (by first | exact (om_693 c_7) | ((first | omega | (unfold zBd at *; omega)))) (by first | exact (om_1230 hi_3.2) | ((first | omega | (unfold zBd at *; omega)))) dX7_admit_50 (fun x_11 ex_11 => ?_)
              refine va_lald (pc := 51) hx hb hK hP 1 3 rfl rfl (n_in rfl (by first | exact (om_694 ex_11 c_7) | ((first | omega | (unfold zBd at *; omega)))) (by first | exact (om_1231 ex_11 hi_3.2) | ((first | omega | (unfold zBd at *; omega))))) dX7_admit_51 ?_
              refine lv_topl (fun y_12 ey_12 => ?_)
              have ry_12 := n_rngL y_12
              refine lv_lload_n (pc := 52) hx hb dX7_admit_52 rfl (lv_at hl 3 rfl) ?_
              refine b_lcmp_le (pc := 53) (tgt := 95) hx hb rfl rfl dX7_admit_53 dX7_admit_54 (by decide) (fun c_13 => ?_) (fun c_13 => ?_)
              ·
                as_aux_lemma =>
                  refine lv_aload_n (pc := 95) hx hb dX7_admit_95 rfl (lv_at hl 1 rfl) ?_
                  refine va_get (pc := 96) (ci := 7) (v := .ref a2) (C := RX7) (T := TX7) (N := 11) hx hb hts iX7 hown hK hP 0 rfl rfl 1 (by decide) (hts _ tw_243) (fun _ h9 => h9) rfl dX7_admit_96 ?_
                  refine lv_iload (pc := 99) hx hb dX7_admit_99 (lv_at hl 0 rfl) ?_
                  refine lv_lload_n (pc := 101) hx hb dX7_admit_101 rfl (lv_at hl 3 rfl) ?_
                  refine g_lastore (pc := 102) hx hb hK hP hD hS 1 3 rfl rfl (n_in rfl (by first | exact (om_1232 c_7) | ((first | omega | (unfold zBd at *; omega)))) (by first | exact (om_1233 hi_3.2) | ((first | omega | (unfold zBd at *; omega))))) dX7_admit_102 (fun g_14 H locs hP hD hS => ?_)
                  replace hP : va_P D gcl (zS_32 cB cC cI cJ a0 a1 a2 a3 a4 a5 a6 a7 a8 x1 y1 x2 a2 g_14 a3 f_5) H := hP
                  replace hD : va_D A (zS_32 cB cC cI cJ a0 a1 a2 a3 a4 a5 a6 a7 a8 x1 y1 x2 a2 g_14 a3 f_5) := hD
                  refine lv_aload_n (pc := 103) hx hb dX7_admit_103 rfl (lv_at hl 1 rfl) ?_
                  refine va_get (pc := 104) (ci := 7) (v := .ref a3) (C := RX7) (T := TX7) (N := 11) hx hb hts iX7 hown hK hP 0 rfl rfl 2 (by decide) (hts _ tw_245) (fun _ h9 => h9) rfl dX7_admit_104 ?_
                  refine lv_iload (pc := 107) hx hb dX7_admit_107 (lv_at hl 0 rfl) ?_
                  refine lv_iload_n (pc := 109) hx hb dX7_admit_109 rfl (lv_at hl 2 rfl) ?_
                  refine g_iastore (pc := 110) hx hb hK hP hD hS 2 2 rfl rfl (n_in rfl (by first | exact (om_1232 c_7) | ((first | omega | (unfold zBd at *; omega)))) (by first | exact (om_1233 hi_3.2) | ((first | omega | (unfold zBd at *; omega))))) dX7_admit_110 (fun f_15 H locs hP hD hS => ?_)
                  replace hP : va_P D gcl (zS_32 cB cC cI cJ a0 a1 a2 a3 a4 a5 a6 a7 a8 x1 y1 x2 a2 g_14 a3 f_15) H := hP
                  replace hD : va_D A (zS_32 cB cC cI cJ a0 a1 a2 a3 a4 a5 a6 a7 a8 x1 y1 x2 a2 g_14 a3 f_15) := hD
                  as_aux_lemma =>
                    refine lv_aload_n (pc := 111) hx hb dX7_admit_111 rfl (lv_at hl 1 rfl) ?_
                    refine lv_dup (pc := 112) hx hb dX7_admit_112 rfl ?_
                    refine va_get (pc := 113) (ci := 7) (v := .int x1) (C := RX7) (T := TX7) (N := 11) hx hb hts iX7 hown hK hP 0 rfl rfl 8 (by decide) (hts _ tw_254) (fun _ h9 => h9) rfl dX7_admit_113 ?_
                    refine lv_iconst (pc := 116) (v := 1) hx hb dX7_admit_116 (by decide) ?_
                    refine b_iadd (pc := 117) hx hb rfl tI_1 (by first | exact (om_2 h_x1.1) | ((first | omega | (unfold zBd at *; omega)))) (by first | exact (om_1016 h_x1.2) | ((first | omega | (unfold zBd at *; omega)))) dX7_admit_117 (fun x_16 ex_16 => ?_)
                    refine va_put (pc := 118) (ci := 7) (v := .int x_16) (ty := .int) (C := RX7) (T := TX7) (N := 11) hx hb hts iX7 tyX7 tyX7_ok nmX7 hown hK hP hD hS 0 rfl rfl 8 (by decide) (hts _ tw_254) (fun _ h9 => h9) rfl (by decide +kernel) rfl rfl (Nat.le_of_ble_eq_true rfl) dX7_admit_118 (fun H locs hP hD hS => ?_)
                    replace hP : va_P D gcl (zS_32 cB cC cI cJ a0 a1 a2 a3 a4 a5 a6 a7 a8 x_16 y1 x2 a2 g_14 a3 f_15) H := hP
                    replace hD : va_D A (zS_32 cB cC cI cJ a0 a1 a2 a3 a4 a5 a6 a7 a8 x_16 y1 x2 a2 g_14 a3 f_15) := hD
                    exact hret ((fun _ => 0), (fun k => [f_15].getD k (fun _ => 0)), (fun k => [g_14].getD k (fun _ => 0)), (fun k => [x_16].getD k 0), (fun _ => 0)) dX7_admit_121 (show (0 ≤ (x_16 : Int32).toInt ∧ (x_16 : Int32).toInt ≤ 10) from (by first | exact (om_1229 ex_16 h_x1.1 c_1 h_x1.2) | ((first | omega | (unfold zBd at *; omega))))) (g_psub (wc := (zS_32 cB cC cI cJ a0 a1 a2 a3 a4 a5 a6 a7 a8 x_16 y1 x2 a2 g_14 a3 f_15)) hP [0, 1, 2] rfl) (hD.sub (ws' := (zS_32 cB cC cI cJ a0 a1 a2 a3 a4 a5 a6 a7 a8 x_16 y1 x2 a2 g_14 a3 f_15)) [0, 1, 2] (by decide) rfl) hS
              ·
                as_aux_lemma =>
                  refine lv_aload_n (pc := 57) hx hb dX7_admit_57 rfl (lv_at hl 1 rfl) ?_
                  refine va_get (pc := 58) (ci := 7) (v := .ref a2) (C := RX7) (T := TX7) (N := 11) hx hb hts iX7 hown hK hP 0 rfl rfl 1 (by decide) (hts _ tw_243) (fun _ h9 => h9) rfl dX7_admit_58 ?_
                  refine lv_iload (pc := 61) hx hb dX7_admit_61 (lv_at hl 0 rfl) ?_
                  refine lv_aload_n (pc := 63) hx hb dX7_admit_63 rfl (lv_at hl 1 rfl) ?_
                  refine va_get (pc := 64) (ci := 7) (v := .ref a2) (C := RX7) (T := TX7) (N := 11) hx hb hts iX7 hown hK hP 0 rfl rfl 1 (by decide) (hts _ tw_243) (fun _ h9 => h9) rfl dX7_admit_64 ?_
                  refine lv_iload (pc := 67) hx hb dX7_admit_67 (lv_at hl 0 rfl) ?_
                  refine lv_iconst (pc := 69) (v := 1) hx hb dX7_admit_69 (by decide) ?_
                  refine b_isub (pc := 70) hx hb rfl tI_1 (by first | exact (om_693 c_7) | ((first | omega | (unfold zBd at *; omega)))) (by first | exact (om_1230 hi_3.2) | ((first | omega | (unfold zBd at *; omega)))) dX7_admit_70 (fun x_17 ex_17 => ?_)
                  refine va_lald (pc := 71) hx hb hK hP 1 3 rfl rfl (n_in rfl (by first | exact (om_694 ex_17 c_7) | ((first | omega | (unfold zBd at *; omega)))) (by first | exact (om_1231 ex_17 hi_3.2) | ((first | omega | (unfold zBd at *; omega))))) dX7_admit_71 ?_
                  refine lv_topl (fun y_18 ey_18 => ?_)
                  have ry_18 := n_rngL y_18
                  as_aux_lemma =>
                    refine g_lastore (pc := 72) hx hb hK hP hD hS 1 3 rfl rfl (n_in rfl (by first | exact (om_1232 c_7) | ((first | omega | (unfold zBd at *; omega)))) (by first | exact (om_1233 hi_3.2) | ((first | omega | (unfold zBd at *; omega))))) dX7_admit_72 (fun g_19 H locs hP hD hS => ?_)
                    replace hP : va_P D gcl (zS_32 cB cC cI cJ a0 a1 a2 a3 a4 a5 a6 a7 a8 x1 y1 x2 a2 g_19 a3 f_5) H := hP
                    replace hD : va_D A (zS_32 cB cC cI cJ a0 a1 a2 a3 a4 a5 a6 a7 a8 x1 y1 x2 a2 g_19 a3 f_5) := hD
                    refine lv_aload_n (pc := 73) hx hb dX7_admit_73 rfl (lv_at hl 1 rfl) ?_
                    refine va_get (pc := 74) (ci := 7) (v := .ref a3) (C := RX7) (T := TX7) (N := 11) hx hb hts iX7 hown hK hP 0 rfl rfl 2 (by decide) (hts _ tw_245) (fun _ h9 => h9) rfl dX7_admit_74 ?_
                    refine lv_iload (pc := 77) hx hb dX7_admit_77 (lv_at hl 0 rfl) ?_
                    refine lv_aload_n (pc := 79) hx hb dX7_admit_79 rfl (lv_at hl 1 rfl) ?_
                    refine va_get (pc := 80) (ci := 7) (v := .ref a3) (C := RX7) (T := TX7) (N := 11) hx hb hts iX7 hown hK hP 0 rfl rfl 2 (by decide) (hts _ tw_245) (fun _ h9 => h9) rfl dX7_admit_80 ?_
                    refine lv_iload (pc := 83) hx hb dX7_admit_83 (lv_at hl 0 rfl) ?_
                    refine lv_iconst (pc := 85) (v := 1) hx hb dX7_admit_85 (by decide) ?_
                    refine b_isub (pc := 86) hx hb rfl tI_1 (by first | exact (om_693 c_7) | ((first | omega | (unfold zBd at *; omega)))) (by first | exact (om_1230 hi_3.2) | ((first | omega | (unfold zBd at *; omega)))) dX7_admit_86 (fun x_20 ex_20 => ?_)
                    refine va_iald (pc := 87) hx hb hK hP 2 2 rfl rfl (n_in rfl (by first | exact (om_694 ex_20 c_7) | ((first | omega | (unfold zBd at *; omega)))) (by first | exact (om_1231 ex_20 hi_3.2) | ((first | omega | (unfold zBd at *; omega))))) dX7_admit_87 ?_
                    as_aux_lemma =>
                      refine lv_topi (fun x_21 ex_21 => ?_)
                      have rx_21 : zBd x_21.toInt (-2147483648) 2147483647 := n_rng x_21
                      refine g_iastore (pc := 88) hx hb hK hP hD hS 2 2 rfl rfl (n_in rfl (by first | exact (om_1232 c_7) | ((first | omega | (unfold zBd at *; omega)))) (by first | exact (om_1233 hi_3.2) | ((first | omega | (unfold zBd at *; omega))))) dX7_admit_88 (fun f_22 H locs hP hD hS => ?_)
                      replace hP : va_P D gcl (zS_32 cB cC cI cJ a0 a1 a2 a3 a4 a5 a6 a7 a8 x1 y1 x2 a2 g_19 a3 f_22) H := hP
                      replace hD : va_D A (zS_32 cB cC cI cJ a0 a1 a2 a3 a4 a5 a6 a7 a8 x1 y1 x2 a2 g_19 a3 f_22) := hD
                      refine b_iinc (pc := 89) hx hb dX7_admit_89 hl (k := 0) rfl rfl tI_m1 (by first | exact (om_1234 c_7) | ((first | omega | (unfold zBd at *; omega)))) (by first | exact (om_1235 hi_3.2) | ((first | omega | (unfold zBd at *; omega)))) (by decide) (fun x_23 ex_23 ls hl => ?_)
                      replace hl : lv_has ls 5 [(4, .int x_23), (0, .ref a0), (1, .int x0), (2, .long y0)] := hl
                      refine lv_goto (pc := 92) (tgt := 38) hx hb dX7_admit_92 (by decide) ?_
                      exact ih_lp_6 x_23 f_22 g_19 _ _ ls (by first | exact (om_1236 ex_23 c_7 hi_3.2) | ((first | omega | (unfold zBd at *; omega)))) (by (first | omega | (unfold zBd at *; omega))) hP hD hS (lv_sub hl [0, 1, 2, 3] rfl)
      exact lp_6 _ x1 f0 g0 _ _ ls (by first | exact (om_1237 h_x1.1 c_1 h_x1.2) | ((first | omega | (unfold zBd at *; omega)))) (Nat.lt_succ_self _) hP hD hS (lv_sub hl [0, 1, 2, 3] rfl)
  ·
    as_aux_lemma =>
      refine lv_lload_n (pc := 9) hx hb dX7_admit_9 rfl (lv_at hl 2 rfl) ?_
      refine lv_aload_n (pc := 10) hx hb dX7_admit_10 rfl (lv_at hl 0 rfl) ?_
      refine va_get (pc := 11) (ci := 7) (v := .ref a2) (C := RX7) (T := TX7) (N := 11) hx hb hts iX7 hown hK hP 0 rfl rfl 1 (by decide) (hts _ tw_243) (fun _ h9 => h9) rfl dX7_admit_11 ?_
      refine lv_bipush (pc := 14) (v := 9) hx hb dX7_admit_14 (by decide) ?_
      refine va_lald (pc := 16) hx hb hK hP 1 3 rfl rfl (gin rfl) dX7_admit_16 ?_
      refine lv_topl (fun y_24 ey_24 => ?_)
      have ry_24 := n_rngL y_24
      refine b_lcmp_lt (pc := 17) (tgt := 22) hx hb rfl rfl dX7_admit_17 dX7_admit_18 (by decide) (fun c_25 => ?_) (fun c_25 => ?_)
      ·
        as_aux_lemma =>
          refine lv_aload_n (pc := 22) hx hb dX7_admit_22 rfl (lv_at hl 0 rfl) ?_
          refine lv_dup (pc := 23) hx hb dX7_admit_23 rfl ?_
          refine va_get (pc := 24) (ci := 7) (v := .int x1) (C := RX7) (T := TX7) (N := 11) hx hb hts iX7 hown hK hP 0 rfl rfl 8 (by decide) (hts _ tw_254) (fun _ h9 => h9) rfl dX7_admit_24 ?_
          refine lv_iconst (pc := 27) (v := 1) hx hb dX7_admit_27 (by decide) ?_
          refine b_isub (pc := 28) hx hb rfl tI_1 (by first | exact (om_1238 c_1) | ((first | omega | (unfold zBd at *; omega)))) (by first | exact (om_1239 c_1) | ((first | omega | (unfold zBd at *; omega)))) dX7_admit_28 (fun x_26 ex_26 => ?_)
          refine va_put (pc := 29) (ci := 7) (v := .int x_26) (ty := .int) (C := RX7) (T := TX7) (N := 11) hx hb hts iX7 tyX7 tyX7_ok nmX7 hown hK hP hD hS 0 rfl rfl 8 (by decide) (hts _ tw_254) (fun _ h9 => h9) rfl (by decide +kernel) rfl rfl (Nat.le_of_ble_eq_true rfl) dX7_admit_29 (fun H locs hP hD hS => ?_)
          replace hP : va_P D gcl (zS_32 cB cC cI cJ a0 a1 a2 a3 a4 a5 a6 a7 a8 x_26 y1 x2 a2 g0 a3 f0) H := hP
          replace hD : va_D A (zS_32 cB cC cI cJ a0 a1 a2 a3 a4 a5 a6 a7 a8 x_26 y1 x2 a2 g0 a3 f0) := hD
          refine lv_aload_n (pc := 32) hx hb dX7_admit_32 rfl (lv_at hl 0 rfl) ?_
          refine va_get (pc := 33) (ci := 7) (v := .int x_26) (C := RX7) (T := TX7) (N := 11) hx hb hts iX7 hown hK hP 0 rfl rfl 8 (by decide) (hts _ tw_254) (fun _ h9 => h9) rfl dX7_admit_33 ?_
          refine lv_istore (pc := 36) (lv' := [(4, .int x_26), (0, .ref a0), (1, .int x0), (2, .long y0)]) hx hb dX7_admit_36 hl (by decide) rfl (fun ls hl => ?_)
          have lp_31 : ∀ (n : Nat) (x_27 : Int32) (f_30 : Nat → Int32) (g_29 : Nat → Int64) (H : Heap) (locs : List Loc) (ls : Array Slot), (0 ≤ x_27.toInt ∧ x_27.toInt ≤ 9) → (x_27.toInt + 2147483648).toNat < n → va_P D gcl (zS_32 cB cC cI cJ a0 a1 a2 a3 a4 a5 a6 a7 a8 x_26 y1 x2 a2 g_29 a3 f_30) H → va_D A (zS_32 cB cC cI cJ a0 a1 a2 a3 a4 a5 a6 a7 a8 x_26 y1 x2 a2 g_29 a3 f_30) → va_S A s.heap H locs → lv_has ls 5 [(4, .int x_27), (0, .ref a0), (1, .int x0), (2, .long y0)] → W p l e ({ frames := 0, cells := 0, slots := 0, locals := 0 }) s m args below meth c H locs 0 0 Q (F0 m 38 ls []) := by
            intro n
            induction n with
            | zero => intro x_27 f_30 g_29 H locs ls hi_28 hmu; exact absurd hmu (Nat.not_lt_zero _)
            | succ n ih_lp_31 =>
              intro x_27 f_30 g_29 H locs ls hi_28 hmu_lp_31 hP hD hS hl
              refine lv_iload (pc := 38) hx hb dX7_admit_38 (lv_at hl 0 rfl) ?_
              refine b_if_le (pc := 40) (tgt := 95) hx hb rfl  dX7_admit_40 (by decide) (fun c_32 => ?_) (fun c_32 => ?_)
              ·
                as_aux_lemma =>
                  refine lv_aload_n (pc := 95) hx hb dX7_admit_95 rfl (lv_at hl 1 rfl) ?_
                  refine va_get (pc := 96) (ci := 7) (v := .ref a2) (C := RX7) (T := TX7) (N := 11) hx hb hts iX7 hown hK hP 0 rfl rfl 1 (by decide) (hts _ tw_243) (fun _ h9 => h9) rfl dX7_admit_96 ?_
                  refine lv_iload (pc := 99) hx hb dX7_admit_99 (lv_at hl 0 rfl) ?_
                  refine lv_lload_n (pc := 101) hx hb dX7_admit_101 rfl (lv_at hl 3 rfl) ?_
                  refine g_lastore (pc := 102) hx hb hK hP hD hS 1 3 rfl rfl (n_in rfl (by first | exact (om_0 hi_28.1) | ((first | omega | (unfold zBd at *; omega)))) (by first | exact (om_1228 c_32) | ((first | omega | (unfold zBd at *; omega))))) dX7_admit_102 (fun g_33 H locs hP hD hS => ?_)
                  replace hP : va_P D gcl (zS_32 cB cC cI cJ a0 a1 a2 a3 a4 a5 a6 a7 a8 x_26 y1 x2 a2 g_33 a3 f_30) H := hP
                  replace hD : va_D A (zS_32 cB cC cI cJ a0 a1 a2 a3 a4 a5 a6 a7 a8 x_26 y1 x2 a2 g_33 a3 f_30) := hD
                  refine lv_aload_n (pc := 103) hx hb dX7_admit_103 rfl (lv_at hl 1 rfl) ?_
                  refine va_get (pc := 104) (ci := 7) (v := .ref a3) (C := RX7) (T := TX7) (N := 11) hx hb hts iX7 hown hK hP 0 rfl rfl 2 (by decide) (hts _ tw_245) (fun _ h9 => h9) rfl dX7_admit_104 ?_
                  refine lv_iload (pc := 107) hx hb dX7_admit_107 (lv_at hl 0 rfl) ?_
                  refine lv_iload_n (pc := 109) hx hb dX7_admit_109 rfl (lv_at hl 2 rfl) ?_
                  refine g_iastore (pc := 110) hx hb hK hP hD hS 2 2 rfl rfl (n_in rfl (by first | exact (om_0 hi_28.1) | ((first | omega | (unfold zBd at *; omega)))) (by first | exact (om_1228 c_32) | ((first | omega | (unfold zBd at *; omega))))) dX7_admit_110 (fun f_34 H locs hP hD hS => ?_)
                  replace hP : va_P D gcl (zS_32 cB cC cI cJ a0 a1 a2 a3 a4 a5 a6 a7 a8 x_26 y1 x2 a2 g_33 a3 f_34) H := hP
                  replace hD : va_D A (zS_32 cB cC cI cJ a0 a1 a2 a3 a4 a5 a6 a7 a8 x_26 y1 x2 a2 g_33 a3 f_34) := hD
                  as_aux_lemma =>
                    refine lv_aload_n (pc := 111) hx hb dX7_admit_111 rfl (lv_at hl 1 rfl) ?_
                    refine lv_dup (pc := 112) hx hb dX7_admit_112 rfl ?_
                    refine va_get (pc := 113) (ci := 7) (v := .int x_26) (C := RX7) (T := TX7) (N := 11) hx hb hts iX7 hown hK hP 0 rfl rfl 8 (by decide) (hts _ tw_254) (fun _ h9 => h9) rfl dX7_admit_113 ?_
                    refine lv_iconst (pc := 116) (v := 1) hx hb dX7_admit_116 (by decide) ?_
                    refine b_iadd (pc := 117) hx hb rfl tI_1 (by first | exact (om_1240 ex_26 c_1) | ((first | omega | (unfold zBd at *; omega)))) (by first | exact (om_1241 ex_26 c_1) | ((first | omega | (unfold zBd at *; omega)))) dX7_admit_117 (fun x_35 ex_35 => ?_)
                    refine va_put (pc := 118) (ci := 7) (v := .int x_35) (ty := .int) (C := RX7) (T := TX7) (N := 11) hx hb hts iX7 tyX7 tyX7_ok nmX7 hown hK hP hD hS 0 rfl rfl 8 (by decide) (hts _ tw_254) (fun _ h9 => h9) rfl (by decide +kernel) rfl rfl (Nat.le_of_ble_eq_true rfl) dX7_admit_118 (fun H locs hP hD hS => ?_)
                    replace hP : va_P D gcl (zS_32 cB cC cI cJ a0 a1 a2 a3 a4 a5 a6 a7 a8 x_35 y1 x2 a2 g_33 a3 f_34) H := hP
                    replace hD : va_D A (zS_32 cB cC cI cJ a0 a1 a2 a3 a4 a5 a6 a7 a8 x_35 y1 x2 a2 g_33 a3 f_34) := hD
                    exact hret ((fun _ => 0), (fun k => [f_34].getD k (fun _ => 0)), (fun k => [g_33].getD k (fun _ => 0)), (fun k => [x_35].getD k 0), (fun _ => 0)) dX7_admit_121 (show (0 ≤ (x_35 : Int32).toInt ∧ (x_35 : Int32).toInt ≤ 10) from (by first | exact (om_1242 ex_35 ex_26 c_1) | ((first | omega | (unfold zBd at *; omega))))) (g_psub (wc := (zS_32 cB cC cI cJ a0 a1 a2 a3 a4 a5 a6 a7 a8 x_35 y1 x2 a2 g_33 a3 f_34)) hP [0, 1, 2] rfl) (hD.sub (ws' := (zS_32 cB cC cI cJ a0 a1 a2 a3 a4 a5 a6 a7 a8 x_35 y1 x2 a2 g_33 a3 f_34)) [0, 1, 2] (by decide) rfl) hS
              ·
                as_aux_lemma =>
                  refine lv_aload_n (pc := 43) hx hb dX7_admit_43 rfl (lv_at hl 1 rfl) ?_
                  refine va_get (pc := 44) (ci := 7) (v := .ref a2) (C := RX7) (T := TX7) (N := 11) hx hb hts iX7 hown hK hP 0 rfl rfl 1 (by decide) (hts _ tw_243) (fun _ h9 => h9) rfl dX7_admit_44 ?_
                  refine lv_iload (pc := 47) hx hb dX7_admit_47 (lv_at hl 0 rfl) ?_
                  refine lv_iconst (pc := 49) (v := 1) hx hb dX7_admit_49 (by decide) ?_
                  refine b_isub (pc := 50) hx hb rfl tI_1 (by first | exact (om_693 c_32) | ((first | omega | (unfold zBd at *; omega)))) (by first | exact (om_1230 hi_28.2) | ((first | omega | (unfold zBd at *; omega)))) dX7_admit_50 (fun x_36 ex_36 => ?_)
                  refine va_lald (pc := 51) hx hb hK hP 1 3 rfl rfl (n_in rfl (by first | exact (om_694 ex_36 c_32) | ((first | omega | (unfold zBd at *; omega)))) (by first | exact (om_1231 ex_36 hi_28.2) | ((first | omega | (unfold zBd at *; omega))))) dX7_admit_51 ?_
                  refine lv_topl (fun y_37 ey_37 => ?_)
                  have ry_37 := n_rngL y_37
                  refine lv_lload_n (pc := 52) hx hb dX7_admit_52 rfl (lv_at hl 3 rfl) ?_
                  refine b_lcmp_le (pc := 53) (tgt := 95) hx hb rfl rfl dX7_admit_53 dX7_admit_54 (by decide) (fun c_38 => ?_) (fun c_38 => ?_)
                  ·
                    as_aux_lemma =>
                      refine lv_aload_n (pc := 95) hx hb dX7_admit_95 rfl (lv_at hl 1 rfl) ?_
                      refine va_get (pc := 96) (ci := 7) (v := .ref a2) (C := RX7) (T := TX7) (N := 11) hx hb hts iX7 hown hK hP 0 rfl rfl 1 (by decide) (hts _ tw_243) (fun _ h9 => h9) rfl dX7_admit_96 ?_
                      refine lv_iload (pc := 99) hx hb dX7_admit_99 (lv_at hl 0 rfl) ?_
                      refine lv_lload_n (pc := 101) hx hb dX7_admit_101 rfl (lv_at hl 3 rfl) ?_
                      refine g_lastore (pc := 102) hx hb hK hP hD hS 1 3 rfl rfl (n_in rfl (by first | exact (om_1232 c_32) | ((first | omega | (unfold zBd at *; omega)))) (by first | exact (om_1233 hi_28.2) | ((first | omega | (unfold zBd at *; omega))))) dX7_admit_102 (fun g_39 H locs hP hD hS => ?_)
                      replace hP : va_P D gcl (zS_32 cB cC cI cJ a0 a1 a2 a3 a4 a5 a6 a7 a8 x_26 y1 x2 a2 g_39 a3 f_30) H := hP
                      replace hD : va_D A (zS_32 cB cC cI cJ a0 a1 a2 a3 a4 a5 a6 a7 a8 x_26 y1 x2 a2 g_39 a3 f_30) := hD
                      refine lv_aload_n (pc := 103) hx hb dX7_admit_103 rfl (lv_at hl 1 rfl) ?_
                      refine va_get (pc := 104) (ci := 7) (v := .ref a3) (C := RX7) (T := TX7) (N := 11) hx hb hts iX7 hown hK hP 0 rfl rfl 2 (by decide) (hts _ tw_245) (fun _ h9 => h9) rfl dX7_admit_104 ?_
                      refine lv_iload (pc := 107) hx hb dX7_admit_107 (lv_at hl 0 rfl) ?_
                      refine lv_iload_n (pc := 109) hx hb dX7_admit_109 rfl (lv_at hl 2 rfl) ?_
                      refine g_iastore (pc := 110) hx hb hK hP hD hS 2 2 rfl rfl (n_in rfl (by first | exact (om_1232 c_32) | ((first | omega | (unfold zBd at *; omega)))) (by first | exact (om_1233 hi_28.2) | ((first | omega | (unfold zBd at *; omega))))) dX7_admit_110 (fun f_40 H locs hP hD hS => ?_)
                      replace hP : va_P D gcl (zS_32 cB cC cI cJ a0 a1 a2 a3 a4 a5 a6 a7 a8 x_26 y1 x2 a2 g_39 a3 f_40) H := hP
                      replace hD : va_D A (zS_32 cB cC cI cJ a0 a1 a2 a3 a4 a5 a6 a7 a8 x_26 y1 x2 a2 g_39 a3 f_40) := hD
                      as_aux_lemma =>
                        refine lv_aload_n (pc := 111) hx hb dX7_admit_111 rfl (lv_at hl 1 rfl) ?_
                        refine lv_dup (pc := 112) hx hb dX7_admit_112 rfl ?_
                        refine va_get (pc := 113) (ci := 7) (v := .int x_26) (C := RX7) (T := TX7) (N := 11) hx hb hts iX7 hown hK hP 0 rfl rfl 8 (by decide) (hts _ tw_254) (fun _ h9 => h9) rfl dX7_admit_113 ?_
                        refine lv_iconst (pc := 116) (v := 1) hx hb dX7_admit_116 (by decide) ?_
                        refine b_iadd (pc := 117) hx hb rfl tI_1 (by first | exact (om_1240 ex_26 c_1) | ((first | omega | (unfold zBd at *; omega)))) (by first | exact (om_1241 ex_26 c_1) | ((first | omega | (unfold zBd at *; omega)))) dX7_admit_117 (fun x_41 ex_41 => ?_)
                        refine va_put (pc := 118) (ci := 7) (v := .int x_41) (ty := .int) (C := RX7) (T := TX7) (N := 11) hx hb hts iX7 tyX7 tyX7_ok nmX7 hown hK hP hD hS 0 rfl rfl 8 (by decide) (hts _ tw_254) (fun _ h9 => h9) rfl (by decide +kernel) rfl rfl (Nat.le_of_ble_eq_true rfl) dX7_admit_118 (fun H locs hP hD hS => ?_)
                        replace hP : va_P D gcl (zS_32 cB cC cI cJ a0 a1 a2 a3 a4 a5 a6 a7 a8 x_41 y1 x2 a2 g_39 a3 f_40) H := hP
                        replace hD : va_D A (zS_32 cB cC cI cJ a0 a1 a2 a3 a4 a5 a6 a7 a8 x_41 y1 x2 a2 g_39 a3 f_40) := hD
                        exact hret ((fun _ => 0), (fun k => [f_40].getD k (fun _ => 0)), (fun k => [g_39].getD k (fun _ => 0)), (fun k => [x_41].getD k 0), (fun _ => 0)) dX7_admit_121 (show (0 ≤ (x_41 : Int32).toInt ∧ (x_41 : Int32).toInt ≤ 10) from (by first | exact (om_1242 ex_41 ex_26 c_1) | ((first | omega | (unfold zBd at *; omega))))) (g_psub (wc := (zS_32 cB cC cI cJ a0 a1 a2 a3 a4 a5 a6 a7 a8 x_41 y1 x2 a2 g_39 a3 f_40)) hP [0, 1, 2] rfl) (hD.sub (ws' := (zS_32 cB cC cI cJ a0 a1 a2 a3 a4 a5 a6 a7 a8 x_41 y1 x2 a2 g_39 a3 f_40)) [0, 1, 2] (by decide) rfl) hS
                  ·
                    as_aux_lemma =>
                      refine lv_aload_n (pc := 57) hx hb dX7_admit_57 rfl (lv_at hl 1 rfl) ?_
                      refine va_get (pc := 58) (ci := 7) (v := .ref a2) (C := RX7) (T := TX7) (N := 11) hx hb hts iX7 hown hK hP 0 rfl rfl 1 (by decide) (hts _ tw_243) (fun _ h9 => h9) rfl dX7_admit_58 ?_
                      refine lv_iload (pc := 61) hx hb dX7_admit_61 (lv_at hl 0 rfl) ?_
                      refine lv_aload_n (pc := 63) hx hb dX7_admit_63 rfl (lv_at hl 1 rfl) ?_
                      refine va_get (pc := 64) (ci := 7) (v := .ref a2) (C := RX7) (T := TX7) (N := 11) hx hb hts iX7 hown hK hP 0 rfl rfl 1 (by decide) (hts _ tw_243) (fun _ h9 => h9) rfl dX7_admit_64 ?_
                      refine lv_iload (pc := 67) hx hb dX7_admit_67 (lv_at hl 0 rfl) ?_
                      refine lv_iconst (pc := 69) (v := 1) hx hb dX7_admit_69 (by decide) ?_
                      refine b_isub (pc := 70) hx hb rfl tI_1 (by first | exact (om_693 c_32) | ((first | omega | (unfold zBd at *; omega)))) (by first | exact (om_1230 hi_28.2) | ((first | omega | (unfold zBd at *; omega)))) dX7_admit_70 (fun x_42 ex_42 => ?_)
                      refine va_lald (pc := 71) hx hb hK hP 1 3 rfl rfl (n_in rfl (by first | exact (om_694 ex_42 c_32) | ((first | omega | (unfold zBd at *; omega)))) (by first | exact (om_1231 ex_42 hi_28.2) | ((first | omega | (unfold zBd at *; omega))))) dX7_admit_71 ?_
                      refine lv_topl (fun y_43 ey_43 => ?_)
                      have ry_43 := n_rngL y_43
                      as_aux_lemma =>
                        refine g_lastore (pc := 72) hx hb hK hP hD hS 1 3 rfl rfl (n_in rfl (by first | exact (om_1232 c_32) | ((first | omega | (unfold zBd at *; omega)))) (by first | exact (om_1233 hi_28.2) | ((first | omega | (unfold zBd at *; omega))))) dX7_admit_72 (fun g_44 H locs hP hD hS => ?_)
                        replace hP : va_P D gcl (zS_32 cB cC cI cJ a0 a1 a2 a3 a4 a5 a6 a7 a8 x_26 y1 x2 a2 g_44 a3 f_30) H := hP
                        replace hD : va_D A (zS_32 cB cC cI cJ a0 a1 a2 a3 a4 a5 a6 a7 a8 x_26 y1 x2 a2 g_44 a3 f_30) := hD
                        refine lv_aload_n (pc := 73) hx hb dX7_admit_73 rfl (lv_at hl 1 rfl) ?_
                        refine va_get (pc := 74) (ci := 7) (v := .ref a3) (C := RX7) (T := TX7) (N := 11) hx hb hts iX7 hown hK hP 0 rfl rfl 2 (by decide) (hts _ tw_245) (fun _ h9 => h9) rfl dX7_admit_74 ?_
                        refine lv_iload (pc := 77) hx hb dX7_admit_77 (lv_at hl 0 rfl) ?_
                        refine lv_aload_n (pc := 79) hx hb dX7_admit_79 rfl (lv_at hl 1 rfl) ?_
                        refine va_get (pc := 80) (ci := 7) (v := .ref a3) (C := RX7) (T := TX7) (N := 11) hx hb hts iX7 hown hK hP 0 rfl rfl 2 (by decide) (hts _ tw_245) (fun _ h9 => h9) rfl dX7_admit_80 ?_
                        refine lv_iload (pc := 83) hx hb dX7_admit_83 (lv_at hl 0 rfl) ?_
                        refine lv_iconst (pc := 85) (v := 1) hx hb dX7_admit_85 (by decide) ?_
                        refine b_isub (pc := 86) hx hb rfl tI_1 (by first | exact (om_693 c_32) | ((first | omega | (unfold zBd at *; omega)))) (by first | exact (om_1230 hi_28.2) | ((first | omega | (unfold zBd at *; omega)))) dX7_admit_86 (fun x_45 ex_45 => ?_)
                        refine va_iald (pc := 87) hx hb hK hP 2 2 rfl rfl (n_in rfl (by first | exact (om_694 ex_45 c_32) | ((first | omega | (unfold zBd at *; omega)))) (by first | exact (om_1231 ex_45 hi_28.2) | ((first | omega | (unfold zBd at *; omega))))) dX7_admit_87 ?_
                        as_aux_lemma =>
                          refine lv_topi (fun x_46 ex_46 => ?_)
                          have rx_46 : zBd x_46.toInt (-2147483648) 2147483647 := n_rng x_46
                          refine g_iastore (pc := 88) hx hb hK hP hD hS 2 2 rfl rfl (n_in rfl (by first | exact (om_1232 c_32) | ((first | omega | (unfold zBd at *; omega)))) (by first | exact (om_1233 hi_28.2) | ((first | omega | (unfold zBd at *; omega))))) dX7_admit_88 (fun f_47 H locs hP hD hS => ?_)
                          replace hP : va_P D gcl (zS_32 cB cC cI cJ a0 a1 a2 a3 a4 a5 a6 a7 a8 x_26 y1 x2 a2 g_44 a3 f_47) H := hP
                          replace hD : va_D A (zS_32 cB cC cI cJ a0 a1 a2 a3 a4 a5 a6 a7 a8 x_26 y1 x2 a2 g_44 a3 f_47) := hD
                          refine b_iinc (pc := 89) hx hb dX7_admit_89 hl (k := 0) rfl rfl tI_m1 (by first | exact (om_1234 c_32) | ((first | omega | (unfold zBd at *; omega)))) (by first | exact (om_1235 hi_28.2) | ((first | omega | (unfold zBd at *; omega)))) (by decide) (fun x_48 ex_48 ls hl => ?_)
                          replace hl : lv_has ls 5 [(4, .int x_48), (0, .ref a0), (1, .int x0), (2, .long y0)] := hl
                          refine lv_goto (pc := 92) (tgt := 38) hx hb dX7_admit_92 (by decide) ?_
                          exact ih_lp_31 x_48 f_47 g_44 _ _ ls (by first | exact (om_1236 ex_48 c_32 hi_28.2) | ((first | omega | (unfold zBd at *; omega)))) (by (first | omega | (unfold zBd at *; omega))) hP hD hS (lv_sub hl [0, 1, 2, 3] rfl)
          exact lp_31 _ x_26 f0 g0 _ _ ls (by first | exact (om_1243 ex_26 c_1) | ((first | omega | (unfold zBd at *; omega)))) (Nat.lt_succ_self _) hP hD hS (lv_sub hl [0, 1, 2, 3] rfl)
      ·
        as_aux_lemma =>
          exact hret ((fun _ => 0), (fun k => [f0].getD k (fun _ => 0)), (fun k => [g0].getD k (fun _ => 0)), (fun k => [x1].getD k 0), (fun _ => 0)) dX7_admit_21 (show (0 ≤ (x1 : Int32).toInt ∧ (x1 : Int32).toInt ≤ 10) from h_x1) (g_psub (wc := (zS_32 cB cC cI cJ a0 a1 a2 a3 a4 a5 a6 a7 a8 x1 y1 x2 a2 g0 a3 f0)) hP [0, 1, 2] rfl) (hD.sub (ws' := (zS_32 cB cC cI cJ a0 a1 a2 a3 a4 a5 a6 a7 a8 x1 y1 x2 a2 g0 a3 f0)) [0, 1, 2] (by decide) rfl) hS
theorem om_1244 {a b : Int} (h0 : ((-1) ≤ a)) (h1 : (a ≤ 8)) (h2 : (0 ≤ b)) (h3 : (b ≤ 4)) : (((((-1) ≤ a ∧ a ≤ 8) ∧ (0 ≤ b ∧ b ≤ 4)))) := by omega
theorem om_1245 {a b : Int} (h0 : (0 ≤ a)) (h1 : (a < b)) (h2 : (b ≤ 4)) : ((0 ≤ a ∧ a ≤ 4)) := by omega
theorem om_1246 {a b : Int} (h0 : (0 ≤ a)) (h1 : (a < b)) (h2 : (b ≤ 8)) : ((0 ≤ a ∧ a ≤ 7)) := by omega
theorem om_1247 {a : Int} (h0 : ((-9223372036854775808) ≤ a)) : (-9223372036854775808 ≤ a + 0) := by omega
theorem om_1248 {a : Int} (h0 : (a ≤ 9223372036854775807)) : (a + 0 ≤ 9223372036854775807) := by omega
set_option maxHeartbeats 4000000 in
set_option maxRecDepth 100000 in
theorem k_X7_learnLine (l : Launch) (D : va_G) (cB cC cI cJ : ClassId) (sz : Nat) (a0 a1 a2 a3 a4 a5 a6 a7 a8 a9 a10 a11 a12 a13 a14 a15 : Nat) (x0 x1 x2 x3 x4 : Int32) (y0 : Int64) (f0 f1 f2 f3 : Nat → Int32) (g0 g1 g2 g3 g4 g5 : Nat → Int64) (hp2 : ((-1) ≤ x1.toInt ∧ x1.toInt ≤ 8)) (h_x2 : zBd x2.toInt 0 10) (h_x3 : zBd x3.toInt 0 1) (h_x4 : zBd x4.toInt 0 4) (hf_f0 : (∀ j, 0 ≤ (f0 j).toInt ∧ (f0 j).toInt ≤ 7)) : Met l yX7_learnLine (.code yX7_learnLine cX7_learnLine 12 none :: lw_gd) ({ frames := 2, cells := 0, slots := 0, locals := 49 }) (gPre D [(cB, .byte), (cC, .char), (cI, .int), (cJ, .long)] [.ref a0, .int x0, .int x1] (zS_79 cB cC cI cJ a0 a1 a2 a3 a4 a5 a6 a7 a8 x2 y0 x3 a1 a9 a10 a11 a12 a13 a14 a15 x4 a15 f0 a4 g0 a5 g1 a12 f1 a13 f2 a10 g2 a9 g3 a11 g4 a2 g5 a3 f3) sz) (va_Qv (fun u => ((((-1) ≤ x1.toInt ∧ x1.toInt ≤ 8) ∧ (0 ≤ x4.toInt ∧ x4.toInt ≤ 4))) ∧ (0 ≤ (u.2.2.2.1 0).toInt ∧ (u.2.2.2.1 0).toInt ≤ 10)) (gB D (va_A (zS_79 cB cC cI cJ a0 a1 a2 a3 a4 a5 a6 a7 a8 x2 y0 x3 a1 a9 a10 a11 a12 a13 a14 a15 x4 a15 f0 a4 g0 a5 g1 a12 f1 a13 f2 a10 g2 a9 g3 a11 g4 a2 g5 a3 f3) sz) (fun u : gEx => (zS_79 cB cC cI cJ a0 a1 a2 a3 a4 a5 a6 a7 a8 (u.2.2.2.1 0) (u.2.2.2.2 0) x3 a1 a9 a10 a11 a12 a13 a14 a15 x4 a15 f0 a4 (u.2.2.1 0) a5 (u.2.2.1 1) a12 f1 a13 f2 a10 g2 a9 g3 a11 g4 a2 (u.2.2.1 2) a3 (u.2.1 0)))) (va_A (zS_79 cB cC cI cJ a0 a1 a2 a3 a4 a5 a6 a7 a8 x2 y0 x3 a1 a9 a10 a11 a12 a13 a14 a15 x4 a15 f0 a4 g0 a5 g1 a12 f1 a13 f2 a10 g2 a9 g3 a11 g4 a2 g5 a3 f3) sz)) 0 0 (va_A (zS_79 cB cC cI cJ a0 a1 a2 a3 a4 a5 a6 a7 a8 x2 y0 x3 a1 a9 a10 a11 a12 a13 a14 a15 x4 a15 f0 a4 g0 a5 g1 a12 f1 a13 f2 a10 g2 a9 g3 a11 g4 a2 g5 a3 f3) sz) := by
  refine gOf_v (by decide +kernel) (Nat.le_of_ble_eq_true rfl) ?_
  intro p e s m args below meth c ls A Q hx hb hts hown hml hN hK hP hD hA hl hret
  replace hown : s.vm.findClass RX7 = some m.cls := hown
  have hS : va_S A s.heap s.heap [] := va_S.rf
  replace hP : va_P D gcl (zS_79 cB cC cI cJ a0 a1 a2 a3 a4 a5 a6 a7 a8 x2 y0 x3 a1 a9 a10 a11 a12 a13 a14 a15 x4 a15 f0 a4 g0 a5 g1 a12 f1 a13 f2 a10 g2 a9 g3 a11 g4 a2 g5 a3 f3) s.heap := hP
  replace hl : lv_has ls 12 [(0, .ref a0), (1, .int x0), (2, .int x1)] := hl
  have rx0 : zBd x0.toInt (-2147483648) 2147483647 := n_rng x0
  have ry0 := n_rngL y0
  refine lv_ldc2 (pc := 0) hx hb hown (hts _ tw_874) dX7_learnLine_0 ?_
  refine lv_lstore_n (pc := 3) (lv' := [(3, .long 1000000000000000), (0, .ref a0), (1, .int x0), (2, .int x1)]) hx hb dX7_learnLine_3 rfl hl (by decide) rfl (fun ls hl => ?_)
  refine lv_lconst (pc := 4) (v := 0) hx hb dX7_learnLine_4 (by decide) ?_
  refine lv_lstore (pc := 5) (lv' := [(5, .long 0), (3, .long 1000000000000000), (0, .ref a0), (1, .int x0), (2, .int x1)]) hx hb dX7_learnLine_5 hl (by decide) rfl (fun ls hl => ?_)
  refine lv_iconst (pc := 7) (v := 0) hx hb dX7_learnLine_7 (by decide) ?_
  refine lv_istore (pc := 8) (lv' := [(7, .int 0), (5, .long 0), (3, .long 1000000000000000), (0, .ref a0), (1, .int x0), (2, .int x1)]) hx hb dX7_learnLine_8 hl (by decide) rfl (fun ls hl => ?_)
  have lp_13 : ∀ (n : Nat) (x_1 x_7 : Int32) (y_3 y_5 : Int64) (f_12 : Nat → Int32) (g_9 g_10 g_11 : Nat → Int64) (H : Heap) (locs : List Loc) (ls : Array Slot), (0 ≤ x_1.toInt ∧ x_1.toInt ≤ 2147483647) → (0 ≤ x_7.toInt ∧ x_7.toInt ≤ 10) → (2147483647 - x_1.toInt).toNat < n → va_P D gcl (zS_79 cB cC cI cJ a0 a1 a2 a3 a4 a5 a6 a7 a8 x_7 y0 x3 a1 a9 a10 a11 a12 a13 a14 a15 x4 a15 f0 a4 g_9 a5 g_10 a12 f1 a13 f2 a10 g2 a9 g3 a11 g4 a2 g_11 a3 f_12) H → va_D A (zS_79 cB cC cI cJ a0 a1 a2 a3 a4 a5 a6 a7 a8 x_7 y0 x3 a1 a9 a10 a11 a12 a13 a14 a15 x4 a15 f0 a4 g_9 a5 g_10 a12 f1 a13 f2 a10 g2 a9 g3 a11 g4 a2 g_11 a3 f_12) → va_S A s.heap H locs → lv_has ls 12 [(7, .int x_1), (5, .long y_3), (3, .long y_5), (0, .ref a0), (1, .int x0), (2, .int x1)] → W p l e ({ frames := 2, cells := 0, slots := 0, locals := 49 }) s m args below meth c H locs 0 0 Q (F0 m 10 ls []) := by
    intro n
    induction n with
    | zero => intro x_1 x_7 y_3 y_5 f_12 g_9 g_10 g_11 H locs ls hi_2 hi_8 hmu; exact absurd hmu (Nat.not_lt_zero _)
    | succ n ih_lp_13 =>
      intro x_1 x_7 y_3 y_5 f_12 g_9 g_10 g_11 H locs ls hi_2 hi_8 hmu_lp_13 hP hD hS hl
      have hi_4 := n_rngL y_3
      have hi_6 := n_rngL y_5
      refine lv_iload (pc := 10) hx hb dX7_learnLine_10 (lv_at hl 0 rfl) ?_
      refine lv_iload_n (pc := 12) hx hb dX7_learnLine_12 rfl (lv_at hl 5 rfl) ?_
      refine b_icmp_ge (pc := 13) (tgt := 95) hx hb rfl rfl  dX7_learnLine_13 (by decide) (fun c_14 => ?_) (fun c_14 => ?_)
      ·
        refine lv_iconst (pc := 95) (v := 0) hx hb dX7_learnLine_95 (by decide) ?_
        refine lv_istore (pc := 96) (lv' := [(7, .int 0), (5, .long y_3), (3, .long y_5), (0, .ref a0), (1, .int x0), (2, .int x1)]) hx hb dX7_learnLine_96 hl (by decide) rfl (fun ls hl => ?_)
        have lp_19 : ∀ (n : Nat) (x_15 : Int32) (g_17 g_18 : Nat → Int64) (H : Heap) (locs : List Loc) (ls : Array Slot), (0 ≤ x_15.toInt ∧ x_15.toInt ≤ 2147483647) → (2147483647 - x_15.toInt).toNat < n → va_P D gcl (zS_79 cB cC cI cJ a0 a1 a2 a3 a4 a5 a6 a7 a8 x_7 y0 x3 a1 a9 a10 a11 a12 a13 a14 a15 x4 a15 f0 a4 g_17 a5 g_18 a12 f1 a13 f2 a10 g2 a9 g3 a11 g4 a2 g_11 a3 f_12) H → va_D A (zS_79 cB cC cI cJ a0 a1 a2 a3 a4 a5 a6 a7 a8 x_7 y0 x3 a1 a9 a10 a11 a12 a13 a14 a15 x4 a15 f0 a4 g_17 a5 g_18 a12 f1 a13 f2 a10 g2 a9 g3 a11 g4 a2 g_11 a3 f_12) → va_S A s.heap H locs → lv_has ls 12 [(7, .int x_15), (5, .long y_3), (3, .long y_5), (0, .ref a0), (1, .int x0), (2, .int x1)] → W p l e ({ frames := 2, cells := 0, slots := 0, locals := 49 }) s m args below meth c H locs 0 0 Q (F0 m 98 ls []) := by
          intro n
          induction n with
          | zero => intro x_15 g_17 g_18 H locs ls hi_16 hmu; exact absurd hmu (Nat.not_lt_zero _)
          | succ n ih_lp_19 =>
            intro x_15 g_17 g_18 H locs ls hi_16 hmu_lp_19 hP hD hS hl
            refine lv_iload (pc := 98) hx hb dX7_learnLine_98 (lv_at hl 0 rfl) ?_
            refine lv_aload_n (pc := 100) hx hb dX7_learnLine_100 rfl (lv_at hl 3 rfl) ?_
            refine va_get (pc := 101) (ci := 7) (v := .ref a1) (C := RX7) (T := TX7) (N := 11) hx hb hts iX7 hown hK hP 0 rfl rfl 0 (by decide) (hts _ tw_242) (fun _ h9 => h9) rfl dX7_learnLine_101 ?_
            refine va_getN (pc := 104) (ci := 10) (v := .int x4) (C := RX10) (T := TX10) (N := 8) hx hb hts iX10 hown hK hP 1 rfl rfl 7 (by decide) (va_Nw.use rfl (hN _ tn_222)) (fun _ h9 => h9) rfl dX7_learnLine_104 ?_
            refine b_icmp_ge (pc := 107) (tgt := 135) hx hb rfl rfl  dX7_learnLine_107 (by decide) (fun c_20 => ?_) (fun c_20 => ?_)
            ·
              refine lv_aload_n (pc := 135) hx hb dX7_learnLine_135 rfl (lv_at hl 3 rfl) ?_
              refine lv_dup (pc := 136) hx hb dX7_learnLine_136 rfl ?_
              refine va_get (pc := 137) (ci := 7) (v := .long y0) (C := RX7) (T := TX7) (N := 11) hx hb hts iX7 hown hK hP 0 rfl rfl 9 (by decide) (hts _ tw_256) (fun _ h9 => h9) rfl dX7_learnLine_137 ?_
              refine lv_lload (pc := 140) hx hb dX7_learnLine_140 (lv_at hl 1 rfl) ?_
              refine lv_ladd (pc := 142) hx hb dX7_learnLine_142 ?_
              refine lv_topl (fun y_21 _ => ?_)
              have ry_21 := n_rngL y_21
              refine va_put (pc := 143) (ci := 7) (v := .long y_21) (ty := .long) (C := RX7) (T := TX7) (N := 11) hx hb hts iX7 tyX7 tyX7_ok nmX7 hown hK hP hD hS 0 rfl rfl 9 (by decide) (hts _ tw_256) (fun _ h9 => h9) rfl (by decide +kernel) rfl rfl (Nat.le_of_ble_eq_true rfl) dX7_learnLine_143 (fun H locs hP hD hS => ?_)
              replace hP : va_P D gcl (zS_79 cB cC cI cJ a0 a1 a2 a3 a4 a5 a6 a7 a8 x_7 y_21 x3 a1 a9 a10 a11 a12 a13 a14 a15 x4 a15 f0 a4 g_17 a5 g_18 a12 f1 a13 f2 a10 g2 a9 g3 a11 g4 a2 g_11 a3 f_12) H := hP
              replace hD : va_D A (zS_79 cB cC cI cJ a0 a1 a2 a3 a4 a5 a6 a7 a8 x_7 y_21 x3 a1 a9 a10 a11 a12 a13 a14 a15 x4 a15 f0 a4 g_17 a5 g_18 a12 f1 a13 f2 a10 g2 a9 g3 a11 g4 a2 g_11 a3 f_12) := hD
              exact hret ((fun _ => 0), (fun k => [f_12].getD k (fun _ => 0)), (fun k => [g_17, g_18, g_11].getD k (fun _ => 0)), (fun k => [x_7].getD k 0), (fun k => [y_21].getD k 0)) dX7_learnLine_146 ⟨(show ((((-1) ≤ x1.toInt ∧ x1.toInt ≤ 8) ∧ (0 ≤ x4.toInt ∧ x4.toInt ≤ 4))) from (by first | exact (om_1244 hp2.1 hp2.2 h_x4.1 h_x4.2) | ((first | omega | (unfold zBd at *; omega))))), (show (0 ≤ (x_7 : Int32).toInt ∧ (x_7 : Int32).toInt ≤ 10) from hi_8)⟩ (g_psub (wc := (zS_79 cB cC cI cJ a0 a1 a2 a3 a4 a5 a6 a7 a8 x_7 y_21 x3 a1 a9 a10 a11 a12 a13 a14 a15 x4 a15 f0 a4 g_17 a5 g_18 a12 f1 a13 f2 a10 g2 a9 g3 a11 g4 a2 g_11 a3 f_12)) hP [0, 1, 2, 3, 4, 5, 6, 7, 8, 9, 10, 11] rfl) (hD.sub (ws' := (zS_79 cB cC cI cJ a0 a1 a2 a3 a4 a5 a6 a7 a8 x_7 y_21 x3 a1 a9 a10 a11 a12 a13 a14 a15 x4 a15 f0 a4 g_17 a5 g_18 a12 f1 a13 f2 a10 g2 a9 g3 a11 g4 a2 g_11 a3 f_12)) [0, 1, 2, 3, 4, 5, 6, 7, 8, 9, 10, 11] (by decide) rfl) hS
            ·
              refine lv_aload_n (pc := 110) hx hb dX7_learnLine_110 rfl (lv_at hl 3 rfl) ?_
              refine lv_iload (pc := 111) hx hb dX7_learnLine_111 (lv_at hl 0 rfl) ?_
              refine lv_aload_n (pc := 113) hx hb dX7_learnLine_113 rfl (lv_at hl 3 rfl) ?_
              refine va_get (pc := 114) (ci := 7) (v := .ref a1) (C := RX7) (T := TX7) (N := 11) hx hb hts iX7 hown hK hP 0 rfl rfl 0 (by decide) (hts _ tw_242) (fun _ h9 => h9) rfl dX7_learnLine_114 ?_
              refine va_getN (pc := 117) (ci := 10) (v := .ref a15) (C := RX10) (T := TX10) (N := 8) hx hb hts iX10 hown hK hP 1 rfl rfl 6 (by decide) (va_Nw.use rfl (hN _ tn_218)) (fun _ h9 => h9) rfl dX7_learnLine_117 ?_
              refine lv_iload (pc := 120) hx hb dX7_learnLine_120 (lv_at hl 0 rfl) ?_
              refine va_iald (pc := 122) hx hb hK hP 2 2 rfl rfl (n_in rfl (by first | exact (om_0 hi_16.1) | ((first | omega | (unfold zBd at *; omega)))) (by first | exact (om_1140 c_20 h_x4.2) | ((first | omega | (unfold zBd at *; omega))))) dX7_learnLine_122 ?_
              refine lv_topi (fun x_22 ex_22 => ?_)
              have rx_22 : (0 ≤ x_22.toInt ∧ x_22.toInt ≤ 7) := by rw [ex_22]; exact hf_f0 _
              refine lv_lload_n (pc := 123) hx hb dX7_learnLine_123 rfl (lv_at hl 2 rfl) ?_
              refine lv_lload (pc := 124) hx hb dX7_learnLine_124 (lv_at hl 1 rfl) ?_
              refine gd_v (pc := 126) (wc := (zS_144 cB cC cI cJ a0 a1 a2 a3 a4 a5 a6 a7 a8 x_7 y0 x3 a4 g_17 a5 g_18)) hP hD hS hA [0, 3, 4] rfl (by decide +kernel) (fun _ => by rfl) (fun hPc hDc => va_runV (As := [.int x_15, .int x_22, .long y_5, .long y_3]) (rest := []) ⟨hx, hb, hml, hown, hts⟩ (k_X7_note l D cB cC cI cJ _ a0 a1 a2 a3 a4 a5 a6 a7 a8 x_15 x_22 x_7 x3 y_5 y_3 y0 g_17 g_18 (by first | exact (om_1245 hi_16.1 c_20 h_x4.2) | ((first | omega | (unfold zBd at *; omega)))) rx_22 hi_8 h_x3) ⟨gcwB hts tw_927 tw_7 tw_924 hd_yX7_note ⟨Nat.le_of_ble_eq_true rfl, Nat.le_of_ble_eq_true rfl⟩, hts _ tw_926, hts _ tp_35⟩ ⟨gblind, va_recv hK hPc (ci := 7) (q0 := 0) rfl rfl, (gpreS hPc hK hDc hN).2⟩ rfl rfl hl.1 rfl (lv_room (Nat.le_of_ble_eq_true rfl)) dX7_learnLine_126 ⟨Nat.le_of_ble_eq_true rfl, Nat.le_of_ble_eq_true rfl⟩) (fun u_23 H locs hw_25 hP hD hS => ?_)
              replace hP : va_P D gcl (zS_79 cB cC cI cJ a0 a1 a2 a3 a4 a5 a6 a7 a8 x_7 y0 x3 a1 a9 a10 a11 a12 a13 a14 a15 x4 a15 f0 a4 (u_23.2.2.1 0) a5 (u_23.2.2.1 1) a12 f1 a13 f2 a10 g2 a9 g3 a11 g4 a2 g_11 a3 f_12) H := hP
              replace hD : va_D A (zS_79 cB cC cI cJ a0 a1 a2 a3 a4 a5 a6 a7 a8 x_7 y0 x3 a1 a9 a10 a11 a12 a13 a14 a15 x4 a15 f0 a4 (u_23.2.2.1 0) a5 (u_23.2.2.1 1) a12 f1 a13 f2 a10 g2 a9 g3 a11 g4 a2 g_11 a3 f_12) := hD
              refine b_iinc (pc := 129) hx hb dX7_learnLine_129 hl (k := 0) rfl rfl tI_1 (by first | exact (om_2 hi_16.1) | ((first | omega | (unfold zBd at *; omega)))) (by first | exact (om_1141 c_20 h_x4.2) | ((first | omega | (unfold zBd at *; omega)))) (by decide) (fun x_26 ex_26 ls hl => ?_)
              replace hl : lv_has ls 12 [(7, .int x_26), (5, .long y_3), (3, .long y_5), (0, .ref a0), (1, .int x0), (2, .int x1)] := hl
              refine lv_goto (pc := 132) (tgt := 98) hx hb dX7_learnLine_132 (by decide) ?_
              exact ih_lp_19 x_26 (u_23.2.2.1 0) (u_23.2.2.1 1) _ _ ls (by first | exact (om_1145 ex_26 hi_16.1 c_20 h_x4.2) | ((first | omega | (unfold zBd at *; omega)))) (by (first | omega | (unfold zBd at *; omega))) hP hD hS (lv_sub hl [0, 1, 2, 3, 4, 5] rfl)
        exact lp_19 _ 0 g_9 g_10 _ _ ls (n_c tI_0 (by decide)) (Nat.lt_succ_self _) hP hD hS (lv_sub hl [0, 1, 2, 3, 4, 5] rfl)
      ·
        refine lv_aload_n (pc := 16) hx hb dX7_learnLine_16 rfl (lv_at hl 3 rfl) ?_
        refine va_get (pc := 17) (ci := 7) (v := .ref a1) (C := RX7) (T := TX7) (N := 11) hx hb hts iX7 hown hK hP 0 rfl rfl 0 (by decide) (hts _ tw_242) (fun _ h9 => h9) rfl dX7_learnLine_17 ?_
        refine lv_iload (pc := 20) hx hb dX7_learnLine_20 (lv_at hl 0 rfl) ?_
        refine gd_l (pc := 22) (wc := (zS_94 cB cC cI cJ a1 a9 a10 a11 a12 a13 a14 a15 x4 a12 f1 a13 f2 a10 g2 a9 g3 a11 g4)) hP hD hS hA [1, 5, 6, 7, 8, 9] rfl (by decide +kernel) (fun _ => by rfl) (fun hPc hDc => va_runV (As := [.int x_1]) (rest := []) ⟨hx, hb, hml, hown, hts⟩ (k_X10_squaresAt_8 l D cB cC cI cJ _ a1 a9 a10 a11 a12 a13 a14 a15 x_1 x4 f1 f2 g2 g3 g4 h_x4) ⟨gcwB hts tw_922 tw_8 tw_919 hd_yX10_squaresAt ⟨Nat.le_of_ble_eq_true rfl, Nat.le_of_ble_eq_true rfl⟩, hts _ tw_920, hts _ tw_921⟩ ⟨gblind, va_recv hK hPc (ci := 10) (q0 := 0) rfl rfl, (gpreS hPc hK hDc hN).2⟩ rfl rfl hl.1 rfl (lv_room (Nat.le_of_ble_eq_true rfl)) dX7_learnLine_22 ⟨Nat.le_of_ble_eq_true rfl, Nat.le_of_ble_eq_true rfl⟩) (fun r_28 u_27 H locs hw_29 hP hD hS => ?_)
        replace hP : va_P D gcl (zS_79 cB cC cI cJ a0 a1 a2 a3 a4 a5 a6 a7 a8 x_7 y0 x3 a1 a9 a10 a11 a12 a13 a14 a15 x4 a15 f0 a4 g_9 a5 g_10 a12 f1 a13 f2 a10 g2 a9 g3 a11 g4 a2 g_11 a3 f_12) H := hP
        replace hD : va_D A (zS_79 cB cC cI cJ a0 a1 a2 a3 a4 a5 a6 a7 a8 x_7 y0 x3 a1 a9 a10 a11 a12 a13 a14 a15 x4 a15 f0 a4 g_9 a5 g_10 a12 f1 a13 f2 a10 g2 a9 g3 a11 g4 a2 g_11 a3 f_12) := hD
        have hw_30 : ((((-9223372036854775808) ≤ r_28.toInt ∧ r_28.toInt ≤ 9223372036854775807))) := hw_29
        have rr_28 := n_rngL r_28
        refine lv_lstore (pc := 25) (lv' := [(8, .long r_28), (7, .int x_1), (5, .long y_3), (3, .long y_5), (0, .ref a0), (1, .int x0), (2, .int x1)]) hx hb dX7_learnLine_25 hl (by decide) rfl (fun ls hl => ?_)
        refine lv_lload (pc := 27) hx hb dX7_learnLine_27 (lv_at hl 0 rfl) ?_
        refine lv_lconst (pc := 29) (v := 0) hx hb dX7_learnLine_29 (by decide) ?_
        refine b_lcmp_ge (pc := 30) (tgt := 38) hx hb rfl tL_0 dX7_learnLine_30 dX7_learnLine_31 (by decide) (fun c_31 => ?_) (fun c_31 => ?_)
        ·
          refine lv_ldc2 (pc := 38) hx hb hown (hts _ tw_923) dX7_learnLine_38 ?_
          refine lv_lconst (pc := 41) (v := 1) hx hb dX7_learnLine_41 (by decide) ?_
          refine lv_lload (pc := 42) hx hb dX7_learnLine_42 (lv_at hl 0 rfl) ?_
          refine b_ladd1 (pc := 44) hx hb (by first | exact (om_10 c_31) | ((first | omega | (unfold zBd at *; omega)))) dX7_learnLine_44 (fun y_32 ey_32 => ?_)
          have ry_32 := n_rngL y_32
          refine lv_ldiv (pc := 45) hx hb dX7_learnLine_45 (fun h => by have q := congrArg Int64.toInt h; have k := tL_0; (first | omega | (unfold zBd at *; omega))) ?_
          refine lv_topl (fun y_33 _ => ?_)
          have ry_33 := n_rngL y_33
          refine lv_lstore (pc := 46) (lv' := [(10, .long y_33), (8, .long r_28), (7, .int x_1), (5, .long y_3), (3, .long y_5), (0, .ref a0), (1, .int x0), (2, .int x1)]) hx hb dX7_learnLine_46 hl (by decide) rfl (fun ls hl => ?_)
          refine lv_aload_n (pc := 48) hx hb dX7_learnLine_48 rfl (lv_at hl 5 rfl) ?_
          refine lv_aload_n (pc := 49) hx hb dX7_learnLine_49 rfl (lv_at hl 5 rfl) ?_
          refine va_get (pc := 50) (ci := 7) (v := .ref a1) (C := RX7) (T := TX7) (N := 11) hx hb hts iX7 hown hK hP 0 rfl rfl 0 (by decide) (hts _ tw_242) (fun _ h9 => h9) rfl dX7_learnLine_50 ?_
          refine va_getN (pc := 53) (ci := 10) (v := .int x4) (C := RX10) (T := TX10) (N := 8) hx hb hts iX10 hown hK hP 1 rfl rfl 7 (by decide) (va_Nw.use rfl (hN _ tn_222)) (fun _ h9 => h9) rfl dX7_learnLine_53 ?_
          refine lv_iload (pc := 56) hx hb dX7_learnLine_56 (lv_at hl 2 rfl) ?_
          refine lv_lload (pc := 58) hx hb dX7_learnLine_58 (lv_at hl 1 rfl) ?_
          refine lv_lload (pc := 60) hx hb dX7_learnLine_60 (lv_at hl 0 rfl) ?_
          refine gd_v (pc := 62) (wc := (zS_144 cB cC cI cJ a0 a1 a2 a3 a4 a5 a6 a7 a8 x_7 y0 x3 a4 g_9 a5 g_10)) hP hD hS hA [0, 3, 4] rfl (by decide +kernel) (fun _ => by rfl) (fun hPc hDc => va_runV (As := [.int x4, .int x_1, .long r_28, .long y_33]) (rest := []) ⟨hx, hb, hml, hown, hts⟩ (k_X7_note l D cB cC cI cJ _ a0 a1 a2 a3 a4 a5 a6 a7 a8 x4 x_1 x_7 x3 r_28 y_33 y0 g_9 g_10 h_x4 (by first | exact (om_1246 hi_2.1 c_14 hp2.2) | ((first | omega | (unfold zBd at *; omega)))) hi_8 h_x3) ⟨gcwB hts tw_927 tw_7 tw_924 hd_yX7_note ⟨Nat.le_of_ble_eq_true rfl, Nat.le_of_ble_eq_true rfl⟩, hts _ tw_926, hts _ tp_35⟩ ⟨gblind, va_recv hK hPc (ci := 7) (q0 := 0) rfl rfl, (gpreS hPc hK hDc hN).2⟩ rfl rfl hl.1 rfl (lv_room (Nat.le_of_ble_eq_true rfl)) dX7_learnLine_62 ⟨Nat.le_of_ble_eq_true rfl, Nat.le_of_ble_eq_true rfl⟩) (fun u_34 H locs hw_36 hP hD hS => ?_)
          replace hP : va_P D gcl (zS_79 cB cC cI cJ a0 a1 a2 a3 a4 a5 a6 a7 a8 x_7 y0 x3 a1 a9 a10 a11 a12 a13 a14 a15 x4 a15 f0 a4 (u_34.2.2.1 0) a5 (u_34.2.2.1 1) a12 f1 a13 f2 a10 g2 a9 g3 a11 g4 a2 g_11 a3 f_12) H := hP
          replace hD : va_D A (zS_79 cB cC cI cJ a0 a1 a2 a3 a4 a5 a6 a7 a8 x_7 y0 x3 a1 a9 a10 a11 a12 a13 a14 a15 x4 a15 f0 a4 (u_34.2.2.1 0) a5 (u_34.2.2.1 1) a12 f1 a13 f2 a10 g2 a9 g3 a11 g4 a2 g_11 a3 f_12) := hD
          refine lv_aload_n (pc := 65) hx hb dX7_learnLine_65 rfl (lv_at hl 5 rfl) ?_
          refine lv_iload_n (pc := 66) hx hb dX7_learnLine_66 rfl (lv_at hl 6 rfl) ?_
          refine lv_iload (pc := 67) hx hb dX7_learnLine_67 (lv_at hl 2 rfl) ?_
          refine lv_iadd (pc := 69) hx hb dX7_learnLine_69 ?_
          refine lv_topi (fun x_37 _ => ?_)
          have rx_37 : zBd x_37.toInt (-2147483648) 2147483647 := n_rng x_37
          refine lv_lload (pc := 70) hx hb dX7_learnLine_70 (lv_at hl 1 rfl) ?_
          refine gd_v (pc := 72) (wc := (zS_32 cB cC cI cJ a0 a1 a2 a3 a4 a5 a6 a7 a8 x_7 y0 x3 a2 g_11 a3 f_12)) hP hD hS hA [0, 10, 11] rfl (by decide +kernel) (fun _ => by rfl) (fun hPc hDc => va_runV (As := [.int x_37, .long r_28]) (rest := []) ⟨hx, hb, hml, hown, hts⟩ (k_X7_admit l D cB cC cI cJ _ a0 a1 a2 a3 a4 a5 a6 a7 a8 x_37 x_7 x3 r_28 y0 f_12 g_11 hi_8 h_x3) ⟨gcwB hts tw_932 tw_7 tw_929 hd_yX7_admit ⟨Nat.le_of_ble_eq_true rfl, Nat.le_of_ble_eq_true rfl⟩, hts _ tw_931, hts _ tp_36⟩ ⟨gblind, va_recv hK hPc (ci := 7) (q0 := 0) rfl rfl, (gpreS hPc hK hDc hN).2⟩ rfl rfl hl.1 rfl (lv_room (Nat.le_of_ble_eq_true rfl)) dX7_learnLine_72 ⟨Nat.le_of_ble_eq_true rfl, Nat.le_of_ble_eq_true rfl⟩) (fun u_38 H locs hw_40 hP hD hS => ?_)
          replace hP : va_P D gcl (zS_79 cB cC cI cJ a0 a1 a2 a3 a4 a5 a6 a7 a8 (u_38.2.2.2.1 0) y0 x3 a1 a9 a10 a11 a12 a13 a14 a15 x4 a15 f0 a4 (u_34.2.2.1 0) a5 (u_34.2.2.1 1) a12 f1 a13 f2 a10 g2 a9 g3 a11 g4 a2 (u_38.2.2.1 0) a3 (u_38.2.1 0)) H := hP
          replace hD : va_D A (zS_79 cB cC cI cJ a0 a1 a2 a3 a4 a5 a6 a7 a8 (u_38.2.2.2.1 0) y0 x3 a1 a9 a10 a11 a12 a13 a14 a15 x4 a15 f0 a4 (u_34.2.2.1 0) a5 (u_34.2.2.1 1) a12 f1 a13 f2 a10 g2 a9 g3 a11 g4 a2 (u_38.2.2.1 0) a3 (u_38.2.1 0)) := hD
          have hw_41 : (0 ≤ (u_38.2.2.2.1 0).toInt ∧ (u_38.2.2.2.1 0).toInt ≤ 10) := hw_40
          refine lv_lload_n (pc := 75) hx hb dX7_learnLine_75 rfl (lv_at hl 4 rfl) ?_
          refine lv_lload (pc := 76) hx hb dX7_learnLine_76 (lv_at hl 1 rfl) ?_
          refine va_mmin_long (pc := 78) hx hb (hml.trans hl.1.symm) hown (hts _ tw_928) (hts _ tw_857) (hts _ tw_19) (hts _ tw_858) (Nat.le_of_ble_eq_true rfl) (Nat.le_of_ble_eq_true rfl) (Nat.le_of_ble_eq_true rfl) (Nat.le_of_ble_eq_true rfl) dX7_learnLine_78 ?_
          refine lv_topl (fun y_42 ey_42 => ?_)
          have ey_42 := n_minL rfl rfl ey_42
          have ry_42 := n_rngL y_42
          refine lv_lstore_n (pc := 81) (lv' := [(3, .long y_42), (10, .long y_33), (8, .long r_28), (7, .int x_1), (5, .long y_3), (0, .ref a0), (1, .int x0), (2, .int x1)]) hx hb dX7_learnLine_81 rfl hl (by decide) rfl (fun ls hl => ?_)
          refine lv_lload (pc := 82) hx hb dX7_learnLine_82 (lv_at hl 4 rfl) ?_
          refine lv_lload (pc := 84) hx hb dX7_learnLine_84 (lv_at hl 1 rfl) ?_
          refine lv_ladd (pc := 86) hx hb dX7_learnLine_86 ?_
          refine lv_topl (fun y_43 _ => ?_)
          have ry_43 := n_rngL y_43
          refine lv_lstore (pc := 87) (lv' := [(5, .long y_43), (3, .long y_42), (10, .long y_33), (8, .long r_28), (7, .int x_1), (0, .ref a0), (1, .int x0), (2, .int x1)]) hx hb dX7_learnLine_87 hl (by decide) rfl (fun ls hl => ?_)
          refine b_iinc (pc := 89) hx hb dX7_learnLine_89 hl (k := 4) rfl rfl tI_1 (by first | exact (om_2 hi_2.1) | ((first | omega | (unfold zBd at *; omega)))) (by first | exact (om_1072 c_14 hp2.2) | ((first | omega | (unfold zBd at *; omega)))) (by decide) (fun x_44 ex_44 ls hl => ?_)
          replace hl : lv_has ls 12 [(7, .int x_44), (5, .long y_43), (3, .long y_42), (10, .long y_33), (8, .long r_28), (0, .ref a0), (1, .int x0), (2, .int x1)] := hl
          refine lv_goto (pc := 92) (tgt := 10) hx hb dX7_learnLine_92 (by decide) ?_
          exact ih_lp_13 x_44 (u_38.2.2.2.1 0) y_43 y_42 (u_38.2.1 0) (u_34.2.2.1 0) (u_34.2.2.1 1) (u_38.2.2.1 0) _ _ ls (by first | exact (om_1073 ex_44 hi_2.1 c_14 hp2.2) | ((first | omega | (unfold zBd at *; omega)))) hw_41 (by (first | omega | (unfold zBd at *; omega))) hP hD hS (lv_sub hl [0, 1, 2, 5, 6, 7] rfl)
        ·
          refine lv_lconst (pc := 34) (v := 0) hx hb dX7_learnLine_34 (by decide) ?_
          refine lv_goto (pc := 35) (tgt := 46) hx hb dX7_learnLine_35 (by decide) ?_
          refine lv_lstore (pc := 46) (lv' := [(10, .long 0), (8, .long r_28), (7, .int x_1), (5, .long y_3), (3, .long y_5), (0, .ref a0), (1, .int x0), (2, .int x1)]) hx hb dX7_learnLine_46 hl (by decide) rfl (fun ls hl => ?_)
          refine lv_aload_n (pc := 48) hx hb dX7_learnLine_48 rfl (lv_at hl 5 rfl) ?_
          refine lv_aload_n (pc := 49) hx hb dX7_learnLine_49 rfl (lv_at hl 5 rfl) ?_
          refine va_get (pc := 50) (ci := 7) (v := .ref a1) (C := RX7) (T := TX7) (N := 11) hx hb hts iX7 hown hK hP 0 rfl rfl 0 (by decide) (hts _ tw_242) (fun _ h9 => h9) rfl dX7_learnLine_50 ?_
          refine va_getN (pc := 53) (ci := 10) (v := .int x4) (C := RX10) (T := TX10) (N := 8) hx hb hts iX10 hown hK hP 1 rfl rfl 7 (by decide) (va_Nw.use rfl (hN _ tn_222)) (fun _ h9 => h9) rfl dX7_learnLine_53 ?_
          refine lv_iload (pc := 56) hx hb dX7_learnLine_56 (lv_at hl 2 rfl) ?_
          refine lv_lload (pc := 58) hx hb dX7_learnLine_58 (lv_at hl 1 rfl) ?_
          refine lv_lload (pc := 60) hx hb dX7_learnLine_60 (lv_at hl 0 rfl) ?_
          refine gd_v (pc := 62) (wc := (zS_144 cB cC cI cJ a0 a1 a2 a3 a4 a5 a6 a7 a8 x_7 y0 x3 a4 g_9 a5 g_10)) hP hD hS hA [0, 3, 4] rfl (by decide +kernel) (fun _ => by rfl) (fun hPc hDc => va_runV (As := [.int x4, .int x_1, .long r_28, .long 0]) (rest := []) ⟨hx, hb, hml, hown, hts⟩ (k_X7_note l D cB cC cI cJ _ a0 a1 a2 a3 a4 a5 a6 a7 a8 x4 x_1 x_7 x3 r_28 0 y0 g_9 g_10 h_x4 (by first | exact (om_1246 hi_2.1 c_14 hp2.2) | (have k0 := tL_0; (first | omega | (unfold zBd at *; omega)))) hi_8 h_x3) ⟨gcwB hts tw_927 tw_7 tw_924 hd_yX7_note ⟨Nat.le_of_ble_eq_true rfl, Nat.le_of_ble_eq_true rfl⟩, hts _ tw_926, hts _ tp_35⟩ ⟨gblind, va_recv hK hPc (ci := 7) (q0 := 0) rfl rfl, (gpreS hPc hK hDc hN).2⟩ rfl rfl hl.1 rfl (lv_room (Nat.le_of_ble_eq_true rfl)) dX7_learnLine_62 ⟨Nat.le_of_ble_eq_true rfl, Nat.le_of_ble_eq_true rfl⟩) (fun u_45 H locs hw_47 hP hD hS => ?_)
          replace hP : va_P D gcl (zS_79 cB cC cI cJ a0 a1 a2 a3 a4 a5 a6 a7 a8 x_7 y0 x3 a1 a9 a10 a11 a12 a13 a14 a15 x4 a15 f0 a4 (u_45.2.2.1 0) a5 (u_45.2.2.1 1) a12 f1 a13 f2 a10 g2 a9 g3 a11 g4 a2 g_11 a3 f_12) H := hP
          replace hD : va_D A (zS_79 cB cC cI cJ a0 a1 a2 a3 a4 a5 a6 a7 a8 x_7 y0 x3 a1 a9 a10 a11 a12 a13 a14 a15 x4 a15 f0 a4 (u_45.2.2.1 0) a5 (u_45.2.2.1 1) a12 f1 a13 f2 a10 g2 a9 g3 a11 g4 a2 g_11 a3 f_12) := hD
          refine lv_aload_n (pc := 65) hx hb dX7_learnLine_65 rfl (lv_at hl 5 rfl) ?_
          refine lv_iload_n (pc := 66) hx hb dX7_learnLine_66 rfl (lv_at hl 6 rfl) ?_
          refine lv_iload (pc := 67) hx hb dX7_learnLine_67 (lv_at hl 2 rfl) ?_
          refine lv_iadd (pc := 69) hx hb dX7_learnLine_69 ?_
          refine lv_topi (fun x_48 _ => ?_)
          have rx_48 : zBd x_48.toInt (-2147483648) 2147483647 := n_rng x_48
          refine lv_lload (pc := 70) hx hb dX7_learnLine_70 (lv_at hl 1 rfl) ?_
          refine gd_v (pc := 72) (wc := (zS_32 cB cC cI cJ a0 a1 a2 a3 a4 a5 a6 a7 a8 x_7 y0 x3 a2 g_11 a3 f_12)) hP hD hS hA [0, 10, 11] rfl (by decide +kernel) (fun _ => by rfl) (fun hPc hDc => va_runV (As := [.int x_48, .long r_28]) (rest := []) ⟨hx, hb, hml, hown, hts⟩ (k_X7_admit l D cB cC cI cJ _ a0 a1 a2 a3 a4 a5 a6 a7 a8 x_48 x_7 x3 r_28 y0 f_12 g_11 hi_8 h_x3) ⟨gcwB hts tw_932 tw_7 tw_929 hd_yX7_admit ⟨Nat.le_of_ble_eq_true rfl, Nat.le_of_ble_eq_true rfl⟩, hts _ tw_931, hts _ tp_36⟩ ⟨gblind, va_recv hK hPc (ci := 7) (q0 := 0) rfl rfl, (gpreS hPc hK hDc hN).2⟩ rfl rfl hl.1 rfl (lv_room (Nat.le_of_ble_eq_true rfl)) dX7_learnLine_72 ⟨Nat.le_of_ble_eq_true rfl, Nat.le_of_ble_eq_true rfl⟩) (fun u_49 H locs hw_51 hP hD hS => ?_)
          replace hP : va_P D gcl (zS_79 cB cC cI cJ a0 a1 a2 a3 a4 a5 a6 a7 a8 (u_49.2.2.2.1 0) y0 x3 a1 a9 a10 a11 a12 a13 a14 a15 x4 a15 f0 a4 (u_45.2.2.1 0) a5 (u_45.2.2.1 1) a12 f1 a13 f2 a10 g2 a9 g3 a11 g4 a2 (u_49.2.2.1 0) a3 (u_49.2.1 0)) H := hP
          replace hD : va_D A (zS_79 cB cC cI cJ a0 a1 a2 a3 a4 a5 a6 a7 a8 (u_49.2.2.2.1 0) y0 x3 a1 a9 a10 a11 a12 a13 a14 a15 x4 a15 f0 a4 (u_45.2.2.1 0) a5 (u_45.2.2.1 1) a12 f1 a13 f2 a10 g2 a9 g3 a11 g4 a2 (u_49.2.2.1 0) a3 (u_49.2.1 0)) := hD
          have hw_52 : (0 ≤ (u_49.2.2.2.1 0).toInt ∧ (u_49.2.2.2.1 0).toInt ≤ 10) := hw_51
          refine lv_lload_n (pc := 75) hx hb dX7_learnLine_75 rfl (lv_at hl 4 rfl) ?_
          refine lv_lload (pc := 76) hx hb dX7_learnLine_76 (lv_at hl 1 rfl) ?_
          refine va_mmin_long (pc := 78) hx hb (hml.trans hl.1.symm) hown (hts _ tw_928) (hts _ tw_857) (hts _ tw_19) (hts _ tw_858) (Nat.le_of_ble_eq_true rfl) (Nat.le_of_ble_eq_true rfl) (Nat.le_of_ble_eq_true rfl) (Nat.le_of_ble_eq_true rfl) dX7_learnLine_78 ?_
          refine lv_topl (fun y_53 ey_53 => ?_)
          have ey_53 := n_minL rfl rfl ey_53
          have ry_53 := n_rngL y_53
          refine lv_lstore_n (pc := 81) (lv' := [(3, .long y_53), (10, .long 0), (8, .long r_28), (7, .int x_1), (5, .long y_3), (0, .ref a0), (1, .int x0), (2, .int x1)]) hx hb dX7_learnLine_81 rfl hl (by decide) rfl (fun ls hl => ?_)
          refine lv_lload (pc := 82) hx hb dX7_learnLine_82 (lv_at hl 4 rfl) ?_
          refine lv_lload (pc := 84) hx hb dX7_learnLine_84 (lv_at hl 1 rfl) ?_
          refine b_ladd (pc := 86) hx hb rfl tL_0 (by first | exact (om_1247 hi_4.1) | ((first | omega | (unfold zBd at *; omega)))) (by first | exact (om_1248 hi_4.2) | ((first | omega | (unfold zBd at *; omega)))) dX7_learnLine_86 (fun y_54 ey_54 => ?_)
          refine lv_lstore (pc := 87) (lv' := [(5, .long y_54), (3, .long y_53), (10, .long 0), (8, .long r_28), (7, .int x_1), (0, .ref a0), (1, .int x0), (2, .int x1)]) hx hb dX7_learnLine_87 hl (by decide) rfl (fun ls hl => ?_)
          refine b_iinc (pc := 89) hx hb dX7_learnLine_89 hl (k := 4) rfl rfl tI_1 (by first | exact (om_2 hi_2.1) | ((first | omega | (unfold zBd at *; omega)))) (by first | exact (om_1072 c_14 hp2.2) | ((first | omega | (unfold zBd at *; omega)))) (by decide) (fun x_55 ex_55 ls hl => ?_)
          replace hl : lv_has ls 12 [(7, .int x_55), (5, .long y_54), (3, .long y_53), (10, .long 0), (8, .long r_28), (0, .ref a0), (1, .int x0), (2, .int x1)] := hl
          refine lv_goto (pc := 92) (tgt := 10) hx hb dX7_learnLine_92 (by decide) ?_
          exact ih_lp_13 x_55 (u_49.2.2.2.1 0) y_54 y_53 (u_49.2.1 0) (u_45.2.2.1 0) (u_45.2.2.1 1) (u_49.2.2.1 0) _ _ ls (by first | exact (om_1073 ex_55 hi_2.1 c_14 hp2.2) | ((first | omega | (unfold zBd at *; omega)))) hw_52 (by (first | omega | (unfold zBd at *; omega))) hP hD hS (lv_sub hl [0, 1, 2, 5, 6, 7] rfl)
  exact lp_13 _ 0 x2 0 1000000000000000 f3 g0 g1 g5 _ _ ls (n_c tI_0 (by decide)) h_x2 (Nat.lt_succ_self _) hP hD hS (lv_sub hl [0, 1, 2, 3, 4, 5] rfl)
theorem om_1249 {a : Int} (h0 : (a ≤ 7)) : (a + 1 ≤ 2147483647) := by omega
theorem om_1250 {a b c d : Int} (h0 : (a = b + 1)) (h1 : (c = b + 1)) (h2 : (c < d)) (h3 : (d ≤ 8)) : (a ≤ 7) := by omega
theorem om_1251 {a : Int} (h0 : (a = 0)) : (a ≤ 7) := by omega
set_option maxHeartbeats 4000000 in
set_option maxRecDepth 100000 in
theorem k_X10_nextLine_8 (l : Launch) (D : va_G) (cB cC cI cJ : ClassId) (sz : Nat) (a0 a1 a2 a3 a4 a5 a6 a7 : Nat) (x0 : Int32) (f0 f1 f2 f3 : Nat → Int32) (g0 g1 g2 : Nat → Int64) (h_x0 : zBd x0.toInt 0 4) (hf_f0 : (∀ j, 0 ≤ (f0 j).toInt ∧ (f0 j).toInt ≤ 7)) (hf_f1 : (∀ j, (-1) ≤ (f1 j).toInt ∧ (f1 j).toInt ≤ 8)) : Met l yX10_nextLine (.code yX10_nextLine cX10_nextLine 2 none :: lw_gd) ({ frames := 1, cells := 0, slots := 0, locals := 26 }) (gPre D [(cB, .byte), (cC, .char), (cI, .int), (cJ, .long)] [.ref a0] (zS_46 cB cC cI cJ a0 a1 a2 a3 a4 a5 a6 a7 x0 a7 f0 a6 f1 a4 f2 a5 f3 a2 g0 a1 g1 a3 g2) sz) (va_Qv (fun u => (∀ j, 0 ≤ ((u.2.1 0) j).toInt ∧ ((u.2.1 0) j).toInt ≤ 7)) (gB D (va_A (zS_46 cB cC cI cJ a0 a1 a2 a3 a4 a5 a6 a7 x0 a7 f0 a6 f1 a4 f2 a5 f3 a2 g0 a1 g1 a3 g2) sz) (fun u : gEx => (zS_46 cB cC cI cJ a0 a1 a2 a3 a4 a5 a6 a7 x0 a7 (u.2.1 0) a6 f1 a4 f2 a5 f3 a2 (u.2.2.1 0) a1 g1 a3 (u.2.2.1 1)))) (va_A (zS_46 cB cC cI cJ a0 a1 a2 a3 a4 a5 a6 a7 x0 a7 f0 a6 f1 a4 f2 a5 f3 a2 g0 a1 g1 a3 g2) sz)) 0 0 (va_A (zS_46 cB cC cI cJ a0 a1 a2 a3 a4 a5 a6 a7 x0 a7 f0 a6 f1 a4 f2 a5 f3 a2 g0 a1 g1 a3 g2) sz) := by
  refine gOf_v (by decide +kernel) (Nat.le_of_ble_eq_true rfl) ?_
  intro p e s m args below meth c ls A Q hx hb hts hown hml hN hK hP hD hA hl hret
  replace hown : s.vm.findClass RX10 = some m.cls := hown
  have hS : va_S A s.heap s.heap [] := va_S.rf
  replace hP : va_P D gcl (zS_46 cB cC cI cJ a0 a1 a2 a3 a4 a5 a6 a7 x0 a7 f0 a6 f1 a4 f2 a5 f3 a2 g0 a1 g1 a3 g2) s.heap := hP
  replace hl : lv_has ls 2 [(0, .ref a0)] := hl
  refine lv_aload_n (pc := 0) hx hb dX10_nextLine_0 rfl (lv_at hl 0 rfl) ?_
  refine va_get (pc := 1) (ci := 10) (v := .int x0) (C := RX10) (T := TX10) (N := 8) hx hb hts iX10 hown hK hP 0 rfl rfl 7 (by decide) (hts _ tw_220) (fun _ h9 => h9) rfl dX10_nextLine_1 ?_
  have bd_h_x0 : 0 ≤ x0.toInt ∧ x0.toInt ≤ 4 := h_x0
  refine lv_iconst (pc := 4) (v := 1) hx hb dX10_nextLine_4 (by decide) ?_
  refine b_isub (pc := 5) hx hb rfl tI_1 (by first | exact (om_659 h_x0.1) | ((first | omega | (unfold zBd at *; omega)))) (by first | exact (om_222 h_x0.2) | ((first | omega | (unfold zBd at *; omega)))) dX10_nextLine_5 (fun x_1 ex_1 => ?_)
  refine lv_istore_n (pc := 6) (lv' := [(1, .int x_1), (0, .ref a0)]) hx hb dX10_nextLine_6 rfl hl (by decide) rfl (fun ls hl => ?_)
  have lp_6 : ∀ (n : Nat) (x_2 : Int32) (f_4 : Nat → Int32) (H : Heap) (locs : List Loc) (ls : Array Slot), ((-2147483648) ≤ x_2.toInt ∧ x_2.toInt ≤ 3) → (∀ j, 0 ≤ (f_4 j).toInt ∧ (f_4 j).toInt ≤ 7) → (x_2.toInt + 2147483648).toNat < n → va_P D gcl (zS_46 cB cC cI cJ a0 a1 a2 a3 a4 a5 a6 a7 x0 a7 f_4 a6 f1 a4 f2 a5 f3 a2 g0 a1 g1 a3 g2) H → va_D A (zS_46 cB cC cI cJ a0 a1 a2 a3 a4 a5 a6 a7 x0 a7 f_4 a6 f1 a4 f2 a5 f3 a2 g0 a1 g1 a3 g2) → va_S A s.heap H locs → lv_has ls 2 [(1, .int x_2), (0, .ref a0)] → W p l e ({ frames := 1, cells := 0, slots := 0, locals := 26 }) s m args below meth c H locs 0 0 Q (F0 m 7 ls []) := by
    intro n
    induction n with
    | zero => intro x_2 f_4 H locs ls hi_3 hi_5 hmu; exact absurd hmu (Nat.not_lt_zero _)
    | succ n ih_lp_6 =>
      intro x_2 f_4 H locs ls hi_3 hi_5 hmu_lp_6 hP hD hS hl
      refine lv_iload_n (pc := 7) hx hb dX10_nextLine_7 rfl (lv_at hl 0 rfl) ?_
      refine b_if_lt (pc := 8) (tgt := 41) hx hb rfl  dX10_nextLine_8 (by decide) (fun c_7 => ?_) (fun c_7 => ?_)
      ·
        refine lv_iload_n (pc := 41) hx hb dX10_nextLine_41 rfl (lv_at hl 0 rfl) ?_
        refine b_if_lt (pc := 42) (tgt := 60) hx hb rfl  dX10_nextLine_42 (by decide) (fun c_8 => ?_) (fun c_8 => absurd c_8 (by first | exact (om_1164 c_7) | ((first | omega | (unfold zBd at *; omega)))))
        exact hret ((fun _ => 0), (fun k => [f_4].getD k (fun _ => 0)), (fun k => [g0, g2].getD k (fun _ => 0)), (fun _ => 0), (fun _ => 0)) dX10_nextLine_60 hi_5 (g_psub (wc := (zS_46 cB cC cI cJ a0 a1 a2 a3 a4 a5 a6 a7 x0 a7 f_4 a6 f1 a4 f2 a5 f3 a2 g0 a1 g1 a3 g2)) hP [0, 1, 2, 3, 4, 5, 6, 7] rfl) (hD.sub (ws' := (zS_46 cB cC cI cJ a0 a1 a2 a3 a4 a5 a6 a7 x0 a7 f_4 a6 f1 a4 f2 a5 f3 a2 g0 a1 g1 a3 g2)) [0, 1, 2, 3, 4, 5, 6, 7] (by decide) rfl) hS
      ·
        refine lv_aload_n (pc := 11) hx hb dX10_nextLine_11 rfl (lv_at hl 1 rfl) ?_
        refine va_get (pc := 12) (ci := 10) (v := .ref a7) (C := RX10) (T := TX10) (N := 8) hx hb hts iX10 hown hK hP 0 rfl rfl 6 (by decide) (hts _ tw_216) (fun _ h9 => h9) rfl dX10_nextLine_12 ?_
        refine lv_iload_n (pc := 15) hx hb dX10_nextLine_15 rfl (lv_at hl 0 rfl) ?_
        refine va_iald (pc := 16) hx hb hK hP 1 2 rfl rfl (n_in rfl (by first | exact (om_10 c_7) | ((first | omega | (unfold zBd at *; omega)))) (by first | exact (om_1165 hi_3.2) | ((first | omega | (unfold zBd at *; omega))))) dX10_nextLine_16 ?_
        refine lv_topi (fun x_9 ex_9 => ?_)
        have rx_9 : (0 ≤ x_9.toInt ∧ x_9.toInt ≤ 7) := by rw [ex_9]; exact hi_5 _
        refine lv_iconst (pc := 17) (v := 1) hx hb dX10_nextLine_17 (by decide) ?_
        refine b_iadd (pc := 18) hx hb rfl tI_1 (by first | exact (om_2 rx_9.1) | ((first | omega | (unfold zBd at *; omega)))) (by first | exact (om_1249 rx_9.2) | ((first | omega | (unfold zBd at *; omega)))) dX10_nextLine_18 (fun x_10 ex_10 => ?_)
        refine lv_aload_n (pc := 19) hx hb dX10_nextLine_19 rfl (lv_at hl 1 rfl) ?_
        refine va_get (pc := 20) (ci := 10) (v := .ref a6) (C := RX10) (T := TX10) (N := 8) hx hb hts iX10 hown hK hP 0 rfl rfl 5 (by decide) (hts _ tw_214) (fun _ h9 => h9) rfl dX10_nextLine_20 ?_
        refine lv_iload_n (pc := 23) hx hb dX10_nextLine_23 rfl (lv_at hl 0 rfl) ?_
        refine va_iald (pc := 24) hx hb hK hP 2 2 rfl rfl (n_in rfl (by first | exact (om_10 c_7) | ((first | omega | (unfold zBd at *; omega)))) (by first | exact (om_1165 hi_3.2) | ((first | omega | (unfold zBd at *; omega))))) dX10_nextLine_24 ?_
        refine lv_topi (fun x_11 ex_11 => ?_)
        have rx_11 : ((-1) ≤ x_11.toInt ∧ x_11.toInt ≤ 8) := by rw [ex_11]; exact hf_f1 _
        refine b_icmp_lt (pc := 25) (tgt := 41) hx hb rfl rfl  dX10_nextLine_25 (by decide) (fun c_12 => ?_) (fun c_12 => ?_)
        ·
          refine lv_iload_n (pc := 41) hx hb dX10_nextLine_41 rfl (lv_at hl 0 rfl) ?_
          refine b_if_lt (pc := 42) (tgt := 60) hx hb rfl  dX10_nextLine_42 (by decide) (fun c_13 => absurd c_13 (by first | exact (om_1167 c_7) | ((first | omega | (unfold zBd at *; omega))))) (fun c_13 => ?_)
          refine lv_aload_n (pc := 45) hx hb dX10_nextLine_45 rfl (lv_at hl 1 rfl) ?_
          refine va_get (pc := 46) (ci := 10) (v := .ref a7) (C := RX10) (T := TX10) (N := 8) hx hb hts iX10 hown hK hP 0 rfl rfl 6 (by decide) (hts _ tw_216) (fun _ h9 => h9) rfl dX10_nextLine_46 ?_
          refine lv_iload_n (pc := 49) hx hb dX10_nextLine_49 rfl (lv_at hl 0 rfl) ?_
          refine lv_dup2_11 (pc := 50) hx hb dX10_nextLine_50 rfl rfl ?_
          refine va_iald (pc := 51) hx hb hK hP 1 2 rfl rfl (n_in rfl (by first | exact (om_10 c_13) | ((first | omega | (unfold zBd at *; omega)))) (by first | exact (om_1165 hi_3.2) | ((first | omega | (unfold zBd at *; omega))))) dX10_nextLine_51 ?_
          refine gI (y := x_9) ex_9.symm ?_
          refine lv_iconst (pc := 52) (v := 1) hx hb dX10_nextLine_52 (by decide) ?_
          refine b_iadd (pc := 53) hx hb rfl tI_1 (by first | exact (om_2 rx_9.1) | ((first | omega | (unfold zBd at *; omega)))) (by first | exact (om_1249 rx_9.2) | ((first | omega | (unfold zBd at *; omega)))) dX10_nextLine_53 (fun x_14 ex_14 => ?_)
          refine h_iastore (pc := 54) hx hb hK hP hD hS 1 2 rfl rfl (n_in rfl (by first | exact (om_10 c_13) | ((first | omega | (unfold zBd at *; omega)))) (by first | exact (om_1165 hi_3.2) | ((first | omega | (unfold zBd at *; omega))))) dX10_nextLine_54 hi_5 (by first | exact (om_917 ex_14 rx_9.1) | ((first | omega | (unfold zBd at *; omega)))) (by first | exact (om_1250 ex_14 ex_10 c_12 rx_11.2) | ((first | omega | (unfold zBd at *; omega)))) (fun f_15 hf_15 H locs hP hD hS => ?_)
          replace hP : va_P D gcl (zS_46 cB cC cI cJ a0 a1 a2 a3 a4 a5 a6 a7 x0 a7 f_15 a6 f1 a4 f2 a5 f3 a2 g0 a1 g1 a3 g2) H := hP
          replace hD : va_D A (zS_46 cB cC cI cJ a0 a1 a2 a3 a4 a5 a6 a7 x0 a7 f_15 a6 f1 a4 f2 a5 f3 a2 g0 a1 g1 a3 g2) := hD
          refine lv_aload_n (pc := 55) hx hb dX10_nextLine_55 rfl (lv_at hl 1 rfl) ?_
          refine lv_iload_n (pc := 56) hx hb dX10_nextLine_56 rfl (lv_at hl 0 rfl) ?_
          refine gd_v (pc := 57) (wc := (zS_25 cB cC cI cJ a0 a1 a2 a3 a4 a5 a6 a7 x0 a4 f2 a5 f3 a7 f_15 a2 g0 a1 g1 a3 g2)) hP hD hS hA [0, 3, 4, 1, 5, 6, 7] rfl (by decide +kernel) (fun _ => by rfl) (fun hPc hDc => va_runV (As := [.int x_2]) (rest := []) ⟨hx, hb, hml, hown, hts⟩ (k_X10_settle_8 l D cB cC cI cJ _ a0 a1 a2 a3 a4 a5 a6 a7 x_2 x0 f2 f3 f_15 g0 g1 g2 (by first | exact (om_1169 c_13 hi_3.2) | ((first | omega | (unfold zBd at *; omega)))) h_x0 hf_15) ⟨gcwB hts tw_909 tw_8 tw_906 hd_yX10_settle ⟨Nat.le_of_ble_eq_true rfl, Nat.le_of_ble_eq_true rfl⟩, hts _ tw_908, hts _ tp_33⟩ ⟨gblind, va_recv hK hPc (ci := 10) (q0 := 0) rfl rfl, (gpreS hPc hK hDc hN).2⟩ rfl rfl hl.1 rfl (lv_room (Nat.le_of_ble_eq_true rfl)) dX10_nextLine_57 ⟨Nat.le_of_ble_eq_true rfl, Nat.le_of_ble_eq_true rfl⟩) (fun u_16 H locs hw_18 hP hD hS => ?_)
          replace hP : va_P D gcl (zS_46 cB cC cI cJ a0 a1 a2 a3 a4 a5 a6 a7 x0 a7 f_15 a6 f1 a4 f2 a5 f3 a2 (u_16.2.2.1 0) a1 g1 a3 (u_16.2.2.1 1)) H := hP
          replace hD : va_D A (zS_46 cB cC cI cJ a0 a1 a2 a3 a4 a5 a6 a7 x0 a7 f_15 a6 f1 a4 f2 a5 f3 a2 (u_16.2.2.1 0) a1 g1 a3 (u_16.2.2.1 1)) := hD
          have hw_19 : (((0 ≤ x0.toInt ∧ x0.toInt ≤ 4))) := hw_18
          exact hret ((fun _ => 0), (fun k => [f_15].getD k (fun _ => 0)), (fun k => [(u_16.2.2.1 0), (u_16.2.2.1 1)].getD k (fun _ => 0)), (fun _ => 0), (fun _ => 0)) dX10_nextLine_60 hf_15 (g_psub (wc := (zS_46 cB cC cI cJ a0 a1 a2 a3 a4 a5 a6 a7 x0 a7 f_15 a6 f1 a4 f2 a5 f3 a2 (u_16.2.2.1 0) a1 g1 a3 (u_16.2.2.1 1))) hP [0, 1, 2, 3, 4, 5, 6, 7] rfl) (hD.sub (ws' := (zS_46 cB cC cI cJ a0 a1 a2 a3 a4 a5 a6 a7 x0 a7 f_15 a6 f1 a4 f2 a5 f3 a2 (u_16.2.2.1 0) a1 g1 a3 (u_16.2.2.1 1))) [0, 1, 2, 3, 4, 5, 6, 7] (by decide) rfl) hS
        ·
          refine lv_aload_n (pc := 28) hx hb dX10_nextLine_28 rfl (lv_at hl 1 rfl) ?_
          refine va_get (pc := 29) (ci := 10) (v := .ref a7) (C := RX10) (T := TX10) (N := 8) hx hb hts iX10 hown hK hP 0 rfl rfl 6 (by decide) (hts _ tw_216) (fun _ h9 => h9) rfl dX10_nextLine_29 ?_
          refine lv_iload_n (pc := 32) hx hb dX10_nextLine_32 rfl (lv_at hl 0 rfl) ?_
          refine lv_iconst (pc := 33) (v := 0) hx hb dX10_nextLine_33 (by decide) ?_
          refine h_iastore (pc := 34) hx hb hK hP hD hS 1 2 rfl rfl (n_in rfl (by first | exact (om_10 c_7) | ((first | omega | (unfold zBd at *; omega)))) (by first | exact (om_1165 hi_3.2) | ((first | omega | (unfold zBd at *; omega))))) dX10_nextLine_34 hi_5 (by first | exact (om_975 tI_0) | (have k_f_20 := tI_0; (first | omega | (unfold zBd at *; omega)))) (by first | exact (om_1251 tI_0) | (have k_f_20 := tI_0; (first | omega | (unfold zBd at *; omega)))) (fun f_20 hf_20 H locs hP hD hS => ?_)
          replace hP : va_P D gcl (zS_46 cB cC cI cJ a0 a1 a2 a3 a4 a5 a6 a7 x0 a7 f_20 a6 f1 a4 f2 a5 f3 a2 g0 a1 g1 a3 g2) H := hP
          replace hD : va_D A (zS_46 cB cC cI cJ a0 a1 a2 a3 a4 a5 a6 a7 x0 a7 f_20 a6 f1 a4 f2 a5 f3 a2 g0 a1 g1 a3 g2) := hD
          refine b_iinc (pc := 35) hx hb dX10_nextLine_35 hl (k := 0) rfl rfl tI_m1 (by first | exact (om_1171 c_7) | ((first | omega | (unfold zBd at *; omega)))) (by first | exact (om_1172 hi_3.2) | ((first | omega | (unfold zBd at *; omega)))) (by decide) (fun x_21 ex_21 ls hl => ?_)
          replace hl : lv_has ls 2 [(1, .int x_21), (0, .ref a0)] := hl
          refine lv_goto (pc := 38) (tgt := 7) hx hb dX10_nextLine_38 (by decide) ?_
          exact ih_lp_6 x_21 f_20 _ _ ls (by first | exact (om_1173 ex_21 c_7 hi_3.2) | ((first | omega | (unfold zBd at *; omega)))) hf_20 (by (first | omega | (unfold zBd at *; omega))) hP hD hS (lv_sub hl [0, 1] rfl)
  exact lp_6 _ x_1 f0 _ _ ls (by first | exact (om_1174 ex_1 h_x0.1 h_x0.2) | ((first | omega | (unfold zBd at *; omega)))) hf_f0 (Nat.lt_succ_self _) hP hD hS (lv_sub hl [0, 1] rfl)
theorem om_1252 {a b c d : Int} (h0 : ((-2147483648) ≤ a)) (h1 : (a ≤ 2147483647)) (h2 : (¬ b = 0)) : (((((-2147483648) ≤ a ∧ a ≤ 2147483647) ∧ ¬ b = 0) ∨ (a = 0 ∧ b = 0 ∧ c = d))) := by omega
theorem om_1253 {a b c : Int} (h0 : (a = 0)) : (((((-2147483648) ≤ a ∧ a ≤ 2147483647) ∧ ¬ b = 0) ∨ (a = 0 ∧ b = 0 ∧ c = c))) := by omega
theorem om_1254 {a b : Int} (h0 : (b ≤ a ∨ b = 0)) (h1 : (b ≥ a)) : (a = b ∨ a ≤ 0) := by omega
theorem om_1255 {a : Int} (h0 : (a ≤ 0)) : (a < (5 : Nat)) := by omega
theorem om_1256 {a b : Int} (h0 : (a < b)) (h1 : (b ≤ 5)) : (a ≤ 4) := by omega
theorem om_1257 {a : Int} (h0 : (a ≤ 0)) : (a ≤ 0) := by omega
theorem om_1258 {a b : Int} (h0 : (a = b - 1)) (h1 : (b ≤ 4)) : (a < (5 : Nat)) := by omega
theorem om_1259 {a b : Int} (h0 : (a > 0)) (h1 : (a ≤ b)) : (0 ≤ a ∧ a ≤ b) := by omega
theorem om_1260 {a : Int} (h0 : (a ≤ 4)) : (a + (-1) ≤ 2147483647) := by omega
theorem om_1261 {a b : Int} (h0 : (a = b + (-1))) (h1 : (b > 0)) (h2 : (b ≤ 4)) : ((0 ≤ a ∧ a ≤ 4)) := by omega
theorem om_1262 {a b c : Int} (h0 : (a = c + (-1))) (h1 : (c ≤ b)) : ((a ≤ b)) := by omega
theorem om_1263 {a b : Int} (h0 : (a = b + (-1))) : (a = b - 1) := by omega
set_option maxHeartbeats 4000000 in
set_option maxRecDepth 100000 in
theorem k_X7_findTurns (l : Launch) (D : va_G) (cB cC cI cJ : ClassId) (sz : Nat) (a0 a1 a2 a3 a4 a5 a6 a7 a8 a9 a10 a11 a12 a13 : Nat) (x0 x1 x2 x3 x4 x5 x6 x7 x8 : Int32) (y0 : Int64) (f0 f1 : Nat → Int32) (h_x0 : zBd x0.toInt 0 10) (h_x1 : zBd x1.toInt 0 1) (hf_f0 : (∀ j, 0 ≤ (f0 j).toInt ∧ (f0 j).toInt ≤ 4)) (h_x2 : zBd x2.toInt (-1) 8) (h_x3 : zBd x3.toInt (-1) 5) (h_x4 : zBd x4.toInt (-1) 6) (h_x5 : zBd x5.toInt 0 6) (h_x6 : zBd x6.toInt 0 16) : Met l yX7_findTurns (.code yX7_findTurns cX7_findTurns 5 none :: lw_gd) ({ frames := 2, cells := 0, slots := 0, locals := 46 }) (gPre D [(cB, .byte), (cC, .char), (cI, .int), (cJ, .long)] [.ref a0, .ref a1] (zS_102 cB cC cI cJ a0 a2 a3 a4 a5 a6 a7 a8 a9 x0 y0 x1 a7 f0 a1 a10 a11 a12 x2 x3 x4 x5 x6 x7 x8 a10 a13 a13 f1) sz) (va_Qv (fun u => (∀ j, 0 ≤ ((u.2.1 0) j).toInt ∧ ((u.2.1 0) j).toInt ≤ 4) ∧ (tJ (u.2.1 0) (fun s => (dw f1 s s 6).toInt) x3.toInt)) (gB D (va_A (zS_102 cB cC cI cJ a0 a2 a3 a4 a5 a6 a7 a8 a9 x0 y0 x1 a7 f0 a1 a10 a11 a12 x2 x3 x4 x5 x6 x7 x8 a10 a13 a13 f1) sz) (fun u : gEx => (zS_102 cB cC cI cJ a0 a2 a3 a4 a5 a6 a7 a8 a9 x0 y0 x1 a7 (u.2.1 0) a1 a10 a11 a12 x2 x3 x4 x5 x6 x7 x8 a10 a13 a13 f1))) (va_A (zS_102 cB cC cI cJ a0 a2 a3 a4 a5 a6 a7 a8 a9 x0 y0 x1 a7 f0 a1 a10 a11 a12 x2 x3 x4 x5 x6 x7 x8 a10 a13 a13 f1) sz)) 0 0 (va_A (zS_102 cB cC cI cJ a0 a2 a3 a4 a5 a6 a7 a8 a9 x0 y0 x1 a7 f0 a1 a10 a11 a12 x2 x3 x4 x5 x6 x7 x8 a10 a13 a13 f1) sz) := by
  refine gOf_v (by decide +kernel) (Nat.le_of_ble_eq_true rfl) ?_
  intro p e s m args below meth c ls A Q hx hb hts hown hml hN hK hP hD hA hl hret
  replace hown : s.vm.findClass RX7 = some m.cls := hown
  have hS : va_S A s.heap s.heap [] := va_S.rf
  replace hP : va_P D gcl (zS_102 cB cC cI cJ a0 a2 a3 a4 a5 a6 a7 a8 a9 x0 y0 x1 a7 f0 a1 a10 a11 a12 x2 x3 x4 x5 x6 x7 x8 a10 a13 a13 f1) s.heap := hP
  replace hl : lv_has ls 5 [(0, .ref a0), (1, .ref a1)] := hl
  have ry0 := n_rngL y0
  have rx7 : zBd x7.toInt (-2147483648) 2147483647 := n_rng x7
  have rx8 : zBd x8.toInt (-2147483648) 2147483647 := n_rng x8
  refine lv_iconst (pc := 0) (v := 0) hx hb dX7_findTurns_0 (by decide) ?_
  refine lv_istore_n (pc := 1) (lv' := [(2, .int 0), (0, .ref a0), (1, .ref a1)]) hx hb dX7_findTurns_1 rfl hl (by decide) rfl (fun ls hl => ?_)
  have lp_7 : ∀ (n : Nat) (x_1 : Int32) (f_3 : Nat → Int32) (H : Heap) (locs : List Loc) (ls : Array Slot), (0 ≤ x_1.toInt ∧ x_1.toInt ≤ 5) → (∀ j, 0 ≤ (f_3 j).toInt ∧ (f_3 j).toInt ≤ 4) → (x_1.toInt ≤ x3.toInt ∨ x_1.toInt = 0) → (tJ f_3 (fun s => (dw f1 s s 6).toInt) x_1.toInt) → (2147483647 - x_1.toInt).toNat < n → va_P D gcl (zS_102 cB cC cI cJ a0 a2 a3 a4 a5 a6 a7 a8 a9 x0 y0 x1 a7 f_3 a1 a10 a11 a12 x2 x3 x4 x5 x6 x7 x8 a10 a13 a13 f1) H → va_D A (zS_102 cB cC cI cJ a0 a2 a3 a4 a5 a6 a7 a8 a9 x0 y0 x1 a7 f_3 a1 a10 a11 a12 x2 x3 x4 x5 x6 x7 x8 a10 a13 a13 f1) → va_S A s.heap H locs → lv_has ls 5 [(2, .int x_1), (0, .ref a0), (1, .ref a1)] → W p l e ({ frames := 2, cells := 0, slots := 0, locals := 46 }) s m args below meth c H locs 0 0 Q (F0 m 2 ls []) := by
    intro n
    induction n with
    | zero => intro x_1 f_3 H locs ls hi_2 hi_4 hi_5 hi_6 hmu; exact absurd hmu (Nat.not_lt_zero _)
    | succ n ih_lp_7 =>
      intro x_1 f_3 H locs ls hi_2 hi_4 hi_5 hi_6 hmu_lp_7 hP hD hS hl
      refine lv_iload_n (pc := 2) hx hb dX7_findTurns_2 rfl (lv_at hl 0 rfl) ?_
      refine lv_aload_n (pc := 3) hx hb dX7_findTurns_3 rfl (lv_at hl 2 rfl) ?_
      refine va_getN (pc := 4) (ci := 1) (v := .int x3) (C := RX1) (T := TX1) (N := 10) hx hb hts iX1 hown hK hP 2 rfl rfl 4 (by decide) (va_Nw.use rfl (hN _ tn_120)) (fun _ h9 => h9) rfl dX7_findTurns_4 ?_
      refine b_icmp_ge (pc := 7) (tgt := 93) hx hb rfl rfl  dX7_findTurns_7 (by decide) (fun c_8 => ?_) (fun c_8 => ?_)
      ·
        exact hret ((fun _ => 0), (fun k => [f_3].getD k (fun _ => 0)), (fun _ => (fun _ => 0)), (fun _ => 0), (fun _ => 0)) dX7_findTurns_93 ⟨hi_4, (show tJ f_3 (fun s => (dw f1 s s 6).toInt) x3.toInt from tJ_k hi_6 (by first | exact (om_1254 hi_5 c_8) | ((first | omega | (unfold zBd at *; omega)))))⟩ (g_psub (wc := (zS_102 cB cC cI cJ a0 a2 a3 a4 a5 a6 a7 a8 a9 x0 y0 x1 a7 f_3 a1 a10 a11 a12 x2 x3 x4 x5 x6 x7 x8 a10 a13 a13 f1)) hP [0, 1, 2, 3, 4] rfl) (hD.sub (ws' := (zS_102 cB cC cI cJ a0 a2 a3 a4 a5 a6 a7 a8 a9 x0 y0 x1 a7 f_3 a1 a10 a11 a12 x2 x3 x4 x5 x6 x7 x8 a10 a13 a13 f1)) [0, 1, 2, 3, 4] (by decide) rfl) hS
      ·
        refine lv_aload_n (pc := 10) hx hb dX7_findTurns_10 rfl (lv_at hl 2 rfl) ?_
        refine va_getN (pc := 11) (ci := 1) (v := .ref a10) (C := RX1) (T := TX1) (N := 10) hx hb hts iX1 hown hK hP 2 rfl rfl 0 (by decide) (va_Nw.use rfl (hN _ tn_103)) (fun _ h9 => h9) rfl dX7_findTurns_11 ?_
        refine lv_iload_n (pc := 14) hx hb dX7_findTurns_14 rfl (lv_at hl 0 rfl) ?_
        refine lv_iload_n (pc := 15) hx hb dX7_findTurns_15 rfl (lv_at hl 0 rfl) ?_
        refine gd_i (pc := 16) (wc := [(a10, .inr (8, [.ref a13])), (a13, .inl (cI, 30, .inl f1))]) hP hD hS hA [3, 4] rfl (by decide +kernel) (fun _ => by rfl) (fun hPc hDc => va_runV (As := [.int x_1, .int x_1]) (rest := []) ⟨hx, hb, hml, hown, hts⟩ (k_X8_productOf_w l D cB cC cI cJ _ a10 a13 x_1 x_1 f1 (by first | exact (om_360 hi_2.1 c_8 h_x3.2) | ((first | omega | (unfold zBd at *; omega)))) (by first | exact (om_360 hi_2.1 c_8 h_x3.2) | ((first | omega | (unfold zBd at *; omega))))) ⟨gcwB hts tw_799 tw_5 tw_981 hd_yX8_productOf ⟨Nat.le_of_ble_eq_true rfl, Nat.le_of_ble_eq_true rfl⟩, hts _ tw_797, hts _ tw_798⟩ ⟨gblind, va_recv hK hPc (ci := 8) (q0 := 0) rfl rfl, (gpreS hPc hK hDc hN).2⟩ rfl rfl hl.1 rfl (lv_room (Nat.le_of_ble_eq_true rfl)) dX7_findTurns_16 ⟨Nat.le_of_ble_eq_true rfl, Nat.le_of_ble_eq_true rfl⟩) (fun r_10 u_9 H locs hw_11 hP hD hS => ?_)
        replace hP : va_P D gcl (zS_102 cB cC cI cJ a0 a2 a3 a4 a5 a6 a7 a8 a9 x0 y0 x1 a7 f_3 a1 a10 a11 a12 x2 x3 x4 x5 x6 x7 x8 a10 a13 a13 f1) H := hP
        replace hD : va_D A (zS_102 cB cC cI cJ a0 a2 a3 a4 a5 a6 a7 a8 a9 x0 y0 x1 a7 f_3 a1 a10 a11 a12 x2 x3 x4 x5 x6 x7 x8 a10 a13 a13 f1) := hD
        have hw_12 : (r_10 = dw f1 x_1.toInt x_1.toInt 6) := hw_11
        have rr_10 : zBd r_10.toInt (-2147483648) 2147483647 := n_rng r_10
        refine lv_istore_n (pc := 19) (lv' := [(3, .int r_10), (2, .int x_1), (0, .ref a0), (1, .ref a1)]) hx hb dX7_findTurns_19 rfl hl (by decide) rfl (fun ls hl => ?_)
        refine lv_iload_n (pc := 20) hx hb dX7_findTurns_20 rfl (lv_at hl 1 rfl) ?_
        refine lv_istore (pc := 21) (lv' := [(4, .int x_1), (3, .int r_10), (2, .int x_1), (0, .ref a0), (1, .ref a1)]) hx hb dX7_findTurns_21 hl (by decide) rfl (fun ls hl => ?_)
        have lp_19 : ∀ (n : Nat) (x_13 : Int32) (f_15 : Nat → Int32) (H : Heap) (locs : List Loc) (ls : Array Slot), (0 ≤ x_13.toInt ∧ x_13.toInt ≤ 4) → (∀ j, 0 ≤ (f_15 j).toInt ∧ (f_15 j).toInt ≤ 4) → (x_13.toInt ≤ x_1.toInt) → (tW f_3 f_15 (fun s => (dw f1 s s 6).toInt) x_1.toInt r_10.toInt x_13.toInt) → (x_13.toInt + 2147483648).toNat < n → va_P D gcl (zS_102 cB cC cI cJ a0 a2 a3 a4 a5 a6 a7 a8 a9 x0 y0 x1 a7 f_15 a1 a10 a11 a12 x2 x3 x4 x5 x6 x7 x8 a10 a13 a13 f1) H → va_D A (zS_102 cB cC cI cJ a0 a2 a3 a4 a5 a6 a7 a8 a9 x0 y0 x1 a7 f_15 a1 a10 a11 a12 x2 x3 x4 x5 x6 x7 x8 a10 a13 a13 f1) → va_S A s.heap H locs → lv_has ls 5 [(4, .int x_13), (3, .int r_10), (2, .int x_1), (0, .ref a0), (1, .ref a1)] → W p l e ({ frames := 2, cells := 0, slots := 0, locals := 46 }) s m args below meth c H locs 0 0 Q (F0 m 23 ls []) := by
          intro n
          induction n with
          | zero => intro x_13 f_15 H locs ls hi_14 hi_16 hi_17 hi_18 hmu; exact absurd hmu (Nat.not_lt_zero _)
          | succ n ih_lp_19 =>
            intro x_13 f_15 H locs ls hi_14 hi_16 hi_17 hi_18 hmu_lp_19 hP hD hS hl
            refine lv_iload (pc := 23) hx hb dX7_findTurns_23 (lv_at hl 0 rfl) ?_
            refine b_if_le (pc := 25) (tgt := 79) hx hb rfl  dX7_findTurns_25 (by decide) (fun c_20 => ?_) (fun c_20 => ?_)
            ·
              refine lv_aload_n (pc := 79) hx hb dX7_findTurns_79 rfl (lv_at hl 3 rfl) ?_
              refine va_get (pc := 80) (ci := 7) (v := .ref a7) (C := RX7) (T := TX7) (N := 11) hx hb hts iX7 hown hK hP 0 rfl rfl 5 (by decide) (hts _ tw_249) (fun _ h9 => h9) rfl dX7_findTurns_80 ?_
              refine lv_iload (pc := 83) hx hb dX7_findTurns_83 (lv_at hl 0 rfl) ?_
              refine lv_iload_n (pc := 85) hx hb dX7_findTurns_85 rfl (lv_at hl 2 rfl) ?_
              refine e_iastore (pc := 86) hx hb hK hP hD hS 1 2 rfl rfl (n_in rfl (by first | exact (om_0 hi_14.1) | ((first | omega | (unfold zBd at *; omega)))) (by first | exact (om_1255 c_20) | ((first | omega | (unfold zBd at *; omega))))) dX7_findTurns_86 (fun f_21 ef_21 H locs hP hD hS => ?_)
              have hf_21 : (∀ j, 0 ≤ (f_21 j).toInt ∧ (f_21 j).toInt ≤ 4) := (by rw [ef_21]; exact n_upd hi_16 (by first | exact (om_0 hi_2.1) | ((first | omega | (unfold zBd at *; omega)))) (by first | exact (om_1256 c_8 h_x3.2) | ((first | omega | (unfold zBd at *; omega)))))
              replace hP : va_P D gcl (zS_102 cB cC cI cJ a0 a2 a3 a4 a5 a6 a7 a8 a9 x0 y0 x1 a7 f_21 a1 a10 a11 a12 x2 x3 x4 x5 x6 x7 x8 a10 a13 a13 f1) H := hP
              replace hD : va_D A (zS_102 cB cC cI cJ a0 a2 a3 a4 a5 a6 a7 a8 a9 x0 y0 x1 a7 f_21 a1 a10 a11 a12 x2 x3 x4 x5 x6 x7 x8 a10 a13 a13 f1) := hD
              refine b_iinc (pc := 87) hx hb dX7_findTurns_87 hl (k := 2) rfl rfl tI_1 (by first | exact (om_2 hi_2.1) | ((first | omega | (unfold zBd at *; omega)))) (by first | exact (om_357 hi_2.2) | ((first | omega | (unfold zBd at *; omega)))) (by decide) (fun x_22 ex_22 ls hl => ?_)
              replace hl : lv_has ls 5 [(2, .int x_22), (4, .int x_13), (3, .int r_10), (0, .ref a0), (1, .ref a1)] := hl
              refine lv_goto (pc := 90) (tgt := 2) hx hb dX7_findTurns_90 (by decide) ?_
              exact ih_lp_7 x_22 f_21 _ _ ls (by first | exact (om_1026 ex_22 hi_2.1 c_8 h_x3.2) | ((first | omega | (unfold zBd at *; omega)))) hf_21 (by first | exact (om_344 ex_22 c_8) | ((first | omega | (unfold zBd at *; omega)))) (tJ_ins0 hi_6 hi_18 (fun _ => rfl) (by first | exact (om_1257 c_20) | ((first | omega | (unfold zBd at *; omega)))) hw_12 rfl ef_21 (by (first | omega | (unfold zBd at *; omega))) rfl (by first | exact (om_793 hi_14.1 hi_17) | ((first | omega | (unfold zBd at *; omega)))) (by first | exact (om_5 ex_22) | ((first | omega | (unfold zBd at *; omega))))) (by (first | omega | (unfold zBd at *; omega))) hP hD hS (lv_sub hl [0, 3, 4] rfl)
            ·
              refine lv_aload_n (pc := 28) hx hb dX7_findTurns_28 rfl (lv_at hl 4 rfl) ?_
              refine va_getN (pc := 29) (ci := 1) (v := .ref a10) (C := RX1) (T := TX1) (N := 10) hx hb hts iX1 hown hK hP 2 rfl rfl 0 (by decide) (va_Nw.use rfl (hN _ tn_103)) (fun _ h9 => h9) rfl dX7_findTurns_29 ?_
              refine lv_aload_n (pc := 32) hx hb dX7_findTurns_32 rfl (lv_at hl 3 rfl) ?_
              refine va_get (pc := 33) (ci := 7) (v := .ref a7) (C := RX7) (T := TX7) (N := 11) hx hb hts iX7 hown hK hP 0 rfl rfl 5 (by decide) (hts _ tw_249) (fun _ h9 => h9) rfl dX7_findTurns_33 ?_
              refine lv_iload (pc := 36) hx hb dX7_findTurns_36 (lv_at hl 0 rfl) ?_
              refine lv_iconst (pc := 38) (v := 1) hx hb dX7_findTurns_38 (by decide) ?_
              refine b_isub (pc := 39) hx hb rfl tI_1 (by first | exact (om_693 c_20) | ((first | omega | (unfold zBd at *; omega)))) (by first | exact (om_222 hi_14.2) | ((first | omega | (unfold zBd at *; omega)))) dX7_findTurns_39 (fun x_23 ex_23 => ?_)
              refine va_iald (pc := 40) hx hb hK hP 1 2 rfl rfl (n_in rfl (by first | exact (om_694 ex_23 c_20) | ((first | omega | (unfold zBd at *; omega)))) (by first | exact (om_1258 ex_23 hi_14.2) | ((first | omega | (unfold zBd at *; omega))))) dX7_findTurns_40 ?_
              refine lv_topi (fun x_24 ex_24 => ?_)
              have rx_24 : (0 ≤ x_24.toInt ∧ x_24.toInt ≤ 4) := by rw [ex_24]; exact hi_16 _
              replace ex_24 : x_24 = f_15 (x_23.toInt).toNat := ex_24
              have tx_24 := congrArg Int32.toInt ex_24
              refine lv_aload_n (pc := 41) hx hb dX7_findTurns_41 rfl (lv_at hl 3 rfl) ?_
              refine va_get (pc := 42) (ci := 7) (v := .ref a7) (C := RX7) (T := TX7) (N := 11) hx hb hts iX7 hown hK hP 0 rfl rfl 5 (by decide) (hts _ tw_249) (fun _ h9 => h9) rfl dX7_findTurns_42 ?_
              refine lv_iload (pc := 45) hx hb dX7_findTurns_45 (lv_at hl 0 rfl) ?_
              refine lv_iconst (pc := 47) (v := 1) hx hb dX7_findTurns_47 (by decide) ?_
              refine b_isub (pc := 48) hx hb rfl tI_1 (by first | exact (om_693 c_20) | ((first | omega | (unfold zBd at *; omega)))) (by first | exact (om_222 hi_14.2) | ((first | omega | (unfold zBd at *; omega)))) dX7_findTurns_48 (fun x_25 ex_25 => ?_)
              refine va_iald (pc := 49) hx hb hK hP 1 2 rfl rfl (n_in rfl (by first | exact (om_694 ex_25 c_20) | ((first | omega | (unfold zBd at *; omega)))) (by first | exact (om_1258 ex_25 hi_14.2) | ((first | omega | (unfold zBd at *; omega))))) dX7_findTurns_49 ?_
              refine lv_topi (fun x_26 ex_26 => ?_)
              have rx_26 : (0 ≤ x_26.toInt ∧ x_26.toInt ≤ 4) := by rw [ex_26]; exact hi_16 _
              replace ex_26 : x_26 = f_15 (x_25.toInt).toNat := ex_26
              have tx_26 := congrArg Int32.toInt ex_26
              refine gd_i (pc := 50) (wc := [(a10, .inr (8, [.ref a13])), (a13, .inl (cI, 30, .inl f1))]) hP hD hS hA [3, 4] rfl (by decide +kernel) (fun _ => by rfl) (fun hPc hDc => va_runV (As := [.int x_24, .int x_26]) (rest := []) ⟨hx, hb, hml, hown, hts⟩ (k_X8_productOf_w l D cB cC cI cJ _ a10 a13 x_24 x_26 f1 rx_24 rx_26) ⟨gcwB hts tw_799 tw_5 tw_981 hd_yX8_productOf ⟨Nat.le_of_ble_eq_true rfl, Nat.le_of_ble_eq_true rfl⟩, hts _ tw_797, hts _ tw_798⟩ ⟨gblind, va_recv hK hPc (ci := 8) (q0 := 0) rfl rfl, (gpreS hPc hK hDc hN).2⟩ rfl rfl hl.1 rfl (lv_room (Nat.le_of_ble_eq_true rfl)) dX7_findTurns_50 ⟨Nat.le_of_ble_eq_true rfl, Nat.le_of_ble_eq_true rfl⟩) (fun r_28 u_27 H locs hw_29 hP hD hS => ?_)
              replace hP : va_P D gcl (zS_102 cB cC cI cJ a0 a2 a3 a4 a5 a6 a7 a8 a9 x0 y0 x1 a7 f_15 a1 a10 a11 a12 x2 x3 x4 x5 x6 x7 x8 a10 a13 a13 f1) H := hP
              replace hD : va_D A (zS_102 cB cC cI cJ a0 a2 a3 a4 a5 a6 a7 a8 a9 x0 y0 x1 a7 f_15 a1 a10 a11 a12 x2 x3 x4 x5 x6 x7 x8 a10 a13 a13 f1) := hD
              have hw_30 : (r_28 = dw f1 x_24.toInt x_26.toInt 6) := hw_29
              have rr_28 : zBd r_28.toInt (-2147483648) 2147483647 := n_rng r_28
              refine lv_iload_n (pc := 53) hx hb dX7_findTurns_53 rfl (lv_at hl 1 rfl) ?_
              refine b_icmp_ge (pc := 54) (tgt := 79) hx hb rfl rfl  dX7_findTurns_54 (by decide) (fun c_31 => ?_) (fun c_31 => ?_)
              ·
                refine lv_aload_n (pc := 79) hx hb dX7_findTurns_79 rfl (lv_at hl 3 rfl) ?_
                refine va_get (pc := 80) (ci := 7) (v := .ref a7) (C := RX7) (T := TX7) (N := 11) hx hb hts iX7 hown hK hP 0 rfl rfl 5 (by decide) (hts _ tw_249) (fun _ h9 => h9) rfl dX7_findTurns_80 ?_
                refine lv_iload (pc := 83) hx hb dX7_findTurns_83 (lv_at hl 0 rfl) ?_
                refine lv_iload_n (pc := 85) hx hb dX7_findTurns_85 rfl (lv_at hl 2 rfl) ?_
                refine e_iastore (pc := 86) hx hb hK hP hD hS 1 2 rfl rfl (n_in rfl (by first | exact (om_1232 c_20) | ((first | omega | (unfold zBd at *; omega)))) (by first | exact (om_1135 hi_14.2) | ((first | omega | (unfold zBd at *; omega))))) dX7_findTurns_86 (fun f_32 ef_32 H locs hP hD hS => ?_)
                have hf_32 : (∀ j, 0 ≤ (f_32 j).toInt ∧ (f_32 j).toInt ≤ 4) := (by rw [ef_32]; exact n_upd hi_16 (by first | exact (om_0 hi_2.1) | ((first | omega | (unfold zBd at *; omega)))) (by first | exact (om_1256 c_8 h_x3.2) | ((first | omega | (unfold zBd at *; omega)))))
                replace hP : va_P D gcl (zS_102 cB cC cI cJ a0 a2 a3 a4 a5 a6 a7 a8 a9 x0 y0 x1 a7 f_32 a1 a10 a11 a12 x2 x3 x4 x5 x6 x7 x8 a10 a13 a13 f1) H := hP
                replace hD : va_D A (zS_102 cB cC cI cJ a0 a2 a3 a4 a5 a6 a7 a8 a9 x0 y0 x1 a7 f_32 a1 a10 a11 a12 x2 x3 x4 x5 x6 x7 x8 a10 a13 a13 f1) := hD
                refine b_iinc (pc := 87) hx hb dX7_findTurns_87 hl (k := 2) rfl rfl tI_1 (by first | exact (om_2 hi_2.1) | ((first | omega | (unfold zBd at *; omega)))) (by first | exact (om_357 hi_2.2) | ((first | omega | (unfold zBd at *; omega)))) (by decide) (fun x_33 ex_33 ls hl => ?_)
                replace hl : lv_has ls 5 [(2, .int x_33), (4, .int x_13), (3, .int r_10), (0, .ref a0), (1, .ref a1)] := hl
                refine lv_goto (pc := 90) (tgt := 2) hx hb dX7_findTurns_90 (by decide) ?_
                exact ih_lp_7 x_33 f_32 _ _ ls (by first | exact (om_1026 ex_33 hi_2.1 c_8 h_x3.2) | ((first | omega | (unfold zBd at *; omega)))) hf_32 (by first | exact (om_344 ex_33 c_8) | ((first | omega | (unfold zBd at *; omega)))) (tJ_ins1 hi_6 hi_18 (fun _ => rfl) ex_24 (by first | exact (om_682 ex_23) | ((first | omega | (unfold zBd at *; omega)))) ex_26 (by first | exact (om_682 ex_25) | ((first | omega | (unfold zBd at *; omega)))) hw_30 (by first | exact (om_503 c_31) | ((first | omega | (unfold zBd at *; omega)))) (by first | exact (om_394 c_20) | ((first | omega | (unfold zBd at *; omega)))) hw_12 rfl ef_32 (by (first | omega | (unfold zBd at *; omega))) rfl (by first | exact (om_1259 c_20 hi_17) | ((first | omega | (unfold zBd at *; omega)))) (by first | exact (om_5 ex_33) | ((first | omega | (unfold zBd at *; omega))))) (by (first | omega | (unfold zBd at *; omega))) hP hD hS (lv_sub hl [0, 3, 4] rfl)
              ·
                refine lv_aload_n (pc := 57) hx hb dX7_findTurns_57 rfl (lv_at hl 3 rfl) ?_
                refine va_get (pc := 58) (ci := 7) (v := .ref a7) (C := RX7) (T := TX7) (N := 11) hx hb hts iX7 hown hK hP 0 rfl rfl 5 (by decide) (hts _ tw_249) (fun _ h9 => h9) rfl dX7_findTurns_58 ?_
                refine lv_iload (pc := 61) hx hb dX7_findTurns_61 (lv_at hl 0 rfl) ?_
                refine lv_aload_n (pc := 63) hx hb dX7_findTurns_63 rfl (lv_at hl 3 rfl) ?_
                refine va_get (pc := 64) (ci := 7) (v := .ref a7) (C := RX7) (T := TX7) (N := 11) hx hb hts iX7 hown hK hP 0 rfl rfl 5 (by decide) (hts _ tw_249) (fun _ h9 => h9) rfl dX7_findTurns_64 ?_
                refine lv_iload (pc := 67) hx hb dX7_findTurns_67 (lv_at hl 0 rfl) ?_
                refine lv_iconst (pc := 69) (v := 1) hx hb dX7_findTurns_69 (by decide) ?_
                refine b_isub (pc := 70) hx hb rfl tI_1 (by first | exact (om_693 c_20) | ((first | omega | (unfold zBd at *; omega)))) (by first | exact (om_222 hi_14.2) | ((first | omega | (unfold zBd at *; omega)))) dX7_findTurns_70 (fun x_34 ex_34 => ?_)
                refine va_iald (pc := 71) hx hb hK hP 1 2 rfl rfl (n_in rfl (by first | exact (om_694 ex_34 c_20) | ((first | omega | (unfold zBd at *; omega)))) (by first | exact (om_1258 ex_34 hi_14.2) | ((first | omega | (unfold zBd at *; omega))))) dX7_findTurns_71 ?_
                refine lv_topi (fun x_35 ex_35 => ?_)
                have rx_35 : (0 ≤ x_35.toInt ∧ x_35.toInt ≤ 4) := by rw [ex_35]; exact hi_16 _
                replace ex_35 : x_35 = f_15 (x_34.toInt).toNat := ex_35
                have tx_35 := congrArg Int32.toInt ex_35
                refine e_iastore (pc := 72) hx hb hK hP hD hS 1 2 rfl rfl (n_in rfl (by first | exact (om_1232 c_20) | ((first | omega | (unfold zBd at *; omega)))) (by first | exact (om_1135 hi_14.2) | ((first | omega | (unfold zBd at *; omega))))) dX7_findTurns_72 (fun f_36 ef_36 H locs hP hD hS => ?_)
                have hf_36 : (∀ j, 0 ≤ (f_36 j).toInt ∧ (f_36 j).toInt ≤ 4) := (by rw [ef_36]; exact n_upd hi_16 (by first | exact (om_0 rx_35.1) | ((first | omega | (unfold zBd at *; omega)))) (by first | exact (om_58 rx_35.2) | ((first | omega | (unfold zBd at *; omega)))))
                replace hP : va_P D gcl (zS_102 cB cC cI cJ a0 a2 a3 a4 a5 a6 a7 a8 a9 x0 y0 x1 a7 f_36 a1 a10 a11 a12 x2 x3 x4 x5 x6 x7 x8 a10 a13 a13 f1) H := hP
                replace hD : va_D A (zS_102 cB cC cI cJ a0 a2 a3 a4 a5 a6 a7 a8 a9 x0 y0 x1 a7 f_36 a1 a10 a11 a12 x2 x3 x4 x5 x6 x7 x8 a10 a13 a13 f1) := hD
                refine b_iinc (pc := 73) hx hb dX7_findTurns_73 hl (k := 0) rfl rfl tI_m1 (by first | exact (om_1234 c_20) | ((first | omega | (unfold zBd at *; omega)))) (by first | exact (om_1260 hi_14.2) | ((first | omega | (unfold zBd at *; omega)))) (by decide) (fun x_37 ex_37 ls hl => ?_)
                replace hl : lv_has ls 5 [(4, .int x_37), (3, .int r_10), (2, .int x_1), (0, .ref a0), (1, .ref a1)] := hl
                refine lv_goto (pc := 76) (tgt := 23) hx hb dX7_findTurns_76 (by decide) ?_
                exact ih_lp_19 x_37 f_36 _ _ ls (by first | exact (om_1261 ex_37 c_20 hi_14.2) | ((first | omega | (unfold zBd at *; omega)))) hf_36 (by first | exact (om_1262 ex_37 hi_17) | ((first | omega | (unfold zBd at *; omega)))) (tW_step hi_18 (fun _ => rfl) ex_24 (by first | exact (om_682 ex_23) | ((first | omega | (unfold zBd at *; omega)))) ex_26 (by first | exact (om_682 ex_25) | ((first | omega | (unfold zBd at *; omega)))) hw_30 (by first | exact (om_1029 c_31) | ((first | omega | (unfold zBd at *; omega)))) ex_35 (by first | exact (om_682 ex_34) | ((first | omega | (unfold zBd at *; omega)))) ef_36 (by (first | omega | (unfold zBd at *; omega))) (by first | exact (om_394 c_20) | ((first | omega | (unfold zBd at *; omega)))) (by first | exact (om_1263 ex_37) | ((first | omega | (unfold zBd at *; omega))))) (by (first | omega | (unfold zBd at *; omega))) hP hD hS (lv_sub hl [0, 1, 2, 3, 4] rfl)
        exact lp_19 _ x_1 f_3 _ _ ls (by first | exact (om_360 hi_2.1 c_8 h_x3.2) | ((first | omega | (unfold zBd at *; omega)))) hi_4 (by first | exact (om_484) | ((first | omega | (unfold zBd at *; omega)))) (tW_0 rfl) (Nat.lt_succ_self _) hP hD hS (lv_sub hl [0, 1, 2, 3, 4] rfl)
  exact lp_7 _ 0 f0 _ _ ls (n_c tI_0 (by decide)) hf_f0 (by have q := tI_0; (first | omega | (unfold zBd at *; omega))) (tJ_0 tI_0) (Nat.lt_succ_self _) hP hD hS (lv_sub hl [0, 1, 2] rfl)
set_option maxHeartbeats 4000000 in
set_option maxRecDepth 100000 in
theorem k_X7_squaresWith (l : Launch) (D : va_G) (cB cC cI cJ : ClassId) (sz : Nat) (a0 a1 a2 a3 a4 a5 a6 a7 a8 a9 a10 a11 a12 a13 : Nat) (x0 x1 x2 x3 x4 x5 x6 x7 x8 x9 x10 : Int32) (y0 : Int64) (f0 f1 : Nat → Int32) (hp2 : (0 ≤ x0.toInt ∧ x0.toInt ≤ 4)) (h_x2 : zBd x2.toInt 0 10) (h_x3 : zBd x3.toInt 0 1) (h_x4 : zBd x4.toInt (-1) 8) (h_x5 : zBd x5.toInt (-1) 5) (h_x6 : zBd x6.toInt (-1) 6) (h_x7 : zBd x7.toInt 0 6) (h_x8 : zBd x8.toInt 0 16) : Met l yX7_squaresWith (.code yX7_squaresWith cX7_squaresWith 9 (some .long) :: lw_gd) ({ frames := 1, cells := 0, slots := 0, locals := 22 }) (gPre D [(cB, .byte), (cC, .char), (cI, .int), (cJ, .long)] [.ref a0, .ref a1, .int x0, .int x1] (zS_75 cB cC cI cJ a0 a2 a3 a4 a5 a6 a7 a8 a9 x2 y0 x3 a1 a10 a11 a12 x4 x5 x6 x7 x8 x9 x10 a9 f0 a10 a13 a13 f1) sz) (va_Ql (fun r u => ((((-9223372036854775808) ≤ r.toInt ∧ r.toInt ≤ 9223372036854775807) ∧ ((-1) ≤ x6.toInt ∧ x6.toInt ≤ 6)))) (gB D (va_A (zS_75 cB cC cI cJ a0 a2 a3 a4 a5 a6 a7 a8 a9 x2 y0 x3 a1 a10 a11 a12 x4 x5 x6 x7 x8 x9 x10 a9 f0 a10 a13 a13 f1) sz) (fun u : gEx => (zS_75 cB cC cI cJ a0 a2 a3 a4 a5 a6 a7 a8 a9 x2 y0 x3 a1 a10 a11 a12 x4 x5 x6 x7 x8 x9 x10 a9 f0 a10 a13 a13 f1))) (va_A (zS_75 cB cC cI cJ a0 a2 a3 a4 a5 a6 a7 a8 a9 x2 y0 x3 a1 a10 a11 a12 x4 x5 x6 x7 x8 x9 x10 a9 f0 a10 a13 a13 f1) sz)) 0 0 (va_A (zS_75 cB cC cI cJ a0 a2 a3 a4 a5 a6 a7 a8 a9 x2 y0 x3 a1 a10 a11 a12 x4 x5 x6 x7 x8 x9 x10 a9 f0 a10 a13 a13 f1) sz) := by
  refine gOf_l (by decide +kernel) (Nat.le_of_ble_eq_true rfl) ?_
  intro p e s m args below meth c ls A Q hx hb hts hown hml hN hK hP hD hA hl hret
  replace hown : s.vm.findClass RX7 = some m.cls := hown
  have hS : va_S A s.heap s.heap [] := va_S.rf
  replace hP : va_P D gcl (zS_75 cB cC cI cJ a0 a2 a3 a4 a5 a6 a7 a8 a9 x2 y0 x3 a1 a10 a11 a12 x4 x5 x6 x7 x8 x9 x10 a9 f0 a10 a13 a13 f1) s.heap := hP
  replace hl : lv_has ls 9 [(0, .ref a0), (1, .ref a1), (2, .int x0), (3, .int x1)] := hl
  have rx1 : zBd x1.toInt (-2147483648) 2147483647 := n_rng x1
  have ry0 := n_rngL y0
  have rx9 : zBd x9.toInt (-2147483648) 2147483647 := n_rng x9
  have rx10 : zBd x10.toInt (-2147483648) 2147483647 := n_rng x10
  refine lv_lconst (pc := 0) (v := 0) hx hb dX7_squaresWith_0 (by decide) ?_
  refine lv_lstore (pc := 1) (lv' := [(4, .long 0), (0, .ref a0), (1, .ref a1), (2, .int x0), (3, .int x1)]) hx hb dX7_squaresWith_1 hl (by decide) rfl (fun ls hl => ?_)
  refine lv_iconst (pc := 3) (v := 0) hx hb dX7_squaresWith_3 (by decide) ?_
  refine lv_istore (pc := 4) (lv' := [(6, .int 0), (4, .long 0), (0, .ref a0), (1, .ref a1), (2, .int x0), (3, .int x1)]) hx hb dX7_squaresWith_4 hl (by decide) rfl (fun ls hl => ?_)
  have lp_5 : ∀ (n : Nat) (x_1 : Int32) (y_3 : Int64) (H : Heap) (locs : List Loc) (ls : Array Slot), (0 ≤ x_1.toInt ∧ x_1.toInt ≤ 2147483647) → (2147483647 - x_1.toInt).toNat < n → va_P D gcl (zS_75 cB cC cI cJ a0 a2 a3 a4 a5 a6 a7 a8 a9 x2 y0 x3 a1 a10 a11 a12 x4 x5 x6 x7 x8 x9 x10 a9 f0 a10 a13 a13 f1) H → va_D A (zS_75 cB cC cI cJ a0 a2 a3 a4 a5 a6 a7 a8 a9 x2 y0 x3 a1 a10 a11 a12 x4 x5 x6 x7 x8 x9 x10 a9 f0 a10 a13 a13 f1) → va_S A s.heap H locs → lv_has ls 9 [(6, .int x_1), (4, .long y_3), (0, .ref a0), (1, .ref a1), (2, .int x0), (3, .int x1)] → W p l e ({ frames := 1, cells := 0, slots := 0, locals := 22 }) s m args below meth c H locs 0 0 Q (F0 m 6 ls []) := by
    intro n
    induction n with
    | zero => intro x_1 y_3 H locs ls hi_2 hmu; exact absurd hmu (Nat.not_lt_zero _)
    | succ n ih_lp_5 =>
      intro x_1 y_3 H locs ls hi_2 hmu_lp_5 hP hD hS hl
      have hi_4 := n_rngL y_3
      refine lv_iload (pc := 6) hx hb dX7_squaresWith_6 (lv_at hl 0 rfl) ?_
      refine lv_aload_n (pc := 8) hx hb dX7_squaresWith_8 rfl (lv_at hl 3 rfl) ?_
      refine va_getN (pc := 9) (ci := 1) (v := .int x6) (C := RX1) (T := TX1) (N := 10) hx hb hts iX1 hown hK hP 1 rfl rfl 5 (by decide) (va_Nw.use rfl (hN _ tn_130)) (fun _ h9 => h9) rfl dX7_squaresWith_9 ?_
      refine b_icmp_ge (pc := 12) (tgt := 54) hx hb rfl rfl  dX7_squaresWith_12 (by decide) (fun c_6 => ?_) (fun c_6 => ?_)
      ·
        refine lv_lload (pc := 54) hx hb dX7_squaresWith_54 (lv_at hl 1 rfl) ?_
        exact hret y_3 ((fun _ => 0), (fun _ => (fun _ => 0)), (fun _ => (fun _ => 0)), (fun _ => 0), (fun _ => 0)) dX7_squaresWith_56 (show ((((-9223372036854775808) ≤ y_3.toInt ∧ y_3.toInt ≤ 9223372036854775807) ∧ ((-1) ≤ x6.toInt ∧ x6.toInt ≤ 6))) from (by first | exact (om_1081 hi_4.1 hi_4.2 h_x6.1 h_x6.2) | ((first | omega | (unfold zBd at *; omega))))) (g_psub (wc := (zS_75 cB cC cI cJ a0 a2 a3 a4 a5 a6 a7 a8 a9 x2 y0 x3 a1 a10 a11 a12 x4 x5 x6 x7 x8 x9 x10 a9 f0 a10 a13 a13 f1)) hP [0, 1, 2, 3, 4] rfl) (hD.sub (ws' := (zS_75 cB cC cI cJ a0 a2 a3 a4 a5 a6 a7 a8 a9 x2 y0 x3 a1 a10 a11 a12 x4 x5 x6 x7 x8 x9 x10 a9 f0 a10 a13 a13 f1)) [0, 1, 2, 3, 4] (by decide) rfl) hS
      ·
        refine lv_aload_n (pc := 15) hx hb dX7_squaresWith_15 rfl (lv_at hl 2 rfl) ?_
        refine va_get (pc := 16) (ci := 7) (v := .ref a9) (C := RX7) (T := TX7) (N := 11) hx hb hts iX7 hown hK hP 0 rfl rfl 7 (by decide) (hts _ tw_253) (fun _ h9 => h9) rfl dX7_squaresWith_16 ?_
        refine lv_iload (pc := 19) hx hb dX7_squaresWith_19 (lv_at hl 0 rfl) ?_
        refine va_iald (pc := 21) hx hb hK hP 2 2 rfl rfl (n_in rfl (by first | exact (om_0 hi_2.1) | ((first | omega | (unfold zBd at *; omega)))) (by first | exact (om_1082 c_6 h_x6.2) | ((first | omega | (unfold zBd at *; omega))))) dX7_squaresWith_21 ?_
        refine lv_topi (fun x_7 ex_7 => ?_)
        have rx_7 : zBd x_7.toInt (-2147483648) 2147483647 := n_rng x_7
        refine lv_aload_n (pc := 22) hx hb dX7_squaresWith_22 rfl (lv_at hl 3 rfl) ?_
        refine va_getN (pc := 23) (ci := 1) (v := .ref a10) (C := RX1) (T := TX1) (N := 10) hx hb hts iX1 hown hK hP 1 rfl rfl 0 (by decide) (va_Nw.use rfl (hN _ tn_103)) (fun _ h9 => h9) rfl dX7_squaresWith_23 ?_
        refine lv_iload (pc := 26) hx hb dX7_squaresWith_26 (lv_at hl 0 rfl) ?_
        refine lv_iload_n (pc := 28) hx hb dX7_squaresWith_28 rfl (lv_at hl 4 rfl) ?_
        refine gd_i (pc := 29) (wc := [(a10, .inr (8, [.ref a13])), (a13, .inl (cI, 30, .inl f1))]) hP hD hS hA [3, 4] rfl (by decide +kernel) (fun _ => by rfl) (fun hPc hDc => va_runV (As := [.int x_1, .int x0]) (rest := [.int x_7]) ⟨hx, hb, hml, hown, hts⟩ (k_X8_at l D cB cC cI cJ _ a10 a13 x_1 x0 f1 (by first | exact (om_1083 hi_2.1 c_6 h_x6.2) | ((first | omega | (unfold zBd at *; omega)))) hp2) ⟨gcwB hts tw_791 tw_5 tw_992 hd_yX8_at ⟨Nat.le_of_ble_eq_true rfl, Nat.le_of_ble_eq_true rfl⟩, hts _ tw_789, hts _ tw_790⟩ ⟨gblind, va_recv hK hPc (ci := 8) (q0 := 0) rfl rfl, (gpreS hPc hK hDc hN).2⟩ rfl rfl hl.1 rfl (lv_room (Nat.le_of_ble_eq_true rfl)) dX7_squaresWith_29 ⟨Nat.le_of_ble_eq_true rfl, Nat.le_of_ble_eq_true rfl⟩) (fun r_9 u_8 H locs hw_10 hP hD hS => ?_)
        replace hP : va_P D gcl (zS_75 cB cC cI cJ a0 a2 a3 a4 a5 a6 a7 a8 a9 x2 y0 x3 a1 a10 a11 a12 x4 x5 x6 x7 x8 x9 x10 a9 f0 a10 a13 a13 f1) H := hP
        replace hD : va_D A (zS_75 cB cC cI cJ a0 a2 a3 a4 a5 a6 a7 a8 a9 x2 y0 x3 a1 a10 a11 a12 x4 x5 x6 x7 x8 x9 x10 a9 f0 a10 a13 a13 f1) := hD
        have hw_11 : ((((-2147483648) ≤ r_9.toInt ∧ r_9.toInt ≤ 2147483647))) := hw_10
        have rr_9 : zBd r_9.toInt (-2147483648) 2147483647 := n_rng r_9
        refine lv_iload_n (pc := 32) hx hb dX7_squaresWith_32 rfl (lv_at hl 5 rfl) ?_
        refine lv_imul (pc := 33) hx hb dX7_squaresWith_33 ?_
        refine lv_topi (fun x_12 _ => ?_)
        have rx_12 : zBd x_12.toInt (-2147483648) 2147483647 := n_rng x_12
        refine lv_isub (pc := 34) hx hb dX7_squaresWith_34 ?_
        refine lv_topi (fun x_13 _ => ?_)
        have rx_13 : zBd x_13.toInt (-2147483648) 2147483647 := n_rng x_13
        refine b_i2l (pc := 35) hx hb rfl dX7_squaresWith_35 (fun y_14 ey_14 => ?_)
        have ry_14 : zBd x_13.toInt (-2147483648) 2147483647 := n_rng x_13
        refine lv_lstore (pc := 36) (lv' := [(7, .long y_14), (6, .int x_1), (4, .long y_3), (0, .ref a0), (1, .ref a1), (2, .int x0), (3, .int x1)]) hx hb dX7_squaresWith_36 hl (by decide) rfl (fun ls hl => ?_)
        refine lv_lload (pc := 38) hx hb dX7_squaresWith_38 (lv_at hl 2 rfl) ?_
        refine lv_lload (pc := 40) hx hb dX7_squaresWith_40 (lv_at hl 0 rfl) ?_
        refine lv_lload (pc := 42) hx hb dX7_squaresWith_42 (lv_at hl 0 rfl) ?_
        refine lv_lmul (pc := 44) hx hb dX7_squaresWith_44 ?_
        refine lv_topl (fun y_15 _ => ?_)
        have ry_15 := n_rngL y_15
        refine lv_ladd (pc := 45) hx hb dX7_squaresWith_45 ?_
        refine lv_topl (fun y_16 _ => ?_)
        have ry_16 := n_rngL y_16
        refine lv_lstore (pc := 46) (lv' := [(4, .long y_16), (7, .long y_14), (6, .int x_1), (0, .ref a0), (1, .ref a1), (2, .int x0), (3, .int x1)]) hx hb dX7_squaresWith_46 hl (by decide) rfl (fun ls hl => ?_)
        refine b_iinc (pc := 48) hx hb dX7_squaresWith_48 hl (k := 2) rfl rfl tI_1 (by first | exact (om_2 hi_2.1) | ((first | omega | (unfold zBd at *; omega)))) (by first | exact (om_1084 c_6 h_x6.2) | ((first | omega | (unfold zBd at *; omega)))) (by decide) (fun x_17 ex_17 ls hl => ?_)
        replace hl : lv_has ls 9 [(6, .int x_17), (4, .long y_16), (7, .long y_14), (0, .ref a0), (1, .ref a1), (2, .int x0), (3, .int x1)] := hl
        refine lv_goto (pc := 51) (tgt := 6) hx hb dX7_squaresWith_51 (by decide) ?_
        exact ih_lp_5 x_17 y_16 _ _ ls (by first | exact (om_1085 ex_17 hi_2.1 c_6 h_x6.2) | ((first | omega | (unfold zBd at *; omega)))) (by (first | omega | (unfold zBd at *; omega))) hP hD hS (lv_sub hl [0, 1, 3, 4, 5, 6] rfl)
  exact lp_5 _ 0 0 _ _ ls (n_c tI_0 (by decide)) (Nat.lt_succ_self _) hP hD hS (lv_sub hl [0, 1, 2, 3, 4, 5] rfl)
theorem om_1264 {a b : Int} (h0 : ((-2147483648) ≤ a)) (h1 : (a ≤ 2147483647)) (h2 : ((-1) ≤ b)) (h3 : (b ≤ 8)) : (((((-2147483648) ≤ a ∧ a ≤ 2147483647) ∧ ((-1) ≤ b ∧ b ≤ 8)))) := by omega
set_option maxHeartbeats 4000000 in
set_option maxRecDepth 100000 in
theorem k_X7_bestLetter (l : Launch) (D : va_G) (cB cC cI cJ : ClassId) (sz : Nat) (a0 a1 a2 a3 a4 a5 a6 a7 a8 a9 a10 a11 a12 a13 : Nat) (x0 x1 x2 x3 x4 x5 x6 x7 x8 x9 : Int32) (y0 : Int64) (f0 f1 : Nat → Int32) (hp2 : (0 ≤ x0.toInt ∧ x0.toInt ≤ 4)) (h_x1 : zBd x1.toInt 0 10) (h_x2 : zBd x2.toInt 0 1) (h_x3 : zBd x3.toInt (-1) 8) (h_x4 : zBd x4.toInt (-1) 5) (h_x5 : zBd x5.toInt (-1) 6) (h_x6 : zBd x6.toInt 0 6) (h_x7 : zBd x7.toInt 0 16) : Met l yX7_bestLetter (.code yX7_bestLetter cX7_bestLetter 10 (some .int) :: lw_gd) ({ frames := 2, cells := 0, slots := 0, locals := 50 }) (gPre D [(cB, .byte), (cC, .char), (cI, .int), (cJ, .long)] [.ref a0, .ref a1, .int x0] (zS_75 cB cC cI cJ a0 a2 a3 a4 a5 a6 a7 a8 a9 x1 y0 x2 a1 a10 a11 a12 x3 x4 x5 x6 x7 x8 x9 a9 f0 a10 a13 a13 f1) sz) (va_Qi (fun r u => ((((-2147483648) ≤ r.toInt ∧ r.toInt ≤ 2147483647) ∧ ((-1) ≤ x3.toInt ∧ x3.toInt ≤ 8)))) (gB D (va_A (zS_75 cB cC cI cJ a0 a2 a3 a4 a5 a6 a7 a8 a9 x1 y0 x2 a1 a10 a11 a12 x3 x4 x5 x6 x7 x8 x9 a9 f0 a10 a13 a13 f1) sz) (fun u : gEx => (zS_75 cB cC cI cJ a0 a2 a3 a4 a5 a6 a7 a8 a9 x1 y0 x2 a1 a10 a11 a12 x3 x4 x5 x6 x7 x8 x9 a9 f0 a10 a13 a13 f1))) (va_A (zS_75 cB cC cI cJ a0 a2 a3 a4 a5 a6 a7 a8 a9 x1 y0 x2 a1 a10 a11 a12 x3 x4 x5 x6 x7 x8 x9 a9 f0 a10 a13 a13 f1) sz)) 0 0 (va_A (zS_75 cB cC cI cJ a0 a2 a3 a4 a5 a6 a7 a8 a9 x1 y0 x2 a1 a10 a11 a12 x3 x4 x5 x6 x7 x8 x9 a9 f0 a10 a13 a13 f1) sz) := by
  refine gOf_i (by decide +kernel) (Nat.le_of_ble_eq_true rfl) ?_
  intro p e s m args below meth c ls A Q hx hb hts hown hml hN hK hP hD hA hl hret
  replace hown : s.vm.findClass RX7 = some m.cls := hown
  have hS : va_S A s.heap s.heap [] := va_S.rf
  replace hP : va_P D gcl (zS_75 cB cC cI cJ a0 a2 a3 a4 a5 a6 a7 a8 a9 x1 y0 x2 a1 a10 a11 a12 x3 x4 x5 x6 x7 x8 x9 a9 f0 a10 a13 a13 f1) s.heap := hP
  replace hl : lv_has ls 10 [(0, .ref a0), (1, .ref a1), (2, .int x0)] := hl
  have ry0 := n_rngL y0
  have rx8 : zBd x8.toInt (-2147483648) 2147483647 := n_rng x8
  have rx9 : zBd x9.toInt (-2147483648) 2147483647 := n_rng x9
  refine lv_iconst (pc := 0) (v := 0) hx hb dX7_bestLetter_0 (by decide) ?_
  refine lv_istore_n (pc := 1) (lv' := [(3, .int 0), (0, .ref a0), (1, .ref a1), (2, .int x0)]) hx hb dX7_bestLetter_1 rfl hl (by decide) rfl (fun ls hl => ?_)
  refine lv_ldc2 (pc := 2) hx hb hown (hts _ tw_874) dX7_bestLetter_2 ?_
  refine lv_lstore (pc := 5) (lv' := [(4, .long 1000000000000000), (3, .int 0), (0, .ref a0), (1, .ref a1), (2, .int x0)]) hx hb dX7_bestLetter_5 hl (by decide) rfl (fun ls hl => ?_)
  refine lv_iconst (pc := 7) (v := 0) hx hb dX7_bestLetter_7 (by decide) ?_
  refine lv_istore (pc := 8) (lv' := [(6, .int 0), (4, .long 1000000000000000), (3, .int 0), (0, .ref a0), (1, .ref a1), (2, .int x0)]) hx hb dX7_bestLetter_8 hl (by decide) rfl (fun ls hl => ?_)
  have lp_7 : ∀ (n : Nat) (x_1 x_5 : Int32) (y_3 : Int64) (H : Heap) (locs : List Loc) (ls : Array Slot), (0 ≤ x_1.toInt ∧ x_1.toInt ≤ 2147483647) → (2147483647 - x_1.toInt).toNat < n → va_P D gcl (zS_75 cB cC cI cJ a0 a2 a3 a4 a5 a6 a7 a8 a9 x1 y0 x2 a1 a10 a11 a12 x3 x4 x5 x6 x7 x8 x9 a9 f0 a10 a13 a13 f1) H → va_D A (zS_75 cB cC cI cJ a0 a2 a3 a4 a5 a6 a7 a8 a9 x1 y0 x2 a1 a10 a11 a12 x3 x4 x5 x6 x7 x8 x9 a9 f0 a10 a13 a13 f1) → va_S A s.heap H locs → lv_has ls 10 [(6, .int x_1), (4, .long y_3), (3, .int x_5), (0, .ref a0), (1, .ref a1), (2, .int x0)] → W p l e ({ frames := 2, cells := 0, slots := 0, locals := 50 }) s m args below meth c H locs 0 0 Q (F0 m 10 ls []) := by
    intro n
    induction n with
    | zero => intro x_1 x_5 y_3 H locs ls hi_2 hmu; exact absurd hmu (Nat.not_lt_zero _)
    | succ n ih_lp_7 =>
      intro x_1 x_5 y_3 H locs ls hi_2 hmu_lp_7 hP hD hS hl
      have hi_4 := n_rngL y_3
      have hi_6 := n_rng x_5
      refine lv_iload (pc := 10) hx hb dX7_bestLetter_10 (lv_at hl 0 rfl) ?_
      refine lv_aload_n (pc := 12) hx hb dX7_bestLetter_12 rfl (lv_at hl 4 rfl) ?_
      refine va_getN (pc := 13) (ci := 1) (v := .int x3) (C := RX1) (T := TX1) (N := 10) hx hb hts iX1 hown hK hP 1 rfl rfl 3 (by decide) (va_Nw.use rfl (hN _ tn_112)) (fun _ h9 => h9) rfl dX7_bestLetter_13 ?_
      refine b_icmp_ge (pc := 16) (tgt := 58) hx hb rfl rfl  dX7_bestLetter_16 (by decide) (fun c_8 => ?_) (fun c_8 => ?_)
      ·
        refine lv_iload_n (pc := 58) hx hb dX7_bestLetter_58 rfl (lv_at hl 2 rfl) ?_
        exact hret x_5 ((fun _ => 0), (fun _ => (fun _ => 0)), (fun _ => (fun _ => 0)), (fun _ => 0), (fun _ => 0)) dX7_bestLetter_59 (show ((((-2147483648) ≤ x_5.toInt ∧ x_5.toInt ≤ 2147483647) ∧ ((-1) ≤ x3.toInt ∧ x3.toInt ≤ 8))) from (by first | exact (om_1264 hi_6.1 hi_6.2 h_x3.1 h_x3.2) | ((first | omega | (unfold zBd at *; omega))))) (g_psub (wc := (zS_75 cB cC cI cJ a0 a2 a3 a4 a5 a6 a7 a8 a9 x1 y0 x2 a1 a10 a11 a12 x3 x4 x5 x6 x7 x8 x9 a9 f0 a10 a13 a13 f1)) hP [0, 1, 2, 3, 4] rfl) (hD.sub (ws' := (zS_75 cB cC cI cJ a0 a2 a3 a4 a5 a6 a7 a8 a9 x1 y0 x2 a1 a10 a11 a12 x3 x4 x5 x6 x7 x8 x9 a9 f0 a10 a13 a13 f1)) [0, 1, 2, 3, 4] (by decide) rfl) hS
      ·
        refine lv_aload_n (pc := 19) hx hb dX7_bestLetter_19 rfl (lv_at hl 4 rfl) ?_
        refine lv_iload (pc := 20) hx hb dX7_bestLetter_20 (lv_at hl 0 rfl) ?_
        refine gd_i (pc := 22) (wc := (zS_5 cB cC cI cJ a1 a10 a11 a12 x3 x4 x5 x6 x7 x8 x9)) hP hD hS hA [1] rfl (by decide +kernel) (fun _ => by rfl) (fun hPc hDc => va_runV (As := [.int x_1]) (rest := []) ⟨hx, hb, hml, hown, hts⟩ (k_X1_letterOfDigit l D cB cC cI cJ _ a1 a10 a11 a12 x_1 x3 x4 x5 x6 x7 x8 x9 h_x3 h_x4 h_x5 h_x6 h_x7) ⟨gcwB hts tw_952 tw_4 tw_987 hd_yX1_letterOfDigit ⟨Nat.le_of_ble_eq_true rfl, Nat.le_of_ble_eq_true rfl⟩, hts _ tw_950, hts _ tw_951⟩ ⟨gblind, va_recv hK hPc (ci := 1) (q0 := 0) rfl rfl, (gpreS hPc hK hDc hN).2⟩ rfl rfl hl.1 rfl (lv_room (Nat.le_of_ble_eq_true rfl)) dX7_bestLetter_22 ⟨Nat.le_of_ble_eq_true rfl, Nat.le_of_ble_eq_true rfl⟩) (fun r_10 u_9 H locs hw_11 hP hD hS => ?_)
        replace hP : va_P D gcl (zS_75 cB cC cI cJ a0 a2 a3 a4 a5 a6 a7 a8 a9 x1 y0 x2 a1 a10 a11 a12 x3 x4 x5 x6 x7 x8 x9 a9 f0 a10 a13 a13 f1) H := hP
        replace hD : va_D A (zS_75 cB cC cI cJ a0 a2 a3 a4 a5 a6 a7 a8 a9 x1 y0 x2 a1 a10 a11 a12 x3 x4 x5 x6 x7 x8 x9 a9 f0 a10 a13 a13 f1) := hD
        have hw_12 : ((((-2147483648) ≤ r_10.toInt ∧ r_10.toInt ≤ 2147483647))) := hw_11
        have rr_10 : zBd r_10.toInt (-2147483648) 2147483647 := n_rng r_10
        refine lv_istore (pc := 25) (lv' := [(7, .int r_10), (6, .int x_1), (4, .long y_3), (3, .int x_5), (0, .ref a0), (1, .ref a1), (2, .int x0)]) hx hb dX7_bestLetter_25 hl (by decide) rfl (fun ls hl => ?_)
        refine lv_aload_n (pc := 27) hx hb dX7_bestLetter_27 rfl (lv_at hl 4 rfl) ?_
        refine lv_aload_n (pc := 28) hx hb dX7_bestLetter_28 rfl (lv_at hl 5 rfl) ?_
        refine lv_iload_n (pc := 29) hx hb dX7_bestLetter_29 rfl (lv_at hl 6 rfl) ?_
        refine lv_iload (pc := 30) hx hb dX7_bestLetter_30 (lv_at hl 0 rfl) ?_
        refine gd_l (pc := 32) (wc := (zS_75 cB cC cI cJ a0 a2 a3 a4 a5 a6 a7 a8 a9 x1 y0 x2 a1 a10 a11 a12 x3 x4 x5 x6 x7 x8 x9 a9 f0 a10 a13 a13 f1)) hP hD hS hA [0, 1, 2, 3, 4] rfl (by decide +kernel) (fun _ => by rfl) (fun hPc hDc => va_runV (As := [.ref a1, .int x0, .int r_10]) (rest := []) ⟨hx, hb, hml, hown, hts⟩ (k_X7_squaresWith l D cB cC cI cJ _ a0 a1 a2 a3 a4 a5 a6 a7 a8 a9 a10 a11 a12 a13 x0 r_10 x1 x2 x3 x4 x5 x6 x7 x8 x9 y0 f0 f1 hp2 h_x1 h_x2 h_x3 h_x4 h_x5 h_x6 h_x7) ⟨gcwB hts tw_991 tw_7 tw_988 hd_yX7_squaresWith ⟨Nat.le_of_ble_eq_true rfl, Nat.le_of_ble_eq_true rfl⟩, hts _ tw_990, hts _ tp_39⟩ ⟨gblind, va_recv hK hPc (ci := 7) (q0 := 0) rfl rfl, (gpreS hPc hK hDc hN).2⟩ rfl rfl hl.1 rfl (lv_room (Nat.le_of_ble_eq_true rfl)) dX7_bestLetter_32 ⟨Nat.le_of_ble_eq_true rfl, Nat.le_of_ble_eq_true rfl⟩) (fun r_14 u_13 H locs hw_15 hP hD hS => ?_)
        replace hP : va_P D gcl (zS_75 cB cC cI cJ a0 a2 a3 a4 a5 a6 a7 a8 a9 x1 y0 x2 a1 a10 a11 a12 x3 x4 x5 x6 x7 x8 x9 a9 f0 a10 a13 a13 f1) H := hP
        replace hD : va_D A (zS_75 cB cC cI cJ a0 a2 a3 a4 a5 a6 a7 a8 a9 x1 y0 x2 a1 a10 a11 a12 x3 x4 x5 x6 x7 x8 x9 a9 f0 a10 a13 a13 f1) := hD
        have hw_16 : ((((-9223372036854775808) ≤ r_14.toInt ∧ r_14.toInt ≤ 9223372036854775807) ∧ ((-1) ≤ x5.toInt ∧ x5.toInt ≤ 6))) := hw_15
        have rr_14 := n_rngL r_14
        refine lv_lstore (pc := 35) (lv' := [(8, .long r_14), (7, .int r_10), (6, .int x_1), (4, .long y_3), (3, .int x_5), (0, .ref a0), (1, .ref a1), (2, .int x0)]) hx hb dX7_bestLetter_35 hl (by decide) rfl (fun ls hl => ?_)
        refine lv_lload (pc := 37) hx hb dX7_bestLetter_37 (lv_at hl 0 rfl) ?_
        refine lv_lload (pc := 39) hx hb dX7_bestLetter_39 (lv_at hl 3 rfl) ?_
        refine b_lcmp_ge (pc := 41) (tgt := 52) hx hb rfl rfl dX7_bestLetter_41 dX7_bestLetter_42 (by decide) (fun c_17 => ?_) (fun c_17 => ?_)
        ·
          refine b_iinc (pc := 52) hx hb dX7_bestLetter_52 hl (k := 2) rfl rfl tI_1 (by first | exact (om_2 hi_2.1) | ((first | omega | (unfold zBd at *; omega)))) (by first | exact (om_1072 c_8 h_x3.2) | ((first | omega | (unfold zBd at *; omega)))) (by decide) (fun x_18 ex_18 ls hl => ?_)
          replace hl : lv_has ls 10 [(6, .int x_18), (8, .long r_14), (7, .int r_10), (4, .long y_3), (3, .int x_5), (0, .ref a0), (1, .ref a1), (2, .int x0)] := hl
          refine lv_goto (pc := 55) (tgt := 10) hx hb dX7_bestLetter_55 (by decide) ?_
          exact ih_lp_7 x_18 x_5 y_3 _ _ ls (by first | exact (om_1073 ex_18 hi_2.1 c_8 h_x3.2) | ((first | omega | (unfold zBd at *; omega)))) (by (first | omega | (unfold zBd at *; omega))) hP hD hS (lv_sub hl [0, 3, 4, 5, 6, 7] rfl)
        ·
          refine lv_lload (pc := 45) hx hb dX7_bestLetter_45 (lv_at hl 0 rfl) ?_
          refine lv_lstore (pc := 47) (lv' := [(4, .long r_14), (8, .long r_14), (7, .int r_10), (6, .int x_1), (3, .int x_5), (0, .ref a0), (1, .ref a1), (2, .int x0)]) hx hb dX7_bestLetter_47 hl (by decide) rfl (fun ls hl => ?_)
          refine lv_iload (pc := 49) hx hb dX7_bestLetter_49 (lv_at hl 2 rfl) ?_
          refine lv_istore_n (pc := 51) (lv' := [(3, .int r_10), (4, .long r_14), (8, .long r_14), (7, .int r_10), (6, .int x_1), (0, .ref a0), (1, .ref a1), (2, .int x0)]) hx hb dX7_bestLetter_51 rfl hl (by decide) rfl (fun ls hl => ?_)
          refine b_iinc (pc := 52) hx hb dX7_bestLetter_52 hl (k := 4) rfl rfl tI_1 (by first | exact (om_2 hi_2.1) | ((first | omega | (unfold zBd at *; omega)))) (by first | exact (om_1072 c_8 h_x3.2) | ((first | omega | (unfold zBd at *; omega)))) (by decide) (fun x_19 ex_19 ls hl => ?_)
          replace hl : lv_has ls 10 [(6, .int x_19), (3, .int r_10), (4, .long r_14), (8, .long r_14), (7, .int r_10), (0, .ref a0), (1, .ref a1), (2, .int x0)] := hl
          refine lv_goto (pc := 55) (tgt := 10) hx hb dX7_bestLetter_55 (by decide) ?_
          exact ih_lp_7 x_19 r_10 r_14 _ _ ls (by first | exact (om_1073 ex_19 hi_2.1 c_8 h_x3.2) | ((first | omega | (unfold zBd at *; omega)))) (by (first | omega | (unfold zBd at *; omega))) hP hD hS (lv_sub hl [0, 2, 1, 5, 6, 7] rfl)
  exact lp_7 _ 0 0 1000000000000000 _ _ ls (n_c tI_0 (by decide)) (Nat.lt_succ_self _) hP hD hS (lv_sub hl [0, 1, 2, 3, 4, 5] rfl)
set_option maxHeartbeats 4000000 in
set_option maxRecDepth 100000 in
theorem k_X7_leastWith (l : Launch) (D : va_G) (cB cC cI cJ : ClassId) (sz : Nat) (a0 a1 a2 a3 a4 a5 a6 a7 a8 : Nat) (x0 x1 x2 x3 : Int32) (y0 : Int64) (g0 : Nat → Int64) (hp1 : (0 ≤ x0.toInt ∧ x0.toInt ≤ 4)) (hp2 : (0 ≤ x1.toInt ∧ x1.toInt ≤ 7)) (h_x2 : zBd x2.toInt 0 10) (h_x3 : zBd x3.toInt 0 1) : Met l yX7_leastWith (.code yX7_leastWith cX7_leastWith 3 (some .long) :: lw_gd) ({ frames := 0, cells := 0, slots := 0, locals := 0 }) (gPre D [(cB, .byte), (cC, .char), (cI, .int), (cJ, .long)] [.ref a0, .int x0, .int x1] (zS_57 cB cC cI cJ a0 a1 a2 a3 a4 a5 a6 a7 a8 x2 y0 x3 a4 g0) sz) (va_Ql (fun r u => ((((-9223372036854775808) ≤ r.toInt ∧ r.toInt ≤ 9223372036854775807)))) (gB D (va_A (zS_57 cB cC cI cJ a0 a1 a2 a3 a4 a5 a6 a7 a8 x2 y0 x3 a4 g0) sz) (fun u : gEx => (zS_57 cB cC cI cJ a0 a1 a2 a3 a4 a5 a6 a7 a8 x2 y0 x3 a4 g0))) (va_A (zS_57 cB cC cI cJ a0 a1 a2 a3 a4 a5 a6 a7 a8 x2 y0 x3 a4 g0) sz)) 0 0 (va_A (zS_57 cB cC cI cJ a0 a1 a2 a3 a4 a5 a6 a7 a8 x2 y0 x3 a4 g0) sz) := by
  refine gOf_l (by decide +kernel) (Nat.le_of_ble_eq_true rfl) ?_
  intro p e s m args below meth c ls A Q hx hb hts hown hml hN hK hP hD hA hl hret
  replace hown : s.vm.findClass RX7 = some m.cls := hown
  have hS : va_S A s.heap s.heap [] := va_S.rf
  replace hP : va_P D gcl (zS_57 cB cC cI cJ a0 a1 a2 a3 a4 a5 a6 a7 a8 x2 y0 x3 a4 g0) s.heap := hP
  replace hl : lv_has ls 3 [(0, .ref a0), (1, .int x0), (2, .int x1)] := hl
  have ry0 := n_rngL y0
  refine lv_aload_n (pc := 0) hx hb dX7_leastWith_0 rfl (lv_at hl 0 rfl) ?_
  refine va_get (pc := 1) (ci := 7) (v := .ref a4) (C := RX7) (T := TX7) (N := 11) hx hb hts iX7 hown hK hP 0 rfl rfl 3 (by decide) (hts _ tw_247) (fun _ h9 => h9) rfl dX7_leastWith_1 ?_
  refine lv_iload_n (pc := 4) hx hb dX7_leastWith_4 rfl (lv_at hl 1 rfl) ?_
  refine lv_bipush (pc := 5) (v := 8) hx hb dX7_leastWith_5 (by decide) ?_
  refine b_imul (pc := 7) hx hb rfl tI_8 (by first | exact (om_1222 hp1.1) | ((first | omega | (unfold zBd at *; omega)))) (by first | exact (om_1223 hp1.2) | ((first | omega | (unfold zBd at *; omega)))) dX7_leastWith_7 (fun x_1 ex_1 => ?_)
  refine lv_iload_n (pc := 8) hx hb dX7_leastWith_8 rfl (lv_at hl 2 rfl) ?_
  refine b_iadd (pc := 9) hx hb rfl rfl (by first | exact (om_1224 ex_1 hp2.1 hp1.1) | ((first | omega | (unfold zBd at *; omega)))) (by first | exact (om_1225 ex_1 hp2.2 hp1.2) | ((first | omega | (unfold zBd at *; omega)))) dX7_leastWith_9 (fun x_2 ex_2 => ?_)
  refine va_lald (pc := 10) hx hb hK hP 1 3 rfl rfl (n_in rfl (by first | exact (om_1226 ex_2 ex_1 hp2.1 hp1.1) | ((first | omega | (unfold zBd at *; omega)))) (by first | exact (om_1227 ex_2 ex_1 hp2.2 hp1.2) | ((first | omega | (unfold zBd at *; omega))))) dX7_leastWith_10 ?_
  refine lv_topl (fun y_3 ey_3 => ?_)
  have ry_3 := n_rngL y_3
  exact hret y_3 ((fun _ => 0), (fun _ => (fun _ => 0)), (fun _ => (fun _ => 0)), (fun _ => 0), (fun _ => 0)) dX7_leastWith_11 (show ((((-9223372036854775808) ≤ y_3.toInt ∧ y_3.toInt ≤ 9223372036854775807))) from (by first | exact (om_1163 ry_3.1 ry_3.2) | ((first | omega | (unfold zBd at *; omega))))) (g_psub (wc := (zS_57 cB cC cI cJ a0 a1 a2 a3 a4 a5 a6 a7 a8 x2 y0 x3 a4 g0)) hP [0, 1] rfl) (hD.sub (ws' := (zS_57 cB cC cI cJ a0 a1 a2 a3 a4 a5 a6 a7 a8 x2 y0 x3 a4 g0)) [0, 1] (by decide) rfl) hS
theorem om_1265 {a b : Int} (h0 : ((-2147483648) ≤ a)) (h1 : (a ≤ 2147483647)) (h2 : (b > 0)) : (((((-2147483648) ≤ a ∧ a ≤ 2147483647) ∧ b > 0) ∨ (a = 0 ∧ b ≤ 0))) := by omega
theorem om_1266 {a b : Int} (h0 : (a = 0)) : (((((-2147483648) ≤ a ∧ a ≤ 2147483647) ∧ b > 0) ∨ (a = 0 ∧ b ≤ 0))) := by omega
set_option maxHeartbeats 4000000 in
set_option maxRecDepth 100000 in
theorem k_X7_shareOf (l : Launch) (D : va_G) (cB cC cI cJ : ClassId) (sz : Nat) (a0 a1 a2 a3 a4 a5 a6 a7 a8 : Nat) (x0 x1 x2 x3 : Int32) (y0 : Int64) (g0 : Nat → Int64) (hp1 : (0 ≤ x0.toInt ∧ x0.toInt ≤ 4)) (hp2 : (0 ≤ x1.toInt ∧ x1.toInt ≤ 7)) (h_x2 : zBd x2.toInt 0 10) (h_x3 : zBd x3.toInt 0 1) : Met l yX7_shareOf (.code yX7_shareOf cX7_shareOf 3 (some .int) :: lw_gd) ({ frames := 0, cells := 0, slots := 0, locals := 0 }) (gPre D [(cB, .byte), (cC, .char), (cI, .int), (cJ, .long)] [.ref a0, .int x0, .int x1] (zS_57 cB cC cI cJ a0 a1 a2 a3 a4 a5 a6 a7 a8 x2 y0 x3 a5 g0) sz) (va_Qi (fun r u => ((((-2147483648) ≤ r.toInt ∧ r.toInt ≤ 2147483647) ∧ y0.toInt > 0) ∨ (r.toInt = 0 ∧ y0.toInt ≤ 0))) (gB D (va_A (zS_57 cB cC cI cJ a0 a1 a2 a3 a4 a5 a6 a7 a8 x2 y0 x3 a5 g0) sz) (fun u : gEx => (zS_57 cB cC cI cJ a0 a1 a2 a3 a4 a5 a6 a7 a8 x2 y0 x3 a5 g0))) (va_A (zS_57 cB cC cI cJ a0 a1 a2 a3 a4 a5 a6 a7 a8 x2 y0 x3 a5 g0) sz)) 0 0 (va_A (zS_57 cB cC cI cJ a0 a1 a2 a3 a4 a5 a6 a7 a8 x2 y0 x3 a5 g0) sz) := by
  refine gOf_i (by decide +kernel) (Nat.le_of_ble_eq_true rfl) ?_
  intro p e s m args below meth c ls A Q hx hb hts hown hml hN hK hP hD hA hl hret
  replace hown : s.vm.findClass RX7 = some m.cls := hown
  have hS : va_S A s.heap s.heap [] := va_S.rf
  replace hP : va_P D gcl (zS_57 cB cC cI cJ a0 a1 a2 a3 a4 a5 a6 a7 a8 x2 y0 x3 a5 g0) s.heap := hP
  replace hl : lv_has ls 3 [(0, .ref a0), (1, .int x0), (2, .int x1)] := hl
  have ry0 := n_rngL y0
  refine lv_aload_n (pc := 0) hx hb dX7_shareOf_0 rfl (lv_at hl 0 rfl) ?_
  refine va_get (pc := 1) (ci := 7) (v := .long y0) (C := RX7) (T := TX7) (N := 11) hx hb hts iX7 hown hK hP 0 rfl rfl 9 (by decide) (hts _ tw_256) (fun _ h9 => h9) rfl dX7_shareOf_1 ?_
  refine lv_lconst (pc := 4) (v := 0) hx hb dX7_shareOf_4 (by decide) ?_
  refine b_lcmp_gt (pc := 5) (tgt := 11) hx hb rfl tL_0 dX7_shareOf_5 dX7_shareOf_6 (by decide) (fun c_1 => ?_) (fun c_1 => ?_)
  ·
    refine lv_ldc2 (pc := 11) hx hb hown (hts _ tw_1021) dX7_shareOf_11 ?_
    refine lv_aload_n (pc := 14) hx hb dX7_shareOf_14 rfl (lv_at hl 0 rfl) ?_
    refine va_get (pc := 15) (ci := 7) (v := .ref a5) (C := RX7) (T := TX7) (N := 11) hx hb hts iX7 hown hK hP 0 rfl rfl 4 (by decide) (hts _ tw_248) (fun _ h9 => h9) rfl dX7_shareOf_15 ?_
    refine lv_iload_n (pc := 18) hx hb dX7_shareOf_18 rfl (lv_at hl 1 rfl) ?_
    refine lv_bipush (pc := 19) (v := 8) hx hb dX7_shareOf_19 (by decide) ?_
    refine b_imul (pc := 21) hx hb rfl tI_8 (by first | exact (om_1222 hp1.1) | ((first | omega | (unfold zBd at *; omega)))) (by first | exact (om_1223 hp1.2) | ((first | omega | (unfold zBd at *; omega)))) dX7_shareOf_21 (fun x_2 ex_2 => ?_)
    refine lv_iload_n (pc := 22) hx hb dX7_shareOf_22 rfl (lv_at hl 2 rfl) ?_
    refine b_iadd (pc := 23) hx hb rfl rfl (by first | exact (om_1224 ex_2 hp2.1 hp1.1) | ((first | omega | (unfold zBd at *; omega)))) (by first | exact (om_1225 ex_2 hp2.2 hp1.2) | ((first | omega | (unfold zBd at *; omega)))) dX7_shareOf_23 (fun x_3 ex_3 => ?_)
    refine va_lald (pc := 24) hx hb hK hP 1 3 rfl rfl (n_in rfl (by first | exact (om_1226 ex_3 ex_2 hp2.1 hp1.1) | ((first | omega | (unfold zBd at *; omega)))) (by first | exact (om_1227 ex_3 ex_2 hp2.2 hp1.2) | ((first | omega | (unfold zBd at *; omega))))) dX7_shareOf_24 ?_
    refine lv_topl (fun y_4 ey_4 => ?_)
    have ry_4 := n_rngL y_4
    refine lv_lmul (pc := 25) hx hb dX7_shareOf_25 ?_
    refine lv_topl (fun y_5 _ => ?_)
    have ry_5 := n_rngL y_5
    refine lv_aload_n (pc := 26) hx hb dX7_shareOf_26 rfl (lv_at hl 0 rfl) ?_
    refine va_get (pc := 27) (ci := 7) (v := .long y0) (C := RX7) (T := TX7) (N := 11) hx hb hts iX7 hown hK hP 0 rfl rfl 9 (by decide) (hts _ tw_256) (fun _ h9 => h9) rfl dX7_shareOf_27 ?_
    refine lv_ldiv (pc := 30) hx hb dX7_shareOf_30 (fun h => by have q := congrArg Int64.toInt h; have k := tL_0; (first | omega | (unfold zBd at *; omega))) ?_
    refine lv_topl (fun y_6 _ => ?_)
    have ry_6 := n_rngL y_6
    refine lv_l2i (pc := 31) hx hb dX7_shareOf_31 rfl ?_
    refine lv_topi (fun x_7 _ => ?_)
    have rx_7 : zBd x_7.toInt (-2147483648) 2147483647 := n_rng x_7
    exact hret x_7 ((fun _ => 0), (fun _ => (fun _ => 0)), (fun _ => (fun _ => 0)), (fun _ => 0), (fun _ => 0)) dX7_shareOf_32 (show ((((-2147483648) ≤ x_7.toInt ∧ x_7.toInt ≤ 2147483647) ∧ y0.toInt > 0) ∨ (x_7.toInt = 0 ∧ y0.toInt ≤ 0)) from (by first | exact (om_1265 rx_7.1 rx_7.2 c_1) | ((first | omega | (unfold zBd at *; omega))))) (g_psub (wc := (zS_57 cB cC cI cJ a0 a1 a2 a3 a4 a5 a6 a7 a8 x2 y0 x3 a5 g0)) hP [0, 1] rfl) (hD.sub (ws' := (zS_57 cB cC cI cJ a0 a1 a2 a3 a4 a5 a6 a7 a8 x2 y0 x3 a5 g0)) [0, 1] (by decide) rfl) hS
  ·
    refine lv_iconst (pc := 9) (v := 0) hx hb dX7_shareOf_9 (by decide) ?_
    exact hret 0 ((fun _ => 0), (fun _ => (fun _ => 0)), (fun _ => (fun _ => 0)), (fun _ => 0), (fun _ => 0)) dX7_shareOf_10 (show ((((-2147483648) ≤ (0 : Int32).toInt ∧ (0 : Int32).toInt ≤ 2147483647) ∧ y0.toInt > 0) ∨ ((0 : Int32).toInt = 0 ∧ y0.toInt ≤ 0)) from (by first | exact (om_1266 tI_0) | (have k9 := tI_0; (first | omega | (unfold zBd at *; omega))))) (g_psub (wc := (zS_57 cB cC cI cJ a0 a1 a2 a3 a4 a5 a6 a7 a8 x2 y0 x3 a5 g0)) hP [0, 1] rfl) (hD.sub (ws' := (zS_57 cB cC cI cJ a0 a1 a2 a3 a4 a5 a6 a7 a8 x2 y0 x3 a5 g0)) [0, 1] (by decide) rfl) hS
