set_option maxHeartbeats 4000000 in
set_option maxRecDepth 100000 in
theorem k_X7_findTurns (l : Launch) (D : va_G) (cB cC cI cJ : ClassId) (sz : Nat) (a0 a1 a2 a3 a4 a5 a6 a7 a8 a9 a10 a11 a12 a13 : Nat) (x0 x1 x2 x3 x4 x5 x6 x7 x8 : Int32) (y0 : Int64) (f0 f1 : Nat → Int32) (h_x0 : (0 ≤ x0.toInt ∧ x0.toInt ≤ 10)) (h_x1 : (0 ≤ x1.toInt ∧ x1.toInt ≤ 1)) (hf_f0 : (∀ j, 0 ≤ (f0 j).toInt ∧ (f0 j).toInt ≤ 4)) (h_x2 : ((-1) ≤ x2.toInt ∧ x2.toInt ≤ 8)) (h_x3 : ((-1) ≤ x3.toInt ∧ x3.toInt ≤ 5)) (h_x4 : ((-1) ≤ x4.toInt ∧ x4.toInt ≤ 6)) (h_x5 : (0 ≤ x5.toInt ∧ x5.toInt ≤ 6)) (h_x6 : (0 ≤ x6.toInt ∧ x6.toInt ≤ 16)) : Met l yX7_findTurns (.code yX7_findTurns cX7_findTurns 5 none :: lw_gd) ({ frames := 2, cells := 0, slots := 0, locals := 46 }) (gPre D [(cB, .byte), (cC, .char), (cI, .int), (cJ, .long)] [.ref a0, .ref a1] [(a0, .inr (7, [.ref a2, .ref a3, .ref a4, .ref a5, .ref a6, .ref a7, .ref a8, .ref a9, .int x0, .long y0, .int x1])), (a7, .inl (cI, 5, .inl f0)), (a1, .inr (1, [.ref a10, .ref a11, .ref a12, .int x2, .int x3, .int x4, .int x5, .int x6, .int x7, .int x8])), (a10, .inr (8, [.ref a13])), (a13, .inl (cI, 30, .inl f1))] sz) (va_Qv (fun u => (∀ j, 0 ≤ ((u.2.1 0) j).toInt ∧ ((u.2.1 0) j).toInt ≤ 4) ∧ (tJ (u.2.1 0) (fun s => (dw f1 s s 6).toInt) x3.toInt)) (gB D (va_A [(a0, .inr (7, [.ref a2, .ref a3, .ref a4, .ref a5, .ref a6, .ref a7, .ref a8, .ref a9, .int x0, .long y0, .int x1])), (a7, .inl (cI, 5, .inl f0)), (a1, .inr (1, [.ref a10, .ref a11, .ref a12, .int x2, .int x3, .int x4, .int x5, .int x6, .int x7, .int x8])), (a10, .inr (8, [.ref a13])), (a13, .inl (cI, 30, .inl f1))] sz) (fun u : gEx => [(a0, .inr (7, [.ref a2, .ref a3, .ref a4, .ref a5, .ref a6, .ref a7, .ref a8, .ref a9, .int x0, .long y0, .int x1])), (a7, .inl (cI, 5, .inl (u.2.1 0))), (a1, .inr (1, [.ref a10, .ref a11, .ref a12, .int x2, .int x3, .int x4, .int x5, .int x6, .int x7, .int x8])), (a10, .inr (8, [.ref a13])), (a13, .inl (cI, 30, .inl f1))])) (va_A [(a0, .inr (7, [.ref a2, .ref a3, .ref a4, .ref a5, .ref a6, .ref a7, .ref a8, .ref a9, .int x0, .long y0, .int x1])), (a7, .inl (cI, 5, .inl f0)), (a1, .inr (1, [.ref a10, .ref a11, .ref a12, .int x2, .int x3, .int x4, .int x5, .int x6, .int x7, .int x8])), (a10, .inr (8, [.ref a13])), (a13, .inl (cI, 30, .inl f1))] sz)) 0 0 (va_A [(a0, .inr (7, [.ref a2, .ref a3, .ref a4, .ref a5, .ref a6, .ref a7, .ref a8, .ref a9, .int x0, .long y0, .int x1])), (a7, .inl (cI, 5, .inl f0)), (a1, .inr (1, [.ref a10, .ref a11, .ref a12, .int x2, .int x3, .int x4, .int x5, .int x6, .int x7, .int x8])), (a10, .inr (8, [.ref a13])), (a13, .inl (cI, 30, .inl f1))] sz) := by
  refine gOf_v (by decide +kernel) (Nat.le_of_ble_eq_true rfl) ?_
  intro p e s m args below meth c ls A Q hx hb hts hown hml hN hK hP hD hA hl hret
  replace hown : s.vm.findClass RX7 = some m.cls := hown
  have hS : va_S A s.heap s.heap [] := va_S.rf
  replace hP : va_P D gcl [(a0, .inr (7, [.ref a2, .ref a3, .ref a4, .ref a5, .ref a6, .ref a7, .ref a8, .ref a9, .int x0, .long y0, .int x1])), (a7, .inl (cI, 5, .inl f0)), (a1, .inr (1, [.ref a10, .ref a11, .ref a12, .int x2, .int x3, .int x4, .int x5, .int x6, .int x7, .int x8])), (a10, .inr (8, [.ref a13])), (a13, .inl (cI, 30, .inl f1))] s.heap := hP
  replace hl : lv_has ls 5 [(0, .ref a0), (1, .ref a1)] := hl
  have ry0 := n_rngL y0
  have rx7 := n_rng x7
  have rx8 := n_rng x8
  refine lv_iconst (pc := 0) (v := 0) hx hb dX7_findTurns_0 (by decide) ?_
  refine lv_istore_n (pc := 1) (lv' := [(2, .int 0), (0, .ref a0), (1, .ref a1)]) hx hb dX7_findTurns_1 rfl hl (by decide) rfl (fun ls hl => ?_)
  have lp_7 : ∀ (n : Nat) (x_1 : Int32) (f_3 : Nat → Int32) (H : Heap) (locs : List Loc) (ls : Array Slot), (0 ≤ x_1.toInt ∧ x_1.toInt ≤ 5) → (∀ j, 0 ≤ (f_3 j).toInt ∧ (f_3 j).toInt ≤ 4) → (x_1.toInt ≤ x3.toInt ∨ x_1.toInt = 0) → (tJ f_3 (fun s => (dw f1 s s 6).toInt) x_1.toInt) → (2147483647 - x_1.toInt).toNat < n → va_P D gcl [(a0, .inr (7, [.ref a2, .ref a3, .ref a4, .ref a5, .ref a6, .ref a7, .ref a8, .ref a9, .int x0, .long y0, .int x1])), (a7, .inl (cI, 5, .inl f_3)), (a1, .inr (1, [.ref a10, .ref a11, .ref a12, .int x2, .int x3, .int x4, .int x5, .int x6, .int x7, .int x8])), (a10, .inr (8, [.ref a13])), (a13, .inl (cI, 30, .inl f1))] H → va_D A [(a0, .inr (7, [.ref a2, .ref a3, .ref a4, .ref a5, .ref a6, .ref a7, .ref a8, .ref a9, .int x0, .long y0, .int x1])), (a7, .inl (cI, 5, .inl f_3)), (a1, .inr (1, [.ref a10, .ref a11, .ref a12, .int x2, .int x3, .int x4, .int x5, .int x6, .int x7, .int x8])), (a10, .inr (8, [.ref a13])), (a13, .inl (cI, 30, .inl f1))] → va_S A s.heap H locs → lv_has ls 5 [(2, .int x_1), (0, .ref a0), (1, .ref a1)] → W p l e ({ frames := 2, cells := 0, slots := 0, locals := 46 }) s m args below meth c H locs 0 0 Q (F0 m 2 ls []) := by
    intro n
    induction n with
    | zero => intro x_1 f_3 H locs ls hi_2 hi_4 hi_5 hi_6 hmu; exact absurd hmu (Nat.not_lt_zero _)
    | succ n ih_lp_7 =>
      intro x_1 f_3 H locs ls hi_2 hi_4 hi_5 hi_6 hmu_lp_7 hP hD hS hl
      refine lv_iload_n (pc := 2) hx hb dX7_findTurns_2 rfl (lv_at hl 0 rfl) ?_
      refine lv_aload_n (pc := 3) hx hb dX7_findTurns_3 rfl (lv_at hl 2 rfl) ?_
      refine va_getN (pc := 4) (ci := 1) (v := .int x3) (C := RX1) (T := TX1) (N := 10) hx hb hts iX1 hown hK hP 2 rfl rfl 4 (by decide) (va_Nw.use rfl (hN _ tn_120)) (fun _ h9 => h9) rfl dX7_findTurns_4 ?_
      refine b_icmp_ge (pc := 7) (tgt := 93) hx hb rfl rfl  dX7_findTurns_7 (by decide) (fun c_8 => ?_) (fun c_8 => ?_)
      ·
        exact hret ((fun _ => 0), (fun k => [f_3].getD k (fun _ => 0)), (fun _ => (fun _ => 0)), (fun _ => 0), (fun _ => 0)) dX7_findTurns_93 ⟨hi_4, (show tJ f_3 (fun s => (dw f1 s s 6).toInt) x3.toInt from tJ_k hi_6 (by omega))⟩ (g_psub (wc := [(a0, .inr (7, [.ref a2, .ref a3, .ref a4, .ref a5, .ref a6, .ref a7, .ref a8, .ref a9, .int x0, .long y0, .int x1])), (a7, .inl (cI, 5, .inl f_3)), (a1, .inr (1, [.ref a10, .ref a11, .ref a12, .int x2, .int x3, .int x4, .int x5, .int x6, .int x7, .int x8])), (a10, .inr (8, [.ref a13])), (a13, .inl (cI, 30, .inl f1))]) hP [0, 1, 2, 3, 4] rfl) (hD.sub (ws' := [(a0, .inr (7, [.ref a2, .ref a3, .ref a4, .ref a5, .ref a6, .ref a7, .ref a8, .ref a9, .int x0, .long y0, .int x1])), (a7, .inl (cI, 5, .inl f_3)), (a1, .inr (1, [.ref a10, .ref a11, .ref a12, .int x2, .int x3, .int x4, .int x5, .int x6, .int x7, .int x8])), (a10, .inr (8, [.ref a13])), (a13, .inl (cI, 30, .inl f1))]) [0, 1, 2, 3, 4] (by decide) rfl) hS
      ·
        refine lv_aload_n (pc := 10) hx hb dX7_findTurns_10 rfl (lv_at hl 2 rfl) ?_
        refine va_getN (pc := 11) (ci := 1) (v := .ref a10) (C := RX1) (T := TX1) (N := 10) hx hb hts iX1 hown hK hP 2 rfl rfl 0 (by decide) (va_Nw.use rfl (hN _ tn_103)) (fun _ h9 => h9) rfl dX7_findTurns_11 ?_
        refine lv_iload_n (pc := 14) hx hb dX7_findTurns_14 rfl (lv_at hl 0 rfl) ?_
        refine lv_iload_n (pc := 15) hx hb dX7_findTurns_15 rfl (lv_at hl 0 rfl) ?_
        refine gc_i (pc := 16) (wc := [(a10, .inr (8, [.ref a13])), (a13, .inl (cI, 30, .inl f1))]) (wr := [(a0, .inr (7, [.ref a2, .ref a3, .ref a4, .ref a5, .ref a6, .ref a7, .ref a8, .ref a9, .int x0, .long y0, .int x1])), (a7, .inl (cI, 5, .inl f_3)), (a1, .inr (1, [.ref a10, .ref a11, .ref a12, .int x2, .int x3, .int x4, .int x5, .int x6, .int x7, .int x8]))]) hP hD hS hA [3, 4] [0, 1, 2] rfl rfl (by decide) (by decide) (by decide) (fun hPc hDc => va_runV (As := [.int x_1, .int x_1]) (rest := []) ⟨hx, hb, hml, hown, hts⟩ (k_X8_productOf_w l D cB cC cI cJ _ a10 a13 x_1 x_1 f1 (by  omega) (by  omega)) ⟨gcwB hts tw_799 tw_5 tw_981 hd_yX8_productOf ⟨Nat.le_of_ble_eq_true rfl, Nat.le_of_ble_eq_true rfl⟩, hts _ tw_797, hts _ tw_798⟩ ⟨gblind, va_recv hK hPc (ci := 8) (q0 := 0) rfl rfl, (gpreS hPc hK hDc hN).2⟩ rfl rfl hl.1 rfl (lv_room (Nat.le_of_ble_eq_true rfl)) dX7_findTurns_16 ⟨Nat.le_of_ble_eq_true rfl, Nat.le_of_ble_eq_true rfl⟩) (fun r_10 u_9 H locs hw_11 hP hD hS => ?_)
        replace hP : va_P D gcl [(a0, .inr (7, [.ref a2, .ref a3, .ref a4, .ref a5, .ref a6, .ref a7, .ref a8, .ref a9, .int x0, .long y0, .int x1])), (a7, .inl (cI, 5, .inl f_3)), (a1, .inr (1, [.ref a10, .ref a11, .ref a12, .int x2, .int x3, .int x4, .int x5, .int x6, .int x7, .int x8])), (a10, .inr (8, [.ref a13])), (a13, .inl (cI, 30, .inl f1))] H := hP
        replace hD : va_D A [(a0, .inr (7, [.ref a2, .ref a3, .ref a4, .ref a5, .ref a6, .ref a7, .ref a8, .ref a9, .int x0, .long y0, .int x1])), (a7, .inl (cI, 5, .inl f_3)), (a1, .inr (1, [.ref a10, .ref a11, .ref a12, .int x2, .int x3, .int x4, .int x5, .int x6, .int x7, .int x8])), (a10, .inr (8, [.ref a13])), (a13, .inl (cI, 30, .inl f1))] := hD
        have hw_12 : (r_10 = dw f1 x_1.toInt x_1.toInt 6) := hw_11
        have rr_10 := n_rng r_10
        refine lv_istore_n (pc := 19) (lv' := [(3, .int r_10), (2, .int x_1), (0, .ref a0), (1, .ref a1)]) hx hb dX7_findTurns_19 rfl hl (by decide) rfl (fun ls hl => ?_)
        refine lv_iload_n (pc := 20) hx hb dX7_findTurns_20 rfl (lv_at hl 1 rfl) ?_
        refine lv_istore (pc := 21) (lv' := [(4, .int x_1), (3, .int r_10), (2, .int x_1), (0, .ref a0), (1, .ref a1)]) hx hb dX7_findTurns_21 hl (by decide) rfl (fun ls hl => ?_)
        have lp_19 : ∀ (n : Nat) (x_13 : Int32) (f_15 : Nat → Int32) (H : Heap) (locs : List Loc) (ls : Array Slot), (0 ≤ x_13.toInt ∧ x_13.toInt ≤ 4) → (∀ j, 0 ≤ (f_15 j).toInt ∧ (f_15 j).toInt ≤ 4) → (x_13.toInt ≤ x_1.toInt) → (tW f_3 f_15 (fun s => (dw f1 s s 6).toInt) x_1.toInt r_10.toInt x_13.toInt) → (x_13.toInt + 2147483648).toNat < n → va_P D gcl [(a0, .inr (7, [.ref a2, .ref a3, .ref a4, .ref a5, .ref a6, .ref a7, .ref a8, .ref a9, .int x0, .long y0, .int x1])), (a7, .inl (cI, 5, .inl f_15)), (a1, .inr (1, [.ref a10, .ref a11, .ref a12, .int x2, .int x3, .int x4, .int x5, .int x6, .int x7, .int x8])), (a10, .inr (8, [.ref a13])), (a13, .inl (cI, 30, .inl f1))] H → va_D A [(a0, .inr (7, [.ref a2, .ref a3, .ref a4, .ref a5, .ref a6, .ref a7, .ref a8, .ref a9, .int x0, .long y0, .int x1])), (a7, .inl (cI, 5, .inl f_15)), (a1, .inr (1, [.ref a10, .ref a11, .ref a12, .int x2, .int x3, .int x4, .int x5, .int x6, .int x7, .int x8])), (a10, .inr (8, [.ref a13])), (a13, .inl (cI, 30, .inl f1))] → va_S A s.heap H locs → lv_has ls 5 [(4, .int x_13), (3, .int r_10), (2, .int x_1), (0, .ref a0), (1, .ref a1)] → W p l e ({ frames := 2, cells := 0, slots := 0, locals := 46 }) s m args below meth c H locs 0 0 Q (F0 m 23 ls []) := by
          intro n
          induction n with
          | zero => intro x_13 f_15 H locs ls hi_14 hi_16 hi_17 hi_18 hmu; exact absurd hmu (Nat.not_lt_zero _)
          | succ n ih_lp_19 =>
            intro x_13 f_15 H locs ls hi_14 hi_16 hi_17 hi_18 hmu_lp_19 hP hD hS hl
            refine lv_iload (pc := 23) hx hb dX7_findTurns_23 (lv_at hl 0 rfl) ?_
            refine b_if_le (pc := 25) (tgt := 79) hx hb rfl  dX7_findTurns_25 (by decide) (fun c_20 => ?_) (fun c_20 => ?_)
            ·
              refine lv_aload_n (pc := 79) hx hb dX7_findTurns_79 rfl (lv_at hl 3 rfl) ?_
              refine va_get (pc := 80) (ci := 7) (v := .ref a7) (C := RX7) (T := TX7) (N := 11) hx hb hts iX7 hown hK hP 0 rfl rfl 5 (by decide) (hts _ tw_249) (fun _ h9 => h9) rfl dX7_findTurns_80 ?_
              refine lv_iload (pc := 83) hx hb dX7_findTurns_83 (lv_at hl 0 rfl) ?_
              refine lv_iload_n (pc := 85) hx hb dX7_findTurns_85 rfl (lv_at hl 2 rfl) ?_
              refine e_iastore (pc := 86) hx hb hK hP hD hS 1 2 rfl rfl (n_in rfl (by omega) (by omega)) dX7_findTurns_86 (fun f_21 ef_21 H locs hP hD hS => ?_)
              have hf_21 : (∀ j, 0 ≤ (f_21 j).toInt ∧ (f_21 j).toInt ≤ 4) := by rw [ef_21]; exact n_upd hi_16 (by omega) (by omega)
              replace hP : va_P D gcl [(a0, .inr (7, [.ref a2, .ref a3, .ref a4, .ref a5, .ref a6, .ref a7, .ref a8, .ref a9, .int x0, .long y0, .int x1])), (a7, .inl (cI, 5, .inl f_21)), (a1, .inr (1, [.ref a10, .ref a11, .ref a12, .int x2, .int x3, .int x4, .int x5, .int x6, .int x7, .int x8])), (a10, .inr (8, [.ref a13])), (a13, .inl (cI, 30, .inl f1))] H := hP
              replace hD : va_D A [(a0, .inr (7, [.ref a2, .ref a3, .ref a4, .ref a5, .ref a6, .ref a7, .ref a8, .ref a9, .int x0, .long y0, .int x1])), (a7, .inl (cI, 5, .inl f_21)), (a1, .inr (1, [.ref a10, .ref a11, .ref a12, .int x2, .int x3, .int x4, .int x5, .int x6, .int x7, .int x8])), (a10, .inr (8, [.ref a13])), (a13, .inl (cI, 30, .inl f1))] := hD
              refine b_iinc (pc := 87) hx hb dX7_findTurns_87 hl (k := 2) rfl rfl tI_1 (by omega) (by omega) (by decide) (fun x_22 ex_22 ls hl => ?_)
              replace hl : lv_has ls 5 [(2, .int x_22), (4, .int x_13), (3, .int r_10), (0, .ref a0), (1, .ref a1)] := hl
              refine lv_goto (pc := 90) (tgt := 2) hx hb dX7_findTurns_90 (by decide) ?_
              exact ih_lp_7 x_22 f_21 _ _ ls (by omega) hf_21 (by omega) (tJ_ins0 hi_6 hi_18 (fun _ => rfl) (by omega) hw_12 rfl ef_21 (by omega) rfl (by omega) (by omega)) (by omega) hP hD hS (lv_sub hl [0, 3, 4] rfl)
            ·
              refine lv_aload_n (pc := 28) hx hb dX7_findTurns_28 rfl (lv_at hl 4 rfl) ?_
              refine va_getN (pc := 29) (ci := 1) (v := .ref a10) (C := RX1) (T := TX1) (N := 10) hx hb hts iX1 hown hK hP 2 rfl rfl 0 (by decide) (va_Nw.use rfl (hN _ tn_103)) (fun _ h9 => h9) rfl dX7_findTurns_29 ?_
              refine lv_aload_n (pc := 32) hx hb dX7_findTurns_32 rfl (lv_at hl 3 rfl) ?_
              refine va_get (pc := 33) (ci := 7) (v := .ref a7) (C := RX7) (T := TX7) (N := 11) hx hb hts iX7 hown hK hP 0 rfl rfl 5 (by decide) (hts _ tw_249) (fun _ h9 => h9) rfl dX7_findTurns_33 ?_
              refine lv_iload (pc := 36) hx hb dX7_findTurns_36 (lv_at hl 0 rfl) ?_
              refine lv_iconst (pc := 38) (v := 1) hx hb dX7_findTurns_38 (by decide) ?_
              refine b_isub (pc := 39) hx hb rfl tI_1 (by omega) (by omega) dX7_findTurns_39 (fun x_23 ex_23 => ?_)
              refine va_iald (pc := 40) hx hb hK hP 1 2 rfl rfl (n_in rfl (by omega) (by omega)) dX7_findTurns_40 ?_
              refine lv_topi (fun x_24 ex_24 => ?_)
              have rx_24 : (0 ≤ x_24.toInt ∧ x_24.toInt ≤ 4) := by rw [ex_24]; exact hi_16 _
              replace ex_24 : x_24 = f_15 (x_23.toInt).toNat := ex_24
              have tx_24 := congrArg Int32.toInt ex_24
              refine lv_aload_n (pc := 41) hx hb dX7_findTurns_41 rfl (lv_at hl 3 rfl) ?_
              refine va_get (pc := 42) (ci := 7) (v := .ref a7) (C := RX7) (T := TX7) (N := 11) hx hb hts iX7 hown hK hP 0 rfl rfl 5 (by decide) (hts _ tw_249) (fun _ h9 => h9) rfl dX7_findTurns_42 ?_
              refine lv_iload (pc := 45) hx hb dX7_findTurns_45 (lv_at hl 0 rfl) ?_
              refine lv_iconst (pc := 47) (v := 1) hx hb dX7_findTurns_47 (by decide) ?_
              refine b_isub (pc := 48) hx hb rfl tI_1 (by omega) (by omega) dX7_findTurns_48 (fun x_25 ex_25 => ?_)
              refine va_iald (pc := 49) hx hb hK hP 1 2 rfl rfl (n_in rfl (by omega) (by omega)) dX7_findTurns_49 ?_
              refine lv_topi (fun x_26 ex_26 => ?_)
              have rx_26 : (0 ≤ x_26.toInt ∧ x_26.toInt ≤ 4) := by rw [ex_26]; exact hi_16 _
              replace ex_26 : x_26 = f_15 (x_25.toInt).toNat := ex_26
              have tx_26 := congrArg Int32.toInt ex_26
              refine gc_i (pc := 50) (wc := [(a10, .inr (8, [.ref a13])), (a13, .inl (cI, 30, .inl f1))]) (wr := [(a0, .inr (7, [.ref a2, .ref a3, .ref a4, .ref a5, .ref a6, .ref a7, .ref a8, .ref a9, .int x0, .long y0, .int x1])), (a7, .inl (cI, 5, .inl f_15)), (a1, .inr (1, [.ref a10, .ref a11, .ref a12, .int x2, .int x3, .int x4, .int x5, .int x6, .int x7, .int x8]))]) hP hD hS hA [3, 4] [0, 1, 2] rfl rfl (by decide) (by decide) (by decide) (fun hPc hDc => va_runV (As := [.int x_24, .int x_26]) (rest := []) ⟨hx, hb, hml, hown, hts⟩ (k_X8_productOf_w l D cB cC cI cJ _ a10 a13 x_24 x_26 f1 rx_24 rx_26) ⟨gcwB hts tw_799 tw_5 tw_981 hd_yX8_productOf ⟨Nat.le_of_ble_eq_true rfl, Nat.le_of_ble_eq_true rfl⟩, hts _ tw_797, hts _ tw_798⟩ ⟨gblind, va_recv hK hPc (ci := 8) (q0 := 0) rfl rfl, (gpreS hPc hK hDc hN).2⟩ rfl rfl hl.1 rfl (lv_room (Nat.le_of_ble_eq_true rfl)) dX7_findTurns_50 ⟨Nat.le_of_ble_eq_true rfl, Nat.le_of_ble_eq_true rfl⟩) (fun r_28 u_27 H locs hw_29 hP hD hS => ?_)
              replace hP : va_P D gcl [(a0, .inr (7, [.ref a2, .ref a3, .ref a4, .ref a5, .ref a6, .ref a7, .ref a8, .ref a9, .int x0, .long y0, .int x1])), (a7, .inl (cI, 5, .inl f_15)), (a1, .inr (1, [.ref a10, .ref a11, .ref a12, .int x2, .int x3, .int x4, .int x5, .int x6, .int x7, .int x8])), (a10, .inr (8, [.ref a13])), (a13, .inl (cI, 30, .inl f1))] H := hP
              replace hD : va_D A [(a0, .inr (7, [.ref a2, .ref a3, .ref a4, .ref a5, .ref a6, .ref a7, .ref a8, .ref a9, .int x0, .long y0, .int x1])), (a7, .inl (cI, 5, .inl f_15)), (a1, .inr (1, [.ref a10, .ref a11, .ref a12, .int x2, .int x3, .int x4, .int x5, .int x6, .int x7, .int x8])), (a10, .inr (8, [.ref a13])), (a13, .inl (cI, 30, .inl f1))] := hD
              have hw_30 : (r_28 = dw f1 x_24.toInt x_26.toInt 6) := hw_29
              have rr_28 := n_rng r_28
              refine lv_iload_n (pc := 53) hx hb dX7_findTurns_53 rfl (lv_at hl 1 rfl) ?_
              refine b_icmp_ge (pc := 54) (tgt := 79) hx hb rfl rfl  dX7_findTurns_54 (by decide) (fun c_31 => ?_) (fun c_31 => ?_)
              ·
                refine lv_aload_n (pc := 79) hx hb dX7_findTurns_79 rfl (lv_at hl 3 rfl) ?_
                refine va_get (pc := 80) (ci := 7) (v := .ref a7) (C := RX7) (T := TX7) (N := 11) hx hb hts iX7 hown hK hP 0 rfl rfl 5 (by decide) (hts _ tw_249) (fun _ h9 => h9) rfl dX7_findTurns_80 ?_
                refine lv_iload (pc := 83) hx hb dX7_findTurns_83 (lv_at hl 0 rfl) ?_
                refine lv_iload_n (pc := 85) hx hb dX7_findTurns_85 rfl (lv_at hl 2 rfl) ?_
                refine e_iastore (pc := 86) hx hb hK hP hD hS 1 2 rfl rfl (n_in rfl (by omega) (by omega)) dX7_findTurns_86 (fun f_32 ef_32 H locs hP hD hS => ?_)
                have hf_32 : (∀ j, 0 ≤ (f_32 j).toInt ∧ (f_32 j).toInt ≤ 4) := by rw [ef_32]; exact n_upd hi_16 (by omega) (by omega)
                replace hP : va_P D gcl [(a0, .inr (7, [.ref a2, .ref a3, .ref a4, .ref a5, .ref a6, .ref a7, .ref a8, .ref a9, .int x0, .long y0, .int x1])), (a7, .inl (cI, 5, .inl f_32)), (a1, .inr (1, [.ref a10, .ref a11, .ref a12, .int x2, .int x3, .int x4, .int x5, .int x6, .int x7, .int x8])), (a10, .inr (8, [.ref a13])), (a13, .inl (cI, 30, .inl f1))] H := hP
                replace hD : va_D A [(a0, .inr (7, [.ref a2, .ref a3, .ref a4, .ref a5, .ref a6, .ref a7, .ref a8, .ref a9, .int x0, .long y0, .int x1])), (a7, .inl (cI, 5, .inl f_32)), (a1, .inr (1, [.ref a10, .ref a11, .ref a12, .int x2, .int x3, .int x4, .int x5, .int x6, .int x7, .int x8])), (a10, .inr (8, [.ref a13])), (a13, .inl (cI, 30, .inl f1))] := hD
                refine b_iinc (pc := 87) hx hb dX7_findTurns_87 hl (k := 2) rfl rfl tI_1 (by omega) (by omega) (by decide) (fun x_33 ex_33 ls hl => ?_)
                replace hl : lv_has ls 5 [(2, .int x_33), (4, .int x_13), (3, .int r_10), (0, .ref a0), (1, .ref a1)] := hl
                refine lv_goto (pc := 90) (tgt := 2) hx hb dX7_findTurns_90 (by decide) ?_
                exact ih_lp_7 x_33 f_32 _ _ ls (by omega) hf_32 (by omega) (tJ_ins1 hi_6 hi_18 (fun _ => rfl) ex_24 (by omega) ex_26 (by omega) hw_30 (by omega) (by omega) hw_12 rfl ef_32 (by omega) rfl (by omega) (by omega)) (by omega) hP hD hS (lv_sub hl [0, 3, 4] rfl)
              ·
                refine lv_aload_n (pc := 57) hx hb dX7_findTurns_57 rfl (lv_at hl 3 rfl) ?_
                refine va_get (pc := 58) (ci := 7) (v := .ref a7) (C := RX7) (T := TX7) (N := 11) hx hb hts iX7 hown hK hP 0 rfl rfl 5 (by decide) (hts _ tw_249) (fun _ h9 => h9) rfl dX7_findTurns_58 ?_
                refine lv_iload (pc := 61) hx hb dX7_findTurns_61 (lv_at hl 0 rfl) ?_
                refine lv_aload_n (pc := 63) hx hb dX7_findTurns_63 rfl (lv_at hl 3 rfl) ?_
                refine va_get (pc := 64) (ci := 7) (v := .ref a7) (C := RX7) (T := TX7) (N := 11) hx hb hts iX7 hown hK hP 0 rfl rfl 5 (by decide) (hts _ tw_249) (fun _ h9 => h9) rfl dX7_findTurns_64 ?_
                refine lv_iload (pc := 67) hx hb dX7_findTurns_67 (lv_at hl 0 rfl) ?_
                refine lv_iconst (pc := 69) (v := 1) hx hb dX7_findTurns_69 (by decide) ?_
                refine b_isub (pc := 70) hx hb rfl tI_1 (by omega) (by omega) dX7_findTurns_70 (fun x_34 ex_34 => ?_)
                refine va_iald (pc := 71) hx hb hK hP 1 2 rfl rfl (n_in rfl (by omega) (by omega)) dX7_findTurns_71 ?_
                refine lv_topi (fun x_35 ex_35 => ?_)
                have rx_35 : (0 ≤ x_35.toInt ∧ x_35.toInt ≤ 4) := by rw [ex_35]; exact hi_16 _
                replace ex_35 : x_35 = f_15 (x_34.toInt).toNat := ex_35
                have tx_35 := congrArg Int32.toInt ex_35
                refine e_iastore (pc := 72) hx hb hK hP hD hS 1 2 rfl rfl (n_in rfl (by omega) (by omega)) dX7_findTurns_72 (fun f_36 ef_36 H locs hP hD hS => ?_)
                have hf_36 : (∀ j, 0 ≤ (f_36 j).toInt ∧ (f_36 j).toInt ≤ 4) := by rw [ef_36]; exact n_upd hi_16 (by omega) (by omega)
                replace hP : va_P D gcl [(a0, .inr (7, [.ref a2, .ref a3, .ref a4, .ref a5, .ref a6, .ref a7, .ref a8, .ref a9, .int x0, .long y0, .int x1])), (a7, .inl (cI, 5, .inl f_36)), (a1, .inr (1, [.ref a10, .ref a11, .ref a12, .int x2, .int x3, .int x4, .int x5, .int x6, .int x7, .int x8])), (a10, .inr (8, [.ref a13])), (a13, .inl (cI, 30, .inl f1))] H := hP
                replace hD : va_D A [(a0, .inr (7, [.ref a2, .ref a3, .ref a4, .ref a5, .ref a6, .ref a7, .ref a8, .ref a9, .int x0, .long y0, .int x1])), (a7, .inl (cI, 5, .inl f_36)), (a1, .inr (1, [.ref a10, .ref a11, .ref a12, .int x2, .int x3, .int x4, .int x5, .int x6, .int x7, .int x8])), (a10, .inr (8, [.ref a13])), (a13, .inl (cI, 30, .inl f1))] := hD
                refine b_iinc (pc := 73) hx hb dX7_findTurns_73 hl (k := 0) rfl rfl tI_m1 (by omega) (by omega) (by decide) (fun x_37 ex_37 ls hl => ?_)
                replace hl : lv_has ls 5 [(4, .int x_37), (3, .int r_10), (2, .int x_1), (0, .ref a0), (1, .ref a1)] := hl
                refine lv_goto (pc := 76) (tgt := 23) hx hb dX7_findTurns_76 (by decide) ?_
                exact ih_lp_19 x_37 f_36 _ _ ls (by omega) hf_36 (by omega) (tW_step hi_18 (fun _ => rfl) ex_24 (by omega) ex_26 (by omega) hw_30 (by omega) ex_35 (by omega) ef_36 (by omega) (by omega) (by omega)) (by omega) hP hD hS (lv_sub hl [0, 1, 2, 3, 4] rfl)
        exact lp_19 _ x_1 f_3 _ _ ls (by omega) hi_4 (by omega) (tW_0 rfl) (Nat.lt_succ_self _) hP hD hS (lv_sub hl [0, 1, 2, 3, 4] rfl)
  exact lp_7 _ 0 f0 _ _ ls (n_c tI_0 (by decide)) hf_f0 (by have q := tI_0; omega) (tJ_0 tI_0) (Nat.lt_succ_self _) hP hD hS (lv_sub hl [0, 1, 2] rfl)
set_option maxHeartbeats 4000000 in
set_option maxRecDepth 100000 in
theorem k_X7_squaresWith (l : Launch) (D : va_G) (cB cC cI cJ : ClassId) (sz : Nat) (a0 a1 a2 a3 a4 a5 a6 a7 a8 a9 a10 a11 a12 a13 : Nat) (x0 x1 x2 x3 x4 x5 x6 x7 x8 x9 x10 : Int32) (y0 : Int64) (f0 f1 : Nat → Int32) (hp2 : (0 ≤ x0.toInt ∧ x0.toInt ≤ 4)) (h_x2 : (0 ≤ x2.toInt ∧ x2.toInt ≤ 10)) (h_x3 : (0 ≤ x3.toInt ∧ x3.toInt ≤ 1)) (h_x4 : ((-1) ≤ x4.toInt ∧ x4.toInt ≤ 8)) (h_x5 : ((-1) ≤ x5.toInt ∧ x5.toInt ≤ 5)) (h_x6 : ((-1) ≤ x6.toInt ∧ x6.toInt ≤ 6)) (h_x7 : (0 ≤ x7.toInt ∧ x7.toInt ≤ 6)) (h_x8 : (0 ≤ x8.toInt ∧ x8.toInt ≤ 16)) : Met l yX7_squaresWith (.code yX7_squaresWith cX7_squaresWith 9 (some .long) :: lw_gd) ({ frames := 1, cells := 0, slots := 0, locals := 22 }) (gPre D [(cB, .byte), (cC, .char), (cI, .int), (cJ, .long)] [.ref a0, .ref a1, .int x0, .int x1] [(a0, .inr (7, [.ref a2, .ref a3, .ref a4, .ref a5, .ref a6, .ref a7, .ref a8, .ref a9, .int x2, .long y0, .int x3])), (a1, .inr (1, [.ref a10, .ref a11, .ref a12, .int x4, .int x5, .int x6, .int x7, .int x8, .int x9, .int x10])), (a9, .inl (cI, 6, .inl f0)), (a10, .inr (8, [.ref a13])), (a13, .inl (cI, 30, .inl f1))] sz) (va_Ql (fun r u => ((((-9223372036854775808) ≤ r.toInt ∧ r.toInt ≤ 9223372036854775807) ∧ ((-1) ≤ x6.toInt ∧ x6.toInt ≤ 6)))) (gB D (va_A [(a0, .inr (7, [.ref a2, .ref a3, .ref a4, .ref a5, .ref a6, .ref a7, .ref a8, .ref a9, .int x2, .long y0, .int x3])), (a1, .inr (1, [.ref a10, .ref a11, .ref a12, .int x4, .int x5, .int x6, .int x7, .int x8, .int x9, .int x10])), (a9, .inl (cI, 6, .inl f0)), (a10, .inr (8, [.ref a13])), (a13, .inl (cI, 30, .inl f1))] sz) (fun u : gEx => [(a0, .inr (7, [.ref a2, .ref a3, .ref a4, .ref a5, .ref a6, .ref a7, .ref a8, .ref a9, .int x2, .long y0, .int x3])), (a1, .inr (1, [.ref a10, .ref a11, .ref a12, .int x4, .int x5, .int x6, .int x7, .int x8, .int x9, .int x10])), (a9, .inl (cI, 6, .inl f0)), (a10, .inr (8, [.ref a13])), (a13, .inl (cI, 30, .inl f1))])) (va_A [(a0, .inr (7, [.ref a2, .ref a3, .ref a4, .ref a5, .ref a6, .ref a7, .ref a8, .ref a9, .int x2, .long y0, .int x3])), (a1, .inr (1, [.ref a10, .ref a11, .ref a12, .int x4, .int x5, .int x6, .int x7, .int x8, .int x9, .int x10])), (a9, .inl (cI, 6, .inl f0)), (a10, .inr (8, [.ref a13])), (a13, .inl (cI, 30, .inl f1))] sz)) 0 0 (va_A [(a0, .inr (7, [.ref a2, .ref a3, .ref a4, .ref a5, .ref a6, .ref a7, .ref a8, .ref a9, .int x2, .long y0, .int x3])), (a1, .inr (1, [.ref a10, .ref a11, .ref a12, .int x4, .int x5, .int x6, .int x7, .int x8, .int x9, .int x10])), (a9, .inl (cI, 6, .inl f0)), (a10, .inr (8, [.ref a13])), (a13, .inl (cI, 30, .inl f1))] sz) := by
  refine gOf_l (by decide +kernel) (Nat.le_of_ble_eq_true rfl) ?_
  intro p e s m args below meth c ls A Q hx hb hts hown hml hN hK hP hD hA hl hret
  replace hown : s.vm.findClass RX7 = some m.cls := hown
  have hS : va_S A s.heap s.heap [] := va_S.rf
  replace hP : va_P D gcl [(a0, .inr (7, [.ref a2, .ref a3, .ref a4, .ref a5, .ref a6, .ref a7, .ref a8, .ref a9, .int x2, .long y0, .int x3])), (a1, .inr (1, [.ref a10, .ref a11, .ref a12, .int x4, .int x5, .int x6, .int x7, .int x8, .int x9, .int x10])), (a9, .inl (cI, 6, .inl f0)), (a10, .inr (8, [.ref a13])), (a13, .inl (cI, 30, .inl f1))] s.heap := hP
  replace hl : lv_has ls 9 [(0, .ref a0), (1, .ref a1), (2, .int x0), (3, .int x1)] := hl
  have rx1 := n_rng x1
  have ry0 := n_rngL y0
  have rx9 := n_rng x9
  have rx10 := n_rng x10
  refine lv_lconst (pc := 0) (v := 0) hx hb dX7_squaresWith_0 (by decide) ?_
  refine lv_lstore (pc := 1) (lv' := [(4, .long 0), (0, .ref a0), (1, .ref a1), (2, .int x0), (3, .int x1)]) hx hb dX7_squaresWith_1 hl (by decide) rfl (fun ls hl => ?_)
  refine lv_iconst (pc := 3) (v := 0) hx hb dX7_squaresWith_3 (by decide) ?_
  refine lv_istore (pc := 4) (lv' := [(6, .int 0), (4, .long 0), (0, .ref a0), (1, .ref a1), (2, .int x0), (3, .int x1)]) hx hb dX7_squaresWith_4 hl (by decide) rfl (fun ls hl => ?_)
  have lp_5 : ∀ (n : Nat) (x_1 : Int32) (y_3 : Int64) (H : Heap) (locs : List Loc) (ls : Array Slot), (0 ≤ x_1.toInt ∧ x_1.toInt ≤ 2147483647) → (2147483647 - x_1.toInt).toNat < n → va_P D gcl [(a0, .inr (7, [.ref a2, .ref a3, .ref a4, .ref a5, .ref a6, .ref a7, .ref a8, .ref a9, .int x2, .long y0, .int x3])), (a1, .inr (1, [.ref a10, .ref a11, .ref a12, .int x4, .int x5, .int x6, .int x7, .int x8, .int x9, .int x10])), (a9, .inl (cI, 6, .inl f0)), (a10, .inr (8, [.ref a13])), (a13, .inl (cI, 30, .inl f1))] H → va_D A [(a0, .inr (7, [.ref a2, .ref a3, .ref a4, .ref a5, .ref a6, .ref a7, .ref a8, .ref a9, .int x2, .long y0, .int x3])), (a1, .inr (1, [.ref a10, .ref a11, .ref a12, .int x4, .int x5, .int x6, .int x7, .int x8, .int x9, .int x10])), (a9, .inl (cI, 6, .inl f0)), (a10, .inr (8, [.ref a13])), (a13, .inl (cI, 30, .inl f1))] → va_S A s.heap H locs → lv_has ls 9 [(6, .int x_1), (4, .long y_3), (0, .ref a0), (1, .ref a1), (2, .int x0), (3, .int x1)] → W p l e ({ frames := 1, cells := 0, slots := 0, locals := 22 }) s m args below meth c H locs 0 0 Q (F0 m 6 ls []) := by
    intro n
    induction n with
    | zero => intro x_1 y_3 H locs ls hi_2 hmu; exact absurd hmu (Nat.not_lt_zero _)
    | succ n ih_lp_5 =>
      intro x_1 y_3 H locs ls hi_2 hmu_lp_5 hP hD hS hl
      have hi_4 := n_rngL y_3
      refine lv_iload (pc := 6) hx hb dX7_squaresWith_6 (lv_at hl 0 rfl) ?_
      refine lv_aload_n (pc := 8) hx hb dX7_squaresWith_8 rfl (lv_at hl 3 rfl) ?_
      refine va_getN (pc := 9) (ci := 1) (v := .int x6) (C := RX1) (T := TX1) (N := 10) hx hb hts iX1 hown hK hP 1 rfl rfl 5 (by decide) (va_Nw.use rfl (hN _ tn_130)) (fun _ h9 => h9) rfl dX7_squaresWith_9 ?_
      refine b_icmp_ge (pc := 12) (tgt := 54) hx hb rfl rfl  dX7_squaresWith_12 (by decide) (fun c_6 => ?_) (fun c_6 => ?_)
      ·
        refine lv_lload (pc := 54) hx hb dX7_squaresWith_54 (lv_at hl 1 rfl) ?_
        exact hret y_3 ((fun _ => 0), (fun _ => (fun _ => 0)), (fun _ => (fun _ => 0)), (fun _ => 0), (fun _ => 0)) dX7_squaresWith_56 (show ((((-9223372036854775808) ≤ y_3.toInt ∧ y_3.toInt ≤ 9223372036854775807) ∧ ((-1) ≤ x6.toInt ∧ x6.toInt ≤ 6))) by omega) (g_psub (wc := [(a0, .inr (7, [.ref a2, .ref a3, .ref a4, .ref a5, .ref a6, .ref a7, .ref a8, .ref a9, .int x2, .long y0, .int x3])), (a1, .inr (1, [.ref a10, .ref a11, .ref a12, .int x4, .int x5, .int x6, .int x7, .int x8, .int x9, .int x10])), (a9, .inl (cI, 6, .inl f0)), (a10, .inr (8, [.ref a13])), (a13, .inl (cI, 30, .inl f1))]) hP [0, 1, 2, 3, 4] rfl) (hD.sub (ws' := [(a0, .inr (7, [.ref a2, .ref a3, .ref a4, .ref a5, .ref a6, .ref a7, .ref a8, .ref a9, .int x2, .long y0, .int x3])), (a1, .inr (1, [.ref a10, .ref a11, .ref a12, .int x4, .int x5, .int x6, .int x7, .int x8, .int x9, .int x10])), (a9, .inl (cI, 6, .inl f0)), (a10, .inr (8, [.ref a13])), (a13, .inl (cI, 30, .inl f1))]) [0, 1, 2, 3, 4] (by decide) rfl) hS
      ·
        refine lv_aload_n (pc := 15) hx hb dX7_squaresWith_15 rfl (lv_at hl 2 rfl) ?_
        refine va_get (pc := 16) (ci := 7) (v := .ref a9) (C := RX7) (T := TX7) (N := 11) hx hb hts iX7 hown hK hP 0 rfl rfl 7 (by decide) (hts _ tw_253) (fun _ h9 => h9) rfl dX7_squaresWith_16 ?_
        refine lv_iload (pc := 19) hx hb dX7_squaresWith_19 (lv_at hl 0 rfl) ?_
        refine va_iald (pc := 21) hx hb hK hP 2 2 rfl rfl (n_in rfl (by omega) (by omega)) dX7_squaresWith_21 ?_
        refine lv_topi (fun x_7 ex_7 => ?_)
        have rx_7 := n_rng x_7
        refine lv_aload_n (pc := 22) hx hb dX7_squaresWith_22 rfl (lv_at hl 3 rfl) ?_
        refine va_getN (pc := 23) (ci := 1) (v := .ref a10) (C := RX1) (T := TX1) (N := 10) hx hb hts iX1 hown hK hP 1 rfl rfl 0 (by decide) (va_Nw.use rfl (hN _ tn_103)) (fun _ h9 => h9) rfl dX7_squaresWith_23 ?_
        refine lv_iload (pc := 26) hx hb dX7_squaresWith_26 (lv_at hl 0 rfl) ?_
        refine lv_iload_n (pc := 28) hx hb dX7_squaresWith_28 rfl (lv_at hl 4 rfl) ?_
        refine gc_i (pc := 29) (wc := [(a10, .inr (8, [.ref a13])), (a13, .inl (cI, 30, .inl f1))]) (wr := [(a0, .inr (7, [.ref a2, .ref a3, .ref a4, .ref a5, .ref a6, .ref a7, .ref a8, .ref a9, .int x2, .long y0, .int x3])), (a1, .inr (1, [.ref a10, .ref a11, .ref a12, .int x4, .int x5, .int x6, .int x7, .int x8, .int x9, .int x10])), (a9, .inl (cI, 6, .inl f0))]) hP hD hS hA [3, 4] [0, 1, 2] rfl rfl (by decide) (by decide) (by decide) (fun hPc hDc => va_runV (As := [.int x_1, .int x0]) (rest := [.int x_7]) ⟨hx, hb, hml, hown, hts⟩ (k_X8_at l D cB cC cI cJ _ a10 a13 x_1 x0 f1 (by  omega) hp2) ⟨gcwB hts tw_791 tw_5 tw_992 hd_yX8_at ⟨Nat.le_of_ble_eq_true rfl, Nat.le_of_ble_eq_true rfl⟩, hts _ tw_789, hts _ tw_790⟩ ⟨gblind, va_recv hK hPc (ci := 8) (q0 := 0) rfl rfl, (gpreS hPc hK hDc hN).2⟩ rfl rfl hl.1 rfl (lv_room (Nat.le_of_ble_eq_true rfl)) dX7_squaresWith_29 ⟨Nat.le_of_ble_eq_true rfl, Nat.le_of_ble_eq_true rfl⟩) (fun r_9 u_8 H locs hw_10 hP hD hS => ?_)
        replace hP : va_P D gcl [(a0, .inr (7, [.ref a2, .ref a3, .ref a4, .ref a5, .ref a6, .ref a7, .ref a8, .ref a9, .int x2, .long y0, .int x3])), (a1, .inr (1, [.ref a10, .ref a11, .ref a12, .int x4, .int x5, .int x6, .int x7, .int x8, .int x9, .int x10])), (a9, .inl (cI, 6, .inl f0)), (a10, .inr (8, [.ref a13])), (a13, .inl (cI, 30, .inl f1))] H := hP
        replace hD : va_D A [(a0, .inr (7, [.ref a2, .ref a3, .ref a4, .ref a5, .ref a6, .ref a7, .ref a8, .ref a9, .int x2, .long y0, .int x3])), (a1, .inr (1, [.ref a10, .ref a11, .ref a12, .int x4, .int x5, .int x6, .int x7, .int x8, .int x9, .int x10])), (a9, .inl (cI, 6, .inl f0)), (a10, .inr (8, [.ref a13])), (a13, .inl (cI, 30, .inl f1))] := hD
        have hw_11 : ((((-2147483648) ≤ r_9.toInt ∧ r_9.toInt ≤ 2147483647))) := hw_10
        have rr_9 := n_rng r_9
        refine lv_iload_n (pc := 32) hx hb dX7_squaresWith_32 rfl (lv_at hl 5 rfl) ?_
        refine lv_imul (pc := 33) hx hb dX7_squaresWith_33 ?_
        refine lv_topi (fun x_12 _ => ?_)
        have rx_12 := n_rng x_12
        refine lv_isub (pc := 34) hx hb dX7_squaresWith_34 ?_
        refine lv_topi (fun x_13 _ => ?_)
        have rx_13 := n_rng x_13
        refine b_i2l (pc := 35) hx hb rfl dX7_squaresWith_35 (fun y_14 ey_14 => ?_)
        have ry_14 := n_rng x_13
        refine lv_lstore (pc := 36) (lv' := [(7, .long y_14), (6, .int x_1), (4, .long y_3), (0, .ref a0), (1, .ref a1), (2, .int x0), (3, .int x1)]) hx hb dX7_squaresWith_36 hl (by decide) rfl (fun ls hl => ?_)
        refine lv_lload (pc := 38) hx hb dX7_squaresWith_38 (lv_at hl 2 rfl) ?_
        refine lv_lload (pc := 40) hx hb dX7_squaresWith_40 (lv_at hl 0 rfl) ?_
        refine lv_lload (pc := 42) hx hb dX7_squaresWith_42 (lv_at hl 0 rfl) ?_
        refine lv_lmul (pc := 44) hx hb dX7_squaresWith_44 ?_
        refine lv_topl (fun y_15 _ => ?_)
        have ry_15 := n_rngL y_15
        refine lv_ladd (pc := 45) hx hb dX7_squaresWith_45 ?_
        refine lv_topl (fun y_16 _ => ?_)
        have ry_16 := n_rngL y_16
        refine lv_lstore (pc := 46) (lv' := [(4, .long y_16), (7, .long y_14), (6, .int x_1), (0, .ref a0), (1, .ref a1), (2, .int x0), (3, .int x1)]) hx hb dX7_squaresWith_46 hl (by decide) rfl (fun ls hl => ?_)
        refine b_iinc (pc := 48) hx hb dX7_squaresWith_48 hl (k := 2) rfl rfl tI_1 (by omega) (by omega) (by decide) (fun x_17 ex_17 ls hl => ?_)
        replace hl : lv_has ls 9 [(6, .int x_17), (4, .long y_16), (7, .long y_14), (0, .ref a0), (1, .ref a1), (2, .int x0), (3, .int x1)] := hl
        refine lv_goto (pc := 51) (tgt := 6) hx hb dX7_squaresWith_51 (by decide) ?_
        exact ih_lp_5 x_17 y_16 _ _ ls (by omega) (by omega) hP hD hS (lv_sub hl [0, 1, 3, 4, 5, 6] rfl)
  exact lp_5 _ 0 0 _ _ ls (n_c tI_0 (by decide)) (Nat.lt_succ_self _) hP hD hS (lv_sub hl [0, 1, 2, 3, 4, 5] rfl)
set_option maxHeartbeats 4000000 in
set_option maxRecDepth 100000 in
theorem k_X7_bestLetter (l : Launch) (D : va_G) (cB cC cI cJ : ClassId) (sz : Nat) (a0 a1 a2 a3 a4 a5 a6 a7 a8 a9 a10 a11 a12 a13 : Nat) (x0 x1 x2 x3 x4 x5 x6 x7 x8 x9 : Int32) (y0 : Int64) (f0 f1 : Nat → Int32) (hp2 : (0 ≤ x0.toInt ∧ x0.toInt ≤ 4)) (h_x1 : (0 ≤ x1.toInt ∧ x1.toInt ≤ 10)) (h_x2 : (0 ≤ x2.toInt ∧ x2.toInt ≤ 1)) (h_x3 : ((-1) ≤ x3.toInt ∧ x3.toInt ≤ 8)) (h_x4 : ((-1) ≤ x4.toInt ∧ x4.toInt ≤ 5)) (h_x5 : ((-1) ≤ x5.toInt ∧ x5.toInt ≤ 6)) (h_x6 : (0 ≤ x6.toInt ∧ x6.toInt ≤ 6)) (h_x7 : (0 ≤ x7.toInt ∧ x7.toInt ≤ 16)) : Met l yX7_bestLetter (.code yX7_bestLetter cX7_bestLetter 10 (some .int) :: lw_gd) ({ frames := 2, cells := 0, slots := 0, locals := 50 }) (gPre D [(cB, .byte), (cC, .char), (cI, .int), (cJ, .long)] [.ref a0, .ref a1, .int x0] [(a0, .inr (7, [.ref a2, .ref a3, .ref a4, .ref a5, .ref a6, .ref a7, .ref a8, .ref a9, .int x1, .long y0, .int x2])), (a1, .inr (1, [.ref a10, .ref a11, .ref a12, .int x3, .int x4, .int x5, .int x6, .int x7, .int x8, .int x9])), (a9, .inl (cI, 6, .inl f0)), (a10, .inr (8, [.ref a13])), (a13, .inl (cI, 30, .inl f1))] sz) (va_Qi (fun r u => ((((-2147483648) ≤ r.toInt ∧ r.toInt ≤ 2147483647) ∧ ((-1) ≤ x3.toInt ∧ x3.toInt ≤ 8)))) (gB D (va_A [(a0, .inr (7, [.ref a2, .ref a3, .ref a4, .ref a5, .ref a6, .ref a7, .ref a8, .ref a9, .int x1, .long y0, .int x2])), (a1, .inr (1, [.ref a10, .ref a11, .ref a12, .int x3, .int x4, .int x5, .int x6, .int x7, .int x8, .int x9])), (a9, .inl (cI, 6, .inl f0)), (a10, .inr (8, [.ref a13])), (a13, .inl (cI, 30, .inl f1))] sz) (fun u : gEx => [(a0, .inr (7, [.ref a2, .ref a3, .ref a4, .ref a5, .ref a6, .ref a7, .ref a8, .ref a9, .int x1, .long y0, .int x2])), (a1, .inr (1, [.ref a10, .ref a11, .ref a12, .int x3, .int x4, .int x5, .int x6, .int x7, .int x8, .int x9])), (a9, .inl (cI, 6, .inl f0)), (a10, .inr (8, [.ref a13])), (a13, .inl (cI, 30, .inl f1))])) (va_A [(a0, .inr (7, [.ref a2, .ref a3, .ref a4, .ref a5, .ref a6, .ref a7, .ref a8, .ref a9, .int x1, .long y0, .int x2])), (a1, .inr (1, [.ref a10, .ref a11, .ref a12, .int x3, .int x4, .int x5, .int x6, .int x7, .int x8, .int x9])), (a9, .inl (cI, 6, .inl f0)), (a10, .inr (8, [.ref a13])), (a13, .inl (cI, 30, .inl f1))] sz)) 0 0 (va_A [(a0, .inr (7, [.ref a2, .ref a3, .ref a4, .ref a5, .ref a6, .ref a7, .ref a8, .ref a9, .int x1, .long y0, .int x2])), (a1, .inr (1, [.ref a10, .ref a11, .ref a12, .int x3, .int x4, .int x5, .int x6, .int x7, .int x8, .int x9])), (a9, .inl (cI, 6, .inl f0)), (a10, .inr (8, [.ref a13])), (a13, .inl (cI, 30, .inl f1))] sz) := by
  refine gOf_i (by decide +kernel) (Nat.le_of_ble_eq_true rfl) ?_
  intro p e s m args below meth c ls A Q hx hb hts hown hml hN hK hP hD hA hl hret
  replace hown : s.vm.findClass RX7 = some m.cls := hown
  have hS : va_S A s.heap s.heap [] := va_S.rf
  replace hP : va_P D gcl [(a0, .inr (7, [.ref a2, .ref a3, .ref a4, .ref a5, .ref a6, .ref a7, .ref a8, .ref a9, .int x1, .long y0, .int x2])), (a1, .inr (1, [.ref a10, .ref a11, .ref a12, .int x3, .int x4, .int x5, .int x6, .int x7, .int x8, .int x9])), (a9, .inl (cI, 6, .inl f0)), (a10, .inr (8, [.ref a13])), (a13, .inl (cI, 30, .inl f1))] s.heap := hP
  replace hl : lv_has ls 10 [(0, .ref a0), (1, .ref a1), (2, .int x0)] := hl
  have ry0 := n_rngL y0
  have rx8 := n_rng x8
  have rx9 := n_rng x9
  refine lv_iconst (pc := 0) (v := 0) hx hb dX7_bestLetter_0 (by decide) ?_
  refine lv_istore_n (pc := 1) (lv' := [(3, .int 0), (0, .ref a0), (1, .ref a1), (2, .int x0)]) hx hb dX7_bestLetter_1 rfl hl (by decide) rfl (fun ls hl => ?_)
  refine lv_ldc2 (pc := 2) hx hb hown (hts _ tw_874) dX7_bestLetter_2 ?_
  refine lv_lstore (pc := 5) (lv' := [(4, .long 1000000000000000), (3, .int 0), (0, .ref a0), (1, .ref a1), (2, .int x0)]) hx hb dX7_bestLetter_5 hl (by decide) rfl (fun ls hl => ?_)
  refine lv_iconst (pc := 7) (v := 0) hx hb dX7_bestLetter_7 (by decide) ?_
  refine lv_istore (pc := 8) (lv' := [(6, .int 0), (4, .long 1000000000000000), (3, .int 0), (0, .ref a0), (1, .ref a1), (2, .int x0)]) hx hb dX7_bestLetter_8 hl (by decide) rfl (fun ls hl => ?_)
  have lp_7 : ∀ (n : Nat) (x_1 x_5 : Int32) (y_3 : Int64) (H : Heap) (locs : List Loc) (ls : Array Slot), (0 ≤ x_1.toInt ∧ x_1.toInt ≤ 2147483647) → (2147483647 - x_1.toInt).toNat < n → va_P D gcl [(a0, .inr (7, [.ref a2, .ref a3, .ref a4, .ref a5, .ref a6, .ref a7, .ref a8, .ref a9, .int x1, .long y0, .int x2])), (a1, .inr (1, [.ref a10, .ref a11, .ref a12, .int x3, .int x4, .int x5, .int x6, .int x7, .int x8, .int x9])), (a9, .inl (cI, 6, .inl f0)), (a10, .inr (8, [.ref a13])), (a13, .inl (cI, 30, .inl f1))] H → va_D A [(a0, .inr (7, [.ref a2, .ref a3, .ref a4, .ref a5, .ref a6, .ref a7, .ref a8, .ref a9, .int x1, .long y0, .int x2])), (a1, .inr (1, [.ref a10, .ref a11, .ref a12, .int x3, .int x4, .int x5, .int x6, .int x7, .int x8, .int x9])), (a9, .inl (cI, 6, .inl f0)), (a10, .inr (8, [.ref a13])), (a13, .inl (cI, 30, .inl f1))] → va_S A s.heap H locs → lv_has ls 10 [(6, .int x_1), (4, .long y_3), (3, .int x_5), (0, .ref a0), (1, .ref a1), (2, .int x0)] → W p l e ({ frames := 2, cells := 0, slots := 0, locals := 50 }) s m args below meth c H locs 0 0 Q (F0 m 10 ls []) := by
    intro n
    induction n with
    | zero => intro x_1 x_5 y_3 H locs ls hi_2 hmu; exact absurd hmu (Nat.not_lt_zero _)
    | succ n ih_lp_7 =>
      intro x_1 x_5 y_3 H locs ls hi_2 hmu_lp_7 hP hD hS hl
      have hi_4 := n_rngL y_3
      have hi_6 := n_rng x_5
      refine lv_iload (pc := 10) hx hb dX7_bestLetter_10 (lv_at hl 0 rfl) ?_
      refine lv_aload_n (pc := 12) hx hb dX7_bestLetter_12 rfl (lv_at hl 4 rfl) ?_
      refine va_getN (pc := 13) (ci := 1) (v := .int x3) (C := RX1) (T := TX1) (N := 10) hx hb hts iX1 hown hK hP 1 rfl rfl 3 (by decide) (va_Nw.use rfl (hN _ tn_112)) (fun _ h9 => h9) rfl dX7_bestLetter_13 ?_
      refine b_icmp_ge (pc := 16) (tgt := 58) hx hb rfl rfl  dX7_bestLetter_16 (by decide) (fun c_8 => ?_) (fun c_8 => ?_)
      ·
        refine lv_iload_n (pc := 58) hx hb dX7_bestLetter_58 rfl (lv_at hl 2 rfl) ?_
        exact hret x_5 ((fun _ => 0), (fun _ => (fun _ => 0)), (fun _ => (fun _ => 0)), (fun _ => 0), (fun _ => 0)) dX7_bestLetter_59 (show ((((-2147483648) ≤ x_5.toInt ∧ x_5.toInt ≤ 2147483647) ∧ ((-1) ≤ x3.toInt ∧ x3.toInt ≤ 8))) by omega) (g_psub (wc := [(a0, .inr (7, [.ref a2, .ref a3, .ref a4, .ref a5, .ref a6, .ref a7, .ref a8, .ref a9, .int x1, .long y0, .int x2])), (a1, .inr (1, [.ref a10, .ref a11, .ref a12, .int x3, .int x4, .int x5, .int x6, .int x7, .int x8, .int x9])), (a9, .inl (cI, 6, .inl f0)), (a10, .inr (8, [.ref a13])), (a13, .inl (cI, 30, .inl f1))]) hP [0, 1, 2, 3, 4] rfl) (hD.sub (ws' := [(a0, .inr (7, [.ref a2, .ref a3, .ref a4, .ref a5, .ref a6, .ref a7, .ref a8, .ref a9, .int x1, .long y0, .int x2])), (a1, .inr (1, [.ref a10, .ref a11, .ref a12, .int x3, .int x4, .int x5, .int x6, .int x7, .int x8, .int x9])), (a9, .inl (cI, 6, .inl f0)), (a10, .inr (8, [.ref a13])), (a13, .inl (cI, 30, .inl f1))]) [0, 1, 2, 3, 4] (by decide) rfl) hS
      ·
        refine lv_aload_n (pc := 19) hx hb dX7_bestLetter_19 rfl (lv_at hl 4 rfl) ?_
        refine lv_iload (pc := 20) hx hb dX7_bestLetter_20 (lv_at hl 0 rfl) ?_
        refine gc_i (pc := 22) (wc := [(a1, .inr (1, [.ref a10, .ref a11, .ref a12, .int x3, .int x4, .int x5, .int x6, .int x7, .int x8, .int x9]))]) (wr := [(a0, .inr (7, [.ref a2, .ref a3, .ref a4, .ref a5, .ref a6, .ref a7, .ref a8, .ref a9, .int x1, .long y0, .int x2])), (a9, .inl (cI, 6, .inl f0)), (a10, .inr (8, [.ref a13])), (a13, .inl (cI, 30, .inl f1))]) hP hD hS hA [1] [0, 2, 3, 4] rfl rfl (by decide) (by decide) (by decide) (fun hPc hDc => va_runV (As := [.int x_1]) (rest := []) ⟨hx, hb, hml, hown, hts⟩ (k_X1_letterOfDigit l D cB cC cI cJ _ a1 a10 a11 a12 x_1 x3 x4 x5 x6 x7 x8 x9 h_x3 h_x4 h_x5 h_x6 h_x7) ⟨gcwB hts tw_952 tw_4 tw_987 hd_yX1_letterOfDigit ⟨Nat.le_of_ble_eq_true rfl, Nat.le_of_ble_eq_true rfl⟩, hts _ tw_950, hts _ tw_951⟩ ⟨gblind, va_recv hK hPc (ci := 1) (q0 := 0) rfl rfl, (gpreS hPc hK hDc hN).2⟩ rfl rfl hl.1 rfl (lv_room (Nat.le_of_ble_eq_true rfl)) dX7_bestLetter_22 ⟨Nat.le_of_ble_eq_true rfl, Nat.le_of_ble_eq_true rfl⟩) (fun r_10 u_9 H locs hw_11 hP hD hS => ?_)
        replace hP : va_P D gcl [(a0, .inr (7, [.ref a2, .ref a3, .ref a4, .ref a5, .ref a6, .ref a7, .ref a8, .ref a9, .int x1, .long y0, .int x2])), (a9, .inl (cI, 6, .inl f0)), (a10, .inr (8, [.ref a13])), (a13, .inl (cI, 30, .inl f1)), (a1, .inr (1, [.ref a10, .ref a11, .ref a12, .int x3, .int x4, .int x5, .int x6, .int x7, .int x8, .int x9]))] H := hP
        replace hD : va_D A [(a0, .inr (7, [.ref a2, .ref a3, .ref a4, .ref a5, .ref a6, .ref a7, .ref a8, .ref a9, .int x1, .long y0, .int x2])), (a9, .inl (cI, 6, .inl f0)), (a10, .inr (8, [.ref a13])), (a13, .inl (cI, 30, .inl f1)), (a1, .inr (1, [.ref a10, .ref a11, .ref a12, .int x3, .int x4, .int x5, .int x6, .int x7, .int x8, .int x9]))] := hD
        have hw_12 : ((((-2147483648) ≤ r_10.toInt ∧ r_10.toInt ≤ 2147483647))) := hw_11
        have rr_10 := n_rng r_10
        refine lv_istore (pc := 25) (lv' := [(7, .int r_10), (6, .int x_1), (4, .long y_3), (3, .int x_5), (0, .ref a0), (1, .ref a1), (2, .int x0)]) hx hb dX7_bestLetter_25 hl (by decide) rfl (fun ls hl => ?_)
        refine lv_aload_n (pc := 27) hx hb dX7_bestLetter_27 rfl (lv_at hl 4 rfl) ?_
        refine lv_aload_n (pc := 28) hx hb dX7_bestLetter_28 rfl (lv_at hl 5 rfl) ?_
        refine lv_iload_n (pc := 29) hx hb dX7_bestLetter_29 rfl (lv_at hl 6 rfl) ?_
        refine lv_iload (pc := 30) hx hb dX7_bestLetter_30 (lv_at hl 0 rfl) ?_
        refine gc_l (pc := 32) (wc := [(a0, .inr (7, [.ref a2, .ref a3, .ref a4, .ref a5, .ref a6, .ref a7, .ref a8, .ref a9, .int x1, .long y0, .int x2])), (a1, .inr (1, [.ref a10, .ref a11, .ref a12, .int x3, .int x4, .int x5, .int x6, .int x7, .int x8, .int x9])), (a9, .inl (cI, 6, .inl f0)), (a10, .inr (8, [.ref a13])), (a13, .inl (cI, 30, .inl f1))]) (wr := []) hP hD hS hA [0, 4, 1, 2, 3] [] rfl rfl (by decide) (by decide) (by decide) (fun hPc hDc => va_runV (As := [.ref a1, .int x0, .int r_10]) (rest := []) ⟨hx, hb, hml, hown, hts⟩ (k_X7_squaresWith l D cB cC cI cJ _ a0 a1 a2 a3 a4 a5 a6 a7 a8 a9 a10 a11 a12 a13 x0 r_10 x1 x2 x3 x4 x5 x6 x7 x8 x9 y0 f0 f1 hp2 h_x1 h_x2 h_x3 h_x4 h_x5 h_x6 h_x7) ⟨gcwB hts tw_991 tw_7 tw_988 hd_yX7_squaresWith ⟨Nat.le_of_ble_eq_true rfl, Nat.le_of_ble_eq_true rfl⟩, hts _ tw_990, hts _ tp_39⟩ ⟨gblind, va_recv hK hPc (ci := 7) (q0 := 0) rfl rfl, (gpreS hPc hK hDc hN).2⟩ rfl rfl hl.1 rfl (lv_room (Nat.le_of_ble_eq_true rfl)) dX7_bestLetter_32 ⟨Nat.le_of_ble_eq_true rfl, Nat.le_of_ble_eq_true rfl⟩) (fun r_14 u_13 H locs hw_15 hP hD hS => ?_)
        replace hP : va_P D gcl [(a0, .inr (7, [.ref a2, .ref a3, .ref a4, .ref a5, .ref a6, .ref a7, .ref a8, .ref a9, .int x1, .long y0, .int x2])), (a1, .inr (1, [.ref a10, .ref a11, .ref a12, .int x3, .int x4, .int x5, .int x6, .int x7, .int x8, .int x9])), (a9, .inl (cI, 6, .inl f0)), (a10, .inr (8, [.ref a13])), (a13, .inl (cI, 30, .inl f1))] H := hP
        replace hD : va_D A [(a0, .inr (7, [.ref a2, .ref a3, .ref a4, .ref a5, .ref a6, .ref a7, .ref a8, .ref a9, .int x1, .long y0, .int x2])), (a1, .inr (1, [.ref a10, .ref a11, .ref a12, .int x3, .int x4, .int x5, .int x6, .int x7, .int x8, .int x9])), (a9, .inl (cI, 6, .inl f0)), (a10, .inr (8, [.ref a13])), (a13, .inl (cI, 30, .inl f1))] := hD
        have hw_16 : ((((-9223372036854775808) ≤ r_14.toInt ∧ r_14.toInt ≤ 9223372036854775807) ∧ ((-1) ≤ x5.toInt ∧ x5.toInt ≤ 6))) := hw_15
        have rr_14 := n_rngL r_14
        refine lv_lstore (pc := 35) (lv' := [(8, .long r_14), (7, .int r_10), (6, .int x_1), (4, .long y_3), (3, .int x_5), (0, .ref a0), (1, .ref a1), (2, .int x0)]) hx hb dX7_bestLetter_35 hl (by decide) rfl (fun ls hl => ?_)
        refine lv_lload (pc := 37) hx hb dX7_bestLetter_37 (lv_at hl 0 rfl) ?_
        refine lv_lload (pc := 39) hx hb dX7_bestLetter_39 (lv_at hl 3 rfl) ?_
        refine b_lcmp_ge (pc := 41) (tgt := 52) hx hb rfl rfl dX7_bestLetter_41 dX7_bestLetter_42 (by decide) (fun c_17 => ?_) (fun c_17 => ?_)
        ·
          refine b_iinc (pc := 52) hx hb dX7_bestLetter_52 hl (k := 2) rfl rfl tI_1 (by omega) (by omega) (by decide) (fun x_18 ex_18 ls hl => ?_)
          replace hl : lv_has ls 10 [(6, .int x_18), (8, .long r_14), (7, .int r_10), (4, .long y_3), (3, .int x_5), (0, .ref a0), (1, .ref a1), (2, .int x0)] := hl
          refine lv_goto (pc := 55) (tgt := 10) hx hb dX7_bestLetter_55 (by decide) ?_
          exact ih_lp_7 x_18 x_5 y_3 _ _ ls (by omega) (by omega) hP hD hS (lv_sub hl [0, 3, 4, 5, 6, 7] rfl)
        ·
          refine lv_lload (pc := 45) hx hb dX7_bestLetter_45 (lv_at hl 0 rfl) ?_
          refine lv_lstore (pc := 47) (lv' := [(4, .long r_14), (8, .long r_14), (7, .int r_10), (6, .int x_1), (3, .int x_5), (0, .ref a0), (1, .ref a1), (2, .int x0)]) hx hb dX7_bestLetter_47 hl (by decide) rfl (fun ls hl => ?_)
          refine lv_iload (pc := 49) hx hb dX7_bestLetter_49 (lv_at hl 2 rfl) ?_
          refine lv_istore_n (pc := 51) (lv' := [(3, .int r_10), (4, .long r_14), (8, .long r_14), (7, .int r_10), (6, .int x_1), (0, .ref a0), (1, .ref a1), (2, .int x0)]) hx hb dX7_bestLetter_51 rfl hl (by decide) rfl (fun ls hl => ?_)
          refine b_iinc (pc := 52) hx hb dX7_bestLetter_52 hl (k := 4) rfl rfl tI_1 (by omega) (by omega) (by decide) (fun x_19 ex_19 ls hl => ?_)
          replace hl : lv_has ls 10 [(6, .int x_19), (3, .int r_10), (4, .long r_14), (8, .long r_14), (7, .int r_10), (0, .ref a0), (1, .ref a1), (2, .int x0)] := hl
          refine lv_goto (pc := 55) (tgt := 10) hx hb dX7_bestLetter_55 (by decide) ?_
          exact ih_lp_7 x_19 r_10 r_14 _ _ ls (by omega) (by omega) hP hD hS (lv_sub hl [0, 2, 1, 5, 6, 7] rfl)
  exact lp_7 _ 0 0 1000000000000000 _ _ ls (n_c tI_0 (by decide)) (Nat.lt_succ_self _) hP hD hS (lv_sub hl [0, 1, 2, 3, 4, 5] rfl)
set_option maxHeartbeats 4000000 in
set_option maxRecDepth 100000 in
theorem k_X7_cancelAll (l : Launch) (D : va_G) (cB cC cI cJ : ClassId) (sz : Nat) (a0 a1 a2 a3 a4 a5 a6 a7 a8 a9 a10 a11 a12 a13 a14 : Nat) (x0 x1 x2 x3 x4 x5 x6 x7 x8 : Int32) (y0 : Int64) (f0 f1 f2 f3 f4 : Nat → Int32) (h_x0 : (0 ≤ x0.toInt ∧ x0.toInt ≤ 10)) (h_x1 : (0 ≤ x1.toInt ∧ x1.toInt ≤ 1)) (hf_f0 : (∀ j, 0 ≤ (f0 j).toInt ∧ (f0 j).toInt ≤ 4)) (h_x2 : ((-1) ≤ x2.toInt ∧ x2.toInt ≤ 8)) (h_x3 : ((-1) ≤ x3.toInt ∧ x3.toInt ≤ 5)) (h_x4 : ((-1) ≤ x4.toInt ∧ x4.toInt ≤ 6)) (h_x5 : (0 ≤ x5.toInt ∧ x5.toInt ≤ 6)) (h_x6 : (0 ≤ x6.toInt ∧ x6.toInt ≤ 16)) : Met l yX7_cancelAll (.code yX7_cancelAll cX7_cancelAll 6 none :: lw_gd) ({ frames := 3, cells := 0, slots := 0, locals := 79 }) (gPre D [(cB, .byte), (cC, .char), (cI, .int), (cJ, .long)] [.ref a0, .ref a1, .ref a2] [(a0, .inr (7, [.ref a3, .ref a4, .ref a5, .ref a6, .ref a7, .ref a8, .ref a9, .ref a10, .int x0, .long y0, .int x1])), (a8, .inl (cI, 5, .inl f0)), (a1, .inr (1, [.ref a11, .ref a12, .ref a13, .int x2, .int x3, .int x4, .int x5, .int x6, .int x7, .int x8])), (a11, .inr (8, [.ref a14])), (a14, .inl (cI, 30, .inl f1)), (a2, .inl (cI, 6, .inl f2)), (a10, .inl (cI, 6, .inl f3)), (a9, .inl (cI, 5, .inl f4))] sz) (va_Qv (fun u => (∀ j, 0 ≤ ((u.2.1 0) j).toInt ∧ ((u.2.1 0) j).toInt ≤ 4) ∧ (tJ (u.2.1 0) (fun s => (dw f1 s s 6).toInt) x3.toInt)) (gB D (va_A [(a0, .inr (7, [.ref a3, .ref a4, .ref a5, .ref a6, .ref a7, .ref a8, .ref a9, .ref a10, .int x0, .long y0, .int x1])), (a8, .inl (cI, 5, .inl f0)), (a1, .inr (1, [.ref a11, .ref a12, .ref a13, .int x2, .int x3, .int x4, .int x5, .int x6, .int x7, .int x8])), (a11, .inr (8, [.ref a14])), (a14, .inl (cI, 30, .inl f1)), (a2, .inl (cI, 6, .inl f2)), (a10, .inl (cI, 6, .inl f3)), (a9, .inl (cI, 5, .inl f4))] sz) (fun u : gEx => [(a0, .inr (7, [.ref a3, .ref a4, .ref a5, .ref a6, .ref a7, .ref a8, .ref a9, .ref a10, .int x0, .long y0, .int x1])), (a8, .inl (cI, 5, .inl (u.2.1 0))), (a1, .inr (1, [.ref a11, .ref a12, .ref a13, .int x2, .int x3, .int x4, .int x5, .int x6, .int x7, .int x8])), (a11, .inr (8, [.ref a14])), (a14, .inl (cI, 30, .inl f1)), (a2, .inl (cI, 6, .inl f2)), (a10, .inl (cI, 6, .inl (u.2.1 1))), (a9, .inl (cI, 5, .inl (u.2.1 2)))])) (va_A [(a0, .inr (7, [.ref a3, .ref a4, .ref a5, .ref a6, .ref a7, .ref a8, .ref a9, .ref a10, .int x0, .long y0, .int x1])), (a8, .inl (cI, 5, .inl f0)), (a1, .inr (1, [.ref a11, .ref a12, .ref a13, .int x2, .int x3, .int x4, .int x5, .int x6, .int x7, .int x8])), (a11, .inr (8, [.ref a14])), (a14, .inl (cI, 30, .inl f1)), (a2, .inl (cI, 6, .inl f2)), (a10, .inl (cI, 6, .inl f3)), (a9, .inl (cI, 5, .inl f4))] sz)) 0 0 (va_A [(a0, .inr (7, [.ref a3, .ref a4, .ref a5, .ref a6, .ref a7, .ref a8, .ref a9, .ref a10, .int x0, .long y0, .int x1])), (a8, .inl (cI, 5, .inl f0)), (a1, .inr (1, [.ref a11, .ref a12, .ref a13, .int x2, .int x3, .int x4, .int x5, .int x6, .int x7, .int x8])), (a11, .inr (8, [.ref a14])), (a14, .inl (cI, 30, .inl f1)), (a2, .inl (cI, 6, .inl f2)), (a10, .inl (cI, 6, .inl f3)), (a9, .inl (cI, 5, .inl f4))] sz) := by
  refine gOf_v (by decide +kernel) (Nat.le_of_ble_eq_true rfl) ?_
  intro p e s m args below meth c ls A Q hx hb hts hown hml hN hK hP hD hA hl hret
  replace hown : s.vm.findClass RX7 = some m.cls := hown
  have hS : va_S A s.heap s.heap [] := va_S.rf
  replace hP : va_P D gcl [(a0, .inr (7, [.ref a3, .ref a4, .ref a5, .ref a6, .ref a7, .ref a8, .ref a9, .ref a10, .int x0, .long y0, .int x1])), (a8, .inl (cI, 5, .inl f0)), (a1, .inr (1, [.ref a11, .ref a12, .ref a13, .int x2, .int x3, .int x4, .int x5, .int x6, .int x7, .int x8])), (a11, .inr (8, [.ref a14])), (a14, .inl (cI, 30, .inl f1)), (a2, .inl (cI, 6, .inl f2)), (a10, .inl (cI, 6, .inl f3)), (a9, .inl (cI, 5, .inl f4))] s.heap := hP
  replace hl : lv_has ls 6 [(0, .ref a0), (1, .ref a1), (2, .ref a2)] := hl
  have ry0 := n_rngL y0
  have rx7 := n_rng x7
  have rx8 := n_rng x8
  refine lv_aload_n (pc := 0) hx hb dX7_cancelAll_0 rfl (lv_at hl 0 rfl) ?_
  refine lv_aload_n (pc := 1) hx hb dX7_cancelAll_1 rfl (lv_at hl 1 rfl) ?_
  refine gc_v (pc := 2) (wc := [(a0, .inr (7, [.ref a3, .ref a4, .ref a5, .ref a6, .ref a7, .ref a8, .ref a9, .ref a10, .int x0, .long y0, .int x1])), (a8, .inl (cI, 5, .inl f0)), (a1, .inr (1, [.ref a11, .ref a12, .ref a13, .int x2, .int x3, .int x4, .int x5, .int x6, .int x7, .int x8])), (a11, .inr (8, [.ref a14])), (a14, .inl (cI, 30, .inl f1))]) (wr := [(a2, .inl (cI, 6, .inl f2)), (a10, .inl (cI, 6, .inl f3)), (a9, .inl (cI, 5, .inl f4))]) hP hD hS hA [0, 1, 2, 3, 4] [5, 6, 7] rfl rfl (by decide) (by decide) (by decide) (fun hPc hDc => va_runV (As := [.ref a1]) (rest := []) ⟨hx, hb, hml, hown, hts⟩ (k_X7_findTurns l D cB cC cI cJ _ a0 a1 a3 a4 a5 a6 a7 a8 a9 a10 a11 a12 a13 a14 x0 x1 x2 x3 x4 x5 x6 x7 x8 y0 f0 f1 h_x0 h_x1 hf_f0 h_x2 h_x3 h_x4 h_x5 h_x6) ⟨gcwB hts tw_980 tw_7 tw_977 hd_yX7_findTurns ⟨Nat.le_of_ble_eq_true rfl, Nat.le_of_ble_eq_true rfl⟩, hts _ tw_979, hts _ tp_37⟩ ⟨gblind, va_recv hK hPc (ci := 7) (q0 := 0) rfl rfl, (gpreS hPc hK hDc hN).2⟩ rfl rfl hl.1 rfl (lv_room (Nat.le_of_ble_eq_true rfl)) dX7_cancelAll_2 ⟨Nat.le_of_ble_eq_true rfl, Nat.le_of_ble_eq_true rfl⟩) (fun u_1 H locs hw_3 hP hD hS => ?_)
  replace hP : va_P D gcl [(a2, .inl (cI, 6, .inl f2)), (a10, .inl (cI, 6, .inl f3)), (a9, .inl (cI, 5, .inl f4)), (a0, .inr (7, [.ref a3, .ref a4, .ref a5, .ref a6, .ref a7, .ref a8, .ref a9, .ref a10, .int x0, .long y0, .int x1])), (a8, .inl (cI, 5, .inl (u_1.2.1 0))), (a1, .inr (1, [.ref a11, .ref a12, .ref a13, .int x2, .int x3, .int x4, .int x5, .int x6, .int x7, .int x8])), (a11, .inr (8, [.ref a14])), (a14, .inl (cI, 30, .inl f1))] H := hP
  replace hD : va_D A [(a2, .inl (cI, 6, .inl f2)), (a10, .inl (cI, 6, .inl f3)), (a9, .inl (cI, 5, .inl f4)), (a0, .inr (7, [.ref a3, .ref a4, .ref a5, .ref a6, .ref a7, .ref a8, .ref a9, .ref a10, .int x0, .long y0, .int x1])), (a8, .inl (cI, 5, .inl (u_1.2.1 0))), (a1, .inr (1, [.ref a11, .ref a12, .ref a13, .int x2, .int x3, .int x4, .int x5, .int x6, .int x7, .int x8])), (a11, .inr (8, [.ref a14])), (a14, .inl (cI, 30, .inl f1))] := hD
  obtain ⟨hw_4, hw_5⟩ := hw_3
  replace hw_4 : (∀ j, 0 ≤ ((u_1.2.1 0) j).toInt ∧ ((u_1.2.1 0) j).toInt ≤ 4) := hw_4
  replace hw_5 : (tJ (u_1.2.1 0) (fun s => (dw f1 s s 6).toInt) x3.toInt) := hw_5
  refine lv_aload_n (pc := 5) hx hb dX7_cancelAll_5 rfl (lv_at hl 2 rfl) ?_
  refine lv_iconst (pc := 6) (v := 0) hx hb dX7_cancelAll_6 (by decide) ?_
  refine lv_aload_n (pc := 7) hx hb dX7_cancelAll_7 rfl (lv_at hl 0 rfl) ?_
  refine va_get (pc := 8) (ci := 7) (v := .ref a10) (C := RX7) (T := TX7) (N := 11) hx hb hts iX7 hown hK hP 3 rfl rfl 7 (by decide) (hts _ tw_253) (fun _ h9 => h9) rfl dX7_cancelAll_8 ?_
  refine lv_iconst (pc := 11) (v := 0) hx hb dX7_cancelAll_11 (by decide) ?_
  refine lv_bipush (pc := 12) (v := 6) hx hb dX7_cancelAll_12 (by decide) ?_
  refine g_copyi (pc := 14) hx hb (hml.trans hl.1.symm) hown (hts _ tw_982) (hts _ tw_745) (hts _ tw_744) (hts _ tw_20) hK hP hD hS 0 1 2 2 rfl rfl rfl rfl rfl (by decide +kernel) (by decide +kernel) (by decide +kernel) (by decide +kernel) (by decide +kernel) (fun _ _ => rfl) (Nat.le_of_ble_eq_true rfl) (Nat.le_of_ble_eq_true rfl) dX7_cancelAll_14 (fun f_6 H locs hP hD hS => ?_)
  replace hP : va_P D gcl [(a2, .inl (cI, 6, .inl f2)), (a10, .inl (cI, 6, .inl f_6)), (a9, .inl (cI, 5, .inl f4)), (a0, .inr (7, [.ref a3, .ref a4, .ref a5, .ref a6, .ref a7, .ref a8, .ref a9, .ref a10, .int x0, .long y0, .int x1])), (a8, .inl (cI, 5, .inl (u_1.2.1 0))), (a1, .inr (1, [.ref a11, .ref a12, .ref a13, .int x2, .int x3, .int x4, .int x5, .int x6, .int x7, .int x8])), (a11, .inr (8, [.ref a14])), (a14, .inl (cI, 30, .inl f1))] H := hP
  replace hD : va_D A [(a2, .inl (cI, 6, .inl f2)), (a10, .inl (cI, 6, .inl f_6)), (a9, .inl (cI, 5, .inl f4)), (a0, .inr (7, [.ref a3, .ref a4, .ref a5, .ref a6, .ref a7, .ref a8, .ref a9, .ref a10, .int x0, .long y0, .int x1])), (a8, .inl (cI, 5, .inl (u_1.2.1 0))), (a1, .inr (1, [.ref a11, .ref a12, .ref a13, .int x2, .int x3, .int x4, .int x5, .int x6, .int x7, .int x8])), (a11, .inr (8, [.ref a14])), (a14, .inl (cI, 30, .inl f1))] := hD
  refine lv_iconst (pc := 17) (v := 0) hx hb dX7_cancelAll_17 (by decide) ?_
  refine lv_istore_n (pc := 18) (lv' := [(3, .int 0), (0, .ref a0), (1, .ref a1), (2, .ref a2)]) hx hb dX7_cancelAll_18 rfl hl (by decide) rfl (fun ls hl => ?_)
  have lp_11 : ∀ (n : Nat) (x_7 : Int32) (f_9 f_10 : Nat → Int32) (H : Heap) (locs : List Loc) (ls : Array Slot), (0 ≤ x_7.toInt ∧ x_7.toInt ≤ 2147483647) → (2147483647 - x_7.toInt).toNat < n → va_P D gcl [(a2, .inl (cI, 6, .inl f2)), (a10, .inl (cI, 6, .inl f_9)), (a9, .inl (cI, 5, .inl f_10)), (a0, .inr (7, [.ref a3, .ref a4, .ref a5, .ref a6, .ref a7, .ref a8, .ref a9, .ref a10, .int x0, .long y0, .int x1])), (a8, .inl (cI, 5, .inl (u_1.2.1 0))), (a1, .inr (1, [.ref a11, .ref a12, .ref a13, .int x2, .int x3, .int x4, .int x5, .int x6, .int x7, .int x8])), (a11, .inr (8, [.ref a14])), (a14, .inl (cI, 30, .inl f1))] H → va_D A [(a2, .inl (cI, 6, .inl f2)), (a10, .inl (cI, 6, .inl f_9)), (a9, .inl (cI, 5, .inl f_10)), (a0, .inr (7, [.ref a3, .ref a4, .ref a5, .ref a6, .ref a7, .ref a8, .ref a9, .ref a10, .int x0, .long y0, .int x1])), (a8, .inl (cI, 5, .inl (u_1.2.1 0))), (a1, .inr (1, [.ref a11, .ref a12, .ref a13, .int x2, .int x3, .int x4, .int x5, .int x6, .int x7, .int x8])), (a11, .inr (8, [.ref a14])), (a14, .inl (cI, 30, .inl f1))] → va_S A s.heap H locs → lv_has ls 6 [(3, .int x_7), (0, .ref a0), (1, .ref a1), (2, .ref a2)] → W p l e ({ frames := 3, cells := 0, slots := 0, locals := 79 }) s m args below meth c H locs 0 0 Q (F0 m 19 ls []) := by
    intro n
    induction n with
    | zero => intro x_7 f_9 f_10 H locs ls hi_8 hmu; exact absurd hmu (Nat.not_lt_zero _)
    | succ n ih_lp_11 =>
      intro x_7 f_9 f_10 H locs ls hi_8 hmu_lp_11 hP hD hS hl
      refine lv_iload_n (pc := 19) hx hb dX7_cancelAll_19 rfl (lv_at hl 0 rfl) ?_
      refine lv_aload_n (pc := 20) hx hb dX7_cancelAll_20 rfl (lv_at hl 2 rfl) ?_
      refine va_getN (pc := 21) (ci := 1) (v := .int x3) (C := RX1) (T := TX1) (N := 10) hx hb hts iX1 hown hK hP 5 rfl rfl 4 (by decide) (va_Nw.use rfl (hN _ tn_120)) (fun _ h9 => h9) rfl dX7_cancelAll_21 ?_
      refine b_icmp_ge (pc := 24) (tgt := 102) hx hb rfl rfl  dX7_cancelAll_24 (by decide) (fun c_12 => ?_) (fun c_12 => ?_)
      ·
        exact hret ((fun _ => 0), (fun k => [(u_1.2.1 0), f_9, f_10].getD k (fun _ => 0)), (fun _ => (fun _ => 0)), (fun _ => 0), (fun _ => 0)) dX7_cancelAll_102 ⟨hw_4, (show tJ (u_1.2.1 0) (fun s => (dw f1 s s 6).toInt) x3.toInt from hw_5)⟩ (g_psub (wc := [(a0, .inr (7, [.ref a3, .ref a4, .ref a5, .ref a6, .ref a7, .ref a8, .ref a9, .ref a10, .int x0, .long y0, .int x1])), (a8, .inl (cI, 5, .inl (u_1.2.1 0))), (a1, .inr (1, [.ref a11, .ref a12, .ref a13, .int x2, .int x3, .int x4, .int x5, .int x6, .int x7, .int x8])), (a11, .inr (8, [.ref a14])), (a14, .inl (cI, 30, .inl f1)), (a2, .inl (cI, 6, .inl f2)), (a10, .inl (cI, 6, .inl f_9)), (a9, .inl (cI, 5, .inl f_10))]) hP [3, 4, 5, 6, 7, 0, 1, 2] rfl) (hD.sub (ws' := [(a0, .inr (7, [.ref a3, .ref a4, .ref a5, .ref a6, .ref a7, .ref a8, .ref a9, .ref a10, .int x0, .long y0, .int x1])), (a8, .inl (cI, 5, .inl (u_1.2.1 0))), (a1, .inr (1, [.ref a11, .ref a12, .ref a13, .int x2, .int x3, .int x4, .int x5, .int x6, .int x7, .int x8])), (a11, .inr (8, [.ref a14])), (a14, .inl (cI, 30, .inl f1)), (a2, .inl (cI, 6, .inl f2)), (a10, .inl (cI, 6, .inl f_9)), (a9, .inl (cI, 5, .inl f_10))]) [3, 4, 5, 6, 7, 0, 1, 2] (by decide) rfl) hS
      ·
        refine lv_aload_n (pc := 27) hx hb dX7_cancelAll_27 rfl (lv_at hl 1 rfl) ?_
        refine va_get (pc := 28) (ci := 7) (v := .ref a8) (C := RX7) (T := TX7) (N := 11) hx hb hts iX7 hown hK hP 3 rfl rfl 5 (by decide) (hts _ tw_249) (fun _ h9 => h9) rfl dX7_cancelAll_28 ?_
        refine lv_iload_n (pc := 31) hx hb dX7_cancelAll_31 rfl (lv_at hl 0 rfl) ?_
        refine va_iald (pc := 32) hx hb hK hP 4 2 rfl rfl (n_in rfl (by omega) (by omega)) dX7_cancelAll_32 ?_
        refine lv_topi (fun x_13 ex_13 => ?_)
        have rx_13 : (0 ≤ x_13.toInt ∧ x_13.toInt ≤ 4) := by rw [ex_13]; exact hw_4 _
        refine lv_istore (pc := 33) (lv' := [(4, .int x_13), (3, .int x_7), (0, .ref a0), (1, .ref a1), (2, .ref a2)]) hx hb dX7_cancelAll_33 hl (by decide) rfl (fun ls hl => ?_)
        refine lv_aload_n (pc := 35) hx hb dX7_cancelAll_35 rfl (lv_at hl 2 rfl) ?_
        refine va_get (pc := 36) (ci := 7) (v := .ref a9) (C := RX7) (T := TX7) (N := 11) hx hb hts iX7 hown hK hP 3 rfl rfl 6 (by decide) (hts _ tw_251) (fun _ h9 => h9) rfl dX7_cancelAll_36 ?_
        refine lv_iload (pc := 39) hx hb dX7_cancelAll_39 (lv_at hl 0 rfl) ?_
        refine lv_aload_n (pc := 41) hx hb dX7_cancelAll_41 rfl (lv_at hl 2 rfl) ?_
        refine lv_aload_n (pc := 42) hx hb dX7_cancelAll_42 rfl (lv_at hl 3 rfl) ?_
        refine lv_iload (pc := 43) hx hb dX7_cancelAll_43 (lv_at hl 0 rfl) ?_
        refine gc_i (pc := 45) (wc := [(a0, .inr (7, [.ref a3, .ref a4, .ref a5, .ref a6, .ref a7, .ref a8, .ref a9, .ref a10, .int x0, .long y0, .int x1])), (a1, .inr (1, [.ref a11, .ref a12, .ref a13, .int x2, .int x3, .int x4, .int x5, .int x6, .int x7, .int x8])), (a10, .inl (cI, 6, .inl f_9)), (a11, .inr (8, [.ref a14])), (a14, .inl (cI, 30, .inl f1))]) (wr := [(a2, .inl (cI, 6, .inl f2)), (a9, .inl (cI, 5, .inl f_10)), (a8, .inl (cI, 5, .inl (u_1.2.1 0)))]) hP hD hS hA [3, 5, 1, 6, 7] [0, 2, 4] rfl rfl (by decide) (by decide) (by decide) (fun hPc hDc => va_runV (As := [.ref a1, .int x_13]) (rest := [.int x_13, .ref a9]) ⟨hx, hb, hml, hown, hts⟩ (k_X7_bestLetter l D cB cC cI cJ _ a0 a1 a3 a4 a5 a6 a7 a8 a9 a10 a11 a12 a13 a14 x_13 x0 x1 x2 x3 x4 x5 x6 x7 x8 y0 f_9 f1 rx_13 h_x0 h_x1 h_x2 h_x3 h_x4 h_x5 h_x6) ⟨gcwB hts tw_986 tw_7 tw_983 hd_yX7_bestLetter ⟨Nat.le_of_ble_eq_true rfl, Nat.le_of_ble_eq_true rfl⟩, hts _ tw_985, hts _ tp_38⟩ ⟨gblind, va_recv hK hPc (ci := 7) (q0 := 0) rfl rfl, (gpreS hPc hK hDc hN).2⟩ rfl rfl hl.1 rfl (lv_room (Nat.le_of_ble_eq_true rfl)) dX7_cancelAll_45 ⟨Nat.le_of_ble_eq_true rfl, Nat.le_of_ble_eq_true rfl⟩) (fun r_15 u_14 H locs hw_16 hP hD hS => ?_)
        replace hP : va_P D gcl [(a2, .inl (cI, 6, .inl f2)), (a9, .inl (cI, 5, .inl f_10)), (a8, .inl (cI, 5, .inl (u_1.2.1 0))), (a0, .inr (7, [.ref a3, .ref a4, .ref a5, .ref a6, .ref a7, .ref a8, .ref a9, .ref a10, .int x0, .long y0, .int x1])), (a1, .inr (1, [.ref a11, .ref a12, .ref a13, .int x2, .int x3, .int x4, .int x5, .int x6, .int x7, .int x8])), (a10, .inl (cI, 6, .inl f_9)), (a11, .inr (8, [.ref a14])), (a14, .inl (cI, 30, .inl f1))] H := hP
        replace hD : va_D A [(a2, .inl (cI, 6, .inl f2)), (a9, .inl (cI, 5, .inl f_10)), (a8, .inl (cI, 5, .inl (u_1.2.1 0))), (a0, .inr (7, [.ref a3, .ref a4, .ref a5, .ref a6, .ref a7, .ref a8, .ref a9, .ref a10, .int x0, .long y0, .int x1])), (a1, .inr (1, [.ref a11, .ref a12, .ref a13, .int x2, .int x3, .int x4, .int x5, .int x6, .int x7, .int x8])), (a10, .inl (cI, 6, .inl f_9)), (a11, .inr (8, [.ref a14])), (a14, .inl (cI, 30, .inl f1))] := hD
        have hw_17 : ((((-2147483648) ≤ r_15.toInt ∧ r_15.toInt ≤ 2147483647) ∧ ((-1) ≤ x2.toInt ∧ x2.toInt ≤ 8))) := hw_16
        have rr_15 := n_rng r_15
        refine g_iastore (pc := 48) hx hb hK hP hD hS 1 2 rfl rfl (n_in rfl (by omega) (by omega)) dX7_cancelAll_48 (fun f_18 H locs hP hD hS => ?_)
        replace hP : va_P D gcl [(a2, .inl (cI, 6, .inl f2)), (a9, .inl (cI, 5, .inl f_18)), (a8, .inl (cI, 5, .inl (u_1.2.1 0))), (a0, .inr (7, [.ref a3, .ref a4, .ref a5, .ref a6, .ref a7, .ref a8, .ref a9, .ref a10, .int x0, .long y0, .int x1])), (a1, .inr (1, [.ref a11, .ref a12, .ref a13, .int x2, .int x3, .int x4, .int x5, .int x6, .int x7, .int x8])), (a10, .inl (cI, 6, .inl f_9)), (a11, .inr (8, [.ref a14])), (a14, .inl (cI, 30, .inl f1))] H := hP
        replace hD : va_D A [(a2, .inl (cI, 6, .inl f2)), (a9, .inl (cI, 5, .inl f_18)), (a8, .inl (cI, 5, .inl (u_1.2.1 0))), (a0, .inr (7, [.ref a3, .ref a4, .ref a5, .ref a6, .ref a7, .ref a8, .ref a9, .ref a10, .int x0, .long y0, .int x1])), (a1, .inr (1, [.ref a11, .ref a12, .ref a13, .int x2, .int x3, .int x4, .int x5, .int x6, .int x7, .int x8])), (a10, .inl (cI, 6, .inl f_9)), (a11, .inr (8, [.ref a14])), (a14, .inl (cI, 30, .inl f1))] := hD
        refine lv_iconst (pc := 49) (v := 0) hx hb dX7_cancelAll_49 (by decide) ?_
        refine lv_istore (pc := 50) (lv' := [(5, .int 0), (4, .int x_13), (3, .int x_7), (0, .ref a0), (1, .ref a1), (2, .ref a2)]) hx hb dX7_cancelAll_50 hl (by decide) rfl (fun ls hl => ?_)
        have lp_22 : ∀ (n : Nat) (x_19 : Int32) (f_21 : Nat → Int32) (H : Heap) (locs : List Loc) (ls : Array Slot), (0 ≤ x_19.toInt ∧ x_19.toInt ≤ 2147483647) → (2147483647 - x_19.toInt).toNat < n → va_P D gcl [(a2, .inl (cI, 6, .inl f2)), (a9, .inl (cI, 5, .inl f_18)), (a8, .inl (cI, 5, .inl (u_1.2.1 0))), (a0, .inr (7, [.ref a3, .ref a4, .ref a5, .ref a6, .ref a7, .ref a8, .ref a9, .ref a10, .int x0, .long y0, .int x1])), (a1, .inr (1, [.ref a11, .ref a12, .ref a13, .int x2, .int x3, .int x4, .int x5, .int x6, .int x7, .int x8])), (a10, .inl (cI, 6, .inl f_21)), (a11, .inr (8, [.ref a14])), (a14, .inl (cI, 30, .inl f1))] H → va_D A [(a2, .inl (cI, 6, .inl f2)), (a9, .inl (cI, 5, .inl f_18)), (a8, .inl (cI, 5, .inl (u_1.2.1 0))), (a0, .inr (7, [.ref a3, .ref a4, .ref a5, .ref a6, .ref a7, .ref a8, .ref a9, .ref a10, .int x0, .long y0, .int x1])), (a1, .inr (1, [.ref a11, .ref a12, .ref a13, .int x2, .int x3, .int x4, .int x5, .int x6, .int x7, .int x8])), (a10, .inl (cI, 6, .inl f_21)), (a11, .inr (8, [.ref a14])), (a14, .inl (cI, 30, .inl f1))] → va_S A s.heap H locs → lv_has ls 6 [(5, .int x_19), (4, .int x_13), (3, .int x_7), (0, .ref a0), (1, .ref a1), (2, .ref a2)] → W p l e ({ frames := 3, cells := 0, slots := 0, locals := 79 }) s m args below meth c H locs 0 0 Q (F0 m 52 ls []) := by
          intro n
          induction n with
          | zero => intro x_19 f_21 H locs ls hi_20 hmu; exact absurd hmu (Nat.not_lt_zero _)
          | succ n ih_lp_22 =>
            intro x_19 f_21 H locs ls hi_20 hmu_lp_22 hP hD hS hl
            refine lv_iload (pc := 52) hx hb dX7_cancelAll_52 (lv_at hl 0 rfl) ?_
            refine lv_aload_n (pc := 54) hx hb dX7_cancelAll_54 rfl (lv_at hl 4 rfl) ?_
            refine va_getN (pc := 55) (ci := 1) (v := .int x4) (C := RX1) (T := TX1) (N := 10) hx hb hts iX1 hown hK hP 4 rfl rfl 5 (by decide) (va_Nw.use rfl (hN _ tn_130)) (fun _ h9 => h9) rfl dX7_cancelAll_55 ?_
            refine b_icmp_ge (pc := 58) (tgt := 96) hx hb rfl rfl  dX7_cancelAll_58 (by decide) (fun c_23 => ?_) (fun c_23 => ?_)
            ·
              refine b_iinc (pc := 96) hx hb dX7_cancelAll_96 hl (k := 2) rfl rfl tI_1 (by omega) (by omega) (by decide) (fun x_24 ex_24 ls hl => ?_)
              replace hl : lv_has ls 6 [(3, .int x_24), (5, .int x_19), (4, .int x_13), (0, .ref a0), (1, .ref a1), (2, .ref a2)] := hl
              refine lv_goto (pc := 99) (tgt := 19) hx hb dX7_cancelAll_99 (by decide) ?_
              exact ih_lp_11 x_24 f_21 f_18 _ _ ls (by omega) (by omega) (g_psub hP [0, 5, 1, 3, 2, 4, 6, 7] rfl) (hD.sub [0, 5, 1, 3, 2, 4, 6, 7] (by decide) rfl) hS (lv_sub hl [0, 3, 4, 5] rfl)
            ·
              refine lv_aload_n (pc := 61) hx hb dX7_cancelAll_61 rfl (lv_at hl 3 rfl) ?_
              refine va_get (pc := 62) (ci := 7) (v := .ref a10) (C := RX7) (T := TX7) (N := 11) hx hb hts iX7 hown hK hP 3 rfl rfl 7 (by decide) (hts _ tw_253) (fun _ h9 => h9) rfl dX7_cancelAll_62 ?_
              refine lv_iload (pc := 65) hx hb dX7_cancelAll_65 (lv_at hl 0 rfl) ?_
              refine lv_dup2_11 (pc := 67) hx hb dX7_cancelAll_67 rfl rfl ?_
              refine va_iald (pc := 68) hx hb hK hP 5 2 rfl rfl (n_in rfl (by omega) (by omega)) dX7_cancelAll_68 ?_
              refine lv_topi (fun x_25 ex_25 => ?_)
              have rx_25 := n_rng x_25
              refine lv_aload_n (pc := 69) hx hb dX7_cancelAll_69 rfl (lv_at hl 4 rfl) ?_
              refine va_getN (pc := 70) (ci := 1) (v := .ref a11) (C := RX1) (T := TX1) (N := 10) hx hb hts iX1 hown hK hP 4 rfl rfl 0 (by decide) (va_Nw.use rfl (hN _ tn_103)) (fun _ h9 => h9) rfl dX7_cancelAll_70 ?_
              refine lv_iload (pc := 73) hx hb dX7_cancelAll_73 (lv_at hl 0 rfl) ?_
              refine lv_iload (pc := 75) hx hb dX7_cancelAll_75 (lv_at hl 1 rfl) ?_
              refine gc_i (pc := 77) (wc := [(a11, .inr (8, [.ref a14])), (a14, .inl (cI, 30, .inl f1))]) (wr := [(a2, .inl (cI, 6, .inl f2)), (a9, .inl (cI, 5, .inl f_18)), (a8, .inl (cI, 5, .inl (u_1.2.1 0))), (a0, .inr (7, [.ref a3, .ref a4, .ref a5, .ref a6, .ref a7, .ref a8, .ref a9, .ref a10, .int x0, .long y0, .int x1])), (a1, .inr (1, [.ref a11, .ref a12, .ref a13, .int x2, .int x3, .int x4, .int x5, .int x6, .int x7, .int x8])), (a10, .inl (cI, 6, .inl f_21))]) hP hD hS hA [6, 7] [0, 1, 2, 3, 4, 5] rfl rfl (by decide) (by decide) (by decide) (fun hPc hDc => va_runV (As := [.int x_19, .int x_13]) (rest := [.int x_25, .int x_19, .ref a10]) ⟨hx, hb, hml, hown, hts⟩ (k_X8_at l D cB cC cI cJ _ a11 a14 x_19 x_13 f1 (by  omega) rx_13) ⟨gcwB hts tw_791 tw_5 tw_992 hd_yX8_at ⟨Nat.le_of_ble_eq_true rfl, Nat.le_of_ble_eq_true rfl⟩, hts _ tw_789, hts _ tw_790⟩ ⟨gblind, va_recv hK hPc (ci := 8) (q0 := 0) rfl rfl, (gpreS hPc hK hDc hN).2⟩ rfl rfl hl.1 rfl (lv_room (Nat.le_of_ble_eq_true rfl)) dX7_cancelAll_77 ⟨Nat.le_of_ble_eq_true rfl, Nat.le_of_ble_eq_true rfl⟩) (fun r_27 u_26 H locs hw_28 hP hD hS => ?_)
              replace hP : va_P D gcl [(a2, .inl (cI, 6, .inl f2)), (a9, .inl (cI, 5, .inl f_18)), (a8, .inl (cI, 5, .inl (u_1.2.1 0))), (a0, .inr (7, [.ref a3, .ref a4, .ref a5, .ref a6, .ref a7, .ref a8, .ref a9, .ref a10, .int x0, .long y0, .int x1])), (a1, .inr (1, [.ref a11, .ref a12, .ref a13, .int x2, .int x3, .int x4, .int x5, .int x6, .int x7, .int x8])), (a10, .inl (cI, 6, .inl f_21)), (a11, .inr (8, [.ref a14])), (a14, .inl (cI, 30, .inl f1))] H := hP
              replace hD : va_D A [(a2, .inl (cI, 6, .inl f2)), (a9, .inl (cI, 5, .inl f_18)), (a8, .inl (cI, 5, .inl (u_1.2.1 0))), (a0, .inr (7, [.ref a3, .ref a4, .ref a5, .ref a6, .ref a7, .ref a8, .ref a9, .ref a10, .int x0, .long y0, .int x1])), (a1, .inr (1, [.ref a11, .ref a12, .ref a13, .int x2, .int x3, .int x4, .int x5, .int x6, .int x7, .int x8])), (a10, .inl (cI, 6, .inl f_21)), (a11, .inr (8, [.ref a14])), (a14, .inl (cI, 30, .inl f1))] := hD
              have hw_29 : ((((-2147483648) ≤ r_27.toInt ∧ r_27.toInt ≤ 2147483647))) := hw_28
              have rr_27 := n_rng r_27
              refine lv_aload_n (pc := 80) hx hb dX7_cancelAll_80 rfl (lv_at hl 3 rfl) ?_
              refine va_get (pc := 81) (ci := 7) (v := .ref a9) (C := RX7) (T := TX7) (N := 11) hx hb hts iX7 hown hK hP 3 rfl rfl 6 (by decide) (hts _ tw_251) (fun _ h9 => h9) rfl dX7_cancelAll_81 ?_
              refine lv_iload (pc := 84) hx hb dX7_cancelAll_84 (lv_at hl 1 rfl) ?_
              refine va_iald (pc := 86) hx hb hK hP 1 2 rfl rfl (n_in rfl (by omega) (by omega)) dX7_cancelAll_86 ?_
              refine lv_topi (fun x_30 ex_30 => ?_)
              have rx_30 := n_rng x_30
              refine lv_imul (pc := 87) hx hb dX7_cancelAll_87 ?_
              refine lv_topi (fun x_31 _ => ?_)
              have rx_31 := n_rng x_31
              refine lv_isub (pc := 88) hx hb dX7_cancelAll_88 ?_
              refine lv_topi (fun x_32 _ => ?_)
              have rx_32 := n_rng x_32
              refine g_iastore (pc := 89) hx hb hK hP hD hS 5 2 rfl rfl (n_in rfl (by omega) (by omega)) dX7_cancelAll_89 (fun f_33 H locs hP hD hS => ?_)
              replace hP : va_P D gcl [(a2, .inl (cI, 6, .inl f2)), (a9, .inl (cI, 5, .inl f_18)), (a8, .inl (cI, 5, .inl (u_1.2.1 0))), (a0, .inr (7, [.ref a3, .ref a4, .ref a5, .ref a6, .ref a7, .ref a8, .ref a9, .ref a10, .int x0, .long y0, .int x1])), (a1, .inr (1, [.ref a11, .ref a12, .ref a13, .int x2, .int x3, .int x4, .int x5, .int x6, .int x7, .int x8])), (a10, .inl (cI, 6, .inl f_33)), (a11, .inr (8, [.ref a14])), (a14, .inl (cI, 30, .inl f1))] H := hP
              replace hD : va_D A [(a2, .inl (cI, 6, .inl f2)), (a9, .inl (cI, 5, .inl f_18)), (a8, .inl (cI, 5, .inl (u_1.2.1 0))), (a0, .inr (7, [.ref a3, .ref a4, .ref a5, .ref a6, .ref a7, .ref a8, .ref a9, .ref a10, .int x0, .long y0, .int x1])), (a1, .inr (1, [.ref a11, .ref a12, .ref a13, .int x2, .int x3, .int x4, .int x5, .int x6, .int x7, .int x8])), (a10, .inl (cI, 6, .inl f_33)), (a11, .inr (8, [.ref a14])), (a14, .inl (cI, 30, .inl f1))] := hD
              refine b_iinc (pc := 90) hx hb dX7_cancelAll_90 hl (k := 0) rfl rfl tI_1 (by omega) (by omega) (by decide) (fun x_34 ex_34 ls hl => ?_)
              replace hl : lv_has ls 6 [(5, .int x_34), (4, .int x_13), (3, .int x_7), (0, .ref a0), (1, .ref a1), (2, .ref a2)] := hl
              refine lv_goto (pc := 93) (tgt := 52) hx hb dX7_cancelAll_93 (by decide) ?_
              exact ih_lp_22 x_34 f_33 _ _ ls (by omega) (by omega) hP hD hS (lv_sub hl [0, 1, 2, 3, 4, 5] rfl)
        exact lp_22 _ 0 f_9 _ _ ls (n_c tI_0 (by decide)) (Nat.lt_succ_self _) hP hD hS (lv_sub hl [0, 1, 2, 3, 4, 5] rfl)
  exact lp_11 _ 0 f_6 f4 _ _ ls (n_c tI_0 (by decide)) (Nat.lt_succ_self _) hP hD hS (lv_sub hl [0, 1, 2, 3] rfl)
