set_option maxHeartbeats 4000000 in
set_option maxRecDepth 100000 in
theorem k_X1_copyWord_5 (l : Launch) (D : va_G) (cB cC cI cJ : ClassId) (sz : Nat) (a0 a1 a2 a3 a4 : Nat) (x0 x1 x2 x3 x4 x5 x6 x7 : Int32) (f0 f1 : Nat → Int32) (hp1 : (0 ≤ x0.toInt ∧ x0.toInt ≤ 15)) (h_x1 : ((-1) ≤ x1.toInt ∧ x1.toInt ≤ 8)) (h_x2 : ((-1) ≤ x2.toInt ∧ x2.toInt ≤ 5)) (h_x3 : ((-1) ≤ x3.toInt ∧ x3.toInt ≤ 6)) (h_x4 : (0 ≤ x4.toInt ∧ x4.toInt ≤ 6)) (h_x5 : (0 ≤ x5.toInt ∧ x5.toInt ≤ 16)) : Met l yX1_copyWord (.code yX1_copyWord cX1_copyWord 4 none :: lw_gd) ({ frames := 1, cells := 0, slots := 0, locals := 22 }) (gPre D [(cB, .byte), (cC, .char), (cI, .int), (cJ, .long)] [.ref a0, .int x0, .ref a1] [(a0, .inr (1, [.ref a2, .ref a3, .ref a4, .int x1, .int x2, .int x3, .int x4, .int x5, .int x6, .int x7])), (a4, .inl (cI, 80, .inl f0)), (a1, .inl (cI, 5, .inl f1))] sz) (va_Qv (fun u => ((((-1) ≤ x2.toInt ∧ x2.toInt ≤ 5)))) (gB D (va_A [(a0, .inr (1, [.ref a2, .ref a3, .ref a4, .int x1, .int x2, .int x3, .int x4, .int x5, .int x6, .int x7])), (a4, .inl (cI, 80, .inl f0)), (a1, .inl (cI, 5, .inl f1))] sz) (fun u : gEx => [(a0, .inr (1, [.ref a2, .ref a3, .ref a4, .int x1, .int x2, .int x3, .int x4, .int x5, .int x6, .int x7])), (a4, .inl (cI, 80, .inl f0)), (a1, .inl (cI, 5, .inl (u.2.1 0)))])) (va_A [(a0, .inr (1, [.ref a2, .ref a3, .ref a4, .int x1, .int x2, .int x3, .int x4, .int x5, .int x6, .int x7])), (a4, .inl (cI, 80, .inl f0)), (a1, .inl (cI, 5, .inl f1))] sz)) 0 0 (va_A [(a0, .inr (1, [.ref a2, .ref a3, .ref a4, .int x1, .int x2, .int x3, .int x4, .int x5, .int x6, .int x7])), (a4, .inl (cI, 80, .inl f0)), (a1, .inl (cI, 5, .inl f1))] sz) := by
  refine gOf_v (by decide +kernel) (Nat.le_of_ble_eq_true rfl) ?_
  intro p e s m args below meth c ls A Q hx hb hts hown hml hN hK hP hD hA hl hret
  have hown : s.vm.findClass RX1 = some m.cls := hown
  have hS : va_S A s.heap s.heap [] := va_S.rf
  have hP : va_P D gcl [(a0, .inr (1, [.ref a2, .ref a3, .ref a4, .int x1, .int x2, .int x3, .int x4, .int x5, .int x6, .int x7])), (a4, .inl (cI, 80, .inl f0)), (a1, .inl (cI, 5, .inl f1))] s.heap := hP
  have hl : lv_has ls 4 [(0, .ref a0), (1, .int x0), (2, .ref a1)] := hl
  have rx6 := n_rng x6
  have rx7 := n_rng x7
  refine lv_iconst (pc := 0) (v := 0) hx hb dX1_copyWord_0 (by decide) ?_
  refine lv_istore_n (pc := 1) (lv' := [(3, .int 0), (0, .ref a0), (1, .int x0), (2, .ref a1)]) hx hb dX1_copyWord_1 rfl hl (by decide) rfl (fun ls hl => ?_)
  have lp_4 : ∀ (n : Nat) (x_1 : Int32) (f_3 : Nat → Int32) (H : Heap) (locs : List Loc) (ls : Array Slot), (0 ≤ x_1.toInt ∧ x_1.toInt ≤ 2147483647) → (2147483647 - x_1.toInt).toNat < n → va_P D gcl [(a0, .inr (1, [.ref a2, .ref a3, .ref a4, .int x1, .int x2, .int x3, .int x4, .int x5, .int x6, .int x7])), (a4, .inl (cI, 80, .inl f0)), (a1, .inl (cI, 5, .inl f_3))] H → va_D A [(a0, .inr (1, [.ref a2, .ref a3, .ref a4, .int x1, .int x2, .int x3, .int x4, .int x5, .int x6, .int x7])), (a4, .inl (cI, 80, .inl f0)), (a1, .inl (cI, 5, .inl f_3))] → va_S A s.heap H locs → lv_has ls 4 [(3, .int x_1), (0, .ref a0), (1, .int x0), (2, .ref a1)] → W p l e ({ frames := 1, cells := 0, slots := 0, locals := 22 }) s m args below meth c H locs 0 0 Q (F0 m 2 ls []) := by
    intro n
    induction n with
    | zero => intro x_1 f_3 H locs ls hi_2 hmu; exact absurd hmu (Nat.not_lt_zero _)
    | succ n ih_lp_4 =>
      intro x_1 f_3 H locs ls hi_2 hmu_lp_4 hP hD hS hl
      refine lv_iload_n (pc := 2) hx hb dX1_copyWord_2 rfl (lv_at hl 0 rfl) ?_
      refine lv_aload_n (pc := 3) hx hb dX1_copyWord_3 rfl (lv_at hl 1 rfl) ?_
      refine va_get (pc := 4) (ci := 1) (v := .int x2) (C := RX1) (T := TX1) (N := 10) hx hb hts iX1 hown hK hP 0 rfl rfl 4 (by decide) (hts _ tw_116) (fun _ h9 => h9) rfl dX1_copyWord_4 ?_
      refine b_icmp_ge (pc := 7) (tgt := 25) hx hb rfl rfl  dX1_copyWord_7 (by decide) (fun c_5 => ?_) (fun c_5 => ?_)
      ·
        exact hret ((fun _ => 0), (fun k => [f_3].getD k (fun _ => 0)), (fun _ => (fun _ => 0)), (fun _ => 0), (fun _ => 0)) dX1_copyWord_25 (show ((((-1) ≤ x2.toInt ∧ x2.toInt ≤ 5))) from h_x2) (g_psub (wc := [(a0, .inr (1, [.ref a2, .ref a3, .ref a4, .int x1, .int x2, .int x3, .int x4, .int x5, .int x6, .int x7])), (a4, .inl (cI, 80, .inl f0)), (a1, .inl (cI, 5, .inl f_3))]) hP [0, 1, 2] rfl) (hD.sub (ws' := [(a0, .inr (1, [.ref a2, .ref a3, .ref a4, .int x1, .int x2, .int x3, .int x4, .int x5, .int x6, .int x7])), (a4, .inl (cI, 80, .inl f0)), (a1, .inl (cI, 5, .inl f_3))]) [0, 1, 2] (by decide) rfl) hS
      ·
        refine lv_aload_n (pc := 10) hx hb dX1_copyWord_10 rfl (lv_at hl 3 rfl) ?_
        refine lv_iload_n (pc := 11) hx hb dX1_copyWord_11 rfl (lv_at hl 0 rfl) ?_
        refine lv_aload_n (pc := 12) hx hb dX1_copyWord_12 rfl (lv_at hl 1 rfl) ?_
        refine lv_iload_n (pc := 13) hx hb dX1_copyWord_13 rfl (lv_at hl 2 rfl) ?_
        refine lv_iload_n (pc := 14) hx hb dX1_copyWord_14 rfl (lv_at hl 0 rfl) ?_
        refine gc_i (pc := 15) (wc := [(a0, .inr (1, [.ref a2, .ref a3, .ref a4, .int x1, .int x2, .int x3, .int x4, .int x5, .int x6, .int x7])), (a4, .inl (cI, 80, .inl f0))]) (wr := [(a1, .inl (cI, 5, .inl f_3))]) hP hD hS hA [0, 1] [2] rfl rfl (by decide) (by decide) (by decide) (fun hPc hDc => va_runV (As := [.int x0, .int x_1]) (rest := [.int x_1, .ref a1]) ⟨hx, hb, hml, hown, hts⟩ (k_X1_letterOfWord l D cB cC cI cJ _ a0 a2 a3 a4 x0 x_1 x1 x2 x3 x4 x5 x6 x7 f0 hp1 (by  omega) h_x1 h_x2 h_x3 h_x4 h_x5) ⟨gcwB hts tw_1181 tw_4 tw_1190 hd_yX1_letterOfWord ⟨Nat.le_of_ble_eq_true rfl, Nat.le_of_ble_eq_true rfl⟩, hts _ tw_1179, hts _ tw_1180⟩ ⟨gblind, va_recv hK hPc (ci := 1) (q0 := 0) rfl rfl, (gpreS hPc hK hDc hN).2⟩ rfl rfl hl.1 rfl (lv_room (Nat.le_of_ble_eq_true rfl)) dX1_copyWord_15 ⟨Nat.le_of_ble_eq_true rfl, Nat.le_of_ble_eq_true rfl⟩) (fun r_7 u_6 H locs hw_8 hP hD hS => ?_)
        have hP : va_P D gcl [(a1, .inl (cI, 5, .inl f_3)), (a0, .inr (1, [.ref a2, .ref a3, .ref a4, .int x1, .int x2, .int x3, .int x4, .int x5, .int x6, .int x7])), (a4, .inl (cI, 80, .inl f0))] H := hP
        have hD : va_D A [(a1, .inl (cI, 5, .inl f_3)), (a0, .inr (1, [.ref a2, .ref a3, .ref a4, .int x1, .int x2, .int x3, .int x4, .int x5, .int x6, .int x7])), (a4, .inl (cI, 80, .inl f0))] := hD
        have hw_9 : ((((-2147483648) ≤ r_7.toInt ∧ r_7.toInt ≤ 2147483647))) := hw_8
        have rr_7 := n_rng r_7
        refine g_iastore (pc := 18) hx hb hK hP hD hS 0 2 rfl rfl (n_in rfl (by omega) (by omega)) dX1_copyWord_18 (fun f_10 H locs hP hD hS => ?_)
        have hP : va_P D gcl [(a1, .inl (cI, 5, .inl f_10)), (a0, .inr (1, [.ref a2, .ref a3, .ref a4, .int x1, .int x2, .int x3, .int x4, .int x5, .int x6, .int x7])), (a4, .inl (cI, 80, .inl f0))] H := hP
        have hD : va_D A [(a1, .inl (cI, 5, .inl f_10)), (a0, .inr (1, [.ref a2, .ref a3, .ref a4, .int x1, .int x2, .int x3, .int x4, .int x5, .int x6, .int x7])), (a4, .inl (cI, 80, .inl f0))] := hD
        refine b_iinc (pc := 19) hx hb dX1_copyWord_19 hl (k := 0) rfl rfl tI_1 (by omega) (by omega) (by decide) (fun x_11 ex_11 ls hl => ?_)
        have hl : lv_has ls 4 [(3, .int x_11), (0, .ref a0), (1, .int x0), (2, .ref a1)] := hl
        refine lv_goto (pc := 22) (tgt := 2) hx hb dX1_copyWord_22 (by decide) ?_
        exact ih_lp_4 x_11 f_10 _ _ ls (by omega) (by omega) (g_psub hP [1, 2, 0] rfl) (hD.sub [1, 2, 0] (by decide) rfl) hS (lv_sub hl [0, 1, 2, 3] rfl)
  exact lp_4 _ 0 f1 _ _ ls (n_c tI_0 (by decide)) (Nat.lt_succ_self _) hP hD hS (lv_sub hl [0, 1, 2, 3] rfl)
set_option maxHeartbeats 4000000 in
set_option maxRecDepth 100000 in
theorem k_X11_decode (l : Launch) (D : va_G) (cB cC cI cJ : ClassId) (sz : Nat) (a0 a1 a2 a3 a4 a5 a6 a7 a8 a9 a10 a11 a12 a13 a14 a15 a16 a17 : Nat) (x0 x1 x2 x3 x4 x5 x6 x7 : Int32) (f0 f1 f2 f3 : Nat → Int32) (h_x0 : (0 ≤ x0.toInt ∧ x0.toInt ≤ 14)) (h_x1 : ((-1) ≤ x1.toInt ∧ x1.toInt ≤ 8)) (h_x2 : ((-1) ≤ x2.toInt ∧ x2.toInt ≤ 5)) (h_x3 : ((-1) ≤ x3.toInt ∧ x3.toInt ≤ 6)) (h_x4 : (0 ≤ x4.toInt ∧ x4.toInt ≤ 6)) (h_x5 : (0 ≤ x5.toInt ∧ x5.toInt ≤ 16)) : Met l yX11_decode (.code yX11_decode cX11_decode 7 (some .int) :: lw_gd) ({ frames := 3, cells := 0, slots := 0, locals := 74 }) (gPre D [(cB, .byte), (cC, .char), (cI, .int), (cJ, .long)] [.ref a0] [(a0, .inr (11, [.ref a1, .ref a2, .ref a3, .ref a4, .ref a5, .ref a6, .ref a7, .ref a8, .ref a9, .ref a10, .int x0, .ref a11, .ref a12, .ref a13])), (a11, .inr (1, [.ref a14, .ref a15, .ref a16, .int x1, .int x2, .int x3, .int x4, .int x5, .int x6, .int x7])), (a8, .inl (cI, 5, .inl f0)), (a16, .inl (cI, 80, .inl f1)), (a7, .inl (cI, 6, .inl f2)), (a14, .inr (8, [.ref a17])), (a17, .inl (cI, 30, .inl f3))] sz) (va_Qi (fun r u => ((((-2147483648) ≤ r.toInt ∧ r.toInt ≤ 2147483647) ∧ (0 ≤ x5.toInt ∧ x5.toInt ≤ 16)))) (gB D (va_A [(a0, .inr (11, [.ref a1, .ref a2, .ref a3, .ref a4, .ref a5, .ref a6, .ref a7, .ref a8, .ref a9, .ref a10, .int x0, .ref a11, .ref a12, .ref a13])), (a11, .inr (1, [.ref a14, .ref a15, .ref a16, .int x1, .int x2, .int x3, .int x4, .int x5, .int x6, .int x7])), (a8, .inl (cI, 5, .inl f0)), (a16, .inl (cI, 80, .inl f1)), (a7, .inl (cI, 6, .inl f2)), (a14, .inr (8, [.ref a17])), (a17, .inl (cI, 30, .inl f3))] sz) (fun u : gEx => [(a0, .inr (11, [.ref a1, .ref a2, .ref a3, .ref a4, .ref a5, .ref a6, .ref a7, .ref a8, .ref a9, .ref a10, .int x0, .ref a11, .ref a12, .ref a13])), (a11, .inr (1, [.ref a14, .ref a15, .ref a16, .int x1, .int x2, .int x3, .int x4, .int x5, .int x6, .int x7])), (a8, .inl (cI, 5, .inl (u.2.1 0))), (a16, .inl (cI, 80, .inl f1)), (a7, .inl (cI, 6, .inl f2)), (a14, .inr (8, [.ref a17])), (a17, .inl (cI, 30, .inl f3))])) (va_A [(a0, .inr (11, [.ref a1, .ref a2, .ref a3, .ref a4, .ref a5, .ref a6, .ref a7, .ref a8, .ref a9, .ref a10, .int x0, .ref a11, .ref a12, .ref a13])), (a11, .inr (1, [.ref a14, .ref a15, .ref a16, .int x1, .int x2, .int x3, .int x4, .int x5, .int x6, .int x7])), (a8, .inl (cI, 5, .inl f0)), (a16, .inl (cI, 80, .inl f1)), (a7, .inl (cI, 6, .inl f2)), (a14, .inr (8, [.ref a17])), (a17, .inl (cI, 30, .inl f3))] sz)) 0 0 (va_A [(a0, .inr (11, [.ref a1, .ref a2, .ref a3, .ref a4, .ref a5, .ref a6, .ref a7, .ref a8, .ref a9, .ref a10, .int x0, .ref a11, .ref a12, .ref a13])), (a11, .inr (1, [.ref a14, .ref a15, .ref a16, .int x1, .int x2, .int x3, .int x4, .int x5, .int x6, .int x7])), (a8, .inl (cI, 5, .inl f0)), (a16, .inl (cI, 80, .inl f1)), (a7, .inl (cI, 6, .inl f2)), (a14, .inr (8, [.ref a17])), (a17, .inl (cI, 30, .inl f3))] sz) := by
  refine gOf_i (by decide +kernel) (Nat.le_of_ble_eq_true rfl) ?_
  intro p e s m args below meth c ls A Q hx hb hts hown hml hN hK hP hD hA hl hret
  have hown : s.vm.findClass RX11 = some m.cls := hown
  have hS : va_S A s.heap s.heap [] := va_S.rf
  have hP : va_P D gcl [(a0, .inr (11, [.ref a1, .ref a2, .ref a3, .ref a4, .ref a5, .ref a6, .ref a7, .ref a8, .ref a9, .ref a10, .int x0, .ref a11, .ref a12, .ref a13])), (a11, .inr (1, [.ref a14, .ref a15, .ref a16, .int x1, .int x2, .int x3, .int x4, .int x5, .int x6, .int x7])), (a8, .inl (cI, 5, .inl f0)), (a16, .inl (cI, 80, .inl f1)), (a7, .inl (cI, 6, .inl f2)), (a14, .inr (8, [.ref a17])), (a17, .inl (cI, 30, .inl f3))] s.heap := hP
  have hl : lv_has ls 7 [(0, .ref a0)] := hl
  have rx6 := n_rng x6
  have rx7 := n_rng x7
  refine lv_iconst (pc := 0) (v := (-1)) hx hb dX11_decode_0 (by decide) ?_
  refine lv_istore_n (pc := 1) (lv' := [(1, .int (-1)), (0, .ref a0)]) hx hb dX11_decode_1 rfl hl (by decide) rfl (fun ls hl => ?_)
  refine lv_lconst (pc := 2) (v := 0) hx hb dX11_decode_2 (by decide) ?_
  refine lv_lstore_n (pc := 3) (lv' := [(2, .long 0), (1, .int (-1)), (0, .ref a0)]) hx hb dX11_decode_3 rfl hl (by decide) rfl (fun ls hl => ?_)
  refine lv_iconst (pc := 4) (v := 0) hx hb dX11_decode_4 (by decide) ?_
  refine lv_istore (pc := 5) (lv' := [(4, .int 0), (2, .long 0), (1, .int (-1)), (0, .ref a0)]) hx hb dX11_decode_5 hl (by decide) rfl (fun ls hl => ?_)
  have lp_8 : ∀ (n : Nat) (x_1 x_5 : Int32) (y_3 : Int64) (f_7 : Nat → Int32) (H : Heap) (locs : List Loc) (ls : Array Slot), (0 ≤ x_1.toInt ∧ x_1.toInt ≤ 2147483647) → (2147483647 - x_1.toInt).toNat < n → va_P D gcl [(a0, .inr (11, [.ref a1, .ref a2, .ref a3, .ref a4, .ref a5, .ref a6, .ref a7, .ref a8, .ref a9, .ref a10, .int x0, .ref a11, .ref a12, .ref a13])), (a11, .inr (1, [.ref a14, .ref a15, .ref a16, .int x1, .int x2, .int x3, .int x4, .int x5, .int x6, .int x7])), (a8, .inl (cI, 5, .inl f_7)), (a16, .inl (cI, 80, .inl f1)), (a7, .inl (cI, 6, .inl f2)), (a14, .inr (8, [.ref a17])), (a17, .inl (cI, 30, .inl f3))] H → va_D A [(a0, .inr (11, [.ref a1, .ref a2, .ref a3, .ref a4, .ref a5, .ref a6, .ref a7, .ref a8, .ref a9, .ref a10, .int x0, .ref a11, .ref a12, .ref a13])), (a11, .inr (1, [.ref a14, .ref a15, .ref a16, .int x1, .int x2, .int x3, .int x4, .int x5, .int x6, .int x7])), (a8, .inl (cI, 5, .inl f_7)), (a16, .inl (cI, 80, .inl f1)), (a7, .inl (cI, 6, .inl f2)), (a14, .inr (8, [.ref a17])), (a17, .inl (cI, 30, .inl f3))] → va_S A s.heap H locs → lv_has ls 7 [(4, .int x_1), (2, .long y_3), (1, .int x_5), (0, .ref a0)] → W p l e ({ frames := 3, cells := 0, slots := 0, locals := 74 }) s m args below meth c H locs 0 0 Q (F0 m 7 ls []) := by
    intro n
    induction n with
    | zero => intro x_1 x_5 y_3 f_7 H locs ls hi_2 hmu; exact absurd hmu (Nat.not_lt_zero _)
    | succ n ih_lp_8 =>
      intro x_1 x_5 y_3 f_7 H locs ls hi_2 hmu_lp_8 hP hD hS hl
      have hi_4 := n_rngL y_3
      have hi_6 := n_rng x_5
      refine lv_iload (pc := 7) hx hb dX11_decode_7 (lv_at hl 0 rfl) ?_
      refine lv_aload_n (pc := 9) hx hb dX11_decode_9 rfl (lv_at hl 3 rfl) ?_
      refine va_get (pc := 10) (ci := 11) (v := .ref a11) (C := RX11) (T := TX11) (N := 14) hx hb hts iX11 hown hK hP 0 rfl rfl 11 (by decide) (hts _ tw_431) (fun _ h9 => h9) rfl dX11_decode_10 ?_
      refine va_getN (pc := 13) (ci := 1) (v := .int x5) (C := RX1) (T := TX1) (N := 10) hx hb hts iX1 hown hK hP 1 rfl rfl 7 (by decide) (va_Nw.use rfl (hN _ tn_137)) (fun _ h9 => h9) rfl dX11_decode_13 ?_
      refine b_icmp_ge (pc := 16) (tgt := 73) hx hb rfl rfl  dX11_decode_16 (by decide) (fun c_9 => ?_) (fun c_9 => ?_)
      ·
        refine lv_iload_n (pc := 73) hx hb dX11_decode_73 rfl (lv_at hl 2 rfl) ?_
        exact hret x_5 ((fun _ => 0), (fun k => [f_7].getD k (fun _ => 0)), (fun _ => (fun _ => 0)), (fun _ => 0), (fun _ => 0)) dX11_decode_74 (show ((((-2147483648) ≤ x_5.toInt ∧ x_5.toInt ≤ 2147483647) ∧ (0 ≤ x5.toInt ∧ x5.toInt ≤ 16))) by omega) (g_psub (wc := [(a0, .inr (11, [.ref a1, .ref a2, .ref a3, .ref a4, .ref a5, .ref a6, .ref a7, .ref a8, .ref a9, .ref a10, .int x0, .ref a11, .ref a12, .ref a13])), (a11, .inr (1, [.ref a14, .ref a15, .ref a16, .int x1, .int x2, .int x3, .int x4, .int x5, .int x6, .int x7])), (a8, .inl (cI, 5, .inl f_7)), (a16, .inl (cI, 80, .inl f1)), (a7, .inl (cI, 6, .inl f2)), (a14, .inr (8, [.ref a17])), (a17, .inl (cI, 30, .inl f3))]) hP [0, 1, 2, 3, 4, 5, 6] rfl) (hD.sub (ws' := [(a0, .inr (11, [.ref a1, .ref a2, .ref a3, .ref a4, .ref a5, .ref a6, .ref a7, .ref a8, .ref a9, .ref a10, .int x0, .ref a11, .ref a12, .ref a13])), (a11, .inr (1, [.ref a14, .ref a15, .ref a16, .int x1, .int x2, .int x3, .int x4, .int x5, .int x6, .int x7])), (a8, .inl (cI, 5, .inl f_7)), (a16, .inl (cI, 80, .inl f1)), (a7, .inl (cI, 6, .inl f2)), (a14, .inr (8, [.ref a17])), (a17, .inl (cI, 30, .inl f3))]) [0, 1, 2, 3, 4, 5, 6] (by decide) rfl) hS
      ·
        refine lv_aload_n (pc := 19) hx hb dX11_decode_19 rfl (lv_at hl 3 rfl) ?_
        refine va_get (pc := 20) (ci := 11) (v := .ref a11) (C := RX11) (T := TX11) (N := 14) hx hb hts iX11 hown hK hP 0 rfl rfl 11 (by decide) (hts _ tw_431) (fun _ h9 => h9) rfl dX11_decode_20 ?_
        refine lv_iload (pc := 23) hx hb dX11_decode_23 (lv_at hl 0 rfl) ?_
        refine lv_aload_n (pc := 25) hx hb dX11_decode_25 rfl (lv_at hl 3 rfl) ?_
        refine va_get (pc := 26) (ci := 11) (v := .ref a8) (C := RX11) (T := TX11) (N := 14) hx hb hts iX11 hown hK hP 0 rfl rfl 7 (by decide) (hts _ tw_427) (fun _ h9 => h9) rfl dX11_decode_26 ?_
        refine gc_v (pc := 29) (wc := [(a11, .inr (1, [.ref a14, .ref a15, .ref a16, .int x1, .int x2, .int x3, .int x4, .int x5, .int x6, .int x7])), (a16, .inl (cI, 80, .inl f1)), (a8, .inl (cI, 5, .inl f_7))]) (wr := [(a0, .inr (11, [.ref a1, .ref a2, .ref a3, .ref a4, .ref a5, .ref a6, .ref a7, .ref a8, .ref a9, .ref a10, .int x0, .ref a11, .ref a12, .ref a13])), (a7, .inl (cI, 6, .inl f2)), (a14, .inr (8, [.ref a17])), (a17, .inl (cI, 30, .inl f3))]) hP hD hS hA [1, 3, 2] [0, 4, 5, 6] rfl rfl (by decide) (by decide) (by decide) (fun hPc hDc => va_runV (As := [.int x_1, .ref a8]) (rest := []) ⟨hx, hb, hml, hown, hts⟩ (k_X1_copyWord_5 l D cB cC cI cJ _ a11 a8 a14 a15 a16 x_1 x1 x2 x3 x4 x5 x6 x7 f1 f_7 (by  omega) h_x1 h_x2 h_x3 h_x4 h_x5) ⟨gcwB hts tw_1218 tw_4 tw_1215 hd_yX1_copyWord ⟨Nat.le_of_ble_eq_true rfl, Nat.le_of_ble_eq_true rfl⟩, hts _ tw_1216, hts _ tw_1217⟩ ⟨gblind, va_recv hK hPc (ci := 1) (q0 := 0) rfl rfl, (gpreS hPc hK hDc hN).2⟩ rfl rfl hl.1 rfl (lv_room (Nat.le_of_ble_eq_true rfl)) dX11_decode_29 ⟨Nat.le_of_ble_eq_true rfl, Nat.le_of_ble_eq_true rfl⟩) (fun u_10 H locs hw_12 hP hD hS => ?_)
        have hP : va_P D gcl [(a0, .inr (11, [.ref a1, .ref a2, .ref a3, .ref a4, .ref a5, .ref a6, .ref a7, .ref a8, .ref a9, .ref a10, .int x0, .ref a11, .ref a12, .ref a13])), (a7, .inl (cI, 6, .inl f2)), (a14, .inr (8, [.ref a17])), (a17, .inl (cI, 30, .inl f3)), (a11, .inr (1, [.ref a14, .ref a15, .ref a16, .int x1, .int x2, .int x3, .int x4, .int x5, .int x6, .int x7])), (a16, .inl (cI, 80, .inl f1)), (a8, .inl (cI, 5, .inl (u_10.2.1 0)))] H := hP
        have hD : va_D A [(a0, .inr (11, [.ref a1, .ref a2, .ref a3, .ref a4, .ref a5, .ref a6, .ref a7, .ref a8, .ref a9, .ref a10, .int x0, .ref a11, .ref a12, .ref a13])), (a7, .inl (cI, 6, .inl f2)), (a14, .inr (8, [.ref a17])), (a17, .inl (cI, 30, .inl f3)), (a11, .inr (1, [.ref a14, .ref a15, .ref a16, .int x1, .int x2, .int x3, .int x4, .int x5, .int x6, .int x7])), (a16, .inl (cI, 80, .inl f1)), (a8, .inl (cI, 5, .inl (u_10.2.1 0)))] := hD
        have hw_13 : ((((-1) ≤ x2.toInt ∧ x2.toInt ≤ 5))) := hw_12
        refine lv_aload_n (pc := 32) hx hb dX11_decode_32 rfl (lv_at hl 3 rfl) ?_
        refine va_get (pc := 33) (ci := 11) (v := .ref a11) (C := RX11) (T := TX11) (N := 14) hx hb hts iX11 hown hK hP 0 rfl rfl 11 (by decide) (hts _ tw_431) (fun _ h9 => h9) rfl dX11_decode_33 ?_
        refine lv_aload_n (pc := 36) hx hb dX11_decode_36 rfl (lv_at hl 3 rfl) ?_
        refine va_get (pc := 37) (ci := 11) (v := .ref a8) (C := RX11) (T := TX11) (N := 14) hx hb hts iX11 hown hK hP 0 rfl rfl 7 (by decide) (hts _ tw_427) (fun _ h9 => h9) rfl dX11_decode_37 ?_
        refine lv_aload_n (pc := 40) hx hb dX11_decode_40 rfl (lv_at hl 3 rfl) ?_
        refine va_get (pc := 41) (ci := 11) (v := .ref a7) (C := RX11) (T := TX11) (N := 14) hx hb hts iX11 hown hK hP 0 rfl rfl 6 (by decide) (hts _ tw_426) (fun _ h9 => h9) rfl dX11_decode_41 ?_
        refine gc_l (pc := 44) (wc := [(a11, .inr (1, [.ref a14, .ref a15, .ref a16, .int x1, .int x2, .int x3, .int x4, .int x5, .int x6, .int x7])), (a7, .inl (cI, 6, .inl f2)), (a14, .inr (8, [.ref a17])), (a8, .inl (cI, 5, .inl (u_10.2.1 0))), (a17, .inl (cI, 30, .inl f3))]) (wr := [(a0, .inr (11, [.ref a1, .ref a2, .ref a3, .ref a4, .ref a5, .ref a6, .ref a7, .ref a8, .ref a9, .ref a10, .int x0, .ref a11, .ref a12, .ref a13])), (a16, .inl (cI, 80, .inl f1))]) hP hD hS hA [4, 1, 2, 6, 3] [0, 5] rfl rfl (by decide) (by decide) (by decide) (fun hPc hDc => va_runV (As := [.ref a8, .ref a7]) (rest := []) ⟨hx, hb, hml, hown, hts⟩ (k_X1_distanceOf_5_6 l D cB cC cI cJ _ a11 a8 a7 a14 a15 a16 a17 x1 x2 x3 x4 x5 x6 x7 f2 (u_10.2.1 0) f3 h_x1 hw_13 h_x3 h_x4 h_x5) ⟨gcwB hts tw_842 tw_4 tw_839 hd_yX1_distanceOf ⟨Nat.le_of_ble_eq_true rfl, Nat.le_of_ble_eq_true rfl⟩, hts _ tw_840, hts _ tw_841⟩ ⟨gblind, va_recv hK hPc (ci := 1) (q0 := 0) rfl rfl, (gpreS hPc hK hDc hN).2⟩ rfl rfl hl.1 rfl (lv_room (Nat.le_of_ble_eq_true rfl)) dX11_decode_44 ⟨Nat.le_of_ble_eq_true rfl, Nat.le_of_ble_eq_true rfl⟩) (fun r_15 u_14 H locs hw_16 hP hD hS => ?_)
        have hP : va_P D gcl [(a0, .inr (11, [.ref a1, .ref a2, .ref a3, .ref a4, .ref a5, .ref a6, .ref a7, .ref a8, .ref a9, .ref a10, .int x0, .ref a11, .ref a12, .ref a13])), (a16, .inl (cI, 80, .inl f1)), (a11, .inr (1, [.ref a14, .ref a15, .ref a16, .int x1, .int x2, .int x3, .int x4, .int x5, .int x6, .int x7])), (a7, .inl (cI, 6, .inl f2)), (a14, .inr (8, [.ref a17])), (a8, .inl (cI, 5, .inl (u_10.2.1 0))), (a17, .inl (cI, 30, .inl f3))] H := hP
        have hD : va_D A [(a0, .inr (11, [.ref a1, .ref a2, .ref a3, .ref a4, .ref a5, .ref a6, .ref a7, .ref a8, .ref a9, .ref a10, .int x0, .ref a11, .ref a12, .ref a13])), (a16, .inl (cI, 80, .inl f1)), (a11, .inr (1, [.ref a14, .ref a15, .ref a16, .int x1, .int x2, .int x3, .int x4, .int x5, .int x6, .int x7])), (a7, .inl (cI, 6, .inl f2)), (a14, .inr (8, [.ref a17])), (a8, .inl (cI, 5, .inl (u_10.2.1 0))), (a17, .inl (cI, 30, .inl f3))] := hD
        have hw_17 : ((((-9223372036854775808) ≤ r_15.toInt ∧ r_15.toInt ≤ 9223372036854775807) ∧ ((-1) ≤ x3.toInt ∧ x3.toInt ≤ 6))) := hw_16
        have rr_15 := n_rngL r_15
        refine lv_lstore (pc := 47) (lv' := [(5, .long r_15), (4, .int x_1), (2, .long y_3), (1, .int x_5), (0, .ref a0)]) hx hb dX11_decode_47 hl (by decide) rfl (fun ls hl => ?_)
        refine lv_iload_n (pc := 49) hx hb dX11_decode_49 rfl (lv_at hl 3 rfl) ?_
        refine lv_iconst (pc := 50) (v := (-1)) hx hb dX11_decode_50 (by decide) ?_
        refine b_icmp_eq (pc := 51) (tgt := 61) hx hb rfl tI_m1  dX11_decode_51 (by decide) (fun c_18 => ?_) (fun c_18 => ?_)
        ·
          refine lv_iload (pc := 61) hx hb dX11_decode_61 (lv_at hl 1 rfl) ?_
          refine lv_istore_n (pc := 63) (lv' := [(1, .int x_1), (5, .long r_15), (4, .int x_1), (2, .long y_3), (0, .ref a0)]) hx hb dX11_decode_63 rfl hl (by decide) rfl (fun ls hl => ?_)
          refine lv_lload (pc := 64) hx hb dX11_decode_64 (lv_at hl 1 rfl) ?_
          refine lv_lstore_n (pc := 66) (lv' := [(2, .long r_15), (1, .int x_1), (5, .long r_15), (4, .int x_1), (0, .ref a0)]) hx hb dX11_decode_66 rfl hl (by decide) rfl (fun ls hl => ?_)
          refine b_iinc (pc := 67) hx hb dX11_decode_67 hl (k := 3) rfl rfl tI_1 (by omega) (by omega) (by decide) (fun x_19 ex_19 ls hl => ?_)
          have hl : lv_has ls 7 [(4, .int x_19), (2, .long r_15), (1, .int x_1), (5, .long r_15), (0, .ref a0)] := hl
          refine lv_goto (pc := 70) (tgt := 7) hx hb dX11_decode_70 (by decide) ?_
          exact ih_lp_8 x_19 x_1 r_15 (u_10.2.1 0) _ _ ls (by omega) (by omega) (g_psub hP [0, 2, 5, 1, 3, 4, 6] rfl) (hD.sub [0, 2, 5, 1, 3, 4, 6] (by decide) rfl) hS (lv_sub hl [0, 1, 2, 4] rfl)
        ·
          refine lv_lload (pc := 54) hx hb dX11_decode_54 (lv_at hl 0 rfl) ?_
          refine lv_lload_n (pc := 56) hx hb dX11_decode_56 rfl (lv_at hl 2 rfl) ?_
          refine b_lcmp_ge (pc := 57) (tgt := 67) hx hb rfl rfl dX11_decode_57 dX11_decode_58 (by decide) (fun c_20 => ?_) (fun c_20 => ?_)
          ·
            refine b_iinc (pc := 67) hx hb dX11_decode_67 hl (k := 1) rfl rfl tI_1 (by omega) (by omega) (by decide) (fun x_21 ex_21 ls hl => ?_)
            have hl : lv_has ls 7 [(4, .int x_21), (5, .long r_15), (2, .long y_3), (1, .int x_5), (0, .ref a0)] := hl
            refine lv_goto (pc := 70) (tgt := 7) hx hb dX11_decode_70 (by decide) ?_
            exact ih_lp_8 x_21 x_5 y_3 (u_10.2.1 0) _ _ ls (by omega) (by omega) (g_psub hP [0, 2, 5, 1, 3, 4, 6] rfl) (hD.sub [0, 2, 5, 1, 3, 4, 6] (by decide) rfl) hS (lv_sub hl [0, 2, 3, 4] rfl)
          ·
            refine lv_iload (pc := 61) hx hb dX11_decode_61 (lv_at hl 1 rfl) ?_
            refine lv_istore_n (pc := 63) (lv' := [(1, .int x_1), (5, .long r_15), (4, .int x_1), (2, .long y_3), (0, .ref a0)]) hx hb dX11_decode_63 rfl hl (by decide) rfl (fun ls hl => ?_)
            refine lv_lload (pc := 64) hx hb dX11_decode_64 (lv_at hl 1 rfl) ?_
            refine lv_lstore_n (pc := 66) (lv' := [(2, .long r_15), (1, .int x_1), (5, .long r_15), (4, .int x_1), (0, .ref a0)]) hx hb dX11_decode_66 rfl hl (by decide) rfl (fun ls hl => ?_)
            refine b_iinc (pc := 67) hx hb dX11_decode_67 hl (k := 3) rfl rfl tI_1 (by omega) (by omega) (by decide) (fun x_22 ex_22 ls hl => ?_)
            have hl : lv_has ls 7 [(4, .int x_22), (2, .long r_15), (1, .int x_1), (5, .long r_15), (0, .ref a0)] := hl
            refine lv_goto (pc := 70) (tgt := 7) hx hb dX11_decode_70 (by decide) ?_
            exact ih_lp_8 x_22 x_1 r_15 (u_10.2.1 0) _ _ ls (by omega) (by omega) (g_psub hP [0, 2, 5, 1, 3, 4, 6] rfl) (hD.sub [0, 2, 5, 1, 3, 4, 6] (by decide) rfl) hS (lv_sub hl [0, 1, 2, 4] rfl)
  exact lp_8 _ 0 (-1) 0 f0 _ _ ls (n_c tI_0 (by decide)) (Nat.lt_succ_self _) hP hD hS (lv_sub hl [0, 1, 2, 3] rfl)
set_option maxHeartbeats 4000000 in
set_option maxRecDepth 100000 in
theorem k_X11_leave (l : Launch) (D : va_G) (cB cC cI cJ : ClassId) (sz : Nat) (a0 a1 a2 a3 a4 a5 a6 a7 a8 a9 a10 a11 a12 a13 a14 a15 a16 a17 a18 a19 : Nat) (x0 x1 x2 x3 x4 x5 x6 x7 x8 x9 x10 x11 x12 : Int32) (y0 : Int64) (f0 f1 f2 : Nat → Int32) (g0 : Nat → Int64) (h_x1 : (0 ≤ x1.toInt ∧ x1.toInt ≤ 14)) (h_x2 : ((-1) ≤ x2.toInt ∧ x2.toInt ≤ 8)) (h_x3 : ((-1) ≤ x3.toInt ∧ x3.toInt ≤ 5)) (h_x4 : ((-1) ≤ x4.toInt ∧ x4.toInt ≤ 6)) (h_x5 : (0 ≤ x5.toInt ∧ x5.toInt ≤ 6)) (h_x6 : (0 ≤ x6.toInt ∧ x6.toInt ≤ 16)) (h_x9 : (0 ≤ x9.toInt ∧ x9.toInt ≤ 16)) (h_x10 : (0 ≤ x10.toInt ∧ x10.toInt ≤ 1)) : Met l yX11_leave (.code yX11_leave cX11_leave 6 (some .long) :: lw_gd) ({ frames := 4, cells := 0, slots := 0, locals := 98 }) (gPre D [(cB, .byte), (cC, .char), (cI, .int), (cJ, .long)] [.ref a0, .int x0] [(a0, .inr (11, [.ref a1, .ref a2, .ref a3, .ref a4, .ref a5, .ref a6, .ref a7, .ref a8, .ref a9, .ref a10, .int x1, .ref a11, .ref a12, .ref a13])), (a11, .inr (1, [.ref a14, .ref a15, .ref a16, .int x2, .int x3, .int x4, .int x5, .int x6, .int x7, .int x8])), (a5, .inr (0, [.ref a17, .ref a18, .int x9, .int x10, .long y0, .int x11, .int x12])), (a14, .inr (8, [.ref a19])), (a18, .inl (cI, 5, .inl f0)), (a19, .inl (cI, 30, .inl f1)), (a16, .inl (cI, 80, .inl f2)), (a17, .inl (cJ, 256, .inr (.inl g0)))] sz) (va_Ql (fun r u => (0 ≤ (u.2.2.2.1 0).toInt ∧ (u.2.2.2.1 0).toInt ≤ 16) ∧ (0 ≤ (u.2.2.2.1 1).toInt ∧ (u.2.2.2.1 1).toInt ≤ 1)) (gB D (va_A [(a0, .inr (11, [.ref a1, .ref a2, .ref a3, .ref a4, .ref a5, .ref a6, .ref a7, .ref a8, .ref a9, .ref a10, .int x1, .ref a11, .ref a12, .ref a13])), (a11, .inr (1, [.ref a14, .ref a15, .ref a16, .int x2, .int x3, .int x4, .int x5, .int x6, .int x7, .int x8])), (a5, .inr (0, [.ref a17, .ref a18, .int x9, .int x10, .long y0, .int x11, .int x12])), (a14, .inr (8, [.ref a19])), (a18, .inl (cI, 5, .inl f0)), (a19, .inl (cI, 30, .inl f1)), (a16, .inl (cI, 80, .inl f2)), (a17, .inl (cJ, 256, .inr (.inl g0)))] sz) (fun u : gEx => [(a0, .inr (11, [.ref a1, .ref a2, .ref a3, .ref a4, .ref a5, .ref a6, .ref a7, .ref a8, .ref a9, .ref a10, .int x1, .ref a11, .ref a12, .ref a13])), (a11, .inr (1, [.ref a14, .ref a15, .ref a16, .int x2, .int x3, .int x4, .int x5, .int x6, .int x7, .int x8])), (a5, .inr (0, [.ref a17, .ref a18, .int (u.2.2.2.1 0), .int (u.2.2.2.1 1), .long (u.2.2.2.2 0), .int (u.2.2.2.1 2), .int (u.2.2.2.1 3)])), (a14, .inr (8, [.ref a19])), (a18, .inl (cI, 5, .inl (u.2.1 0))), (a19, .inl (cI, 30, .inl f1)), (a16, .inl (cI, 80, .inl f2)), (a17, .inl (cJ, 256, .inr (.inl (u.2.2.1 0))))])) (va_A [(a0, .inr (11, [.ref a1, .ref a2, .ref a3, .ref a4, .ref a5, .ref a6, .ref a7, .ref a8, .ref a9, .ref a10, .int x1, .ref a11, .ref a12, .ref a13])), (a11, .inr (1, [.ref a14, .ref a15, .ref a16, .int x2, .int x3, .int x4, .int x5, .int x6, .int x7, .int x8])), (a5, .inr (0, [.ref a17, .ref a18, .int x9, .int x10, .long y0, .int x11, .int x12])), (a14, .inr (8, [.ref a19])), (a18, .inl (cI, 5, .inl f0)), (a19, .inl (cI, 30, .inl f1)), (a16, .inl (cI, 80, .inl f2)), (a17, .inl (cJ, 256, .inr (.inl g0)))] sz)) 0 0 (va_A [(a0, .inr (11, [.ref a1, .ref a2, .ref a3, .ref a4, .ref a5, .ref a6, .ref a7, .ref a8, .ref a9, .ref a10, .int x1, .ref a11, .ref a12, .ref a13])), (a11, .inr (1, [.ref a14, .ref a15, .ref a16, .int x2, .int x3, .int x4, .int x5, .int x6, .int x7, .int x8])), (a5, .inr (0, [.ref a17, .ref a18, .int x9, .int x10, .long y0, .int x11, .int x12])), (a14, .inr (8, [.ref a19])), (a18, .inl (cI, 5, .inl f0)), (a19, .inl (cI, 30, .inl f1)), (a16, .inl (cI, 80, .inl f2)), (a17, .inl (cJ, 256, .inr (.inl g0)))] sz) := by
  refine gOf_l (by decide +kernel) (Nat.le_of_ble_eq_true rfl) ?_
  intro p e s m args below meth c ls A Q hx hb hts hown hml hN hK hP hD hA hl hret
  have hown : s.vm.findClass RX11 = some m.cls := hown
  have hS : va_S A s.heap s.heap [] := va_S.rf
  have hP : va_P D gcl [(a0, .inr (11, [.ref a1, .ref a2, .ref a3, .ref a4, .ref a5, .ref a6, .ref a7, .ref a8, .ref a9, .ref a10, .int x1, .ref a11, .ref a12, .ref a13])), (a11, .inr (1, [.ref a14, .ref a15, .ref a16, .int x2, .int x3, .int x4, .int x5, .int x6, .int x7, .int x8])), (a5, .inr (0, [.ref a17, .ref a18, .int x9, .int x10, .long y0, .int x11, .int x12])), (a14, .inr (8, [.ref a19])), (a18, .inl (cI, 5, .inl f0)), (a19, .inl (cI, 30, .inl f1)), (a16, .inl (cI, 80, .inl f2)), (a17, .inl (cJ, 256, .inr (.inl g0)))] s.heap := hP
  have hl : lv_has ls 6 [(0, .ref a0), (1, .int x0)] := hl
  have rx0 := n_rng x0
  have rx7 := n_rng x7
  have rx8 := n_rng x8
  have ry0 := n_rngL y0
  have rx11 := n_rng x11
  have rx12 := n_rng x12
  refine lv_iload_n (pc := 0) hx hb dX11_leave_0 rfl (lv_at hl 1 rfl) ?_
  refine b_if_lt (pc := 1) (tgt := 20) hx hb rfl  dX11_leave_1 (by decide) (fun c_1 => ?_) (fun c_1 => ?_)
  ·
    refine lv_ldc2 (pc := 20) hx hb hown (hts _ tw_844) dX11_leave_20 ?_
    exact hret (-1) ((fun _ => 0), (fun k => [f0].getD k (fun _ => 0)), (fun k => [g0].getD k (fun _ => 0)), (fun k => [x9, x10, x11, x12].getD k 0), (fun k => [y0].getD k 0)) dX11_leave_23 ⟨(show (0 ≤ (x9 : Int32).toInt ∧ (x9 : Int32).toInt ≤ 16) from h_x9), (show (0 ≤ (x10 : Int32).toInt ∧ (x10 : Int32).toInt ≤ 1) from h_x10)⟩ (g_psub (wc := [(a0, .inr (11, [.ref a1, .ref a2, .ref a3, .ref a4, .ref a5, .ref a6, .ref a7, .ref a8, .ref a9, .ref a10, .int x1, .ref a11, .ref a12, .ref a13])), (a11, .inr (1, [.ref a14, .ref a15, .ref a16, .int x2, .int x3, .int x4, .int x5, .int x6, .int x7, .int x8])), (a5, .inr (0, [.ref a17, .ref a18, .int x9, .int x10, .long y0, .int x11, .int x12])), (a14, .inr (8, [.ref a19])), (a18, .inl (cI, 5, .inl f0)), (a19, .inl (cI, 30, .inl f1)), (a16, .inl (cI, 80, .inl f2)), (a17, .inl (cJ, 256, .inr (.inl g0)))]) hP [0, 1, 2, 3, 4, 5, 6, 7] rfl) (hD.sub (ws' := [(a0, .inr (11, [.ref a1, .ref a2, .ref a3, .ref a4, .ref a5, .ref a6, .ref a7, .ref a8, .ref a9, .ref a10, .int x1, .ref a11, .ref a12, .ref a13])), (a11, .inr (1, [.ref a14, .ref a15, .ref a16, .int x2, .int x3, .int x4, .int x5, .int x6, .int x7, .int x8])), (a5, .inr (0, [.ref a17, .ref a18, .int x9, .int x10, .long y0, .int x11, .int x12])), (a14, .inr (8, [.ref a19])), (a18, .inl (cI, 5, .inl f0)), (a19, .inl (cI, 30, .inl f1)), (a16, .inl (cI, 80, .inl f2)), (a17, .inl (cJ, 256, .inr (.inl g0)))]) [0, 1, 2, 3, 4, 5, 6, 7] (by decide) rfl) hS
  ·
    refine lv_iload_n (pc := 4) hx hb dX11_leave_4 rfl (lv_at hl 1 rfl) ?_
    refine lv_iconst (pc := 5) (v := 1) hx hb dX11_leave_5 (by decide) ?_
    refine b_icmp_gt (pc := 6) (tgt := 20) hx hb rfl tI_1  dX11_leave_6 (by decide) (fun c_2 => ?_) (fun c_2 => ?_)
    ·
      refine lv_ldc2 (pc := 20) hx hb hown (hts _ tw_844) dX11_leave_20 ?_
      exact hret (-1) ((fun _ => 0), (fun k => [f0].getD k (fun _ => 0)), (fun k => [g0].getD k (fun _ => 0)), (fun k => [x9, x10, x11, x12].getD k 0), (fun k => [y0].getD k 0)) dX11_leave_23 ⟨(show (0 ≤ (x9 : Int32).toInt ∧ (x9 : Int32).toInt ≤ 16) from h_x9), (show (0 ≤ (x10 : Int32).toInt ∧ (x10 : Int32).toInt ≤ 1) from h_x10)⟩ (g_psub (wc := [(a0, .inr (11, [.ref a1, .ref a2, .ref a3, .ref a4, .ref a5, .ref a6, .ref a7, .ref a8, .ref a9, .ref a10, .int x1, .ref a11, .ref a12, .ref a13])), (a11, .inr (1, [.ref a14, .ref a15, .ref a16, .int x2, .int x3, .int x4, .int x5, .int x6, .int x7, .int x8])), (a5, .inr (0, [.ref a17, .ref a18, .int x9, .int x10, .long y0, .int x11, .int x12])), (a14, .inr (8, [.ref a19])), (a18, .inl (cI, 5, .inl f0)), (a19, .inl (cI, 30, .inl f1)), (a16, .inl (cI, 80, .inl f2)), (a17, .inl (cJ, 256, .inr (.inl g0)))]) hP [0, 1, 2, 3, 4, 5, 6, 7] rfl) (hD.sub (ws' := [(a0, .inr (11, [.ref a1, .ref a2, .ref a3, .ref a4, .ref a5, .ref a6, .ref a7, .ref a8, .ref a9, .ref a10, .int x1, .ref a11, .ref a12, .ref a13])), (a11, .inr (1, [.ref a14, .ref a15, .ref a16, .int x2, .int x3, .int x4, .int x5, .int x6, .int x7, .int x8])), (a5, .inr (0, [.ref a17, .ref a18, .int x9, .int x10, .long y0, .int x11, .int x12])), (a14, .inr (8, [.ref a19])), (a18, .inl (cI, 5, .inl f0)), (a19, .inl (cI, 30, .inl f1)), (a16, .inl (cI, 80, .inl f2)), (a17, .inl (cJ, 256, .inr (.inl g0)))]) [0, 1, 2, 3, 4, 5, 6, 7] (by decide) rfl) hS
    ·
      refine lv_aload_n (pc := 9) hx hb dX11_leave_9 rfl (lv_at hl 0 rfl) ?_
      refine va_get (pc := 10) (ci := 11) (v := .ref a11) (C := RX11) (T := TX11) (N := 14) hx hb hts iX11 hown hK hP 0 rfl rfl 11 (by decide) (hts _ tw_431) (fun _ h9 => h9) rfl dX11_leave_10 ?_
      refine va_getN (pc := 13) (ci := 1) (v := .int x6) (C := RX1) (T := TX1) (N := 10) hx hb hts iX1 hown hK hP 1 rfl rfl 7 (by decide) (va_Nw.use rfl (hN _ tn_137)) (fun _ h9 => h9) rfl dX11_leave_13 ?_
      refine lv_iconst (pc := 16) (v := 3) hx hb dX11_leave_16 (by decide) ?_
      refine b_icmp_ge (pc := 17) (tgt := 24) hx hb rfl tI_3  dX11_leave_17 (by decide) (fun c_3 => ?_) (fun c_3 => ?_)
      ·
        refine lv_aload_n (pc := 24) hx hb dX11_leave_24 rfl (lv_at hl 0 rfl) ?_
        refine va_get (pc := 25) (ci := 11) (v := .ref a5) (C := RX11) (T := TX11) (N := 14) hx hb hts iX11 hown hK hP 0 rfl rfl 4 (by decide) (hts _ tw_424) (fun _ h9 => h9) rfl dX11_leave_25 ?_
        refine lv_aload_n (pc := 28) hx hb dX11_leave_28 rfl (lv_at hl 0 rfl) ?_
        refine va_get (pc := 29) (ci := 11) (v := .ref a11) (C := RX11) (T := TX11) (N := 14) hx hb hts iX11 hown hK hP 0 rfl rfl 11 (by decide) (hts _ tw_431) (fun _ h9 => h9) rfl dX11_leave_29 ?_
        refine gc_v (pc := 32) (wc := [(a5, .inr (0, [.ref a17, .ref a18, .int x9, .int x10, .long y0, .int x11, .int x12])), (a11, .inr (1, [.ref a14, .ref a15, .ref a16, .int x2, .int x3, .int x4, .int x5, .int x6, .int x7, .int x8])), (a14, .inr (8, [.ref a19])), (a18, .inl (cI, 5, .inl f0)), (a19, .inl (cI, 30, .inl f1)), (a16, .inl (cI, 80, .inl f2)), (a17, .inl (cJ, 256, .inr (.inl g0)))]) (wr := [(a0, .inr (11, [.ref a1, .ref a2, .ref a3, .ref a4, .ref a5, .ref a6, .ref a7, .ref a8, .ref a9, .ref a10, .int x1, .ref a11, .ref a12, .ref a13]))]) hP hD hS hA [2, 1, 3, 4, 5, 6, 7] [0] rfl rfl (by decide) (by decide) (by decide) (fun hPc hDc => va_runV (As := [.ref a11]) (rest := []) ⟨hx, hb, hml, hown, hts⟩ (k_X0_learn l D cB cC cI cJ _ a5 a11 a17 a18 a14 a15 a16 a19 x9 x10 x11 x12 x2 x3 x4 x5 x6 x7 x8 y0 f0 f1 f2 g0 h_x9 h_x10 h_x2 h_x3 h_x4 h_x5 h_x6) ⟨gcwB hts tw_1195 tw_11 tw_1192 hd_yX0_learn ⟨Nat.le_of_ble_eq_true rfl, Nat.le_of_ble_eq_true rfl⟩, hts _ tw_1193, hts _ tw_1194⟩ ⟨gblind, va_recv hK hPc (ci := 0) (q0 := 0) rfl rfl, (gpreS hPc hK hDc hN).2⟩ rfl rfl hl.1 rfl (lv_room (Nat.le_of_ble_eq_true rfl)) dX11_leave_32 ⟨Nat.le_of_ble_eq_true rfl, Nat.le_of_ble_eq_true rfl⟩) (fun u_4 H locs hw_6 hP hD hS => ?_)
        have hP : va_P D gcl [(a0, .inr (11, [.ref a1, .ref a2, .ref a3, .ref a4, .ref a5, .ref a6, .ref a7, .ref a8, .ref a9, .ref a10, .int x1, .ref a11, .ref a12, .ref a13])), (a5, .inr (0, [.ref a17, .ref a18, .int (u_4.2.2.2.1 0), .int (u_4.2.2.2.1 1), .long y0, .int x11, .int x12])), (a11, .inr (1, [.ref a14, .ref a15, .ref a16, .int x2, .int x3, .int x4, .int x5, .int x6, .int x7, .int x8])), (a14, .inr (8, [.ref a19])), (a18, .inl (cI, 5, .inl (u_4.2.1 0))), (a19, .inl (cI, 30, .inl f1)), (a16, .inl (cI, 80, .inl f2)), (a17, .inl (cJ, 256, .inr (.inl (u_4.2.2.1 0))))] H := hP
        have hD : va_D A [(a0, .inr (11, [.ref a1, .ref a2, .ref a3, .ref a4, .ref a5, .ref a6, .ref a7, .ref a8, .ref a9, .ref a10, .int x1, .ref a11, .ref a12, .ref a13])), (a5, .inr (0, [.ref a17, .ref a18, .int (u_4.2.2.2.1 0), .int (u_4.2.2.2.1 1), .long y0, .int x11, .int x12])), (a11, .inr (1, [.ref a14, .ref a15, .ref a16, .int x2, .int x3, .int x4, .int x5, .int x6, .int x7, .int x8])), (a14, .inr (8, [.ref a19])), (a18, .inl (cI, 5, .inl (u_4.2.1 0))), (a19, .inl (cI, 30, .inl f1)), (a16, .inl (cI, 80, .inl f2)), (a17, .inl (cJ, 256, .inr (.inl (u_4.2.2.1 0))))] := hD
        obtain ⟨hw_7, hw_8, hw_9⟩ := hw_6
        have hw_7 : ((x10.toInt = 0 ∧ (0 ≤ x6.toInt ∧ x6.toInt ≤ 16) ∧ (u_4.2.2.2.1 0).toInt = x6.toInt ∧ (u_4.2.2.2.1 1).toInt = 1) ∨ (¬ x10.toInt = 0 ∧ (u_4.2.2.2.1 0).toInt = x9.toInt ∧ (u_4.2.2.2.1 1).toInt = x10.toInt)) := hw_7
        have hw_8 : (0 ≤ (u_4.2.2.2.1 0).toInt ∧ (u_4.2.2.2.1 0).toInt ≤ 16) := hw_8
        have hw_9 : (0 ≤ (u_4.2.2.2.1 1).toInt ∧ (u_4.2.2.2.1 1).toInt ≤ 1) := hw_9
        refine lv_iconst (pc := 35) (v := (-1)) hx hb dX11_leave_35 (by decide) ?_
        refine lv_istore_n (pc := 36) (lv' := [(2, .int (-1)), (0, .ref a0), (1, .int x0)]) hx hb dX11_leave_36 rfl hl (by decide) rfl (fun ls hl => ?_)
        refine lv_lconst (pc := 37) (v := 0) hx hb dX11_leave_37 (by decide) ?_
        refine lv_lstore_n (pc := 38) (lv' := [(3, .long 0), (2, .int (-1)), (0, .ref a0), (1, .int x0)]) hx hb dX11_leave_38 rfl hl (by decide) rfl (fun ls hl => ?_)
        refine lv_iconst (pc := 39) (v := 0) hx hb dX11_leave_39 (by decide) ?_
        refine lv_istore (pc := 40) (lv' := [(5, .int 0), (3, .long 0), (2, .int (-1)), (0, .ref a0), (1, .int x0)]) hx hb dX11_leave_40 hl (by decide) rfl (fun ls hl => ?_)
        have lp_22 : ∀ (n : Nat) (x_10 x_14 x_18 x_20 : Int32) (y_12 y_16 : Int64) (H : Heap) (locs : List Loc) (ls : Array Slot), (0 ≤ x_10.toInt ∧ x_10.toInt ≤ 2147483647) → (2147483647 - x_10.toInt).toNat < n → va_P D gcl [(a0, .inr (11, [.ref a1, .ref a2, .ref a3, .ref a4, .ref a5, .ref a6, .ref a7, .ref a8, .ref a9, .ref a10, .int x1, .ref a11, .ref a12, .ref a13])), (a5, .inr (0, [.ref a17, .ref a18, .int (u_4.2.2.2.1 0), .int (u_4.2.2.2.1 1), .long y_16, .int x_18, .int x_20])), (a11, .inr (1, [.ref a14, .ref a15, .ref a16, .int x2, .int x3, .int x4, .int x5, .int x6, .int x7, .int x8])), (a14, .inr (8, [.ref a19])), (a18, .inl (cI, 5, .inl (u_4.2.1 0))), (a19, .inl (cI, 30, .inl f1)), (a16, .inl (cI, 80, .inl f2)), (a17, .inl (cJ, 256, .inr (.inl (u_4.2.2.1 0))))] H → va_D A [(a0, .inr (11, [.ref a1, .ref a2, .ref a3, .ref a4, .ref a5, .ref a6, .ref a7, .ref a8, .ref a9, .ref a10, .int x1, .ref a11, .ref a12, .ref a13])), (a5, .inr (0, [.ref a17, .ref a18, .int (u_4.2.2.2.1 0), .int (u_4.2.2.2.1 1), .long y_16, .int x_18, .int x_20])), (a11, .inr (1, [.ref a14, .ref a15, .ref a16, .int x2, .int x3, .int x4, .int x5, .int x6, .int x7, .int x8])), (a14, .inr (8, [.ref a19])), (a18, .inl (cI, 5, .inl (u_4.2.1 0))), (a19, .inl (cI, 30, .inl f1)), (a16, .inl (cI, 80, .inl f2)), (a17, .inl (cJ, 256, .inr (.inl (u_4.2.2.1 0))))] → va_S A s.heap H locs → lv_has ls 6 [(5, .int x_10), (3, .long y_12), (2, .int x_14), (0, .ref a0), (1, .int x0)] → W p l e ({ frames := 4, cells := 0, slots := 0, locals := 98 }) s m args below meth c H locs 0 0 Q (F0 m 42 ls []) := by
          intro n
          induction n with
          | zero => intro x_10 x_14 x_18 x_20 y_12 y_16 H locs ls hi_11 hmu; exact absurd hmu (Nat.not_lt_zero _)
          | succ n ih_lp_22 =>
            intro x_10 x_14 x_18 x_20 y_12 y_16 H locs ls hi_11 hmu_lp_22 hP hD hS hl
            have hi_13 := n_rngL y_12
            have hi_15 := n_rng x_14
            have hi_17 := n_rngL y_16
            have hi_19 := n_rng x_18
            have hi_21 := n_rng x_20
            refine lv_iload (pc := 42) hx hb dX11_leave_42 (lv_at hl 0 rfl) ?_
            refine lv_aload_n (pc := 44) hx hb dX11_leave_44 rfl (lv_at hl 3 rfl) ?_
            refine va_get (pc := 45) (ci := 11) (v := .ref a11) (C := RX11) (T := TX11) (N := 14) hx hb hts iX11 hown hK hP 0 rfl rfl 11 (by decide) (hts _ tw_431) (fun _ h9 => h9) rfl dX11_leave_45 ?_
            refine va_getN (pc := 48) (ci := 1) (v := .int x6) (C := RX1) (T := TX1) (N := 10) hx hb hts iX1 hown hK hP 2 rfl rfl 7 (by decide) (va_Nw.use rfl (hN _ tn_137)) (fun _ h9 => h9) rfl dX11_leave_48 ?_
            refine b_icmp_ge (pc := 51) (tgt := 97) hx hb rfl rfl  dX11_leave_51 (by decide) (fun c_23 => ?_) (fun c_23 => ?_)
            ·
              refine lv_iload_n (pc := 97) hx hb dX11_leave_97 rfl (lv_at hl 4 rfl) ?_
              refine b_if_ne (pc := 98) (tgt := 106) hx hb rfl  dX11_leave_98 (by decide) (fun c_24 => ?_) (fun c_24 => ?_)
              ·
                refine lv_lload_n (pc := 106) hx hb dX11_leave_106 rfl (lv_at hl 1 rfl) ?_
                exact hret y_12 ((fun _ => 0), (fun k => [(u_4.2.1 0)].getD k (fun _ => 0)), (fun k => [(u_4.2.2.1 0)].getD k (fun _ => 0)), (fun k => [(u_4.2.2.2.1 0), (u_4.2.2.2.1 1), x_18, x_20].getD k 0), (fun k => [y_16].getD k 0)) dX11_leave_107 ⟨(show (0 ≤ ((u_4.2.2.2.1 0) : Int32).toInt ∧ ((u_4.2.2.2.1 0) : Int32).toInt ≤ 16) from hw_8), (show (0 ≤ ((u_4.2.2.2.1 1) : Int32).toInt ∧ ((u_4.2.2.2.1 1) : Int32).toInt ≤ 1) from hw_9)⟩ (g_psub (wc := [(a0, .inr (11, [.ref a1, .ref a2, .ref a3, .ref a4, .ref a5, .ref a6, .ref a7, .ref a8, .ref a9, .ref a10, .int x1, .ref a11, .ref a12, .ref a13])), (a11, .inr (1, [.ref a14, .ref a15, .ref a16, .int x2, .int x3, .int x4, .int x5, .int x6, .int x7, .int x8])), (a5, .inr (0, [.ref a17, .ref a18, .int (u_4.2.2.2.1 0), .int (u_4.2.2.2.1 1), .long y_16, .int x_18, .int x_20])), (a14, .inr (8, [.ref a19])), (a18, .inl (cI, 5, .inl (u_4.2.1 0))), (a19, .inl (cI, 30, .inl f1)), (a16, .inl (cI, 80, .inl f2)), (a17, .inl (cJ, 256, .inr (.inl (u_4.2.2.1 0))))]) hP [0, 2, 1, 3, 4, 5, 6, 7] rfl) (hD.sub (ws' := [(a0, .inr (11, [.ref a1, .ref a2, .ref a3, .ref a4, .ref a5, .ref a6, .ref a7, .ref a8, .ref a9, .ref a10, .int x1, .ref a11, .ref a12, .ref a13])), (a11, .inr (1, [.ref a14, .ref a15, .ref a16, .int x2, .int x3, .int x4, .int x5, .int x6, .int x7, .int x8])), (a5, .inr (0, [.ref a17, .ref a18, .int (u_4.2.2.2.1 0), .int (u_4.2.2.2.1 1), .long y_16, .int x_18, .int x_20])), (a14, .inr (8, [.ref a19])), (a18, .inl (cI, 5, .inl (u_4.2.1 0))), (a19, .inl (cI, 30, .inl f1)), (a16, .inl (cI, 80, .inl f2)), (a17, .inl (cJ, 256, .inr (.inl (u_4.2.2.1 0))))]) [0, 2, 1, 3, 4, 5, 6, 7] (by decide) rfl) hS
              ·
                refine lv_iload_n (pc := 101) hx hb dX11_leave_101 rfl (lv_at hl 2 rfl) ?_
                refine b_i2l (pc := 102) hx hb rfl dX11_leave_102 (fun y_25 ey_25 => ?_)
                have ry_25 := n_rng x_14
                refine lv_goto (pc := 103) (tgt := 107) hx hb dX11_leave_103 (by decide) ?_
                exact hret y_25 ((fun _ => 0), (fun k => [(u_4.2.1 0)].getD k (fun _ => 0)), (fun k => [(u_4.2.2.1 0)].getD k (fun _ => 0)), (fun k => [(u_4.2.2.2.1 0), (u_4.2.2.2.1 1), x_18, x_20].getD k 0), (fun k => [y_16].getD k 0)) dX11_leave_107 ⟨(show (0 ≤ ((u_4.2.2.2.1 0) : Int32).toInt ∧ ((u_4.2.2.2.1 0) : Int32).toInt ≤ 16) from hw_8), (show (0 ≤ ((u_4.2.2.2.1 1) : Int32).toInt ∧ ((u_4.2.2.2.1 1) : Int32).toInt ≤ 1) from hw_9)⟩ (g_psub (wc := [(a0, .inr (11, [.ref a1, .ref a2, .ref a3, .ref a4, .ref a5, .ref a6, .ref a7, .ref a8, .ref a9, .ref a10, .int x1, .ref a11, .ref a12, .ref a13])), (a11, .inr (1, [.ref a14, .ref a15, .ref a16, .int x2, .int x3, .int x4, .int x5, .int x6, .int x7, .int x8])), (a5, .inr (0, [.ref a17, .ref a18, .int (u_4.2.2.2.1 0), .int (u_4.2.2.2.1 1), .long y_16, .int x_18, .int x_20])), (a14, .inr (8, [.ref a19])), (a18, .inl (cI, 5, .inl (u_4.2.1 0))), (a19, .inl (cI, 30, .inl f1)), (a16, .inl (cI, 80, .inl f2)), (a17, .inl (cJ, 256, .inr (.inl (u_4.2.2.1 0))))]) hP [0, 2, 1, 3, 4, 5, 6, 7] rfl) (hD.sub (ws' := [(a0, .inr (11, [.ref a1, .ref a2, .ref a3, .ref a4, .ref a5, .ref a6, .ref a7, .ref a8, .ref a9, .ref a10, .int x1, .ref a11, .ref a12, .ref a13])), (a11, .inr (1, [.ref a14, .ref a15, .ref a16, .int x2, .int x3, .int x4, .int x5, .int x6, .int x7, .int x8])), (a5, .inr (0, [.ref a17, .ref a18, .int (u_4.2.2.2.1 0), .int (u_4.2.2.2.1 1), .long y_16, .int x_18, .int x_20])), (a14, .inr (8, [.ref a19])), (a18, .inl (cI, 5, .inl (u_4.2.1 0))), (a19, .inl (cI, 30, .inl f1)), (a16, .inl (cI, 80, .inl f2)), (a17, .inl (cJ, 256, .inr (.inl (u_4.2.2.1 0))))]) [0, 2, 1, 3, 4, 5, 6, 7] (by decide) rfl) hS
            ·
              refine lv_aload_n (pc := 54) hx hb dX11_leave_54 rfl (lv_at hl 3 rfl) ?_
              refine va_get (pc := 55) (ci := 11) (v := .ref a5) (C := RX11) (T := TX11) (N := 14) hx hb hts iX11 hown hK hP 0 rfl rfl 4 (by decide) (hts _ tw_424) (fun _ h9 => h9) rfl dX11_leave_55 ?_
              refine lv_iload (pc := 58) hx hb dX11_leave_58 (lv_at hl 0 rfl) ?_
              refine gc_v (pc := 60) (wc := [(a5, .inr (0, [.ref a17, .ref a18, .int (u_4.2.2.2.1 0), .int (u_4.2.2.2.1 1), .long y_16, .int x_18, .int x_20])), (a17, .inl (cJ, 256, .inr (.inl (u_4.2.2.1 0))))]) (wr := [(a0, .inr (11, [.ref a1, .ref a2, .ref a3, .ref a4, .ref a5, .ref a6, .ref a7, .ref a8, .ref a9, .ref a10, .int x1, .ref a11, .ref a12, .ref a13])), (a11, .inr (1, [.ref a14, .ref a15, .ref a16, .int x2, .int x3, .int x4, .int x5, .int x6, .int x7, .int x8])), (a14, .inr (8, [.ref a19])), (a18, .inl (cI, 5, .inl (u_4.2.1 0))), (a19, .inl (cI, 30, .inl f1)), (a16, .inl (cI, 80, .inl f2))]) hP hD hS hA [1, 7] [0, 2, 3, 4, 5, 6] rfl rfl (by decide) (by decide) (by decide) (fun hPc hDc => va_runV (As := [.int x_10]) (rest := []) ⟨hx, hb, hml, hown, hts⟩ (k_X0_findLeast l D cB cC cI cJ _ a5 a17 a18 x_10 (u_4.2.2.2.1 0) (u_4.2.2.2.1 1) x_18 x_20 y_16 (u_4.2.2.1 0) hw_8 hw_9) ⟨gcwB hts tw_1205 tw_11 tw_1202 hd_yX0_findLeast ⟨Nat.le_of_ble_eq_true rfl, Nat.le_of_ble_eq_true rfl⟩, hts _ tw_1203, hts _ tw_1204⟩ ⟨gblind, va_recv hK hPc (ci := 0) (q0 := 0) rfl rfl, (gpreS hPc hK hDc hN).2⟩ rfl rfl hl.1 rfl (lv_room (Nat.le_of_ble_eq_true rfl)) dX11_leave_60 ⟨Nat.le_of_ble_eq_true rfl, Nat.le_of_ble_eq_true rfl⟩) (fun u_26 H locs hw_28 hP hD hS => ?_)
              have hP : va_P D gcl [(a0, .inr (11, [.ref a1, .ref a2, .ref a3, .ref a4, .ref a5, .ref a6, .ref a7, .ref a8, .ref a9, .ref a10, .int x1, .ref a11, .ref a12, .ref a13])), (a11, .inr (1, [.ref a14, .ref a15, .ref a16, .int x2, .int x3, .int x4, .int x5, .int x6, .int x7, .int x8])), (a14, .inr (8, [.ref a19])), (a18, .inl (cI, 5, .inl (u_4.2.1 0))), (a19, .inl (cI, 30, .inl f1)), (a16, .inl (cI, 80, .inl f2)), (a5, .inr (0, [.ref a17, .ref a18, .int (u_4.2.2.2.1 0), .int (u_4.2.2.2.1 1), .long (u_26.2.2.2.2 0), .int (u_26.2.2.2.1 0), .int (u_26.2.2.2.1 1)])), (a17, .inl (cJ, 256, .inr (.inl (u_4.2.2.1 0))))] H := hP
              have hD : va_D A [(a0, .inr (11, [.ref a1, .ref a2, .ref a3, .ref a4, .ref a5, .ref a6, .ref a7, .ref a8, .ref a9, .ref a10, .int x1, .ref a11, .ref a12, .ref a13])), (a11, .inr (1, [.ref a14, .ref a15, .ref a16, .int x2, .int x3, .int x4, .int x5, .int x6, .int x7, .int x8])), (a14, .inr (8, [.ref a19])), (a18, .inl (cI, 5, .inl (u_4.2.1 0))), (a19, .inl (cI, 30, .inl f1)), (a16, .inl (cI, 80, .inl f2)), (a5, .inr (0, [.ref a17, .ref a18, .int (u_4.2.2.2.1 0), .int (u_4.2.2.2.1 1), .long (u_26.2.2.2.2 0), .int (u_26.2.2.2.1 0), .int (u_26.2.2.2.1 1)])), (a17, .inl (cJ, 256, .inr (.inl (u_4.2.2.1 0))))] := hD
              have ru_26_0 := n_rngL (u_26.2.2.2.2 0)
              have ru_26_1 := n_rng (u_26.2.2.2.1 0)
              have ru_26_2 := n_rng (u_26.2.2.2.1 1)
              have hw_29 : (((0 ≤ (u_4.2.2.2.1 0).toInt ∧ (u_4.2.2.2.1 0).toInt ≤ 16))) := hw_28
              refine lv_iload_n (pc := 63) hx hb dX11_leave_63 rfl (lv_at hl 2 rfl) ?_
              refine lv_iconst (pc := 64) (v := (-1)) hx hb dX11_leave_64 (by decide) ?_
              refine b_icmp_eq (pc := 65) (tgt := 80) hx hb rfl tI_m1  dX11_leave_65 (by decide) (fun c_30 => ?_) (fun c_30 => ?_)
              ·
                refine lv_iload (pc := 80) hx hb dX11_leave_80 (lv_at hl 0 rfl) ?_
                refine lv_istore_n (pc := 82) (lv' := [(2, .int x_10), (5, .int x_10), (3, .long y_12), (0, .ref a0), (1, .int x0)]) hx hb dX11_leave_82 rfl hl (by decide) rfl (fun ls hl => ?_)
                refine lv_aload_n (pc := 83) hx hb dX11_leave_83 rfl (lv_at hl 3 rfl) ?_
                refine va_get (pc := 84) (ci := 11) (v := .ref a5) (C := RX11) (T := TX11) (N := 14) hx hb hts iX11 hown hK hP 0 rfl rfl 4 (by decide) (hts _ tw_424) (fun _ h9 => h9) rfl dX11_leave_84 ?_
                refine va_getN (pc := 87) (ci := 0) (v := .long (u_26.2.2.2.2 0)) (C := RX0) (T := TX0) (N := 7) hx hb hts iX0 hown hK hP 6 rfl rfl 4 (by decide) (va_Nw.use rfl (hN _ tn_319)) (fun _ h9 => h9) rfl dX11_leave_87 ?_
                refine lv_lstore_n (pc := 90) (lv' := [(3, .long (u_26.2.2.2.2 0)), (2, .int x_10), (5, .int x_10), (0, .ref a0), (1, .int x0)]) hx hb dX11_leave_90 rfl hl (by decide) rfl (fun ls hl => ?_)
                refine b_iinc (pc := 91) hx hb dX11_leave_91 hl (k := 2) rfl rfl tI_1 (by omega) (by omega) (by decide) (fun x_31 ex_31 ls hl => ?_)
                have hl : lv_has ls 6 [(5, .int x_31), (3, .long (u_26.2.2.2.2 0)), (2, .int x_10), (0, .ref a0), (1, .int x0)] := hl
                refine lv_goto (pc := 94) (tgt := 42) hx hb dX11_leave_94 (by decide) ?_
                exact ih_lp_22 x_31 x_10 (u_26.2.2.2.1 0) (u_26.2.2.2.1 1) (u_26.2.2.2.2 0) (u_26.2.2.2.2 0) _ _ ls (by omega) (by omega) (g_psub hP [0, 6, 1, 2, 3, 4, 5, 7] rfl) (hD.sub [0, 6, 1, 2, 3, 4, 5, 7] (by decide) rfl) hS (lv_sub hl [0, 1, 2, 3, 4] rfl)
              ·
                refine lv_aload_n (pc := 68) hx hb dX11_leave_68 rfl (lv_at hl 3 rfl) ?_
                refine va_get (pc := 69) (ci := 11) (v := .ref a5) (C := RX11) (T := TX11) (N := 14) hx hb hts iX11 hown hK hP 0 rfl rfl 4 (by decide) (hts _ tw_424) (fun _ h9 => h9) rfl dX11_leave_69 ?_
                refine va_getN (pc := 72) (ci := 0) (v := .long (u_26.2.2.2.2 0)) (C := RX0) (T := TX0) (N := 7) hx hb hts iX0 hown hK hP 6 rfl rfl 4 (by decide) (va_Nw.use rfl (hN _ tn_319)) (fun _ h9 => h9) rfl dX11_leave_72 ?_
                refine lv_lload_n (pc := 75) hx hb dX11_leave_75 rfl (lv_at hl 1 rfl) ?_
                refine b_lcmp_le (pc := 76) (tgt := 91) hx hb rfl rfl dX11_leave_76 dX11_leave_77 (by decide) (fun c_32 => ?_) (fun c_32 => ?_)
                ·
                  refine b_iinc (pc := 91) hx hb dX11_leave_91 hl (k := 0) rfl rfl tI_1 (by omega) (by omega) (by decide) (fun x_33 ex_33 ls hl => ?_)
                  have hl : lv_has ls 6 [(5, .int x_33), (3, .long y_12), (2, .int x_14), (0, .ref a0), (1, .int x0)] := hl
                  refine lv_goto (pc := 94) (tgt := 42) hx hb dX11_leave_94 (by decide) ?_
                  exact ih_lp_22 x_33 x_14 (u_26.2.2.2.1 0) (u_26.2.2.2.1 1) y_12 (u_26.2.2.2.2 0) _ _ ls (by omega) (by omega) (g_psub hP [0, 6, 1, 2, 3, 4, 5, 7] rfl) (hD.sub [0, 6, 1, 2, 3, 4, 5, 7] (by decide) rfl) hS (lv_sub hl [0, 1, 2, 3, 4] rfl)
                ·
                  refine lv_iload (pc := 80) hx hb dX11_leave_80 (lv_at hl 0 rfl) ?_
                  refine lv_istore_n (pc := 82) (lv' := [(2, .int x_10), (5, .int x_10), (3, .long y_12), (0, .ref a0), (1, .int x0)]) hx hb dX11_leave_82 rfl hl (by decide) rfl (fun ls hl => ?_)
                  refine lv_aload_n (pc := 83) hx hb dX11_leave_83 rfl (lv_at hl 3 rfl) ?_
                  refine va_get (pc := 84) (ci := 11) (v := .ref a5) (C := RX11) (T := TX11) (N := 14) hx hb hts iX11 hown hK hP 0 rfl rfl 4 (by decide) (hts _ tw_424) (fun _ h9 => h9) rfl dX11_leave_84 ?_
                  refine va_getN (pc := 87) (ci := 0) (v := .long (u_26.2.2.2.2 0)) (C := RX0) (T := TX0) (N := 7) hx hb hts iX0 hown hK hP 6 rfl rfl 4 (by decide) (va_Nw.use rfl (hN _ tn_319)) (fun _ h9 => h9) rfl dX11_leave_87 ?_
                  refine lv_lstore_n (pc := 90) (lv' := [(3, .long (u_26.2.2.2.2 0)), (2, .int x_10), (5, .int x_10), (0, .ref a0), (1, .int x0)]) hx hb dX11_leave_90 rfl hl (by decide) rfl (fun ls hl => ?_)
                  refine b_iinc (pc := 91) hx hb dX11_leave_91 hl (k := 2) rfl rfl tI_1 (by omega) (by omega) (by decide) (fun x_34 ex_34 ls hl => ?_)
                  have hl : lv_has ls 6 [(5, .int x_34), (3, .long (u_26.2.2.2.2 0)), (2, .int x_10), (0, .ref a0), (1, .int x0)] := hl
                  refine lv_goto (pc := 94) (tgt := 42) hx hb dX11_leave_94 (by decide) ?_
                  exact ih_lp_22 x_34 x_10 (u_26.2.2.2.1 0) (u_26.2.2.2.1 1) (u_26.2.2.2.2 0) (u_26.2.2.2.2 0) _ _ ls (by omega) (by omega) (g_psub hP [0, 6, 1, 2, 3, 4, 5, 7] rfl) (hD.sub [0, 6, 1, 2, 3, 4, 5, 7] (by decide) rfl) hS (lv_sub hl [0, 1, 2, 3, 4] rfl)
        exact lp_22 _ 0 (-1) x11 x12 0 y0 _ _ ls (n_c tI_0 (by decide)) (Nat.lt_succ_self _) hP hD hS (lv_sub hl [0, 1, 2, 3, 4] rfl)
      ·
        refine lv_ldc2 (pc := 20) hx hb hown (hts _ tw_844) dX11_leave_20 ?_
        exact hret (-1) ((fun _ => 0), (fun k => [f0].getD k (fun _ => 0)), (fun k => [g0].getD k (fun _ => 0)), (fun k => [x9, x10, x11, x12].getD k 0), (fun k => [y0].getD k 0)) dX11_leave_23 ⟨(show (0 ≤ (x9 : Int32).toInt ∧ (x9 : Int32).toInt ≤ 16) from h_x9), (show (0 ≤ (x10 : Int32).toInt ∧ (x10 : Int32).toInt ≤ 1) from h_x10)⟩ (g_psub (wc := [(a0, .inr (11, [.ref a1, .ref a2, .ref a3, .ref a4, .ref a5, .ref a6, .ref a7, .ref a8, .ref a9, .ref a10, .int x1, .ref a11, .ref a12, .ref a13])), (a11, .inr (1, [.ref a14, .ref a15, .ref a16, .int x2, .int x3, .int x4, .int x5, .int x6, .int x7, .int x8])), (a5, .inr (0, [.ref a17, .ref a18, .int x9, .int x10, .long y0, .int x11, .int x12])), (a14, .inr (8, [.ref a19])), (a18, .inl (cI, 5, .inl f0)), (a19, .inl (cI, 30, .inl f1)), (a16, .inl (cI, 80, .inl f2)), (a17, .inl (cJ, 256, .inr (.inl g0)))]) hP [0, 1, 2, 3, 4, 5, 6, 7] rfl) (hD.sub (ws' := [(a0, .inr (11, [.ref a1, .ref a2, .ref a3, .ref a4, .ref a5, .ref a6, .ref a7, .ref a8, .ref a9, .ref a10, .int x1, .ref a11, .ref a12, .ref a13])), (a11, .inr (1, [.ref a14, .ref a15, .ref a16, .int x2, .int x3, .int x4, .int x5, .int x6, .int x7, .int x8])), (a5, .inr (0, [.ref a17, .ref a18, .int x9, .int x10, .long y0, .int x11, .int x12])), (a14, .inr (8, [.ref a19])), (a18, .inl (cI, 5, .inl f0)), (a19, .inl (cI, 30, .inl f1)), (a16, .inl (cI, 80, .inl f2)), (a17, .inl (cJ, 256, .inr (.inl g0)))]) [0, 1, 2, 3, 4, 5, 6, 7] (by decide) rfl) hS
set_option maxHeartbeats 4000000 in
set_option maxRecDepth 100000 in
theorem k_X1_rowOfLetters_5 (l : Launch) (D : va_G) (cB cC cI cJ : ClassId) (sz : Nat) (a0 a1 a2 a3 a4 : Nat) (x0 x1 x2 x3 x4 x5 x6 : Int32) (f0 : Nat → Int32) (h_x0 : ((-1) ≤ x0.toInt ∧ x0.toInt ≤ 8)) (h_x1 : ((-1) ≤ x1.toInt ∧ x1.toInt ≤ 5)) (h_x2 : ((-1) ≤ x2.toInt ∧ x2.toInt ≤ 6)) (h_x3 : (0 ≤ x3.toInt ∧ x3.toInt ≤ 6)) (h_x4 : (0 ≤ x4.toInt ∧ x4.toInt ≤ 16)) : Met l yX1_rowOfLetters (.code yX1_rowOfLetters cX1_rowOfLetters 4 (some .int) :: lw_gd) ({ frames := 1, cells := 0, slots := 0, locals := 21 }) (gPre D [(cB, .byte), (cC, .char), (cI, .int), (cJ, .long)] [.ref a0, .ref a1] [(a0, .inr (1, [.ref a2, .ref a3, .ref a4, .int x0, .int x1, .int x2, .int x3, .int x4, .int x5, .int x6])), (a1, .inl (cI, 5, .inl f0))] sz) (va_Qi (fun r u => ((((-2147483648) ≤ r.toInt ∧ r.toInt ≤ 2147483647) ∧ ((-1) ≤ x1.toInt ∧ x1.toInt ≤ 5)))) (gB D (va_A [(a0, .inr (1, [.ref a2, .ref a3, .ref a4, .int x0, .int x1, .int x2, .int x3, .int x4, .int x5, .int x6])), (a1, .inl (cI, 5, .inl f0))] sz) (fun u : gEx => [(a0, .inr (1, [.ref a2, .ref a3, .ref a4, .int x0, .int x1, .int x2, .int x3, .int x4, .int x5, .int x6])), (a1, .inl (cI, 5, .inl f0))])) (va_A [(a0, .inr (1, [.ref a2, .ref a3, .ref a4, .int x0, .int x1, .int x2, .int x3, .int x4, .int x5, .int x6])), (a1, .inl (cI, 5, .inl f0))] sz)) 0 0 (va_A [(a0, .inr (1, [.ref a2, .ref a3, .ref a4, .int x0, .int x1, .int x2, .int x3, .int x4, .int x5, .int x6])), (a1, .inl (cI, 5, .inl f0))] sz) := by
  refine gOf_i (by decide +kernel) (Nat.le_of_ble_eq_true rfl) ?_
  intro p e s m args below meth c ls A Q hx hb hts hown hml hN hK hP hD hA hl hret
  have hown : s.vm.findClass RX1 = some m.cls := hown
  have hS : va_S A s.heap s.heap [] := va_S.rf
  have hP : va_P D gcl [(a0, .inr (1, [.ref a2, .ref a3, .ref a4, .int x0, .int x1, .int x2, .int x3, .int x4, .int x5, .int x6])), (a1, .inl (cI, 5, .inl f0))] s.heap := hP
  have hl : lv_has ls 4 [(0, .ref a0), (1, .ref a1)] := hl
  have rx5 := n_rng x5
  have rx6 := n_rng x6
  refine lv_iconst (pc := 0) (v := 0) hx hb dX1_rowOfLetters_0 (by decide) ?_
  refine lv_istore_n (pc := 1) (lv' := [(2, .int 0), (0, .ref a0), (1, .ref a1)]) hx hb dX1_rowOfLetters_1 rfl hl (by decide) rfl (fun ls hl => ?_)
  refine lv_iconst (pc := 2) (v := 0) hx hb dX1_rowOfLetters_2 (by decide) ?_
  refine lv_istore_n (pc := 3) (lv' := [(3, .int 0), (2, .int 0), (0, .ref a0), (1, .ref a1)]) hx hb dX1_rowOfLetters_3 rfl hl (by decide) rfl (fun ls hl => ?_)
  have lp_5 : ∀ (n : Nat) (x_1 x_3 : Int32) (H : Heap) (locs : List Loc) (ls : Array Slot), (0 ≤ x_1.toInt ∧ x_1.toInt ≤ 2147483647) → (2147483647 - x_1.toInt).toNat < n → va_P D gcl [(a0, .inr (1, [.ref a2, .ref a3, .ref a4, .int x0, .int x1, .int x2, .int x3, .int x4, .int x5, .int x6])), (a1, .inl (cI, 5, .inl f0))] H → va_D A [(a0, .inr (1, [.ref a2, .ref a3, .ref a4, .int x0, .int x1, .int x2, .int x3, .int x4, .int x5, .int x6])), (a1, .inl (cI, 5, .inl f0))] → va_S A s.heap H locs → lv_has ls 4 [(3, .int x_1), (2, .int x_3), (0, .ref a0), (1, .ref a1)] → W p l e ({ frames := 1, cells := 0, slots := 0, locals := 21 }) s m args below meth c H locs 0 0 Q (F0 m 4 ls []) := by
    intro n
    induction n with
    | zero => intro x_1 x_3 H locs ls hi_2 hmu; exact absurd hmu (Nat.not_lt_zero _)
    | succ n ih_lp_5 =>
      intro x_1 x_3 H locs ls hi_2 hmu_lp_5 hP hD hS hl
      have hi_4 := n_rng x_3
      refine lv_iload_n (pc := 4) hx hb dX1_rowOfLetters_4 rfl (lv_at hl 0 rfl) ?_
      refine lv_aload_n (pc := 5) hx hb dX1_rowOfLetters_5 rfl (lv_at hl 2 rfl) ?_
      refine va_get (pc := 6) (ci := 1) (v := .int x1) (C := RX1) (T := TX1) (N := 10) hx hb hts iX1 hown hK hP 0 rfl rfl 4 (by decide) (hts _ tw_116) (fun _ h9 => h9) rfl dX1_rowOfLetters_6 ?_
      refine b_icmp_ge (pc := 9) (tgt := 33) hx hb rfl rfl  dX1_rowOfLetters_9 (by decide) (fun c_6 => ?_) (fun c_6 => ?_)
      ·
        refine lv_iload_n (pc := 33) hx hb dX1_rowOfLetters_33 rfl (lv_at hl 1 rfl) ?_
        exact hret x_3 ((fun _ => 0), (fun _ => (fun _ => 0)), (fun _ => (fun _ => 0)), (fun _ => 0), (fun _ => 0)) dX1_rowOfLetters_34 (show ((((-2147483648) ≤ x_3.toInt ∧ x_3.toInt ≤ 2147483647) ∧ ((-1) ≤ x1.toInt ∧ x1.toInt ≤ 5))) by omega) (g_psub (wc := [(a0, .inr (1, [.ref a2, .ref a3, .ref a4, .int x0, .int x1, .int x2, .int x3, .int x4, .int x5, .int x6])), (a1, .inl (cI, 5, .inl f0))]) hP [0, 1] rfl) (hD.sub (ws' := [(a0, .inr (1, [.ref a2, .ref a3, .ref a4, .int x0, .int x1, .int x2, .int x3, .int x4, .int x5, .int x6])), (a1, .inl (cI, 5, .inl f0))]) [0, 1] (by decide) rfl) hS
      ·
        refine lv_iload_n (pc := 12) hx hb dX1_rowOfLetters_12 rfl (lv_at hl 1 rfl) ?_
        refine lv_aload_n (pc := 13) hx hb dX1_rowOfLetters_13 rfl (lv_at hl 2 rfl) ?_
        refine va_get (pc := 14) (ci := 1) (v := .int x0) (C := RX1) (T := TX1) (N := 10) hx hb hts iX1 hown hK hP 0 rfl rfl 3 (by decide) (hts _ tw_110) (fun _ h9 => h9) rfl dX1_rowOfLetters_14 ?_
        refine lv_imul (pc := 17) hx hb dX1_rowOfLetters_17 ?_
        refine lv_topi (fun x_7 _ => ?_)
        have rx_7 := n_rng x_7
        refine lv_aload_n (pc := 18) hx hb dX1_rowOfLetters_18 rfl (lv_at hl 2 rfl) ?_
        refine lv_aload_n (pc := 19) hx hb dX1_rowOfLetters_19 rfl (lv_at hl 3 rfl) ?_
        refine lv_iload_n (pc := 20) hx hb dX1_rowOfLetters_20 rfl (lv_at hl 0 rfl) ?_
        refine va_iald (pc := 21) hx hb hK hP 1 2 rfl rfl (n_in rfl (by omega) (by omega)) dX1_rowOfLetters_21 ?_
        refine lv_topi (fun x_8 ex_8 => ?_)
        have rx_8 := n_rng x_8
        refine gc_i (pc := 22) (wc := [(a0, .inr (1, [.ref a2, .ref a3, .ref a4, .int x0, .int x1, .int x2, .int x3, .int x4, .int x5, .int x6]))]) (wr := [(a1, .inl (cI, 5, .inl f0))]) hP hD hS hA [0] [1] rfl rfl (by decide) (by decide) (by decide) (fun hPc hDc => va_runV (As := [.int x_8]) (rest := [.int x_7]) ⟨hx, hb, hml, hown, hts⟩ (k_X1_digitOfLetter l D cB cC cI cJ _ a0 a2 a3 a4 x_8 x0 x1 x2 x3 x4 x5 x6 h_x0 h_x1 h_x2 h_x3 h_x4) ⟨gcwB hts tw_1008 tw_4 tw_1231 hd_yX1_digitOfLetter ⟨Nat.le_of_ble_eq_true rfl, Nat.le_of_ble_eq_true rfl⟩, hts _ tw_1006, hts _ tw_1007⟩ ⟨gblind, va_recv hK hPc (ci := 1) (q0 := 0) rfl rfl, (gpreS hPc hK hDc hN).2⟩ rfl rfl hl.1 rfl (lv_room (Nat.le_of_ble_eq_true rfl)) dX1_rowOfLetters_22 ⟨Nat.le_of_ble_eq_true rfl, Nat.le_of_ble_eq_true rfl⟩) (fun r_10 u_9 H locs hw_11 hP hD hS => ?_)
        have hP : va_P D gcl [(a1, .inl (cI, 5, .inl f0)), (a0, .inr (1, [.ref a2, .ref a3, .ref a4, .int x0, .int x1, .int x2, .int x3, .int x4, .int x5, .int x6]))] H := hP
        have hD : va_D A [(a1, .inl (cI, 5, .inl f0)), (a0, .inr (1, [.ref a2, .ref a3, .ref a4, .int x0, .int x1, .int x2, .int x3, .int x4, .int x5, .int x6]))] := hD
        have hw_12 : (((0 ≤ r_10.toInt ∧ r_10.toInt ≤ 7) ∧ (-x0.toInt < x_8.toInt ∧ x_8.toInt < x0.toInt)) ∨ (((-2147483648) ≤ r_10.toInt ∧ r_10.toInt ≤ 2147483647) ∧ ¬ (-x0.toInt < x_8.toInt ∧ x_8.toInt < x0.toInt))) := hw_11
        have rr_10 := n_rng r_10
        refine lv_iadd (pc := 25) hx hb dX1_rowOfLetters_25 ?_
        refine lv_topi (fun x_13 _ => ?_)
        have rx_13 := n_rng x_13
        refine lv_istore_n (pc := 26) (lv' := [(2, .int x_13), (3, .int x_1), (0, .ref a0), (1, .ref a1)]) hx hb dX1_rowOfLetters_26 rfl hl (by decide) rfl (fun ls hl => ?_)
        refine b_iinc (pc := 27) hx hb dX1_rowOfLetters_27 hl (k := 1) rfl rfl tI_1 (by omega) (by omega) (by decide) (fun x_14 ex_14 ls hl => ?_)
        have hl : lv_has ls 4 [(3, .int x_14), (2, .int x_13), (0, .ref a0), (1, .ref a1)] := hl
        refine lv_goto (pc := 30) (tgt := 4) hx hb dX1_rowOfLetters_30 (by decide) ?_
        exact ih_lp_5 x_14 x_13 _ _ ls (by omega) (by omega) (g_psub hP [1, 0] rfl) (hD.sub [1, 0] (by decide) rfl) hS (lv_sub hl [0, 1, 2, 3] rfl)
  exact lp_5 _ 0 0 _ _ ls (n_c tI_0 (by decide)) (Nat.lt_succ_self _) hP hD hS (lv_sub hl [0, 1, 2, 3] rfl)
