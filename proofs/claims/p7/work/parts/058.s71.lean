theorem om_1888 {a b c : Int} (h0 : (0 ≤ b)) (h1 : (a = 7 * c)) (h2 : (0 ≤ c)) : (-2147483648 ≤ a + b) := by omega
theorem om_1889 {a b c : Int} (h0 : (b ≤ 255)) (h1 : (a = 7 * c)) (h2 : (c ≤ 252)) : (a + b ≤ 2147483647) := by omega
theorem om_1890 {a b c d : Int} (h0 : (a = b + c)) (h1 : (0 ≤ c)) (h2 : (b = 7 * d)) (h3 : (0 ≤ d)) : (0 ≤ a) := by omega
set_option maxHeartbeats 4000000 in
set_option maxRecDepth 100000 in
theorem k_X12_checked_1600r0_255_E (l : Launch) (D : va_G) (cB cC cI cJ : ClassId) (sz : Nat) (a0 : Nat) (x0 : Int32) (f0 : Nat → Int32) (hp1 : (0 ≤ x0.toInt ∧ x0.toInt ≤ 1600)) (hf_f0 : (∀ j, 0 ≤ (f0 j).toInt ∧ (f0 j).toInt ≤ 255)) (hg__n : x0.toInt ≤ 1600) : Met l yX12_checked (.code yX12_checked cX12_checked 4 (some .int) :: lw_gd) ({ frames := 0, cells := 0, slots := 0, locals := 0 }) (gPre D [(cB, .byte), (cC, .char), (cI, .int), (cJ, .long)] [.ref a0, .int x0] [(a0, .inl (cI, 1600, .inl f0))] sz) (va_Qi (fun r u => (0 ≤ r.toInt ∧ r.toInt ≤ 252) ∧ (r.toInt = ckR f0 (x0.toInt).toNat)) (gB D (va_A [(a0, .inl (cI, 1600, .inl f0))] sz) (fun u : gEx => [(a0, .inl (cI, 1600, .inl f0))])) (va_A [(a0, .inl (cI, 1600, .inl f0))] sz)) 0 0 (va_A [(a0, .inl (cI, 1600, .inl f0))] sz) := by
  refine gOf_i (by decide +kernel) (Nat.le_of_ble_eq_true rfl) ?_
  intro p e s m args below meth c ls A Q hx hb hts hown hml hN hK hP hD hA hl hret
  replace hown : s.vm.findClass RX12 = some m.cls := hown
  have hS : va_S A s.heap s.heap [] := va_S.rf
  replace hP : va_P D gcl [(a0, .inl (cI, 1600, .inl f0))] s.heap := hP
  replace hl : lv_has ls 4 [(0, .ref a0), (1, .int x0)] := hl
  refine lv_bipush (pc := 0) (v := 51) hx hb dX12_checked_0 (by decide) ?_
  refine lv_istore_n (pc := 2) (lv' := [(2, .int 51), (0, .ref a0), (1, .int x0)]) hx hb dX12_checked_2 rfl hl (by decide) rfl (fun ls hl => ?_)
  refine lv_iconst (pc := 3) (v := 0) hx hb dX12_checked_3 (by decide) ?_
  refine lv_istore_n (pc := 4) (lv' := [(3, .int 0), (2, .int 51), (0, .ref a0), (1, .int x0)]) hx hb dX12_checked_4 rfl hl (by decide) rfl (fun ls hl => ?_)
  have lp_7 : ∀ (n : Nat) (x_1 x_3 : Int32) (H : Heap) (locs : List Loc) (ls : Array Slot), (0 ≤ x_1.toInt ∧ x_1.toInt ≤ 2147483647) → (0 ≤ x_3.toInt ∧ x_3.toInt ≤ 252) → (x_1.toInt ≤ x0.toInt) → (x_3.toInt = ckR f0 (x_1.toInt).toNat) → (2147483647 - x_1.toInt).toNat < n → va_P D gcl [(a0, .inl (cI, 1600, .inl f0))] H → va_D A [(a0, .inl (cI, 1600, .inl f0))] → va_S A s.heap H locs → lv_has ls 4 [(3, .int x_1), (2, .int x_3), (0, .ref a0), (1, .int x0)] → W p l e ({ frames := 0, cells := 0, slots := 0, locals := 0 }) s m args below meth c H locs 0 0 Q (F0 m 5 ls []) := by
    intro n
    induction n with
    | zero => intro x_1 x_3 H locs ls hi_2 hi_4 hi_5 hi_6 hmu; exact absurd hmu (Nat.not_lt_zero _)
    | succ n ih_lp_7 =>
      intro x_1 x_3 H locs ls hi_2 hi_4 hi_5 hi_6 hmu_lp_7 hP hD hS hl
      refine lv_iload_n (pc := 5) hx hb dX12_checked_5 rfl (lv_at hl 0 rfl) ?_
      refine lv_iload_n (pc := 6) hx hb dX12_checked_6 rfl (lv_at hl 3 rfl) ?_
      refine b_icmp_ge (pc := 7) (tgt := 29) hx hb rfl rfl  dX12_checked_7 (by decide) (fun c_8 => ?_) (fun c_8 => ?_)
      ·
        as_aux_lemma =>
          refine lv_iload_n (pc := 29) hx hb dX12_checked_29 rfl (lv_at hl 1 rfl) ?_
          exact hret x_3 ((fun _ => 0), (fun _ => (fun _ => 0)), (fun _ => (fun _ => 0)), (fun _ => 0), (fun _ => 0)) dX12_checked_30 ⟨(show (0 ≤ x_3.toInt ∧ x_3.toInt ≤ 252) from hi_4), (show x_3.toInt = ckR f0 (x0.toInt).toNat from (by have e9 : x_1.toInt = x0.toInt := (by (first | omega | (unfold zBd at *; omega))); have q9 := hi_6; rw [e9] at q9; exact q9))⟩ (g_psub (wc := [(a0, .inl (cI, 1600, .inl f0))]) hP [0] rfl) (hD.sub (ws' := [(a0, .inl (cI, 1600, .inl f0))]) [0] (by decide) rfl) hS
      ·
        as_aux_lemma =>
          refine lv_bipush (pc := 10) (v := 7) hx hb dX12_checked_10 (by decide) ?_
          refine lv_iload_n (pc := 12) hx hb dX12_checked_12 rfl (lv_at hl 1 rfl) ?_
          refine b_imul (pc := 13) hx hb tI_7 rfl (by first | exact (om_1466 hi_4.1) | ((first | omega | (unfold zBd at *; omega)))) (by first | exact (om_1467 hi_4.2) | ((first | omega | (unfold zBd at *; omega)))) dX12_checked_13 (fun x_9 ex_9 => ?_)
          refine lv_aload_n (pc := 14) hx hb dX12_checked_14 rfl (lv_at hl 2 rfl) ?_
          refine lv_iload_n (pc := 15) hx hb dX12_checked_15 rfl (lv_at hl 0 rfl) ?_
          refine va_iald (pc := 16) hx hb hK hP 0 2 rfl rfl (n_in rfl (by first | exact (om_0 hi_2.1) | ((first | omega | (unfold zBd at *; omega)))) (by first | exact (om_11 c_8 hg__n) | ((first | omega | (unfold zBd at *; omega))))) dX12_checked_16 ?_
          refine lv_topi (fun x_10 ex_10 => ?_)
          have rx_10 : (0 ≤ x_10.toInt ∧ x_10.toInt ≤ 255) := by rw [ex_10]; exact hf_f0 _
          replace ex_10 : x_10 = f0 (x_1.toInt).toNat := ex_10
          have tx_10 := congrArg Int32.toInt ex_10
          refine b_iadd (pc := 17) hx hb rfl rfl (by first | exact (om_1888 rx_10.1 ex_9 hi_4.1) | ((first | omega | (unfold zBd at *; omega)))) (by first | exact (om_1889 rx_10.2 ex_9 hi_4.2) | ((first | omega | (unfold zBd at *; omega)))) dX12_checked_17 (fun x_11 ex_11 => ?_)
          refine lv_sipush (pc := 18) (v := 253) hx hb dX12_checked_18 (by decide) ?_
          refine c_irem (pc := 21) hx hb rfl tI_253 (by first | exact (om_1442) | ((first | omega | (unfold zBd at *; omega)))) (by first | exact (om_1890 ex_11 rx_10.1 ex_9 hi_4.1) | ((first | omega | (unfold zBd at *; omega)))) dX12_checked_21 (fun x_12 ex_12 => ?_)
          as_aux_lemma =>
            refine lv_istore_n (pc := 22) (lv' := [(2, .int x_12), (3, .int x_1), (0, .ref a0), (1, .int x0)]) hx hb dX12_checked_22 rfl hl (by decide) rfl (fun ls hl => ?_)
            refine b_iinc (pc := 23) hx hb dX12_checked_23 hl (k := 1) rfl rfl tI_1 (by first | exact (om_2 hi_2.1) | ((first | omega | (unfold zBd at *; omega)))) (by first | exact (om_512 c_8 hg__n) | ((first | omega | (unfold zBd at *; omega)))) (by decide) (fun x_13 ex_13 ls hl => ?_)
            replace hl : lv_has ls 4 [(3, .int x_13), (2, .int x_12), (0, .ref a0), (1, .int x0)] := hl
            refine lv_goto (pc := 26) (tgt := 5) hx hb dX12_checked_26 (by decide) ?_
            exact ih_lp_7 x_13 x_12 _ _ ls (by first | exact (om_513 ex_13 hi_2.1 c_8 hg__n) | ((first | omega | (unfold zBd at *; omega)))) (by (first | omega | (unfold zBd at *; omega))) (by first | exact (om_40 ex_13 c_8) | ((first | omega | (unfold zBd at *; omega)))) (ckR_step hi_6 (congrArg Int32.toInt ex_10) (by (first | omega | (unfold zBd at *; omega))) (by first | exact (om_0 hi_2.1) | ((first | omega | (unfold zBd at *; omega)))) (by first | exact (om_5 ex_13) | ((first | omega | (unfold zBd at *; omega))))) (by (first | omega | (unfold zBd at *; omega))) hP hD hS (lv_sub hl [0, 1, 2, 3] rfl)
  exact lp_7 _ 0 51 _ _ ls (n_c tI_0 (by decide)) (n_c tI_51 (by decide)) (by have q := tI_0; (first | omega | (unfold zBd at *; omega))) (tI_51) (Nat.lt_succ_self _) hP hD hS (lv_sub hl [0, 1, 2, 3] rfl)
theorem om_1891 {a b c : Int} (h0 : (a = 0)) (h1 : ((b ≤ 40 ∧ c = b) ∨ (40 < b ∧ c = 40))) (h2 : (c ≤ 40)) (h3 : (c ≤ b)) : (a = 0 ∧ ((b ≤ 40 ∧ c = b) ∨ (40 < b ∧ c = 40))) := by omega
theorem om_1892 {a b c : Int} (h0 : (a = 0)) (h1 : (¬ b = c)) (h2 : (b ≤ c)) : ((a = 1 ∧ b = c) ∨ (a = 0 ∧ b < c)) := by omega
theorem om_1893 {a b c : Int} (h0 : (a = 1)) (h1 : (b = c)) : ((a = 1 ∧ b = c) ∨ (a = 0 ∧ b < c)) := by omega
theorem om_1894 {a b c d : Int} (h0 : (a = c + d)) (h1 : (c < b)) (h2 : (d = 0)) : (a ≤ b) := by omega
theorem om_1895 {a b c d e : Int} (h0 : (a = 0)) (h1 : ((d ≤ 40 ∧ c = d) ∨ (40 < d ∧ c = 40))) (h2 : (b = d + e)) (h3 : (e = 0)) (h4 : (c ≤ 40)) (h5 : (c ≤ b)) : (a = 0 ∧ ((b ≤ 40 ∧ c = b) ∨ (40 < b ∧ c = 40))) := by omega
theorem om_1896 {a b c d e : Int} (h0 : (a = 0)) (h1 : (b = d + e)) (h2 : (d < c)) (h3 : (e = 0)) : ((a = 1 ∧ b = c) ∨ (a = 0 ∧ b < c)) := by omega
theorem om_1897 {a b : Int} (h0 : (a = b)) : (a ≤ b) := by omega
theorem om_1898 {a b c d e f : Int} (h0 : (a = 0)) (h1 : (b = d)) (h2 : (b = e + f)) (h3 : (f = 0)) (h4 : (e < d)) (h5 : (c ≤ 40)) (h6 : (c ≤ b)) : (a = 0 ∧ ((b ≤ 40 ∧ c = b) ∨ (40 < b ∧ c = 40))) := by omega
theorem om_1899 {a b : Int} (h0 : (b ≥ 40)) (h1 : (a = 40)) : ((a ≤ b)) := by omega
theorem om_1900 {a b c d : Int} (h0 : (a = c + d)) (h1 : (c < b)) (h2 : (d ≤ 1)) : ((a ≤ b)) := by omega
theorem om_1901 {a b : Int} (h0 : (b = 40)) (h1 : (a ≥ 40)) : ((0 = 0 ∧ ((a ≤ 40 ∧ b = a) ∨ (40 < a ∧ b = 40)))) := by omega
theorem om_1902 {a : Int} (h0 : (0 ≤ a)) (h1 : (a < 40)) : ((0 ≤ a ∧ a ≤ 40)) := by omega
theorem om_1903 {a b : Int} (h0 : (a < 40)) (h1 : (b = 0)) : ((a + b ≤ 200)) := by omega
theorem om_1904 {a : Int} (h0 : (a < 40)) : ((0 = 0 ∧ ((a ≤ 40 ∧ a = a) ∨ (40 < a ∧ a = 40)))) := by omega
set_option maxHeartbeats 4000000 in
set_option maxRecDepth 100000 in
theorem k_X12_canLead (l : Launch) (D : va_G) (cB cC cI cJ : ClassId) (sz : Nat) (a0 a1 a2 a3 a4 a5 a6 a7 a8 a9 a10 a11 a12 a13 a14 a15 a16 a17 a18 a19 a20 a21 a22 a23 a24 a25 a26 a27 a28 a29 a30 a31 a32 a33 a34 a35 a36 a37 a38 a39 a40 a41 a42 a43 : Nat) (x0 x1 x2 x3 x4 x5 x6 x7 x8 x9 x10 x11 x12 x13 x14 x15 x16 x17 x18 x19 x20 x21 x22 x23 x24 x25 x26 x27 x28 : Int32) (y0 y1 : Int64) (f0 f1 f2 f3 f4 : Nat → Int32) (g0 : Nat → Int64) (hp1 : (0 ≤ x0.toInt ∧ x0.toInt ≤ 255)) (h_x1 : zBd x1.toInt 0 1600) (h_x2 : zBd x2.toInt 0 1600) (h_x3 : zBd x3.toInt 0 1600) (h_x4 : zBd x4.toInt (-1) 1600) (h_x5 : zBd x5.toInt 0 4) (h_x6 : zBd x6.toInt (-1) 1600) (h_x9 : zBd x9.toInt 0 8) (h_x10 : zBd x10.toInt 0 5) (h_x11 : zBd x11.toInt 0 6) (h_x12 : zBd x12.toInt 0 6) (h_x13 : zBd x13.toInt 0 16) (h_x15 : zBd x15.toInt 0 60) (h_x16 : zBd x16.toInt 0 1600) (h_x17 : zBd x17.toInt 0 1700) (h_x19 : zBd x19.toInt 0 1700) (h_x20 : zBd x20.toInt 0 1700) (h_x21 : zBd x21.toInt 0 200) (h_x22 : zBd x22.toInt 0 40) (h_x23 : zBd x23.toInt 0 40) (h_x24 : zBd x24.toInt 0 1) (h_x25 : zBd x25.toInt 0 14) (h_x26 : zBd x26.toInt 0 200) (h_x27 : zBd x27.toInt 0 40) (h_x28 : zBd x28.toInt 0 40) (hr_a0_0 : (x22.toInt ≤ x21.toInt)) (hr_a0_1 : (x21.toInt + x23.toInt ≤ 200)) (hr_a0_2 : (x10.toInt = 0 ∨ 2 ≤ x9.toInt)) (hf_f0 : (∀ j, (-9999) ≤ (f0 j).toInt ∧ (f0 j).toInt ≤ 9999)) (hf_f2 : (∀ j, 0 ≤ (f2 j).toInt ∧ (f2 j).toInt ≤ 4)) (hf_f3 : (∀ j, 0 ≤ (f3 j).toInt ∧ (f3 j).toInt ≤ 4)) : Met l yX12_canLead (.code yX12_canLead cX12_canLead 2 (some .boolean) :: lw_gd) ({ frames := 2, cells := 0, slots := 0, locals := 49 }) (gPre D [(cB, .byte), (cC, .char), (cI, .int), (cJ, .long)] [.ref a0, .int x0] (zS_13 cB cC cI cJ a0 a1 x1 x2 x3 x4 x5 x6 x7 x8 a2 a3 a4 a5 a6 a7 a8 a9 a10 a11 a12 a13 a14 a15 a16 x9 x10 x11 x12 x13 x14 a17 a18 a19 x15 a20 x16 a21 x17 x18 a22 a23 a24 a25 x19 a26 x20 a27 a28 a29 y0 a30 a31 a32 a33 a34 a35 a36 a37 a38 x21 x22 x23 y1 a39 x24 a40 a41 a42 a43 x25 x26 x27 x28 a18 f0 a27 f1 a36 f2 a37 f3 a38 f4 a35 g0) sz) (va_Qi (fun r u => (0 ≤ r.toInt ∧ r.toInt ≤ 1) ∧ (0 ≤ (u.2.2.2.1 0).toInt ∧ (u.2.2.2.1 0).toInt ≤ 200) ∧ (0 ≤ (u.2.2.2.1 1).toInt ∧ (u.2.2.2.1 1).toInt ≤ 40) ∧ ((u.2.2.2.1 1).toInt ≤ (u.2.2.2.1 0).toInt) ∧ ((u.2.2.2.1 0).toInt + (0 : Int32).toInt ≤ 200) ∧ (∀ j, 0 ≤ ((u.2.1 1) j).toInt ∧ ((u.2.1 1) j).toInt ≤ 4) ∧ (∀ j, 0 ≤ ((u.2.1 2) j).toInt ∧ ((u.2.1 2) j).toInt ≤ 4) ∧ ((u.2.2.2.1 0).toInt ≤ x0.toInt) ∧ (MOK f0 (u.2.1 0) (u.2.1 1) (u.2.1 2) (u.2.1 3) x11.toInt x10.toInt (u.2.2.2.1 0).toInt 0) ∧ (∀ m9 : Int, CH f0 x11.toInt x10.toInt m9 → m9 ≤ x0.toInt → m9 ≤ 200 → m9 ≤ (u.2.2.2.1 0).toInt) ∧ ((0 : Int32).toInt = 0 ∧ (((u.2.2.2.1 0).toInt ≤ 40 ∧ (u.2.2.2.1 1).toInt = (u.2.2.2.1 0).toInt) ∨ (40 < (u.2.2.2.1 0).toInt ∧ (u.2.2.2.1 1).toInt = 40))) ∧ ((r.toInt = 1 ∧ (u.2.2.2.1 0).toInt = x0.toInt) ∨ (r.toInt = 0 ∧ (u.2.2.2.1 0).toInt < x0.toInt))) (gB D (va_A (zS_13 cB cC cI cJ a0 a1 x1 x2 x3 x4 x5 x6 x7 x8 a2 a3 a4 a5 a6 a7 a8 a9 a10 a11 a12 a13 a14 a15 a16 x9 x10 x11 x12 x13 x14 a17 a18 a19 x15 a20 x16 a21 x17 x18 a22 a23 a24 a25 x19 a26 x20 a27 a28 a29 y0 a30 a31 a32 a33 a34 a35 a36 a37 a38 x21 x22 x23 y1 a39 x24 a40 a41 a42 a43 x25 x26 x27 x28 a18 f0 a27 f1 a36 f2 a37 f3 a38 f4 a35 g0) sz) (fun u : gEx => (zS_13 cB cC cI cJ a0 a1 x1 x2 x3 x4 x5 x6 x7 x8 a2 a3 a4 a5 a6 a7 a8 a9 a10 a11 a12 a13 a14 a15 a16 x9 x10 x11 x12 x13 x14 a17 a18 a19 x15 a20 x16 a21 x17 x18 a22 a23 a24 a25 x19 a26 x20 a27 a28 a29 y0 a30 a31 a32 a33 a34 a35 a36 a37 a38 (u.2.2.2.1 0) (u.2.2.2.1 1) 0 y1 a39 x24 a40 a41 a42 a43 x25 x26 x27 x28 a18 f0 a27 (u.2.1 0) a36 (u.2.1 1) a37 (u.2.1 2) a38 (u.2.1 3) a35 (u.2.2.1 0)))) (va_A (zS_13 cB cC cI cJ a0 a1 x1 x2 x3 x4 x5 x6 x7 x8 a2 a3 a4 a5 a6 a7 a8 a9 a10 a11 a12 a13 a14 a15 a16 x9 x10 x11 x12 x13 x14 a17 a18 a19 x15 a20 x16 a21 x17 x18 a22 a23 a24 a25 x19 a26 x20 a27 a28 a29 y0 a30 a31 a32 a33 a34 a35 a36 a37 a38 x21 x22 x23 y1 a39 x24 a40 a41 a42 a43 x25 x26 x27 x28 a18 f0 a27 f1 a36 f2 a37 f3 a38 f4 a35 g0) sz)) 0 0 (va_A (zS_13 cB cC cI cJ a0 a1 x1 x2 x3 x4 x5 x6 x7 x8 a2 a3 a4 a5 a6 a7 a8 a9 a10 a11 a12 a13 a14 a15 a16 x9 x10 x11 x12 x13 x14 a17 a18 a19 x15 a20 x16 a21 x17 x18 a22 a23 a24 a25 x19 a26 x20 a27 a28 a29 y0 a30 a31 a32 a33 a34 a35 a36 a37 a38 x21 x22 x23 y1 a39 x24 a40 a41 a42 a43 x25 x26 x27 x28 a18 f0 a27 f1 a36 f2 a37 f3 a38 f4 a35 g0) sz) := by
  refine gOf_z (by decide +kernel) (Nat.le_of_ble_eq_true rfl) ?_
  intro p e s m args below meth c ls A Q hx hb hts hown hml hN hK hP hD hA hl hret
  replace hown : s.vm.findClass RX12 = some m.cls := hown
  have hS : va_S A s.heap s.heap [] := va_S.rf
  replace hP : va_P D gcl (zS_13 cB cC cI cJ a0 a1 x1 x2 x3 x4 x5 x6 x7 x8 a2 a3 a4 a5 a6 a7 a8 a9 a10 a11 a12 a13 a14 a15 a16 x9 x10 x11 x12 x13 x14 a17 a18 a19 x15 a20 x16 a21 x17 x18 a22 a23 a24 a25 x19 a26 x20 a27 a28 a29 y0 a30 a31 a32 a33 a34 a35 a36 a37 a38 x21 x22 x23 y1 a39 x24 a40 a41 a42 a43 x25 x26 x27 x28 a18 f0 a27 f1 a36 f2 a37 f3 a38 f4 a35 g0) s.heap := hP
  replace hl : lv_has ls 2 [(0, .ref a0), (1, .int x0)] := hl
  have rx7 : zBd x7.toInt (-2147483648) 2147483647 := n_rng x7
  have rx8 : zBd x8.toInt (-2147483648) 2147483647 := n_rng x8
  have rx14 : zBd x14.toInt (-2147483648) 2147483647 := n_rng x14
  have rx18 : zBd x18.toInt (-2147483648) 2147483647 := n_rng x18
  have ry0 := n_rngL y0
  have ry1 := n_rngL y1
  refine lv_aload_n (pc := 0) hx hb dX12_canLead_0 rfl (lv_at hl 0 rfl) ?_
  refine gd_v (pc := 1) (wc := (zS_82 cB cC cI cJ a0 a1 x1 x2 x3 x4 x5 x6 x7 x8 a2 a3 a4 a5 a6 a7 a8 a9 a10 a11 a12 a13 a14 a15 a16 x9 x10 x11 x12 x13 x14 a17 a18 a19 x15 a20 x16 a21 x17 x18 a22 a23 a24 a25 x19 a26 x20 a27 a28 a29 y0 a30 a31 a32 a33 a34 a35 a36 a37 a38 x21 x22 x23 y1 a39 x24 a40 a41 a42 a43 x25 x26 x27 x28 a18 f0 a27 f1 a35 g0)) hP hD hS hA [0, 1, 2, 6] rfl (by decide +kernel) (fun _ => by rfl) (fun hPc hDc => va_runV (As := []) (rest := []) ⟨hx, hb, hml, hown, hts⟩ (k_X12_leadsAnew l D cB cC cI cJ _ a0 a1 a2 a3 a4 a5 a6 a7 a8 a9 a10 a11 a12 a13 a14 a15 a16 a17 a18 a19 a20 a21 a22 a23 a24 a25 a26 a27 a28 a29 a30 a31 a32 a33 a34 a35 a36 a37 a38 a39 a40 a41 a42 a43 x1 x2 x3 x4 x5 x6 x7 x8 x9 x10 x11 x12 x13 x14 x15 x16 x17 x18 x19 x20 x21 x22 x23 x24 x25 x26 x27 x28 y0 y1 f0 f1 g0 h_x1 h_x2 h_x3 h_x4 h_x5 h_x6 h_x9 h_x10 h_x11 h_x12 h_x13 h_x15 h_x16 h_x17 h_x19 h_x20 h_x21 h_x22 h_x23 h_x24 h_x25 h_x26 h_x27 h_x28 hr_a0_0 hr_a0_1 hr_a0_2 hf_f0) ⟨gcwB hts tw_1762 tw_14 tw_1759 hd_yX12_leadsAnew ⟨Nat.le_of_ble_eq_true rfl, Nat.le_of_ble_eq_true rfl⟩, hts _ tw_1761, hts _ tp_88⟩ ⟨gblind, va_recv hK hPc (ci := 12) (q0 := 0) rfl rfl, (gpreS hPc hK hDc hN).2⟩ rfl rfl hl.1 rfl (lv_room (Nat.le_of_ble_eq_true rfl)) dX12_canLead_1 ⟨Nat.le_of_ble_eq_true rfl, Nat.le_of_ble_eq_true rfl⟩) (fun u_1 H locs hw_3 hP hD hS => ?_)
  replace hP : va_P D gcl (zS_13 cB cC cI cJ a0 a1 x1 x2 x3 x4 x5 x6 x7 x8 a2 a3 a4 a5 a6 a7 a8 a9 a10 a11 a12 a13 a14 a15 a16 x9 x10 x11 x12 x13 x14 a17 a18 a19 x15 a20 x16 a21 x17 x18 a22 a23 a24 a25 x19 a26 x20 a27 a28 a29 y0 a30 a31 a32 a33 a34 a35 a36 a37 a38 0 0 0 y1 a39 x24 a40 a41 a42 a43 x25 x26 x27 x28 a18 f0 a27 (u_1.2.1 0) a36 f2 a37 f3 a38 f4 a35 (u_1.2.2.1 0)) H := hP
  replace hD : va_D A (zS_13 cB cC cI cJ a0 a1 x1 x2 x3 x4 x5 x6 x7 x8 a2 a3 a4 a5 a6 a7 a8 a9 a10 a11 a12 a13 a14 a15 a16 x9 x10 x11 x12 x13 x14 a17 a18 a19 x15 a20 x16 a21 x17 x18 a22 a23 a24 a25 x19 a26 x20 a27 a28 a29 y0 a30 a31 a32 a33 a34 a35 a36 a37 a38 0 0 0 y1 a39 x24 a40 a41 a42 a43 x25 x26 x27 x28 a18 f0 a27 (u_1.2.1 0) a36 f2 a37 f3 a38 f4 a35 (u_1.2.2.1 0)) := hD
  obtain ⟨hw_4, hw_5, hw_6⟩ := hw_3
  replace hw_4 : ((0 : Int32).toInt ≤ (0 : Int32).toInt) := hw_4
  replace hw_5 : ((0 : Int32).toInt + (0 : Int32).toInt ≤ 200) := hw_5
  replace hw_6 : (∀ k : Nat, k < 30 → (u_1.2.1 0) k = f0 k) := hw_6
  have lp_23 : ∀ (n : Nat) (x_7 x_9 : Int32) (f_13 f_14 f_16 f_18 : Nat → Int32) (g_19 : Nat → Int64) (H : Heap) (locs : List Loc) (ls : Array Slot), (0 ≤ x_7.toInt ∧ x_7.toInt ≤ 200) → (0 ≤ x_9.toInt ∧ x_9.toInt ≤ 40) → (x_9.toInt ≤ x_7.toInt) → (x_7.toInt + (0 : Int32).toInt ≤ 200) → (∀ j, 0 ≤ (f_14 j).toInt ∧ (f_14 j).toInt ≤ 4) → (∀ j, 0 ≤ (f_16 j).toInt ∧ (f_16 j).toInt ≤ 4) → (x_7.toInt ≤ x0.toInt) → (MOK f0 f_13 f_14 f_16 f_18 x11.toInt x10.toInt x_7.toInt 0) → (0 = 0 ∧ ((x_7.toInt ≤ 40 ∧ x_9.toInt = x_7.toInt) ∨ (40 < x_7.toInt ∧ x_9.toInt = 40))) → (200 - x_7.toInt).toNat < n → va_P D gcl (zS_13 cB cC cI cJ a0 a1 x1 x2 x3 x4 x5 x6 x7 x8 a2 a3 a4 a5 a6 a7 a8 a9 a10 a11 a12 a13 a14 a15 a16 x9 x10 x11 x12 x13 x14 a17 a18 a19 x15 a20 x16 a21 x17 x18 a22 a23 a24 a25 x19 a26 x20 a27 a28 a29 y0 a30 a31 a32 a33 a34 a35 a36 a37 a38 x_7 x_9 0 y1 a39 x24 a40 a41 a42 a43 x25 x26 x27 x28 a18 f0 a27 f_13 a36 f_14 a37 f_16 a38 f_18 a35 g_19) H → va_D A (zS_13 cB cC cI cJ a0 a1 x1 x2 x3 x4 x5 x6 x7 x8 a2 a3 a4 a5 a6 a7 a8 a9 a10 a11 a12 a13 a14 a15 a16 x9 x10 x11 x12 x13 x14 a17 a18 a19 x15 a20 x16 a21 x17 x18 a22 a23 a24 a25 x19 a26 x20 a27 a28 a29 y0 a30 a31 a32 a33 a34 a35 a36 a37 a38 x_7 x_9 0 y1 a39 x24 a40 a41 a42 a43 x25 x26 x27 x28 a18 f0 a27 f_13 a36 f_14 a37 f_16 a38 f_18 a35 g_19) → va_S A s.heap H locs → lv_has ls 2 [(0, .ref a0), (1, .int x0)] → W p l e ({ frames := 2, cells := 0, slots := 0, locals := 49 }) s m args below meth c H locs 0 0 Q (F0 m 4 ls []) := by
    intro n
    induction n with
    | zero => intro x_7 x_9 f_13 f_14 f_16 f_18 g_19 H locs ls hi_8 hi_10 hi_11 hi_12 hi_15 hi_17 hi_20 hi_21 hi_22 hmu; exact absurd hmu (Nat.not_lt_zero _)
    | succ n ih_lp_23 =>
      intro x_7 x_9 f_13 f_14 f_16 f_18 g_19 H locs ls hi_8 hi_10 hi_11 hi_12 hi_15 hi_17 hi_20 hi_21 hi_22 hmu_lp_23 hP hD hS hl
      refine lv_aload_n (pc := 4) hx hb dX12_canLead_4 rfl (lv_at hl 0 rfl) ?_
      refine va_get (pc := 5) (ci := 12) (v := .int x_7) (C := RX12) (T := TX12) (N := 73) hx hb hts iX12 hown hK hP 0 rfl rfl 59 (by decide) (hts _ tw_1460) (fun _ h9 => h9) rfl dX12_canLead_5 ?_
      refine lv_iload_n (pc := 8) hx hb dX12_canLead_8 rfl (lv_at hl 1 rfl) ?_
      refine b_icmp_ge (pc := 9) (tgt := 44) hx hb rfl rfl  dX12_canLead_9 (by decide) (fun c_24 => ?_) (fun c_24 => ?_)
      ·
        as_aux_lemma =>
          refine lv_aload_n (pc := 44) hx hb dX12_canLead_44 rfl (lv_at hl 0 rfl) ?_
          refine va_get (pc := 45) (ci := 12) (v := .int x_7) (C := RX12) (T := TX12) (N := 73) hx hb hts iX12 hown hK hP 0 rfl rfl 59 (by decide) (hts _ tw_1460) (fun _ h9 => h9) rfl dX12_canLead_45 ?_
          refine lv_iload_n (pc := 48) hx hb dX12_canLead_48 rfl (lv_at hl 1 rfl) ?_
          refine b_icmp_ne (pc := 49) (tgt := 56) hx hb rfl rfl  dX12_canLead_49 (by decide) (fun c_25 => ?_) (fun c_25 => ?_)
          ·
            as_aux_lemma =>
              refine lv_iconst (pc := 56) (v := 0) hx hb dX12_canLead_56 (by decide) ?_
              have hP9 : va_P D gcl (zS_13 cB cC cI cJ a0 a1 x1 x2 x3 x4 x5 x6 x7 x8 a2 a3 a4 a5 a6 a7 a8 a9 a10 a11 a12 a13 a14 a15 a16 x9 x10 x11 x12 x13 x14 a17 a18 a19 x15 a20 x16 a21 x17 x18 a22 a23 a24 a25 x19 a26 x20 a27 a28 a29 y0 a30 a31 a32 a33 a34 a35 a36 a37 a38 x_7 x_9 0 y1 a39 x24 a40 a41 a42 a43 x25 x26 x27 x28 a18 f0 a27 f_13 a36 f_14 a37 f_16 a38 f_18 a35 g_19) H := g_psub hP [0, 1, 2, 3, 4, 5, 6] rfl
              have hD9 : va_D A (zS_13 cB cC cI cJ a0 a1 x1 x2 x3 x4 x5 x6 x7 x8 a2 a3 a4 a5 a6 a7 a8 a9 a10 a11 a12 a13 a14 a15 a16 x9 x10 x11 x12 x13 x14 a17 a18 a19 x15 a20 x16 a21 x17 x18 a22 a23 a24 a25 x19 a26 x20 a27 a28 a29 y0 a30 a31 a32 a33 a34 a35 a36 a37 a38 x_7 x_9 0 y1 a39 x24 a40 a41 a42 a43 x25 x26 x27 x28 a18 f0 a27 f_13 a36 f_14 a37 f_16 a38 f_18 a35 g_19) := hD.sub [0, 1, 2, 3, 4, 5, 6] (by decide) rfl
              have k9 := tI_0
              have k8_0 := tI_0
              exact hret 0 ((fun _ => 0), (fun k => [f_13, f_14, f_16, f_18].getD k (fun _ => 0)), (fun k => [g_19].getD k (fun _ => 0)), (fun k => [x_7, x_9].getD k 0), (fun _ => 0)) dX12_canLead_57 ⟨(Or.inl tI_0), ⟨(show (0 ≤ (0 : Int32).toInt ∧ (0 : Int32).toInt ≤ 1) from (n_c tI_0 (by decide))), (show (0 ≤ (x_7 : Int32).toInt ∧ (x_7 : Int32).toInt ≤ 200) from hi_8), (show (0 ≤ (x_9 : Int32).toInt ∧ (x_9 : Int32).toInt ≤ 40) from hi_10), (show ((x_9 : Int32).toInt ≤ (x_7 : Int32).toInt) from hi_11), (show ((x_7 : Int32).toInt + (0 : Int32).toInt ≤ 200) from hi_12), hi_15, hi_17, (show x_7.toInt ≤ x0.toInt from hi_20), (show MOK f0 f_13 f_14 f_16 f_18 x11.toInt x10.toInt x_7.toInt 0 from hi_21), (show ∀ m9 : Int, CH f0 x11.toInt x10.toInt m9 → m9 ≤ x0.toInt → m9 ≤ 200 → m9 ≤ x_7.toInt from fun m9 _ h _ => by (first | omega | (unfold zBd at *; omega))), (show (0 : Int32).toInt = 0 ∧ ((x_7.toInt ≤ 40 ∧ x_9.toInt = x_7.toInt) ∨ (40 < x_7.toInt ∧ x_9.toInt = 40)) from (by first | exact (om_1891 tI_0 hi_22.2 hi_10.2 hi_11) | (have k9 := tI_0; have k8_0 := tI_0; (first | omega | (unfold zBd at *; omega))))), (show ((0 : Int32).toInt = 1 ∧ x_7.toInt = x0.toInt) ∨ ((0 : Int32).toInt = 0 ∧ x_7.toInt < x0.toInt) from (by first | exact (om_1892 tI_0 c_25 hi_20) | (have k9 := tI_0; have k8_0 := tI_0; (first | omega | (unfold zBd at *; omega)))))⟩⟩ hP9 hD9 hS
          ·
            as_aux_lemma =>
              refine lv_iconst (pc := 52) (v := 1) hx hb dX12_canLead_52 (by decide) ?_
              refine lv_goto (pc := 53) (tgt := 57) hx hb dX12_canLead_53 (by decide) ?_
              have hP9 : va_P D gcl (zS_13 cB cC cI cJ a0 a1 x1 x2 x3 x4 x5 x6 x7 x8 a2 a3 a4 a5 a6 a7 a8 a9 a10 a11 a12 a13 a14 a15 a16 x9 x10 x11 x12 x13 x14 a17 a18 a19 x15 a20 x16 a21 x17 x18 a22 a23 a24 a25 x19 a26 x20 a27 a28 a29 y0 a30 a31 a32 a33 a34 a35 a36 a37 a38 x_7 x_9 0 y1 a39 x24 a40 a41 a42 a43 x25 x26 x27 x28 a18 f0 a27 f_13 a36 f_14 a37 f_16 a38 f_18 a35 g_19) H := g_psub hP [0, 1, 2, 3, 4, 5, 6] rfl
              have hD9 : va_D A (zS_13 cB cC cI cJ a0 a1 x1 x2 x3 x4 x5 x6 x7 x8 a2 a3 a4 a5 a6 a7 a8 a9 a10 a11 a12 a13 a14 a15 a16 x9 x10 x11 x12 x13 x14 a17 a18 a19 x15 a20 x16 a21 x17 x18 a22 a23 a24 a25 x19 a26 x20 a27 a28 a29 y0 a30 a31 a32 a33 a34 a35 a36 a37 a38 x_7 x_9 0 y1 a39 x24 a40 a41 a42 a43 x25 x26 x27 x28 a18 f0 a27 f_13 a36 f_14 a37 f_16 a38 f_18 a35 g_19) := hD.sub [0, 1, 2, 3, 4, 5, 6] (by decide) rfl
              have k9 := tI_1
              have k8_0 := tI_0
              exact hret 1 ((fun _ => 0), (fun k => [f_13, f_14, f_16, f_18].getD k (fun _ => 0)), (fun k => [g_19].getD k (fun _ => 0)), (fun k => [x_7, x_9].getD k 0), (fun _ => 0)) dX12_canLead_57 ⟨(Or.inr tI_1), ⟨(show (0 ≤ (1 : Int32).toInt ∧ (1 : Int32).toInt ≤ 1) from (n_c tI_1 (by decide))), (show (0 ≤ (x_7 : Int32).toInt ∧ (x_7 : Int32).toInt ≤ 200) from hi_8), (show (0 ≤ (x_9 : Int32).toInt ∧ (x_9 : Int32).toInt ≤ 40) from hi_10), (show ((x_9 : Int32).toInt ≤ (x_7 : Int32).toInt) from hi_11), (show ((x_7 : Int32).toInt + (0 : Int32).toInt ≤ 200) from hi_12), hi_15, hi_17, (show x_7.toInt ≤ x0.toInt from hi_20), (show MOK f0 f_13 f_14 f_16 f_18 x11.toInt x10.toInt x_7.toInt 0 from hi_21), (show ∀ m9 : Int, CH f0 x11.toInt x10.toInt m9 → m9 ≤ x0.toInt → m9 ≤ 200 → m9 ≤ x_7.toInt from fun m9 _ h _ => by (first | omega | (unfold zBd at *; omega))), (show (0 : Int32).toInt = 0 ∧ ((x_7.toInt ≤ 40 ∧ x_9.toInt = x_7.toInt) ∨ (40 < x_7.toInt ∧ x_9.toInt = 40)) from (by first | exact (om_1891 tI_0 hi_22.2 hi_10.2 hi_11) | (have k9 := tI_1; have k8_0 := tI_0; (first | omega | (unfold zBd at *; omega))))), (show ((1 : Int32).toInt = 1 ∧ x_7.toInt = x0.toInt) ∨ ((1 : Int32).toInt = 0 ∧ x_7.toInt < x0.toInt) from (by first | exact (om_1893 tI_1 c_25) | (have k9 := tI_1; have k8_0 := tI_0; (first | omega | (unfold zBd at *; omega)))))⟩⟩ hP9 hD9 hS
      ·
        as_aux_lemma =>
          refine lv_aload_n (pc := 12) hx hb dX12_canLead_12 rfl (lv_at hl 0 rfl) ?_
          refine gd_i (pc := 13) (wc := (zS_58 cB cC cI cJ a0 a1 x1 x2 x3 x4 x5 x6 x7 x8 a2 a3 a4 a5 a6 a7 a8 a9 a10 a11 a12 a13 a14 a15 a16 x9 x10 x11 x12 x13 x14 a17 a18 a19 x15 a20 x16 a21 x17 x18 a22 a23 a24 a25 x19 a26 x20 a27 a28 a29 y0 a30 a31 a32 a33 a34 a35 a36 a37 a38 x_7 x_9 0 y1 a39 x24 a40 a41 a42 a43 x25 x26 x27 x28 a27 f_13 a36 f_14 a37 f_16 a38 f_18 a35 g_19)) hP hD hS hA [0, 2, 3, 4, 5, 6] rfl (by decide +kernel) (fun _ => by rfl) (fun hPc hDc => va_runV (As := []) (rest := []) ⟨hx, hb, hml, hown, hts⟩ (k_X12_isStep l D cB cC cI cJ _ a0 a1 a2 a3 a4 a5 a6 a7 a8 a9 a10 a11 a12 a13 a14 a15 a16 a17 a18 a19 a20 a21 a22 a23 a24 a25 a26 a27 a28 a29 a30 a31 a32 a33 a34 a35 a36 a37 a38 a39 a40 a41 a42 a43 x1 x2 x3 x4 x5 x6 x7 x8 x9 x10 x11 x12 x13 x14 x15 x16 x17 x18 x19 x20 x_7 x_9 0 x24 x25 x26 x27 x28 y0 y1 f_13 f_14 f_16 f_18 g_19 h_x1 h_x2 h_x3 h_x4 h_x5 h_x6 h_x9 h_x10 h_x11 h_x12 h_x13 h_x15 h_x16 h_x17 h_x19 h_x20 hi_8 hi_10 (n_c tI_0 (by decide)) h_x24 h_x25 h_x26 h_x27 h_x28 hi_11 hi_12 hr_a0_2 hi_15 hi_17) ⟨gcwB hts tw_1930 tw_14 tw_1927 hd_yX12_isStep ⟨Nat.le_of_ble_eq_true rfl, Nat.le_of_ble_eq_true rfl⟩, hts _ tw_1929, hts _ tp_106⟩ ⟨gblind, va_recv hK hPc (ci := 12) (q0 := 0) rfl rfl, (gpreS hPc hK hDc hN).2⟩ rfl rfl hl.1 rfl (lv_room (Nat.le_of_ble_eq_true rfl)) dX12_canLead_13 ⟨Nat.le_of_ble_eq_true rfl, Nat.le_of_ble_eq_true rfl⟩) (fun r_27 u_26 H locs hw_28 hP hD hS => ?_)
          replace hP : va_P D gcl (zS_13 cB cC cI cJ a0 a1 x1 x2 x3 x4 x5 x6 x7 x8 a2 a3 a4 a5 a6 a7 a8 a9 a10 a11 a12 a13 a14 a15 a16 x9 x10 x11 x12 x13 x14 a17 a18 a19 x15 a20 x16 a21 x17 x18 a22 a23 a24 a25 x19 a26 x20 a27 a28 a29 y0 a30 a31 a32 a33 a34 a35 a36 a37 a38 (u_26.2.2.2.1 0) x_9 0 y1 a39 x24 a40 a41 a42 a43 x25 x26 x27 x28 a18 f0 a27 (u_26.2.1 0) a36 (u_26.2.1 1) a37 (u_26.2.1 2) a38 (u_26.2.1 3) a35 (u_26.2.2.1 0)) H := hP
          replace hD : va_D A (zS_13 cB cC cI cJ a0 a1 x1 x2 x3 x4 x5 x6 x7 x8 a2 a3 a4 a5 a6 a7 a8 a9 a10 a11 a12 a13 a14 a15 a16 x9 x10 x11 x12 x13 x14 a17 a18 a19 x15 a20 x16 a21 x17 x18 a22 a23 a24 a25 x19 a26 x20 a27 a28 a29 y0 a30 a31 a32 a33 a34 a35 a36 a37 a38 (u_26.2.2.2.1 0) x_9 0 y1 a39 x24 a40 a41 a42 a43 x25 x26 x27 x28 a18 f0 a27 (u_26.2.1 0) a36 (u_26.2.1 1) a37 (u_26.2.1 2) a38 (u_26.2.1 3) a35 (u_26.2.2.1 0)) := hD
          obtain ⟨hw_29, hw_30, hw_31, hw_32, hw_33, hw_34, hw_35⟩ := hw_28
          replace hw_29 : (0 ≤ r_27.toInt ∧ r_27.toInt ≤ 1) := hw_29
          replace hw_30 : zBd (u_26.2.2.2.1 0).toInt 0 200 := hw_30
          replace hw_31 : (x_9.toInt ≤ (u_26.2.2.2.1 0).toInt) := hw_31
          replace hw_32 : (∀ j, 0 ≤ ((u_26.2.1 1) j).toInt ∧ ((u_26.2.1 1) j).toInt ≤ 4) := hw_32
          replace hw_33 : (∀ j, 0 ≤ ((u_26.2.1 2) j).toInt ∧ ((u_26.2.1 2) j).toInt ≤ 4) := hw_33
          replace hw_34 : ((u_26.2.2.2.1 0).toInt = x_7.toInt + r_27.toInt) := hw_34
          replace hw_35 : (isQ f_13 (u_26.2.1 0) f_14 f_16 f_18 (u_26.2.1 1) (u_26.2.1 2) (u_26.2.1 3) x11.toInt x10.toInt x_7.toInt (u_26.2.2.2.1 0).toInt r_27.toInt) := hw_35
          have kk0_r_27 := tI_0
          have rr_27 : zBd r_27.toInt (-2147483648) 2147483647 := n_rng r_27
          refine b_if_eq (pc := 16) (tgt := 44) hx hb rfl  dX12_canLead_16 (by decide) (fun c_36 => ?_) (fun c_36 => ?_)
          ·
            as_aux_lemma =>
              refine lv_aload_n (pc := 44) hx hb dX12_canLead_44 rfl (lv_at hl 0 rfl) ?_
              refine va_get (pc := 45) (ci := 12) (v := .int (u_26.2.2.2.1 0)) (C := RX12) (T := TX12) (N := 73) hx hb hts iX12 hown hK hP 0 rfl rfl 59 (by decide) (hts _ tw_1460) (fun _ h9 => h9) rfl dX12_canLead_45 ?_
              have bd_hw_30 : 0 ≤ (u_26.2.2.2.1 0).toInt ∧ (u_26.2.2.2.1 0).toInt ≤ 200 := hw_30
              refine lv_iload_n (pc := 48) hx hb dX12_canLead_48 rfl (lv_at hl 1 rfl) ?_
              refine b_icmp_ne (pc := 49) (tgt := 56) hx hb rfl rfl  dX12_canLead_49 (by decide) (fun c_37 => ?_) (fun c_37 => ?_)
              ·
                as_aux_lemma =>
                  refine lv_iconst (pc := 56) (v := 0) hx hb dX12_canLead_56 (by decide) ?_
                  have hP9 : va_P D gcl (zS_13 cB cC cI cJ a0 a1 x1 x2 x3 x4 x5 x6 x7 x8 a2 a3 a4 a5 a6 a7 a8 a9 a10 a11 a12 a13 a14 a15 a16 x9 x10 x11 x12 x13 x14 a17 a18 a19 x15 a20 x16 a21 x17 x18 a22 a23 a24 a25 x19 a26 x20 a27 a28 a29 y0 a30 a31 a32 a33 a34 a35 a36 a37 a38 (u_26.2.2.2.1 0) x_9 0 y1 a39 x24 a40 a41 a42 a43 x25 x26 x27 x28 a18 f0 a27 (u_26.2.1 0) a36 (u_26.2.1 1) a37 (u_26.2.1 2) a38 (u_26.2.1 3) a35 (u_26.2.2.1 0)) H := g_psub hP [0, 1, 2, 3, 4, 5, 6] rfl
                  have hD9 : va_D A (zS_13 cB cC cI cJ a0 a1 x1 x2 x3 x4 x5 x6 x7 x8 a2 a3 a4 a5 a6 a7 a8 a9 a10 a11 a12 a13 a14 a15 a16 x9 x10 x11 x12 x13 x14 a17 a18 a19 x15 a20 x16 a21 x17 x18 a22 a23 a24 a25 x19 a26 x20 a27 a28 a29 y0 a30 a31 a32 a33 a34 a35 a36 a37 a38 (u_26.2.2.2.1 0) x_9 0 y1 a39 x24 a40 a41 a42 a43 x25 x26 x27 x28 a18 f0 a27 (u_26.2.1 0) a36 (u_26.2.1 1) a37 (u_26.2.1 2) a38 (u_26.2.1 3) a35 (u_26.2.2.1 0)) := hD.sub [0, 1, 2, 3, 4, 5, 6] (by decide) rfl
                  have k9 := tI_0
                  have k8_0 := tI_0
                  exact hret 0 ((fun _ => 0), (fun k => [(u_26.2.1 0), (u_26.2.1 1), (u_26.2.1 2), (u_26.2.1 3)].getD k (fun _ => 0)), (fun k => [(u_26.2.2.1 0)].getD k (fun _ => 0)), (fun k => [(u_26.2.2.2.1 0), x_9].getD k 0), (fun _ => 0)) dX12_canLead_57 ⟨(Or.inl tI_0), ⟨(show (0 ≤ (0 : Int32).toInt ∧ (0 : Int32).toInt ≤ 1) from (n_c tI_0 (by decide))), (show (0 ≤ ((u_26.2.2.2.1 0) : Int32).toInt ∧ ((u_26.2.2.2.1 0) : Int32).toInt ≤ 200) from hw_30), (show (0 ≤ (x_9 : Int32).toInt ∧ (x_9 : Int32).toInt ≤ 40) from hi_10), (show ((x_9 : Int32).toInt ≤ ((u_26.2.2.2.1 0) : Int32).toInt) from hw_31), (show (((u_26.2.2.2.1 0) : Int32).toInt + (0 : Int32).toInt ≤ 200) from (by first | exact (om_1702 hw_30.2 tI_0) | (have k9 := tI_0; have k8_0 := tI_0; (first | omega | (unfold zBd at *; omega))))), hw_32, hw_33, (show (u_26.2.2.2.1 0).toInt ≤ x0.toInt from (by first | exact (om_1894 hw_34 c_24 c_36) | (have k9 := tI_0; have k8_0 := tI_0; (first | omega | (unfold zBd at *; omega))))), (show MOK f0 (u_26.2.1 0) (u_26.2.1 1) (u_26.2.1 2) (u_26.2.1 3) x11.toInt x10.toInt (u_26.2.2.2.1 0).toInt 0 from isQ_same hi_21 hw_35 (by first | exact (om_31 c_36) | ((first | omega | (unfold zBd at *; omega))))), (show ∀ m9 : Int, CH f0 x11.toInt x10.toInt m9 → m9 ≤ x0.toInt → m9 ≤ 200 → m9 ≤ (u_26.2.2.2.1 0).toInt from fun m9 hc _ h2 => by have q := isQ_end hi_21 hw_35 (by (first | omega | (unfold zBd at *; omega))) hc (by (first | omega | (unfold zBd at *; omega))) (by (first | omega | (unfold zBd at *; omega))) h2 (by (first | omega | (unfold zBd at *; omega))) (by (first | omega | (unfold zBd at *; omega))); (first | omega | (unfold zBd at *; omega))), (show (0 : Int32).toInt = 0 ∧ (((u_26.2.2.2.1 0).toInt ≤ 40 ∧ x_9.toInt = (u_26.2.2.2.1 0).toInt) ∨ (40 < (u_26.2.2.2.1 0).toInt ∧ x_9.toInt = 40)) from (by first | exact (om_1895 tI_0 hi_22.2 hw_34 c_36 hi_10.2 hw_31) | (have k9 := tI_0; have k8_0 := tI_0; (first | omega | (unfold zBd at *; omega))))), (show ((0 : Int32).toInt = 1 ∧ (u_26.2.2.2.1 0).toInt = x0.toInt) ∨ ((0 : Int32).toInt = 0 ∧ (u_26.2.2.2.1 0).toInt < x0.toInt) from (by first | exact (om_1896 tI_0 hw_34 c_24 c_36) | (have k9 := tI_0; have k8_0 := tI_0; (first | omega | (unfold zBd at *; omega)))))⟩⟩ hP9 hD9 hS
              ·
                as_aux_lemma =>
                  refine lv_iconst (pc := 52) (v := 1) hx hb dX12_canLead_52 (by decide) ?_
                  refine lv_goto (pc := 53) (tgt := 57) hx hb dX12_canLead_53 (by decide) ?_
                  have hP9 : va_P D gcl (zS_13 cB cC cI cJ a0 a1 x1 x2 x3 x4 x5 x6 x7 x8 a2 a3 a4 a5 a6 a7 a8 a9 a10 a11 a12 a13 a14 a15 a16 x9 x10 x11 x12 x13 x14 a17 a18 a19 x15 a20 x16 a21 x17 x18 a22 a23 a24 a25 x19 a26 x20 a27 a28 a29 y0 a30 a31 a32 a33 a34 a35 a36 a37 a38 (u_26.2.2.2.1 0) x_9 0 y1 a39 x24 a40 a41 a42 a43 x25 x26 x27 x28 a18 f0 a27 (u_26.2.1 0) a36 (u_26.2.1 1) a37 (u_26.2.1 2) a38 (u_26.2.1 3) a35 (u_26.2.2.1 0)) H := g_psub hP [0, 1, 2, 3, 4, 5, 6] rfl
                  have hD9 : va_D A (zS_13 cB cC cI cJ a0 a1 x1 x2 x3 x4 x5 x6 x7 x8 a2 a3 a4 a5 a6 a7 a8 a9 a10 a11 a12 a13 a14 a15 a16 x9 x10 x11 x12 x13 x14 a17 a18 a19 x15 a20 x16 a21 x17 x18 a22 a23 a24 a25 x19 a26 x20 a27 a28 a29 y0 a30 a31 a32 a33 a34 a35 a36 a37 a38 (u_26.2.2.2.1 0) x_9 0 y1 a39 x24 a40 a41 a42 a43 x25 x26 x27 x28 a18 f0 a27 (u_26.2.1 0) a36 (u_26.2.1 1) a37 (u_26.2.1 2) a38 (u_26.2.1 3) a35 (u_26.2.2.1 0)) := hD.sub [0, 1, 2, 3, 4, 5, 6] (by decide) rfl
                  have k9 := tI_1
                  have k8_0 := tI_0
                  exact hret 1 ((fun _ => 0), (fun k => [(u_26.2.1 0), (u_26.2.1 1), (u_26.2.1 2), (u_26.2.1 3)].getD k (fun _ => 0)), (fun k => [(u_26.2.2.1 0)].getD k (fun _ => 0)), (fun k => [(u_26.2.2.2.1 0), x_9].getD k 0), (fun _ => 0)) dX12_canLead_57 ⟨(Or.inr tI_1), ⟨(show (0 ≤ (1 : Int32).toInt ∧ (1 : Int32).toInt ≤ 1) from (n_c tI_1 (by decide))), (show (0 ≤ ((u_26.2.2.2.1 0) : Int32).toInt ∧ ((u_26.2.2.2.1 0) : Int32).toInt ≤ 200) from hw_30), (show (0 ≤ (x_9 : Int32).toInt ∧ (x_9 : Int32).toInt ≤ 40) from hi_10), (show ((x_9 : Int32).toInt ≤ ((u_26.2.2.2.1 0) : Int32).toInt) from hw_31), (show (((u_26.2.2.2.1 0) : Int32).toInt + (0 : Int32).toInt ≤ 200) from (by first | exact (om_1702 hw_30.2 tI_0) | (have k9 := tI_1; have k8_0 := tI_0; (first | omega | (unfold zBd at *; omega))))), hw_32, hw_33, (show (u_26.2.2.2.1 0).toInt ≤ x0.toInt from (by first | exact (om_1897 c_37) | (have k9 := tI_1; have k8_0 := tI_0; (first | omega | (unfold zBd at *; omega))))), (show MOK f0 (u_26.2.1 0) (u_26.2.1 1) (u_26.2.1 2) (u_26.2.1 3) x11.toInt x10.toInt (u_26.2.2.2.1 0).toInt 0 from isQ_same hi_21 hw_35 (by first | exact (om_31 c_36) | ((first | omega | (unfold zBd at *; omega))))), (show ∀ m9 : Int, CH f0 x11.toInt x10.toInt m9 → m9 ≤ x0.toInt → m9 ≤ 200 → m9 ≤ (u_26.2.2.2.1 0).toInt from fun m9 hc _ h2 => by have q := isQ_end hi_21 hw_35 (by (first | omega | (unfold zBd at *; omega))) hc (by (first | omega | (unfold zBd at *; omega))) (by (first | omega | (unfold zBd at *; omega))) h2 (by (first | omega | (unfold zBd at *; omega))) (by (first | omega | (unfold zBd at *; omega))); (first | omega | (unfold zBd at *; omega))), (show (0 : Int32).toInt = 0 ∧ (((u_26.2.2.2.1 0).toInt ≤ 40 ∧ x_9.toInt = (u_26.2.2.2.1 0).toInt) ∨ (40 < (u_26.2.2.2.1 0).toInt ∧ x_9.toInt = 40)) from (by first | exact (om_1898 tI_0 c_37 hw_34 c_36 c_24 hi_10.2 hw_31) | (have k9 := tI_1; have k8_0 := tI_0; (first | omega | (unfold zBd at *; omega))))), (show ((1 : Int32).toInt = 1 ∧ (u_26.2.2.2.1 0).toInt = x0.toInt) ∨ ((1 : Int32).toInt = 0 ∧ (u_26.2.2.2.1 0).toInt < x0.toInt) from (by first | exact (om_1893 tI_1 c_37) | (have k9 := tI_1; have k8_0 := tI_0; (first | omega | (unfold zBd at *; omega)))))⟩⟩ hP9 hD9 hS
          ·
            as_aux_lemma =>
              refine lv_aload_n (pc := 19) hx hb dX12_canLead_19 rfl (lv_at hl 0 rfl) ?_
              refine lv_aload_n (pc := 20) hx hb dX12_canLead_20 rfl (lv_at hl 0 rfl) ?_
              refine va_get (pc := 21) (ci := 12) (v := .int (u_26.2.2.2.1 0)) (C := RX12) (T := TX12) (N := 73) hx hb hts iX12 hown hK hP 0 rfl rfl 59 (by decide) (hts _ tw_1460) (fun _ h9 => h9) rfl dX12_canLead_21 ?_
              have bd_hw_30 : 0 ≤ (u_26.2.2.2.1 0).toInt ∧ (u_26.2.2.2.1 0).toInt ≤ 200 := hw_30
              refine lv_bipush (pc := 24) (v := 40) hx hb dX12_canLead_24 (by decide) ?_
              refine b_icmp_ge (pc := 26) (tgt := 36) hx hb rfl tI_40  dX12_canLead_26 (by decide) (fun c_38 => ?_) (fun c_38 => ?_)
              ·
                as_aux_lemma =>
                  refine lv_bipush (pc := 36) (v := 40) hx hb dX12_canLead_36 (by decide) ?_
                  refine va_put (pc := 38) (ci := 12) (v := .int 40) (ty := .int) (C := RX12) (T := TX12) (N := 73) hx hb hts iX12 tyX12 tyX12_ok nmX12 hown hK hP hD hS 0 rfl rfl 60 (by decide) (hts _ tw_1461) (fun _ h9 => h9) rfl (by decide +kernel) (by decide +kernel) (by decide +kernel) (Nat.le_of_ble_eq_true rfl) dX12_canLead_38 (fun H locs hP hD hS => ?_)
                  replace hP : va_P D gcl (zS_13 cB cC cI cJ a0 a1 x1 x2 x3 x4 x5 x6 x7 x8 a2 a3 a4 a5 a6 a7 a8 a9 a10 a11 a12 a13 a14 a15 a16 x9 x10 x11 x12 x13 x14 a17 a18 a19 x15 a20 x16 a21 x17 x18 a22 a23 a24 a25 x19 a26 x20 a27 a28 a29 y0 a30 a31 a32 a33 a34 a35 a36 a37 a38 (u_26.2.2.2.1 0) 40 0 y1 a39 x24 a40 a41 a42 a43 x25 x26 x27 x28 a18 f0 a27 (u_26.2.1 0) a36 (u_26.2.1 1) a37 (u_26.2.1 2) a38 (u_26.2.1 3) a35 (u_26.2.2.1 0)) H := hP
                  replace hD : va_D A (zS_13 cB cC cI cJ a0 a1 x1 x2 x3 x4 x5 x6 x7 x8 a2 a3 a4 a5 a6 a7 a8 a9 a10 a11 a12 a13 a14 a15 a16 x9 x10 x11 x12 x13 x14 a17 a18 a19 x15 a20 x16 a21 x17 x18 a22 a23 a24 a25 x19 a26 x20 a27 a28 a29 y0 a30 a31 a32 a33 a34 a35 a36 a37 a38 (u_26.2.2.2.1 0) 40 0 y1 a39 x24 a40 a41 a42 a43 x25 x26 x27 x28 a18 f0 a27 (u_26.2.1 0) a36 (u_26.2.1 1) a37 (u_26.2.1 2) a38 (u_26.2.1 3) a35 (u_26.2.2.1 0)) := hD
                  refine lv_goto (pc := 41) (tgt := 4) hx hb dX12_canLead_41 (by decide) ?_
                  exact ih_lp_23 (u_26.2.2.2.1 0) 40 (u_26.2.1 0) (u_26.2.1 1) (u_26.2.1 2) (u_26.2.1 3) (u_26.2.2.1 0) _ _ ls hw_30 (n_c tI_40 (by decide)) (by first | exact (om_1899 c_38 tI_40) | (have k0 := tI_40; (first | omega | (unfold zBd at *; omega)))) (by first | exact (om_1702 hw_30.2 tI_0) | (have k0 := tI_40; (first | omega | (unfold zBd at *; omega)))) hw_32 hw_33 (by first | exact (om_1900 hw_34 c_24 hw_29.2) | (have k0 := tI_40; (first | omega | (unfold zBd at *; omega)))) (isQ_push hi_21 hw_35 (by first | exact (om_0 hi_8.1) | ((first | omega | (unfold zBd at *; omega)))) (by first | exact (om_1178) | ((first | omega | (unfold zBd at *; omega)))) (by first | exact (om_34 c_36) | ((first | omega | (unfold zBd at *; omega))))) (by first | exact (om_1901 tI_40 c_38) | (have k0 := tI_40; (first | omega | (unfold zBd at *; omega)))) (by have k0 := tI_40; (first | omega | (unfold zBd at *; omega))) hP hD hS (lv_sub hl [0, 1] rfl)
              ·
                as_aux_lemma =>
                  refine lv_aload_n (pc := 29) hx hb dX12_canLead_29 rfl (lv_at hl 0 rfl) ?_
                  refine va_get (pc := 30) (ci := 12) (v := .int (u_26.2.2.2.1 0)) (C := RX12) (T := TX12) (N := 73) hx hb hts iX12 hown hK hP 0 rfl rfl 59 (by decide) (hts _ tw_1460) (fun _ h9 => h9) rfl dX12_canLead_30 ?_
                  refine lv_goto (pc := 33) (tgt := 38) hx hb dX12_canLead_33 (by decide) ?_
                  refine va_put (pc := 38) (ci := 12) (v := .int (u_26.2.2.2.1 0)) (ty := .int) (C := RX12) (T := TX12) (N := 73) hx hb hts iX12 tyX12 tyX12_ok nmX12 hown hK hP hD hS 0 rfl rfl 60 (by decide) (hts _ tw_1461) (fun _ h9 => h9) rfl (by decide +kernel) rfl rfl (Nat.le_of_ble_eq_true rfl) dX12_canLead_38 (fun H locs hP hD hS => ?_)
                  replace hP : va_P D gcl (zS_13 cB cC cI cJ a0 a1 x1 x2 x3 x4 x5 x6 x7 x8 a2 a3 a4 a5 a6 a7 a8 a9 a10 a11 a12 a13 a14 a15 a16 x9 x10 x11 x12 x13 x14 a17 a18 a19 x15 a20 x16 a21 x17 x18 a22 a23 a24 a25 x19 a26 x20 a27 a28 a29 y0 a30 a31 a32 a33 a34 a35 a36 a37 a38 (u_26.2.2.2.1 0) (u_26.2.2.2.1 0) 0 y1 a39 x24 a40 a41 a42 a43 x25 x26 x27 x28 a18 f0 a27 (u_26.2.1 0) a36 (u_26.2.1 1) a37 (u_26.2.1 2) a38 (u_26.2.1 3) a35 (u_26.2.2.1 0)) H := hP
                  replace hD : va_D A (zS_13 cB cC cI cJ a0 a1 x1 x2 x3 x4 x5 x6 x7 x8 a2 a3 a4 a5 a6 a7 a8 a9 a10 a11 a12 a13 a14 a15 a16 x9 x10 x11 x12 x13 x14 a17 a18 a19 x15 a20 x16 a21 x17 x18 a22 a23 a24 a25 x19 a26 x20 a27 a28 a29 y0 a30 a31 a32 a33 a34 a35 a36 a37 a38 (u_26.2.2.2.1 0) (u_26.2.2.2.1 0) 0 y1 a39 x24 a40 a41 a42 a43 x25 x26 x27 x28 a18 f0 a27 (u_26.2.1 0) a36 (u_26.2.1 1) a37 (u_26.2.1 2) a38 (u_26.2.1 3) a35 (u_26.2.2.1 0)) := hD
                  refine lv_goto (pc := 41) (tgt := 4) hx hb dX12_canLead_41 (by decide) ?_
                  exact ih_lp_23 (u_26.2.2.2.1 0) (u_26.2.2.2.1 0) (u_26.2.1 0) (u_26.2.1 1) (u_26.2.1 2) (u_26.2.1 3) (u_26.2.2.1 0) _ _ ls hw_30 (by first | exact (om_1902 hw_30.1 c_38) | ((first | omega | (unfold zBd at *; omega)))) (by first | exact (om_484) | ((first | omega | (unfold zBd at *; omega)))) (by first | exact (om_1903 c_38 tI_0) | ((first | omega | (unfold zBd at *; omega)))) hw_32 hw_33 (by first | exact (om_1900 hw_34 c_24 hw_29.2) | ((first | omega | (unfold zBd at *; omega)))) (isQ_push hi_21 hw_35 (by first | exact (om_0 hi_8.1) | ((first | omega | (unfold zBd at *; omega)))) (by first | exact (om_1178) | ((first | omega | (unfold zBd at *; omega)))) (by first | exact (om_34 c_36) | ((first | omega | (unfold zBd at *; omega))))) (by first | exact (om_1904 c_38) | ((first | omega | (unfold zBd at *; omega)))) (by (first | omega | (unfold zBd at *; omega))) hP hD hS (lv_sub hl [0, 1] rfl)
  exact lp_23 _ 0 0 (u_1.2.1 0) f2 f3 f4 (u_1.2.2.1 0) _ _ ls (n_c tI_0 (by decide)) (n_c tI_0 (by decide)) hw_4 hw_5 hf_f2 hf_f3 (by have q := tI_0; (first | omega | (unfold zBd at *; omega))) (M_start hw_6 tI_0 rfl) (by have q := tI_0; (first | omega | (unfold zBd at *; omega))) (Nat.lt_succ_self _) hP hD hS (lv_sub hl [0, 1] rfl)
theorem om_1905 {a b : Int} (h0 : (a + b ≤ 200)) : (a + b ≤ 2147483647) := by omega
theorem om_1906 {a b c : Int} (h0 : (a = b + c)) (h1 : (0 ≤ c)) (h2 : (0 ≤ b)) (h3 : (b + c ≤ 200)) : ((0 ≤ a ∧ a ≤ 255)) := by omega
theorem om_1907 {a b c : Int} (h0 : (a ≤ c)) (h1 : (c + b ≤ 200)) : ((a + b ≤ 200)) := by omega
theorem om_1908 {a b : Int} (h0 : (a + b ≤ 40)) : (a + b ≤ 40) := by omega
theorem om_1909 {a b c : Int} (h0 : (c ≤ b)) : (a ≤ b + a - c) := by omega
theorem om_1910 {a b c d : Int} (h0 : (d ≤ c)) (h1 : (c ≤ d)) : (a = a ∧ b = b ∧ c = d) := by omega
theorem om_1911 {a b c : Int} (h0 : (a = b - 1)) (h1 : (b > c)) (h2 : (0 ≤ c)) (h3 : (b ≤ 200)) : ((0 ≤ a ∧ a ≤ 200)) := by omega
theorem om_1912 {a b c d : Int} (h0 : (b = d - 1)) (h1 : (d > a)) (h2 : (d ≤ a + c)) : ((a ≤ b ∧ b ≤ a + c)) := by omega
theorem om_1913 {a b c : Int} (h0 : (c ≤ a + b)) : (0 ≤ a + b - c) := by omega
theorem om_1914 {a b c d : Int} (h0 : (c = d - 1)) : (a + b - c = a + b - d + 1) := by omega
set_option maxHeartbeats 4000000 in
set_option maxRecDepth 100000 in
theorem k_X12_takesBack (l : Launch) (D : va_G) (cB cC cI cJ : ClassId) (sz : Nat) (a0 a1 a2 a3 a4 a5 a6 a7 a8 a9 a10 a11 a12 a13 a14 a15 a16 a17 a18 a19 a20 a21 a22 a23 a24 a25 a26 a27 a28 a29 a30 a31 a32 a33 a34 a35 a36 a37 a38 a39 a40 a41 a42 a43 : Nat) (x0 x1 x2 x3 x4 x5 x6 x7 x8 x9 x10 x11 x12 x13 x14 x15 x16 x17 x18 x19 x20 x21 x22 x23 x24 x25 x26 x27 : Int32) (y0 y1 : Int64) (f0 f1 f2 f3 f4 : Nat → Int32) (g0 : Nat → Int64) (h_x0 : zBd x0.toInt 0 1600) (h_x1 : zBd x1.toInt 0 1600) (h_x2 : zBd x2.toInt 0 1600) (h_x3 : zBd x3.toInt (-1) 1600) (h_x4 : zBd x4.toInt 0 4) (h_x5 : zBd x5.toInt (-1) 1600) (h_x8 : zBd x8.toInt 0 8) (h_x9 : zBd x9.toInt 0 5) (h_x10 : zBd x10.toInt 0 6) (h_x11 : zBd x11.toInt 0 6) (h_x12 : zBd x12.toInt 0 16) (h_x14 : zBd x14.toInt 0 60) (h_x15 : zBd x15.toInt 0 1600) (h_x16 : zBd x16.toInt 0 1700) (h_x18 : zBd x18.toInt 0 1700) (h_x19 : zBd x19.toInt 0 1700) (h_x20 : zBd x20.toInt 0 200) (h_x21 : zBd x21.toInt 0 40) (h_x22 : zBd x22.toInt 0 40) (h_x23 : zBd x23.toInt 0 1) (h_x24 : zBd x24.toInt 0 14) (h_x25 : zBd x25.toInt 0 200) (h_x26 : zBd x26.toInt 0 40) (h_x27 : zBd x27.toInt 0 40) (hr_a0_0 : (x21.toInt ≤ x20.toInt)) (hr_a0_1 : (x20.toInt + x22.toInt ≤ 200)) (hr_a0_2 : (x9.toInt = 0 ∨ 2 ≤ x8.toInt)) (hf_f0 : (∀ j, (-9999) ≤ (f0 j).toInt ∧ (f0 j).toInt ≤ 9999)) (hf_f2 : (∀ j, 0 ≤ (f2 j).toInt ∧ (f2 j).toInt ≤ 4)) (hf_f3 : (∀ j, 0 ≤ (f3 j).toInt ∧ (f3 j).toInt ≤ 4)) (hg__w : x26.toInt ≤ x25.toInt ∧ x25.toInt + x27.toInt ≤ 200 ∧ x26.toInt + x27.toInt ≤ 40) (hg_ch : CH f0 x10.toInt x9.toInt (x25.toInt + x27.toInt)) : Met l yX12_takesBack (.code yX12_takesBack cX12_takesBack 3 none :: lw_gd) ({ frames := 3, cells := 0, slots := 0, locals := 70 }) (gPre D [(cB, .byte), (cC, .char), (cI, .int), (cJ, .long)] [.ref a0] (zS_13 cB cC cI cJ a0 a1 x0 x1 x2 x3 x4 x5 x6 x7 a2 a3 a4 a5 a6 a7 a8 a9 a10 a11 a12 a13 a14 a15 a16 x8 x9 x10 x11 x12 x13 a17 a18 a19 x14 a20 x15 a21 x16 x17 a22 a23 a24 a25 x18 a26 x19 a27 a28 a29 y0 a30 a31 a32 a33 a34 a35 a36 a37 a38 x20 x21 x22 y1 a39 x23 a40 a41 a42 a43 x24 x25 x26 x27 a18 f0 a27 f1 a36 f2 a37 f3 a38 f4 a35 g0) sz) (va_Qv (fun u => (0 ≤ (u.2.2.2.1 0).toInt ∧ (u.2.2.2.1 0).toInt ≤ 200) ∧ (x26.toInt ≤ (u.2.2.2.1 0).toInt) ∧ ((u.2.2.2.1 0).toInt + x27.toInt ≤ 200) ∧ (∀ j, 0 ≤ ((u.2.1 1) j).toInt ∧ ((u.2.1 1) j).toInt ≤ 4) ∧ (∀ j, 0 ≤ ((u.2.1 2) j).toInt ∧ ((u.2.1 2) j).toInt ≤ 4) ∧ (x26.toInt + x27.toInt ≤ 40) ∧ (MOK f0 (u.2.1 0) (u.2.1 1) (u.2.1 2) (u.2.1 3) x10.toInt x9.toInt (u.2.2.2.1 0).toInt x27.toInt) ∧ (x26.toInt = x26.toInt ∧ x27.toInt = x27.toInt ∧ (u.2.2.2.1 0).toInt = x25.toInt)) (gB D (va_A (zS_13 cB cC cI cJ a0 a1 x0 x1 x2 x3 x4 x5 x6 x7 a2 a3 a4 a5 a6 a7 a8 a9 a10 a11 a12 a13 a14 a15 a16 x8 x9 x10 x11 x12 x13 a17 a18 a19 x14 a20 x15 a21 x16 x17 a22 a23 a24 a25 x18 a26 x19 a27 a28 a29 y0 a30 a31 a32 a33 a34 a35 a36 a37 a38 x20 x21 x22 y1 a39 x23 a40 a41 a42 a43 x24 x25 x26 x27 a18 f0 a27 f1 a36 f2 a37 f3 a38 f4 a35 g0) sz) (fun u : gEx => (zS_13 cB cC cI cJ a0 a1 x0 x1 x2 x3 x4 x5 x6 x7 a2 a3 a4 a5 a6 a7 a8 a9 a10 a11 a12 a13 a14 a15 a16 x8 x9 x10 x11 x12 x13 a17 a18 a19 x14 a20 x15 a21 x16 x17 a22 a23 a24 a25 x18 a26 x19 a27 a28 a29 y0 a30 a31 a32 a33 a34 a35 a36 a37 a38 (u.2.2.2.1 0) x26 x27 y1 a39 x23 a40 a41 a42 a43 x24 x25 x26 x27 a18 f0 a27 (u.2.1 0) a36 (u.2.1 1) a37 (u.2.1 2) a38 (u.2.1 3) a35 (u.2.2.1 0)))) (va_A (zS_13 cB cC cI cJ a0 a1 x0 x1 x2 x3 x4 x5 x6 x7 a2 a3 a4 a5 a6 a7 a8 a9 a10 a11 a12 a13 a14 a15 a16 x8 x9 x10 x11 x12 x13 a17 a18 a19 x14 a20 x15 a21 x16 x17 a22 a23 a24 a25 x18 a26 x19 a27 a28 a29 y0 a30 a31 a32 a33 a34 a35 a36 a37 a38 x20 x21 x22 y1 a39 x23 a40 a41 a42 a43 x24 x25 x26 x27 a18 f0 a27 f1 a36 f2 a37 f3 a38 f4 a35 g0) sz)) 0 0 (va_A (zS_13 cB cC cI cJ a0 a1 x0 x1 x2 x3 x4 x5 x6 x7 a2 a3 a4 a5 a6 a7 a8 a9 a10 a11 a12 a13 a14 a15 a16 x8 x9 x10 x11 x12 x13 a17 a18 a19 x14 a20 x15 a21 x16 x17 a22 a23 a24 a25 x18 a26 x19 a27 a28 a29 y0 a30 a31 a32 a33 a34 a35 a36 a37 a38 x20 x21 x22 y1 a39 x23 a40 a41 a42 a43 x24 x25 x26 x27 a18 f0 a27 f1 a36 f2 a37 f3 a38 f4 a35 g0) sz) := by
  refine gOf_v (by decide +kernel) (Nat.le_of_ble_eq_true rfl) ?_
  intro p e s m args below meth c ls A Q hx hb hts hown hml hN hK hP hD hA hl hret
  replace hown : s.vm.findClass RX12 = some m.cls := hown
  have hS : va_S A s.heap s.heap [] := va_S.rf
  replace hP : va_P D gcl (zS_13 cB cC cI cJ a0 a1 x0 x1 x2 x3 x4 x5 x6 x7 a2 a3 a4 a5 a6 a7 a8 a9 a10 a11 a12 a13 a14 a15 a16 x8 x9 x10 x11 x12 x13 a17 a18 a19 x14 a20 x15 a21 x16 x17 a22 a23 a24 a25 x18 a26 x19 a27 a28 a29 y0 a30 a31 a32 a33 a34 a35 a36 a37 a38 x20 x21 x22 y1 a39 x23 a40 a41 a42 a43 x24 x25 x26 x27 a18 f0 a27 f1 a36 f2 a37 f3 a38 f4 a35 g0) s.heap := hP
  replace hl : lv_has ls 3 [(0, .ref a0)] := hl
  have rx6 : zBd x6.toInt (-2147483648) 2147483647 := n_rng x6
  have rx7 : zBd x7.toInt (-2147483648) 2147483647 := n_rng x7
  have rx13 : zBd x13.toInt (-2147483648) 2147483647 := n_rng x13
  have rx17 : zBd x17.toInt (-2147483648) 2147483647 := n_rng x17
  have ry0 := n_rngL y0
  have ry1 := n_rngL y1
  refine lv_aload_n (pc := 0) hx hb dX12_takesBack_0 rfl (lv_at hl 0 rfl) ?_
  refine va_get (pc := 1) (ci := 12) (v := .int x25) (C := RX12) (T := TX12) (N := 73) hx hb hts iX12 hown hK hP 0 rfl rfl 70 (by decide) (hts _ tw_1471) (fun _ h9 => h9) rfl dX12_takesBack_1 ?_
  have bd_h_x25 : 0 ≤ x25.toInt ∧ x25.toInt ≤ 200 := h_x25
  refine lv_aload_n (pc := 4) hx hb dX12_takesBack_4 rfl (lv_at hl 0 rfl) ?_
  refine va_get (pc := 5) (ci := 12) (v := .int x27) (C := RX12) (T := TX12) (N := 73) hx hb hts iX12 hown hK hP 0 rfl rfl 72 (by decide) (hts _ tw_1473) (fun _ h9 => h9) rfl dX12_takesBack_5 ?_
  have bd_h_x27 : 0 ≤ x27.toInt ∧ x27.toInt ≤ 40 := h_x27
  refine b_iadd (pc := 8) hx hb rfl rfl (by first | exact (om_37 h_x27.1 h_x25.1) | ((first | omega | (unfold zBd at *; omega)))) (by first | exact (om_1905 hg__w.2.1) | ((first | omega | (unfold zBd at *; omega)))) dX12_takesBack_8 (fun x_1 ex_1 => ?_)
  refine lv_istore_n (pc := 9) (lv' := [(1, .int x_1), (0, .ref a0)]) hx hb dX12_takesBack_9 rfl hl (by decide) rfl (fun ls hl => ?_)
  refine lv_aload_n (pc := 10) hx hb dX12_takesBack_10 rfl (lv_at hl 1 rfl) ?_
  refine lv_iload_n (pc := 11) hx hb dX12_takesBack_11 rfl (lv_at hl 0 rfl) ?_
  refine gd_i (pc := 12) (wc := (zS_13 cB cC cI cJ a0 a1 x0 x1 x2 x3 x4 x5 x6 x7 a2 a3 a4 a5 a6 a7 a8 a9 a10 a11 a12 a13 a14 a15 a16 x8 x9 x10 x11 x12 x13 a17 a18 a19 x14 a20 x15 a21 x16 x17 a22 a23 a24 a25 x18 a26 x19 a27 a28 a29 y0 a30 a31 a32 a33 a34 a35 a36 a37 a38 x20 x21 x22 y1 a39 x23 a40 a41 a42 a43 x24 x25 x26 x27 a18 f0 a27 f1 a36 f2 a37 f3 a38 f4 a35 g0)) hP hD hS hA [0, 1, 2, 3, 4, 5, 6] rfl (by decide +kernel) (fun _ => by rfl) (fun hPc hDc => va_runV (As := [.int x_1]) (rest := []) ⟨hx, hb, hml, hown, hts⟩ (k_X12_canLead l D cB cC cI cJ _ a0 a1 a2 a3 a4 a5 a6 a7 a8 a9 a10 a11 a12 a13 a14 a15 a16 a17 a18 a19 a20 a21 a22 a23 a24 a25 a26 a27 a28 a29 a30 a31 a32 a33 a34 a35 a36 a37 a38 a39 a40 a41 a42 a43 x_1 x0 x1 x2 x3 x4 x5 x6 x7 x8 x9 x10 x11 x12 x13 x14 x15 x16 x17 x18 x19 x20 x21 x22 x23 x24 x25 x26 x27 y0 y1 f0 f1 f2 f3 f4 g0 (by first | exact (om_1906 ex_1 h_x27.1 h_x25.1 hg__w.2.1) | ((first | omega | (unfold zBd at *; omega)))) h_x0 h_x1 h_x2 h_x3 h_x4 h_x5 h_x8 h_x9 h_x10 h_x11 h_x12 h_x14 h_x15 h_x16 h_x18 h_x19 h_x20 h_x21 h_x22 h_x23 h_x24 h_x25 h_x26 h_x27 hr_a0_0 hr_a0_1 hr_a0_2 hf_f0 hf_f2 hf_f3) ⟨gcwB hts tw_2104 tw_14 tw_2101 hd_yX12_canLead ⟨Nat.le_of_ble_eq_true rfl, Nat.le_of_ble_eq_true rfl⟩, hts _ tw_2103, hts _ tp_123⟩ ⟨gblind, va_recv hK hPc (ci := 12) (q0 := 0) rfl rfl, (gpreS hPc hK hDc hN).2⟩ rfl rfl hl.1 rfl (lv_room (Nat.le_of_ble_eq_true rfl)) dX12_takesBack_12 ⟨Nat.le_of_ble_eq_true rfl, Nat.le_of_ble_eq_true rfl⟩) (fun r_3 u_2 H locs hw_4 hP hD hS => ?_)
  replace hP : va_P D gcl (zS_13 cB cC cI cJ a0 a1 x0 x1 x2 x3 x4 x5 x6 x7 a2 a3 a4 a5 a6 a7 a8 a9 a10 a11 a12 a13 a14 a15 a16 x8 x9 x10 x11 x12 x13 a17 a18 a19 x14 a20 x15 a21 x16 x17 a22 a23 a24 a25 x18 a26 x19 a27 a28 a29 y0 a30 a31 a32 a33 a34 a35 a36 a37 a38 (u_2.2.2.2.1 0) (u_2.2.2.2.1 1) 0 y1 a39 x23 a40 a41 a42 a43 x24 x25 x26 x27 a18 f0 a27 (u_2.2.1 0) a36 (u_2.2.1 1) a37 (u_2.2.1 2) a38 (u_2.2.1 3) a35 (u_2.2.2.1 0)) H := hP
  replace hD : va_D A (zS_13 cB cC cI cJ a0 a1 x0 x1 x2 x3 x4 x5 x6 x7 a2 a3 a4 a5 a6 a7 a8 a9 a10 a11 a12 a13 a14 a15 a16 x8 x9 x10 x11 x12 x13 a17 a18 a19 x14 a20 x15 a21 x16 x17 a22 a23 a24 a25 x18 a26 x19 a27 a28 a29 y0 a30 a31 a32 a33 a34 a35 a36 a37 a38 (u_2.2.2.2.1 0) (u_2.2.2.2.1 1) 0 y1 a39 x23 a40 a41 a42 a43 x24 x25 x26 x27 a18 f0 a27 (u_2.2.1 0) a36 (u_2.2.1 1) a37 (u_2.2.1 2) a38 (u_2.2.1 3) a35 (u_2.2.2.1 0)) := hD
  obtain ⟨hw_5, hw_6, hw_7, hw_8, hw_9, hw_10, hw_11, hw_12, hw_13, hw_14, hw_15, hw_16⟩ := hw_4
  replace hw_5 : (0 ≤ r_3.toInt ∧ r_3.toInt ≤ 1) := hw_5
  replace hw_6 : zBd (u_2.2.2.2.1 0).toInt 0 200 := hw_6
  replace hw_7 : zBd (u_2.2.2.2.1 1).toInt 0 40 := hw_7
  replace hw_8 : ((u_2.2.2.2.1 1).toInt ≤ (u_2.2.2.2.1 0).toInt) := hw_8
  replace hw_9 : ((u_2.2.2.2.1 0).toInt + (0 : Int32).toInt ≤ 200) := hw_9
  replace hw_10 : (∀ j, 0 ≤ ((u_2.2.1 1) j).toInt ∧ ((u_2.2.1 1) j).toInt ≤ 4) := hw_10
  replace hw_11 : (∀ j, 0 ≤ ((u_2.2.1 2) j).toInt ∧ ((u_2.2.1 2) j).toInt ≤ 4) := hw_11
  replace hw_12 : ((u_2.2.2.2.1 0).toInt ≤ x_1.toInt) := hw_12
  replace hw_13 : (MOK f0 (u_2.2.1 0) (u_2.2.1 1) (u_2.2.1 2) (u_2.2.1 3) x10.toInt x9.toInt (u_2.2.2.2.1 0).toInt 0) := hw_13
  replace hw_14 : (∀ m9 : Int, CH f0 x10.toInt x9.toInt m9 → m9 ≤ x_1.toInt → m9 ≤ 200 → m9 ≤ (u_2.2.2.2.1 0).toInt) := hw_14
  replace hw_15 : ((0 : Int32).toInt = 0 ∧ (((u_2.2.2.2.1 0).toInt ≤ 40 ∧ (u_2.2.2.2.1 1).toInt = (u_2.2.2.2.1 0).toInt) ∨ (40 < (u_2.2.2.2.1 0).toInt ∧ (u_2.2.2.2.1 1).toInt = 40))) := hw_15
  replace hw_16 : ((r_3.toInt = 1 ∧ (u_2.2.2.2.1 0).toInt = x_1.toInt) ∨ (r_3.toInt = 0 ∧ (u_2.2.2.2.1 0).toInt < x_1.toInt)) := hw_16
  have rr_3 : zBd r_3.toInt (-2147483648) 2147483647 := n_rng r_3
  as_aux_lemma =>
    refine lv_istore_n (pc := 15) (lv' := [(2, .int r_3), (1, .int x_1), (0, .ref a0)]) hx hb dX12_takesBack_15 rfl hl (by decide) rfl (fun ls hl => ?_)
    have lp_23 : ∀ (n : Nat) (x_17 : Int32) (f_19 : Nat → Int32) (g_20 : Nat → Int64) (H : Heap) (locs : List Loc) (ls : Array Slot), (0 ≤ x_17.toInt ∧ x_17.toInt ≤ 200) → (x25.toInt ≤ x_17.toInt ∧ x_17.toInt ≤ x25.toInt + x27.toInt) → (MOK f0 f_19 (u_2.2.1 1) (u_2.2.1 2) (u_2.2.1 3) x10.toInt x9.toInt x_17.toInt (x25.toInt + x27.toInt - x_17.toInt)) → (x_17.toInt).toNat < n → va_P D gcl (zS_13 cB cC cI cJ a0 a1 x0 x1 x2 x3 x4 x5 x6 x7 a2 a3 a4 a5 a6 a7 a8 a9 a10 a11 a12 a13 a14 a15 a16 x8 x9 x10 x11 x12 x13 a17 a18 a19 x14 a20 x15 a21 x16 x17 a22 a23 a24 a25 x18 a26 x19 a27 a28 a29 y0 a30 a31 a32 a33 a34 a35 a36 a37 a38 x_17 (u_2.2.2.2.1 1) 0 y1 a39 x23 a40 a41 a42 a43 x24 x25 x26 x27 a18 f0 a27 f_19 a36 (u_2.2.1 1) a37 (u_2.2.1 2) a38 (u_2.2.1 3) a35 g_20) H → va_D A (zS_13 cB cC cI cJ a0 a1 x0 x1 x2 x3 x4 x5 x6 x7 a2 a3 a4 a5 a6 a7 a8 a9 a10 a11 a12 a13 a14 a15 a16 x8 x9 x10 x11 x12 x13 a17 a18 a19 x14 a20 x15 a21 x16 x17 a22 a23 a24 a25 x18 a26 x19 a27 a28 a29 y0 a30 a31 a32 a33 a34 a35 a36 a37 a38 x_17 (u_2.2.2.2.1 1) 0 y1 a39 x23 a40 a41 a42 a43 x24 x25 x26 x27 a18 f0 a27 f_19 a36 (u_2.2.1 1) a37 (u_2.2.1 2) a38 (u_2.2.1 3) a35 g_20) → va_S A s.heap H locs → lv_has ls 3 [(2, .int r_3), (1, .int x_1), (0, .ref a0)] → W p l e ({ frames := 3, cells := 0, slots := 0, locals := 70 }) s m args below meth c H locs 0 0 Q (F0 m 16 ls []) := by
      intro n
      induction n with
      | zero => intro x_17 f_19 g_20 H locs ls hi_18 hi_21 hi_22 hmu; exact absurd hmu (Nat.not_lt_zero _)
      | succ n ih_lp_23 =>
        intro x_17 f_19 g_20 H locs ls hi_18 hi_21 hi_22 hmu_lp_23 hP hD hS hl
        refine lv_aload_n (pc := 16) hx hb dX12_takesBack_16 rfl (lv_at hl 2 rfl) ?_
        refine va_get (pc := 17) (ci := 12) (v := .int x_17) (C := RX12) (T := TX12) (N := 73) hx hb hts iX12 hown hK hP 0 rfl rfl 59 (by decide) (hts _ tw_1460) (fun _ h9 => h9) rfl dX12_takesBack_17 ?_
        refine lv_aload_n (pc := 20) hx hb dX12_takesBack_20 rfl (lv_at hl 2 rfl) ?_
        refine va_get (pc := 21) (ci := 12) (v := .int x25) (C := RX12) (T := TX12) (N := 73) hx hb hts iX12 hown hK hP 0 rfl rfl 70 (by decide) (hts _ tw_1471) (fun _ h9 => h9) rfl dX12_takesBack_21 ?_
        refine b_icmp_le (pc := 24) (tgt := 72) hx hb rfl rfl  dX12_takesBack_24 (by decide) (fun c_24 => ?_) (fun c_24 => ?_)
        ·
          as_aux_lemma =>
            refine lv_aload_n (pc := 72) hx hb dX12_takesBack_72 rfl (lv_at hl 2 rfl) ?_
            refine lv_aload_n (pc := 73) hx hb dX12_takesBack_73 rfl (lv_at hl 2 rfl) ?_
            refine va_get (pc := 74) (ci := 12) (v := .int x26) (C := RX12) (T := TX12) (N := 73) hx hb hts iX12 hown hK hP 0 rfl rfl 71 (by decide) (hts _ tw_1472) (fun _ h9 => h9) rfl dX12_takesBack_74 ?_
            have bd_h_x26 : 0 ≤ x26.toInt ∧ x26.toInt ≤ 40 := h_x26
            refine va_put (pc := 77) (ci := 12) (v := .int x26) (ty := .int) (C := RX12) (T := TX12) (N := 73) hx hb hts iX12 tyX12 tyX12_ok nmX12 hown hK hP hD hS 0 rfl rfl 60 (by decide) (hts _ tw_1461) (fun _ h9 => h9) rfl (by decide +kernel) rfl rfl (Nat.le_of_ble_eq_true rfl) dX12_takesBack_77 (fun H locs hP hD hS => ?_)
            replace hP : va_P D gcl (zS_13 cB cC cI cJ a0 a1 x0 x1 x2 x3 x4 x5 x6 x7 a2 a3 a4 a5 a6 a7 a8 a9 a10 a11 a12 a13 a14 a15 a16 x8 x9 x10 x11 x12 x13 a17 a18 a19 x14 a20 x15 a21 x16 x17 a22 a23 a24 a25 x18 a26 x19 a27 a28 a29 y0 a30 a31 a32 a33 a34 a35 a36 a37 a38 x_17 x26 0 y1 a39 x23 a40 a41 a42 a43 x24 x25 x26 x27 a18 f0 a27 f_19 a36 (u_2.2.1 1) a37 (u_2.2.1 2) a38 (u_2.2.1 3) a35 g_20) H := hP
            replace hD : va_D A (zS_13 cB cC cI cJ a0 a1 x0 x1 x2 x3 x4 x5 x6 x7 a2 a3 a4 a5 a6 a7 a8 a9 a10 a11 a12 a13 a14 a15 a16 x8 x9 x10 x11 x12 x13 a17 a18 a19 x14 a20 x15 a21 x16 x17 a22 a23 a24 a25 x18 a26 x19 a27 a28 a29 y0 a30 a31 a32 a33 a34 a35 a36 a37 a38 x_17 x26 0 y1 a39 x23 a40 a41 a42 a43 x24 x25 x26 x27 a18 f0 a27 f_19 a36 (u_2.2.1 1) a37 (u_2.2.1 2) a38 (u_2.2.1 3) a35 g_20) := hD
            refine lv_aload_n (pc := 80) hx hb dX12_takesBack_80 rfl (lv_at hl 2 rfl) ?_
            refine lv_aload_n (pc := 81) hx hb dX12_takesBack_81 rfl (lv_at hl 2 rfl) ?_
            refine va_get (pc := 82) (ci := 12) (v := .int x27) (C := RX12) (T := TX12) (N := 73) hx hb hts iX12 hown hK hP 0 rfl rfl 72 (by decide) (hts _ tw_1473) (fun _ h9 => h9) rfl dX12_takesBack_82 ?_
            refine va_put (pc := 85) (ci := 12) (v := .int x27) (ty := .int) (C := RX12) (T := TX12) (N := 73) hx hb hts iX12 tyX12 tyX12_ok nmX12 hown hK hP hD hS 0 rfl rfl 61 (by decide) (hts _ tw_1462) (fun _ h9 => h9) rfl (by decide +kernel) rfl rfl (Nat.le_of_ble_eq_true rfl) dX12_takesBack_85 (fun H locs hP hD hS => ?_)
            replace hP : va_P D gcl (zS_13 cB cC cI cJ a0 a1 x0 x1 x2 x3 x4 x5 x6 x7 a2 a3 a4 a5 a6 a7 a8 a9 a10 a11 a12 a13 a14 a15 a16 x8 x9 x10 x11 x12 x13 a17 a18 a19 x14 a20 x15 a21 x16 x17 a22 a23 a24 a25 x18 a26 x19 a27 a28 a29 y0 a30 a31 a32 a33 a34 a35 a36 a37 a38 x_17 x26 x27 y1 a39 x23 a40 a41 a42 a43 x24 x25 x26 x27 a18 f0 a27 f_19 a36 (u_2.2.1 1) a37 (u_2.2.1 2) a38 (u_2.2.1 3) a35 g_20) H := hP
            replace hD : va_D A (zS_13 cB cC cI cJ a0 a1 x0 x1 x2 x3 x4 x5 x6 x7 a2 a3 a4 a5 a6 a7 a8 a9 a10 a11 a12 a13 a14 a15 a16 x8 x9 x10 x11 x12 x13 a17 a18 a19 x14 a20 x15 a21 x16 x17 a22 a23 a24 a25 x18 a26 x19 a27 a28 a29 y0 a30 a31 a32 a33 a34 a35 a36 a37 a38 x_17 x26 x27 y1 a39 x23 a40 a41 a42 a43 x24 x25 x26 x27 a18 f0 a27 f_19 a36 (u_2.2.1 1) a37 (u_2.2.1 2) a38 (u_2.2.1 3) a35 g_20) := hD
            have hP9 : va_P D gcl (zS_13 cB cC cI cJ a0 a1 x0 x1 x2 x3 x4 x5 x6 x7 a2 a3 a4 a5 a6 a7 a8 a9 a10 a11 a12 a13 a14 a15 a16 x8 x9 x10 x11 x12 x13 a17 a18 a19 x14 a20 x15 a21 x16 x17 a22 a23 a24 a25 x18 a26 x19 a27 a28 a29 y0 a30 a31 a32 a33 a34 a35 a36 a37 a38 x_17 x26 x27 y1 a39 x23 a40 a41 a42 a43 x24 x25 x26 x27 a18 f0 a27 f_19 a36 (u_2.2.1 1) a37 (u_2.2.1 2) a38 (u_2.2.1 3) a35 g_20) H := g_psub hP [0, 1, 2, 3, 4, 5, 6] rfl
            have hD9 : va_D A (zS_13 cB cC cI cJ a0 a1 x0 x1 x2 x3 x4 x5 x6 x7 a2 a3 a4 a5 a6 a7 a8 a9 a10 a11 a12 a13 a14 a15 a16 x8 x9 x10 x11 x12 x13 a17 a18 a19 x14 a20 x15 a21 x16 x17 a22 a23 a24 a25 x18 a26 x19 a27 a28 a29 y0 a30 a31 a32 a33 a34 a35 a36 a37 a38 x_17 x26 x27 y1 a39 x23 a40 a41 a42 a43 x24 x25 x26 x27 a18 f0 a27 f_19 a36 (u_2.2.1 1) a37 (u_2.2.1 2) a38 (u_2.2.1 3) a35 g_20) := hD.sub [0, 1, 2, 3, 4, 5, 6] (by decide) rfl
            exact hret ((fun _ => 0), (fun k => [f_19, (u_2.2.1 1), (u_2.2.1 2), (u_2.2.1 3)].getD k (fun _ => 0)), (fun k => [g_20].getD k (fun _ => 0)), (fun k => [x_17].getD k 0), (fun _ => 0)) dX12_takesBack_88 ⟨(show (0 ≤ (x_17 : Int32).toInt ∧ (x_17 : Int32).toInt ≤ 200) from hi_18), (show (x26.toInt ≤ (x_17 : Int32).toInt) from (by first | exact (om_622 hi_21.1 hg__w.1) | ((first | omega | (unfold zBd at *; omega))))), (show ((x_17 : Int32).toInt + x27.toInt ≤ 200) from (by first | exact (om_1907 c_24 hg__w.2.1) | ((first | omega | (unfold zBd at *; omega))))), hw_10, hw_11, (show x26.toInt + x27.toInt ≤ 40 from (by first | exact (om_1908 hg__w.2.2) | ((first | omega | (unfold zBd at *; omega))))), (show MOK f0 f_19 (u_2.2.1 1) (u_2.2.1 2) (u_2.2.1 3) x10.toInt x9.toInt x_17.toInt x27.toInt from M_less hi_22 (by first | exact (om_1909 c_24) | ((first | omega | (unfold zBd at *; omega))))), (show x26.toInt = x26.toInt ∧ x27.toInt = x27.toInt ∧ x_17.toInt = x25.toInt from (by first | exact (om_1910 hi_21.1 c_24) | ((first | omega | (unfold zBd at *; omega)))))⟩ hP9 hD9 hS
        ·
          as_aux_lemma =>
            refine lv_aload_n (pc := 27) hx hb dX12_takesBack_27 rfl (lv_at hl 2 rfl) ?_
            refine lv_dup (pc := 28) hx hb dX12_takesBack_28 rfl ?_
            refine va_get (pc := 29) (ci := 12) (v := .int x_17) (C := RX12) (T := TX12) (N := 73) hx hb hts iX12 hown hK hP 0 rfl rfl 59 (by decide) (hts _ tw_1460) (fun _ h9 => h9) rfl dX12_takesBack_29 ?_
            refine lv_iconst (pc := 32) (v := 1) hx hb dX12_takesBack_32 (by decide) ?_
            refine b_isub (pc := 33) hx hb rfl tI_1 (by first | exact (om_659 hi_18.1) | ((first | omega | (unfold zBd at *; omega)))) (by first | exact (om_1714 hi_18.2) | ((first | omega | (unfold zBd at *; omega)))) dX12_takesBack_33 (fun x_25 ex_25 => ?_)
            refine va_put (pc := 34) (ci := 12) (v := .int x_25) (ty := .int) (C := RX12) (T := TX12) (N := 73) hx hb hts iX12 tyX12 tyX12_ok nmX12 hown hK hP hD hS 0 rfl rfl 59 (by decide) (hts _ tw_1460) (fun _ h9 => h9) rfl (by decide +kernel) rfl rfl (Nat.le_of_ble_eq_true rfl) dX12_takesBack_34 (fun H locs hP hD hS => ?_)
            replace hP : va_P D gcl (zS_13 cB cC cI cJ a0 a1 x0 x1 x2 x3 x4 x5 x6 x7 a2 a3 a4 a5 a6 a7 a8 a9 a10 a11 a12 a13 a14 a15 a16 x8 x9 x10 x11 x12 x13 a17 a18 a19 x14 a20 x15 a21 x16 x17 a22 a23 a24 a25 x18 a26 x19 a27 a28 a29 y0 a30 a31 a32 a33 a34 a35 a36 a37 a38 x_25 (u_2.2.2.2.1 1) 0 y1 a39 x23 a40 a41 a42 a43 x24 x25 x26 x27 a18 f0 a27 f_19 a36 (u_2.2.1 1) a37 (u_2.2.1 2) a38 (u_2.2.1 3) a35 g_20) H := hP
            replace hD : va_D A (zS_13 cB cC cI cJ a0 a1 x0 x1 x2 x3 x4 x5 x6 x7 a2 a3 a4 a5 a6 a7 a8 a9 a10 a11 a12 a13 a14 a15 a16 x8 x9 x10 x11 x12 x13 a17 a18 a19 x14 a20 x15 a21 x16 x17 a22 a23 a24 a25 x18 a26 x19 a27 a28 a29 y0 a30 a31 a32 a33 a34 a35 a36 a37 a38 x_25 (u_2.2.2.2.1 1) 0 y1 a39 x23 a40 a41 a42 a43 x24 x25 x26 x27 a18 f0 a27 f_19 a36 (u_2.2.1 1) a37 (u_2.2.1 2) a38 (u_2.2.1 3) a35 g_20) := hD
            refine lv_aload_n (pc := 37) hx hb dX12_takesBack_37 rfl (lv_at hl 2 rfl) ?_
            refine lv_aload_n (pc := 38) hx hb dX12_takesBack_38 rfl (lv_at hl 2 rfl) ?_
            refine va_get (pc := 39) (ci := 12) (v := .ref a36) (C := RX12) (T := TX12) (N := 73) hx hb hts iX12 hown hK hP 0 rfl rfl 56 (by decide) (hts _ tw_1457) (fun _ h9 => h9) rfl dX12_takesBack_39 ?_
            refine lv_aload_n (pc := 42) hx hb dX12_takesBack_42 rfl (lv_at hl 2 rfl) ?_
            as_aux_lemma =>
              refine va_get (pc := 43) (ci := 12) (v := .int x_25) (C := RX12) (T := TX12) (N := 73) hx hb hts iX12 hown hK hP 0 rfl rfl 59 (by decide) (hts _ tw_1460) (fun _ h9 => h9) rfl dX12_takesBack_43 ?_
              refine va_iald (pc := 46) hx hb hK hP 3 2 rfl rfl (n_in rfl (by first | exact (om_684 ex_25 c_24 h_x25.1) | ((first | omega | (unfold zBd at *; omega)))) (by first | exact (om_1716 ex_25 hi_18.2) | ((first | omega | (unfold zBd at *; omega))))) dX12_takesBack_46 ?_
              refine lv_topi (fun x_26 ex_26 => ?_)
              have rx_26 : (0 ≤ x_26.toInt ∧ x_26.toInt ≤ 4) := by rw [ex_26]; exact hw_10 _
              replace ex_26 : x_26 = (u_2.2.1 1) (x_25.toInt).toNat := ex_26
              have tx_26 := congrArg Int32.toInt ex_26
              refine lv_aload_n (pc := 47) hx hb dX12_takesBack_47 rfl (lv_at hl 2 rfl) ?_
              refine va_get (pc := 48) (ci := 12) (v := .ref a37) (C := RX12) (T := TX12) (N := 73) hx hb hts iX12 hown hK hP 0 rfl rfl 57 (by decide) (hts _ tw_1458) (fun _ h9 => h9) rfl dX12_takesBack_48 ?_
              refine lv_aload_n (pc := 51) hx hb dX12_takesBack_51 rfl (lv_at hl 2 rfl) ?_
              refine va_get (pc := 52) (ci := 12) (v := .int x_25) (C := RX12) (T := TX12) (N := 73) hx hb hts iX12 hown hK hP 0 rfl rfl 59 (by decide) (hts _ tw_1460) (fun _ h9 => h9) rfl dX12_takesBack_52 ?_
              refine va_iald (pc := 55) hx hb hK hP 4 2 rfl rfl (n_in rfl (by first | exact (om_684 ex_25 c_24 h_x25.1) | ((first | omega | (unfold zBd at *; omega)))) (by first | exact (om_1716 ex_25 hi_18.2) | ((first | omega | (unfold zBd at *; omega))))) dX12_takesBack_55 ?_
              refine lv_topi (fun x_27 ex_27 => ?_)
              have rx_27 : (0 ≤ x_27.toInt ∧ x_27.toInt ≤ 4) := by rw [ex_27]; exact hw_11 _
              replace ex_27 : x_27 = (u_2.2.1 2) (x_25.toInt).toNat := ex_27
              have tx_27 := congrArg Int32.toInt ex_27
              refine lv_aload_n (pc := 56) hx hb dX12_takesBack_56 rfl (lv_at hl 2 rfl) ?_
              as_aux_lemma =>
                refine va_get (pc := 57) (ci := 12) (v := .ref a38) (C := RX12) (T := TX12) (N := 73) hx hb hts iX12 hown hK hP 0 rfl rfl 58 (by decide) (hts _ tw_1459) (fun _ h9 => h9) rfl dX12_takesBack_57 ?_
                refine lv_aload_n (pc := 60) hx hb dX12_takesBack_60 rfl (lv_at hl 2 rfl) ?_
                refine va_get (pc := 61) (ci := 12) (v := .int x_25) (C := RX12) (T := TX12) (N := 73) hx hb hts iX12 hown hK hP 0 rfl rfl 59 (by decide) (hts _ tw_1460) (fun _ h9 => h9) rfl dX12_takesBack_61 ?_
                refine va_iald (pc := 64) hx hb hK hP 5 2 rfl rfl (n_in rfl (by first | exact (om_684 ex_25 c_24 h_x25.1) | ((first | omega | (unfold zBd at *; omega)))) (by first | exact (om_1716 ex_25 hi_18.2) | ((first | omega | (unfold zBd at *; omega))))) dX12_takesBack_64 ?_
                refine lv_topi (fun x_28 ex_28 => ?_)
                have rx_28 : zBd x_28.toInt (-2147483648) 2147483647 := n_rng x_28
                replace ex_28 : x_28 = (u_2.2.1 3) (x_25.toInt).toNat := ex_28
                have tx_28 := congrArg Int32.toInt ex_28
                refine lv_ineg (pc := 65) hx hb dX12_takesBack_65 ?_
                refine lv_topi (fun x_29 ex_29 => ?_)
                have rx_29 : zBd x_29.toInt (-2147483648) 2147483647 := n_rng x_29
                have hh_30 := M_at (k := x_25.toInt) hi_22 (by (first | omega | (unfold zBd at *; omega))) (by (first | omega | (unfold zBd at *; omega)))
                refine gd_v (pc := 66) (wc := (zS_122 cB cC cI cJ a0 a1 x0 x1 x2 x3 x4 x5 x6 x7 a2 a3 a4 a5 a6 a7 a8 a9 a10 a11 a12 a13 a14 a15 a16 x8 x9 x10 x11 x12 x13 a17 a18 a19 x14 a20 x15 a21 x16 x17 a22 a23 a24 a25 x18 a26 x19 a27 a28 a29 y0 a30 a31 a32 a33 a34 a35 a36 a37 a38 x_25 (u_2.2.2.2.1 1) 0 y1 a39 x23 a40 a41 a42 a43 x24 x25 x26 x27 a27 f_19 a35 g_20)) hP hD hS hA [0, 2, 6] rfl (by decide +kernel) (fun _ => by rfl) (fun hPc hDc => va_runV (As := [.int x_26, .int x_27, .int x_29]) (rest := []) ⟨hx, hb, hml, hown, hts⟩ (k_X12_goes_x l D cB cC cI cJ _ a0 a1 a2 a3 a4 a5 a6 a7 a8 a9 a10 a11 a12 a13 a14 a15 a16 a17 a18 a19 a20 a21 a22 a23 a24 a25 a26 a27 a28 a29 a30 a31 a32 a33 a34 a35 a36 a37 a38 a39 a40 a41 a42 a43 x_26 x_27 x_29 x0 x1 x2 x3 x4 x5 x6 x7 x8 x9 x10 x11 x12 x13 x14 x15 x16 x17 x18 x19 x_25 (u_2.2.2.2.1 1) 0 x23 x24 x25 x26 x27 y0 y1 f_19 g_20 rx_26 rx_27 h_x0 h_x1 h_x2 h_x3 h_x4 h_x5 h_x8 h_x9 h_x10 h_x11 h_x12 h_x14 h_x15 h_x16 h_x18 h_x19 (by first | exact (om_1911 ex_25 c_24 h_x25.1 hi_18.2) | (have k0 := tI_0; (first | omega | (unfold zBd at *; omega)))) hw_7 (n_c tI_0 (by decide)) h_x23 h_x24 h_x25 h_x26 h_x27 hr_a0_2 (by have k0 := tI_0; (first | omega | (unfold zBd at *; omega)))) ⟨gcwB hts tw_1938 tw_14 tw_1935 hd_yX12_goes ⟨Nat.le_of_ble_eq_true rfl, Nat.le_of_ble_eq_true rfl⟩, hts _ tw_1937, hts _ tp_107⟩ ⟨gblind, va_recv hK hPc (ci := 12) (q0 := 0) rfl rfl, (gpreS hPc hK hDc hN).2⟩ rfl rfl hl.1 rfl (lv_room (Nat.le_of_ble_eq_true rfl)) dX12_takesBack_66 ⟨Nat.le_of_ble_eq_true rfl, Nat.le_of_ble_eq_true rfl⟩) (fun u_31 H locs hw_33 hP hD hS => ?_)
                replace hP : va_P D gcl (zS_13 cB cC cI cJ a0 a1 x0 x1 x2 x3 x4 x5 x6 x7 a2 a3 a4 a5 a6 a7 a8 a9 a10 a11 a12 a13 a14 a15 a16 x8 x9 x10 x11 x12 x13 a17 a18 a19 x14 a20 x15 a21 x16 x17 a22 a23 a24 a25 x18 a26 x19 a27 a28 a29 y0 a30 a31 a32 a33 a34 a35 a36 a37 a38 x_25 (u_2.2.2.2.1 1) 0 y1 a39 x23 a40 a41 a42 a43 x24 x25 x26 x27 a18 f0 a27 (u_31.2.1 0) a36 (u_2.2.1 1) a37 (u_2.2.1 2) a38 (u_2.2.1 3) a35 (u_31.2.2.1 0)) H := hP
                replace hD : va_D A (zS_13 cB cC cI cJ a0 a1 x0 x1 x2 x3 x4 x5 x6 x7 a2 a3 a4 a5 a6 a7 a8 a9 a10 a11 a12 a13 a14 a15 a16 x8 x9 x10 x11 x12 x13 a17 a18 a19 x14 a20 x15 a21 x16 x17 a22 a23 a24 a25 x18 a26 x19 a27 a28 a29 y0 a30 a31 a32 a33 a34 a35 a36 a37 a38 x_25 (u_2.2.2.2.1 1) 0 y1 a39 x23 a40 a41 a42 a43 x24 x25 x26 x27 a18 f0 a27 (u_31.2.1 0) a36 (u_2.2.1 1) a37 (u_2.2.1 2) a38 (u_2.2.1 3) a35 (u_31.2.2.1 0)) := hD
                have hw_34 : (goQ f_19 (u_31.2.1 0) x_26.toInt x_27.toInt x_29 x10.toInt) := hw_33
                have kk0_r_32 := tI_0
                refine lv_goto (pc := 69) (tgt := 16) hx hb dX12_takesBack_69 (by decide) ?_
                exact ih_lp_23 x_25 (u_31.2.1 0) (u_31.2.2.1 0) _ _ ls (by first | exact (om_1911 ex_25 c_24 h_x25.1 hi_18.2) | ((first | omega | (unfold zBd at *; omega)))) (by first | exact (om_1912 ex_25 c_24 hi_21.2) | ((first | omega | (unfold zBd at *; omega)))) (M_undo hi_22 (by first | exact (om_685 c_24 h_x25.1) | ((first | omega | (unfold zBd at *; omega)))) (by first | exact (om_1913 hi_21.2) | ((first | omega | (unfold zBd at *; omega)))) (by first | exact (om_682 ex_25) | ((first | omega | (unfold zBd at *; omega)))) (by first | exact (om_1914 ex_25) | ((first | omega | (unfold zBd at *; omega)))) ex_26 ex_27 ex_28 ex_29 hw_34 (by first | exact (om_1726 h_x10.2) | ((first | omega | (unfold zBd at *; omega))))) (by (first | omega | (unfold zBd at *; omega))) hP hD hS (lv_sub hl [0, 1, 2] rfl)
    exact lp_23 _ (u_2.2.2.2.1 0) (u_2.2.1 0) (u_2.2.2.1 0) _ _ ls hw_6 (by have q := hw_14 _ hg_ch (by (first | omega | (unfold zBd at *; omega))) (by (first | omega | (unfold zBd at *; omega))); (first | omega | (unfold zBd at *; omega))) (M_less hw_13 (by have q := hw_14 _ hg_ch (by (first | omega | (unfold zBd at *; omega))) (by (first | omega | (unfold zBd at *; omega))); (first | omega | (unfold zBd at *; omega)))) (Nat.lt_succ_self _) hP hD hS (lv_sub hl [0, 1, 2] rfl)
theorem om_1915 {a b : Int} (h0 : (a = 2 * b)) (h1 : (0 ≤ b)) : (-2147483648 ≤ a + 2) := by omega
theorem om_1916 {a b : Int} (h0 : (a = 2 * b)) (h1 : (b ≤ 6)) : (a + 2 ≤ 2147483647) := by omega
theorem om_1917 {a b c d : Int} (h0 : (¬ a = c)) (h1 : (d = 2 * b)) (h2 : (c = d + 2)) : (¬ a = 2 * b + 2) := by omega
theorem om_1918 {a b c d e : Int} (h0 : (a = b - 1)) (h1 : (b = c)) (h2 : (c = d + 2)) (h3 : (d = 2 * e)) (h4 : (0 ≤ e)) : (0 ≤ a) := by omega
theorem om_1919 {a b c d e : Int} (h0 : (a = b - 1)) (h1 : (b = c)) (h2 : (c = d + 2)) (h3 : (d = 2 * e)) (h4 : (0 ≤ e)) (h5 : (b ≤ 1600)) : ((0 ≤ a ∧ a ≤ 1600)) := by omega
theorem om_1920 {a b : Int} (h0 : (a = b - 1)) (h1 : (b ≤ 1600)) : (a ≤ 1600) := by omega
theorem om_1921 {a b c d : Int} (h0 : (a = c)) (h1 : (d = 2 * b)) (h2 : (c = d + 2)) : (a = 2 * b + 2) := by omega
theorem om_1922 {a : Int} (h0 : (0 ≤ a)) : (-2147483648 ≤ a - 2) := by omega
theorem om_1923 {a : Int} (h0 : (a ≤ 1600)) : (a - 2 ≤ 2147483647) := by omega
theorem om_1924 {a b c d e : Int} (h0 : (a = b - 2)) (h1 : (b = c)) (h2 : (c = d + 2)) (h3 : (d = 2 * e)) (h4 : (0 ≤ e)) : (0 ≤ a) := by omega
theorem om_1925 {a b : Int} (h0 : (a = b - 2)) (h1 : (b ≤ 1600)) : (a < (1600 : Nat)) := by omega
theorem om_1926 {a b : Int} (h0 : (b = 0)) (h1 : (a ≤ 40)) : (a + b ≤ 40) := by omega
theorem om_1927 {a : Int} (h0 : (a ≤ 200)) : (a ≤ 200) := by omega
theorem om_1928 {a b c : Int} (h0 : (a = 0)) (h1 : ((b ≤ 40 ∧ c = b) ∨ (40 < b ∧ c = 40))) (h2 : (c ≤ 40)) (h3 : (c ≤ b)) : (a = 0 ∧ (b ≤ 40 ∧ c = b ∨ 40 < b ∧ c = 40)) := by omega
theorem om_1929 {a b c : Int} (h0 : (a ≤ b)) (h1 : (b + c ≤ 200)) (h2 : (a + c ≤ 40)) : (a ≤ b ∧ b + c ≤ 200 ∧ a + c ≤ 40) := by omega
theorem om_1930 {a b c d : Int} (h0 : (c = d)) : (a = a ∧ b = b ∧ c = d) := by omega
set_option maxHeartbeats 4000000 in
set_option maxRecDepth 100000 in
theorem k_X12_on (l : Launch) (D : va_G) (cB cC cI cJ : ClassId) (sz : Nat) (a0 a1 a2 a3 a4 a5 a6 a7 a8 a9 a10 a11 a12 a13 a14 a15 a16 a17 a18 a19 a20 a21 a22 a23 a24 a25 a26 a27 a28 a29 a30 a31 a32 a33 a34 a35 a36 a37 a38 a39 a40 a41 a42 a43 : Nat) (x0 x1 x2 x3 x4 x5 x6 x7 x8 x9 x10 x11 x12 x13 x14 x15 x16 x17 x18 x19 x20 x21 x22 x23 x24 x25 x26 x27 : Int32) (y0 y1 : Int64) (f0 f1 f2 f3 f4 f5 f6 : Nat → Int32) (g0 : Nat → Int64) (h_x0 : zBd x0.toInt 0 1600) (h_x1 : zBd x1.toInt 0 1600) (h_x2 : zBd x2.toInt 0 1600) (h_x3 : zBd x3.toInt (-1) 1600) (h_x4 : zBd x4.toInt 0 4) (h_x5 : zBd x5.toInt (-1) 1600) (h_x8 : zBd x8.toInt 0 8) (h_x9 : zBd x9.toInt 0 5) (h_x10 : zBd x10.toInt 0 6) (h_x11 : zBd x11.toInt 0 6) (h_x12 : zBd x12.toInt 0 16) (h_x14 : zBd x14.toInt 0 60) (h_x15 : zBd x15.toInt 0 1600) (h_x16 : zBd x16.toInt 0 1700) (h_x18 : zBd x18.toInt 0 1700) (h_x19 : zBd x19.toInt 0 1700) (h_x20 : zBd x20.toInt 0 200) (h_x21 : zBd x21.toInt 0 40) (h_x22 : zBd x22.toInt 0 40) (h_x23 : zBd x23.toInt 0 1) (h_x24 : zBd x24.toInt 0 14) (h_x25 : zBd x25.toInt 0 200) (h_x26 : zBd x26.toInt 0 40) (h_x27 : zBd x27.toInt 0 40) (hr_a0_0 : (x21.toInt ≤ x20.toInt)) (hr_a0_1 : (x20.toInt + x22.toInt ≤ 200)) (hr_a0_2 : (x9.toInt = 0 ∨ 2 ≤ x8.toInt)) (hf_f0 : (∀ j, (-9999) ≤ (f0 j).toInt ∧ (f0 j).toInt ≤ 9999)) (hf_f2 : (∀ j, 0 ≤ (f2 j).toInt ∧ (f2 j).toInt ≤ 4)) (hf_f3 : (∀ j, 0 ≤ (f3 j).toInt ∧ (f3 j).toInt ≤ 4)) (hf_f5 : (∀ j, 0 ≤ (f5 j).toInt ∧ (f5 j).toInt ≤ 255)) (hg__ur : x21.toInt + x22.toInt ≤ 40) (hg_mk : MOK f0 f1 f2 f3 f4 x10.toInt x9.toInt x20.toInt x22.toInt) (hf_f6 : (∀ j, (-1100000) ≤ (f6 j).toInt ∧ (f6 j).toInt ≤ 1100000)) : Met l yX12_on (.code yX12_on cX12_on 4 (some .boolean) :: lw_gd) ({ frames := 4, cells := 0, slots := 0, locals := 92 }) (gPre D [(cB, .byte), (cC, .char), (cI, .int), (cJ, .long)] [.ref a0] (zS_55 cB cC cI cJ a0 a1 x0 x1 x2 x3 x4 x5 x6 x7 a2 a3 a4 a5 a6 a7 a8 a9 a10 a11 a12 a13 a14 a15 a16 x8 x9 x10 x11 x12 x13 a17 a18 a19 x14 a20 x15 a21 x16 x17 a22 a23 a24 a25 x18 a26 x19 a27 a28 a29 y0 a30 a31 a32 a33 a34 a35 a36 a37 a38 x20 x21 x22 y1 a39 x23 a40 a41 a42 a43 x24 x25 x26 x27 a18 f0 a27 f1 a36 f2 a37 f3 a38 f4 a1 f5 a35 g0 a28 f6) sz) (va_Qi (fun r u => (0 ≤ r.toInt ∧ r.toInt ≤ 1) ∧ (0 ≤ (u.2.2.2.1 0).toInt ∧ (u.2.2.2.1 0).toInt ≤ 200) ∧ (0 ≤ (u.2.2.2.1 1).toInt ∧ (u.2.2.2.1 1).toInt ≤ 40) ∧ (0 ≤ (u.2.2.2.1 2).toInt ∧ (u.2.2.2.1 2).toInt ≤ 40) ∧ (0 ≤ (u.2.2.2.1 3).toInt ∧ (u.2.2.2.1 3).toInt ≤ 200) ∧ (0 ≤ (u.2.2.2.1 4).toInt ∧ (u.2.2.2.1 4).toInt ≤ 40) ∧ (0 ≤ (u.2.2.2.1 5).toInt ∧ (u.2.2.2.1 5).toInt ≤ 40) ∧ ((u.2.2.2.1 1).toInt ≤ (u.2.2.2.1 0).toInt) ∧ ((u.2.2.2.1 0).toInt + (u.2.2.2.1 2).toInt ≤ 200) ∧ (∀ j, 0 ≤ ((u.2.1 1) j).toInt ∧ ((u.2.1 1) j).toInt ≤ 4) ∧ (∀ j, 0 ≤ ((u.2.1 2) j).toInt ∧ ((u.2.1 2) j).toInt ≤ 4) ∧ (∀ j, (-1100000) ≤ ((u.2.1 4) j).toInt ∧ ((u.2.1 4) j).toInt ≤ 1100000) ∧ ((0 : Int32).toInt = 0) ∧ ((u.2.2.2.1 1).toInt + (u.2.2.2.1 2).toInt ≤ 40) ∧ (MOK f0 (u.2.1 0) (u.2.1 1) (u.2.1 2) (u.2.1 3) x10.toInt x9.toInt (u.2.2.2.1 0).toInt (u.2.2.2.1 2).toInt) ∧ (onQ9 r.toInt (tau f5 x0.toInt) x0.toInt x10.toInt (chP f0 x10.toInt x9.toInt) x21.toInt x22.toInt x20.toInt (u.2.2.2.1 1).toInt (u.2.2.2.1 2).toInt (u.2.2.2.1 0).toInt)) (gB D (va_A (zS_55 cB cC cI cJ a0 a1 x0 x1 x2 x3 x4 x5 x6 x7 a2 a3 a4 a5 a6 a7 a8 a9 a10 a11 a12 a13 a14 a15 a16 x8 x9 x10 x11 x12 x13 a17 a18 a19 x14 a20 x15 a21 x16 x17 a22 a23 a24 a25 x18 a26 x19 a27 a28 a29 y0 a30 a31 a32 a33 a34 a35 a36 a37 a38 x20 x21 x22 y1 a39 x23 a40 a41 a42 a43 x24 x25 x26 x27 a18 f0 a27 f1 a36 f2 a37 f3 a38 f4 a1 f5 a35 g0 a28 f6) sz) (fun u : gEx => (zS_55 cB cC cI cJ a0 a1 0 x1 x2 x3 x4 x5 x6 x7 a2 a3 a4 a5 a6 a7 a8 a9 a10 a11 a12 a13 a14 a15 a16 x8 x9 x10 x11 x12 x13 a17 a18 a19 x14 a20 x15 a21 x16 x17 a22 a23 a24 a25 x18 a26 x19 a27 a28 a29 y0 a30 a31 a32 a33 a34 a35 a36 a37 a38 (u.2.2.2.1 0) (u.2.2.2.1 1) (u.2.2.2.1 2) y1 a39 x23 a40 a41 a42 a43 x24 (u.2.2.2.1 3) (u.2.2.2.1 4) (u.2.2.2.1 5) a18 f0 a27 (u.2.1 0) a36 (u.2.1 1) a37 (u.2.1 2) a38 (u.2.1 3) a1 f5 a35 (u.2.2.1 0) a28 (u.2.1 4)))) (va_A (zS_55 cB cC cI cJ a0 a1 x0 x1 x2 x3 x4 x5 x6 x7 a2 a3 a4 a5 a6 a7 a8 a9 a10 a11 a12 a13 a14 a15 a16 x8 x9 x10 x11 x12 x13 a17 a18 a19 x14 a20 x15 a21 x16 x17 a22 a23 a24 a25 x18 a26 x19 a27 a28 a29 y0 a30 a31 a32 a33 a34 a35 a36 a37 a38 x20 x21 x22 y1 a39 x23 a40 a41 a42 a43 x24 x25 x26 x27 a18 f0 a27 f1 a36 f2 a37 f3 a38 f4 a1 f5 a35 g0 a28 f6) sz)) 0 0 (va_A (zS_55 cB cC cI cJ a0 a1 x0 x1 x2 x3 x4 x5 x6 x7 a2 a3 a4 a5 a6 a7 a8 a9 a10 a11 a12 a13 a14 a15 a16 x8 x9 x10 x11 x12 x13 a17 a18 a19 x14 a20 x15 a21 x16 x17 a22 a23 a24 a25 x18 a26 x19 a27 a28 a29 y0 a30 a31 a32 a33 a34 a35 a36 a37 a38 x20 x21 x22 y1 a39 x23 a40 a41 a42 a43 x24 x25 x26 x27 a18 f0 a27 f1 a36 f2 a37 f3 a38 f4 a1 f5 a35 g0 a28 f6) sz) := by
  refine gOf_z (by decide +kernel) (Nat.le_of_ble_eq_true rfl) ?_
  intro p e s m args below meth c ls A Q hx hb hts hown hml hN hK hP hD hA hl hret
  replace hown : s.vm.findClass RX12 = some m.cls := hown
  have hS : va_S A s.heap s.heap [] := va_S.rf
  replace hP : va_P D gcl (zS_55 cB cC cI cJ a0 a1 x0 x1 x2 x3 x4 x5 x6 x7 a2 a3 a4 a5 a6 a7 a8 a9 a10 a11 a12 a13 a14 a15 a16 x8 x9 x10 x11 x12 x13 a17 a18 a19 x14 a20 x15 a21 x16 x17 a22 a23 a24 a25 x18 a26 x19 a27 a28 a29 y0 a30 a31 a32 a33 a34 a35 a36 a37 a38 x20 x21 x22 y1 a39 x23 a40 a41 a42 a43 x24 x25 x26 x27 a18 f0 a27 f1 a36 f2 a37 f3 a38 f4 a1 f5 a35 g0 a28 f6) s.heap := hP
  replace hl : lv_has ls 4 [(0, .ref a0)] := hl
  have rx6 : zBd x6.toInt (-2147483648) 2147483647 := n_rng x6
  have rx7 : zBd x7.toInt (-2147483648) 2147483647 := n_rng x7
  have rx13 : zBd x13.toInt (-2147483648) 2147483647 := n_rng x13
  have rx17 : zBd x17.toInt (-2147483648) 2147483647 := n_rng x17
  have ry0 := n_rngL y0
  have ry1 := n_rngL y1
  refine lv_aload_n (pc := 0) hx hb dX12_on_0 rfl (lv_at hl 0 rfl) ?_
  refine va_get (pc := 1) (ci := 12) (v := .int x0) (C := RX12) (T := TX12) (N := 73) hx hb hts iX12 hown hK hP 0 rfl rfl 1 (by decide) (hts _ tw_1402) (fun _ h9 => h9) rfl dX12_on_1 ?_
  have bd_h_x0 : 0 ≤ x0.toInt ∧ x0.toInt ≤ 1600 := h_x0
  refine lv_istore_n (pc := 4) (lv' := [(1, .int x0), (0, .ref a0)]) hx hb dX12_on_4 rfl hl (by decide) rfl (fun ls hl => ?_)
  refine lv_aload_n (pc := 5) hx hb dX12_on_5 rfl (lv_at hl 1 rfl) ?_
  refine lv_iconst (pc := 6) (v := 0) hx hb dX12_on_6 (by decide) ?_
  refine va_put (pc := 7) (ci := 12) (v := .int 0) (ty := .int) (C := RX12) (T := TX12) (N := 73) hx hb hts iX12 tyX12 tyX12_ok nmX12 hown hK hP hD hS 0 rfl rfl 1 (by decide) (hts _ tw_1402) (fun _ h9 => h9) rfl (by decide +kernel) (by decide +kernel) (by decide +kernel) (Nat.le_of_ble_eq_true rfl) dX12_on_7 (fun H locs hP hD hS => ?_)
  replace hP : va_P D gcl (zS_55 cB cC cI cJ a0 a1 0 x1 x2 x3 x4 x5 x6 x7 a2 a3 a4 a5 a6 a7 a8 a9 a10 a11 a12 a13 a14 a15 a16 x8 x9 x10 x11 x12 x13 a17 a18 a19 x14 a20 x15 a21 x16 x17 a22 a23 a24 a25 x18 a26 x19 a27 a28 a29 y0 a30 a31 a32 a33 a34 a35 a36 a37 a38 x20 x21 x22 y1 a39 x23 a40 a41 a42 a43 x24 x25 x26 x27 a18 f0 a27 f1 a36 f2 a37 f3 a38 f4 a1 f5 a35 g0 a28 f6) H := hP
  replace hD : va_D A (zS_55 cB cC cI cJ a0 a1 0 x1 x2 x3 x4 x5 x6 x7 a2 a3 a4 a5 a6 a7 a8 a9 a10 a11 a12 a13 a14 a15 a16 x8 x9 x10 x11 x12 x13 a17 a18 a19 x14 a20 x15 a21 x16 x17 a22 a23 a24 a25 x18 a26 x19 a27 a28 a29 y0 a30 a31 a32 a33 a34 a35 a36 a37 a38 x20 x21 x22 y1 a39 x23 a40 a41 a42 a43 x24 x25 x26 x27 a18 f0 a27 f1 a36 f2 a37 f3 a38 f4 a1 f5 a35 g0 a28 f6) := hD
  refine lv_iload_n (pc := 10) hx hb dX12_on_10 rfl (lv_at hl 0 rfl) ?_
  refine lv_iconst (pc := 11) (v := 2) hx hb dX12_on_11 (by decide) ?_
  refine lv_aload_n (pc := 12) hx hb dX12_on_12 rfl (lv_at hl 1 rfl) ?_
  as_aux_lemma =>
    refine va_get (pc := 13) (ci := 12) (v := .int x10) (C := RX12) (T := TX12) (N := 73) hx hb hts iX12 hown hK hP 0 rfl rfl 26 (by decide) (hts _ tw_1427) (fun _ h9 => h9) rfl dX12_on_13 ?_
    have bd_h_x10 : 0 ≤ x10.toInt ∧ x10.toInt ≤ 6 := h_x10
    refine b_imul (pc := 16) hx hb tI_2 rfl (by first | exact (om_1336 h_x10.1) | ((first | omega | (unfold zBd at *; omega)))) (by first | exact (om_1339 h_x10.2) | ((first | omega | (unfold zBd at *; omega)))) dX12_on_16 (fun x_1 ex_1 => ?_)
    refine lv_iconst (pc := 17) (v := 2) hx hb dX12_on_17 (by decide) ?_
    refine b_iadd (pc := 18) hx hb rfl tI_2 (by first | exact (om_1915 ex_1 h_x10.1) | ((first | omega | (unfold zBd at *; omega)))) (by first | exact (om_1916 ex_1 h_x10.2) | ((first | omega | (unfold zBd at *; omega)))) dX12_on_18 (fun x_2 ex_2 => ?_)
    refine b_icmp_ne (pc := 19) (tgt := 43) hx hb rfl rfl  dX12_on_19 (by decide) (fun c_3 => ?_) (fun c_3 => ?_)
    ·
      as_aux_lemma =>
        refine lv_iconst (pc := 43) (v := 0) hx hb dX12_on_43 (by decide) ?_
        have hP9 : va_P D gcl (zS_55 cB cC cI cJ a0 a1 0 x1 x2 x3 x4 x5 x6 x7 a2 a3 a4 a5 a6 a7 a8 a9 a10 a11 a12 a13 a14 a15 a16 x8 x9 x10 x11 x12 x13 a17 a18 a19 x14 a20 x15 a21 x16 x17 a22 a23 a24 a25 x18 a26 x19 a27 a28 a29 y0 a30 a31 a32 a33 a34 a35 a36 a37 a38 x20 x21 x22 y1 a39 x23 a40 a41 a42 a43 x24 x25 x26 x27 a18 f0 a27 f1 a36 f2 a37 f3 a38 f4 a1 f5 a35 g0 a28 f6) H := g_psub hP [0, 1, 2, 3, 4, 5, 6, 7, 8] rfl
        have hD9 : va_D A (zS_55 cB cC cI cJ a0 a1 0 x1 x2 x3 x4 x5 x6 x7 a2 a3 a4 a5 a6 a7 a8 a9 a10 a11 a12 a13 a14 a15 a16 x8 x9 x10 x11 x12 x13 a17 a18 a19 x14 a20 x15 a21 x16 x17 a22 a23 a24 a25 x18 a26 x19 a27 a28 a29 y0 a30 a31 a32 a33 a34 a35 a36 a37 a38 x20 x21 x22 y1 a39 x23 a40 a41 a42 a43 x24 x25 x26 x27 a18 f0 a27 f1 a36 f2 a37 f3 a38 f4 a1 f5 a35 g0 a28 f6) := hD.sub [0, 1, 2, 3, 4, 5, 6, 7, 8] (by decide) rfl
        have k9 := tI_0
        have k8_0 := tI_0
        exact hret 0 ((fun _ => 0), (fun k => [f1, f2, f3, f4, f6].getD k (fun _ => 0)), (fun k => [g0].getD k (fun _ => 0)), (fun k => [x20, x21, x22, x25, x26, x27].getD k 0), (fun _ => 0)) dX12_on_44 ⟨(Or.inl tI_0), ⟨(show (0 ≤ (0 : Int32).toInt ∧ (0 : Int32).toInt ≤ 1) from (n_c tI_0 (by decide))), (show (0 ≤ (x20 : Int32).toInt ∧ (x20 : Int32).toInt ≤ 200) from h_x20), (show (0 ≤ (x21 : Int32).toInt ∧ (x21 : Int32).toInt ≤ 40) from h_x21), (show (0 ≤ (x22 : Int32).toInt ∧ (x22 : Int32).toInt ≤ 40) from h_x22), (show (0 ≤ (x25 : Int32).toInt ∧ (x25 : Int32).toInt ≤ 200) from h_x25), (show (0 ≤ (x26 : Int32).toInt ∧ (x26 : Int32).toInt ≤ 40) from h_x26), (show (0 ≤ (x27 : Int32).toInt ∧ (x27 : Int32).toInt ≤ 40) from h_x27), (show ((x21 : Int32).toInt ≤ (x20 : Int32).toInt) from hr_a0_0), (show ((x20 : Int32).toInt + (x22 : Int32).toInt ≤ 200) from hr_a0_1), hf_f2, hf_f3, hf_f6, (show (0 : Int32).toInt = 0 from (by first | exact (om_31 tI_0) | (have k9 := tI_0; have k8_0 := tI_0; (first | omega | (unfold zBd at *; omega))))), (show x21.toInt + x22.toInt ≤ 40 from hg__ur), (show MOK f0 f1 f2 f3 f4 x10.toInt x9.toInt x20.toInt x22.toInt from hg_mk), (show onQ9 (0 : Int32).toInt (tau f5 x0.toInt) x0.toInt x10.toInt (chP f0 x10.toInt x9.toInt) x21.toInt x22.toInt x20.toInt x21.toInt x22.toInt x20.toInt from on_img (by first | exact (om_31 tI_0) | ((first | omega | (unfold zBd at *; omega)))) (img_noN (by first | exact (om_1917 c_3 ex_1 ex_2) | ((first | omega | (unfold zBd at *; omega))))))⟩⟩ hP9 hD9 hS
    ·
      as_aux_lemma =>
        refine lv_aload_n (pc := 22) hx hb dX12_on_22 rfl (lv_at hl 1 rfl) ?_
        refine va_get (pc := 23) (ci := 12) (v := .ref a1) (C := RX12) (T := TX12) (N := 73) hx hb hts iX12 hown hK hP 0 rfl rfl 0 (by decide) (hts _ tw_1401) (fun _ h9 => h9) rfl dX12_on_23 ?_
        refine lv_iload_n (pc := 26) hx hb dX12_on_26 rfl (lv_at hl 0 rfl) ?_
        refine lv_iconst (pc := 27) (v := 1) hx hb dX12_on_27 (by decide) ?_
        refine b_isub (pc := 28) hx hb rfl tI_1 (by first | exact (om_659 h_x0.1) | ((first | omega | (unfold zBd at *; omega)))) (by first | exact (om_714 h_x0.2) | ((first | omega | (unfold zBd at *; omega)))) dX12_on_28 (fun x_4 ex_4 => ?_)
        refine va_iald (pc := 29) hx hb hK hP 6 2 rfl rfl (n_in rfl (by first | exact (om_1918 ex_4 c_3 ex_2 ex_1 h_x10.1) | ((first | omega | (unfold zBd at *; omega)))) (by first | exact (om_716 ex_4 h_x0.2) | ((first | omega | (unfold zBd at *; omega))))) dX12_on_29 ?_
        refine lv_topi (fun x_5 ex_5 => ?_)
        have rx_5 : (0 ≤ x_5.toInt ∧ x_5.toInt ≤ 255) := by rw [ex_5]; exact hf_f5 _
        replace ex_5 : x_5 = f5 (x_4.toInt).toNat := ex_5
        have tx_5 := congrArg Int32.toInt ex_5
        refine lv_aload_n (pc := 30) hx hb dX12_on_30 rfl (lv_at hl 1 rfl) ?_
        refine va_get (pc := 31) (ci := 12) (v := .ref a1) (C := RX12) (T := TX12) (N := 73) hx hb hts iX12 hown hK hP 0 rfl rfl 0 (by decide) (hts _ tw_1401) (fun _ h9 => h9) rfl dX12_on_31 ?_
        refine lv_iload_n (pc := 34) hx hb dX12_on_34 rfl (lv_at hl 0 rfl) ?_
        as_aux_lemma =>
          refine lv_iconst (pc := 35) (v := 1) hx hb dX12_on_35 (by decide) ?_
          refine b_isub (pc := 36) hx hb rfl tI_1 (by first | exact (om_659 h_x0.1) | ((first | omega | (unfold zBd at *; omega)))) (by first | exact (om_714 h_x0.2) | ((first | omega | (unfold zBd at *; omega)))) dX12_on_36 (fun x_6 ex_6 => ?_)
          refine gd_i (pc := 37) (wc := [(a1, .inl (cI, 1600, .inl f5))]) hP hD hS hA [6] rfl (by decide +kernel) (fun _ => by rfl) (fun hPc hDc => va_runS (As := [.ref a1, .int x_6]) (rest := [.int x_5]) ⟨hx, hb, hml, hown, hts⟩ (k_X12_checked_1600r0_255_E l D cB cC cI cJ _ a1 x_6 f5 (by first | exact (om_1919 ex_6 c_3 ex_2 ex_1 h_x10.1 h_x0.2) | ((first | omega | (unfold zBd at *; omega)))) hf_f5 (by first | exact (om_1920 ex_6 h_x0.2) | ((first | omega | (unfold zBd at *; omega))))) ⟨gcwB hts tw_2092 tw_14 tw_2090 hd_yX12_checked ⟨Nat.le_of_ble_eq_true rfl, Nat.le_of_ble_eq_true rfl⟩, hts _ tw_2091⟩ (gpreS hPc hK hDc hN) rfl rfl hl.1 rfl (lv_room (Nat.le_of_ble_eq_true rfl)) dX12_on_37 ⟨Nat.le_of_ble_eq_true rfl, Nat.le_of_ble_eq_true rfl⟩) (fun r_8 u_7 H locs hw_9 hP hD hS => ?_)
          replace hP : va_P D gcl (zS_55 cB cC cI cJ a0 a1 0 x1 x2 x3 x4 x5 x6 x7 a2 a3 a4 a5 a6 a7 a8 a9 a10 a11 a12 a13 a14 a15 a16 x8 x9 x10 x11 x12 x13 a17 a18 a19 x14 a20 x15 a21 x16 x17 a22 a23 a24 a25 x18 a26 x19 a27 a28 a29 y0 a30 a31 a32 a33 a34 a35 a36 a37 a38 x20 x21 x22 y1 a39 x23 a40 a41 a42 a43 x24 x25 x26 x27 a18 f0 a27 f1 a36 f2 a37 f3 a38 f4 a1 f5 a35 g0 a28 f6) H := hP
          replace hD : va_D A (zS_55 cB cC cI cJ a0 a1 0 x1 x2 x3 x4 x5 x6 x7 a2 a3 a4 a5 a6 a7 a8 a9 a10 a11 a12 a13 a14 a15 a16 x8 x9 x10 x11 x12 x13 a17 a18 a19 x14 a20 x15 a21 x16 x17 a22 a23 a24 a25 x18 a26 x19 a27 a28 a29 y0 a30 a31 a32 a33 a34 a35 a36 a37 a38 x20 x21 x22 y1 a39 x23 a40 a41 a42 a43 x24 x25 x26 x27 a18 f0 a27 f1 a36 f2 a37 f3 a38 f4 a1 f5 a35 g0 a28 f6) := hD
          obtain ⟨hw_10, hw_11⟩ := hw_9
          replace hw_10 : (0 ≤ r_8.toInt ∧ r_8.toInt ≤ 252) := hw_10
          replace hw_11 : (r_8.toInt = ckR f5 (x_6.toInt).toNat) := hw_11
          have rr_8 : zBd r_8.toInt (-2147483648) 2147483647 := n_rng r_8
          refine b_icmp_eq (pc := 40) (tgt := 45) hx hb rfl rfl  dX12_on_40 (by decide) (fun c_12 => ?_) (fun c_12 => ?_)
          ·
            as_aux_lemma =>
              have hh_13 : imgQ (tau f5 x0.toInt) x0.toInt x10.toInt := img_yesM (by first | exact (om_1921 c_3 ex_1 ex_2) | ((first | omega | (unfold zBd at *; omega)))) (by (first | omega | (unfold zBd at *; omega))) (by first | exact (om_682 ex_6) | ((first | omega | (unfold zBd at *; omega)))) (by (first | omega | (unfold zBd at *; omega))) (congrArg Int32.toInt ex_5) hw_11 (by (first | omega | (unfold zBd at *; omega)))
              refine lv_aload_n (pc := 45) hx hb dX12_on_45 rfl (lv_at hl 1 rfl) ?_
              refine lv_aload_n (pc := 46) hx hb dX12_on_46 rfl (lv_at hl 1 rfl) ?_
              refine va_get (pc := 47) (ci := 12) (v := .int x20) (C := RX12) (T := TX12) (N := 73) hx hb hts iX12 hown hK hP 0 rfl rfl 59 (by decide) (hts _ tw_1460) (fun _ h9 => h9) rfl dX12_on_47 ?_
              have bd_h_x20 : 0 ≤ x20.toInt ∧ x20.toInt ≤ 200 := h_x20
              refine va_put (pc := 50) (ci := 12) (v := .int x20) (ty := .int) (C := RX12) (T := TX12) (N := 73) hx hb hts iX12 tyX12 tyX12_ok nmX12 hown hK hP hD hS 0 rfl rfl 70 (by decide) (hts _ tw_1471) (fun _ h9 => h9) rfl (by decide +kernel) rfl rfl (Nat.le_of_ble_eq_true rfl) dX12_on_50 (fun H locs hP hD hS => ?_)
              replace hP : va_P D gcl (zS_55 cB cC cI cJ a0 a1 0 x1 x2 x3 x4 x5 x6 x7 a2 a3 a4 a5 a6 a7 a8 a9 a10 a11 a12 a13 a14 a15 a16 x8 x9 x10 x11 x12 x13 a17 a18 a19 x14 a20 x15 a21 x16 x17 a22 a23 a24 a25 x18 a26 x19 a27 a28 a29 y0 a30 a31 a32 a33 a34 a35 a36 a37 a38 x20 x21 x22 y1 a39 x23 a40 a41 a42 a43 x24 x20 x26 x27 a18 f0 a27 f1 a36 f2 a37 f3 a38 f4 a1 f5 a35 g0 a28 f6) H := hP
              replace hD : va_D A (zS_55 cB cC cI cJ a0 a1 0 x1 x2 x3 x4 x5 x6 x7 a2 a3 a4 a5 a6 a7 a8 a9 a10 a11 a12 a13 a14 a15 a16 x8 x9 x10 x11 x12 x13 a17 a18 a19 x14 a20 x15 a21 x16 x17 a22 a23 a24 a25 x18 a26 x19 a27 a28 a29 y0 a30 a31 a32 a33 a34 a35 a36 a37 a38 x20 x21 x22 y1 a39 x23 a40 a41 a42 a43 x24 x20 x26 x27 a18 f0 a27 f1 a36 f2 a37 f3 a38 f4 a1 f5 a35 g0 a28 f6) := hD
              refine lv_aload_n (pc := 53) hx hb dX12_on_53 rfl (lv_at hl 1 rfl) ?_
              refine lv_aload_n (pc := 54) hx hb dX12_on_54 rfl (lv_at hl 1 rfl) ?_
              refine va_get (pc := 55) (ci := 12) (v := .int x21) (C := RX12) (T := TX12) (N := 73) hx hb hts iX12 hown hK hP 0 rfl rfl 60 (by decide) (hts _ tw_1461) (fun _ h9 => h9) rfl dX12_on_55 ?_
              have bd_h_x21 : 0 ≤ x21.toInt ∧ x21.toInt ≤ 40 := h_x21
              refine va_put (pc := 58) (ci := 12) (v := .int x21) (ty := .int) (C := RX12) (T := TX12) (N := 73) hx hb hts iX12 tyX12 tyX12_ok nmX12 hown hK hP hD hS 0 rfl rfl 71 (by decide) (hts _ tw_1472) (fun _ h9 => h9) rfl (by decide +kernel) rfl rfl (Nat.le_of_ble_eq_true rfl) dX12_on_58 (fun H locs hP hD hS => ?_)
              replace hP : va_P D gcl (zS_55 cB cC cI cJ a0 a1 0 x1 x2 x3 x4 x5 x6 x7 a2 a3 a4 a5 a6 a7 a8 a9 a10 a11 a12 a13 a14 a15 a16 x8 x9 x10 x11 x12 x13 a17 a18 a19 x14 a20 x15 a21 x16 x17 a22 a23 a24 a25 x18 a26 x19 a27 a28 a29 y0 a30 a31 a32 a33 a34 a35 a36 a37 a38 x20 x21 x22 y1 a39 x23 a40 a41 a42 a43 x24 x20 x21 x27 a18 f0 a27 f1 a36 f2 a37 f3 a38 f4 a1 f5 a35 g0 a28 f6) H := hP
              replace hD : va_D A (zS_55 cB cC cI cJ a0 a1 0 x1 x2 x3 x4 x5 x6 x7 a2 a3 a4 a5 a6 a7 a8 a9 a10 a11 a12 a13 a14 a15 a16 x8 x9 x10 x11 x12 x13 a17 a18 a19 x14 a20 x15 a21 x16 x17 a22 a23 a24 a25 x18 a26 x19 a27 a28 a29 y0 a30 a31 a32 a33 a34 a35 a36 a37 a38 x20 x21 x22 y1 a39 x23 a40 a41 a42 a43 x24 x20 x21 x27 a18 f0 a27 f1 a36 f2 a37 f3 a38 f4 a1 f5 a35 g0 a28 f6) := hD
              refine lv_aload_n (pc := 61) hx hb dX12_on_61 rfl (lv_at hl 1 rfl) ?_
              refine lv_aload_n (pc := 62) hx hb dX12_on_62 rfl (lv_at hl 1 rfl) ?_
              as_aux_lemma =>
                refine va_get (pc := 63) (ci := 12) (v := .int x22) (C := RX12) (T := TX12) (N := 73) hx hb hts iX12 hown hK hP 0 rfl rfl 61 (by decide) (hts _ tw_1462) (fun _ h9 => h9) rfl dX12_on_63 ?_
                have bd_h_x22 : 0 ≤ x22.toInt ∧ x22.toInt ≤ 40 := h_x22
                refine va_put (pc := 66) (ci := 12) (v := .int x22) (ty := .int) (C := RX12) (T := TX12) (N := 73) hx hb hts iX12 tyX12 tyX12_ok nmX12 hown hK hP hD hS 0 rfl rfl 72 (by decide) (hts _ tw_1473) (fun _ h9 => h9) rfl (by decide +kernel) rfl rfl (Nat.le_of_ble_eq_true rfl) dX12_on_66 (fun H locs hP hD hS => ?_)
                replace hP : va_P D gcl (zS_55 cB cC cI cJ a0 a1 0 x1 x2 x3 x4 x5 x6 x7 a2 a3 a4 a5 a6 a7 a8 a9 a10 a11 a12 a13 a14 a15 a16 x8 x9 x10 x11 x12 x13 a17 a18 a19 x14 a20 x15 a21 x16 x17 a22 a23 a24 a25 x18 a26 x19 a27 a28 a29 y0 a30 a31 a32 a33 a34 a35 a36 a37 a38 x20 x21 x22 y1 a39 x23 a40 a41 a42 a43 x24 x20 x21 x22 a18 f0 a27 f1 a36 f2 a37 f3 a38 f4 a1 f5 a35 g0 a28 f6) H := hP
                replace hD : va_D A (zS_55 cB cC cI cJ a0 a1 0 x1 x2 x3 x4 x5 x6 x7 a2 a3 a4 a5 a6 a7 a8 a9 a10 a11 a12 a13 a14 a15 a16 x8 x9 x10 x11 x12 x13 a17 a18 a19 x14 a20 x15 a21 x16 x17 a22 a23 a24 a25 x18 a26 x19 a27 a28 a29 y0 a30 a31 a32 a33 a34 a35 a36 a37 a38 x20 x21 x22 y1 a39 x23 a40 a41 a42 a43 x24 x20 x21 x22 a18 f0 a27 f1 a36 f2 a37 f3 a38 f4 a1 f5 a35 g0 a28 f6) := hD
                refine lv_aload_n (pc := 69) hx hb dX12_on_69 rfl (lv_at hl 1 rfl) ?_
                refine lv_aload_n (pc := 70) hx hb dX12_on_70 rfl (lv_at hl 1 rfl) ?_
                refine va_get (pc := 71) (ci := 12) (v := .ref a1) (C := RX12) (T := TX12) (N := 73) hx hb hts iX12 hown hK hP 0 rfl rfl 0 (by decide) (hts _ tw_1401) (fun _ h9 => h9) rfl dX12_on_71 ?_
                refine lv_iload_n (pc := 74) hx hb dX12_on_74 rfl (lv_at hl 0 rfl) ?_
                refine lv_iconst (pc := 75) (v := 2) hx hb dX12_on_75 (by decide) ?_
                refine b_isub (pc := 76) hx hb rfl tI_2 (by first | exact (om_1922 h_x0.1) | ((first | omega | (unfold zBd at *; omega)))) (by first | exact (om_1923 h_x0.2) | ((first | omega | (unfold zBd at *; omega)))) dX12_on_76 (fun x_14 ex_14 => ?_)
                refine va_iald (pc := 77) hx hb hK hP 6 2 rfl rfl (n_in rfl (by first | exact (om_1924 ex_14 c_3 ex_2 ex_1 h_x10.1) | ((first | omega | (unfold zBd at *; omega)))) (by first | exact (om_1925 ex_14 h_x0.2) | ((first | omega | (unfold zBd at *; omega))))) dX12_on_77 ?_
                refine lv_topi (fun x_15 ex_15 => ?_)
                have rx_15 : (0 ≤ x_15.toInt ∧ x_15.toInt ≤ 255) := by rw [ex_15]; exact hf_f5 _
                replace ex_15 : x_15 = f5 (x_14.toInt).toNat := ex_15
                have tx_15 := congrArg Int32.toInt ex_15
                as_aux_lemma =>
                  refine gd_i (pc := 78) (wc := (zS_13 cB cC cI cJ a0 a1 0 x1 x2 x3 x4 x5 x6 x7 a2 a3 a4 a5 a6 a7 a8 a9 a10 a11 a12 a13 a14 a15 a16 x8 x9 x10 x11 x12 x13 a17 a18 a19 x14 a20 x15 a21 x16 x17 a22 a23 a24 a25 x18 a26 x19 a27 a28 a29 y0 a30 a31 a32 a33 a34 a35 a36 a37 a38 x20 x21 x22 y1 a39 x23 a40 a41 a42 a43 x24 x20 x21 x22 a18 f0 a27 f1 a36 f2 a37 f3 a38 f4 a35 g0)) hP hD hS hA [0, 1, 2, 3, 4, 5, 7] rfl (by decide +kernel) (fun _ => by rfl) (fun hPc hDc => va_runV (As := [.int x_15]) (rest := []) ⟨hx, hb, hml, hown, hts⟩ (k_X12_canLead l D cB cC cI cJ _ a0 a1 a2 a3 a4 a5 a6 a7 a8 a9 a10 a11 a12 a13 a14 a15 a16 a17 a18 a19 a20 a21 a22 a23 a24 a25 a26 a27 a28 a29 a30 a31 a32 a33 a34 a35 a36 a37 a38 a39 a40 a41 a42 a43 x_15 0 x1 x2 x3 x4 x5 x6 x7 x8 x9 x10 x11 x12 x13 x14 x15 x16 x17 x18 x19 x20 x21 x22 x23 x24 x20 x21 x22 y0 y1 f0 f1 f2 f3 f4 g0 rx_15 (n_c tI_0 (by decide)) h_x1 h_x2 h_x3 h_x4 h_x5 h_x8 h_x9 h_x10 h_x11 h_x12 h_x14 h_x15 h_x16 h_x18 h_x19 h_x20 h_x21 h_x22 h_x23 h_x24 h_x20 h_x21 h_x22 hr_a0_0 hr_a0_1 hr_a0_2 hf_f0 hf_f2 hf_f3) ⟨gcwB hts tw_2104 tw_14 tw_2101 hd_yX12_canLead ⟨Nat.le_of_ble_eq_true rfl, Nat.le_of_ble_eq_true rfl⟩, hts _ tw_2103, hts _ tp_123⟩ ⟨gblind, va_recv hK hPc (ci := 12) (q0 := 0) rfl rfl, (gpreS hPc hK hDc hN).2⟩ rfl rfl hl.1 rfl (lv_room (Nat.le_of_ble_eq_true rfl)) dX12_on_78 ⟨Nat.le_of_ble_eq_true rfl, Nat.le_of_ble_eq_true rfl⟩) (fun r_17 u_16 H locs hw_18 hP hD hS => ?_)
                  replace hP : va_P D gcl (zS_55 cB cC cI cJ a0 a1 0 x1 x2 x3 x4 x5 x6 x7 a2 a3 a4 a5 a6 a7 a8 a9 a10 a11 a12 a13 a14 a15 a16 x8 x9 x10 x11 x12 x13 a17 a18 a19 x14 a20 x15 a21 x16 x17 a22 a23 a24 a25 x18 a26 x19 a27 a28 a29 y0 a30 a31 a32 a33 a34 a35 a36 a37 a38 (u_16.2.2.2.1 0) (u_16.2.2.2.1 1) 0 y1 a39 x23 a40 a41 a42 a43 x24 x20 x21 x22 a18 f0 a27 (u_16.2.1 0) a36 (u_16.2.1 1) a37 (u_16.2.1 2) a38 (u_16.2.1 3) a1 f5 a35 (u_16.2.2.1 0) a28 f6) H := hP
                  replace hD : va_D A (zS_55 cB cC cI cJ a0 a1 0 x1 x2 x3 x4 x5 x6 x7 a2 a3 a4 a5 a6 a7 a8 a9 a10 a11 a12 a13 a14 a15 a16 x8 x9 x10 x11 x12 x13 a17 a18 a19 x14 a20 x15 a21 x16 x17 a22 a23 a24 a25 x18 a26 x19 a27 a28 a29 y0 a30 a31 a32 a33 a34 a35 a36 a37 a38 (u_16.2.2.2.1 0) (u_16.2.2.2.1 1) 0 y1 a39 x23 a40 a41 a42 a43 x24 x20 x21 x22 a18 f0 a27 (u_16.2.1 0) a36 (u_16.2.1 1) a37 (u_16.2.1 2) a38 (u_16.2.1 3) a1 f5 a35 (u_16.2.2.1 0) a28 f6) := hD
                  obtain ⟨hw_19, hw_20, hw_21, hw_22, hw_23, hw_24, hw_25, hw_26, hw_27, hw_28, hw_29, hw_30⟩ := hw_18
                  replace hw_19 : (0 ≤ r_17.toInt ∧ r_17.toInt ≤ 1) := hw_19
                  replace hw_20 : zBd (u_16.2.2.2.1 0).toInt 0 200 := hw_20
                  replace hw_21 : zBd (u_16.2.2.2.1 1).toInt 0 40 := hw_21
                  replace hw_22 : ((u_16.2.2.2.1 1).toInt ≤ (u_16.2.2.2.1 0).toInt) := hw_22
                  replace hw_23 : ((u_16.2.2.2.1 0).toInt + (0 : Int32).toInt ≤ 200) := hw_23
                  replace hw_24 : (∀ j, 0 ≤ ((u_16.2.1 1) j).toInt ∧ ((u_16.2.1 1) j).toInt ≤ 4) := hw_24
                  replace hw_25 : (∀ j, 0 ≤ ((u_16.2.1 2) j).toInt ∧ ((u_16.2.1 2) j).toInt ≤ 4) := hw_25
                  replace hw_26 : ((u_16.2.2.2.1 0).toInt ≤ x_15.toInt) := hw_26
                  replace hw_27 : (MOK f0 (u_16.2.1 0) (u_16.2.1 1) (u_16.2.1 2) (u_16.2.1 3) x10.toInt x9.toInt (u_16.2.2.2.1 0).toInt 0) := hw_27
                  replace hw_28 : (∀ m9 : Int, CH f0 x10.toInt x9.toInt m9 → m9 ≤ x_15.toInt → m9 ≤ 200 → m9 ≤ (u_16.2.2.2.1 0).toInt) := hw_28
                  replace hw_29 : ((0 : Int32).toInt = 0 ∧ (((u_16.2.2.2.1 0).toInt ≤ 40 ∧ (u_16.2.2.2.1 1).toInt = (u_16.2.2.2.1 0).toInt) ∨ (40 < (u_16.2.2.2.1 0).toInt ∧ (u_16.2.2.2.1 1).toInt = 40))) := hw_29
                  replace hw_30 : ((r_17.toInt = 1 ∧ (u_16.2.2.2.1 0).toInt = x_15.toInt) ∨ (r_17.toInt = 0 ∧ (u_16.2.2.2.1 0).toInt < x_15.toInt)) := hw_30
                  have kk0_r_17 := tI_0
                  have rr_17 : zBd r_17.toInt (-2147483648) 2147483647 := n_rng r_17
                  refine b_if_ne (pc := 81) (tgt := 90) hx hb rfl  dX12_on_81 (by decide) (fun c_31 => ?_) (fun c_31 => ?_)
                  ·
                    as_aux_lemma =>
                      refine lv_iconst (pc := 90) (v := 0) hx hb dX12_on_90 (by decide) ?_
                      refine lv_istore_n (pc := 91) (lv' := [(2, .int 0), (1, .int x0), (0, .ref a0)]) hx hb dX12_on_91 rfl hl (by decide) rfl (fun ls hl => ?_)
                      have lp_36 : ∀ (n : Nat) (x_32 : Int32) (f_34 : Nat → Int32) (H : Heap) (locs : List Loc) (ls : Array Slot), (0 ≤ x_32.toInt ∧ x_32.toInt ≤ 2147483647) → (∀ j, (-1100000) ≤ (f_34 j).toInt ∧ (f_34 j).toInt ≤ 1100000) → (2147483647 - x_32.toInt).toNat < n → va_P D gcl (zS_55 cB cC cI cJ a0 a1 0 x1 x2 x3 x4 x5 x6 x7 a2 a3 a4 a5 a6 a7 a8 a9 a10 a11 a12 a13 a14 a15 a16 x8 x9 x10 x11 x12 x13 a17 a18 a19 x14 a20 x15 a21 x16 x17 a22 a23 a24 a25 x18 a26 x19 a27 a28 a29 y0 a30 a31 a32 a33 a34 a35 a36 a37 a38 (u_16.2.2.2.1 0) (u_16.2.2.2.1 1) 0 y1 a39 x23 a40 a41 a42 a43 x24 x20 x21 x22 a18 f0 a27 (u_16.2.1 0) a36 (u_16.2.1 1) a37 (u_16.2.1 2) a38 (u_16.2.1 3) a1 f5 a35 (u_16.2.2.1 0) a28 f_34) H → va_D A (zS_55 cB cC cI cJ a0 a1 0 x1 x2 x3 x4 x5 x6 x7 a2 a3 a4 a5 a6 a7 a8 a9 a10 a11 a12 a13 a14 a15 a16 x8 x9 x10 x11 x12 x13 a17 a18 a19 x14 a20 x15 a21 x16 x17 a22 a23 a24 a25 x18 a26 x19 a27 a28 a29 y0 a30 a31 a32 a33 a34 a35 a36 a37 a38 (u_16.2.2.2.1 0) (u_16.2.2.2.1 1) 0 y1 a39 x23 a40 a41 a42 a43 x24 x20 x21 x22 a18 f0 a27 (u_16.2.1 0) a36 (u_16.2.1 1) a37 (u_16.2.1 2) a38 (u_16.2.1 3) a1 f5 a35 (u_16.2.2.1 0) a28 f_34) → va_S A s.heap H locs → lv_has ls 4 [(2, .int x_32), (1, .int x0), (0, .ref a0)] → W p l e ({ frames := 4, cells := 0, slots := 0, locals := 92 }) s m args below meth c H locs 0 0 Q (F0 m 92 ls []) := by
                        intro n
                        induction n with
                        | zero => intro x_32 f_34 H locs ls hi_33 hi_35 hmu; exact absurd hmu (Nat.not_lt_zero _)
                        | succ n ih_lp_36 =>
                          intro x_32 f_34 H locs ls hi_33 hi_35 hmu_lp_36 hP hD hS hl
                          refine lv_iload_n (pc := 92) hx hb dX12_on_92 rfl (lv_at hl 0 rfl) ?_
                          refine lv_aload_n (pc := 93) hx hb dX12_on_93 rfl (lv_at hl 2 rfl) ?_
                          refine va_get (pc := 94) (ci := 12) (v := .int x10) (C := RX12) (T := TX12) (N := 73) hx hb hts iX12 hown hK hP 0 rfl rfl 26 (by decide) (hts _ tw_1427) (fun _ h9 => h9) rfl dX12_on_94 ?_
                          refine b_icmp_ge (pc := 97) (tgt := 152) hx hb rfl rfl  dX12_on_97 (by decide) (fun c_37 => ?_) (fun c_37 => ?_)
                          ·
                            as_aux_lemma =>
                              refine lv_iconst (pc := 152) (v := 1) hx hb dX12_on_152 (by decide) ?_
                              have hP9 : va_P D gcl (zS_55 cB cC cI cJ a0 a1 0 x1 x2 x3 x4 x5 x6 x7 a2 a3 a4 a5 a6 a7 a8 a9 a10 a11 a12 a13 a14 a15 a16 x8 x9 x10 x11 x12 x13 a17 a18 a19 x14 a20 x15 a21 x16 x17 a22 a23 a24 a25 x18 a26 x19 a27 a28 a29 y0 a30 a31 a32 a33 a34 a35 a36 a37 a38 (u_16.2.2.2.1 0) (u_16.2.2.2.1 1) 0 y1 a39 x23 a40 a41 a42 a43 x24 x20 x21 x22 a18 f0 a27 (u_16.2.1 0) a36 (u_16.2.1 1) a37 (u_16.2.1 2) a38 (u_16.2.1 3) a1 f5 a35 (u_16.2.2.1 0) a28 f_34) H := g_psub hP [0, 1, 2, 3, 4, 5, 6, 7, 8] rfl
                              have hD9 : va_D A (zS_55 cB cC cI cJ a0 a1 0 x1 x2 x3 x4 x5 x6 x7 a2 a3 a4 a5 a6 a7 a8 a9 a10 a11 a12 a13 a14 a15 a16 x8 x9 x10 x11 x12 x13 a17 a18 a19 x14 a20 x15 a21 x16 x17 a22 a23 a24 a25 x18 a26 x19 a27 a28 a29 y0 a30 a31 a32 a33 a34 a35 a36 a37 a38 (u_16.2.2.2.1 0) (u_16.2.2.2.1 1) 0 y1 a39 x23 a40 a41 a42 a43 x24 x20 x21 x22 a18 f0 a27 (u_16.2.1 0) a36 (u_16.2.1 1) a37 (u_16.2.1 2) a38 (u_16.2.1 3) a1 f5 a35 (u_16.2.2.1 0) a28 f_34) := hD.sub [0, 1, 2, 3, 4, 5, 6, 7, 8] (by decide) rfl
                              have k9 := tI_1
                              have k8_0 := tI_0
                              exact hret 1 ((fun _ => 0), (fun k => [(u_16.2.1 0), (u_16.2.1 1), (u_16.2.1 2), (u_16.2.1 3), f_34].getD k (fun _ => 0)), (fun k => [(u_16.2.2.1 0)].getD k (fun _ => 0)), (fun k => [(u_16.2.2.2.1 0), (u_16.2.2.2.1 1), 0, x20, x21, x22].getD k 0), (fun _ => 0)) dX12_on_153 ⟨(Or.inr tI_1), ⟨(show (0 ≤ (1 : Int32).toInt ∧ (1 : Int32).toInt ≤ 1) from (n_c tI_1 (by decide))), (show (0 ≤ ((u_16.2.2.2.1 0) : Int32).toInt ∧ ((u_16.2.2.2.1 0) : Int32).toInt ≤ 200) from hw_20), (show (0 ≤ ((u_16.2.2.2.1 1) : Int32).toInt ∧ ((u_16.2.2.2.1 1) : Int32).toInt ≤ 40) from hw_21), (show (0 ≤ (0 : Int32).toInt ∧ (0 : Int32).toInt ≤ 40) from (n_c tI_0 (by decide))), (show (0 ≤ (x20 : Int32).toInt ∧ (x20 : Int32).toInt ≤ 200) from h_x20), (show (0 ≤ (x21 : Int32).toInt ∧ (x21 : Int32).toInt ≤ 40) from h_x21), (show (0 ≤ (x22 : Int32).toInt ∧ (x22 : Int32).toInt ≤ 40) from h_x22), (show (((u_16.2.2.2.1 1) : Int32).toInt ≤ ((u_16.2.2.2.1 0) : Int32).toInt) from hw_22), (show (((u_16.2.2.2.1 0) : Int32).toInt + (0 : Int32).toInt ≤ 200) from hw_23), hw_24, hw_25, hi_35, (show (0 : Int32).toInt = 0 from (by first | exact (om_31 hw_29.1) | (have k9 := tI_1; have k8_0 := tI_0; (first | omega | (unfold zBd at *; omega))))), (show (u_16.2.2.2.1 1).toInt + (0 : Int32).toInt ≤ 40 from (by first | exact (om_1926 hw_29.1 hw_21.2) | (have k9 := tI_1; have k8_0 := tI_0; (first | omega | (unfold zBd at *; omega))))), (show MOK f0 (u_16.2.1 0) (u_16.2.1 1) (u_16.2.1 2) (u_16.2.1 3) x10.toInt x9.toInt (u_16.2.2.2.1 0).toInt (0 : Int32).toInt from M_less hw_27 (by first | exact (om_43 hw_29.1) | (have q := tI_0; (first | omega | (unfold zBd at *; omega))))), (show onQ9 (1 : Int32).toInt (tau f5 x0.toInt) x0.toInt x10.toInt (chP f0 x10.toInt x9.toInt) x21.toInt x22.toInt x20.toInt (u_16.2.2.2.1 1).toInt (0 : Int32).toInt (u_16.2.2.2.1 0).toInt from on_yesM (by first | exact (om_28 tI_1) | ((first | omega | (unfold zBd at *; omega)))) hh_13 (congrArg Int32.toInt ex_15) (by (first | omega | (unfold zBd at *; omega))) (by (first | omega | (unfold zBd at *; omega))) hw_27 rfl (by (first | omega | (unfold zBd at *; omega))) (by first | exact (om_1927 hw_20.2) | ((first | omega | (unfold zBd at *; omega)))) (by first | exact (om_1928 hw_29.1 hw_29.2 hw_21.2 hw_22) | ((first | omega | (unfold zBd at *; omega)))))⟩⟩ hP9 hD9 hS
                          ·
                            as_aux_lemma =>
                              refine lv_sipush (pc := 100) (v := 256) hx hb dX12_on_100 (by decide) ?_
                              refine lv_aload_n (pc := 103) hx hb dX12_on_103 rfl (lv_at hl 2 rfl) ?_
                              refine va_get (pc := 104) (ci := 12) (v := .ref a1) (C := RX12) (T := TX12) (N := 73) hx hb hts iX12 hown hK hP 0 rfl rfl 0 (by decide) (hts _ tw_1401) (fun _ h9 => h9) rfl dX12_on_104 ?_
                              refine lv_iconst (pc := 107) (v := 2) hx hb dX12_on_107 (by decide) ?_
                              refine lv_iload_n (pc := 108) hx hb dX12_on_108 rfl (lv_at hl 0 rfl) ?_
                              refine b_imul (pc := 109) hx hb tI_2 rfl (by first | exact (om_1336 hi_33.1) | ((first | omega | (unfold zBd at *; omega)))) (by first | exact (om_1337 c_37 h_x10.2) | ((first | omega | (unfold zBd at *; omega)))) dX12_on_109 (fun x_38 ex_38 => ?_)
                              refine va_iald (pc := 110) hx hb hK hP 6 2 rfl rfl (n_in rfl (by first | exact (om_1539 ex_38 hi_33.1) | ((first | omega | (unfold zBd at *; omega)))) (by first | exact (om_1540 ex_38 c_37 h_x10.2) | ((first | omega | (unfold zBd at *; omega))))) dX12_on_110 ?_
                              refine lv_topi (fun x_39 ex_39 => ?_)
                              have rx_39 : (0 ≤ x_39.toInt ∧ x_39.toInt ≤ 255) := by rw [ex_39]; exact hf_f5 _
                              replace ex_39 : x_39 = f5 (x_38.toInt).toNat := ex_39
                              have tx_39 := congrArg Int32.toInt ex_39
                              refine b_imul (pc := 111) hx hb tI_256 rfl (by first | exact (om_1541 rx_39.1) | ((first | omega | (unfold zBd at *; omega)))) (by first | exact (om_1542 rx_39.2) | ((first | omega | (unfold zBd at *; omega)))) dX12_on_111 (fun x_40 ex_40 => ?_)
                              refine lv_aload_n (pc := 112) hx hb dX12_on_112 rfl (lv_at hl 2 rfl) ?_
                              as_aux_lemma =>
                                refine va_get (pc := 113) (ci := 12) (v := .ref a1) (C := RX12) (T := TX12) (N := 73) hx hb hts iX12 hown hK hP 0 rfl rfl 0 (by decide) (hts _ tw_1401) (fun _ h9 => h9) rfl dX12_on_113 ?_
                                refine lv_iconst (pc := 116) (v := 2) hx hb dX12_on_116 (by decide) ?_
                                refine lv_iload_n (pc := 117) hx hb dX12_on_117 rfl (lv_at hl 0 rfl) ?_
                                refine b_imul (pc := 118) hx hb tI_2 rfl (by first | exact (om_1336 hi_33.1) | ((first | omega | (unfold zBd at *; omega)))) (by first | exact (om_1337 c_37 h_x10.2) | ((first | omega | (unfold zBd at *; omega)))) dX12_on_118 (fun x_41 ex_41 => ?_)
                                refine lv_iconst (pc := 119) (v := 1) hx hb dX12_on_119 (by decide) ?_
                                refine b_iadd (pc := 120) hx hb rfl tI_1 (by first | exact (om_1543 ex_41 hi_33.1) | ((first | omega | (unfold zBd at *; omega)))) (by first | exact (om_1544 ex_41 c_37 h_x10.2) | ((first | omega | (unfold zBd at *; omega)))) dX12_on_120 (fun x_42 ex_42 => ?_)
                                refine va_iald (pc := 121) hx hb hK hP 6 2 rfl rfl (n_in rfl (by first | exact (om_1545 ex_42 ex_41 hi_33.1) | ((first | omega | (unfold zBd at *; omega)))) (by first | exact (om_1546 ex_42 ex_41 c_37 h_x10.2) | ((first | omega | (unfold zBd at *; omega))))) dX12_on_121 ?_
                                refine lv_topi (fun x_43 ex_43 => ?_)
                                have rx_43 : (0 ≤ x_43.toInt ∧ x_43.toInt ≤ 255) := by rw [ex_43]; exact hf_f5 _
                                replace ex_43 : x_43 = f5 (x_42.toInt).toNat := ex_43
                                have tx_43 := congrArg Int32.toInt ex_43
                                refine b_iadd (pc := 122) hx hb rfl rfl (by first | exact (om_1547 rx_43.1 ex_40 rx_39.1) | ((first | omega | (unfold zBd at *; omega)))) (by first | exact (om_1548 rx_43.2 ex_40 rx_39.2) | ((first | omega | (unfold zBd at *; omega)))) dX12_on_122 (fun x_44 ex_44 => ?_)
                                refine lv_istore_n (pc := 123) (lv' := [(3, .int x_44), (2, .int x_32), (1, .int x0), (0, .ref a0)]) hx hb dX12_on_123 rfl hl (by decide) rfl (fun ls hl => ?_)
                                as_aux_lemma =>
                                  refine lv_aload_n (pc := 124) hx hb dX12_on_124 rfl (lv_at hl 3 rfl) ?_
                                  refine va_get (pc := 125) (ci := 12) (v := .ref a28) (C := RX12) (T := TX12) (N := 73) hx hb hts iX12 hown hK hP 0 rfl rfl 47 (by decide) (hts _ tw_1448) (fun _ h9 => h9) rfl dX12_on_125 ?_
                                  refine lv_iload_n (pc := 128) hx hb dX12_on_128 rfl (lv_at hl 1 rfl) ?_
                                  refine lv_iload_n (pc := 129) hx hb dX12_on_129 rfl (lv_at hl 0 rfl) ?_
                                  refine lv_sipush (pc := 130) (v := 32767) hx hb dX12_on_130 (by decide) ?_
                                  refine b_icmp_le (pc := 133) (tgt := 144) hx hb rfl tI_32767  dX12_on_133 (by decide) (fun c_45 => ?_) (fun c_45 => ?_)
                                  ·
                                    as_aux_lemma =>
                                      refine lv_iload_n (pc := 144) hx hb dX12_on_144 rfl (lv_at hl 0 rfl) ?_
                                      refine h_iastore (pc := 145) hx hb hK hP hD hS 8 2 rfl rfl (n_in rfl (by first | exact (om_0 hi_33.1) | ((first | omega | (unfold zBd at *; omega)))) (by first | exact (om_1082 c_37 h_x10.2) | ((first | omega | (unfold zBd at *; omega))))) dX12_on_145 hi_35 (by first | exact (om_1549 ex_44 rx_43.1 ex_40 rx_39.1) | ((first | omega | (unfold zBd at *; omega)))) (by first | exact (om_1550 c_45) | ((first | omega | (unfold zBd at *; omega)))) (fun f_46 hf_46 H locs hP hD hS => ?_)
                                      replace hP : va_P D gcl (zS_55 cB cC cI cJ a0 a1 0 x1 x2 x3 x4 x5 x6 x7 a2 a3 a4 a5 a6 a7 a8 a9 a10 a11 a12 a13 a14 a15 a16 x8 x9 x10 x11 x12 x13 a17 a18 a19 x14 a20 x15 a21 x16 x17 a22 a23 a24 a25 x18 a26 x19 a27 a28 a29 y0 a30 a31 a32 a33 a34 a35 a36 a37 a38 (u_16.2.2.2.1 0) (u_16.2.2.2.1 1) 0 y1 a39 x23 a40 a41 a42 a43 x24 x20 x21 x22 a18 f0 a27 (u_16.2.1 0) a36 (u_16.2.1 1) a37 (u_16.2.1 2) a38 (u_16.2.1 3) a1 f5 a35 (u_16.2.2.1 0) a28 f_46) H := hP
                                      replace hD : va_D A (zS_55 cB cC cI cJ a0 a1 0 x1 x2 x3 x4 x5 x6 x7 a2 a3 a4 a5 a6 a7 a8 a9 a10 a11 a12 a13 a14 a15 a16 x8 x9 x10 x11 x12 x13 a17 a18 a19 x14 a20 x15 a21 x16 x17 a22 a23 a24 a25 x18 a26 x19 a27 a28 a29 y0 a30 a31 a32 a33 a34 a35 a36 a37 a38 (u_16.2.2.2.1 0) (u_16.2.2.2.1 1) 0 y1 a39 x23 a40 a41 a42 a43 x24 x20 x21 x22 a18 f0 a27 (u_16.2.1 0) a36 (u_16.2.1 1) a37 (u_16.2.1 2) a38 (u_16.2.1 3) a1 f5 a35 (u_16.2.2.1 0) a28 f_46) := hD
                                      refine b_iinc (pc := 146) hx hb dX12_on_146 hl (k := 1) rfl rfl tI_1 (by first | exact (om_2 hi_33.1) | ((first | omega | (unfold zBd at *; omega)))) (by first | exact (om_1084 c_37 h_x10.2) | ((first | omega | (unfold zBd at *; omega)))) (by decide) (fun x_47 ex_47 ls hl => ?_)
                                      replace hl : lv_has ls 4 [(2, .int x_47), (3, .int x_44), (1, .int x0), (0, .ref a0)] := hl
                                      refine lv_goto (pc := 149) (tgt := 92) hx hb dX12_on_149 (by decide) ?_
                                      exact ih_lp_36 x_47 f_46 _ _ ls (by first | exact (om_1085 ex_47 hi_33.1 c_37 h_x10.2) | ((first | omega | (unfold zBd at *; omega)))) hf_46 (by (first | omega | (unfold zBd at *; omega))) hP hD hS (lv_sub hl [0, 2, 3] rfl)
                                  ·
                                    as_aux_lemma =>
                                      refine lv_iload_n (pc := 136) hx hb dX12_on_136 rfl (lv_at hl 0 rfl) ?_
                                      refine lv_ldcw (pc := 137) hx hb hown (hts _ tw_1809) dX12_on_137 ?_
                                      refine b_isub (pc := 140) hx hb rfl tI_65536 (by first | exact (om_1551 c_45) | ((first | omega | (unfold zBd at *; omega)))) (by first | exact (om_1552 ex_44 rx_43.2 ex_40 rx_39.2) | ((first | omega | (unfold zBd at *; omega)))) dX12_on_140 (fun x_48 ex_48 => ?_)
                                      refine lv_goto (pc := 141) (tgt := 145) hx hb dX12_on_141 (by decide) ?_
                                      refine h_iastore (pc := 145) hx hb hK hP hD hS 8 2 rfl rfl (n_in rfl (by first | exact (om_0 hi_33.1) | ((first | omega | (unfold zBd at *; omega)))) (by first | exact (om_1082 c_37 h_x10.2) | ((first | omega | (unfold zBd at *; omega))))) dX12_on_145 hi_35 (by first | exact (om_1553 ex_48 c_45) | ((first | omega | (unfold zBd at *; omega)))) (by first | exact (om_1554 ex_48 ex_44 rx_43.2 ex_40 rx_39.2) | ((first | omega | (unfold zBd at *; omega)))) (fun f_49 hf_49 H locs hP hD hS => ?_)
                                      replace hP : va_P D gcl (zS_55 cB cC cI cJ a0 a1 0 x1 x2 x3 x4 x5 x6 x7 a2 a3 a4 a5 a6 a7 a8 a9 a10 a11 a12 a13 a14 a15 a16 x8 x9 x10 x11 x12 x13 a17 a18 a19 x14 a20 x15 a21 x16 x17 a22 a23 a24 a25 x18 a26 x19 a27 a28 a29 y0 a30 a31 a32 a33 a34 a35 a36 a37 a38 (u_16.2.2.2.1 0) (u_16.2.2.2.1 1) 0 y1 a39 x23 a40 a41 a42 a43 x24 x20 x21 x22 a18 f0 a27 (u_16.2.1 0) a36 (u_16.2.1 1) a37 (u_16.2.1 2) a38 (u_16.2.1 3) a1 f5 a35 (u_16.2.2.1 0) a28 f_49) H := hP
                                      replace hD : va_D A (zS_55 cB cC cI cJ a0 a1 0 x1 x2 x3 x4 x5 x6 x7 a2 a3 a4 a5 a6 a7 a8 a9 a10 a11 a12 a13 a14 a15 a16 x8 x9 x10 x11 x12 x13 a17 a18 a19 x14 a20 x15 a21 x16 x17 a22 a23 a24 a25 x18 a26 x19 a27 a28 a29 y0 a30 a31 a32 a33 a34 a35 a36 a37 a38 (u_16.2.2.2.1 0) (u_16.2.2.2.1 1) 0 y1 a39 x23 a40 a41 a42 a43 x24 x20 x21 x22 a18 f0 a27 (u_16.2.1 0) a36 (u_16.2.1 1) a37 (u_16.2.1 2) a38 (u_16.2.1 3) a1 f5 a35 (u_16.2.2.1 0) a28 f_49) := hD
                                      refine b_iinc (pc := 146) hx hb dX12_on_146 hl (k := 1) rfl rfl tI_1 (by first | exact (om_2 hi_33.1) | ((first | omega | (unfold zBd at *; omega)))) (by first | exact (om_1084 c_37 h_x10.2) | ((first | omega | (unfold zBd at *; omega)))) (by decide) (fun x_50 ex_50 ls hl => ?_)
                                      replace hl : lv_has ls 4 [(2, .int x_50), (3, .int x_44), (1, .int x0), (0, .ref a0)] := hl
                                      refine lv_goto (pc := 149) (tgt := 92) hx hb dX12_on_149 (by decide) ?_
                                      exact ih_lp_36 x_50 f_49 _ _ ls (by first | exact (om_1085 ex_50 hi_33.1 c_37 h_x10.2) | ((first | omega | (unfold zBd at *; omega)))) hf_49 (by (first | omega | (unfold zBd at *; omega))) hP hD hS (lv_sub hl [0, 2, 3] rfl)
                      exact lp_36 _ 0 f6 _ _ ls (n_c tI_0 (by decide)) hf_f6 (Nat.lt_succ_self _) hP hD hS (lv_sub hl [0, 1, 2] rfl)
                  ·
                    as_aux_lemma =>
                      refine lv_aload_n (pc := 84) hx hb dX12_on_84 rfl (lv_at hl 1 rfl) ?_
                      refine gd_v (pc := 85) (wc := (zS_13 cB cC cI cJ a0 a1 0 x1 x2 x3 x4 x5 x6 x7 a2 a3 a4 a5 a6 a7 a8 a9 a10 a11 a12 a13 a14 a15 a16 x8 x9 x10 x11 x12 x13 a17 a18 a19 x14 a20 x15 a21 x16 x17 a22 a23 a24 a25 x18 a26 x19 a27 a28 a29 y0 a30 a31 a32 a33 a34 a35 a36 a37 a38 (u_16.2.2.2.1 0) (u_16.2.2.2.1 1) 0 y1 a39 x23 a40 a41 a42 a43 x24 x20 x21 x22 a18 f0 a27 (u_16.2.1 0) a36 (u_16.2.1 1) a37 (u_16.2.1 2) a38 (u_16.2.1 3) a35 (u_16.2.2.1 0))) hP hD hS hA [0, 1, 2, 3, 4, 5, 7] rfl (by decide +kernel) (fun _ => by rfl) (fun hPc hDc => va_runV (As := []) (rest := []) ⟨hx, hb, hml, hown, hts⟩ (k_X12_takesBack l D cB cC cI cJ _ a0 a1 a2 a3 a4 a5 a6 a7 a8 a9 a10 a11 a12 a13 a14 a15 a16 a17 a18 a19 a20 a21 a22 a23 a24 a25 a26 a27 a28 a29 a30 a31 a32 a33 a34 a35 a36 a37 a38 a39 a40 a41 a42 a43 0 x1 x2 x3 x4 x5 x6 x7 x8 x9 x10 x11 x12 x13 x14 x15 x16 x17 x18 x19 (u_16.2.2.2.1 0) (u_16.2.2.2.1 1) 0 x23 x24 x20 x21 x22 y0 y1 f0 (u_16.2.1 0) (u_16.2.1 1) (u_16.2.1 2) (u_16.2.1 3) (u_16.2.2.1 0) (n_c tI_0 (by decide)) h_x1 h_x2 h_x3 h_x4 h_x5 h_x8 h_x9 h_x10 h_x11 h_x12 h_x14 h_x15 h_x16 h_x18 h_x19 hw_20 hw_21 (n_c tI_0 (by decide)) h_x23 h_x24 h_x20 h_x21 h_x22 hw_22 hw_23 hr_a0_2 hf_f0 hw_24 hw_25 (by first | exact (om_1929 hr_a0_0 hr_a0_1 hg__ur) | (have k0 := tI_0; have k1 := tI_0; (first | omega | (unfold zBd at *; omega)))) (M_CH hg_mk (by first | exact (om_692) | ((first | omega | (unfold zBd at *; omega)))))) ⟨gcwB hts tw_2108 tw_14 tw_2105 hd_yX12_takesBack ⟨Nat.le_of_ble_eq_true rfl, Nat.le_of_ble_eq_true rfl⟩, hts _ tw_2107, hts _ tp_124⟩ ⟨gblind, va_recv hK hPc (ci := 12) (q0 := 0) rfl rfl, (gpreS hPc hK hDc hN).2⟩ rfl rfl hl.1 rfl (lv_room (Nat.le_of_ble_eq_true rfl)) dX12_on_85 ⟨Nat.le_of_ble_eq_true rfl, Nat.le_of_ble_eq_true rfl⟩) (fun u_51 H locs hw_53 hP hD hS => ?_)
                      replace hP : va_P D gcl (zS_55 cB cC cI cJ a0 a1 0 x1 x2 x3 x4 x5 x6 x7 a2 a3 a4 a5 a6 a7 a8 a9 a10 a11 a12 a13 a14 a15 a16 x8 x9 x10 x11 x12 x13 a17 a18 a19 x14 a20 x15 a21 x16 x17 a22 a23 a24 a25 x18 a26 x19 a27 a28 a29 y0 a30 a31 a32 a33 a34 a35 a36 a37 a38 (u_51.2.2.2.1 0) x21 x22 y1 a39 x23 a40 a41 a42 a43 x24 x20 x21 x22 a18 f0 a27 (u_51.2.1 0) a36 (u_51.2.1 1) a37 (u_51.2.1 2) a38 (u_51.2.1 3) a1 f5 a35 (u_51.2.2.1 0) a28 f6) H := hP
                      replace hD : va_D A (zS_55 cB cC cI cJ a0 a1 0 x1 x2 x3 x4 x5 x6 x7 a2 a3 a4 a5 a6 a7 a8 a9 a10 a11 a12 a13 a14 a15 a16 x8 x9 x10 x11 x12 x13 a17 a18 a19 x14 a20 x15 a21 x16 x17 a22 a23 a24 a25 x18 a26 x19 a27 a28 a29 y0 a30 a31 a32 a33 a34 a35 a36 a37 a38 (u_51.2.2.2.1 0) x21 x22 y1 a39 x23 a40 a41 a42 a43 x24 x20 x21 x22 a18 f0 a27 (u_51.2.1 0) a36 (u_51.2.1 1) a37 (u_51.2.1 2) a38 (u_51.2.1 3) a1 f5 a35 (u_51.2.2.1 0) a28 f6) := hD
                      obtain ⟨hw_54, hw_55, hw_56, hw_57, hw_58, hw_59, hw_60, hw_61⟩ := hw_53
                      replace hw_54 : zBd (u_51.2.2.2.1 0).toInt 0 200 := hw_54
                      replace hw_55 : (x21.toInt ≤ (u_51.2.2.2.1 0).toInt) := hw_55
                      replace hw_56 : ((u_51.2.2.2.1 0).toInt + x22.toInt ≤ 200) := hw_56
                      replace hw_57 : (∀ j, 0 ≤ ((u_51.2.1 1) j).toInt ∧ ((u_51.2.1 1) j).toInt ≤ 4) := hw_57
                      replace hw_58 : (∀ j, 0 ≤ ((u_51.2.1 2) j).toInt ∧ ((u_51.2.1 2) j).toInt ≤ 4) := hw_58
                      replace hw_59 : (x21.toInt + x22.toInt ≤ 40) := hw_59
                      replace hw_60 : (MOK f0 (u_51.2.1 0) (u_51.2.1 1) (u_51.2.1 2) (u_51.2.1 3) x10.toInt x9.toInt (u_51.2.2.2.1 0).toInt x22.toInt) := hw_60
                      replace hw_61 : (x21.toInt = x21.toInt ∧ x22.toInt = x22.toInt ∧ (u_51.2.2.2.1 0).toInt = x20.toInt) := hw_61
                      have kk0_r_52 := tI_0
                      have kk1_r_52 := tI_0
                      refine lv_iconst (pc := 88) (v := 0) hx hb dX12_on_88 (by decide) ?_
                      have hP9 : va_P D gcl (zS_55 cB cC cI cJ a0 a1 0 x1 x2 x3 x4 x5 x6 x7 a2 a3 a4 a5 a6 a7 a8 a9 a10 a11 a12 a13 a14 a15 a16 x8 x9 x10 x11 x12 x13 a17 a18 a19 x14 a20 x15 a21 x16 x17 a22 a23 a24 a25 x18 a26 x19 a27 a28 a29 y0 a30 a31 a32 a33 a34 a35 a36 a37 a38 (u_51.2.2.2.1 0) x21 x22 y1 a39 x23 a40 a41 a42 a43 x24 x20 x21 x22 a18 f0 a27 (u_51.2.1 0) a36 (u_51.2.1 1) a37 (u_51.2.1 2) a38 (u_51.2.1 3) a1 f5 a35 (u_51.2.2.1 0) a28 f6) H := g_psub hP [0, 1, 2, 3, 4, 5, 6, 7, 8] rfl
                      have hD9 : va_D A (zS_55 cB cC cI cJ a0 a1 0 x1 x2 x3 x4 x5 x6 x7 a2 a3 a4 a5 a6 a7 a8 a9 a10 a11 a12 a13 a14 a15 a16 x8 x9 x10 x11 x12 x13 a17 a18 a19 x14 a20 x15 a21 x16 x17 a22 a23 a24 a25 x18 a26 x19 a27 a28 a29 y0 a30 a31 a32 a33 a34 a35 a36 a37 a38 (u_51.2.2.2.1 0) x21 x22 y1 a39 x23 a40 a41 a42 a43 x24 x20 x21 x22 a18 f0 a27 (u_51.2.1 0) a36 (u_51.2.1 1) a37 (u_51.2.1 2) a38 (u_51.2.1 3) a1 f5 a35 (u_51.2.2.1 0) a28 f6) := hD.sub [0, 1, 2, 3, 4, 5, 6, 7, 8] (by decide) rfl
                      have k9 := tI_0
                      have k8_0 := tI_0
                      exact hret 0 ((fun _ => 0), (fun k => [(u_51.2.1 0), (u_51.2.1 1), (u_51.2.1 2), (u_51.2.1 3), f6].getD k (fun _ => 0)), (fun k => [(u_51.2.2.1 0)].getD k (fun _ => 0)), (fun k => [(u_51.2.2.2.1 0), x21, x22, x20, x21, x22].getD k 0), (fun _ => 0)) dX12_on_89 ⟨(Or.inl tI_0), ⟨(show (0 ≤ (0 : Int32).toInt ∧ (0 : Int32).toInt ≤ 1) from (n_c tI_0 (by decide))), (show (0 ≤ ((u_51.2.2.2.1 0) : Int32).toInt ∧ ((u_51.2.2.2.1 0) : Int32).toInt ≤ 200) from hw_54), (show (0 ≤ (x21 : Int32).toInt ∧ (x21 : Int32).toInt ≤ 40) from h_x21), (show (0 ≤ (x22 : Int32).toInt ∧ (x22 : Int32).toInt ≤ 40) from h_x22), (show (0 ≤ (x20 : Int32).toInt ∧ (x20 : Int32).toInt ≤ 200) from h_x20), (show (0 ≤ (x21 : Int32).toInt ∧ (x21 : Int32).toInt ≤ 40) from h_x21), (show (0 ≤ (x22 : Int32).toInt ∧ (x22 : Int32).toInt ≤ 40) from h_x22), (show ((x21 : Int32).toInt ≤ ((u_51.2.2.2.1 0) : Int32).toInt) from hw_55), (show (((u_51.2.2.2.1 0) : Int32).toInt + (x22 : Int32).toInt ≤ 200) from hw_56), hw_57, hw_58, hf_f6, (show (0 : Int32).toInt = 0 from (by first | exact (om_31 hw_29.1) | (have k9 := tI_0; have k8_0 := tI_0; (first | omega | (unfold zBd at *; omega))))), (show x21.toInt + x22.toInt ≤ 40 from hw_59), (show MOK f0 (u_51.2.1 0) (u_51.2.1 1) (u_51.2.1 2) (u_51.2.1 3) x10.toInt x9.toInt (u_51.2.2.2.1 0).toInt x22.toInt from hw_60), (show onQ9 (0 : Int32).toInt (tau f5 x0.toInt) x0.toInt x10.toInt (chP f0 x10.toInt x9.toInt) x21.toInt x22.toInt x20.toInt x21.toInt x22.toInt (u_51.2.2.2.1 0).toInt from on_noM (by first | exact (om_31 hw_29.1) | ((first | omega | (unfold zBd at *; omega)))) (congrArg Int32.toInt ex_15) (by (first | omega | (unfold zBd at *; omega))) (by (first | omega | (unfold zBd at *; omega))) hw_28 (by (first | omega | (unfold zBd at *; omega))) (by first | exact (om_1930 hw_61.2.2) | ((first | omega | (unfold zBd at *; omega)))))⟩⟩ hP9 hD9 hS
          ·
            as_aux_lemma =>
              refine lv_iconst (pc := 43) (v := 0) hx hb dX12_on_43 (by decide) ?_
              have hP9 : va_P D gcl (zS_55 cB cC cI cJ a0 a1 0 x1 x2 x3 x4 x5 x6 x7 a2 a3 a4 a5 a6 a7 a8 a9 a10 a11 a12 a13 a14 a15 a16 x8 x9 x10 x11 x12 x13 a17 a18 a19 x14 a20 x15 a21 x16 x17 a22 a23 a24 a25 x18 a26 x19 a27 a28 a29 y0 a30 a31 a32 a33 a34 a35 a36 a37 a38 x20 x21 x22 y1 a39 x23 a40 a41 a42 a43 x24 x25 x26 x27 a18 f0 a27 f1 a36 f2 a37 f3 a38 f4 a1 f5 a35 g0 a28 f6) H := g_psub hP [0, 1, 2, 3, 4, 5, 6, 7, 8] rfl
              have hD9 : va_D A (zS_55 cB cC cI cJ a0 a1 0 x1 x2 x3 x4 x5 x6 x7 a2 a3 a4 a5 a6 a7 a8 a9 a10 a11 a12 a13 a14 a15 a16 x8 x9 x10 x11 x12 x13 a17 a18 a19 x14 a20 x15 a21 x16 x17 a22 a23 a24 a25 x18 a26 x19 a27 a28 a29 y0 a30 a31 a32 a33 a34 a35 a36 a37 a38 x20 x21 x22 y1 a39 x23 a40 a41 a42 a43 x24 x25 x26 x27 a18 f0 a27 f1 a36 f2 a37 f3 a38 f4 a1 f5 a35 g0 a28 f6) := hD.sub [0, 1, 2, 3, 4, 5, 6, 7, 8] (by decide) rfl
              have k9 := tI_0
              have k8_0 := tI_0
              exact hret 0 ((fun _ => 0), (fun k => [f1, f2, f3, f4, f6].getD k (fun _ => 0)), (fun k => [g0].getD k (fun _ => 0)), (fun k => [x20, x21, x22, x25, x26, x27].getD k 0), (fun _ => 0)) dX12_on_44 ⟨(Or.inl tI_0), ⟨(show (0 ≤ (0 : Int32).toInt ∧ (0 : Int32).toInt ≤ 1) from (n_c tI_0 (by decide))), (show (0 ≤ (x20 : Int32).toInt ∧ (x20 : Int32).toInt ≤ 200) from h_x20), (show (0 ≤ (x21 : Int32).toInt ∧ (x21 : Int32).toInt ≤ 40) from h_x21), (show (0 ≤ (x22 : Int32).toInt ∧ (x22 : Int32).toInt ≤ 40) from h_x22), (show (0 ≤ (x25 : Int32).toInt ∧ (x25 : Int32).toInt ≤ 200) from h_x25), (show (0 ≤ (x26 : Int32).toInt ∧ (x26 : Int32).toInt ≤ 40) from h_x26), (show (0 ≤ (x27 : Int32).toInt ∧ (x27 : Int32).toInt ≤ 40) from h_x27), (show ((x21 : Int32).toInt ≤ (x20 : Int32).toInt) from hr_a0_0), (show ((x20 : Int32).toInt + (x22 : Int32).toInt ≤ 200) from hr_a0_1), hf_f2, hf_f3, hf_f6, (show (0 : Int32).toInt = 0 from (by first | exact (om_31 tI_0) | (have k9 := tI_0; have k8_0 := tI_0; (first | omega | (unfold zBd at *; omega))))), (show x21.toInt + x22.toInt ≤ 40 from hg__ur), (show MOK f0 f1 f2 f3 f4 x10.toInt x9.toInt x20.toInt x22.toInt from hg_mk), (show onQ9 (0 : Int32).toInt (tau f5 x0.toInt) x0.toInt x10.toInt (chP f0 x10.toInt x9.toInt) x21.toInt x22.toInt x20.toInt x21.toInt x22.toInt x20.toInt from on_img (by first | exact (om_31 tI_0) | ((first | omega | (unfold zBd at *; omega)))) (img_noM (by (first | omega | (unfold zBd at *; omega))) (by first | exact (om_682 ex_6) | ((first | omega | (unfold zBd at *; omega)))) (by (first | omega | (unfold zBd at *; omega))) (congrArg Int32.toInt ex_5) hw_11 (by (first | omega | (unfold zBd at *; omega)))))⟩⟩ hP9 hD9 hS
theorem om_1931 {a b c : Int} (h0 : (a = 0)) (h1 : (b < 0)) : ((a = 0 ∧ (b < 0 ∨ b > c) ∧ c = c) ∨ (a = 1 ∧ 0 ≤ b ∧ b ≤ c ∧ c = b)) := by omega
theorem om_1932 {a b c d : Int} (h0 : (a = 1)) (h1 : (b ≥ 0)) (h2 : (b ≤ d)) (h3 : (d = c)) : ((a = 0 ∧ (b < 0 ∨ b > c) ∧ b = c) ∨ (a = 1 ∧ 0 ≤ b ∧ b ≤ c ∧ b = b)) := by omega
theorem om_1933 {a b c d : Int} (h0 : (a = 0)) (h1 : (b > d)) (h2 : (d = c)) : ((a = 0 ∧ (b < 0 ∨ b > c) ∧ c = c) ∨ (a = 1 ∧ 0 ≤ b ∧ b ≤ c ∧ c = b)) := by omega
set_option maxHeartbeats 4000000 in
set_option maxRecDepth 100000 in
theorem k_X11_end_x (l : Launch) (D : va_G) (cB cC cI cJ : ClassId) (sz : Nat) (a0 a1 a2 a3 a4 a5 a6 a7 a8 a9 a10 a11 a12 a13 a14 : Nat) (x0 x1 x2 : Int32) (h_x1 : zBd x1.toInt 0 14) (h_x2 : zBd x2.toInt 0 1600) : Met l yX11_end (.code yX11_end cX11_end 2 (some .boolean) :: lw_gd) ({ frames := 1, cells := 0, slots := 0, locals := 21 }) (gPre D [(cB, .byte), (cC, .char), (cI, .int), (cJ, .long)] [.ref a0, .int x0] (zS_130 cB cC cI cJ a0 a1 a2 a3 a4 a5 a6 a7 a8 a9 a10 x1 a11 a12 a13 a2 a14 x2) sz) (va_Qi (fun r u => (0 ≤ r.toInt ∧ r.toInt ≤ 1) ∧ (0 ≤ (u.2.2.2.1 0).toInt ∧ (u.2.2.2.1 0).toInt ≤ 1600) ∧ ((r.toInt = 0 ∧ (x0.toInt < 0 ∨ x0.toInt > x2.toInt) ∧ (u.2.2.2.1 0).toInt = x2.toInt) ∨ (r.toInt = 1 ∧ 0 ≤ x0.toInt ∧ x0.toInt ≤ x2.toInt ∧ (u.2.2.2.1 0).toInt = x0.toInt))) (gB D (va_A (zS_130 cB cC cI cJ a0 a1 a2 a3 a4 a5 a6 a7 a8 a9 a10 x1 a11 a12 a13 a2 a14 x2) sz) (fun u : gEx => (zS_130 cB cC cI cJ a0 a1 a2 a3 a4 a5 a6 a7 a8 a9 a10 x1 a11 a12 a13 a2 a14 (u.2.2.2.1 0)))) (va_A (zS_130 cB cC cI cJ a0 a1 a2 a3 a4 a5 a6 a7 a8 a9 a10 x1 a11 a12 a13 a2 a14 x2) sz)) 0 0 (va_A (zS_130 cB cC cI cJ a0 a1 a2 a3 a4 a5 a6 a7 a8 a9 a10 x1 a11 a12 a13 a2 a14 x2) sz) := by
  refine gOf_z (by decide +kernel) (Nat.le_of_ble_eq_true rfl) ?_
  intro p e s m args below meth c ls A Q hx hb hts hown hml hN hK hP hD hA hl hret
  replace hown : s.vm.findClass RX11 = some m.cls := hown
  have hS : va_S A s.heap s.heap [] := va_S.rf
  replace hP : va_P D gcl (zS_130 cB cC cI cJ a0 a1 a2 a3 a4 a5 a6 a7 a8 a9 a10 x1 a11 a12 a13 a2 a14 x2) s.heap := hP
  replace hl : lv_has ls 2 [(0, .ref a0), (1, .int x0)] := hl
  have rx0 : zBd x0.toInt (-2147483648) 2147483647 := n_rng x0
  refine lv_iload_n (pc := 0) hx hb dX11_end_0 rfl (lv_at hl 1 rfl) ?_
  refine b_if_lt (pc := 1) (tgt := 15) hx hb rfl  dX11_end_1 (by decide) (fun c_1 => ?_) (fun c_1 => ?_)
  ·
    refine lv_iconst (pc := 15) (v := 0) hx hb dX11_end_15 (by decide) ?_
    have k9 := tI_0
    exact hret 0 ((fun _ => 0), (fun _ => (fun _ => 0)), (fun _ => (fun _ => 0)), (fun k => [x2].getD k 0), (fun _ => 0)) dX11_end_16 ⟨(Or.inl tI_0), ⟨(show (0 ≤ (0 : Int32).toInt ∧ (0 : Int32).toInt ≤ 1) from (n_c tI_0 (by decide))), (show (0 ≤ (x2 : Int32).toInt ∧ (x2 : Int32).toInt ≤ 1600) from h_x2), (show ((0 : Int32).toInt = 0 ∧ (x0.toInt < 0 ∨ x0.toInt > x2.toInt) ∧ x2.toInt = x2.toInt) ∨ ((0 : Int32).toInt = 1 ∧ 0 ≤ x0.toInt ∧ x0.toInt ≤ x2.toInt ∧ x2.toInt = x0.toInt) from (by first | exact (om_1931 tI_0 c_1) | (have k9 := tI_0; (first | omega | (unfold zBd at *; omega)))))⟩⟩ (g_psub (wc := (zS_130 cB cC cI cJ a0 a1 a2 a3 a4 a5 a6 a7 a8 a9 a10 x1 a11 a12 a13 a2 a14 x2)) hP [0, 1] rfl) (hD.sub (ws' := (zS_130 cB cC cI cJ a0 a1 a2 a3 a4 a5 a6 a7 a8 a9 a10 x1 a11 a12 a13 a2 a14 x2)) [0, 1] (by decide) rfl) hS
  ·
    refine lv_iload_n (pc := 4) hx hb dX11_end_4 rfl (lv_at hl 1 rfl) ?_
    refine lv_aload_n (pc := 5) hx hb dX11_end_5 rfl (lv_at hl 0 rfl) ?_
    refine va_get (pc := 6) (ci := 11) (v := .ref a2) (C := RX11) (T := TX11) (N := 14) hx hb hts iX11 hown hK hP 0 rfl rfl 1 (by decide) (hts _ tw_421) (fun _ h9 => h9) rfl dX11_end_6 ?_
    refine gd_i (pc := 9) (wc := [(a2, .inr (9, [.ref a14, .int x2]))]) hP hD hS hA [1] rfl (by decide +kernel) (fun _ => by rfl) (fun hPc hDc => va_runV (As := []) (rest := [.int x0]) ⟨hx, hb, hml, hown, hts⟩ (k_X9_length l D cB cC cI cJ _ a2 a14 x2 h_x2) ⟨gcwB hts tw_478 tw_3 tw_475 hd_yX9_length ⟨Nat.le_of_ble_eq_true rfl, Nat.le_of_ble_eq_true rfl⟩, hts _ tw_476, hts _ tw_477⟩ ⟨gblind, va_recv hK hPc (ci := 9) (q0 := 0) rfl rfl, (gpreS hPc hK hDc hN).2⟩ rfl rfl hl.1 rfl (lv_room (Nat.le_of_ble_eq_true rfl)) dX11_end_9 ⟨Nat.le_of_ble_eq_true rfl, Nat.le_of_ble_eq_true rfl⟩) (fun r_3 u_2 H locs hw_4 hP hD hS => ?_)
    replace hP : va_P D gcl (zS_130 cB cC cI cJ a0 a1 a2 a3 a4 a5 a6 a7 a8 a9 a10 x1 a11 a12 a13 a2 a14 x2) H := hP
    replace hD : va_D A (zS_130 cB cC cI cJ a0 a1 a2 a3 a4 a5 a6 a7 a8 a9 a10 x1 a11 a12 a13 a2 a14 x2) := hD
    have hw_5 : ((r_3.toInt = x2.toInt)) := hw_4
    have rr_3 : zBd r_3.toInt (-2147483648) 2147483647 := n_rng r_3
    refine b_icmp_le (pc := 12) (tgt := 17) hx hb rfl rfl  dX11_end_12 (by decide) (fun c_6 => ?_) (fun c_6 => ?_)
    ·
      refine lv_aload_n (pc := 17) hx hb dX11_end_17 rfl (lv_at hl 0 rfl) ?_
      refine va_get (pc := 18) (ci := 11) (v := .ref a2) (C := RX11) (T := TX11) (N := 14) hx hb hts iX11 hown hK hP 0 rfl rfl 1 (by decide) (hts _ tw_421) (fun _ h9 => h9) rfl dX11_end_18 ?_
      refine lv_iload_n (pc := 21) hx hb dX11_end_21 rfl (lv_at hl 1 rfl) ?_
      refine gd_v (pc := 22) (wc := [(a2, .inr (9, [.ref a14, .int x2]))]) hP hD hS hA [1] rfl (by decide +kernel) (fun _ => by rfl) (fun hPc hDc => va_runV (As := [.int x0]) (rest := []) ⟨hx, hb, hml, hown, hts⟩ (k_X9_cutTo l D cB cC cI cJ _ a2 a14 x0 x2 (by first | exact (om_1325 c_1 c_6 hw_5 h_x2.2) | ((first | omega | (unfold zBd at *; omega)))) h_x2) ⟨gcwB hts tw_486 tw_3 tw_483 hd_yX9_cutTo ⟨Nat.le_of_ble_eq_true rfl, Nat.le_of_ble_eq_true rfl⟩, hts _ tw_484, hts _ tw_485⟩ ⟨gblind, va_recv hK hPc (ci := 9) (q0 := 0) rfl rfl, (gpreS hPc hK hDc hN).2⟩ rfl rfl hl.1 rfl (lv_room (Nat.le_of_ble_eq_true rfl)) dX11_end_22 ⟨Nat.le_of_ble_eq_true rfl, Nat.le_of_ble_eq_true rfl⟩) (fun u_7 H locs hw_9 hP hD hS => ?_)
      replace hP : va_P D gcl (zS_130 cB cC cI cJ a0 a1 a2 a3 a4 a5 a6 a7 a8 a9 a10 x1 a11 a12 a13 a2 a14 x0) H := hP
      replace hD : va_D A (zS_130 cB cC cI cJ a0 a1 a2 a3 a4 a5 a6 a7 a8 a9 a10 x1 a11 a12 a13 a2 a14 x0) := hD
      refine lv_iconst (pc := 25) (v := 1) hx hb dX11_end_25 (by decide) ?_
      have k9 := tI_1
      exact hret 1 ((fun _ => 0), (fun _ => (fun _ => 0)), (fun _ => (fun _ => 0)), (fun k => [x0].getD k 0), (fun _ => 0)) dX11_end_26 ⟨(Or.inr tI_1), ⟨(show (0 ≤ (1 : Int32).toInt ∧ (1 : Int32).toInt ≤ 1) from (n_c tI_1 (by decide))), (show (0 ≤ (x0 : Int32).toInt ∧ (x0 : Int32).toInt ≤ 1600) from (by first | exact (om_1325 c_1 c_6 hw_5 h_x2.2) | (have k9 := tI_1; (first | omega | (unfold zBd at *; omega))))), (show ((1 : Int32).toInt = 0 ∧ (x0.toInt < 0 ∨ x0.toInt > x2.toInt) ∧ x0.toInt = x2.toInt) ∨ ((1 : Int32).toInt = 1 ∧ 0 ≤ x0.toInt ∧ x0.toInt ≤ x2.toInt ∧ x0.toInt = x0.toInt) from (by first | exact (om_1932 tI_1 c_1 c_6 hw_5) | (have k9 := tI_1; (first | omega | (unfold zBd at *; omega)))))⟩⟩ (g_psub (wc := (zS_130 cB cC cI cJ a0 a1 a2 a3 a4 a5 a6 a7 a8 a9 a10 x1 a11 a12 a13 a2 a14 x0)) hP [0, 1] rfl) (hD.sub (ws' := (zS_130 cB cC cI cJ a0 a1 a2 a3 a4 a5 a6 a7 a8 a9 a10 x1 a11 a12 a13 a2 a14 x0)) [0, 1] (by decide) rfl) hS
    ·
      refine lv_iconst (pc := 15) (v := 0) hx hb dX11_end_15 (by decide) ?_
      have k9 := tI_0
      exact hret 0 ((fun _ => 0), (fun _ => (fun _ => 0)), (fun _ => (fun _ => 0)), (fun k => [x2].getD k 0), (fun _ => 0)) dX11_end_16 ⟨(Or.inl tI_0), ⟨(show (0 ≤ (0 : Int32).toInt ∧ (0 : Int32).toInt ≤ 1) from (n_c tI_0 (by decide))), (show (0 ≤ (x2 : Int32).toInt ∧ (x2 : Int32).toInt ≤ 1600) from h_x2), (show ((0 : Int32).toInt = 0 ∧ (x0.toInt < 0 ∨ x0.toInt > x2.toInt) ∧ x2.toInt = x2.toInt) ∨ ((0 : Int32).toInt = 1 ∧ 0 ≤ x0.toInt ∧ x0.toInt ≤ x2.toInt ∧ x2.toInt = x0.toInt) from (by first | exact (om_1933 tI_0 c_6 hw_5) | (have k9 := tI_0; (first | omega | (unfold zBd at *; omega)))))⟩⟩ (g_psub (wc := (zS_130 cB cC cI cJ a0 a1 a2 a3 a4 a5 a6 a7 a8 a9 a10 x1 a11 a12 a13 a2 a14 x2)) hP [0, 1] rfl) (hD.sub (ws' := (zS_130 cB cC cI cJ a0 a1 a2 a3 a4 a5 a6 a7 a8 a9 a10 x1 a11 a12 a13 a2 a14 x2)) [0, 1] (by decide) rfl) hS
theorem om_1934 {a : Int} (h0 : ((-242) ≤ a)) (h1 : (a ≤ 242)) : (((-242) ≤ a ∧ a ≤ 242)) := by omega
theorem om_1935 {a : Int} (h0 : ((-242) ≤ a)) (h1 : (a ≤ 242)) : (-242 ≤ a ∧ a ≤ 242) := by omega
set_option maxHeartbeats 4000000 in
set_option maxRecDepth 100000 in
theorem k_X8_at_x (l : Launch) (D : va_G) (cB cC cI cJ : ClassId) (sz : Nat) (a0 a1 : Nat) (x0 x1 : Int32) (f0 : Nat → Int32) (hp1 : (0 ≤ x0.toInt ∧ x0.toInt ≤ 5)) (hp2 : (0 ≤ x1.toInt ∧ x1.toInt ≤ 4)) (hg_tb : TB f0 242) : Met l yX8_at (.code yX8_at cX8_at 3 (some .int) :: lw_gd) ({ frames := 0, cells := 0, slots := 0, locals := 0 }) (gPre D [(cB, .byte), (cC, .char), (cI, .int), (cJ, .long)] [.ref a0, .int x0, .int x1] [(a0, .inr (8, [.ref a1])), (a1, .inl (cI, 30, .inl f0))] sz) (va_Qi (fun r u => ((-242) ≤ r.toInt ∧ r.toInt ≤ 242) ∧ (r = f0 (6 * x1.toInt + x0.toInt).toNat) ∧ (-242 ≤ r.toInt ∧ r.toInt ≤ 242)) (gB D (va_A [(a0, .inr (8, [.ref a1])), (a1, .inl (cI, 30, .inl f0))] sz) (fun u : gEx => [(a0, .inr (8, [.ref a1])), (a1, .inl (cI, 30, .inl f0))])) (va_A [(a0, .inr (8, [.ref a1])), (a1, .inl (cI, 30, .inl f0))] sz)) 0 0 (va_A [(a0, .inr (8, [.ref a1])), (a1, .inl (cI, 30, .inl f0))] sz) := by
  refine gOf_i (by decide +kernel) (Nat.le_of_ble_eq_true rfl) ?_
  intro p e s m args below meth c ls A Q hx hb hts hown hml hN hK hP hD hA hl hret
  replace hown : s.vm.findClass RX8 = some m.cls := hown
  have hS : va_S A s.heap s.heap [] := va_S.rf
  replace hP : va_P D gcl [(a0, .inr (8, [.ref a1])), (a1, .inl (cI, 30, .inl f0))] s.heap := hP
  replace hl : lv_has ls 3 [(0, .ref a0), (1, .int x0), (2, .int x1)] := hl
  refine lv_aload_n (pc := 0) hx hb dX8_at_0 rfl (lv_at hl 0 rfl) ?_
  refine va_get (pc := 1) (ci := 8) (v := .ref a1) (C := RX8) (T := TX8) (N := 1) hx hb hts iX8 hown hK hP 0 rfl rfl 0 (by decide) (hts _ tw_62) (fun _ h9 => h9) rfl dX8_at_1 ?_
  refine lv_iload_n (pc := 4) hx hb dX8_at_4 rfl (lv_at hl 2 rfl) ?_
  refine lv_bipush (pc := 5) (v := 6) hx hb dX8_at_5 (by decide) ?_
  refine b_imul (pc := 7) hx hb rfl tI_6 (by first | exact (om_351 hp2.1) | ((first | omega | (unfold zBd at *; omega)))) (by first | exact (om_352 hp2.2) | ((first | omega | (unfold zBd at *; omega)))) dX8_at_7 (fun x_1 ex_1 => ?_)
  refine lv_iload_n (pc := 8) hx hb dX8_at_8 rfl (lv_at hl 1 rfl) ?_
  refine b_iadd (pc := 9) hx hb rfl rfl (by first | exact (om_353 ex_1 hp1.1 hp2.1) | ((first | omega | (unfold zBd at *; omega)))) (by first | exact (om_354 ex_1 hp1.2 hp2.2) | ((first | omega | (unfold zBd at *; omega)))) dX8_at_9 (fun x_2 ex_2 => ?_)
  refine va_iald (pc := 10) hx hb hK hP 1 2 rfl rfl (n_in rfl (by first | exact (om_355 ex_2 ex_1 hp1.1 hp2.1) | ((first | omega | (unfold zBd at *; omega)))) (by first | exact (om_356 ex_2 ex_1 hp1.2 hp2.2) | ((first | omega | (unfold zBd at *; omega))))) dX8_at_10 ?_
  refine lv_topi (fun x_3 ex_3 => ?_)
  have rx_3 : zBd x_3.toInt (-2147483648) 2147483647 := n_rng x_3
  replace ex_3 : x_3 = f0 (x_2.toInt).toNat := ex_3
  have tx_3 := congrArg Int32.toInt ex_3
  have rrx_3 : ((-242) ≤ x_3.toInt ∧ x_3.toInt ≤ 242) := (by rw [ex_3]; exact hg_tb _ (by (first | omega | (unfold zBd at *; omega))))
  exact hret x_3 ((fun _ => 0), (fun _ => (fun _ => 0)), (fun _ => (fun _ => 0)), (fun _ => 0), (fun _ => 0)) dX8_at_11 ⟨(show ((-242) ≤ x_3.toInt ∧ x_3.toInt ≤ 242) from (by first | exact (om_1934 rrx_3.1 rrx_3.2) | ((first | omega | (unfold zBd at *; omega))))), (show x_3 = f0 (6 * x1.toInt + x0.toInt).toNat from (e_ld ex_3 (by (first | omega | (unfold zBd at *; omega)))).symm), (show -242 ≤ x_3.toInt ∧ x_3.toInt ≤ 242 from (by first | exact (om_1935 rrx_3.1 rrx_3.2) | ((first | omega | (unfold zBd at *; omega)))))⟩ (g_psub (wc := [(a0, .inr (8, [.ref a1])), (a1, .inl (cI, 30, .inl f0))]) hP [0, 1] rfl) (hD.sub (ws' := [(a0, .inr (8, [.ref a1])), (a1, .inl (cI, 30, .inl f0))]) [0, 1] (by decide) rfl) hS
theorem om_1936 {a : Int} (h0 : (-242 ≤ a)) (h1 : (a ≤ 242)) : (-242 ≤ a ∧ a ≤ 242) := by omega
theorem om_1937 {a b : Int} (h0 : (-(242 * 242) ≤ a * b)) : (-2147483648 ≤ a * b) := by omega
theorem om_1938 {a b : Int} (h0 : (a * b ≤ 242 * 242)) : (a * b ≤ 2147483647) := by omega
theorem om_1939 {a b c : Int} (h0 : (a = b * c)) (h1 : (-(242 * 242) ≤ b * c)) (h2 : (b * c ≤ 242 * 242)) : (((-58564) ≤ a ∧ a ≤ 58564)) := by omega
theorem om_1940 {a b : Int} (h0 : ((-58564) ≤ b)) (h1 : ((-400000) ≤ a)) : (-2147483648 ≤ a + b) := by omega
theorem om_1941 {a b : Int} (h0 : (b ≤ 58564)) (h1 : (a ≤ 400000)) : (a + b ≤ 2147483647) := by omega
theorem om_1942 {a b c d : Int} (h0 : (a = b + c)) (h1 : ((-58564) ≤ c)) (h2 : (-58564 * d ≤ b)) (h3 : (d < 6)) (h4 : (c ≤ 58564)) (h5 : (b ≤ 58564 * d)) : (((-400000) ≤ a ∧ a ≤ 400000)) := by omega
theorem om_1943 {a b c d e : Int} (h0 : (a = b + e)) (h1 : (e = c * d)) : (a = b + c * d) := by omega
theorem om_1944 {a b c d e : Int} (h0 : (a = c + 1)) (h1 : (b = d + e)) (h2 : ((-58564) ≤ e)) (h3 : (-58564 * c ≤ d)) (h4 : (e ≤ 58564)) (h5 : (d ≤ 58564 * c)) : ((-58564 * a ≤ b ∧ b ≤ 58564 * a)) := by omega
set_option maxHeartbeats 4000000 in
set_option maxRecDepth 100000 in
theorem k_X8_productOf_x (l : Launch) (D : va_G) (cB cC cI cJ : ClassId) (sz : Nat) (a0 a1 : Nat) (x0 x1 : Int32) (f0 : Nat → Int32) (hp1 : (0 ≤ x0.toInt ∧ x0.toInt ≤ 4)) (hp2 : (0 ≤ x1.toInt ∧ x1.toInt ≤ 4)) (hg_tb : TB f0 242) : Met l yX8_productOf (.code yX8_productOf cX8_productOf 5 (some .int) :: lw_gd) ({ frames := 1, cells := 0, slots := 0, locals := 22 }) (gPre D [(cB, .byte), (cC, .char), (cI, .int), (cJ, .long)] [.ref a0, .int x0, .int x1] [(a0, .inr (8, [.ref a1])), (a1, .inl (cI, 30, .inl f0))] sz) (va_Qi (fun r u => ((-400000) ≤ r.toInt ∧ r.toInt ≤ 400000) ∧ (r.toInt = dtn f0 x0.toInt x1.toInt 6)) (gB D (va_A [(a0, .inr (8, [.ref a1])), (a1, .inl (cI, 30, .inl f0))] sz) (fun u : gEx => [(a0, .inr (8, [.ref a1])), (a1, .inl (cI, 30, .inl f0))])) (va_A [(a0, .inr (8, [.ref a1])), (a1, .inl (cI, 30, .inl f0))] sz)) 0 0 (va_A [(a0, .inr (8, [.ref a1])), (a1, .inl (cI, 30, .inl f0))] sz) := by
  refine gOf_i (by decide +kernel) (Nat.le_of_ble_eq_true rfl) ?_
  intro p e s m args below meth c ls A Q hx hb hts hown hml hN hK hP hD hA hl hret
  replace hown : s.vm.findClass RX8 = some m.cls := hown
  have hS : va_S A s.heap s.heap [] := va_S.rf
  replace hP : va_P D gcl [(a0, .inr (8, [.ref a1])), (a1, .inl (cI, 30, .inl f0))] s.heap := hP
  replace hl : lv_has ls 5 [(0, .ref a0), (1, .int x0), (2, .int x1)] := hl
  refine lv_iconst (pc := 0) (v := 0) hx hb dX8_productOf_0 (by decide) ?_
  refine lv_istore_n (pc := 1) (lv' := [(3, .int 0), (0, .ref a0), (1, .int x0), (2, .int x1)]) hx hb dX8_productOf_1 rfl hl (by decide) rfl (fun ls hl => ?_)
  refine lv_iconst (pc := 2) (v := 0) hx hb dX8_productOf_2 (by decide) ?_
  refine lv_istore (pc := 3) (lv' := [(4, .int 0), (3, .int 0), (0, .ref a0), (1, .int x0), (2, .int x1)]) hx hb dX8_productOf_3 hl (by decide) rfl (fun ls hl => ?_)
  have lp_7 : ∀ (n : Nat) (x_1 x_3 : Int32) (H : Heap) (locs : List Loc) (ls : Array Slot), (0 ≤ x_1.toInt ∧ x_1.toInt ≤ 6) → ((-400000) ≤ x_3.toInt ∧ x_3.toInt ≤ 400000) → (x_3.toInt = dtn f0 x0.toInt x1.toInt (x_1.toInt).toNat) → (-58564 * x_1.toInt ≤ x_3.toInt ∧ x_3.toInt ≤ 58564 * x_1.toInt) → (2147483647 - x_1.toInt).toNat < n → va_P D gcl [(a0, .inr (8, [.ref a1])), (a1, .inl (cI, 30, .inl f0))] H → va_D A [(a0, .inr (8, [.ref a1])), (a1, .inl (cI, 30, .inl f0))] → va_S A s.heap H locs → lv_has ls 5 [(4, .int x_1), (3, .int x_3), (0, .ref a0), (1, .int x0), (2, .int x1)] → W p l e ({ frames := 1, cells := 0, slots := 0, locals := 22 }) s m args below meth c H locs 0 0 Q (F0 m 5 ls []) := by
    intro n
    induction n with
    | zero => intro x_1 x_3 H locs ls hi_2 hi_4 hi_5 hi_6 hmu; exact absurd hmu (Nat.not_lt_zero _)
    | succ n ih_lp_7 =>
      intro x_1 x_3 H locs ls hi_2 hi_4 hi_5 hi_6 hmu_lp_7 hP hD hS hl
      refine lv_iload (pc := 5) hx hb dX8_productOf_5 (lv_at hl 0 rfl) ?_
      refine lv_bipush (pc := 7) (v := 6) hx hb dX8_productOf_7 (by decide) ?_
      refine b_icmp_ge (pc := 9) (tgt := 36) hx hb rfl tI_6  dX8_productOf_9 (by decide) (fun c_8 => ?_) (fun c_8 => ?_)
      ·
        refine lv_iload_n (pc := 36) hx hb dX8_productOf_36 rfl (lv_at hl 1 rfl) ?_
        exact hret x_3 ((fun _ => 0), (fun _ => (fun _ => 0)), (fun _ => (fun _ => 0)), (fun _ => 0), (fun _ => 0)) dX8_productOf_37 ⟨(show ((-400000) ≤ x_3.toInt ∧ x_3.toInt ≤ 400000) from hi_4), (show x_3.toInt = dtn f0 x0.toInt x1.toInt 6 from (by have e9 : x_1.toInt = 6 := (by (first | omega | (unfold zBd at *; omega))); have q9 := hi_5; rw [e9] at q9; exact q9))⟩ (g_psub (wc := [(a0, .inr (8, [.ref a1])), (a1, .inl (cI, 30, .inl f0))]) hP [0, 1] rfl) (hD.sub (ws' := [(a0, .inr (8, [.ref a1])), (a1, .inl (cI, 30, .inl f0))]) [0, 1] (by decide) rfl) hS
      ·
        refine lv_iload_n (pc := 12) hx hb dX8_productOf_12 rfl (lv_at hl 1 rfl) ?_
        refine lv_aload_n (pc := 13) hx hb dX8_productOf_13 rfl (lv_at hl 2 rfl) ?_
        refine lv_iload (pc := 14) hx hb dX8_productOf_14 (lv_at hl 0 rfl) ?_
        refine lv_iload_n (pc := 16) hx hb dX8_productOf_16 rfl (lv_at hl 3 rfl) ?_
        refine gd_i (pc := 17) (wc := [(a0, .inr (8, [.ref a1])), (a1, .inl (cI, 30, .inl f0))]) hP hD hS hA [0, 1] rfl (by decide +kernel) (fun _ => by rfl) (fun hPc hDc => va_runV (As := [.int x_1, .int x0]) (rest := [.int x_3]) ⟨hx, hb, hml, hown, hts⟩ (k_X8_at_x l D cB cC cI cJ _ a0 a1 x_1 x0 f0 (by first | exact (om_1018 hi_2.1 c_8) | ((first | omega | (unfold zBd at *; omega)))) hp1 (hg_tb)) ⟨gcwB hts tw_791 tw_5 tw_800 hd_yX8_at ⟨Nat.le_of_ble_eq_true rfl, Nat.le_of_ble_eq_true rfl⟩, hts _ tw_789, hts _ tw_790⟩ ⟨gblind, va_recv hK hPc (ci := 8) (q0 := 0) rfl rfl, (gpreS hPc hK hDc hN).2⟩ rfl rfl hl.1 rfl (lv_room (Nat.le_of_ble_eq_true rfl)) dX8_productOf_17 ⟨Nat.le_of_ble_eq_true rfl, Nat.le_of_ble_eq_true rfl⟩) (fun r_10 u_9 H locs hw_11 hP hD hS => ?_)
        replace hP : va_P D gcl [(a0, .inr (8, [.ref a1])), (a1, .inl (cI, 30, .inl f0))] H := hP
        replace hD : va_D A [(a0, .inr (8, [.ref a1])), (a1, .inl (cI, 30, .inl f0))] := hD
        obtain ⟨hw_12, hw_13, hw_14⟩ := hw_11
        replace hw_12 : ((-242) ≤ r_10.toInt ∧ r_10.toInt ≤ 242) := hw_12
        replace hw_13 : (r_10 = f0 (6 * x0.toInt + x_1.toInt).toNat) := hw_13
        replace hw_14 : (-242 ≤ r_10.toInt ∧ r_10.toInt ≤ 242) := hw_14
        have rr_10 : zBd r_10.toInt (-2147483648) 2147483647 := n_rng r_10
        refine lv_aload_n (pc := 20) hx hb dX8_productOf_20 rfl (lv_at hl 2 rfl) ?_
        refine lv_iload (pc := 21) hx hb dX8_productOf_21 (lv_at hl 0 rfl) ?_
        refine lv_iload_n (pc := 23) hx hb dX8_productOf_23 rfl (lv_at hl 4 rfl) ?_
        refine gd_i (pc := 24) (wc := [(a0, .inr (8, [.ref a1])), (a1, .inl (cI, 30, .inl f0))]) hP hD hS hA [0, 1] rfl (by decide +kernel) (fun _ => by rfl) (fun hPc hDc => va_runV (As := [.int x_1, .int x1]) (rest := [.int r_10, .int x_3]) ⟨hx, hb, hml, hown, hts⟩ (k_X8_at_x l D cB cC cI cJ _ a0 a1 x_1 x1 f0 (by first | exact (om_1018 hi_2.1 c_8) | ((first | omega | (unfold zBd at *; omega)))) hp2 (hg_tb)) ⟨gcwB hts tw_791 tw_5 tw_800 hd_yX8_at ⟨Nat.le_of_ble_eq_true rfl, Nat.le_of_ble_eq_true rfl⟩, hts _ tw_789, hts _ tw_790⟩ ⟨gblind, va_recv hK hPc (ci := 8) (q0 := 0) rfl rfl, (gpreS hPc hK hDc hN).2⟩ rfl rfl hl.1 rfl (lv_room (Nat.le_of_ble_eq_true rfl)) dX8_productOf_24 ⟨Nat.le_of_ble_eq_true rfl, Nat.le_of_ble_eq_true rfl⟩) (fun r_16 u_15 H locs hw_17 hP hD hS => ?_)
        replace hP : va_P D gcl [(a0, .inr (8, [.ref a1])), (a1, .inl (cI, 30, .inl f0))] H := hP
        replace hD : va_D A [(a0, .inr (8, [.ref a1])), (a1, .inl (cI, 30, .inl f0))] := hD
        obtain ⟨hw_18, hw_19, hw_20⟩ := hw_17
        replace hw_18 : ((-242) ≤ r_16.toInt ∧ r_16.toInt ≤ 242) := hw_18
        replace hw_19 : (r_16 = f0 (6 * x1.toInt + x_1.toInt).toNat) := hw_19
        replace hw_20 : (-242 ≤ r_16.toInt ∧ r_16.toInt ≤ 242) := hw_20
        have rr_16 : zBd r_16.toInt (-2147483648) 2147483647 := n_rng r_16
        have qx_21 := n_mulb (A := 242) (B := 242) (by decide) (by decide) (show -242 ≤ r_10.toInt ∧ r_10.toInt ≤ 242 from (by first | exact (om_1936 hw_14.1 hw_14.2) | ((first | omega | (unfold zBd at *; omega))))) (show -242 ≤ r_16.toInt ∧ r_16.toInt ≤ 242 from (by first | exact (om_1936 hw_20.1 hw_20.2) | ((first | omega | (unfold zBd at *; omega)))))
        refine b_imul (pc := 27) hx hb rfl rfl (by first | exact (om_1937 qx_21.1) | ((first | omega | (unfold zBd at *; omega)))) (by first | exact (om_1938 qx_21.2) | ((first | omega | (unfold zBd at *; omega)))) dX8_productOf_27 (fun x_21 ex_21 => ?_)
        have rx_21 : ((-58564) ≤ x_21.toInt ∧ x_21.toInt ≤ 58564) := (by first | exact (om_1939 ex_21 qx_21.1 qx_21.2) | ((first | omega | (unfold zBd at *; omega))))
        refine b_iadd (pc := 28) hx hb rfl rfl (by first | exact (om_1940 rx_21.1 hi_4.1) | ((first | omega | (unfold zBd at *; omega)))) (by first | exact (om_1941 rx_21.2 hi_4.2) | ((first | omega | (unfold zBd at *; omega)))) dX8_productOf_28 (fun x_22 ex_22 => ?_)
        refine lv_istore_n (pc := 29) (lv' := [(3, .int x_22), (4, .int x_1), (0, .ref a0), (1, .int x0), (2, .int x1)]) hx hb dX8_productOf_29 rfl hl (by decide) rfl (fun ls hl => ?_)
        refine b_iinc (pc := 30) hx hb dX8_productOf_30 hl (k := 1) rfl rfl tI_1 (by first | exact (om_2 hi_2.1) | ((first | omega | (unfold zBd at *; omega)))) (by first | exact (om_136 c_8) | ((first | omega | (unfold zBd at *; omega)))) (by decide) (fun x_23 ex_23 ls hl => ?_)
        replace hl : lv_has ls 5 [(4, .int x_23), (3, .int x_22), (0, .ref a0), (1, .int x0), (2, .int x1)] := hl
        refine lv_goto (pc := 33) (tgt := 5) hx hb dX8_productOf_33 (by decide) ?_
        exact ih_lp_7 x_23 x_22 _ _ ls (by first | exact (om_573 ex_23 hi_2.1 c_8) | ((first | omega | (unfold zBd at *; omega)))) (by first | exact (om_1942 ex_22 rx_21.1 hi_6.1 c_8 rx_21.2 hi_6.2) | ((first | omega | (unfold zBd at *; omega)))) (dtn_step hi_5 hw_13 hw_19 (by first | exact (om_0 hi_2.1) | ((first | omega | (unfold zBd at *; omega)))) (by first | exact (om_1943 ex_22 ex_21) | ((first | omega | (unfold zBd at *; omega)))) (by first | exact (om_5 ex_23) | ((first | omega | (unfold zBd at *; omega))))) (by first | exact (om_1944 ex_23 ex_22 rx_21.1 hi_6.1 rx_21.2 hi_6.2) | ((first | omega | (unfold zBd at *; omega)))) (by (first | omega | (unfold zBd at *; omega))) hP hD hS (lv_sub hl [0, 1, 2, 3, 4] rfl)
  exact lp_7 _ 0 0 _ _ ls (n_c tI_0 (by decide)) (n_c tI_0 (by decide)) (tI_0) (by have q := tI_0; (first | omega | (unfold zBd at *; omega))) (Nat.lt_succ_self _) hP hD hS (lv_sub hl [0, 1, 2, 3, 4] rfl)
theorem om_1945 {a b : Int} (h0 : ((0 ≤ b ∧ a = b) ∨ (b < 0 ∧ ¬ b = -2147483648 ∧ a = -b) ∨ (b = -2147483648 ∧ a = -2147483648))) (h1 : ((-400000) ≤ b)) (h2 : ((-2147483648) ≤ b)) (h3 : (b ≤ 400000)) : (-2147483648 ≤ 2 * a) := by omega
theorem om_1946 {a b : Int} (h0 : ((0 ≤ b ∧ a = b) ∨ (b < 0 ∧ ¬ b = -2147483648 ∧ a = -b) ∨ (b = -2147483648 ∧ a = -2147483648))) (h1 : (b ≤ 400000)) (h2 : ((-2147483648) ≤ b)) (h3 : ((-400000) ≤ b)) : (2 * a ≤ 2147483647) := by omega
theorem om_1947 {a b c d : Int} (h0 : ((0 ≤ c ∧ d = c) ∨ (c < 0 ∧ ¬ c = -2147483648 ∧ d = -c) ∨ (c = -2147483648 ∧ d = -2147483648))) (h1 : (a = 2 * d)) (h2 : (0 ≤ b)) (h3 : ((-400000) ≤ c)) (h4 : ((-2147483648) ≤ c)) (h5 : (c ≤ 400000)) : (-2147483648 ≤ a + b) := by omega
theorem om_1948 {a b c d : Int} (h0 : ((0 ≤ c ∧ d = c) ∨ (c < 0 ∧ ¬ c = -2147483648 ∧ d = -c) ∨ (c = -2147483648 ∧ d = -2147483648))) (h1 : (a = 2 * d)) (h2 : (b ≤ 400000)) (h3 : (c ≤ 400000)) (h4 : ((-2147483648) ≤ c)) (h5 : ((-400000) ≤ c)) : (a + b ≤ 2147483647) := by omega
theorem om_1949 {a b c d e : Int} (h0 : ((0 ≤ b ∧ c = b) ∨ (b < 0 ∧ ¬ b = -2147483648 ∧ c = -b) ∨ (b = -2147483648 ∧ c = -2147483648))) (h1 : (a = d + e)) (h2 : (d = 2 * c)) (h3 : (0 ≤ e)) (h4 : ((-400000) ≤ b)) (h5 : ((-2147483648) ≤ b)) (h6 : (b ≤ 400000)) : (-2147483648 ≤ a - 1) := by omega
theorem om_1950 {a b c d e : Int} (h0 : ((0 ≤ b ∧ c = b) ∨ (b < 0 ∧ ¬ b = -2147483648 ∧ c = -b) ∨ (b = -2147483648 ∧ c = -2147483648))) (h1 : (a = d + e)) (h2 : (d = 2 * c)) (h3 : (e ≤ 400000)) (h4 : (b ≤ 400000)) (h5 : ((-2147483648) ≤ b)) (h6 : ((-400000) ≤ b)) : (a - 1 ≤ 2147483647) := by omega
theorem om_1951 {a : Int} (h0 : (a ≤ 400000)) : (2 * a ≤ 2147483647) := by omega
theorem om_1952 {a b : Int} (h0 : (¬ b = 0)) (h1 : (0 ≤ b)) (h2 : (a = 2 * b)) : (0 < a) := by omega
theorem om_1953 {a b c d e f : Int} (h0 : (¬ b = 0)) (h1 : ((0 ≤ c ∧ d = c) ∨ (c < 0 ∧ ¬ c = -2147483648 ∧ d = -c) ∨ (c = -2147483648 ∧ d = -2147483648))) (h2 : (0 ≤ b)) (h3 : ((-400000) ≤ c)) (h4 : (a = e - 1)) (h5 : (e = f + b)) (h6 : (f = 2 * d)) (h7 : ((-2147483648) ≤ c)) : (0 ≤ a) := by omega
theorem om_1954 {a b c d e f g : Int} (h0 : (0 ≤ a)) (h1 : ((0 ≤ b ∧ c = b) ∨ (b < 0 ∧ ¬ b = -2147483648 ∧ c = -b) ∨ (b = -2147483648 ∧ c = -2147483648))) (h2 : (a ≤ d)) (h3 : (d = e - 1)) (h4 : (e = f + g)) (h5 : (f = 2 * c)) (h6 : (g ≤ 400000)) (h7 : (b ≤ 400000)) (h8 : (b ≥ 0)) : (((-1199999) ≤ a ∧ a ≤ 1199999)) := by omega
set_option maxHeartbeats 4000000 in
set_option maxRecDepth 100000 in
theorem k_X2_timesIn (l : Launch) (D : va_G) (cB cC cI cJ : ClassId) (sz : Nat) (a0 a1 a2 a3 a4 : Nat) (x0 x1 x2 x3 x4 x5 x6 : Int32) (f0 : Nat → Int32) (hp1 : (0 ≤ x0.toInt ∧ x0.toInt ≤ 4)) (hp2 : (0 ≤ x1.toInt ∧ x1.toInt ≤ 4)) (h_x2 : zBd x2.toInt (-1) 5) (h_x3 : zBd x3.toInt 0 39) (h_x4 : zBd x4.toInt 0 40) (h_x5 : zBd x5.toInt 0 40) (hr_a0_0 : (x4.toInt + x5.toInt ≤ 40)) (hg_sh : SH f0) : Met l yX2_timesIn (.code yX2_timesIn cX2_timesIn 6 (some .int) :: lw_gd) ({ frames := 2, cells := 0, slots := 0, locals := 46 }) (gPre D [(cB, .byte), (cC, .char), (cI, .int), (cJ, .long)] [.ref a0, .int x0, .int x1] (zS_133 cB cC cI cJ a0 a1 a2 a3 x2 x3 x4 x5 x6 a1 a4 a4 f0) sz) (va_Qi (fun r u => ((-1199999) ≤ r.toInt ∧ r.toInt ≤ 1199999) ∧ (tmQ (dtn f0 x0.toInt x1.toInt 6) (dtn f0 x1.toInt x1.toInt 6) r.toInt) ∧ (xtQ f0 x0.toInt x1.toInt r)) (gB D (va_A (zS_133 cB cC cI cJ a0 a1 a2 a3 x2 x3 x4 x5 x6 a1 a4 a4 f0) sz) (fun u : gEx => (zS_133 cB cC cI cJ a0 a1 a2 a3 x2 x3 x4 x5 x6 a1 a4 a4 f0))) (va_A (zS_133 cB cC cI cJ a0 a1 a2 a3 x2 x3 x4 x5 x6 a1 a4 a4 f0) sz)) 0 0 (va_A (zS_133 cB cC cI cJ a0 a1 a2 a3 x2 x3 x4 x5 x6 a1 a4 a4 f0) sz) := by
  refine gOf_i (by decide +kernel) (Nat.le_of_ble_eq_true rfl) ?_
  intro p e s m args below meth c ls A Q hx hb hts hown hml hN hK hP hD hA hl hret
  replace hown : s.vm.findClass RX2 = some m.cls := hown
  have hS : va_S A s.heap s.heap [] := va_S.rf
  replace hP : va_P D gcl (zS_133 cB cC cI cJ a0 a1 a2 a3 x2 x3 x4 x5 x6 a1 a4 a4 f0) s.heap := hP
  replace hl : lv_has ls 6 [(0, .ref a0), (1, .int x0), (2, .int x1)] := hl
  have rx6 : zBd x6.toInt (-2147483648) 2147483647 := n_rng x6
  refine lv_aload_n (pc := 0) hx hb dX2_timesIn_0 rfl (lv_at hl 0 rfl) ?_
  refine va_get (pc := 1) (ci := 2) (v := .ref a1) (C := RX2) (T := TX2) (N := 8) hx hb hts iX2 hown hK hP 0 rfl rfl 0 (by decide) (hts _ tw_391) (fun _ h9 => h9) rfl dX2_timesIn_1 ?_
  refine lv_iload_n (pc := 4) hx hb dX2_timesIn_4 rfl (lv_at hl 2 rfl) ?_
  refine lv_iload_n (pc := 5) hx hb dX2_timesIn_5 rfl (lv_at hl 2 rfl) ?_
  refine gd_i (pc := 6) (wc := [(a1, .inr (8, [.ref a4])), (a4, .inl (cI, 30, .inl f0))]) hP hD hS hA [1, 2] rfl (by decide +kernel) (fun _ => by rfl) (fun hPc hDc => va_runV (As := [.int x1, .int x1]) (rest := []) ⟨hx, hb, hml, hown, hts⟩ (k_X8_productOf_x l D cB cC cI cJ _ a1 a4 x1 x1 f0 hp2 hp2 (SH_TB hg_sh)) ⟨gcwB hts tw_799 tw_5 tw_1048 hd_yX8_productOf ⟨Nat.le_of_ble_eq_true rfl, Nat.le_of_ble_eq_true rfl⟩, hts _ tw_797, hts _ tw_798⟩ ⟨gblind, va_recv hK hPc (ci := 8) (q0 := 0) rfl rfl, (gpreS hPc hK hDc hN).2⟩ rfl rfl hl.1 rfl (lv_room (Nat.le_of_ble_eq_true rfl)) dX2_timesIn_6 ⟨Nat.le_of_ble_eq_true rfl, Nat.le_of_ble_eq_true rfl⟩) (fun r_2 u_1 H locs hw_3 hP hD hS => ?_)
  replace hP : va_P D gcl (zS_133 cB cC cI cJ a0 a1 a2 a3 x2 x3 x4 x5 x6 a1 a4 a4 f0) H := hP
  replace hD : va_D A (zS_133 cB cC cI cJ a0 a1 a2 a3 x2 x3 x4 x5 x6 a1 a4 a4 f0) := hD
  obtain ⟨hw_4, hw_5⟩ := hw_3
  replace hw_4 : ((-400000) ≤ r_2.toInt ∧ r_2.toInt ≤ 400000) := hw_4
  replace hw_5 : (r_2.toInt = dtn f0 x1.toInt x1.toInt 6) := hw_5
  have rr_2 : zBd r_2.toInt (-2147483648) 2147483647 := n_rng r_2
  have hh_6 : 0 ≤ r_2.toInt := (by have q := hw_5; have q2 := dtn_nn (f := f0) (a := x1.toInt) 6; (first | omega | (unfold zBd at *; omega)))
  refine lv_istore_n (pc := 9) (lv' := [(3, .int r_2), (0, .ref a0), (1, .int x0), (2, .int x1)]) hx hb dX2_timesIn_9 rfl hl (by decide) rfl (fun ls hl => ?_)
  refine lv_iload_n (pc := 10) hx hb dX2_timesIn_10 rfl (lv_at hl 0 rfl) ?_
  refine b_if_ne (pc := 11) (tgt := 16) hx hb rfl  dX2_timesIn_11 (by decide) (fun c_7 => ?_) (fun c_7 => ?_)
  ·
    refine lv_aload_n (pc := 16) hx hb dX2_timesIn_16 rfl (lv_at hl 1 rfl) ?_
    refine va_get (pc := 17) (ci := 2) (v := .ref a1) (C := RX2) (T := TX2) (N := 8) hx hb hts iX2 hown hK hP 0 rfl rfl 0 (by decide) (hts _ tw_391) (fun _ h9 => h9) rfl dX2_timesIn_17 ?_
    refine lv_iload_n (pc := 20) hx hb dX2_timesIn_20 rfl (lv_at hl 2 rfl) ?_
    refine lv_iload_n (pc := 21) hx hb dX2_timesIn_21 rfl (lv_at hl 3 rfl) ?_
    refine gd_i (pc := 22) (wc := [(a1, .inr (8, [.ref a4])), (a4, .inl (cI, 30, .inl f0))]) hP hD hS hA [1, 2] rfl (by decide +kernel) (fun _ => by rfl) (fun hPc hDc => va_runV (As := [.int x0, .int x1]) (rest := []) ⟨hx, hb, hml, hown, hts⟩ (k_X8_productOf_x l D cB cC cI cJ _ a1 a4 x0 x1 f0 hp1 hp2 (SH_TB hg_sh)) ⟨gcwB hts tw_799 tw_5 tw_1048 hd_yX8_productOf ⟨Nat.le_of_ble_eq_true rfl, Nat.le_of_ble_eq_true rfl⟩, hts _ tw_797, hts _ tw_798⟩ ⟨gblind, va_recv hK hPc (ci := 8) (q0 := 0) rfl rfl, (gpreS hPc hK hDc hN).2⟩ rfl rfl hl.1 rfl (lv_room (Nat.le_of_ble_eq_true rfl)) dX2_timesIn_22 ⟨Nat.le_of_ble_eq_true rfl, Nat.le_of_ble_eq_true rfl⟩) (fun r_9 u_8 H locs hw_10 hP hD hS => ?_)
    replace hP : va_P D gcl (zS_133 cB cC cI cJ a0 a1 a2 a3 x2 x3 x4 x5 x6 a1 a4 a4 f0) H := hP
    replace hD : va_D A (zS_133 cB cC cI cJ a0 a1 a2 a3 x2 x3 x4 x5 x6 a1 a4 a4 f0) := hD
    obtain ⟨hw_11, hw_12⟩ := hw_10
    replace hw_11 : ((-400000) ≤ r_9.toInt ∧ r_9.toInt ≤ 400000) := hw_11
    replace hw_12 : (r_9.toInt = dtn f0 x0.toInt x1.toInt 6) := hw_12
    have rr_9 : zBd r_9.toInt (-2147483648) 2147483647 := n_rng r_9
    refine lv_istore (pc := 25) (lv' := [(4, .int r_9), (3, .int r_2), (0, .ref a0), (1, .int x0), (2, .int x1)]) hx hb dX2_timesIn_25 hl (by decide) rfl (fun ls hl => ?_)
    refine lv_iconst (pc := 27) (v := 2) hx hb dX2_timesIn_27 (by decide) ?_
    refine lv_iload (pc := 28) hx hb dX2_timesIn_28 (lv_at hl 0 rfl) ?_
    refine va_mabs (pc := 30) hx hb (hml.trans hl.1.symm) hown (hts _ tw_1049) (hts _ tw_632) (hts _ tw_19) (hts _ tw_633) (Nat.le_of_ble_eq_true rfl) (Nat.le_of_ble_eq_true rfl) (Nat.le_of_ble_eq_true rfl) (Nat.le_of_ble_eq_true rfl) dX2_timesIn_30 ?_
    refine lv_topi (fun x_13 ex_13 => ?_)
    have ex_13 := n_abs rfl ex_13
    have rx_13 : zBd x_13.toInt (-2147483648) 2147483647 := n_rng x_13
    refine b_imul (pc := 33) hx hb tI_2 rfl (by first | exact (om_1945 ex_13 hw_11.1 rr_9.1 hw_11.2) | ((first | omega | (unfold zBd at *; omega)))) (by first | exact (om_1946 ex_13 hw_11.2 rr_9.1 hw_11.1) | ((first | omega | (unfold zBd at *; omega)))) dX2_timesIn_33 (fun x_14 ex_14 => ?_)
    refine lv_iload_n (pc := 34) hx hb dX2_timesIn_34 rfl (lv_at hl 1 rfl) ?_
    refine b_iadd (pc := 35) hx hb rfl rfl (by first | exact (om_1947 ex_13 ex_14 hh_6 hw_11.1 rr_9.1 hw_11.2) | ((first | omega | (unfold zBd at *; omega)))) (by first | exact (om_1948 ex_13 ex_14 hw_4.2 hw_11.2 rr_9.1 hw_11.1) | ((first | omega | (unfold zBd at *; omega)))) dX2_timesIn_35 (fun x_15 ex_15 => ?_)
    refine lv_iconst (pc := 36) (v := 1) hx hb dX2_timesIn_36 (by decide) ?_
    refine b_isub (pc := 37) hx hb rfl tI_1 (by first | exact (om_1949 ex_13 ex_15 ex_14 hh_6 hw_11.1 rr_9.1 hw_11.2) | ((first | omega | (unfold zBd at *; omega)))) (by first | exact (om_1950 ex_13 ex_15 ex_14 hw_4.2 hw_11.2 rr_9.1 hw_11.1) | ((first | omega | (unfold zBd at *; omega)))) dX2_timesIn_37 (fun x_16 ex_16 => ?_)
    refine lv_iconst (pc := 38) (v := 2) hx hb dX2_timesIn_38 (by decide) ?_
    refine lv_iload_n (pc := 39) hx hb dX2_timesIn_39 rfl (lv_at hl 1 rfl) ?_
    refine b_imul (pc := 40) hx hb tI_2 rfl (by first | exact (om_1336 hh_6) | ((first | omega | (unfold zBd at *; omega)))) (by first | exact (om_1951 hw_4.2) | ((first | omega | (unfold zBd at *; omega)))) dX2_timesIn_40 (fun x_17 ex_17 => ?_)
    refine b_idiv (pc := 41) hx hb rfl rfl (by first | exact (om_1952 c_7 hh_6 ex_17) | ((first | omega | (unfold zBd at *; omega)))) (by first | exact (om_1953 c_7 ex_13 hh_6 hw_11.1 ex_16 ex_15 ex_14 rr_9.1) | ((first | omega | (unfold zBd at *; omega)))) dX2_timesIn_41 (fun x_18 ex_18 => ?_)
    refine lv_istore (pc := 42) (lv' := [(5, .int x_18), (4, .int r_9), (3, .int r_2), (0, .ref a0), (1, .int x0), (2, .int x1)]) hx hb dX2_timesIn_42 hl (by decide) rfl (fun ls hl => ?_)
    refine lv_iload (pc := 44) hx hb dX2_timesIn_44 (lv_at hl 1 rfl) ?_
    refine b_if_ge (pc := 46) (tgt := 55) hx hb rfl  dX2_timesIn_46 (by decide) (fun c_19 => ?_) (fun c_19 => ?_)
    ·
      refine lv_iload (pc := 55) hx hb dX2_timesIn_55 (lv_at hl 0 rfl) ?_
      exact hret x_18 ((fun _ => 0), (fun _ => (fun _ => 0)), (fun _ => (fun _ => 0)), (fun _ => 0), (fun _ => 0)) dX2_timesIn_57 ⟨(show ((-1199999) ≤ x_18.toInt ∧ x_18.toInt ≤ 1199999) from (by first | exact (om_1954 ex_18.1 ex_13 ex_18.2.1 ex_16 ex_15 ex_14 hw_4.2 hw_11.2 c_19) | ((first | omega | (unfold zBd at *; omega))))), (show tmQ (dtn f0 x0.toInt x1.toInt 6) (dtn f0 x1.toInt x1.toInt 6) x_18.toInt from tm_ok (P := x_13.toInt) (m := x_18.toInt) (y := x_17.toInt) (by (first | omega | (unfold zBd at *; omega))) (by (first | omega | (unfold zBd at *; omega))) (by (first | omega | (unfold zBd at *; omega))) (by (first | omega | (unfold zBd at *; omega))) (by (first | omega | (unfold zBd at *; omega))) (by (first | omega | (unfold zBd at *; omega))) (by (first | omega | (unfold zBd at *; omega)))), (show xtQ f0 x0.toInt x1.toInt x_18 from xt_ok hg_sh hw_5 hw_12 (P := x_13.toInt) (m := x_18.toInt) (y := x_17.toInt) (by (first | omega | (unfold zBd at *; omega))) (by (first | omega | (unfold zBd at *; omega))) (by (first | omega | (unfold zBd at *; omega))) (by (first | omega | (unfold zBd at *; omega))) (by (first | omega | (unfold zBd at *; omega))) (by (first | omega | (unfold zBd at *; omega))) (by (first | omega | (unfold zBd at *; omega))) (by (first | omega | (unfold zBd at *; omega))))⟩ (g_psub (wc := (zS_133 cB cC cI cJ a0 a1 a2 a3 x2 x3 x4 x5 x6 a1 a4 a4 f0)) hP [0, 1, 2] rfl) (hD.sub (ws' := (zS_133 cB cC cI cJ a0 a1 a2 a3 x2 x3 x4 x5 x6 a1 a4 a4 f0)) [0, 1, 2] (by decide) rfl) hS
    ·
      refine lv_iload (pc := 49) hx hb dX2_timesIn_49 (lv_at hl 0 rfl) ?_
      refine b_ineg (pc := 51) hx hb rfl (by first | exact (om_933 ex_18.1) | ((first | omega | (unfold zBd at *; omega)))) dX2_timesIn_51 (fun x_20 ex_20 => ?_)
      refine lv_goto (pc := 52) (tgt := 57) hx hb dX2_timesIn_52 (by decide) ?_
      exact hret x_20 ((fun _ => 0), (fun _ => (fun _ => 0)), (fun _ => (fun _ => 0)), (fun _ => 0), (fun _ => 0)) dX2_timesIn_57 ⟨(show ((-1199999) ≤ x_20.toInt ∧ x_20.toInt ≤ 1199999) from (by (first | omega | (unfold zBd at *; omega)))), (show tmQ (dtn f0 x0.toInt x1.toInt 6) (dtn f0 x1.toInt x1.toInt 6) x_20.toInt from tm_ok (P := x_13.toInt) (m := x_18.toInt) (y := x_17.toInt) (by (first | omega | (unfold zBd at *; omega))) (by (first | omega | (unfold zBd at *; omega))) (by (first | omega | (unfold zBd at *; omega))) (by (first | omega | (unfold zBd at *; omega))) (by (first | omega | (unfold zBd at *; omega))) (by (first | omega | (unfold zBd at *; omega))) (by (first | omega | (unfold zBd at *; omega)))), (show xtQ f0 x0.toInt x1.toInt x_20 from xt_ok hg_sh hw_5 hw_12 (P := x_13.toInt) (m := x_18.toInt) (y := x_17.toInt) (by (first | omega | (unfold zBd at *; omega))) (by (first | omega | (unfold zBd at *; omega))) (by (first | omega | (unfold zBd at *; omega))) (by (first | omega | (unfold zBd at *; omega))) (by (first | omega | (unfold zBd at *; omega))) (by (first | omega | (unfold zBd at *; omega))) (by (first | omega | (unfold zBd at *; omega))) (by (first | omega | (unfold zBd at *; omega))))⟩ (g_psub (wc := (zS_133 cB cC cI cJ a0 a1 a2 a3 x2 x3 x4 x5 x6 a1 a4 a4 f0)) hP [0, 1, 2] rfl) (hD.sub (ws' := (zS_133 cB cC cI cJ a0 a1 a2 a3 x2 x3 x4 x5 x6 a1 a4 a4 f0)) [0, 1, 2] (by decide) rfl) hS
  ·
    refine lv_iconst (pc := 14) (v := 0) hx hb dX2_timesIn_14 (by decide) ?_
    have k9 := tI_0
    exact hret 0 ((fun _ => 0), (fun _ => (fun _ => 0)), (fun _ => (fun _ => 0)), (fun _ => 0), (fun _ => 0)) dX2_timesIn_15 ⟨(show ((-1199999) ≤ (0 : Int32).toInt ∧ (0 : Int32).toInt ≤ 1199999) from (n_c tI_0 (by decide))), (show tmQ (dtn f0 x0.toInt x1.toInt 6) (dtn f0 x1.toInt x1.toInt 6) (0 : Int32).toInt from tm_0 (by first | exact (om_31 tI_0) | ((first | omega | (unfold zBd at *; omega))))), (show xtQ f0 x0.toInt x1.toInt 0 from xt_0 hg_sh hw_5 (by first | exact (om_1693 hp2.1 hp2.2) | ((first | omega | (unfold zBd at *; omega)))) (by first | exact (om_31 c_7) | ((first | omega | (unfold zBd at *; omega)))) tI_0)⟩ (g_psub (wc := (zS_133 cB cC cI cJ a0 a1 a2 a3 x2 x3 x4 x5 x6 a1 a4 a4 f0)) hP [0, 1, 2] rfl) (hD.sub (ws' := (zS_133 cB cC cI cJ a0 a1 a2 a3 x2 x3 x4 x5 x6 a1 a4 a4 f0)) [0, 1, 2] (by decide) rfl) hS
theorem om_1955 {a : Int} (h0 : (a ≤ 117)) : (a < (120 : Nat)) := by omega
theorem om_1956 {a : Int} (h0 : (a ≤ 117)) : (a + 1 ≤ 2147483647) := by omega
theorem om_1957 {a b : Int} (h0 : (a = b + 1)) (h1 : (b ≤ 117)) : (a < (120 : Nat)) := by omega
theorem om_1958 {a : Int} (h0 : ((-2147483648) ≤ a)) : (-2147483648 ≤ a + 2) := by omega
theorem om_1959 {a : Int} (h0 : (a ≤ 117)) : (a + 2 ≤ 2147483647) := by omega
theorem om_1960 {a b : Int} (h0 : (a = b + 2)) (h1 : (0 ≤ b)) : (0 ≤ a) := by omega
theorem om_1961 {a b : Int} (h0 : (a = b + 2)) (h1 : (b ≤ 117)) : (a < (120 : Nat)) := by omega
theorem om_1962 {a b : Int} (h0 : (a = b + 1)) (h1 : (0 ≤ b)) (h2 : (¬ b = 40)) (h3 : (b ≤ 40)) : ((0 ≤ a ∧ a ≤ 40)) := by omega
theorem om_1963 {a b c : Int} (h0 : (¬ c = 40)) (h1 : (a = c + 1)) (h2 : (b = 0)) (h3 : (c ≤ 40)) : ((a + b ≤ 40)) := by omega
theorem om_1964 {a : Int} (h0 : (a ≤ 39)) : (a + 1 ≤ 2147483647) := by omega
theorem om_1965 {a : Int} (h0 : (a = 40)) : (-2147483648 ≤ a - 1) := by omega
theorem om_1966 {a : Int} (h0 : (a = 40)) : (a - 1 ≤ 2147483647) := by omega
theorem om_1967 {a b : Int} (h0 : (a = b - 1)) (h1 : (b = 40)) : ((0 ≤ a ∧ a ≤ 40)) := by omega
theorem om_1968 {a b c : Int} (h0 : (a = c - 1)) (h1 : (b = 0)) (h2 : (c = 40)) : ((a + b ≤ 40)) := by omega
theorem om_1969 {a b : Int} (h0 : (a = b - 1)) (h1 : (b = 40)) : (-2147483648 ≤ a + 1) := by omega
theorem om_1970 {a b : Int} (h0 : (a = b - 1)) (h1 : (b = 40)) : (a + 1 ≤ 2147483647) := by omega
theorem om_1971 {a b c : Int} (h0 : (a = b + 1)) (h1 : (b = c - 1)) (h2 : (c = 40)) : ((0 ≤ a ∧ a ≤ 40)) := by omega
theorem om_1972 {a b c d : Int} (h0 : (a = c + 1)) (h1 : (b = 0)) (h2 : (c = d - 1)) (h3 : (d = 40)) : ((a + b ≤ 40)) := by omega
set_option maxHeartbeats 4000000 in
set_option maxRecDepth 100000 in
theorem k_X2_remember (l : Launch) (D : va_G) (cB cC cI cJ : ClassId) (sz : Nat) (a0 a1 a2 a3 : Nat) (x0 x1 x2 x3 x4 x5 x6 x7 : Int32) (f0 : Nat → Int32) (hp1 : (0 ≤ x0.toInt ∧ x0.toInt ≤ 4)) (hp2 : (0 ≤ x1.toInt ∧ x1.toInt ≤ 4)) (h_x3 : zBd x3.toInt (-1) 5) (h_x4 : zBd x4.toInt 0 39) (h_x5 : zBd x5.toInt 0 40) (h_x6 : zBd x6.toInt 0 40) (hr_a0_0 : (x5.toInt + x6.toInt ≤ 40)) : Met l yX2_remember (.code yX2_remember cX2_remember 5 none :: lw_gd) ({ frames := 1, cells := 0, slots := 0, locals := 21 }) (gPre D [(cB, .byte), (cC, .char), (cI, .int), (cJ, .long)] [.ref a0, .int x0, .int x1, .int x2] (zS_43 cB cC cI cJ a0 a1 a2 a3 x3 x4 x5 x6 x7 a3 f0) sz) (va_Qv (fun u => (0 ≤ (u.2.2.2.1 0).toInt ∧ (u.2.2.2.1 0).toInt ≤ 39) ∧ (0 ≤ (u.2.2.2.1 1).toInt ∧ (u.2.2.2.1 1).toInt ≤ 40) ∧ ((u.2.2.2.1 1).toInt + (0 : Int32).toInt ≤ 40) ∧ (remQ f0 (u.2.1 0) x4.toInt (u.2.2.2.1 0).toInt x5.toInt (u.2.2.2.1 1).toInt x0 x1 x2) ∧ ((0 : Int32).toInt = 0)) (gB D (va_A (zS_43 cB cC cI cJ a0 a1 a2 a3 x3 x4 x5 x6 x7 a3 f0) sz) (fun u : gEx => (zS_43 cB cC cI cJ a0 a1 a2 a3 x3 (u.2.2.2.1 0) (u.2.2.2.1 1) 0 x7 a3 (u.2.1 0)))) (va_A (zS_43 cB cC cI cJ a0 a1 a2 a3 x3 x4 x5 x6 x7 a3 f0) sz)) 0 0 (va_A (zS_43 cB cC cI cJ a0 a1 a2 a3 x3 x4 x5 x6 x7 a3 f0) sz) := by
  refine gOf_v (by decide +kernel) (Nat.le_of_ble_eq_true rfl) ?_
  intro p e s m args below meth c ls A Q hx hb hts hown hml hN hK hP hD hA hl hret
  replace hown : s.vm.findClass RX2 = some m.cls := hown
  have hS : va_S A s.heap s.heap [] := va_S.rf
  replace hP : va_P D gcl (zS_43 cB cC cI cJ a0 a1 a2 a3 x3 x4 x5 x6 x7 a3 f0) s.heap := hP
  replace hl : lv_has ls 5 [(0, .ref a0), (1, .int x0), (2, .int x1), (3, .int x2)] := hl
  have rx2 : zBd x2.toInt (-2147483648) 2147483647 := n_rng x2
  have rx7 : zBd x7.toInt (-2147483648) 2147483647 := n_rng x7
  refine lv_aload_n (pc := 0) hx hb dX2_remember_0 rfl (lv_at hl 0 rfl) ?_
  refine lv_iconst (pc := 1) (v := 0) hx hb dX2_remember_1 (by decide) ?_
  refine va_put (pc := 2) (ci := 2) (v := .int 0) (ty := .int) (C := RX2) (T := TX2) (N := 8) hx hb hts iX2 tyX2 tyX2_ok nmX2 hown hK hP hD hS 0 rfl rfl 6 (by decide) (hts _ tw_399) (fun _ h9 => h9) rfl (by decide +kernel) (by decide +kernel) (by decide +kernel) (Nat.le_of_ble_eq_true rfl) dX2_remember_2 (fun H locs hP hD hS => ?_)
  replace hP : va_P D gcl (zS_43 cB cC cI cJ a0 a1 a2 a3 x3 x4 x5 0 x7 a3 f0) H := hP
  replace hD : va_D A (zS_43 cB cC cI cJ a0 a1 a2 a3 x3 x4 x5 0 x7 a3 f0) := hD
  refine lv_aload_n (pc := 5) hx hb dX2_remember_5 rfl (lv_at hl 0 rfl) ?_
  refine va_get (pc := 6) (ci := 2) (v := .int x5) (C := RX2) (T := TX2) (N := 8) hx hb hts iX2 hown hK hP 0 rfl rfl 5 (by decide) (hts _ tw_397) (fun _ h9 => h9) rfl dX2_remember_6 ?_
  have bd_h_x5 : 0 ≤ x5.toInt ∧ x5.toInt ≤ 40 := h_x5
  refine lv_bipush (pc := 9) (v := 40) hx hb dX2_remember_9 (by decide) ?_
  refine b_icmp_ne (pc := 11) (tgt := 37) hx hb rfl tI_40  dX2_remember_11 (by decide) (fun c_1 => ?_) (fun c_1 => ?_)
  ·
    refine lv_aload_n (pc := 37) hx hb dX2_remember_37 rfl (lv_at hl 0 rfl) ?_
    refine lv_aload_n (pc := 38) hx hb dX2_remember_38 rfl (lv_at hl 0 rfl) ?_
    refine va_get (pc := 39) (ci := 2) (v := .int x5) (C := RX2) (T := TX2) (N := 8) hx hb hts iX2 hown hK hP 0 rfl rfl 5 (by decide) (hts _ tw_397) (fun _ h9 => h9) rfl dX2_remember_39 ?_
    refine gd_i (pc := 42) (wc := (zS_162 cB cC cI cJ a0 a1 a2 a3 x3 x4 x5 0 x7)) hP hD hS hA [0] rfl (by decide +kernel) (fun _ => by rfl) (fun hPc hDc => va_runV (As := [.int x5]) (rest := []) ⟨hx, hb, hml, hown, hts⟩ (k_X2_slot_x l D cB cC cI cJ _ a0 a1 a2 a3 x5 x3 x4 x5 0 x7 h_x5 h_x3 h_x4 h_x5 (n_c tI_0 (by decide)) (by first | exact (om_1703 h_x5.2 tI_0) | (have k0 := tI_0; (first | omega | (unfold zBd at *; omega))))) ⟨gcwB hts tw_1057 tw_13 tw_1054 hd_yX2_slot ⟨Nat.le_of_ble_eq_true rfl, Nat.le_of_ble_eq_true rfl⟩, hts _ tw_1056, hts _ tp_43⟩ ⟨gblind, va_recv hK hPc (ci := 2) (q0 := 0) rfl rfl, (gpreS hPc hK hDc hN).2⟩ rfl rfl hl.1 rfl (lv_room (Nat.le_of_ble_eq_true rfl)) dX2_remember_42 ⟨Nat.le_of_ble_eq_true rfl, Nat.le_of_ble_eq_true rfl⟩) (fun r_3 u_2 H locs hw_4 hP hD hS => ?_)
    replace hP : va_P D gcl (zS_43 cB cC cI cJ a0 a1 a2 a3 x3 x4 x5 0 x7 a3 f0) H := hP
    replace hD : va_D A (zS_43 cB cC cI cJ a0 a1 a2 a3 x3 x4 x5 0 x7 a3 f0) := hD
    obtain ⟨hw_5, hw_6⟩ := hw_4
    replace hw_5 : (0 ≤ r_3.toInt ∧ r_3.toInt ≤ 117) := hw_5
    replace hw_6 : (r_3.toInt = ((x4.toInt + x5.toInt) % 40) * 3) := hw_6
    have kk0_r_3 := tI_0
    have rr_3 : zBd r_3.toInt (-2147483648) 2147483647 := n_rng r_3
    refine lv_istore (pc := 45) (lv' := [(4, .int r_3), (0, .ref a0), (1, .int x0), (2, .int x1), (3, .int x2)]) hx hb dX2_remember_45 hl (by decide) rfl (fun ls hl => ?_)
    refine lv_aload_n (pc := 47) hx hb dX2_remember_47 rfl (lv_at hl 1 rfl) ?_
    refine va_get (pc := 48) (ci := 2) (v := .ref a3) (C := RX2) (T := TX2) (N := 8) hx hb hts iX2 hown hK hP 0 rfl rfl 2 (by decide) (hts _ tw_394) (fun _ h9 => h9) rfl dX2_remember_48 ?_
    refine lv_iload (pc := 51) hx hb dX2_remember_51 (lv_at hl 0 rfl) ?_
    refine lv_iload_n (pc := 53) hx hb dX2_remember_53 rfl (lv_at hl 2 rfl) ?_
    refine e_iastore (pc := 54) hx hb hK hP hD hS 1 2 rfl rfl (n_in rfl (by first | exact (om_0 hw_5.1) | ((first | omega | (unfold zBd at *; omega)))) (by first | exact (om_1955 hw_5.2) | ((first | omega | (unfold zBd at *; omega))))) dX2_remember_54 (fun f_7 ef_7 H locs hP hD hS => ?_)
    replace hP : va_P D gcl (zS_43 cB cC cI cJ a0 a1 a2 a3 x3 x4 x5 0 x7 a3 f_7) H := hP
    replace hD : va_D A (zS_43 cB cC cI cJ a0 a1 a2 a3 x3 x4 x5 0 x7 a3 f_7) := hD
    refine lv_aload_n (pc := 55) hx hb dX2_remember_55 rfl (lv_at hl 1 rfl) ?_
    refine va_get (pc := 56) (ci := 2) (v := .ref a3) (C := RX2) (T := TX2) (N := 8) hx hb hts iX2 hown hK hP 0 rfl rfl 2 (by decide) (hts _ tw_394) (fun _ h9 => h9) rfl dX2_remember_56 ?_
    refine lv_iload (pc := 59) hx hb dX2_remember_59 (lv_at hl 0 rfl) ?_
    refine lv_iconst (pc := 61) (v := 1) hx hb dX2_remember_61 (by decide) ?_
    refine b_iadd (pc := 62) hx hb rfl tI_1 (by first | exact (om_561 rr_3.1) | ((first | omega | (unfold zBd at *; omega)))) (by first | exact (om_1956 hw_5.2) | ((first | omega | (unfold zBd at *; omega)))) dX2_remember_62 (fun x_8 ex_8 => ?_)
    refine lv_iload_n (pc := 63) hx hb dX2_remember_63 rfl (lv_at hl 3 rfl) ?_
    refine e_iastore (pc := 64) hx hb hK hP hD hS 1 2 rfl rfl (n_in rfl (by first | exact (om_917 ex_8 hw_5.1) | ((first | omega | (unfold zBd at *; omega)))) (by first | exact (om_1957 ex_8 hw_5.2) | ((first | omega | (unfold zBd at *; omega))))) dX2_remember_64 (fun f_9 ef_9 H locs hP hD hS => ?_)
    replace hP : va_P D gcl (zS_43 cB cC cI cJ a0 a1 a2 a3 x3 x4 x5 0 x7 a3 f_9) H := hP
    replace hD : va_D A (zS_43 cB cC cI cJ a0 a1 a2 a3 x3 x4 x5 0 x7 a3 f_9) := hD
    refine lv_aload_n (pc := 65) hx hb dX2_remember_65 rfl (lv_at hl 1 rfl) ?_
    refine va_get (pc := 66) (ci := 2) (v := .ref a3) (C := RX2) (T := TX2) (N := 8) hx hb hts iX2 hown hK hP 0 rfl rfl 2 (by decide) (hts _ tw_394) (fun _ h9 => h9) rfl dX2_remember_66 ?_
    refine lv_iload (pc := 69) hx hb dX2_remember_69 (lv_at hl 0 rfl) ?_
    refine lv_iconst (pc := 71) (v := 2) hx hb dX2_remember_71 (by decide) ?_
    refine b_iadd (pc := 72) hx hb rfl tI_2 (by first | exact (om_1958 rr_3.1) | ((first | omega | (unfold zBd at *; omega)))) (by first | exact (om_1959 hw_5.2) | ((first | omega | (unfold zBd at *; omega)))) dX2_remember_72 (fun x_10 ex_10 => ?_)
    refine lv_iload_n (pc := 73) hx hb dX2_remember_73 rfl (lv_at hl 4 rfl) ?_
    refine e_iastore (pc := 74) hx hb hK hP hD hS 1 2 rfl rfl (n_in rfl (by first | exact (om_1960 ex_10 hw_5.1) | ((first | omega | (unfold zBd at *; omega)))) (by first | exact (om_1961 ex_10 hw_5.2) | ((first | omega | (unfold zBd at *; omega))))) dX2_remember_74 (fun f_11 ef_11 H locs hP hD hS => ?_)
    replace hP : va_P D gcl (zS_43 cB cC cI cJ a0 a1 a2 a3 x3 x4 x5 0 x7 a3 f_11) H := hP
    replace hD : va_D A (zS_43 cB cC cI cJ a0 a1 a2 a3 x3 x4 x5 0 x7 a3 f_11) := hD
    refine lv_aload_n (pc := 75) hx hb dX2_remember_75 rfl (lv_at hl 1 rfl) ?_
    refine lv_dup (pc := 76) hx hb dX2_remember_76 rfl ?_
    refine va_get (pc := 77) (ci := 2) (v := .int x5) (C := RX2) (T := TX2) (N := 8) hx hb hts iX2 hown hK hP 0 rfl rfl 5 (by decide) (hts _ tw_397) (fun _ h9 => h9) rfl dX2_remember_77 ?_
    refine lv_iconst (pc := 80) (v := 1) hx hb dX2_remember_80 (by decide) ?_
    refine b_iadd (pc := 81) hx hb rfl tI_1 (by first | exact (om_2 h_x5.1) | ((first | omega | (unfold zBd at *; omega)))) (by first | exact (om_1719 h_x5.2) | ((first | omega | (unfold zBd at *; omega)))) dX2_remember_81 (fun x_12 ex_12 => ?_)
    refine va_put (pc := 82) (ci := 2) (v := .int x_12) (ty := .int) (C := RX2) (T := TX2) (N := 8) hx hb hts iX2 tyX2 tyX2_ok nmX2 hown hK hP hD hS 0 rfl rfl 5 (by decide) (hts _ tw_397) (fun _ h9 => h9) rfl (by decide +kernel) rfl rfl (Nat.le_of_ble_eq_true rfl) dX2_remember_82 (fun H locs hP hD hS => ?_)
    replace hP : va_P D gcl (zS_43 cB cC cI cJ a0 a1 a2 a3 x3 x4 x_12 0 x7 a3 f_11) H := hP
    replace hD : va_D A (zS_43 cB cC cI cJ a0 a1 a2 a3 x3 x4 x_12 0 x7 a3 f_11) := hD
    have k8_0 := tI_0
    exact hret ((fun _ => 0), (fun k => [f_11].getD k (fun _ => 0)), (fun _ => (fun _ => 0)), (fun k => [x4, x_12].getD k 0), (fun _ => 0)) dX2_remember_85 ⟨(show (0 ≤ (x4 : Int32).toInt ∧ (x4 : Int32).toInt ≤ 39) from h_x4), (show (0 ≤ (x_12 : Int32).toInt ∧ (x_12 : Int32).toInt ≤ 40) from (by first | exact (om_1962 ex_12 h_x5.1 c_1 h_x5.2) | (have k8_0 := tI_0; (first | omega | (unfold zBd at *; omega))))), (show ((x_12 : Int32).toInt + (0 : Int32).toInt ≤ 40) from (by first | exact (om_1963 c_1 ex_12 tI_0 h_x5.2) | (have k8_0 := tI_0; (first | omega | (unfold zBd at *; omega))))), (show remQ f0 f_11 x4.toInt x4.toInt x5.toInt x_12.toInt x0 x1 x2 from ⟨r_3.toInt, (by rw [e_at ef_11 (show _ = r_3.toInt + 2 by (first | omega | (unfold zBd at *; omega))), e_at ef_9 (show _ = r_3.toInt + 1 by (first | omega | (unfold zBd at *; omega))), ef_7]), (by (first | omega | (unfold zBd at *; omega)))⟩), (show (0 : Int32).toInt = 0 from (by first | exact (om_31 tI_0) | (have k8_0 := tI_0; (first | omega | (unfold zBd at *; omega)))))⟩ (g_psub (wc := (zS_43 cB cC cI cJ a0 a1 a2 a3 x3 x4 x_12 0 x7 a3 f_11)) hP [0, 1] rfl) (hD.sub (ws' := (zS_43 cB cC cI cJ a0 a1 a2 a3 x3 x4 x_12 0 x7 a3 f_11)) [0, 1] (by decide) rfl) hS
  ·
    refine lv_aload_n (pc := 14) hx hb dX2_remember_14 rfl (lv_at hl 0 rfl) ?_
    refine lv_aload_n (pc := 15) hx hb dX2_remember_15 rfl (lv_at hl 0 rfl) ?_
    refine va_get (pc := 16) (ci := 2) (v := .int x4) (C := RX2) (T := TX2) (N := 8) hx hb hts iX2 hown hK hP 0 rfl rfl 4 (by decide) (hts _ tw_396) (fun _ h9 => h9) rfl dX2_remember_16 ?_
    have bd_h_x4 : 0 ≤ x4.toInt ∧ x4.toInt ≤ 39 := h_x4
    refine lv_iconst (pc := 19) (v := 1) hx hb dX2_remember_19 (by decide) ?_
    refine b_iadd (pc := 20) hx hb rfl tI_1 (by first | exact (om_2 h_x4.1) | ((first | omega | (unfold zBd at *; omega)))) (by first | exact (om_1964 h_x4.2) | ((first | omega | (unfold zBd at *; omega)))) dX2_remember_20 (fun x_13 ex_13 => ?_)
    refine lv_bipush (pc := 21) (v := 40) hx hb dX2_remember_21 (by decide) ?_
    refine c_irem (pc := 23) hx hb rfl tI_40 (by first | exact (om_1386) | ((first | omega | (unfold zBd at *; omega)))) (by first | exact (om_917 ex_13 h_x4.1) | ((first | omega | (unfold zBd at *; omega)))) dX2_remember_23 (fun x_14 ex_14 => ?_)
    refine va_put (pc := 24) (ci := 2) (v := .int x_14) (ty := .int) (C := RX2) (T := TX2) (N := 8) hx hb hts iX2 tyX2 tyX2_ok nmX2 hown hK hP hD hS 0 rfl rfl 4 (by decide) (hts _ tw_396) (fun _ h9 => h9) rfl (by decide +kernel) rfl rfl (Nat.le_of_ble_eq_true rfl) dX2_remember_24 (fun H locs hP hD hS => ?_)
    replace hP : va_P D gcl (zS_43 cB cC cI cJ a0 a1 a2 a3 x3 x_14 x5 0 x7 a3 f0) H := hP
    replace hD : va_D A (zS_43 cB cC cI cJ a0 a1 a2 a3 x3 x_14 x5 0 x7 a3 f0) := hD
    refine lv_aload_n (pc := 27) hx hb dX2_remember_27 rfl (lv_at hl 0 rfl) ?_
    refine lv_dup (pc := 28) hx hb dX2_remember_28 rfl ?_
    refine va_get (pc := 29) (ci := 2) (v := .int x5) (C := RX2) (T := TX2) (N := 8) hx hb hts iX2 hown hK hP 0 rfl rfl 5 (by decide) (hts _ tw_397) (fun _ h9 => h9) rfl dX2_remember_29 ?_
    refine lv_iconst (pc := 32) (v := 1) hx hb dX2_remember_32 (by decide) ?_
    refine b_isub (pc := 33) hx hb rfl tI_1 (by first | exact (om_1965 c_1) | ((first | omega | (unfold zBd at *; omega)))) (by first | exact (om_1966 c_1) | ((first | omega | (unfold zBd at *; omega)))) dX2_remember_33 (fun x_15 ex_15 => ?_)
    refine va_put (pc := 34) (ci := 2) (v := .int x_15) (ty := .int) (C := RX2) (T := TX2) (N := 8) hx hb hts iX2 tyX2 tyX2_ok nmX2 hown hK hP hD hS 0 rfl rfl 5 (by decide) (hts _ tw_397) (fun _ h9 => h9) rfl (by decide +kernel) rfl rfl (Nat.le_of_ble_eq_true rfl) dX2_remember_34 (fun H locs hP hD hS => ?_)
    replace hP : va_P D gcl (zS_43 cB cC cI cJ a0 a1 a2 a3 x3 x_14 x_15 0 x7 a3 f0) H := hP
    replace hD : va_D A (zS_43 cB cC cI cJ a0 a1 a2 a3 x3 x_14 x_15 0 x7 a3 f0) := hD
    refine lv_aload_n (pc := 37) hx hb dX2_remember_37 rfl (lv_at hl 0 rfl) ?_
    refine lv_aload_n (pc := 38) hx hb dX2_remember_38 rfl (lv_at hl 0 rfl) ?_
    refine va_get (pc := 39) (ci := 2) (v := .int x_15) (C := RX2) (T := TX2) (N := 8) hx hb hts iX2 hown hK hP 0 rfl rfl 5 (by decide) (hts _ tw_397) (fun _ h9 => h9) rfl dX2_remember_39 ?_
    refine gd_i (pc := 42) (wc := (zS_162 cB cC cI cJ a0 a1 a2 a3 x3 x_14 x_15 0 x7)) hP hD hS hA [0] rfl (by decide +kernel) (fun _ => by rfl) (fun hPc hDc => va_runV (As := [.int x_15]) (rest := []) ⟨hx, hb, hml, hown, hts⟩ (k_X2_slot_x l D cB cC cI cJ _ a0 a1 a2 a3 x_15 x3 x_14 x_15 0 x7 (by first | exact (om_1967 ex_15 c_1) | (have k0 := tI_0; (first | omega | (unfold zBd at *; omega)))) h_x3 (by have k0 := tI_0; (first | omega | (unfold zBd at *; omega))) (by first | exact (om_1967 ex_15 c_1) | (have k0 := tI_0; (first | omega | (unfold zBd at *; omega)))) (n_c tI_0 (by decide)) (by first | exact (om_1968 ex_15 tI_0 c_1) | (have k0 := tI_0; (first | omega | (unfold zBd at *; omega))))) ⟨gcwB hts tw_1057 tw_13 tw_1054 hd_yX2_slot ⟨Nat.le_of_ble_eq_true rfl, Nat.le_of_ble_eq_true rfl⟩, hts _ tw_1056, hts _ tp_43⟩ ⟨gblind, va_recv hK hPc (ci := 2) (q0 := 0) rfl rfl, (gpreS hPc hK hDc hN).2⟩ rfl rfl hl.1 rfl (lv_room (Nat.le_of_ble_eq_true rfl)) dX2_remember_42 ⟨Nat.le_of_ble_eq_true rfl, Nat.le_of_ble_eq_true rfl⟩) (fun r_17 u_16 H locs hw_18 hP hD hS => ?_)
    replace hP : va_P D gcl (zS_43 cB cC cI cJ a0 a1 a2 a3 x3 x_14 x_15 0 x7 a3 f0) H := hP
    replace hD : va_D A (zS_43 cB cC cI cJ a0 a1 a2 a3 x3 x_14 x_15 0 x7 a3 f0) := hD
    obtain ⟨hw_19, hw_20⟩ := hw_18
    replace hw_19 : (0 ≤ r_17.toInt ∧ r_17.toInt ≤ 117) := hw_19
    replace hw_20 : (r_17.toInt = ((x_14.toInt + x_15.toInt) % 40) * 3) := hw_20
    have kk0_r_17 := tI_0
    have rr_17 : zBd r_17.toInt (-2147483648) 2147483647 := n_rng r_17
    refine lv_istore (pc := 45) (lv' := [(4, .int r_17), (0, .ref a0), (1, .int x0), (2, .int x1), (3, .int x2)]) hx hb dX2_remember_45 hl (by decide) rfl (fun ls hl => ?_)
    refine lv_aload_n (pc := 47) hx hb dX2_remember_47 rfl (lv_at hl 1 rfl) ?_
    refine va_get (pc := 48) (ci := 2) (v := .ref a3) (C := RX2) (T := TX2) (N := 8) hx hb hts iX2 hown hK hP 0 rfl rfl 2 (by decide) (hts _ tw_394) (fun _ h9 => h9) rfl dX2_remember_48 ?_
    refine lv_iload (pc := 51) hx hb dX2_remember_51 (lv_at hl 0 rfl) ?_
    refine lv_iload_n (pc := 53) hx hb dX2_remember_53 rfl (lv_at hl 2 rfl) ?_
    refine e_iastore (pc := 54) hx hb hK hP hD hS 1 2 rfl rfl (n_in rfl (by first | exact (om_0 hw_19.1) | ((first | omega | (unfold zBd at *; omega)))) (by first | exact (om_1955 hw_19.2) | ((first | omega | (unfold zBd at *; omega))))) dX2_remember_54 (fun f_21 ef_21 H locs hP hD hS => ?_)
    replace hP : va_P D gcl (zS_43 cB cC cI cJ a0 a1 a2 a3 x3 x_14 x_15 0 x7 a3 f_21) H := hP
    replace hD : va_D A (zS_43 cB cC cI cJ a0 a1 a2 a3 x3 x_14 x_15 0 x7 a3 f_21) := hD
    refine lv_aload_n (pc := 55) hx hb dX2_remember_55 rfl (lv_at hl 1 rfl) ?_
    refine va_get (pc := 56) (ci := 2) (v := .ref a3) (C := RX2) (T := TX2) (N := 8) hx hb hts iX2 hown hK hP 0 rfl rfl 2 (by decide) (hts _ tw_394) (fun _ h9 => h9) rfl dX2_remember_56 ?_
    refine lv_iload (pc := 59) hx hb dX2_remember_59 (lv_at hl 0 rfl) ?_
    refine lv_iconst (pc := 61) (v := 1) hx hb dX2_remember_61 (by decide) ?_
    refine b_iadd (pc := 62) hx hb rfl tI_1 (by first | exact (om_561 rr_17.1) | ((first | omega | (unfold zBd at *; omega)))) (by first | exact (om_1956 hw_19.2) | ((first | omega | (unfold zBd at *; omega)))) dX2_remember_62 (fun x_22 ex_22 => ?_)
    refine lv_iload_n (pc := 63) hx hb dX2_remember_63 rfl (lv_at hl 3 rfl) ?_
    refine e_iastore (pc := 64) hx hb hK hP hD hS 1 2 rfl rfl (n_in rfl (by first | exact (om_917 ex_22 hw_19.1) | ((first | omega | (unfold zBd at *; omega)))) (by first | exact (om_1957 ex_22 hw_19.2) | ((first | omega | (unfold zBd at *; omega))))) dX2_remember_64 (fun f_23 ef_23 H locs hP hD hS => ?_)
    replace hP : va_P D gcl (zS_43 cB cC cI cJ a0 a1 a2 a3 x3 x_14 x_15 0 x7 a3 f_23) H := hP
    replace hD : va_D A (zS_43 cB cC cI cJ a0 a1 a2 a3 x3 x_14 x_15 0 x7 a3 f_23) := hD
    refine lv_aload_n (pc := 65) hx hb dX2_remember_65 rfl (lv_at hl 1 rfl) ?_
    refine va_get (pc := 66) (ci := 2) (v := .ref a3) (C := RX2) (T := TX2) (N := 8) hx hb hts iX2 hown hK hP 0 rfl rfl 2 (by decide) (hts _ tw_394) (fun _ h9 => h9) rfl dX2_remember_66 ?_
    refine lv_iload (pc := 69) hx hb dX2_remember_69 (lv_at hl 0 rfl) ?_
    refine lv_iconst (pc := 71) (v := 2) hx hb dX2_remember_71 (by decide) ?_
    refine b_iadd (pc := 72) hx hb rfl tI_2 (by first | exact (om_1958 rr_17.1) | ((first | omega | (unfold zBd at *; omega)))) (by first | exact (om_1959 hw_19.2) | ((first | omega | (unfold zBd at *; omega)))) dX2_remember_72 (fun x_24 ex_24 => ?_)
    refine lv_iload_n (pc := 73) hx hb dX2_remember_73 rfl (lv_at hl 4 rfl) ?_
    refine e_iastore (pc := 74) hx hb hK hP hD hS 1 2 rfl rfl (n_in rfl (by first | exact (om_1960 ex_24 hw_19.1) | ((first | omega | (unfold zBd at *; omega)))) (by first | exact (om_1961 ex_24 hw_19.2) | ((first | omega | (unfold zBd at *; omega))))) dX2_remember_74 (fun f_25 ef_25 H locs hP hD hS => ?_)
    replace hP : va_P D gcl (zS_43 cB cC cI cJ a0 a1 a2 a3 x3 x_14 x_15 0 x7 a3 f_25) H := hP
    replace hD : va_D A (zS_43 cB cC cI cJ a0 a1 a2 a3 x3 x_14 x_15 0 x7 a3 f_25) := hD
    refine lv_aload_n (pc := 75) hx hb dX2_remember_75 rfl (lv_at hl 1 rfl) ?_
    refine lv_dup (pc := 76) hx hb dX2_remember_76 rfl ?_
    refine va_get (pc := 77) (ci := 2) (v := .int x_15) (C := RX2) (T := TX2) (N := 8) hx hb hts iX2 hown hK hP 0 rfl rfl 5 (by decide) (hts _ tw_397) (fun _ h9 => h9) rfl dX2_remember_77 ?_
    refine lv_iconst (pc := 80) (v := 1) hx hb dX2_remember_80 (by decide) ?_
    refine b_iadd (pc := 81) hx hb rfl tI_1 (by first | exact (om_1969 ex_15 c_1) | ((first | omega | (unfold zBd at *; omega)))) (by first | exact (om_1970 ex_15 c_1) | ((first | omega | (unfold zBd at *; omega)))) dX2_remember_81 (fun x_26 ex_26 => ?_)
    refine va_put (pc := 82) (ci := 2) (v := .int x_26) (ty := .int) (C := RX2) (T := TX2) (N := 8) hx hb hts iX2 tyX2 tyX2_ok nmX2 hown hK hP hD hS 0 rfl rfl 5 (by decide) (hts _ tw_397) (fun _ h9 => h9) rfl (by decide +kernel) rfl rfl (Nat.le_of_ble_eq_true rfl) dX2_remember_82 (fun H locs hP hD hS => ?_)
    replace hP : va_P D gcl (zS_43 cB cC cI cJ a0 a1 a2 a3 x3 x_14 x_26 0 x7 a3 f_25) H := hP
    replace hD : va_D A (zS_43 cB cC cI cJ a0 a1 a2 a3 x3 x_14 x_26 0 x7 a3 f_25) := hD
    have k8_0 := tI_0
    exact hret ((fun _ => 0), (fun k => [f_25].getD k (fun _ => 0)), (fun _ => (fun _ => 0)), (fun k => [x_14, x_26].getD k 0), (fun _ => 0)) dX2_remember_85 ⟨(show (0 ≤ (x_14 : Int32).toInt ∧ (x_14 : Int32).toInt ≤ 39) from (by have k8_0 := tI_0; (first | omega | (unfold zBd at *; omega)))), (show (0 ≤ (x_26 : Int32).toInt ∧ (x_26 : Int32).toInt ≤ 40) from (by first | exact (om_1971 ex_26 ex_15 c_1) | (have k8_0 := tI_0; (first | omega | (unfold zBd at *; omega))))), (show ((x_26 : Int32).toInt + (0 : Int32).toInt ≤ 40) from (by first | exact (om_1972 ex_26 tI_0 ex_15 c_1) | (have k8_0 := tI_0; (first | omega | (unfold zBd at *; omega))))), (show remQ f0 f_25 x4.toInt x_14.toInt x5.toInt x_26.toInt x0 x1 x2 from ⟨r_17.toInt, (by rw [e_at ef_25 (show _ = r_17.toInt + 2 by (first | omega | (unfold zBd at *; omega))), e_at ef_23 (show _ = r_17.toInt + 1 by (first | omega | (unfold zBd at *; omega))), ef_21]), (by (first | omega | (unfold zBd at *; omega)))⟩), (show (0 : Int32).toInt = 0 from (by first | exact (om_31 tI_0) | (have k8_0 := tI_0; (first | omega | (unfold zBd at *; omega)))))⟩ (g_psub (wc := (zS_43 cB cC cI cJ a0 a1 a2 a3 x3 x_14 x_26 0 x7 a3 f_25)) hP [0, 1] rfl) (hD.sub (ws' := (zS_43 cB cC cI cJ a0 a1 a2 a3 x3 x_14 x_26 0 x7 a3 f_25)) [0, 1] (by decide) rfl) hS
theorem om_1973 {a : Int} (h0 : (a < 6)) : (a < 6) := by omega
set_option maxHeartbeats 4000000 in
set_option maxRecDepth 100000 in
theorem k_X8_takeAway_e (l : Launch) (D : va_G) (cB cC cI cJ : ClassId) (sz : Nat) (a0 a1 : Nat) (x0 x1 x2 : Int32) (f0 : Nat → Int32) (hp1 : (0 ≤ x0.toInt ∧ x0.toInt ≤ 4)) (hp2 : (0 ≤ x1.toInt ∧ x1.toInt ≤ 4)) (hg__ne : ¬ x0.toInt = x1.toInt) : Met l yX8_takeAway (.code yX8_takeAway cX8_takeAway 5 none :: lw_gd) ({ frames := 1, cells := 0, slots := 0, locals := 23 }) (gPre D [(cB, .byte), (cC, .char), (cI, .int), (cJ, .long)] [.ref a0, .int x0, .int x1, .int x2] [(a0, .inr (8, [.ref a1])), (a1, .inl (cI, 30, .inl f0))] sz) (va_Qv (fun u => (taQ f0 (u.2.1 0) x0.toInt x1.toInt x2 6)) (gB D (va_A [(a0, .inr (8, [.ref a1])), (a1, .inl (cI, 30, .inl f0))] sz) (fun u : gEx => [(a0, .inr (8, [.ref a1])), (a1, .inl (cI, 30, .inl (u.2.1 0)))])) (va_A [(a0, .inr (8, [.ref a1])), (a1, .inl (cI, 30, .inl f0))] sz)) 0 0 (va_A [(a0, .inr (8, [.ref a1])), (a1, .inl (cI, 30, .inl f0))] sz) := by
  refine gOf_v (by decide +kernel) (Nat.le_of_ble_eq_true rfl) ?_
  intro p e s m args below meth c ls A Q hx hb hts hown hml hN hK hP hD hA hl hret
  replace hown : s.vm.findClass RX8 = some m.cls := hown
  have hS : va_S A s.heap s.heap [] := va_S.rf
  replace hP : va_P D gcl [(a0, .inr (8, [.ref a1])), (a1, .inl (cI, 30, .inl f0))] s.heap := hP
  replace hl : lv_has ls 5 [(0, .ref a0), (1, .int x0), (2, .int x1), (3, .int x2)] := hl
  have rx2 : zBd x2.toInt (-2147483648) 2147483647 := n_rng x2
  refine lv_iconst (pc := 0) (v := 0) hx hb dX8_takeAway_0 (by decide) ?_
  refine lv_istore (pc := 1) (lv' := [(4, .int 0), (0, .ref a0), (1, .int x0), (2, .int x1), (3, .int x2)]) hx hb dX8_takeAway_1 hl (by decide) rfl (fun ls hl => ?_)
  have lp_5 : ∀ (n : Nat) (x_1 : Int32) (f_3 : Nat → Int32) (H : Heap) (locs : List Loc) (ls : Array Slot), (0 ≤ x_1.toInt ∧ x_1.toInt ≤ 6) → (taQ f0 f_3 x0.toInt x1.toInt x2 x_1.toInt) → (2147483647 - x_1.toInt).toNat < n → va_P D gcl [(a0, .inr (8, [.ref a1])), (a1, .inl (cI, 30, .inl f_3))] H → va_D A [(a0, .inr (8, [.ref a1])), (a1, .inl (cI, 30, .inl f_3))] → va_S A s.heap H locs → lv_has ls 5 [(4, .int x_1), (0, .ref a0), (1, .int x0), (2, .int x1), (3, .int x2)] → W p l e ({ frames := 1, cells := 0, slots := 0, locals := 23 }) s m args below meth c H locs 0 0 Q (F0 m 3 ls []) := by
    intro n
    induction n with
    | zero => intro x_1 f_3 H locs ls hi_2 hi_4 hmu; exact absurd hmu (Nat.not_lt_zero _)
    | succ n ih_lp_5 =>
      intro x_1 f_3 H locs ls hi_2 hi_4 hmu_lp_5 hP hD hS hl
      refine lv_iload (pc := 3) hx hb dX8_takeAway_3 (lv_at hl 0 rfl) ?_
      refine lv_bipush (pc := 5) (v := 6) hx hb dX8_takeAway_5 (by decide) ?_
      refine b_icmp_ge (pc := 7) (tgt := 40) hx hb rfl tI_6  dX8_takeAway_7 (by decide) (fun c_6 => ?_) (fun c_6 => ?_)
      ·
        exact hret ((fun _ => 0), (fun k => [f_3].getD k (fun _ => 0)), (fun _ => (fun _ => 0)), (fun _ => 0), (fun _ => 0)) dX8_takeAway_40 (show taQ f0 f_3 x0.toInt x1.toInt x2 6 from (by have e9 : x_1.toInt = 6 := (by (first | omega | (unfold zBd at *; omega))); have q9 := hi_4; rw [e9] at q9; exact q9)) (g_psub (wc := [(a0, .inr (8, [.ref a1])), (a1, .inl (cI, 30, .inl f_3))]) hP [0, 1] rfl) (hD.sub (ws' := [(a0, .inr (8, [.ref a1])), (a1, .inl (cI, 30, .inl f_3))]) [0, 1] (by decide) rfl) hS
      ·
        refine lv_aload_n (pc := 10) hx hb dX8_takeAway_10 rfl (lv_at hl 1 rfl) ?_
        refine lv_iload (pc := 11) hx hb dX8_takeAway_11 (lv_at hl 0 rfl) ?_
        refine lv_iload_n (pc := 13) hx hb dX8_takeAway_13 rfl (lv_at hl 2 rfl) ?_
        refine lv_aload_n (pc := 14) hx hb dX8_takeAway_14 rfl (lv_at hl 1 rfl) ?_
        refine lv_iload (pc := 15) hx hb dX8_takeAway_15 (lv_at hl 0 rfl) ?_
        refine lv_iload_n (pc := 17) hx hb dX8_takeAway_17 rfl (lv_at hl 2 rfl) ?_
        refine gd_i (pc := 18) (wc := [(a0, .inr (8, [.ref a1])), (a1, .inl (cI, 30, .inl f_3))]) hP hD hS hA [0, 1] rfl (by decide +kernel) (fun _ => by rfl) (fun hPc hDc => va_runV (As := [.int x_1, .int x0]) (rest := [.int x0, .int x_1, .ref a0]) ⟨hx, hb, hml, hown, hts⟩ (k_X8_at_e l D cB cC cI cJ _ a0 a1 x_1 x0 f_3 (by first | exact (om_1018 hi_2.1 c_6) | ((first | omega | (unfold zBd at *; omega)))) hp1) ⟨gcwB hts tw_791 tw_5 tw_800 hd_yX8_at ⟨Nat.le_of_ble_eq_true rfl, Nat.le_of_ble_eq_true rfl⟩, hts _ tw_789, hts _ tw_790⟩ ⟨gblind, va_recv hK hPc (ci := 8) (q0 := 0) rfl rfl, (gpreS hPc hK hDc hN).2⟩ rfl rfl hl.1 rfl (lv_room (Nat.le_of_ble_eq_true rfl)) dX8_takeAway_18 ⟨Nat.le_of_ble_eq_true rfl, Nat.le_of_ble_eq_true rfl⟩) (fun r_8 u_7 H locs hw_9 hP hD hS => ?_)
        replace hP : va_P D gcl [(a0, .inr (8, [.ref a1])), (a1, .inl (cI, 30, .inl f_3))] H := hP
        replace hD : va_D A [(a0, .inr (8, [.ref a1])), (a1, .inl (cI, 30, .inl f_3))] := hD
        have hw_10 : (r_8 = f_3 (6 * x0.toInt + x_1.toInt).toNat) := hw_9
        have rr_8 : zBd r_8.toInt (-2147483648) 2147483647 := n_rng r_8
        refine lv_iload_n (pc := 21) hx hb dX8_takeAway_21 rfl (lv_at hl 4 rfl) ?_
        refine lv_aload_n (pc := 22) hx hb dX8_takeAway_22 rfl (lv_at hl 1 rfl) ?_
        refine lv_iload (pc := 23) hx hb dX8_takeAway_23 (lv_at hl 0 rfl) ?_
        refine lv_iload_n (pc := 25) hx hb dX8_takeAway_25 rfl (lv_at hl 3 rfl) ?_
        refine gd_i (pc := 26) (wc := [(a0, .inr (8, [.ref a1])), (a1, .inl (cI, 30, .inl f_3))]) hP hD hS hA [0, 1] rfl (by decide +kernel) (fun _ => by rfl) (fun hPc hDc => va_runV (As := [.int x_1, .int x1]) (rest := [.int x2, .int r_8, .int x0, .int x_1, .ref a0]) ⟨hx, hb, hml, hown, hts⟩ (k_X8_at_e l D cB cC cI cJ _ a0 a1 x_1 x1 f_3 (by first | exact (om_1018 hi_2.1 c_6) | ((first | omega | (unfold zBd at *; omega)))) hp2) ⟨gcwB hts tw_791 tw_5 tw_800 hd_yX8_at ⟨Nat.le_of_ble_eq_true rfl, Nat.le_of_ble_eq_true rfl⟩, hts _ tw_789, hts _ tw_790⟩ ⟨gblind, va_recv hK hPc (ci := 8) (q0 := 0) rfl rfl, (gpreS hPc hK hDc hN).2⟩ rfl rfl hl.1 rfl (lv_room (Nat.le_of_ble_eq_true rfl)) dX8_takeAway_26 ⟨Nat.le_of_ble_eq_true rfl, Nat.le_of_ble_eq_true rfl⟩) (fun r_12 u_11 H locs hw_13 hP hD hS => ?_)
        replace hP : va_P D gcl [(a0, .inr (8, [.ref a1])), (a1, .inl (cI, 30, .inl f_3))] H := hP
        replace hD : va_D A [(a0, .inr (8, [.ref a1])), (a1, .inl (cI, 30, .inl f_3))] := hD
        have hw_14 : (r_12 = f_3 (6 * x1.toInt + x_1.toInt).toNat) := hw_13
        have rr_12 : zBd r_12.toInt (-2147483648) 2147483647 := n_rng r_12
        refine lv_imul (pc := 29) hx hb dX8_takeAway_29 ?_
        refine lv_topi (fun x_15 ex_15 => ?_)
        have rx_15 : zBd x_15.toInt (-2147483648) 2147483647 := n_rng x_15
        refine lv_isub (pc := 30) hx hb dX8_takeAway_30 ?_
        refine lv_topi (fun x_16 ex_16 => ?_)
        have rx_16 : zBd x_16.toInt (-2147483648) 2147483647 := n_rng x_16
        refine gd_v (pc := 31) (wc := [(a0, .inr (8, [.ref a1])), (a1, .inl (cI, 30, .inl f_3))]) hP hD hS hA [0, 1] rfl (by decide +kernel) (fun _ => by rfl) (fun hPc hDc => va_runV (As := [.int x_1, .int x0, .int x_16]) (rest := []) ⟨hx, hb, hml, hown, hts⟩ (k_X8_setAt_e l D cB cC cI cJ _ a0 a1 x_1 x0 x_16 f_3 (by first | exact (om_1018 hi_2.1 c_6) | ((first | omega | (unfold zBd at *; omega)))) hp1) ⟨gcwB hts tw_637 tw_5 tw_1066 hd_yX8_setAt ⟨Nat.le_of_ble_eq_true rfl, Nat.le_of_ble_eq_true rfl⟩, hts _ tw_635, hts _ tw_636⟩ ⟨gblind, va_recv hK hPc (ci := 8) (q0 := 0) rfl rfl, (gpreS hPc hK hDc hN).2⟩ rfl rfl hl.1 rfl (lv_room (Nat.le_of_ble_eq_true rfl)) dX8_takeAway_31 ⟨Nat.le_of_ble_eq_true rfl, Nat.le_of_ble_eq_true rfl⟩) (fun u_17 H locs hw_19 hP hD hS => ?_)
        replace hP : va_P D gcl [(a0, .inr (8, [.ref a1])), (a1, .inl (cI, 30, .inl (u_17.2.1 0)))] H := hP
        replace hD : va_D A [(a0, .inr (8, [.ref a1])), (a1, .inl (cI, 30, .inl (u_17.2.1 0)))] := hD
        have hw_20 : ((u_17.2.1 0) = upd f_3 (6 * x0.toInt + x_1.toInt).toNat x_16) := hw_19
        refine b_iinc (pc := 34) hx hb dX8_takeAway_34 hl (k := 0) rfl rfl tI_1 (by first | exact (om_2 hi_2.1) | ((first | omega | (unfold zBd at *; omega)))) (by first | exact (om_136 c_6) | ((first | omega | (unfold zBd at *; omega)))) (by decide) (fun x_21 ex_21 ls hl => ?_)
        replace hl : lv_has ls 5 [(4, .int x_21), (0, .ref a0), (1, .int x0), (2, .int x1), (3, .int x2)] := hl
        refine lv_goto (pc := 37) (tgt := 3) hx hb dX8_takeAway_37 (by decide) ?_
        exact ih_lp_5 x_21 (u_17.2.1 0) _ _ ls (by first | exact (om_573 ex_21 hi_2.1 c_6) | ((first | omega | (unfold zBd at *; omega)))) (ta_step hi_4 hw_10 hw_14 ex_15 ex_16 hw_20 rfl (by first | exact (om_0 hp1.1) | ((first | omega | (unfold zBd at *; omega)))) (by first | exact (om_0 hp2.1) | ((first | omega | (unfold zBd at *; omega)))) hg__ne (by first | exact (om_0 hi_2.1) | ((first | omega | (unfold zBd at *; omega)))) (by first | exact (om_1973 c_6) | ((first | omega | (unfold zBd at *; omega)))) (by first | exact (om_5 ex_21) | ((first | omega | (unfold zBd at *; omega))))) (by (first | omega | (unfold zBd at *; omega))) hP hD hS (lv_sub hl [0, 1, 2, 3, 4] rfl)
  exact lp_5 _ 0 f0 _ _ ls (n_c tI_0 (by decide)) (ta_0 (by decide)) (Nat.lt_succ_self _) hP hD hS (lv_sub hl [0, 1, 2, 3, 4] rfl)
theorem om_1974 {a b c : Int} (h0 : (a = c * 5)) (h1 : (b < 5)) (h2 : (c ≤ 4)) : (a + b ≤ 2147483647) := by omega
theorem om_1975 {a b c d : Int} (h0 : (a = b + c)) (h1 : (b = d * 5)) (h2 : (c < 5)) (h3 : (d ≤ 4)) : (a < (25 : Nat)) := by omega
set_option maxHeartbeats 4000000 in
set_option maxRecDepth 100000 in
theorem k_X2_takeAway_e (l : Launch) (D : va_G) (cB cC cI cJ : ClassId) (sz : Nat) (a0 a1 a2 a3 a4 : Nat) (x0 x1 x2 x3 x4 x5 x6 x7 : Int32) (f0 : Nat → Int32) (g0 : Nat → Int64) (hp1 : (0 ≤ x0.toInt ∧ x0.toInt ≤ 4)) (hp2 : (0 ≤ x1.toInt ∧ x1.toInt ≤ 4)) (h_x3 : zBd x3.toInt (-1) 5) (h_x4 : zBd x4.toInt 0 39) (h_x5 : zBd x5.toInt 0 40) (h_x6 : zBd x6.toInt 0 40) (hr_a0_0 : (x5.toInt + x6.toInt ≤ 40)) (hg__ne : ¬ x0.toInt = x1.toInt) : Met l yX2_takeAway (.code yX2_takeAway cX2_takeAway 5 none :: lw_gd) ({ frames := 2, cells := 0, slots := 0, locals := 47 }) (gPre D [(cB, .byte), (cC, .char), (cI, .int), (cJ, .long)] [.ref a0, .int x0, .int x1, .int x2] (zS_134 cB cC cI cJ a0 a1 a2 a3 x3 x4 x5 x6 x7 a1 a4 a4 f0 a2 g0) sz) (va_Qv (fun u => (taQ f0 (u.2.1 0) x0.toInt x1.toInt x2 6)) (gB D (va_A (zS_134 cB cC cI cJ a0 a1 a2 a3 x3 x4 x5 x6 x7 a1 a4 a4 f0 a2 g0) sz) (fun u : gEx => (zS_134 cB cC cI cJ a0 a1 a2 a3 x3 x4 x5 x6 x7 a1 a4 a4 (u.2.1 0) a2 (u.2.2.1 0)))) (va_A (zS_134 cB cC cI cJ a0 a1 a2 a3 x3 x4 x5 x6 x7 a1 a4 a4 f0 a2 g0) sz)) 0 0 (va_A (zS_134 cB cC cI cJ a0 a1 a2 a3 x3 x4 x5 x6 x7 a1 a4 a4 f0 a2 g0) sz) := by
  refine gOf_v (by decide +kernel) (Nat.le_of_ble_eq_true rfl) ?_
  intro p e s m args below meth c ls A Q hx hb hts hown hml hN hK hP hD hA hl hret
  replace hown : s.vm.findClass RX2 = some m.cls := hown
  have hS : va_S A s.heap s.heap [] := va_S.rf
  replace hP : va_P D gcl (zS_134 cB cC cI cJ a0 a1 a2 a3 x3 x4 x5 x6 x7 a1 a4 a4 f0 a2 g0) s.heap := hP
  replace hl : lv_has ls 5 [(0, .ref a0), (1, .int x0), (2, .int x1), (3, .int x2)] := hl
  have rx2 : zBd x2.toInt (-2147483648) 2147483647 := n_rng x2
  have rx7 : zBd x7.toInt (-2147483648) 2147483647 := n_rng x7
  refine lv_aload_n (pc := 0) hx hb dX2_takeAway_0 rfl (lv_at hl 0 rfl) ?_
  refine va_get (pc := 1) (ci := 2) (v := .ref a1) (C := RX2) (T := TX2) (N := 8) hx hb hts iX2 hown hK hP 0 rfl rfl 0 (by decide) (hts _ tw_391) (fun _ h9 => h9) rfl dX2_takeAway_1 ?_
  refine lv_iload_n (pc := 4) hx hb dX2_takeAway_4 rfl (lv_at hl 1 rfl) ?_
  refine lv_iload_n (pc := 5) hx hb dX2_takeAway_5 rfl (lv_at hl 2 rfl) ?_
  refine lv_iload_n (pc := 6) hx hb dX2_takeAway_6 rfl (lv_at hl 3 rfl) ?_
  refine gd_v (pc := 7) (wc := [(a1, .inr (8, [.ref a4])), (a4, .inl (cI, 30, .inl f0))]) hP hD hS hA [1, 2] rfl (by decide +kernel) (fun _ => by rfl) (fun hPc hDc => va_runV (As := [.int x0, .int x1, .int x2]) (rest := []) ⟨hx, hb, hml, hown, hts⟩ (k_X8_takeAway_e l D cB cC cI cJ _ a1 a4 x0 x1 x2 f0 hp1 hp2 hg__ne) ⟨gcwB hts tw_1065 tw_5 tw_1062 hd_yX8_takeAway ⟨Nat.le_of_ble_eq_true rfl, Nat.le_of_ble_eq_true rfl⟩, hts _ tw_1063, hts _ tw_1064⟩ ⟨gblind, va_recv hK hPc (ci := 8) (q0 := 0) rfl rfl, (gpreS hPc hK hDc hN).2⟩ rfl rfl hl.1 rfl (lv_room (Nat.le_of_ble_eq_true rfl)) dX2_takeAway_7 ⟨Nat.le_of_ble_eq_true rfl, Nat.le_of_ble_eq_true rfl⟩) (fun u_1 H locs hw_3 hP hD hS => ?_)
  replace hP : va_P D gcl (zS_134 cB cC cI cJ a0 a1 a2 a3 x3 x4 x5 x6 x7 a1 a4 a4 (u_1.2.1 0) a2 g0) H := hP
  replace hD : va_D A (zS_134 cB cC cI cJ a0 a1 a2 a3 x3 x4 x5 x6 x7 a1 a4 a4 (u_1.2.1 0) a2 g0) := hD
  have hw_4 : (taQ f0 (u_1.2.1 0) x0.toInt x1.toInt x2 6) := hw_3
  refine lv_iconst (pc := 10) (v := 0) hx hb dX2_takeAway_10 (by decide) ?_
  refine lv_istore (pc := 11) (lv' := [(4, .int 0), (0, .ref a0), (1, .int x0), (2, .int x1), (3, .int x2)]) hx hb dX2_takeAway_11 hl (by decide) rfl (fun ls hl => ?_)
  have lp_8 : ∀ (n : Nat) (x_5 : Int32) (g_7 : Nat → Int64) (H : Heap) (locs : List Loc) (ls : Array Slot), (0 ≤ x_5.toInt ∧ x_5.toInt ≤ 2147483647) → (2147483647 - x_5.toInt).toNat < n → va_P D gcl (zS_134 cB cC cI cJ a0 a1 a2 a3 x3 x4 x5 x6 x7 a1 a4 a4 (u_1.2.1 0) a2 g_7) H → va_D A (zS_134 cB cC cI cJ a0 a1 a2 a3 x3 x4 x5 x6 x7 a1 a4 a4 (u_1.2.1 0) a2 g_7) → va_S A s.heap H locs → lv_has ls 5 [(4, .int x_5), (0, .ref a0), (1, .int x0), (2, .int x1), (3, .int x2)] → W p l e ({ frames := 2, cells := 0, slots := 0, locals := 47 }) s m args below meth c H locs 0 0 Q (F0 m 13 ls []) := by
    intro n
    induction n with
    | zero => intro x_5 g_7 H locs ls hi_6 hmu; exact absurd hmu (Nat.not_lt_zero _)
    | succ n ih_lp_8 =>
      intro x_5 g_7 H locs ls hi_6 hmu_lp_8 hP hD hS hl
      refine lv_iload (pc := 13) hx hb dX2_takeAway_13 (lv_at hl 0 rfl) ?_
      refine lv_iconst (pc := 15) (v := 5) hx hb dX2_takeAway_15 (by decide) ?_
      refine b_icmp_ge (pc := 16) (tgt := 53) hx hb rfl tI_5  dX2_takeAway_16 (by decide) (fun c_9 => ?_) (fun c_9 => ?_)
      ·
        exact hret ((fun _ => 0), (fun k => [(u_1.2.1 0)].getD k (fun _ => 0)), (fun k => [g_7].getD k (fun _ => 0)), (fun _ => 0), (fun _ => 0)) dX2_takeAway_53 (show taQ f0 (u_1.2.1 0) x0.toInt x1.toInt x2 6 from hw_4) (g_psub (wc := (zS_134 cB cC cI cJ a0 a1 a2 a3 x3 x4 x5 x6 x7 a1 a4 a4 (u_1.2.1 0) a2 g_7)) hP [0, 1, 2, 3] rfl) (hD.sub (ws' := (zS_134 cB cC cI cJ a0 a1 a2 a3 x3 x4 x5 x6 x7 a1 a4 a4 (u_1.2.1 0) a2 g_7)) [0, 1, 2, 3] (by decide) rfl) hS
      ·
        refine lv_aload_n (pc := 19) hx hb dX2_takeAway_19 rfl (lv_at hl 1 rfl) ?_
        refine va_get (pc := 20) (ci := 2) (v := .ref a2) (C := RX2) (T := TX2) (N := 8) hx hb hts iX2 hown hK hP 0 rfl rfl 1 (by decide) (hts _ tw_393) (fun _ h9 => h9) rfl dX2_takeAway_20 ?_
        refine lv_iload_n (pc := 23) hx hb dX2_takeAway_23 rfl (lv_at hl 2 rfl) ?_
        refine lv_iconst (pc := 24) (v := 5) hx hb dX2_takeAway_24 (by decide) ?_
        refine b_imul (pc := 25) hx hb rfl tI_5 (by first | exact (om_330 hp1.1) | ((first | omega | (unfold zBd at *; omega)))) (by first | exact (om_1160 hp1.2) | ((first | omega | (unfold zBd at *; omega)))) dX2_takeAway_25 (fun x_10 ex_10 => ?_)
        refine lv_iload (pc := 26) hx hb dX2_takeAway_26 (lv_at hl 0 rfl) ?_
        refine b_iadd (pc := 28) hx hb rfl rfl (by first | exact (om_332 ex_10 hi_6.1 hp1.1) | ((first | omega | (unfold zBd at *; omega)))) (by first | exact (om_1974 ex_10 c_9 hp1.2) | ((first | omega | (unfold zBd at *; omega)))) dX2_takeAway_28 (fun x_11 ex_11 => ?_)
        refine lv_dup2_11 (pc := 29) hx hb dX2_takeAway_29 rfl rfl ?_
        refine va_lald (pc := 30) hx hb hK hP 3 3 rfl rfl (n_in rfl (by first | exact (om_334 ex_11 ex_10 hi_6.1 hp1.1) | ((first | omega | (unfold zBd at *; omega)))) (by first | exact (om_1975 ex_11 ex_10 c_9 hp1.2) | ((first | omega | (unfold zBd at *; omega))))) dX2_takeAway_30 ?_
        refine lv_topl (fun y_12 ey_12 => ?_)
        have ry_12 := n_rngL y_12
        refine lv_iload_n (pc := 31) hx hb dX2_takeAway_31 rfl (lv_at hl 4 rfl) ?_
        refine b_i2l (pc := 32) hx hb rfl dX2_takeAway_32 (fun y_13 ey_13 => ?_)
        have ry_13 : zBd x2.toInt (-2147483648) 2147483647 := n_rng x2
        refine lv_aload_n (pc := 33) hx hb dX2_takeAway_33 rfl (lv_at hl 1 rfl) ?_
        refine va_get (pc := 34) (ci := 2) (v := .ref a2) (C := RX2) (T := TX2) (N := 8) hx hb hts iX2 hown hK hP 0 rfl rfl 1 (by decide) (hts _ tw_393) (fun _ h9 => h9) rfl dX2_takeAway_34 ?_
        refine lv_iload_n (pc := 37) hx hb dX2_takeAway_37 rfl (lv_at hl 3 rfl) ?_
        refine lv_iconst (pc := 38) (v := 5) hx hb dX2_takeAway_38 (by decide) ?_
        refine b_imul (pc := 39) hx hb rfl tI_5 (by first | exact (om_330 hp2.1) | ((first | omega | (unfold zBd at *; omega)))) (by first | exact (om_1160 hp2.2) | ((first | omega | (unfold zBd at *; omega)))) dX2_takeAway_39 (fun x_14 ex_14 => ?_)
        refine lv_iload (pc := 40) hx hb dX2_takeAway_40 (lv_at hl 0 rfl) ?_
        refine b_iadd (pc := 42) hx hb rfl rfl (by first | exact (om_332 ex_14 hi_6.1 hp2.1) | ((first | omega | (unfold zBd at *; omega)))) (by first | exact (om_1974 ex_14 c_9 hp2.2) | ((first | omega | (unfold zBd at *; omega)))) dX2_takeAway_42 (fun x_15 ex_15 => ?_)
        refine va_lald (pc := 43) hx hb hK hP 3 3 rfl rfl (n_in rfl (by first | exact (om_334 ex_15 ex_14 hi_6.1 hp2.1) | ((first | omega | (unfold zBd at *; omega)))) (by first | exact (om_1975 ex_15 ex_14 c_9 hp2.2) | ((first | omega | (unfold zBd at *; omega))))) dX2_takeAway_43 ?_
        refine lv_topl (fun y_16 ey_16 => ?_)
        have ry_16 := n_rngL y_16
        refine lv_lmul (pc := 44) hx hb dX2_takeAway_44 ?_
        refine lv_topl (fun y_17 _ => ?_)
        have ry_17 := n_rngL y_17
        refine lv_lsub (pc := 45) hx hb dX2_takeAway_45 ?_
        refine lv_topl (fun y_18 _ => ?_)
        have ry_18 := n_rngL y_18
        refine g_lastore (pc := 46) hx hb hK hP hD hS 3 3 rfl rfl (n_in rfl (by first | exact (om_334 ex_11 ex_10 hi_6.1 hp1.1) | ((first | omega | (unfold zBd at *; omega)))) (by first | exact (om_1975 ex_11 ex_10 c_9 hp1.2) | ((first | omega | (unfold zBd at *; omega))))) dX2_takeAway_46 (fun g_19 H locs hP hD hS => ?_)
        replace hP : va_P D gcl (zS_134 cB cC cI cJ a0 a1 a2 a3 x3 x4 x5 x6 x7 a1 a4 a4 (u_1.2.1 0) a2 g_19) H := hP
        replace hD : va_D A (zS_134 cB cC cI cJ a0 a1 a2 a3 x3 x4 x5 x6 x7 a1 a4 a4 (u_1.2.1 0) a2 g_19) := hD
        refine b_iinc (pc := 47) hx hb dX2_takeAway_47 hl (k := 0) rfl rfl tI_1 (by first | exact (om_2 hi_6.1) | ((first | omega | (unfold zBd at *; omega)))) (by first | exact (om_409 c_9) | ((first | omega | (unfold zBd at *; omega)))) (by decide) (fun x_20 ex_20 ls hl => ?_)
        replace hl : lv_has ls 5 [(4, .int x_20), (0, .ref a0), (1, .int x0), (2, .int x1), (3, .int x2)] := hl
        refine lv_goto (pc := 50) (tgt := 13) hx hb dX2_takeAway_50 (by decide) ?_
        exact ih_lp_8 x_20 g_19 _ _ ls (by first | exact (om_410 ex_20 hi_6.1 c_9) | ((first | omega | (unfold zBd at *; omega)))) (by (first | omega | (unfold zBd at *; omega))) hP hD hS (lv_sub hl [0, 1, 2, 3, 4] rfl)
  exact lp_8 _ 0 g0 _ _ ls (n_c tI_0 (by decide)) (Nat.lt_succ_self _) hP hD hS (lv_sub hl [0, 1, 2, 3, 4] rfl)
theorem om_1976 {a : Int} (h0 : (a < 200)) : (a + 1 ≤ 2147483647) := by omega
theorem om_1977 {a : Int} (h0 : (0 ≤ a)) (h1 : (a ≤ 39)) : (0 ≤ a ∧ a < 40) := by omega
theorem om_1978 {a b : Int} (h0 : (0 ≤ a)) (h1 : (a < b)) (h2 : (b ≤ 5)) : (0 ≤ a ∧ a ≤ 4) := by omega
theorem om_1979 {a : Int} (h0 : (a < 200)) : (a < 200) := by omega
theorem om_1980 {a b c : Int} (h0 : (0 ≤ a)) (h1 : (a < b)) (h2 : (0 ≤ c)) (h3 : (c < b)) (h4 : (b ≤ 5)) : (0 ≤ a ∧ a < b ∧ 0 ≤ c ∧ c < b ∧ b ≤ 5) := by omega
theorem om_1981 {a : Int} (h0 : (a ≥ 200)) : (200 ≤ a) := by omega
set_option maxHeartbeats 4000000 in
set_option maxRecDepth 100000 in
theorem k_X2_makeStep (l : Launch) (D : va_G) (cB cC cI cJ : ClassId) (sz : Nat) (a0 a1 a2 a3 a4 : Nat) (x0 x1 x2 x3 x4 : Int32) (f0 f1 : Nat → Int32) (g0 : Nat → Int64) (h_x0 : zBd x0.toInt (-1) 5) (h_x1 : zBd x1.toInt 0 39) (h_x2 : zBd x2.toInt 0 40) (h_x3 : zBd x3.toInt 0 40) (hr_a0_0 : (x2.toInt + x3.toInt ≤ 40)) (hg_led : LedOK f0 f1 x1.toInt x2.toInt x3.toInt) : Met l yX2_makeStep (.code yX2_makeStep cX2_makeStep 4 (some .boolean) :: lw_gd) ({ frames := 3, cells := 0, slots := 0, locals := 71 }) (gPre D [(cB, .byte), (cC, .char), (cI, .int), (cJ, .long)] [.ref a0] (zS_19 cB cC cI cJ a0 a1 a2 a3 x0 x1 x2 x3 x4 a1 a4 a4 f0 a3 f1 a2 g0) sz) (va_Qi (fun r u => (0 ≤ r.toInt ∧ r.toInt ≤ 1) ∧ (0 ≤ (u.2.2.2.1 0).toInt ∧ (u.2.2.2.1 0).toInt ≤ 39) ∧ (0 ≤ (u.2.2.2.1 1).toInt ∧ (u.2.2.2.1 1).toInt ≤ 40) ∧ (0 ≤ (u.2.2.2.1 2).toInt ∧ (u.2.2.2.1 2).toInt ≤ 40) ∧ ((u.2.2.2.1 1).toInt + (u.2.2.2.1 2).toInt ≤ 40) ∧ (LedOK (u.2.1 0) (u.2.1 1) (u.2.2.2.1 0).toInt (u.2.2.2.1 1).toInt (u.2.2.2.1 2).toInt) ∧ (isX f0 (u.2.1 0) f1 (u.2.1 1) x1.toInt (u.2.2.2.1 0).toInt x2.toInt (u.2.2.2.1 1).toInt x3.toInt (u.2.2.2.1 2).toInt x4.toInt (u.2.2.2.1 3).toInt x0.toInt r.toInt)) (gB D (va_A (zS_19 cB cC cI cJ a0 a1 a2 a3 x0 x1 x2 x3 x4 a1 a4 a4 f0 a3 f1 a2 g0) sz) (fun u : gEx => (zS_19 cB cC cI cJ a0 a1 a2 a3 x0 (u.2.2.2.1 0) (u.2.2.2.1 1) (u.2.2.2.1 2) (u.2.2.2.1 3) a1 a4 a4 (u.2.1 0) a3 (u.2.1 1) a2 (u.2.2.1 0)))) (va_A (zS_19 cB cC cI cJ a0 a1 a2 a3 x0 x1 x2 x3 x4 a1 a4 a4 f0 a3 f1 a2 g0) sz)) 0 0 (va_A (zS_19 cB cC cI cJ a0 a1 a2 a3 x0 x1 x2 x3 x4 a1 a4 a4 f0 a3 f1 a2 g0) sz) := by
  refine gOf_z (by decide +kernel) (Nat.le_of_ble_eq_true rfl) ?_
  intro p e s m args below meth c ls A Q hx hb hts hown hml hN hK hP hD hA hl hret
  replace hown : s.vm.findClass RX2 = some m.cls := hown
  have hS : va_S A s.heap s.heap [] := va_S.rf
  replace hP : va_P D gcl (zS_19 cB cC cI cJ a0 a1 a2 a3 x0 x1 x2 x3 x4 a1 a4 a4 f0 a3 f1 a2 g0) s.heap := hP
  replace hl : lv_has ls 4 [(0, .ref a0)] := hl
  have rx4 : zBd x4.toInt (-2147483648) 2147483647 := n_rng x4
  refine lv_aload_n (pc := 0) hx hb dX2_makeStep_0 rfl (lv_at hl 0 rfl) ?_
  refine va_get (pc := 1) (ci := 2) (v := .int x4) (C := RX2) (T := TX2) (N := 8) hx hb hts iX2 hown hK hP 0 rfl rfl 7 (by decide) (hts _ tw_401) (fun _ h9 => h9) rfl dX2_makeStep_1 ?_
  refine lv_sipush (pc := 4) (v := 200) hx hb dX2_makeStep_4 (by decide) ?_
  refine b_icmp_lt (pc := 7) (tgt := 12) hx hb rfl tI_200  dX2_makeStep_7 (by decide) (fun c_1 => ?_) (fun c_1 => ?_)
  ·
    refine lv_iconst (pc := 12) (v := 0) hx hb dX2_makeStep_12 (by decide) ?_
    refine lv_istore_n (pc := 13) (lv' := [(1, .int 0), (0, .ref a0)]) hx hb dX2_makeStep_13 rfl hl (by decide) rfl (fun ls hl => ?_)
    have lp_5 : ∀ (n : Nat) (x_2 : Int32) (H : Heap) (locs : List Loc) (ls : Array Slot), (0 ≤ x_2.toInt ∧ x_2.toInt ≤ 2147483647) → (noq (trT f0) 6 x0.toInt x_2.toInt 0) → (2147483647 - x_2.toInt).toNat < n → va_P D gcl (zS_19 cB cC cI cJ a0 a1 a2 a3 x0 x1 x2 x3 x4 a1 a4 a4 f0 a3 f1 a2 g0) H → va_D A (zS_19 cB cC cI cJ a0 a1 a2 a3 x0 x1 x2 x3 x4 a1 a4 a4 f0 a3 f1 a2 g0) → va_S A s.heap H locs → lv_has ls 4 [(1, .int x_2), (0, .ref a0)] → W p l e ({ frames := 3, cells := 0, slots := 0, locals := 71 }) s m args below meth c H locs 0 0 Q (F0 m 14 ls []) := by
      intro n
      induction n with
      | zero => intro x_2 H locs ls hi_3 hi_4 hmu; exact absurd hmu (Nat.not_lt_zero _)
      | succ n ih_lp_5 =>
        intro x_2 H locs ls hi_3 hi_4 hmu_lp_5 hP hD hS hl
        refine lv_iload_n (pc := 14) hx hb dX2_makeStep_14 rfl (lv_at hl 0 rfl) ?_
        refine lv_aload_n (pc := 15) hx hb dX2_makeStep_15 rfl (lv_at hl 1 rfl) ?_
        refine va_get (pc := 16) (ci := 2) (v := .int x0) (C := RX2) (T := TX2) (N := 8) hx hb hts iX2 hown hK hP 0 rfl rfl 3 (by decide) (hts _ tw_395) (fun _ h9 => h9) rfl dX2_makeStep_16 ?_
        have bd_h_x0 : (-1) ≤ x0.toInt ∧ x0.toInt ≤ 5 := h_x0
        refine b_icmp_ge (pc := 19) (tgt := 90) hx hb rfl rfl  dX2_makeStep_19 (by decide) (fun c_6 => ?_) (fun c_6 => ?_)
        ·
          refine lv_iconst (pc := 90) (v := 0) hx hb dX2_makeStep_90 (by decide) ?_
          have k9 := tI_0
          exact hret 0 ((fun _ => 0), (fun k => [f0, f1].getD k (fun _ => 0)), (fun k => [g0].getD k (fun _ => 0)), (fun k => [x1, x2, x3, x4].getD k 0), (fun _ => 0)) dX2_makeStep_91 ⟨(Or.inl tI_0), ⟨(show (0 ≤ (0 : Int32).toInt ∧ (0 : Int32).toInt ≤ 1) from (n_c tI_0 (by decide))), (show (0 ≤ (x1 : Int32).toInt ∧ (x1 : Int32).toInt ≤ 39) from h_x1), (show (0 ≤ (x2 : Int32).toInt ∧ (x2 : Int32).toInt ≤ 40) from h_x2), (show (0 ≤ (x3 : Int32).toInt ∧ (x3 : Int32).toInt ≤ 40) from h_x3), (show ((x2 : Int32).toInt + (x3 : Int32).toInt ≤ 40) from hr_a0_0), (show LedOK f0 f1 x1.toInt x2.toInt x3.toInt from hg_led), (show isX f0 f0 f1 f1 x1.toInt x1.toInt x2.toInt x2.toInt x3.toInt x3.toInt x4.toInt x4.toInt x0.toInt (0 : Int32).toInt from isX_no (by first | exact (om_31 tI_0) | ((first | omega | (unfold zBd at *; omega)))) (Or.inr (noq_all hi_4 (by first | exact (om_503 c_6) | ((first | omega | (unfold zBd at *; omega)))))))⟩⟩ (g_psub (wc := (zS_19 cB cC cI cJ a0 a1 a2 a3 x0 x1 x2 x3 x4 a1 a4 a4 f0 a3 f1 a2 g0)) hP [0, 1, 2, 3, 4] rfl) (hD.sub (ws' := (zS_19 cB cC cI cJ a0 a1 a2 a3 x0 x1 x2 x3 x4 a1 a4 a4 f0 a3 f1 a2 g0)) [0, 1, 2, 3, 4] (by decide) rfl) hS
        ·
          refine lv_iconst (pc := 22) (v := 0) hx hb dX2_makeStep_22 (by decide) ?_
          refine lv_istore_n (pc := 23) (lv' := [(2, .int 0), (1, .int x_2), (0, .ref a0)]) hx hb dX2_makeStep_23 rfl hl (by decide) rfl (fun ls hl => ?_)
          have lp_10 : ∀ (n : Nat) (x_7 : Int32) (H : Heap) (locs : List Loc) (ls : Array Slot), (0 ≤ x_7.toInt ∧ x_7.toInt ≤ 2147483647) → (noq (trT f0) 6 x0.toInt x_2.toInt x_7.toInt) → (2147483647 - x_7.toInt).toNat < n → va_P D gcl (zS_19 cB cC cI cJ a0 a1 a2 a3 x0 x1 x2 x3 x4 a1 a4 a4 f0 a3 f1 a2 g0) H → va_D A (zS_19 cB cC cI cJ a0 a1 a2 a3 x0 x1 x2 x3 x4 a1 a4 a4 f0 a3 f1 a2 g0) → va_S A s.heap H locs → lv_has ls 4 [(2, .int x_7), (1, .int x_2), (0, .ref a0)] → W p l e ({ frames := 3, cells := 0, slots := 0, locals := 71 }) s m args below meth c H locs 0 0 Q (F0 m 24 ls []) := by
            intro n
            induction n with
            | zero => intro x_7 H locs ls hi_8 hi_9 hmu; exact absurd hmu (Nat.not_lt_zero _)
            | succ n ih_lp_10 =>
              intro x_7 H locs ls hi_8 hi_9 hmu_lp_10 hP hD hS hl
              refine lv_iload_n (pc := 24) hx hb dX2_makeStep_24 rfl (lv_at hl 0 rfl) ?_
              refine lv_aload_n (pc := 25) hx hb dX2_makeStep_25 rfl (lv_at hl 2 rfl) ?_
              refine va_get (pc := 26) (ci := 2) (v := .int x0) (C := RX2) (T := TX2) (N := 8) hx hb hts iX2 hown hK hP 0 rfl rfl 3 (by decide) (hts _ tw_395) (fun _ h9 => h9) rfl dX2_makeStep_26 ?_
              refine b_icmp_ge (pc := 29) (tgt := 84) hx hb rfl rfl  dX2_makeStep_29 (by decide) (fun c_11 => ?_) (fun c_11 => ?_)
              ·
                refine b_iinc (pc := 84) hx hb dX2_makeStep_84 hl (k := 1) rfl rfl tI_1 (by first | exact (om_2 hi_3.1) | ((first | omega | (unfold zBd at *; omega)))) (by first | exact (om_338 c_6 h_x0.2) | ((first | omega | (unfold zBd at *; omega)))) (by decide) (fun x_12 ex_12 ls hl => ?_)
                replace hl : lv_has ls 4 [(1, .int x_12), (2, .int x_7), (0, .ref a0)] := hl
                refine lv_goto (pc := 87) (tgt := 14) hx hb dX2_makeStep_87 (by decide) ?_
                exact ih_lp_5 x_12 _ _ ls (by first | exact (om_339 ex_12 hi_3.1 c_6 h_x0.2) | ((first | omega | (unfold zBd at *; omega)))) (noq_i hi_9 (by first | exact (om_503 c_11) | ((first | omega | (unfold zBd at *; omega)))) (by first | exact (om_5 ex_12) | ((first | omega | (unfold zBd at *; omega)))) rfl) (by (first | omega | (unfold zBd at *; omega))) hP hD hS (lv_sub hl [0, 2] rfl)
              ·
                refine lv_iload_n (pc := 32) hx hb dX2_makeStep_32 rfl (lv_at hl 1 rfl) ?_
                refine lv_iload_n (pc := 33) hx hb dX2_makeStep_33 rfl (lv_at hl 0 rfl) ?_
                refine b_icmp_ne (pc := 34) (tgt := 41) hx hb rfl rfl  dX2_makeStep_34 (by decide) (fun c_13 => ?_) (fun c_13 => ?_)
                ·
                  refine lv_aload_n (pc := 41) hx hb dX2_makeStep_41 rfl (lv_at hl 2 rfl) ?_
                  refine lv_iload_n (pc := 42) hx hb dX2_makeStep_42 rfl (lv_at hl 1 rfl) ?_
                  refine lv_iload_n (pc := 43) hx hb dX2_makeStep_43 rfl (lv_at hl 0 rfl) ?_
                  refine gd_i (pc := 44) (wc := (zS_133 cB cC cI cJ a0 a1 a2 a3 x0 x1 x2 x3 x4 a1 a4 a4 f0)) hP hD hS hA [0, 1, 2] rfl (by decide +kernel) (fun _ => by rfl) (fun hPc hDc => va_runV (As := [.int x_2, .int x_7]) (rest := []) ⟨hx, hb, hml, hown, hts⟩ (k_X2_timesIn l D cB cC cI cJ _ a0 a1 a2 a3 a4 x_2 x_7 x0 x1 x2 x3 x4 f0 (by first | exact (om_360 hi_3.1 c_6 h_x0.2) | ((first | omega | (unfold zBd at *; omega)))) (by first | exact (om_360 hi_8.1 c_11 h_x0.2) | ((first | omega | (unfold zBd at *; omega)))) h_x0 h_x1 h_x2 h_x3 hr_a0_0 (Led_SH hg_led (by first | exact (om_0 h_x2.1) | ((first | omega | (unfold zBd at *; omega)))) (by first | exact (om_0 h_x3.1) | ((first | omega | (unfold zBd at *; omega)))))) ⟨gcwB hts tw_1047 tw_13 tw_1044 hd_yX2_timesIn ⟨Nat.le_of_ble_eq_true rfl, Nat.le_of_ble_eq_true rfl⟩, hts _ tw_1046, hts _ tp_41⟩ ⟨gblind, va_recv hK hPc (ci := 2) (q0 := 0) rfl rfl, (gpreS hPc hK hDc hN).2⟩ rfl rfl hl.1 rfl (lv_room (Nat.le_of_ble_eq_true rfl)) dX2_makeStep_44 ⟨Nat.le_of_ble_eq_true rfl, Nat.le_of_ble_eq_true rfl⟩) (fun r_15 u_14 H locs hw_16 hP hD hS => ?_)
                  replace hP : va_P D gcl (zS_19 cB cC cI cJ a0 a1 a2 a3 x0 x1 x2 x3 x4 a1 a4 a4 f0 a3 f1 a2 g0) H := hP
                  replace hD : va_D A (zS_19 cB cC cI cJ a0 a1 a2 a3 x0 x1 x2 x3 x4 a1 a4 a4 f0 a3 f1 a2 g0) := hD
                  obtain ⟨hw_17, hw_18, hw_19⟩ := hw_16
                  replace hw_17 : ((-1199999) ≤ r_15.toInt ∧ r_15.toInt ≤ 1199999) := hw_17
                  replace hw_18 : (tmQ (dtn f0 x_2.toInt x_7.toInt 6) (dtn f0 x_7.toInt x_7.toInt 6) r_15.toInt) := hw_18
                  replace hw_19 : (xtQ f0 x_2.toInt x_7.toInt r_15) := hw_19
                  have rr_15 : zBd r_15.toInt (-2147483648) 2147483647 := n_rng r_15
                  refine lv_istore_n (pc := 47) (lv' := [(3, .int r_15), (2, .int x_7), (1, .int x_2), (0, .ref a0)]) hx hb dX2_makeStep_47 rfl hl (by decide) rfl (fun ls hl => ?_)
                  refine lv_iload_n (pc := 48) hx hb dX2_makeStep_48 rfl (lv_at hl 0 rfl) ?_
                  refine b_if_eq (pc := 49) (tgt := 78) hx hb rfl  dX2_makeStep_49 (by decide) (fun c_20 => ?_) (fun c_20 => ?_)
                  ·
                    refine b_iinc (pc := 78) hx hb dX2_makeStep_78 hl (k := 1) rfl rfl tI_1 (by first | exact (om_2 hi_8.1) | ((first | omega | (unfold zBd at *; omega)))) (by first | exact (om_338 c_11 h_x0.2) | ((first | omega | (unfold zBd at *; omega)))) (by decide) (fun x_21 ex_21 ls hl => ?_)
                    replace hl : lv_has ls 4 [(2, .int x_21), (3, .int r_15), (1, .int x_2), (0, .ref a0)] := hl
                    refine lv_goto (pc := 81) (tgt := 24) hx hb dX2_makeStep_81 (by decide) ?_
                    exact ih_lp_10 x_21 _ _ ls (by first | exact (om_339 ex_21 hi_8.1 c_11 h_x0.2) | ((first | omega | (unfold zBd at *; omega)))) (noq_j hi_9 (xt_nql hw_19 (by first | exact (om_31 c_20) | ((first | omega | (unfold zBd at *; omega))))) (by first | exact (om_5 ex_21) | ((first | omega | (unfold zBd at *; omega))))) (by (first | omega | (unfold zBd at *; omega))) hP hD hS (lv_sub hl [0, 2, 3] rfl)
                  ·
                    refine lv_aload_n (pc := 52) hx hb dX2_makeStep_52 rfl (lv_at hl 3 rfl) ?_
                    refine lv_iload_n (pc := 53) hx hb dX2_makeStep_53 rfl (lv_at hl 2 rfl) ?_
                    refine lv_iload_n (pc := 54) hx hb dX2_makeStep_54 rfl (lv_at hl 1 rfl) ?_
                    refine lv_iload_n (pc := 55) hx hb dX2_makeStep_55 rfl (lv_at hl 0 rfl) ?_
                    refine gd_v (pc := 56) (wc := (zS_43 cB cC cI cJ a0 a1 a2 a3 x0 x1 x2 x3 x4 a3 f1)) hP hD hS hA [0, 3] rfl (by decide +kernel) (fun _ => by rfl) (fun hPc hDc => va_runV (As := [.int x_2, .int x_7, .int r_15]) (rest := []) ⟨hx, hb, hml, hown, hts⟩ (k_X2_remember l D cB cC cI cJ _ a0 a1 a2 a3 x_2 x_7 r_15 x0 x1 x2 x3 x4 f1 (by first | exact (om_360 hi_3.1 c_6 h_x0.2) | ((first | omega | (unfold zBd at *; omega)))) (by first | exact (om_360 hi_8.1 c_11 h_x0.2) | ((first | omega | (unfold zBd at *; omega)))) h_x0 h_x1 h_x2 h_x3 hr_a0_0) ⟨gcwB hts tw_1053 tw_13 tw_1050 hd_yX2_remember ⟨Nat.le_of_ble_eq_true rfl, Nat.le_of_ble_eq_true rfl⟩, hts _ tw_1052, hts _ tp_42⟩ ⟨gblind, va_recv hK hPc (ci := 2) (q0 := 0) rfl rfl, (gpreS hPc hK hDc hN).2⟩ rfl rfl hl.1 rfl (lv_room (Nat.le_of_ble_eq_true rfl)) dX2_makeStep_56 ⟨Nat.le_of_ble_eq_true rfl, Nat.le_of_ble_eq_true rfl⟩) (fun u_22 H locs hw_24 hP hD hS => ?_)
                    replace hP : va_P D gcl (zS_19 cB cC cI cJ a0 a1 a2 a3 x0 (u_22.2.2.2.1 0) (u_22.2.2.2.1 1) 0 x4 a1 a4 a4 f0 a3 (u_22.2.1 0) a2 g0) H := hP
                    replace hD : va_D A (zS_19 cB cC cI cJ a0 a1 a2 a3 x0 (u_22.2.2.2.1 0) (u_22.2.2.2.1 1) 0 x4 a1 a4 a4 f0 a3 (u_22.2.1 0) a2 g0) := hD
                    obtain ⟨hw_25, hw_26, hw_27, hw_28, hw_29⟩ := hw_24
                    replace hw_25 : zBd (u_22.2.2.2.1 0).toInt 0 39 := hw_25
                    replace hw_26 : zBd (u_22.2.2.2.1 1).toInt 0 40 := hw_26
                    replace hw_27 : ((u_22.2.2.2.1 1).toInt + (0 : Int32).toInt ≤ 40) := hw_27
                    replace hw_28 : (remQ f1 (u_22.2.1 0) x1.toInt (u_22.2.2.2.1 0).toInt x2.toInt (u_22.2.2.2.1 1).toInt x_2 x_7 r_15) := hw_28
                    replace hw_29 : ((0 : Int32).toInt = 0) := hw_29
                    refine lv_aload_n (pc := 59) hx hb dX2_makeStep_59 rfl (lv_at hl 3 rfl) ?_
                    refine lv_iload_n (pc := 60) hx hb dX2_makeStep_60 rfl (lv_at hl 2 rfl) ?_
                    refine lv_iload_n (pc := 61) hx hb dX2_makeStep_61 rfl (lv_at hl 1 rfl) ?_
                    refine lv_iload_n (pc := 62) hx hb dX2_makeStep_62 rfl (lv_at hl 0 rfl) ?_
                    refine gd_v (pc := 63) (wc := (zS_134 cB cC cI cJ a0 a1 a2 a3 x0 (u_22.2.2.2.1 0) (u_22.2.2.2.1 1) 0 x4 a1 a4 a4 f0 a2 g0)) hP hD hS hA [0, 1, 2, 4] rfl (by decide +kernel) (fun _ => by rfl) (fun hPc hDc => va_runV (As := [.int x_2, .int x_7, .int r_15]) (rest := []) ⟨hx, hb, hml, hown, hts⟩ (k_X2_takeAway_e l D cB cC cI cJ _ a0 a1 a2 a3 a4 x_2 x_7 r_15 x0 (u_22.2.2.2.1 0) (u_22.2.2.2.1 1) 0 x4 f0 g0 (by first | exact (om_360 hi_3.1 c_6 h_x0.2) | (have k0 := tI_0; (first | omega | (unfold zBd at *; omega)))) (by first | exact (om_360 hi_8.1 c_11 h_x0.2) | (have k0 := tI_0; (first | omega | (unfold zBd at *; omega)))) h_x0 hw_25 hw_26 (n_c tI_0 (by decide)) hw_27 (by first | exact (om_112 c_13) | (have k0 := tI_0; (first | omega | (unfold zBd at *; omega))))) ⟨gcwB hts tw_1061 tw_13 tw_1058 hd_yX2_takeAway ⟨Nat.le_of_ble_eq_true rfl, Nat.le_of_ble_eq_true rfl⟩, hts _ tw_1060, hts _ tp_44⟩ ⟨gblind, va_recv hK hPc (ci := 2) (q0 := 0) rfl rfl, (gpreS hPc hK hDc hN).2⟩ rfl rfl hl.1 rfl (lv_room (Nat.le_of_ble_eq_true rfl)) dX2_makeStep_63 ⟨Nat.le_of_ble_eq_true rfl, Nat.le_of_ble_eq_true rfl⟩) (fun u_30 H locs hw_32 hP hD hS => ?_)
                    replace hP : va_P D gcl (zS_19 cB cC cI cJ a0 a1 a2 a3 x0 (u_22.2.2.2.1 0) (u_22.2.2.2.1 1) 0 x4 a1 a4 a4 (u_30.2.1 0) a3 (u_22.2.1 0) a2 (u_30.2.2.1 0)) H := hP
                    replace hD : va_D A (zS_19 cB cC cI cJ a0 a1 a2 a3 x0 (u_22.2.2.2.1 0) (u_22.2.2.2.1 1) 0 x4 a1 a4 a4 (u_30.2.1 0) a3 (u_22.2.1 0) a2 (u_30.2.2.1 0)) := hD
                    have hw_33 : (taQ f0 (u_30.2.1 0) x_2.toInt x_7.toInt r_15 6) := hw_32
                    have kk0_r_31 := tI_0
                    refine lv_aload_n (pc := 66) hx hb dX2_makeStep_66 rfl (lv_at hl 3 rfl) ?_
                    refine lv_dup (pc := 67) hx hb dX2_makeStep_67 rfl ?_
                    refine va_get (pc := 68) (ci := 2) (v := .int x4) (C := RX2) (T := TX2) (N := 8) hx hb hts iX2 hown hK hP 0 rfl rfl 7 (by decide) (hts _ tw_401) (fun _ h9 => h9) rfl dX2_makeStep_68 ?_
                    refine lv_iconst (pc := 71) (v := 1) hx hb dX2_makeStep_71 (by decide) ?_
                    refine b_iadd (pc := 72) hx hb rfl tI_1 (by first | exact (om_561 rx4.1) | ((first | omega | (unfold zBd at *; omega)))) (by first | exact (om_1976 c_1) | ((first | omega | (unfold zBd at *; omega)))) dX2_makeStep_72 (fun x_34 ex_34 => ?_)
                    refine va_put (pc := 73) (ci := 2) (v := .int x_34) (ty := .int) (C := RX2) (T := TX2) (N := 8) hx hb hts iX2 tyX2 tyX2_ok nmX2 hown hK hP hD hS 0 rfl rfl 7 (by decide) (hts _ tw_401) (fun _ h9 => h9) rfl (by decide +kernel) rfl rfl (Nat.le_of_ble_eq_true rfl) dX2_makeStep_73 (fun H locs hP hD hS => ?_)
                    replace hP : va_P D gcl (zS_19 cB cC cI cJ a0 a1 a2 a3 x0 (u_22.2.2.2.1 0) (u_22.2.2.2.1 1) 0 x_34 a1 a4 a4 (u_30.2.1 0) a3 (u_22.2.1 0) a2 (u_30.2.2.1 0)) H := hP
                    replace hD : va_D A (zS_19 cB cC cI cJ a0 a1 a2 a3 x0 (u_22.2.2.2.1 0) (u_22.2.2.2.1 1) 0 x_34 a1 a4 a4 (u_30.2.1 0) a3 (u_22.2.1 0) a2 (u_30.2.2.1 0)) := hD
                    refine lv_iconst (pc := 76) (v := 1) hx hb dX2_makeStep_76 (by decide) ?_
                    have k9 := tI_1
                    have k8_0 := tI_0
                    exact hret 1 ((fun _ => 0), (fun k => [(u_30.2.1 0), (u_22.2.1 0)].getD k (fun _ => 0)), (fun k => [(u_30.2.2.1 0)].getD k (fun _ => 0)), (fun k => [(u_22.2.2.2.1 0), (u_22.2.2.2.1 1), 0, x_34].getD k 0), (fun _ => 0)) dX2_makeStep_77 ⟨(Or.inr tI_1), ⟨(show (0 ≤ (1 : Int32).toInt ∧ (1 : Int32).toInt ≤ 1) from (n_c tI_1 (by decide))), (show (0 ≤ ((u_22.2.2.2.1 0) : Int32).toInt ∧ ((u_22.2.2.2.1 0) : Int32).toInt ≤ 39) from hw_25), (show (0 ≤ ((u_22.2.2.2.1 1) : Int32).toInt ∧ ((u_22.2.2.2.1 1) : Int32).toInt ≤ 40) from hw_26), (show (0 ≤ (0 : Int32).toInt ∧ (0 : Int32).toInt ≤ 40) from (n_c tI_0 (by decide))), (show (((u_22.2.2.2.1 1) : Int32).toInt + (0 : Int32).toInt ≤ 40) from hw_27), (show LedOK (u_30.2.1 0) (u_22.2.1 0) (u_22.2.2.2.1 0).toInt (u_22.2.2.2.1 1).toInt (0 : Int32).toInt from Led_push hg_led hw_28 (by first | exact (om_1706 h_x2.1 h_x2.2) | ((first | omega | (unfold zBd at *; omega)))) (by first | exact (om_0 h_x3.1) | ((first | omega | (unfold zBd at *; omega)))) (by first | exact (om_31 hw_29) | ((first | omega | (unfold zBd at *; omega)))) (by first | exact (om_1977 h_x1.1 h_x1.2) | ((first | omega | (unfold zBd at *; omega)))) (by first | exact (om_1978 hi_3.1 c_6 h_x0.2) | ((first | omega | (unfold zBd at *; omega)))) (by first | exact (om_1978 hi_8.1 c_11 h_x0.2) | ((first | omega | (unfold zBd at *; omega)))) (by first | exact (om_112 c_13) | ((first | omega | (unfold zBd at *; omega)))) hw_33 hw_18), (show isX f0 (u_30.2.1 0) f1 (u_22.2.1 0) x1.toInt (u_22.2.2.2.1 0).toInt x2.toInt (u_22.2.2.2.1 1).toInt x3.toInt (0 : Int32).toInt x4.toInt x_34.toInt x0.toInt (1 : Int32).toInt from isX_yes (by first | exact (om_28 tI_1) | ((first | omega | (unfold zBd at *; omega)))) (by first | exact (om_31 hw_29) | ((first | omega | (unfold zBd at *; omega)))) (by first | exact (om_5 ex_34) | ((first | omega | (unfold zBd at *; omega)))) (by first | exact (om_1979 c_1) | ((first | omega | (unfold zBd at *; omega)))) hw_19 (by first | exact (om_34 c_20) | ((first | omega | (unfold zBd at *; omega)))) (by first | exact (om_1980 hi_3.1 c_6 hi_8.1 c_11 h_x0.2) | ((first | omega | (unfold zBd at *; omega)))) (by first | exact (om_112 c_13) | ((first | omega | (unfold zBd at *; omega)))) hi_9 hw_33 hw_28)⟩⟩ (g_psub (wc := (zS_19 cB cC cI cJ a0 a1 a2 a3 x0 (u_22.2.2.2.1 0) (u_22.2.2.2.1 1) 0 x_34 a1 a4 a4 (u_30.2.1 0) a3 (u_22.2.1 0) a2 (u_30.2.2.1 0))) hP [0, 1, 2, 3, 4] rfl) (hD.sub (ws' := (zS_19 cB cC cI cJ a0 a1 a2 a3 x0 (u_22.2.2.2.1 0) (u_22.2.2.2.1 1) 0 x_34 a1 a4 a4 (u_30.2.1 0) a3 (u_22.2.1 0) a2 (u_30.2.2.1 0))) [0, 1, 2, 3, 4] (by decide) rfl) hS
                ·
                  refine lv_iconst (pc := 37) (v := 0) hx hb dX2_makeStep_37 (by decide) ?_
                  refine lv_goto (pc := 38) (tgt := 47) hx hb dX2_makeStep_38 (by decide) ?_
                  refine lv_istore_n (pc := 47) (lv' := [(3, .int 0), (2, .int x_7), (1, .int x_2), (0, .ref a0)]) hx hb dX2_makeStep_47 rfl hl (by decide) rfl (fun ls hl => ?_)
                  refine lv_iload_n (pc := 48) hx hb dX2_makeStep_48 rfl (lv_at hl 0 rfl) ?_
                  refine b_if_eq (pc := 49) (tgt := 78) hx hb tI_0  dX2_makeStep_49 (by decide) (fun c_35 => ?_) (fun c_35 => absurd c_35 (by first | exact (om_27) | ((first | omega | (unfold zBd at *; omega)))))
                  refine b_iinc (pc := 78) hx hb dX2_makeStep_78 hl (k := 1) rfl rfl tI_1 (by first | exact (om_2 hi_8.1) | ((first | omega | (unfold zBd at *; omega)))) (by first | exact (om_338 c_11 h_x0.2) | ((first | omega | (unfold zBd at *; omega)))) (by decide) (fun x_36 ex_36 ls hl => ?_)
                  replace hl : lv_has ls 4 [(2, .int x_36), (3, .int 0), (1, .int x_2), (0, .ref a0)] := hl
                  refine lv_goto (pc := 81) (tgt := 24) hx hb dX2_makeStep_81 (by decide) ?_
                  exact ih_lp_10 x_36 _ _ ls (by first | exact (om_339 ex_36 hi_8.1 c_11 h_x0.2) | ((first | omega | (unfold zBd at *; omega)))) (noq_j hi_9 (fun q => q.1 (by (first | omega | (unfold zBd at *; omega)))) (by first | exact (om_5 ex_36) | ((first | omega | (unfold zBd at *; omega))))) (by (first | omega | (unfold zBd at *; omega))) hP hD hS (lv_sub hl [0, 2, 3] rfl)
          exact lp_10 _ 0 _ _ ls (n_c tI_0 (by decide)) (noq_to hi_4 tI_0.symm) (Nat.lt_succ_self _) hP hD hS (lv_sub hl [0, 1, 2] rfl)
    exact lp_5 _ 0 _ _ ls (n_c tI_0 (by decide)) (noq_0 tI_0 rfl) (Nat.lt_succ_self _) hP hD hS (lv_sub hl [0, 1] rfl)
  ·
    refine lv_iconst (pc := 10) (v := 0) hx hb dX2_makeStep_10 (by decide) ?_
    have k9 := tI_0
    exact hret 0 ((fun _ => 0), (fun k => [f0, f1].getD k (fun _ => 0)), (fun k => [g0].getD k (fun _ => 0)), (fun k => [x1, x2, x3, x4].getD k 0), (fun _ => 0)) dX2_makeStep_11 ⟨(Or.inl tI_0), ⟨(show (0 ≤ (0 : Int32).toInt ∧ (0 : Int32).toInt ≤ 1) from (n_c tI_0 (by decide))), (show (0 ≤ (x1 : Int32).toInt ∧ (x1 : Int32).toInt ≤ 39) from h_x1), (show (0 ≤ (x2 : Int32).toInt ∧ (x2 : Int32).toInt ≤ 40) from h_x2), (show (0 ≤ (x3 : Int32).toInt ∧ (x3 : Int32).toInt ≤ 40) from h_x3), (show ((x2 : Int32).toInt + (x3 : Int32).toInt ≤ 40) from hr_a0_0), (show LedOK f0 f1 x1.toInt x2.toInt x3.toInt from hg_led), (show isX f0 f0 f1 f1 x1.toInt x1.toInt x2.toInt x2.toInt x3.toInt x3.toInt x4.toInt x4.toInt x0.toInt (0 : Int32).toInt from isX_no (by first | exact (om_31 tI_0) | ((first | omega | (unfold zBd at *; omega)))) (Or.inl (by first | exact (om_1981 c_1) | ((first | omega | (unfold zBd at *; omega))))))⟩⟩ (g_psub (wc := (zS_19 cB cC cI cJ a0 a1 a2 a3 x0 x1 x2 x3 x4 a1 a4 a4 f0 a3 f1 a2 g0)) hP [0, 1, 2, 3, 4] rfl) (hD.sub (ws' := (zS_19 cB cC cI cJ a0 a1 a2 a3 x0 x1 x2 x3 x4 a1 a4 a4 f0 a3 f1 a2 g0)) [0, 1, 2, 3, 4] (by decide) rfl) hS
theorem om_1982 {a b : Int} (h0 : (a < b)) (h1 : (b ≤ 255)) : (a + 1 ≤ 2147483647) := by omega
theorem om_1983 {a b c : Int} (h0 : (a = b + 1)) (h1 : (0 ≤ b)) (h2 : (b < c)) (h3 : (c ≤ 255)) : ((0 ≤ a ∧ a ≤ 2147483647)) := by omega
set_option maxHeartbeats 4000000 in
set_option maxRecDepth 100000 in
theorem k_X2_makeSteps (l : Launch) (D : va_G) (cB cC cI cJ : ClassId) (sz : Nat) (a0 a1 a2 a3 a4 : Nat) (x0 x1 x2 x3 x4 x5 : Int32) (f0 f1 : Nat → Int32) (g0 : Nat → Int64) (hp1 : (0 ≤ x0.toInt ∧ x0.toInt ≤ 255)) (h_x1 : zBd x1.toInt (-1) 5) (h_x2 : zBd x2.toInt 0 39) (h_x3 : zBd x3.toInt 0 40) (h_x4 : zBd x4.toInt 0 40) (hr_a0_0 : (x3.toInt + x4.toInt ≤ 40)) (hg_led : LedOK f0 f1 x2.toInt x3.toInt x4.toInt) : Met l yX2_makeSteps (.code yX2_makeSteps cX2_makeSteps 3 (some .int) :: lw_gd) ({ frames := 4, cells := 0, slots := 0, locals := 94 }) (gPre D [(cB, .byte), (cC, .char), (cI, .int), (cJ, .long)] [.ref a0, .int x0] (zS_19 cB cC cI cJ a0 a1 a2 a3 x1 x2 x3 x4 x5 a1 a4 a4 f0 a3 f1 a2 g0) sz) (va_Qi (fun r u => (0 ≤ r.toInt ∧ r.toInt ≤ 2147483647) ∧ (0 ≤ (u.2.2.2.1 0).toInt ∧ (u.2.2.2.1 0).toInt ≤ 39) ∧ (0 ≤ (u.2.2.2.1 1).toInt ∧ (u.2.2.2.1 1).toInt ≤ 40) ∧ (0 ≤ (u.2.2.2.1 2).toInt ∧ (u.2.2.2.1 2).toInt ≤ 40) ∧ ((u.2.2.2.1 1).toInt + (u.2.2.2.1 2).toInt ≤ 40) ∧ (LedOK (u.2.1 0) (u.2.1 1) (u.2.2.2.1 0).toInt (u.2.2.2.1 1).toInt (u.2.2.2.1 2).toInt) ∧ (0 ≤ r.toInt ∧ r.toInt ≤ x0.toInt) ∧ ((u.2.2.2.1 3).toInt = x5.toInt + r.toInt) ∧ (urQ x3.toInt x4.toInt (u.2.2.2.1 1).toInt (u.2.2.2.1 2).toInt r.toInt) ∧ (∀ T : Nat → Int32, XOK T f0 f1 x1.toInt x2.toInt x3.toInt x4.toInt x5.toInt → XOK T (u.2.1 0) (u.2.1 1) x1.toInt (u.2.2.2.1 0).toInt (u.2.2.2.1 1).toInt (u.2.2.2.1 2).toInt (u.2.2.2.1 3).toInt) ∧ (r.toInt = x0.toInt ∨ 200 ≤ (u.2.2.2.1 3).toInt ∨ noq (trT (u.2.1 0)) 6 x1.toInt x1.toInt 0)) (gB D (va_A (zS_19 cB cC cI cJ a0 a1 a2 a3 x1 x2 x3 x4 x5 a1 a4 a4 f0 a3 f1 a2 g0) sz) (fun u : gEx => (zS_19 cB cC cI cJ a0 a1 a2 a3 x1 (u.2.2.2.1 0) (u.2.2.2.1 1) (u.2.2.2.1 2) (u.2.2.2.1 3) a1 a4 a4 (u.2.1 0) a3 (u.2.1 1) a2 (u.2.2.1 0)))) (va_A (zS_19 cB cC cI cJ a0 a1 a2 a3 x1 x2 x3 x4 x5 a1 a4 a4 f0 a3 f1 a2 g0) sz)) 0 0 (va_A (zS_19 cB cC cI cJ a0 a1 a2 a3 x1 x2 x3 x4 x5 a1 a4 a4 f0 a3 f1 a2 g0) sz) := by
  refine gOf_i (by decide +kernel) (Nat.le_of_ble_eq_true rfl) ?_
  intro p e s m args below meth c ls A Q hx hb hts hown hml hN hK hP hD hA hl hret
  replace hown : s.vm.findClass RX2 = some m.cls := hown
  have hS : va_S A s.heap s.heap [] := va_S.rf
  replace hP : va_P D gcl (zS_19 cB cC cI cJ a0 a1 a2 a3 x1 x2 x3 x4 x5 a1 a4 a4 f0 a3 f1 a2 g0) s.heap := hP
  replace hl : lv_has ls 3 [(0, .ref a0), (1, .int x0)] := hl
  have rx5 : zBd x5.toInt (-2147483648) 2147483647 := n_rng x5
  refine lv_iconst (pc := 0) (v := 0) hx hb dX2_makeSteps_0 (by decide) ?_
  refine lv_istore_n (pc := 1) (lv' := [(2, .int 0), (0, .ref a0), (1, .int x0)]) hx hb dX2_makeSteps_1 rfl hl (by decide) rfl (fun ls hl => ?_)
  have lp_20 : ∀ (n : Nat) (x_1 x_3 x_5 x_7 x_9 : Int32) (f_12 f_13 : Nat → Int32) (g_14 : Nat → Int64) (H : Heap) (locs : List Loc) (ls : Array Slot), (0 ≤ x_1.toInt ∧ x_1.toInt ≤ 2147483647) → (0 ≤ x_3.toInt ∧ x_3.toInt ≤ 39) → (0 ≤ x_5.toInt ∧ x_5.toInt ≤ 40) → (0 ≤ x_7.toInt ∧ x_7.toInt ≤ 40) → (x_5.toInt + x_7.toInt ≤ 40) → (LedOK f_12 f_13 x_3.toInt x_5.toInt x_7.toInt) → (x_1.toInt ≤ x0.toInt) → (x_9.toInt = x5.toInt + x_1.toInt) → (urQ x3.toInt x4.toInt x_5.toInt x_7.toInt x_1.toInt) → (∀ T : Nat → Int32, XOK T f0 f1 x1.toInt x2.toInt x3.toInt x4.toInt x5.toInt → XOK T f_12 f_13 x1.toInt x_3.toInt x_5.toInt x_7.toInt x_9.toInt) → (2147483647 - x_1.toInt).toNat < n → va_P D gcl (zS_19 cB cC cI cJ a0 a1 a2 a3 x1 x_3 x_5 x_7 x_9 a1 a4 a4 f_12 a3 f_13 a2 g_14) H → va_D A (zS_19 cB cC cI cJ a0 a1 a2 a3 x1 x_3 x_5 x_7 x_9 a1 a4 a4 f_12 a3 f_13 a2 g_14) → va_S A s.heap H locs → lv_has ls 3 [(2, .int x_1), (0, .ref a0), (1, .int x0)] → W p l e ({ frames := 4, cells := 0, slots := 0, locals := 94 }) s m args below meth c H locs 0 0 Q (F0 m 2 ls []) := by
    intro n
    induction n with
    | zero => intro x_1 x_3 x_5 x_7 x_9 f_12 f_13 g_14 H locs ls hi_2 hi_4 hi_6 hi_8 hi_11 hi_15 hi_16 hi_17 hi_18 hi_19 hmu; exact absurd hmu (Nat.not_lt_zero _)
    | succ n ih_lp_20 =>
      intro x_1 x_3 x_5 x_7 x_9 f_12 f_13 g_14 H locs ls hi_2 hi_4 hi_6 hi_8 hi_11 hi_15 hi_16 hi_17 hi_18 hi_19 hmu_lp_20 hP hD hS hl
      have hi_10 := n_rng x_9
      refine lv_iload_n (pc := 2) hx hb dX2_makeSteps_2 rfl (lv_at hl 0 rfl) ?_
      refine lv_iload_n (pc := 3) hx hb dX2_makeSteps_3 rfl (lv_at hl 2 rfl) ?_
      refine b_icmp_ge (pc := 4) (tgt := 20) hx hb rfl rfl  dX2_makeSteps_4 (by decide) (fun c_21 => ?_) (fun c_21 => ?_)
      ·
        refine lv_iload_n (pc := 20) hx hb dX2_makeSteps_20 rfl (lv_at hl 0 rfl) ?_
        exact hret x_1 ((fun _ => 0), (fun k => [f_12, f_13].getD k (fun _ => 0)), (fun k => [g_14].getD k (fun _ => 0)), (fun k => [x_3, x_5, x_7, x_9].getD k 0), (fun _ => 0)) dX2_makeSteps_21 ⟨(show (0 ≤ x_1.toInt ∧ x_1.toInt ≤ 2147483647) from hi_2), (show (0 ≤ (x_3 : Int32).toInt ∧ (x_3 : Int32).toInt ≤ 39) from hi_4), (show (0 ≤ (x_5 : Int32).toInt ∧ (x_5 : Int32).toInt ≤ 40) from hi_6), (show (0 ≤ (x_7 : Int32).toInt ∧ (x_7 : Int32).toInt ≤ 40) from hi_8), (show ((x_5 : Int32).toInt + (x_7 : Int32).toInt ≤ 40) from hi_11), (show LedOK f_12 f_13 x_3.toInt x_5.toInt x_7.toInt from hi_15), (show 0 ≤ x_1.toInt ∧ x_1.toInt ≤ x0.toInt from (by first | exact (om_793 hi_2.1 hi_16) | ((first | omega | (unfold zBd at *; omega))))), (show x_9.toInt = x5.toInt + x_1.toInt from (by first | exact (om_63 hi_17) | ((first | omega | (unfold zBd at *; omega))))), (show urQ x3.toInt x4.toInt x_5.toInt x_7.toInt x_1.toInt from hi_18), (show ∀ T : Nat → Int32, XOK T f0 f1 x1.toInt x2.toInt x3.toInt x4.toInt x5.toInt → XOK T f_12 f_13 x1.toInt x_3.toInt x_5.toInt x_7.toInt x_9.toInt from hi_19), (show x_1.toInt = x0.toInt ∨ 200 ≤ x_9.toInt ∨ noq (trT f_12) 6 x1.toInt x1.toInt 0 from Or.inl (by first | exact (om_1416 c_21 hi_16) | ((first | omega | (unfold zBd at *; omega)))))⟩ (g_psub (wc := (zS_19 cB cC cI cJ a0 a1 a2 a3 x1 x_3 x_5 x_7 x_9 a1 a4 a4 f_12 a3 f_13 a2 g_14)) hP [0, 1, 2, 3, 4] rfl) (hD.sub (ws' := (zS_19 cB cC cI cJ a0 a1 a2 a3 x1 x_3 x_5 x_7 x_9 a1 a4 a4 f_12 a3 f_13 a2 g_14)) [0, 1, 2, 3, 4] (by decide) rfl) hS
      ·
        refine lv_aload_n (pc := 7) hx hb dX2_makeSteps_7 rfl (lv_at hl 1 rfl) ?_
        refine gd_i (pc := 8) (wc := (zS_19 cB cC cI cJ a0 a1 a2 a3 x1 x_3 x_5 x_7 x_9 a1 a4 a4 f_12 a3 f_13 a2 g_14)) hP hD hS hA [0, 1, 2, 3, 4] rfl (by decide +kernel) (fun _ => by rfl) (fun hPc hDc => va_runV (As := []) (rest := []) ⟨hx, hb, hml, hown, hts⟩ (k_X2_makeStep l D cB cC cI cJ _ a0 a1 a2 a3 a4 x1 x_3 x_5 x_7 x_9 f_12 f_13 g_14 h_x1 hi_4 hi_6 hi_8 hi_11 (hi_15)) ⟨gcwB hts tw_1043 tw_13 tw_1040 hd_yX2_makeStep ⟨Nat.le_of_ble_eq_true rfl, Nat.le_of_ble_eq_true rfl⟩, hts _ tw_1042, hts _ tp_40⟩ ⟨gblind, va_recv hK hPc (ci := 2) (q0 := 0) rfl rfl, (gpreS hPc hK hDc hN).2⟩ rfl rfl hl.1 rfl (lv_room (Nat.le_of_ble_eq_true rfl)) dX2_makeSteps_8 ⟨Nat.le_of_ble_eq_true rfl, Nat.le_of_ble_eq_true rfl⟩) (fun r_23 u_22 H locs hw_24 hP hD hS => ?_)
        replace hP : va_P D gcl (zS_19 cB cC cI cJ a0 a1 a2 a3 x1 (u_22.2.2.2.1 0) (u_22.2.2.2.1 1) (u_22.2.2.2.1 2) (u_22.2.2.2.1 3) a1 a4 a4 (u_22.2.1 0) a3 (u_22.2.1 1) a2 (u_22.2.2.1 0)) H := hP
        replace hD : va_D A (zS_19 cB cC cI cJ a0 a1 a2 a3 x1 (u_22.2.2.2.1 0) (u_22.2.2.2.1 1) (u_22.2.2.2.1 2) (u_22.2.2.2.1 3) a1 a4 a4 (u_22.2.1 0) a3 (u_22.2.1 1) a2 (u_22.2.2.1 0)) := hD
        have ru_22_0 : zBd (u_22.2.2.2.1 3).toInt (-2147483648) 2147483647 := n_rng (u_22.2.2.2.1 3)
        obtain ⟨hw_25, hw_26, hw_27, hw_28, hw_29, hw_30, hw_31⟩ := hw_24
        replace hw_25 : (0 ≤ r_23.toInt ∧ r_23.toInt ≤ 1) := hw_25
        replace hw_26 : zBd (u_22.2.2.2.1 0).toInt 0 39 := hw_26
        replace hw_27 : zBd (u_22.2.2.2.1 1).toInt 0 40 := hw_27
        replace hw_28 : zBd (u_22.2.2.2.1 2).toInt 0 40 := hw_28
        replace hw_29 : ((u_22.2.2.2.1 1).toInt + (u_22.2.2.2.1 2).toInt ≤ 40) := hw_29
        replace hw_30 : (LedOK (u_22.2.1 0) (u_22.2.1 1) (u_22.2.2.2.1 0).toInt (u_22.2.2.2.1 1).toInt (u_22.2.2.2.1 2).toInt) := hw_30
        replace hw_31 : (isX f_12 (u_22.2.1 0) f_13 (u_22.2.1 1) x_3.toInt (u_22.2.2.2.1 0).toInt x_5.toInt (u_22.2.2.2.1 1).toInt x_7.toInt (u_22.2.2.2.1 2).toInt x_9.toInt (u_22.2.2.2.1 3).toInt x1.toInt r_23.toInt) := hw_31
        have rr_23 : zBd r_23.toInt (-2147483648) 2147483647 := n_rng r_23
        refine b_if_eq (pc := 11) (tgt := 20) hx hb rfl  dX2_makeSteps_11 (by decide) (fun c_32 => ?_) (fun c_32 => ?_)
        ·
          refine lv_iload_n (pc := 20) hx hb dX2_makeSteps_20 rfl (lv_at hl 0 rfl) ?_
          exact hret x_1 ((fun _ => 0), (fun k => [(u_22.2.1 0), (u_22.2.1 1)].getD k (fun _ => 0)), (fun k => [(u_22.2.2.1 0)].getD k (fun _ => 0)), (fun k => [(u_22.2.2.2.1 0), (u_22.2.2.2.1 1), (u_22.2.2.2.1 2), (u_22.2.2.2.1 3)].getD k 0), (fun _ => 0)) dX2_makeSteps_21 ⟨(show (0 ≤ x_1.toInt ∧ x_1.toInt ≤ 2147483647) from hi_2), (show (0 ≤ ((u_22.2.2.2.1 0) : Int32).toInt ∧ ((u_22.2.2.2.1 0) : Int32).toInt ≤ 39) from hw_26), (show (0 ≤ ((u_22.2.2.2.1 1) : Int32).toInt ∧ ((u_22.2.2.2.1 1) : Int32).toInt ≤ 40) from hw_27), (show (0 ≤ ((u_22.2.2.2.1 2) : Int32).toInt ∧ ((u_22.2.2.2.1 2) : Int32).toInt ≤ 40) from hw_28), (show (((u_22.2.2.2.1 1) : Int32).toInt + ((u_22.2.2.2.1 2) : Int32).toInt ≤ 40) from hw_29), (show LedOK (u_22.2.1 0) (u_22.2.1 1) (u_22.2.2.2.1 0).toInt (u_22.2.2.2.1 1).toInt (u_22.2.2.2.1 2).toInt from hw_30), (show 0 ≤ x_1.toInt ∧ x_1.toInt ≤ x0.toInt from (by first | exact (om_1700 hi_2.1 c_21) | ((first | omega | (unfold zBd at *; omega))))), (show (u_22.2.2.2.1 3).toInt = x5.toInt + x_1.toInt from (by have q := isX_end hw_31 (by (first | omega | (unfold zBd at *; omega))); (first | omega | (unfold zBd at *; omega)))), (show urQ x3.toInt x4.toInt (u_22.2.2.2.1 1).toInt (u_22.2.2.2.1 2).toInt x_1.toInt from ur_X0 hi_18 hw_31 (by first | exact (om_31 c_32) | ((first | omega | (unfold zBd at *; omega))))), (show ∀ T : Nat → Int32, XOK T f0 f1 x1.toInt x2.toInt x3.toInt x4.toInt x5.toInt → XOK T (u_22.2.1 0) (u_22.2.1 1) x1.toInt (u_22.2.2.2.1 0).toInt (u_22.2.2.2.1 1).toInt (u_22.2.2.2.1 2).toInt (u_22.2.2.2.1 3).toInt from fun T h => X_same (hi_19 T h) hw_31 (by first | exact (om_31 c_32) | ((first | omega | (unfold zBd at *; omega))))), (show x_1.toInt = x0.toInt ∨ 200 ≤ (u_22.2.2.2.1 3).toInt ∨ noq (trT (u_22.2.1 0)) 6 x1.toInt x1.toInt 0 from Or.inr (isX_end hw_31 (by first | exact (om_31 c_32) | ((first | omega | (unfold zBd at *; omega))))).2)⟩ (g_psub (wc := (zS_19 cB cC cI cJ a0 a1 a2 a3 x1 (u_22.2.2.2.1 0) (u_22.2.2.2.1 1) (u_22.2.2.2.1 2) (u_22.2.2.2.1 3) a1 a4 a4 (u_22.2.1 0) a3 (u_22.2.1 1) a2 (u_22.2.2.1 0))) hP [0, 1, 2, 3, 4] rfl) (hD.sub (ws' := (zS_19 cB cC cI cJ a0 a1 a2 a3 x1 (u_22.2.2.2.1 0) (u_22.2.2.2.1 1) (u_22.2.2.2.1 2) (u_22.2.2.2.1 3) a1 a4 a4 (u_22.2.1 0) a3 (u_22.2.1 1) a2 (u_22.2.2.1 0))) [0, 1, 2, 3, 4] (by decide) rfl) hS
        ·
          refine b_iinc (pc := 14) hx hb dX2_makeSteps_14 hl (k := 0) rfl rfl tI_1 (by first | exact (om_2 hi_2.1) | ((first | omega | (unfold zBd at *; omega)))) (by first | exact (om_1982 c_21 hp1.2) | ((first | omega | (unfold zBd at *; omega)))) (by decide) (fun x_33 ex_33 ls hl => ?_)
          replace hl : lv_has ls 3 [(2, .int x_33), (0, .ref a0), (1, .int x0)] := hl
          refine lv_goto (pc := 17) (tgt := 2) hx hb dX2_makeSteps_17 (by decide) ?_
          exact ih_lp_20 x_33 (u_22.2.2.2.1 0) (u_22.2.2.2.1 1) (u_22.2.2.2.1 2) (u_22.2.2.2.1 3) (u_22.2.1 0) (u_22.2.1 1) (u_22.2.2.1 0) _ _ ls (by first | exact (om_1983 ex_33 hi_2.1 c_21 hp1.2) | ((first | omega | (unfold zBd at *; omega)))) hw_26 hw_27 hw_28 hw_29 (hw_30) (by first | exact (om_40 ex_33 c_21) | ((first | omega | (unfold zBd at *; omega)))) (by have q := isX_d hw_31 (by (first | omega | (unfold zBd at *; omega))); (first | omega | (unfold zBd at *; omega))) (ur_X hi_18 hw_31 (by first | exact (om_34 c_32) | ((first | omega | (unfold zBd at *; omega)))) (by first | exact (om_0 hi_2.1) | ((first | omega | (unfold zBd at *; omega)))) (by first | exact (om_1706 h_x3.1 h_x3.2) | ((first | omega | (unfold zBd at *; omega)))) (by first | exact (om_5 ex_33) | ((first | omega | (unfold zBd at *; omega))))) (fun T h => X_push (hi_19 T h) hw_31 (by first | exact (om_34 c_32) | ((first | omega | (unfold zBd at *; omega))))) (by (first | omega | (unfold zBd at *; omega))) hP hD hS (lv_sub hl [0, 1, 2] rfl)
  exact lp_20 _ 0 x2 x3 x4 x5 f0 f1 g0 _ _ ls (n_c tI_0 (by decide)) h_x2 h_x3 h_x4 hr_a0_0 (hg_led) (by have q := tI_0; (first | omega | (unfold zBd at *; omega))) (by have q := tI_0; (first | omega | (unfold zBd at *; omega))) (ur_0 tI_0) (fun _ h => h) (Nat.lt_succ_self _) hP hD hS (lv_sub hl [0, 1, 2] rfl)
theorem om_1984 {a : Int} (h0 : (a < 1)) : (¬ (1 ≤ a ∧ a ≤ 100)) := by omega
theorem om_1985 {a : Int} (h0 : (a ≥ 1)) (h1 : (a ≤ 100)) : ((0 ≤ a ∧ a ≤ 255)) := by omega
theorem om_1986 {a : Int} (h0 : (0 ≤ a)) (h1 : (a ≤ 2147483647)) : (((-1) ≤ a ∧ a ≤ 2147483647)) := by omega
theorem om_1987 {a : Int} (h0 : (a ≥ 1)) (h1 : (a ≤ 100)) : (1 ≤ a ∧ a ≤ 100) := by omega
theorem om_1988 {a : Int} (h0 : (a > 100)) : (¬ (1 ≤ a ∧ a ≤ 100)) := by omega
set_option maxHeartbeats 4000000 in
set_option maxRecDepth 100000 in
theorem k_X11_lead (l : Launch) (D : va_G) (cB cC cI cJ : ClassId) (sz : Nat) (a0 a1 a2 a3 a4 a5 a6 a7 a8 a9 a10 a11 a12 a13 a14 a15 a16 a17 a18 a19 a20 a21 : Nat) (x0 x1 x2 x3 x4 x5 x6 x7 x8 x9 x10 x11 x12 x13 : Int32) (f0 f1 f2 : Nat → Int32) (g0 : Nat → Int64) (h_x1 : zBd x1.toInt 0 14) (h_x2 : zBd x2.toInt (-1) 5) (h_x3 : zBd x3.toInt 0 39) (h_x4 : zBd x4.toInt 0 40) (h_x5 : zBd x5.toInt 0 40) (hr_a12_0 : (x4.toInt + x5.toInt ≤ 40)) (h_x7 : zBd x7.toInt (-1) 8) (h_x8 : zBd x8.toInt (-1) 5) (h_x9 : zBd x9.toInt (-1) 6) (h_x10 : zBd x10.toInt 0 6) (h_x11 : zBd x11.toInt 0 16) (hg_led : LedOK f0 f1 x3.toInt x4.toInt x5.toInt) (hg_xk : XOK f2 f0 f1 x2.toInt x3.toInt x4.toInt x5.toInt x6.toInt) (hg_se : x2.toInt = x8.toInt) : Met l yX11_lead (.code yX11_lead cX11_lead 2 (some .int) :: lw_gd) ({ frames := 5, cells := 0, slots := 0, locals := 116 }) (gPre D [(cB, .byte), (cC, .char), (cI, .int), (cJ, .long)] [.ref a0, .int x0] (zS_52 cB cC cI cJ a0 a1 a2 a3 a4 a5 a6 a7 a8 a9 a10 x1 a11 a12 a13 a12 a14 a15 a16 x2 x3 x4 x5 x6 a14 a17 a17 f0 a16 f1 a11 a18 a19 a20 x7 x8 x9 x10 x11 x12 x13 a18 a21 a21 f2 a15 g0) sz) (va_Qi (fun r u => ((-1) ≤ r.toInt ∧ r.toInt ≤ 2147483647) ∧ (0 ≤ (u.2.2.2.1 0).toInt ∧ (u.2.2.2.1 0).toInt ≤ 39) ∧ (0 ≤ (u.2.2.2.1 1).toInt ∧ (u.2.2.2.1 1).toInt ≤ 40) ∧ (0 ≤ (u.2.2.2.1 2).toInt ∧ (u.2.2.2.1 2).toInt ≤ 40) ∧ ((u.2.2.2.1 1).toInt + (u.2.2.2.1 2).toInt ≤ 40) ∧ (LedOK (u.2.1 0) (u.2.1 1) (u.2.2.2.1 0).toInt (u.2.2.2.1 1).toInt (u.2.2.2.1 2).toInt) ∧ (XOK f2 (u.2.1 0) (u.2.1 1) x2.toInt (u.2.2.2.1 0).toInt (u.2.2.2.1 1).toInt (u.2.2.2.1 2).toInt (u.2.2.2.1 3).toInt) ∧ (ldQ r.toInt x0.toInt x4.toInt x5.toInt x6.toInt (u.2.2.2.1 1).toInt (u.2.2.2.1 2).toInt (u.2.2.2.1 3).toInt (trT (u.2.1 0)) 6 x2.toInt)) (gB D (va_A (zS_52 cB cC cI cJ a0 a1 a2 a3 a4 a5 a6 a7 a8 a9 a10 x1 a11 a12 a13 a12 a14 a15 a16 x2 x3 x4 x5 x6 a14 a17 a17 f0 a16 f1 a11 a18 a19 a20 x7 x8 x9 x10 x11 x12 x13 a18 a21 a21 f2 a15 g0) sz) (fun u : gEx => (zS_52 cB cC cI cJ a0 a1 a2 a3 a4 a5 a6 a7 a8 a9 a10 x1 a11 a12 a13 a12 a14 a15 a16 x2 (u.2.2.2.1 0) (u.2.2.2.1 1) (u.2.2.2.1 2) (u.2.2.2.1 3) a14 a17 a17 (u.2.1 0) a16 (u.2.1 1) a11 a18 a19 a20 x7 x8 x9 x10 x11 x12 x13 a18 a21 a21 f2 a15 (u.2.2.1 0)))) (va_A (zS_52 cB cC cI cJ a0 a1 a2 a3 a4 a5 a6 a7 a8 a9 a10 x1 a11 a12 a13 a12 a14 a15 a16 x2 x3 x4 x5 x6 a14 a17 a17 f0 a16 f1 a11 a18 a19 a20 x7 x8 x9 x10 x11 x12 x13 a18 a21 a21 f2 a15 g0) sz)) 0 0 (va_A (zS_52 cB cC cI cJ a0 a1 a2 a3 a4 a5 a6 a7 a8 a9 a10 x1 a11 a12 a13 a12 a14 a15 a16 x2 x3 x4 x5 x6 a14 a17 a17 f0 a16 f1 a11 a18 a19 a20 x7 x8 x9 x10 x11 x12 x13 a18 a21 a21 f2 a15 g0) sz) := by
  refine gOf_i (by decide +kernel) (Nat.le_of_ble_eq_true rfl) ?_
  intro p e s m args below meth c ls A Q hx hb hts hown hml hN hK hP hD hA hl hret
  replace hown : s.vm.findClass RX11 = some m.cls := hown
  have hS : va_S A s.heap s.heap [] := va_S.rf
  replace hP : va_P D gcl (zS_52 cB cC cI cJ a0 a1 a2 a3 a4 a5 a6 a7 a8 a9 a10 x1 a11 a12 a13 a12 a14 a15 a16 x2 x3 x4 x5 x6 a14 a17 a17 f0 a16 f1 a11 a18 a19 a20 x7 x8 x9 x10 x11 x12 x13 a18 a21 a21 f2 a15 g0) s.heap := hP
  replace hl : lv_has ls 2 [(0, .ref a0), (1, .int x0)] := hl
  have rx0 : zBd x0.toInt (-2147483648) 2147483647 := n_rng x0
  have rx6 : zBd x6.toInt (-2147483648) 2147483647 := n_rng x6
  have rx12 : zBd x12.toInt (-2147483648) 2147483647 := n_rng x12
  have rx13 : zBd x13.toInt (-2147483648) 2147483647 := n_rng x13
  refine lv_iload_n (pc := 0) hx hb dX11_lead_0 rfl (lv_at hl 1 rfl) ?_
  refine lv_iconst (pc := 1) (v := 1) hx hb dX11_lead_1 (by decide) ?_
  refine b_icmp_lt (pc := 2) (tgt := 11) hx hb rfl tI_1  dX11_lead_2 (by decide) (fun c_1 => ?_) (fun c_1 => ?_)
  ·
    refine lv_iconst (pc := 11) (v := (-1)) hx hb dX11_lead_11 (by decide) ?_
    refine lv_goto (pc := 12) (tgt := 23) hx hb dX11_lead_12 (by decide) ?_
    have k9 := tI_m1
    exact hret (-1) ((fun _ => 0), (fun k => [f0, f1].getD k (fun _ => 0)), (fun k => [g0].getD k (fun _ => 0)), (fun k => [x3, x4, x5, x6].getD k 0), (fun _ => 0)) dX11_lead_23 ⟨(show ((-1) ≤ ((-1) : Int32).toInt ∧ ((-1) : Int32).toInt ≤ 2147483647) from (n_c tI_m1 (by decide))), (show (0 ≤ (x3 : Int32).toInt ∧ (x3 : Int32).toInt ≤ 39) from h_x3), (show (0 ≤ (x4 : Int32).toInt ∧ (x4 : Int32).toInt ≤ 40) from h_x4), (show (0 ≤ (x5 : Int32).toInt ∧ (x5 : Int32).toInt ≤ 40) from h_x5), (show ((x4 : Int32).toInt + (x5 : Int32).toInt ≤ 40) from hr_a12_0), (show LedOK f0 f1 x3.toInt x4.toInt x5.toInt from hg_led), (show XOK f2 f0 f1 x2.toInt x3.toInt x4.toInt x5.toInt x6.toInt from hg_xk), (show ldQ ((-1) : Int32).toInt x0.toInt x4.toInt x5.toInt x6.toInt x4.toInt x5.toInt x6.toInt (trT f0) 6 x2.toInt from ld_no (by first | exact (om_65 tI_m1) | ((first | omega | (unfold zBd at *; omega)))) (by first | exact (om_1984 c_1) | ((first | omega | (unfold zBd at *; omega)))))⟩ (g_psub (wc := (zS_52 cB cC cI cJ a0 a1 a2 a3 a4 a5 a6 a7 a8 a9 a10 x1 a11 a12 a13 a12 a14 a15 a16 x2 x3 x4 x5 x6 a14 a17 a17 f0 a16 f1 a11 a18 a19 a20 x7 x8 x9 x10 x11 x12 x13 a18 a21 a21 f2 a15 g0)) hP [0, 1, 2, 3, 4, 5, 6, 7, 8] rfl) (hD.sub (ws' := (zS_52 cB cC cI cJ a0 a1 a2 a3 a4 a5 a6 a7 a8 a9 a10 x1 a11 a12 a13 a12 a14 a15 a16 x2 x3 x4 x5 x6 a14 a17 a17 f0 a16 f1 a11 a18 a19 a20 x7 x8 x9 x10 x11 x12 x13 a18 a21 a21 f2 a15 g0)) [0, 1, 2, 3, 4, 5, 6, 7, 8] (by decide) rfl) hS
  ·
    refine lv_iload_n (pc := 5) hx hb dX11_lead_5 rfl (lv_at hl 1 rfl) ?_
    refine lv_bipush (pc := 6) (v := 100) hx hb dX11_lead_6 (by decide) ?_
    refine b_icmp_le (pc := 8) (tgt := 15) hx hb rfl tI_100  dX11_lead_8 (by decide) (fun c_2 => ?_) (fun c_2 => ?_)
    ·
      refine lv_aload_n (pc := 15) hx hb dX11_lead_15 rfl (lv_at hl 0 rfl) ?_
      refine va_get (pc := 16) (ci := 11) (v := .ref a12) (C := RX11) (T := TX11) (N := 14) hx hb hts iX11 hown hK hP 0 rfl rfl 12 (by decide) (hts _ tw_432) (fun _ h9 => h9) rfl dX11_lead_16 ?_
      refine lv_iload_n (pc := 19) hx hb dX11_lead_19 rfl (lv_at hl 1 rfl) ?_
      refine gd_i (pc := 20) (wc := (zS_19 cB cC cI cJ a12 a14 a15 a16 x2 x3 x4 x5 x6 a14 a17 a17 f0 a16 f1 a15 g0)) hP hD hS hA [1, 2, 3, 4, 8] rfl (by decide +kernel) (fun _ => by rfl) (fun hPc hDc => va_runV (As := [.int x0]) (rest := []) ⟨hx, hb, hml, hown, hts⟩ (k_X2_makeSteps l D cB cC cI cJ _ a12 a14 a15 a16 a17 x0 x2 x3 x4 x5 x6 f0 f1 g0 (by first | exact (om_1985 c_1 c_2) | ((first | omega | (unfold zBd at *; omega)))) h_x2 h_x3 h_x4 h_x5 hr_a12_0 (hg_led)) ⟨gcwB hts tw_1039 tw_13 tw_1036 hd_yX2_makeSteps ⟨Nat.le_of_ble_eq_true rfl, Nat.le_of_ble_eq_true rfl⟩, hts _ tw_1037, hts _ tw_1038⟩ ⟨gblind, va_recv hK hPc (ci := 2) (q0 := 0) rfl rfl, (gpreS hPc hK hDc hN).2⟩ rfl rfl hl.1 rfl (lv_room (Nat.le_of_ble_eq_true rfl)) dX11_lead_20 ⟨Nat.le_of_ble_eq_true rfl, Nat.le_of_ble_eq_true rfl⟩) (fun r_4 u_3 H locs hw_5 hP hD hS => ?_)
      replace hP : va_P D gcl (zS_52 cB cC cI cJ a0 a1 a2 a3 a4 a5 a6 a7 a8 a9 a10 x1 a11 a12 a13 a12 a14 a15 a16 x2 (u_3.2.2.2.1 0) (u_3.2.2.2.1 1) (u_3.2.2.2.1 2) (u_3.2.2.2.1 3) a14 a17 a17 (u_3.2.1 0) a16 (u_3.2.1 1) a11 a18 a19 a20 x7 x8 x9 x10 x11 x12 x13 a18 a21 a21 f2 a15 (u_3.2.2.1 0)) H := hP
      replace hD : va_D A (zS_52 cB cC cI cJ a0 a1 a2 a3 a4 a5 a6 a7 a8 a9 a10 x1 a11 a12 a13 a12 a14 a15 a16 x2 (u_3.2.2.2.1 0) (u_3.2.2.2.1 1) (u_3.2.2.2.1 2) (u_3.2.2.2.1 3) a14 a17 a17 (u_3.2.1 0) a16 (u_3.2.1 1) a11 a18 a19 a20 x7 x8 x9 x10 x11 x12 x13 a18 a21 a21 f2 a15 (u_3.2.2.1 0)) := hD
      have ru_3_0 : zBd (u_3.2.2.2.1 3).toInt (-2147483648) 2147483647 := n_rng (u_3.2.2.2.1 3)
      obtain ⟨hw_6, hw_7, hw_8, hw_9, hw_10, hw_11, hw_12, hw_13, hw_14, hw_15, hw_16⟩ := hw_5
      replace hw_6 : (0 ≤ r_4.toInt ∧ r_4.toInt ≤ 2147483647) := hw_6
      replace hw_7 : zBd (u_3.2.2.2.1 0).toInt 0 39 := hw_7
      replace hw_8 : zBd (u_3.2.2.2.1 1).toInt 0 40 := hw_8
      replace hw_9 : zBd (u_3.2.2.2.1 2).toInt 0 40 := hw_9
      replace hw_10 : ((u_3.2.2.2.1 1).toInt + (u_3.2.2.2.1 2).toInt ≤ 40) := hw_10
      replace hw_11 : (LedOK (u_3.2.1 0) (u_3.2.1 1) (u_3.2.2.2.1 0).toInt (u_3.2.2.2.1 1).toInt (u_3.2.2.2.1 2).toInt) := hw_11
      replace hw_12 : (0 ≤ r_4.toInt ∧ r_4.toInt ≤ x0.toInt) := hw_12
      replace hw_13 : ((u_3.2.2.2.1 3).toInt = x6.toInt + r_4.toInt) := hw_13
      replace hw_14 : (urQ x4.toInt x5.toInt (u_3.2.2.2.1 1).toInt (u_3.2.2.2.1 2).toInt r_4.toInt) := hw_14
      replace hw_15 : (∀ T : Nat → Int32, XOK T f0 f1 x2.toInt x3.toInt x4.toInt x5.toInt x6.toInt → XOK T (u_3.2.1 0) (u_3.2.1 1) x2.toInt (u_3.2.2.2.1 0).toInt (u_3.2.2.2.1 1).toInt (u_3.2.2.2.1 2).toInt (u_3.2.2.2.1 3).toInt) := hw_15
      replace hw_16 : (r_4.toInt = x0.toInt ∨ 200 ≤ (u_3.2.2.2.1 3).toInt ∨ noq (trT (u_3.2.1 0)) 6 x2.toInt x2.toInt 0) := hw_16
      have rr_4 : zBd r_4.toInt (-2147483648) 2147483647 := n_rng r_4
      exact hret r_4 ((fun _ => 0), (fun k => [(u_3.2.1 0), (u_3.2.1 1)].getD k (fun _ => 0)), (fun k => [(u_3.2.2.1 0)].getD k (fun _ => 0)), (fun k => [(u_3.2.2.2.1 0), (u_3.2.2.2.1 1), (u_3.2.2.2.1 2), (u_3.2.2.2.1 3)].getD k 0), (fun _ => 0)) dX11_lead_23 ⟨(show ((-1) ≤ r_4.toInt ∧ r_4.toInt ≤ 2147483647) from (by first | exact (om_1986 hw_12.1 rr_4.2) | ((first | omega | (unfold zBd at *; omega))))), (show (0 ≤ ((u_3.2.2.2.1 0) : Int32).toInt ∧ ((u_3.2.2.2.1 0) : Int32).toInt ≤ 39) from hw_7), (show (0 ≤ ((u_3.2.2.2.1 1) : Int32).toInt ∧ ((u_3.2.2.2.1 1) : Int32).toInt ≤ 40) from hw_8), (show (0 ≤ ((u_3.2.2.2.1 2) : Int32).toInt ∧ ((u_3.2.2.2.1 2) : Int32).toInt ≤ 40) from hw_9), (show (((u_3.2.2.2.1 1) : Int32).toInt + ((u_3.2.2.2.1 2) : Int32).toInt ≤ 40) from hw_10), (show LedOK (u_3.2.1 0) (u_3.2.1 1) (u_3.2.2.2.1 0).toInt (u_3.2.2.2.1 1).toInt (u_3.2.2.2.1 2).toInt from hw_11), (show XOK f2 (u_3.2.1 0) (u_3.2.1 1) x2.toInt (u_3.2.2.2.1 0).toInt (u_3.2.2.2.1 1).toInt (u_3.2.2.2.1 2).toInt (u_3.2.2.2.1 3).toInt from hw_15 _ hg_xk), (show ldQ r_4.toInt x0.toInt x4.toInt x5.toInt x6.toInt (u_3.2.2.2.1 1).toInt (u_3.2.2.2.1 2).toInt (u_3.2.2.2.1 3).toInt (trT (u_3.2.1 0)) 6 x2.toInt from ld_yes (by first | exact (om_1987 c_1 c_2) | ((first | omega | (unfold zBd at *; omega)))) hw_12 hw_13 hw_14 hw_16)⟩ (g_psub (wc := (zS_52 cB cC cI cJ a0 a1 a2 a3 a4 a5 a6 a7 a8 a9 a10 x1 a11 a12 a13 a12 a14 a15 a16 x2 (u_3.2.2.2.1 0) (u_3.2.2.2.1 1) (u_3.2.2.2.1 2) (u_3.2.2.2.1 3) a14 a17 a17 (u_3.2.1 0) a16 (u_3.2.1 1) a11 a18 a19 a20 x7 x8 x9 x10 x11 x12 x13 a18 a21 a21 f2 a15 (u_3.2.2.1 0))) hP [0, 1, 2, 3, 4, 5, 6, 7, 8] rfl) (hD.sub (ws' := (zS_52 cB cC cI cJ a0 a1 a2 a3 a4 a5 a6 a7 a8 a9 a10 x1 a11 a12 a13 a12 a14 a15 a16 x2 (u_3.2.2.2.1 0) (u_3.2.2.2.1 1) (u_3.2.2.2.1 2) (u_3.2.2.2.1 3) a14 a17 a17 (u_3.2.1 0) a16 (u_3.2.1 1) a11 a18 a19 a20 x7 x8 x9 x10 x11 x12 x13 a18 a21 a21 f2 a15 (u_3.2.2.1 0))) [0, 1, 2, 3, 4, 5, 6, 7, 8] (by decide) rfl) hS
    ·
      refine lv_iconst (pc := 11) (v := (-1)) hx hb dX11_lead_11 (by decide) ?_
      refine lv_goto (pc := 12) (tgt := 23) hx hb dX11_lead_12 (by decide) ?_
      have k9 := tI_m1
      exact hret (-1) ((fun _ => 0), (fun k => [f0, f1].getD k (fun _ => 0)), (fun k => [g0].getD k (fun _ => 0)), (fun k => [x3, x4, x5, x6].getD k 0), (fun _ => 0)) dX11_lead_23 ⟨(show ((-1) ≤ ((-1) : Int32).toInt ∧ ((-1) : Int32).toInt ≤ 2147483647) from (n_c tI_m1 (by decide))), (show (0 ≤ (x3 : Int32).toInt ∧ (x3 : Int32).toInt ≤ 39) from h_x3), (show (0 ≤ (x4 : Int32).toInt ∧ (x4 : Int32).toInt ≤ 40) from h_x4), (show (0 ≤ (x5 : Int32).toInt ∧ (x5 : Int32).toInt ≤ 40) from h_x5), (show ((x4 : Int32).toInt + (x5 : Int32).toInt ≤ 40) from hr_a12_0), (show LedOK f0 f1 x3.toInt x4.toInt x5.toInt from hg_led), (show XOK f2 f0 f1 x2.toInt x3.toInt x4.toInt x5.toInt x6.toInt from hg_xk), (show ldQ ((-1) : Int32).toInt x0.toInt x4.toInt x5.toInt x6.toInt x4.toInt x5.toInt x6.toInt (trT f0) 6 x2.toInt from ld_no (by first | exact (om_65 tI_m1) | ((first | omega | (unfold zBd at *; omega)))) (by first | exact (om_1988 c_2) | ((first | omega | (unfold zBd at *; omega)))))⟩ (g_psub (wc := (zS_52 cB cC cI cJ a0 a1 a2 a3 a4 a5 a6 a7 a8 a9 a10 x1 a11 a12 a13 a12 a14 a15 a16 x2 x3 x4 x5 x6 a14 a17 a17 f0 a16 f1 a11 a18 a19 a20 x7 x8 x9 x10 x11 x12 x13 a18 a21 a21 f2 a15 g0)) hP [0, 1, 2, 3, 4, 5, 6, 7, 8] rfl) (hD.sub (ws' := (zS_52 cB cC cI cJ a0 a1 a2 a3 a4 a5 a6 a7 a8 a9 a10 x1 a11 a12 a13 a12 a14 a15 a16 x2 x3 x4 x5 x6 a14 a17 a17 f0 a16 f1 a11 a18 a19 a20 x7 x8 x9 x10 x11 x12 x13 a18 a21 a21 f2 a15 g0)) [0, 1, 2, 3, 4, 5, 6, 7, 8] (by decide) rfl) hS
theorem om_1989 {a : Int} (h0 : (a ≤ 2147483647)) : (a - 1 ≤ 2147483647) := by omega
theorem om_1990 {a b c d : Int} (h0 : (b = c + 1)) (h1 : (a = d - 1)) (h2 : (d + c ≤ 40)) : ((a + b ≤ 40)) := by omega
set_option maxHeartbeats 4000000 in
set_option maxRecDepth 100000 in
theorem k_X2_undoStep (l : Launch) (D : va_G) (cB cC cI cJ : ClassId) (sz : Nat) (a0 a1 a2 a3 a4 : Nat) (x0 x1 x2 x3 x4 : Int32) (f0 f1 : Nat → Int32) (g0 : Nat → Int64) (h_x0 : zBd x0.toInt (-1) 5) (h_x1 : zBd x1.toInt 0 39) (h_x2 : zBd x2.toInt 0 40) (h_x3 : zBd x3.toInt 0 40) (hr_a0_0 : (x2.toInt + x3.toInt ≤ 40)) (hg_led : LedOK f0 f1 x1.toInt x2.toInt x3.toInt) (hg__dn : 0 ≤ x4.toInt ∧ x2.toInt ≤ x4.toInt ∧ x4.toInt + x3.toInt ≤ 200) : Met l yX2_undoStep (.code yX2_undoStep cX2_undoStep 2 (some .boolean) :: lw_gd) ({ frames := 3, cells := 0, slots := 0, locals := 71 }) (gPre D [(cB, .byte), (cC, .char), (cI, .int), (cJ, .long)] [.ref a0] (zS_19 cB cC cI cJ a0 a1 a2 a3 x0 x1 x2 x3 x4 a1 a4 a4 f0 a3 f1 a2 g0) sz) (va_Qi (fun r u => (0 ≤ r.toInt ∧ r.toInt ≤ 1) ∧ (0 ≤ (u.2.2.2.1 0).toInt ∧ (u.2.2.2.1 0).toInt ≤ 40) ∧ (0 ≤ (u.2.2.2.1 1).toInt ∧ (u.2.2.2.1 1).toInt ≤ 40) ∧ ((u.2.2.2.1 0).toInt + (u.2.2.2.1 1).toInt ≤ 40) ∧ (LedOK (u.2.1 0) f1 x1.toInt (u.2.2.2.1 0).toInt (u.2.2.2.1 1).toInt) ∧ (∀ T : Nat → Int32, XOK T f0 f1 x0.toInt x1.toInt x2.toInt x3.toInt x4.toInt → XOK T (u.2.1 0) f1 x0.toInt x1.toInt (u.2.2.2.1 0).toInt (u.2.2.2.1 1).toInt (u.2.2.2.1 2).toInt) ∧ (unQ r.toInt x2.toInt x3.toInt x4.toInt (u.2.2.2.1 0).toInt (u.2.2.2.1 1).toInt (u.2.2.2.1 2).toInt)) (gB D (va_A (zS_19 cB cC cI cJ a0 a1 a2 a3 x0 x1 x2 x3 x4 a1 a4 a4 f0 a3 f1 a2 g0) sz) (fun u : gEx => (zS_19 cB cC cI cJ a0 a1 a2 a3 x0 x1 (u.2.2.2.1 0) (u.2.2.2.1 1) (u.2.2.2.1 2) a1 a4 a4 (u.2.1 0) a3 f1 a2 (u.2.2.1 0)))) (va_A (zS_19 cB cC cI cJ a0 a1 a2 a3 x0 x1 x2 x3 x4 a1 a4 a4 f0 a3 f1 a2 g0) sz)) 0 0 (va_A (zS_19 cB cC cI cJ a0 a1 a2 a3 x0 x1 x2 x3 x4 a1 a4 a4 f0 a3 f1 a2 g0) sz) := by
  refine gOf_z (by decide +kernel) (Nat.le_of_ble_eq_true rfl) ?_
  intro p e s m args below meth c ls A Q hx hb hts hown hml hN hK hP hD hA hl hret
  replace hown : s.vm.findClass RX2 = some m.cls := hown
  have hS : va_S A s.heap s.heap [] := va_S.rf
  replace hP : va_P D gcl (zS_19 cB cC cI cJ a0 a1 a2 a3 x0 x1 x2 x3 x4 a1 a4 a4 f0 a3 f1 a2 g0) s.heap := hP
  replace hl : lv_has ls 2 [(0, .ref a0)] := hl
  have rx4 : zBd x4.toInt (-2147483648) 2147483647 := n_rng x4
  refine lv_aload_n (pc := 0) hx hb dX2_undoStep_0 rfl (lv_at hl 0 rfl) ?_
  refine va_get (pc := 1) (ci := 2) (v := .int x2) (C := RX2) (T := TX2) (N := 8) hx hb hts iX2 hown hK hP 0 rfl rfl 5 (by decide) (hts _ tw_397) (fun _ h9 => h9) rfl dX2_undoStep_1 ?_
  have bd_h_x2 : 0 ≤ x2.toInt ∧ x2.toInt ≤ 40 := h_x2
  refine b_if_ne (pc := 4) (tgt := 9) hx hb rfl  dX2_undoStep_4 (by decide) (fun c_1 => ?_) (fun c_1 => ?_)
  ·
    refine lv_aload_n (pc := 9) hx hb dX2_undoStep_9 rfl (lv_at hl 0 rfl) ?_
    refine lv_dup (pc := 10) hx hb dX2_undoStep_10 rfl ?_
    refine va_get (pc := 11) (ci := 2) (v := .int x2) (C := RX2) (T := TX2) (N := 8) hx hb hts iX2 hown hK hP 0 rfl rfl 5 (by decide) (hts _ tw_397) (fun _ h9 => h9) rfl dX2_undoStep_11 ?_
    refine lv_iconst (pc := 14) (v := 1) hx hb dX2_undoStep_14 (by decide) ?_
    refine b_isub (pc := 15) hx hb rfl tI_1 (by first | exact (om_659 h_x2.1) | ((first | omega | (unfold zBd at *; omega)))) (by first | exact (om_1718 h_x2.2) | ((first | omega | (unfold zBd at *; omega)))) dX2_undoStep_15 (fun x_2 ex_2 => ?_)
    refine va_put (pc := 16) (ci := 2) (v := .int x_2) (ty := .int) (C := RX2) (T := TX2) (N := 8) hx hb hts iX2 tyX2 tyX2_ok nmX2 hown hK hP hD hS 0 rfl rfl 5 (by decide) (hts _ tw_397) (fun _ h9 => h9) rfl (by decide +kernel) rfl rfl (Nat.le_of_ble_eq_true rfl) dX2_undoStep_16 (fun H locs hP hD hS => ?_)
    replace hP : va_P D gcl (zS_19 cB cC cI cJ a0 a1 a2 a3 x0 x1 x_2 x3 x4 a1 a4 a4 f0 a3 f1 a2 g0) H := hP
    replace hD : va_D A (zS_19 cB cC cI cJ a0 a1 a2 a3 x0 x1 x_2 x3 x4 a1 a4 a4 f0 a3 f1 a2 g0) := hD
    refine lv_aload_n (pc := 19) hx hb dX2_undoStep_19 rfl (lv_at hl 0 rfl) ?_
    refine lv_dup (pc := 20) hx hb dX2_undoStep_20 rfl ?_
    refine va_get (pc := 21) (ci := 2) (v := .int x3) (C := RX2) (T := TX2) (N := 8) hx hb hts iX2 hown hK hP 0 rfl rfl 6 (by decide) (hts _ tw_399) (fun _ h9 => h9) rfl dX2_undoStep_21 ?_
    have bd_h_x3 : 0 ≤ x3.toInt ∧ x3.toInt ≤ 40 := h_x3
    refine lv_iconst (pc := 24) (v := 1) hx hb dX2_undoStep_24 (by decide) ?_
    refine b_iadd (pc := 25) hx hb rfl tI_1 (by first | exact (om_2 h_x3.1) | ((first | omega | (unfold zBd at *; omega)))) (by first | exact (om_1719 h_x3.2) | ((first | omega | (unfold zBd at *; omega)))) dX2_undoStep_25 (fun x_3 ex_3 => ?_)
    refine va_put (pc := 26) (ci := 2) (v := .int x_3) (ty := .int) (C := RX2) (T := TX2) (N := 8) hx hb hts iX2 tyX2 tyX2_ok nmX2 hown hK hP hD hS 0 rfl rfl 6 (by decide) (hts _ tw_399) (fun _ h9 => h9) rfl (by decide +kernel) rfl rfl (Nat.le_of_ble_eq_true rfl) dX2_undoStep_26 (fun H locs hP hD hS => ?_)
    replace hP : va_P D gcl (zS_19 cB cC cI cJ a0 a1 a2 a3 x0 x1 x_2 x_3 x4 a1 a4 a4 f0 a3 f1 a2 g0) H := hP
    replace hD : va_D A (zS_19 cB cC cI cJ a0 a1 a2 a3 x0 x1 x_2 x_3 x4 a1 a4 a4 f0 a3 f1 a2 g0) := hD
    refine lv_aload_n (pc := 29) hx hb dX2_undoStep_29 rfl (lv_at hl 0 rfl) ?_
    refine lv_dup (pc := 30) hx hb dX2_undoStep_30 rfl ?_
    refine va_get (pc := 31) (ci := 2) (v := .int x4) (C := RX2) (T := TX2) (N := 8) hx hb hts iX2 hown hK hP 0 rfl rfl 7 (by decide) (hts _ tw_401) (fun _ h9 => h9) rfl dX2_undoStep_31 ?_
    refine lv_iconst (pc := 34) (v := 1) hx hb dX2_undoStep_34 (by decide) ?_
    refine b_isub (pc := 35) hx hb rfl tI_1 (by first | exact (om_659 hg__dn.1) | ((first | omega | (unfold zBd at *; omega)))) (by first | exact (om_1989 rx4.2) | ((first | omega | (unfold zBd at *; omega)))) dX2_undoStep_35 (fun x_4 ex_4 => ?_)
    refine va_put (pc := 36) (ci := 2) (v := .int x_4) (ty := .int) (C := RX2) (T := TX2) (N := 8) hx hb hts iX2 tyX2 tyX2_ok nmX2 hown hK hP hD hS 0 rfl rfl 7 (by decide) (hts _ tw_401) (fun _ h9 => h9) rfl (by decide +kernel) rfl rfl (Nat.le_of_ble_eq_true rfl) dX2_undoStep_36 (fun H locs hP hD hS => ?_)
    replace hP : va_P D gcl (zS_19 cB cC cI cJ a0 a1 a2 a3 x0 x1 x_2 x_3 x_4 a1 a4 a4 f0 a3 f1 a2 g0) H := hP
    replace hD : va_D A (zS_19 cB cC cI cJ a0 a1 a2 a3 x0 x1 x_2 x_3 x_4 a1 a4 a4 f0 a3 f1 a2 g0) := hD
    refine lv_aload_n (pc := 39) hx hb dX2_undoStep_39 rfl (lv_at hl 0 rfl) ?_
    refine lv_aload_n (pc := 40) hx hb dX2_undoStep_40 rfl (lv_at hl 0 rfl) ?_
    refine va_get (pc := 41) (ci := 2) (v := .int x_2) (C := RX2) (T := TX2) (N := 8) hx hb hts iX2 hown hK hP 0 rfl rfl 5 (by decide) (hts _ tw_397) (fun _ h9 => h9) rfl dX2_undoStep_41 ?_
    refine gd_i (pc := 44) (wc := (zS_162 cB cC cI cJ a0 a1 a2 a3 x0 x1 x_2 x_3 x_4)) hP hD hS hA [0] rfl (by decide +kernel) (fun _ => by rfl) (fun hPc hDc => va_runV (As := [.int x_2]) (rest := []) ⟨hx, hb, hml, hown, hts⟩ (k_X2_slot_x l D cB cC cI cJ _ a0 a1 a2 a3 x_2 x0 x1 x_2 x_3 x_4 (by first | exact (om_1720 c_1 h_x2.1 ex_2 h_x2.2) | ((first | omega | (unfold zBd at *; omega)))) h_x0 h_x1 (by first | exact (om_1720 c_1 h_x2.1 ex_2 h_x2.2) | ((first | omega | (unfold zBd at *; omega)))) (by first | exact (om_1721 ex_3 h_x3.1 c_1 h_x2.1 hr_a0_0) | ((first | omega | (unfold zBd at *; omega)))) (by first | exact (om_1990 ex_3 ex_2 hr_a0_0) | ((first | omega | (unfold zBd at *; omega))))) ⟨gcwB hts tw_1057 tw_13 tw_1054 hd_yX2_slot ⟨Nat.le_of_ble_eq_true rfl, Nat.le_of_ble_eq_true rfl⟩, hts _ tw_1056, hts _ tp_43⟩ ⟨gblind, va_recv hK hPc (ci := 2) (q0 := 0) rfl rfl, (gpreS hPc hK hDc hN).2⟩ rfl rfl hl.1 rfl (lv_room (Nat.le_of_ble_eq_true rfl)) dX2_undoStep_44 ⟨Nat.le_of_ble_eq_true rfl, Nat.le_of_ble_eq_true rfl⟩) (fun r_6 u_5 H locs hw_7 hP hD hS => ?_)
    replace hP : va_P D gcl (zS_19 cB cC cI cJ a0 a1 a2 a3 x0 x1 x_2 x_3 x_4 a1 a4 a4 f0 a3 f1 a2 g0) H := hP
    replace hD : va_D A (zS_19 cB cC cI cJ a0 a1 a2 a3 x0 x1 x_2 x_3 x_4 a1 a4 a4 f0 a3 f1 a2 g0) := hD
    obtain ⟨hw_8, hw_9⟩ := hw_7
    replace hw_8 : (0 ≤ r_6.toInt ∧ r_6.toInt ≤ 117) := hw_8
    replace hw_9 : (r_6.toInt = ((x1.toInt + x_2.toInt) % 40) * 3) := hw_9
    have rr_6 : zBd r_6.toInt (-2147483648) 2147483647 := n_rng r_6
    refine lv_istore_n (pc := 47) (lv' := [(1, .int r_6), (0, .ref a0)]) hx hb dX2_undoStep_47 rfl hl (by decide) rfl (fun ls hl => ?_)
    refine lv_aload_n (pc := 48) hx hb dX2_undoStep_48 rfl (lv_at hl 1 rfl) ?_
    refine lv_aload_n (pc := 49) hx hb dX2_undoStep_49 rfl (lv_at hl 1 rfl) ?_
    refine va_get (pc := 50) (ci := 2) (v := .ref a3) (C := RX2) (T := TX2) (N := 8) hx hb hts iX2 hown hK hP 0 rfl rfl 2 (by decide) (hts _ tw_394) (fun _ h9 => h9) rfl dX2_undoStep_50 ?_
    refine lv_iload_n (pc := 53) hx hb dX2_undoStep_53 rfl (lv_at hl 0 rfl) ?_
    refine va_iald (pc := 54) hx hb hK hP 3 2 rfl rfl (n_in rfl (by first | exact (om_0 hw_8.1) | ((first | omega | (unfold zBd at *; omega)))) (by first | exact (om_1955 hw_8.2) | ((first | omega | (unfold zBd at *; omega))))) dX2_undoStep_54 ?_
    refine lv_topi (fun x_10 ex_10 => ?_)
    have rx_10 : zBd x_10.toInt (-2147483648) 2147483647 := n_rng x_10
    replace ex_10 : x_10 = f1 (r_6.toInt).toNat := ex_10
    have tx_10 := congrArg Int32.toInt ex_10
    refine lv_aload_n (pc := 55) hx hb dX2_undoStep_55 rfl (lv_at hl 1 rfl) ?_
    refine va_get (pc := 56) (ci := 2) (v := .ref a3) (C := RX2) (T := TX2) (N := 8) hx hb hts iX2 hown hK hP 0 rfl rfl 2 (by decide) (hts _ tw_394) (fun _ h9 => h9) rfl dX2_undoStep_56 ?_
    refine lv_iload_n (pc := 59) hx hb dX2_undoStep_59 rfl (lv_at hl 0 rfl) ?_
    refine lv_iconst (pc := 60) (v := 1) hx hb dX2_undoStep_60 (by decide) ?_
    refine b_iadd (pc := 61) hx hb rfl tI_1 (by first | exact (om_561 rr_6.1) | ((first | omega | (unfold zBd at *; omega)))) (by first | exact (om_1956 hw_8.2) | ((first | omega | (unfold zBd at *; omega)))) dX2_undoStep_61 (fun x_11 ex_11 => ?_)
    refine va_iald (pc := 62) hx hb hK hP 3 2 rfl rfl (n_in rfl (by first | exact (om_917 ex_11 hw_8.1) | ((first | omega | (unfold zBd at *; omega)))) (by first | exact (om_1957 ex_11 hw_8.2) | ((first | omega | (unfold zBd at *; omega))))) dX2_undoStep_62 ?_
    refine lv_topi (fun x_12 ex_12 => ?_)
    have rx_12 : zBd x_12.toInt (-2147483648) 2147483647 := n_rng x_12
    replace ex_12 : x_12 = f1 (x_11.toInt).toNat := ex_12
    have tx_12 := congrArg Int32.toInt ex_12
    refine lv_aload_n (pc := 63) hx hb dX2_undoStep_63 rfl (lv_at hl 1 rfl) ?_
    refine va_get (pc := 64) (ci := 2) (v := .ref a3) (C := RX2) (T := TX2) (N := 8) hx hb hts iX2 hown hK hP 0 rfl rfl 2 (by decide) (hts _ tw_394) (fun _ h9 => h9) rfl dX2_undoStep_64 ?_
    refine lv_iload_n (pc := 67) hx hb dX2_undoStep_67 rfl (lv_at hl 0 rfl) ?_
    refine lv_iconst (pc := 68) (v := 2) hx hb dX2_undoStep_68 (by decide) ?_
    refine b_iadd (pc := 69) hx hb rfl tI_2 (by first | exact (om_1958 rr_6.1) | ((first | omega | (unfold zBd at *; omega)))) (by first | exact (om_1959 hw_8.2) | ((first | omega | (unfold zBd at *; omega)))) dX2_undoStep_69 (fun x_13 ex_13 => ?_)
    refine va_iald (pc := 70) hx hb hK hP 3 2 rfl rfl (n_in rfl (by first | exact (om_1960 ex_13 hw_8.1) | ((first | omega | (unfold zBd at *; omega)))) (by first | exact (om_1961 ex_13 hw_8.2) | ((first | omega | (unfold zBd at *; omega))))) dX2_undoStep_70 ?_
    refine lv_topi (fun x_14 ex_14 => ?_)
    have rx_14 : zBd x_14.toInt (-2147483648) 2147483647 := n_rng x_14
    replace ex_14 : x_14 = f1 (x_13.toInt).toNat := ex_14
    have tx_14 := congrArg Int32.toInt ex_14
    refine lv_ineg (pc := 71) hx hb dX2_undoStep_71 ?_
    refine lv_topi (fun x_15 ex_15 => ?_)
    have rx_15 : zBd x_15.toInt (-2147483648) 2147483647 := n_rng x_15
    have hh_16 := Led_at (k := x_2.toInt) hg_led (by (first | omega | (unfold zBd at *; omega))) (by (first | omega | (unfold zBd at *; omega))) hw_9
    have hh_17 := congrArg Int32.toInt (e_ld ex_12 (show _ = r_6.toInt + 1 by (first | omega | (unfold zBd at *; omega))))
    refine gd_v (pc := 72) (wc := (zS_134 cB cC cI cJ a0 a1 a2 a3 x0 x1 x_2 x_3 x_4 a1 a4 a4 f0 a2 g0)) hP hD hS hA [0, 1, 2, 4] rfl (by decide +kernel) (fun _ => by rfl) (fun hPc hDc => va_runV (As := [.int x_10, .int x_12, .int x_15]) (rest := []) ⟨hx, hb, hml, hown, hts⟩ (k_X2_takeAway_e l D cB cC cI cJ _ a0 a1 a2 a3 a4 x_10 x_12 x_15 x0 x1 x_2 x_3 x_4 f0 g0 (by (first | omega | (unfold zBd at *; omega))) (by (first | omega | (unfold zBd at *; omega))) h_x0 h_x1 (by first | exact (om_1720 c_1 h_x2.1 ex_2 h_x2.2) | ((first | omega | (unfold zBd at *; omega)))) (by first | exact (om_1721 ex_3 h_x3.1 c_1 h_x2.1 hr_a0_0) | ((first | omega | (unfold zBd at *; omega)))) (by first | exact (om_1990 ex_3 ex_2 hr_a0_0) | ((first | omega | (unfold zBd at *; omega)))) (by (first | omega | (unfold zBd at *; omega)))) ⟨gcwB hts tw_1061 tw_13 tw_1058 hd_yX2_takeAway ⟨Nat.le_of_ble_eq_true rfl, Nat.le_of_ble_eq_true rfl⟩, hts _ tw_1060, hts _ tp_44⟩ ⟨gblind, va_recv hK hPc (ci := 2) (q0 := 0) rfl rfl, (gpreS hPc hK hDc hN).2⟩ rfl rfl hl.1 rfl (lv_room (Nat.le_of_ble_eq_true rfl)) dX2_undoStep_72 ⟨Nat.le_of_ble_eq_true rfl, Nat.le_of_ble_eq_true rfl⟩) (fun u_18 H locs hw_20 hP hD hS => ?_)
    replace hP : va_P D gcl (zS_19 cB cC cI cJ a0 a1 a2 a3 x0 x1 x_2 x_3 x_4 a1 a4 a4 (u_18.2.1 0) a3 f1 a2 (u_18.2.2.1 0)) H := hP
    replace hD : va_D A (zS_19 cB cC cI cJ a0 a1 a2 a3 x0 x1 x_2 x_3 x_4 a1 a4 a4 (u_18.2.1 0) a3 f1 a2 (u_18.2.2.1 0)) := hD
    have hw_21 : (taQ f0 (u_18.2.1 0) x_10.toInt x_12.toInt x_15 6) := hw_20
    refine lv_iconst (pc := 75) (v := 1) hx hb dX2_undoStep_75 (by decide) ?_
    have k9 := tI_1
    exact hret 1 ((fun _ => 0), (fun k => [(u_18.2.1 0)].getD k (fun _ => 0)), (fun k => [(u_18.2.2.1 0)].getD k (fun _ => 0)), (fun k => [x_2, x_3, x_4].getD k 0), (fun _ => 0)) dX2_undoStep_76 ⟨(Or.inr tI_1), ⟨(show (0 ≤ (1 : Int32).toInt ∧ (1 : Int32).toInt ≤ 1) from (n_c tI_1 (by decide))), (show (0 ≤ (x_2 : Int32).toInt ∧ (x_2 : Int32).toInt ≤ 40) from (by first | exact (om_1720 c_1 h_x2.1 ex_2 h_x2.2) | (have k9 := tI_1; (first | omega | (unfold zBd at *; omega))))), (show (0 ≤ (x_3 : Int32).toInt ∧ (x_3 : Int32).toInt ≤ 40) from (by first | exact (om_1721 ex_3 h_x3.1 c_1 h_x2.1 hr_a0_0) | (have k9 := tI_1; (first | omega | (unfold zBd at *; omega))))), (show ((x_2 : Int32).toInt + (x_3 : Int32).toInt ≤ 40) from (by first | exact (om_1990 ex_3 ex_2 hr_a0_0) | (have k9 := tI_1; (first | omega | (unfold zBd at *; omega))))), (show LedOK (u_18.2.1 0) f1 x1.toInt x_2.toInt x_3.toInt from Led_undo hg_led (by first | exact (om_378 c_1 h_x2.1) | ((first | omega | (unfold zBd at *; omega)))) (by first | exact (om_0 h_x3.1) | ((first | omega | (unfold zBd at *; omega)))) (by first | exact (om_682 ex_2) | ((first | omega | (unfold zBd at *; omega)))) (by first | exact (om_5 ex_3) | ((first | omega | (unfold zBd at *; omega)))) hw_9 ex_10 (e_ld ex_12 (show _ = r_6.toInt + 1 by (first | omega | (unfold zBd at *; omega)))).symm (e_ld ex_14 (show _ = r_6.toInt + 2 by (first | omega | (unfold zBd at *; omega)))).symm ex_15 hw_21), (show ∀ T : Nat → Int32, XOK T f0 f1 x0.toInt x1.toInt x2.toInt x3.toInt x4.toInt → XOK T (u_18.2.1 0) f1 x0.toInt x1.toInt x_2.toInt x_3.toInt x_4.toInt from fun T h => X_undo h (by (first | omega | (unfold zBd at *; omega))) (by (first | omega | (unfold zBd at *; omega))) (by (first | omega | (unfold zBd at *; omega))) (by (first | omega | (unfold zBd at *; omega))) hw_9 ex_10 (e_ld ex_12 (show _ = r_6.toInt + 1 by (first | omega | (unfold zBd at *; omega)))).symm (e_ld ex_14 (show _ = r_6.toInt + 2 by (first | omega | (unfold zBd at *; omega)))).symm ex_15 hw_21 (by (first | omega | (unfold zBd at *; omega)))), (show unQ (1 : Int32).toInt x2.toInt x3.toInt x4.toInt x_2.toInt x_3.toInt x_4.toInt from (by unfold unQ; (first | omega | (unfold zBd at *; omega))))⟩⟩ (g_psub (wc := (zS_19 cB cC cI cJ a0 a1 a2 a3 x0 x1 x_2 x_3 x_4 a1 a4 a4 (u_18.2.1 0) a3 f1 a2 (u_18.2.2.1 0))) hP [0, 1, 2, 3, 4] rfl) (hD.sub (ws' := (zS_19 cB cC cI cJ a0 a1 a2 a3 x0 x1 x_2 x_3 x_4 a1 a4 a4 (u_18.2.1 0) a3 f1 a2 (u_18.2.2.1 0))) [0, 1, 2, 3, 4] (by decide) rfl) hS
  ·
    refine lv_iconst (pc := 7) (v := 0) hx hb dX2_undoStep_7 (by decide) ?_
    have k9 := tI_0
    exact hret 0 ((fun _ => 0), (fun k => [f0].getD k (fun _ => 0)), (fun k => [g0].getD k (fun _ => 0)), (fun k => [x2, x3, x4].getD k 0), (fun _ => 0)) dX2_undoStep_8 ⟨(Or.inl tI_0), ⟨(show (0 ≤ (0 : Int32).toInt ∧ (0 : Int32).toInt ≤ 1) from (n_c tI_0 (by decide))), (show (0 ≤ (x2 : Int32).toInt ∧ (x2 : Int32).toInt ≤ 40) from h_x2), (show (0 ≤ (x3 : Int32).toInt ∧ (x3 : Int32).toInt ≤ 40) from h_x3), (show ((x2 : Int32).toInt + (x3 : Int32).toInt ≤ 40) from hr_a0_0), (show LedOK f0 f1 x1.toInt x2.toInt x3.toInt from hg_led), (show ∀ T : Nat → Int32, XOK T f0 f1 x0.toInt x1.toInt x2.toInt x3.toInt x4.toInt → XOK T f0 f1 x0.toInt x1.toInt x2.toInt x3.toInt x4.toInt from fun _ h => h), (show unQ (0 : Int32).toInt x2.toInt x3.toInt x4.toInt x2.toInt x3.toInt x4.toInt from (by unfold unQ; (first | omega | (unfold zBd at *; omega))))⟩⟩ (g_psub (wc := (zS_19 cB cC cI cJ a0 a1 a2 a3 x0 x1 x2 x3 x4 a1 a4 a4 f0 a3 f1 a2 g0)) hP [0, 1, 2, 3, 4] rfl) (hD.sub (ws' := (zS_19 cB cC cI cJ a0 a1 a2 a3 x0 x1 x2 x3 x4 a1 a4 a4 f0 a3 f1 a2 g0)) [0, 1, 2, 3, 4] (by decide) rfl) hS
set_option maxHeartbeats 4000000 in
set_option maxRecDepth 100000 in
theorem k_X11_undo (l : Launch) (D : va_G) (cB cC cI cJ : ClassId) (sz : Nat) (a0 a1 a2 a3 a4 a5 a6 a7 a8 a9 a10 a11 a12 a13 a14 a15 a16 a17 a18 a19 a20 a21 : Nat) (x0 x1 x2 x3 x4 x5 x6 x7 x8 x9 x10 x11 x12 : Int32) (f0 f1 f2 : Nat → Int32) (g0 : Nat → Int64) (h_x0 : zBd x0.toInt 0 14) (h_x1 : zBd x1.toInt (-1) 5) (h_x2 : zBd x2.toInt 0 39) (h_x3 : zBd x3.toInt 0 40) (h_x4 : zBd x4.toInt 0 40) (hr_a12_0 : (x3.toInt + x4.toInt ≤ 40)) (h_x6 : zBd x6.toInt (-1) 8) (h_x7 : zBd x7.toInt (-1) 5) (h_x8 : zBd x8.toInt (-1) 6) (h_x9 : zBd x9.toInt 0 6) (h_x10 : zBd x10.toInt 0 16) (hg_led : LedOK f0 f1 x2.toInt x3.toInt x4.toInt) (hg_xk : XOK f2 f0 f1 x1.toInt x2.toInt x3.toInt x4.toInt x5.toInt) (hg_se : x1.toInt = x7.toInt) : Met l yX11_undo (.code yX11_undo cX11_undo 1 (some .boolean) :: lw_gd) ({ frames := 4, cells := 0, slots := 0, locals := 92 }) (gPre D [(cB, .byte), (cC, .char), (cI, .int), (cJ, .long)] [.ref a0] (zS_52 cB cC cI cJ a0 a1 a2 a3 a4 a5 a6 a7 a8 a9 a10 x0 a11 a12 a13 a12 a14 a15 a16 x1 x2 x3 x4 x5 a14 a17 a17 f0 a16 f1 a11 a18 a19 a20 x6 x7 x8 x9 x10 x11 x12 a18 a21 a21 f2 a15 g0) sz) (va_Qi (fun r u => (0 ≤ r.toInt ∧ r.toInt ≤ 1) ∧ (0 ≤ (u.2.2.2.1 0).toInt ∧ (u.2.2.2.1 0).toInt ≤ 40) ∧ (0 ≤ (u.2.2.2.1 1).toInt ∧ (u.2.2.2.1 1).toInt ≤ 40) ∧ ((u.2.2.2.1 0).toInt + (u.2.2.2.1 1).toInt ≤ 40) ∧ (LedOK (u.2.1 0) f1 x2.toInt (u.2.2.2.1 0).toInt (u.2.2.2.1 1).toInt) ∧ (XOK f2 (u.2.1 0) f1 x1.toInt x2.toInt (u.2.2.2.1 0).toInt (u.2.2.2.1 1).toInt (u.2.2.2.1 2).toInt) ∧ (unQ r.toInt x3.toInt x4.toInt x5.toInt (u.2.2.2.1 0).toInt (u.2.2.2.1 1).toInt (u.2.2.2.1 2).toInt)) (gB D (va_A (zS_52 cB cC cI cJ a0 a1 a2 a3 a4 a5 a6 a7 a8 a9 a10 x0 a11 a12 a13 a12 a14 a15 a16 x1 x2 x3 x4 x5 a14 a17 a17 f0 a16 f1 a11 a18 a19 a20 x6 x7 x8 x9 x10 x11 x12 a18 a21 a21 f2 a15 g0) sz) (fun u : gEx => (zS_52 cB cC cI cJ a0 a1 a2 a3 a4 a5 a6 a7 a8 a9 a10 x0 a11 a12 a13 a12 a14 a15 a16 x1 x2 (u.2.2.2.1 0) (u.2.2.2.1 1) (u.2.2.2.1 2) a14 a17 a17 (u.2.1 0) a16 f1 a11 a18 a19 a20 x6 x7 x8 x9 x10 x11 x12 a18 a21 a21 f2 a15 (u.2.2.1 0)))) (va_A (zS_52 cB cC cI cJ a0 a1 a2 a3 a4 a5 a6 a7 a8 a9 a10 x0 a11 a12 a13 a12 a14 a15 a16 x1 x2 x3 x4 x5 a14 a17 a17 f0 a16 f1 a11 a18 a19 a20 x6 x7 x8 x9 x10 x11 x12 a18 a21 a21 f2 a15 g0) sz)) 0 0 (va_A (zS_52 cB cC cI cJ a0 a1 a2 a3 a4 a5 a6 a7 a8 a9 a10 x0 a11 a12 a13 a12 a14 a15 a16 x1 x2 x3 x4 x5 a14 a17 a17 f0 a16 f1 a11 a18 a19 a20 x6 x7 x8 x9 x10 x11 x12 a18 a21 a21 f2 a15 g0) sz) := by
  refine gOf_z (by decide +kernel) (Nat.le_of_ble_eq_true rfl) ?_
  intro p e s m args below meth c ls A Q hx hb hts hown hml hN hK hP hD hA hl hret
  replace hown : s.vm.findClass RX11 = some m.cls := hown
  have hS : va_S A s.heap s.heap [] := va_S.rf
  replace hP : va_P D gcl (zS_52 cB cC cI cJ a0 a1 a2 a3 a4 a5 a6 a7 a8 a9 a10 x0 a11 a12 a13 a12 a14 a15 a16 x1 x2 x3 x4 x5 a14 a17 a17 f0 a16 f1 a11 a18 a19 a20 x6 x7 x8 x9 x10 x11 x12 a18 a21 a21 f2 a15 g0) s.heap := hP
  replace hl : lv_has ls 1 [(0, .ref a0)] := hl
  have rx5 : zBd x5.toInt (-2147483648) 2147483647 := n_rng x5
  have rx11 : zBd x11.toInt (-2147483648) 2147483647 := n_rng x11
  have rx12 : zBd x12.toInt (-2147483648) 2147483647 := n_rng x12
  refine lv_aload_n (pc := 0) hx hb dX11_undo_0 rfl (lv_at hl 0 rfl) ?_
  refine va_get (pc := 1) (ci := 11) (v := .ref a12) (C := RX11) (T := TX11) (N := 14) hx hb hts iX11 hown hK hP 0 rfl rfl 12 (by decide) (hts _ tw_432) (fun _ h9 => h9) rfl dX11_undo_1 ?_
  refine gd_i (pc := 4) (wc := (zS_19 cB cC cI cJ a12 a14 a15 a16 x1 x2 x3 x4 x5 a14 a17 a17 f0 a16 f1 a15 g0)) hP hD hS hA [1, 2, 3, 4, 8] rfl (by decide +kernel) (fun _ => by rfl) (fun hPc hDc => va_runV (As := []) (rest := []) ⟨hx, hb, hml, hown, hts⟩ (k_X2_undoStep l D cB cC cI cJ _ a12 a14 a15 a16 a17 x1 x2 x3 x4 x5 f0 f1 g0 h_x1 h_x2 h_x3 h_x4 hr_a12_0 (hg_led) (by have q := (hg_xk).1; (first | omega | (unfold zBd at *; omega)))) ⟨gcwB hts tw_1074 tw_13 tw_1071 hd_yX2_undoStep ⟨Nat.le_of_ble_eq_true rfl, Nat.le_of_ble_eq_true rfl⟩, hts _ tw_1072, hts _ tw_1073⟩ ⟨gblind, va_recv hK hPc (ci := 2) (q0 := 0) rfl rfl, (gpreS hPc hK hDc hN).2⟩ rfl rfl hl.1 rfl (lv_room (Nat.le_of_ble_eq_true rfl)) dX11_undo_4 ⟨Nat.le_of_ble_eq_true rfl, Nat.le_of_ble_eq_true rfl⟩) (fun r_2 u_1 H locs hw_3 hP hD hS => ?_)
  replace hP : va_P D gcl (zS_52 cB cC cI cJ a0 a1 a2 a3 a4 a5 a6 a7 a8 a9 a10 x0 a11 a12 a13 a12 a14 a15 a16 x1 x2 (u_1.2.2.2.1 0) (u_1.2.2.2.1 1) (u_1.2.2.2.1 2) a14 a17 a17 (u_1.2.1 0) a16 f1 a11 a18 a19 a20 x6 x7 x8 x9 x10 x11 x12 a18 a21 a21 f2 a15 (u_1.2.2.1 0)) H := hP
  replace hD : va_D A (zS_52 cB cC cI cJ a0 a1 a2 a3 a4 a5 a6 a7 a8 a9 a10 x0 a11 a12 a13 a12 a14 a15 a16 x1 x2 (u_1.2.2.2.1 0) (u_1.2.2.2.1 1) (u_1.2.2.2.1 2) a14 a17 a17 (u_1.2.1 0) a16 f1 a11 a18 a19 a20 x6 x7 x8 x9 x10 x11 x12 a18 a21 a21 f2 a15 (u_1.2.2.1 0)) := hD
  have ru_1_0 : zBd (u_1.2.2.2.1 2).toInt (-2147483648) 2147483647 := n_rng (u_1.2.2.2.1 2)
  obtain ⟨hw_4, hw_5, hw_6, hw_7, hw_8, hw_9, hw_10⟩ := hw_3
  replace hw_4 : (0 ≤ r_2.toInt ∧ r_2.toInt ≤ 1) := hw_4
  replace hw_5 : zBd (u_1.2.2.2.1 0).toInt 0 40 := hw_5
  replace hw_6 : zBd (u_1.2.2.2.1 1).toInt 0 40 := hw_6
  replace hw_7 : ((u_1.2.2.2.1 0).toInt + (u_1.2.2.2.1 1).toInt ≤ 40) := hw_7
  replace hw_8 : (LedOK (u_1.2.1 0) f1 x2.toInt (u_1.2.2.2.1 0).toInt (u_1.2.2.2.1 1).toInt) := hw_8
  replace hw_9 : (∀ T : Nat → Int32, XOK T f0 f1 x1.toInt x2.toInt x3.toInt x4.toInt x5.toInt → XOK T (u_1.2.1 0) f1 x1.toInt x2.toInt (u_1.2.2.2.1 0).toInt (u_1.2.2.2.1 1).toInt (u_1.2.2.2.1 2).toInt) := hw_9
  replace hw_10 : (unQ r_2.toInt x3.toInt x4.toInt x5.toInt (u_1.2.2.2.1 0).toInt (u_1.2.2.2.1 1).toInt (u_1.2.2.2.1 2).toInt) := hw_10
  have rr_2 : zBd r_2.toInt (-2147483648) 2147483647 := n_rng r_2
  exact hret r_2 ((fun _ => 0), (fun k => [(u_1.2.1 0)].getD k (fun _ => 0)), (fun k => [(u_1.2.2.1 0)].getD k (fun _ => 0)), (fun k => [(u_1.2.2.2.1 0), (u_1.2.2.2.1 1), (u_1.2.2.2.1 2)].getD k 0), (fun _ => 0)) dX11_undo_7 ⟨(by first | exact (om_46 hw_4.1 hw_4.2) | ((first | omega | (unfold zBd at *; omega)))), ⟨(show (0 ≤ r_2.toInt ∧ r_2.toInt ≤ 1) from hw_4), (show (0 ≤ ((u_1.2.2.2.1 0) : Int32).toInt ∧ ((u_1.2.2.2.1 0) : Int32).toInt ≤ 40) from hw_5), (show (0 ≤ ((u_1.2.2.2.1 1) : Int32).toInt ∧ ((u_1.2.2.2.1 1) : Int32).toInt ≤ 40) from hw_6), (show (((u_1.2.2.2.1 0) : Int32).toInt + ((u_1.2.2.2.1 1) : Int32).toInt ≤ 40) from hw_7), (show LedOK (u_1.2.1 0) f1 x2.toInt (u_1.2.2.2.1 0).toInt (u_1.2.2.2.1 1).toInt from hw_8), (show XOK f2 (u_1.2.1 0) f1 x1.toInt x2.toInt (u_1.2.2.2.1 0).toInt (u_1.2.2.2.1 1).toInt (u_1.2.2.2.1 2).toInt from hw_9 _ hg_xk), (show unQ r_2.toInt x3.toInt x4.toInt x5.toInt (u_1.2.2.2.1 0).toInt (u_1.2.2.2.1 1).toInt (u_1.2.2.2.1 2).toInt from hw_10)⟩⟩ (g_psub (wc := (zS_52 cB cC cI cJ a0 a1 a2 a3 a4 a5 a6 a7 a8 a9 a10 x0 a11 a12 a13 a12 a14 a15 a16 x1 x2 (u_1.2.2.2.1 0) (u_1.2.2.2.1 1) (u_1.2.2.2.1 2) a14 a17 a17 (u_1.2.1 0) a16 f1 a11 a18 a19 a20 x6 x7 x8 x9 x10 x11 x12 a18 a21 a21 f2 a15 (u_1.2.2.1 0))) hP [0, 1, 2, 3, 4, 5, 6, 7, 8] rfl) (hD.sub (ws' := (zS_52 cB cC cI cJ a0 a1 a2 a3 a4 a5 a6 a7 a8 a9 a10 x0 a11 a12 a13 a12 a14 a15 a16 x1 x2 (u_1.2.2.2.1 0) (u_1.2.2.2.1 1) (u_1.2.2.2.1 2) a14 a17 a17 (u_1.2.1 0) a16 f1 a11 a18 a19 a20 x6 x7 x8 x9 x10 x11 x12 a18 a21 a21 f2 a15 (u_1.2.2.1 0))) [0, 1, 2, 3, 4, 5, 6, 7, 8] (by decide) rfl) hS
theorem om_1991 {a b : Int} (h0 : (a + b ≤ 200)) (h1 : (0 ≤ b)) : (a + 1 ≤ 2147483647) := by omega
theorem om_1992 {a b c d : Int} (h0 : (b = c - 1)) (h1 : (a = d + 1)) (h2 : (d + c ≤ 40)) : ((a + b ≤ 40)) := by omega
set_option maxHeartbeats 4000000 in
set_option maxRecDepth 100000 in
theorem k_X2_redoStep (l : Launch) (D : va_G) (cB cC cI cJ : ClassId) (sz : Nat) (a0 a1 a2 a3 a4 : Nat) (x0 x1 x2 x3 x4 : Int32) (f0 f1 : Nat → Int32) (g0 : Nat → Int64) (h_x0 : zBd x0.toInt (-1) 5) (h_x1 : zBd x1.toInt 0 39) (h_x2 : zBd x2.toInt 0 40) (h_x3 : zBd x3.toInt 0 40) (hr_a0_0 : (x2.toInt + x3.toInt ≤ 40)) (hg_led : LedOK f0 f1 x1.toInt x2.toInt x3.toInt) (hg__dn : 0 ≤ x4.toInt ∧ x2.toInt ≤ x4.toInt ∧ x4.toInt + x3.toInt ≤ 200) : Met l yX2_redoStep (.code yX2_redoStep cX2_redoStep 2 (some .boolean) :: lw_gd) ({ frames := 3, cells := 0, slots := 0, locals := 71 }) (gPre D [(cB, .byte), (cC, .char), (cI, .int), (cJ, .long)] [.ref a0] (zS_19 cB cC cI cJ a0 a1 a2 a3 x0 x1 x2 x3 x4 a1 a4 a4 f0 a3 f1 a2 g0) sz) (va_Qi (fun r u => (0 ≤ r.toInt ∧ r.toInt ≤ 1) ∧ (0 ≤ (u.2.2.2.1 0).toInt ∧ (u.2.2.2.1 0).toInt ≤ 40) ∧ (0 ≤ (u.2.2.2.1 1).toInt ∧ (u.2.2.2.1 1).toInt ≤ 40) ∧ ((u.2.2.2.1 0).toInt + (u.2.2.2.1 1).toInt ≤ 40) ∧ (LedOK (u.2.1 0) f1 x1.toInt (u.2.2.2.1 0).toInt (u.2.2.2.1 1).toInt) ∧ (∀ T : Nat → Int32, XOK T f0 f1 x0.toInt x1.toInt x2.toInt x3.toInt x4.toInt → XOK T (u.2.1 0) f1 x0.toInt x1.toInt (u.2.2.2.1 0).toInt (u.2.2.2.1 1).toInt (u.2.2.2.1 2).toInt) ∧ (reQ r.toInt x2.toInt x3.toInt x4.toInt (u.2.2.2.1 0).toInt (u.2.2.2.1 1).toInt (u.2.2.2.1 2).toInt)) (gB D (va_A (zS_19 cB cC cI cJ a0 a1 a2 a3 x0 x1 x2 x3 x4 a1 a4 a4 f0 a3 f1 a2 g0) sz) (fun u : gEx => (zS_19 cB cC cI cJ a0 a1 a2 a3 x0 x1 (u.2.2.2.1 0) (u.2.2.2.1 1) (u.2.2.2.1 2) a1 a4 a4 (u.2.1 0) a3 f1 a2 (u.2.2.1 0)))) (va_A (zS_19 cB cC cI cJ a0 a1 a2 a3 x0 x1 x2 x3 x4 a1 a4 a4 f0 a3 f1 a2 g0) sz)) 0 0 (va_A (zS_19 cB cC cI cJ a0 a1 a2 a3 x0 x1 x2 x3 x4 a1 a4 a4 f0 a3 f1 a2 g0) sz) := by
  refine gOf_z (by decide +kernel) (Nat.le_of_ble_eq_true rfl) ?_
  intro p e s m args below meth c ls A Q hx hb hts hown hml hN hK hP hD hA hl hret
  replace hown : s.vm.findClass RX2 = some m.cls := hown
  have hS : va_S A s.heap s.heap [] := va_S.rf
  replace hP : va_P D gcl (zS_19 cB cC cI cJ a0 a1 a2 a3 x0 x1 x2 x3 x4 a1 a4 a4 f0 a3 f1 a2 g0) s.heap := hP
  replace hl : lv_has ls 2 [(0, .ref a0)] := hl
  have rx4 : zBd x4.toInt (-2147483648) 2147483647 := n_rng x4
  refine lv_aload_n (pc := 0) hx hb dX2_redoStep_0 rfl (lv_at hl 0 rfl) ?_
  refine va_get (pc := 1) (ci := 2) (v := .int x3) (C := RX2) (T := TX2) (N := 8) hx hb hts iX2 hown hK hP 0 rfl rfl 6 (by decide) (hts _ tw_399) (fun _ h9 => h9) rfl dX2_redoStep_1 ?_
  have bd_h_x3 : 0 ≤ x3.toInt ∧ x3.toInt ≤ 40 := h_x3
  refine b_if_ne (pc := 4) (tgt := 9) hx hb rfl  dX2_redoStep_4 (by decide) (fun c_1 => ?_) (fun c_1 => ?_)
  ·
    refine lv_aload_n (pc := 9) hx hb dX2_redoStep_9 rfl (lv_at hl 0 rfl) ?_
    refine lv_aload_n (pc := 10) hx hb dX2_redoStep_10 rfl (lv_at hl 0 rfl) ?_
    refine va_get (pc := 11) (ci := 2) (v := .int x2) (C := RX2) (T := TX2) (N := 8) hx hb hts iX2 hown hK hP 0 rfl rfl 5 (by decide) (hts _ tw_397) (fun _ h9 => h9) rfl dX2_redoStep_11 ?_
    have bd_h_x2 : 0 ≤ x2.toInt ∧ x2.toInt ≤ 40 := h_x2
    refine gd_i (pc := 14) (wc := (zS_162 cB cC cI cJ a0 a1 a2 a3 x0 x1 x2 x3 x4)) hP hD hS hA [0] rfl (by decide +kernel) (fun _ => by rfl) (fun hPc hDc => va_runV (As := [.int x2]) (rest := []) ⟨hx, hb, hml, hown, hts⟩ (k_X2_slot_x l D cB cC cI cJ _ a0 a1 a2 a3 x2 x0 x1 x2 x3 x4 h_x2 h_x0 h_x1 h_x2 h_x3 hr_a0_0) ⟨gcwB hts tw_1057 tw_13 tw_1054 hd_yX2_slot ⟨Nat.le_of_ble_eq_true rfl, Nat.le_of_ble_eq_true rfl⟩, hts _ tw_1056, hts _ tp_43⟩ ⟨gblind, va_recv hK hPc (ci := 2) (q0 := 0) rfl rfl, (gpreS hPc hK hDc hN).2⟩ rfl rfl hl.1 rfl (lv_room (Nat.le_of_ble_eq_true rfl)) dX2_redoStep_14 ⟨Nat.le_of_ble_eq_true rfl, Nat.le_of_ble_eq_true rfl⟩) (fun r_3 u_2 H locs hw_4 hP hD hS => ?_)
    replace hP : va_P D gcl (zS_19 cB cC cI cJ a0 a1 a2 a3 x0 x1 x2 x3 x4 a1 a4 a4 f0 a3 f1 a2 g0) H := hP
    replace hD : va_D A (zS_19 cB cC cI cJ a0 a1 a2 a3 x0 x1 x2 x3 x4 a1 a4 a4 f0 a3 f1 a2 g0) := hD
    obtain ⟨hw_5, hw_6⟩ := hw_4
    replace hw_5 : (0 ≤ r_3.toInt ∧ r_3.toInt ≤ 117) := hw_5
    replace hw_6 : (r_3.toInt = ((x1.toInt + x2.toInt) % 40) * 3) := hw_6
    have rr_3 : zBd r_3.toInt (-2147483648) 2147483647 := n_rng r_3
    refine lv_istore_n (pc := 17) (lv' := [(1, .int r_3), (0, .ref a0)]) hx hb dX2_redoStep_17 rfl hl (by decide) rfl (fun ls hl => ?_)
    refine lv_aload_n (pc := 18) hx hb dX2_redoStep_18 rfl (lv_at hl 1 rfl) ?_
    refine lv_aload_n (pc := 19) hx hb dX2_redoStep_19 rfl (lv_at hl 1 rfl) ?_
    refine va_get (pc := 20) (ci := 2) (v := .ref a3) (C := RX2) (T := TX2) (N := 8) hx hb hts iX2 hown hK hP 0 rfl rfl 2 (by decide) (hts _ tw_394) (fun _ h9 => h9) rfl dX2_redoStep_20 ?_
    refine lv_iload_n (pc := 23) hx hb dX2_redoStep_23 rfl (lv_at hl 0 rfl) ?_
    refine va_iald (pc := 24) hx hb hK hP 3 2 rfl rfl (n_in rfl (by first | exact (om_0 hw_5.1) | ((first | omega | (unfold zBd at *; omega)))) (by first | exact (om_1955 hw_5.2) | ((first | omega | (unfold zBd at *; omega))))) dX2_redoStep_24 ?_
    refine lv_topi (fun x_7 ex_7 => ?_)
    have rx_7 : zBd x_7.toInt (-2147483648) 2147483647 := n_rng x_7
    replace ex_7 : x_7 = f1 (r_3.toInt).toNat := ex_7
    have tx_7 := congrArg Int32.toInt ex_7
    refine lv_aload_n (pc := 25) hx hb dX2_redoStep_25 rfl (lv_at hl 1 rfl) ?_
    refine va_get (pc := 26) (ci := 2) (v := .ref a3) (C := RX2) (T := TX2) (N := 8) hx hb hts iX2 hown hK hP 0 rfl rfl 2 (by decide) (hts _ tw_394) (fun _ h9 => h9) rfl dX2_redoStep_26 ?_
    refine lv_iload_n (pc := 29) hx hb dX2_redoStep_29 rfl (lv_at hl 0 rfl) ?_
    refine lv_iconst (pc := 30) (v := 1) hx hb dX2_redoStep_30 (by decide) ?_
    refine b_iadd (pc := 31) hx hb rfl tI_1 (by first | exact (om_561 rr_3.1) | ((first | omega | (unfold zBd at *; omega)))) (by first | exact (om_1956 hw_5.2) | ((first | omega | (unfold zBd at *; omega)))) dX2_redoStep_31 (fun x_8 ex_8 => ?_)
    refine va_iald (pc := 32) hx hb hK hP 3 2 rfl rfl (n_in rfl (by first | exact (om_917 ex_8 hw_5.1) | ((first | omega | (unfold zBd at *; omega)))) (by first | exact (om_1957 ex_8 hw_5.2) | ((first | omega | (unfold zBd at *; omega))))) dX2_redoStep_32 ?_
    refine lv_topi (fun x_9 ex_9 => ?_)
    have rx_9 : zBd x_9.toInt (-2147483648) 2147483647 := n_rng x_9
    replace ex_9 : x_9 = f1 (x_8.toInt).toNat := ex_9
    have tx_9 := congrArg Int32.toInt ex_9
    refine lv_aload_n (pc := 33) hx hb dX2_redoStep_33 rfl (lv_at hl 1 rfl) ?_
    refine va_get (pc := 34) (ci := 2) (v := .ref a3) (C := RX2) (T := TX2) (N := 8) hx hb hts iX2 hown hK hP 0 rfl rfl 2 (by decide) (hts _ tw_394) (fun _ h9 => h9) rfl dX2_redoStep_34 ?_
    refine lv_iload_n (pc := 37) hx hb dX2_redoStep_37 rfl (lv_at hl 0 rfl) ?_
    refine lv_iconst (pc := 38) (v := 2) hx hb dX2_redoStep_38 (by decide) ?_
    refine b_iadd (pc := 39) hx hb rfl tI_2 (by first | exact (om_1958 rr_3.1) | ((first | omega | (unfold zBd at *; omega)))) (by first | exact (om_1959 hw_5.2) | ((first | omega | (unfold zBd at *; omega)))) dX2_redoStep_39 (fun x_10 ex_10 => ?_)
    refine va_iald (pc := 40) hx hb hK hP 3 2 rfl rfl (n_in rfl (by first | exact (om_1960 ex_10 hw_5.1) | ((first | omega | (unfold zBd at *; omega)))) (by first | exact (om_1961 ex_10 hw_5.2) | ((first | omega | (unfold zBd at *; omega))))) dX2_redoStep_40 ?_
    refine lv_topi (fun x_11 ex_11 => ?_)
    have rx_11 : zBd x_11.toInt (-2147483648) 2147483647 := n_rng x_11
    replace ex_11 : x_11 = f1 (x_10.toInt).toNat := ex_11
    have tx_11 := congrArg Int32.toInt ex_11
    have hh_12 := Led_at (k := x2.toInt) hg_led (by (first | omega | (unfold zBd at *; omega))) (by (first | omega | (unfold zBd at *; omega))) hw_6
    have hh_13 := congrArg Int32.toInt (e_ld ex_9 (show _ = r_3.toInt + 1 by (first | omega | (unfold zBd at *; omega))))
    refine gd_v (pc := 41) (wc := (zS_134 cB cC cI cJ a0 a1 a2 a3 x0 x1 x2 x3 x4 a1 a4 a4 f0 a2 g0)) hP hD hS hA [0, 1, 2, 4] rfl (by decide +kernel) (fun _ => by rfl) (fun hPc hDc => va_runV (As := [.int x_7, .int x_9, .int x_11]) (rest := []) ⟨hx, hb, hml, hown, hts⟩ (k_X2_takeAway_e l D cB cC cI cJ _ a0 a1 a2 a3 a4 x_7 x_9 x_11 x0 x1 x2 x3 x4 f0 g0 (by (first | omega | (unfold zBd at *; omega))) (by (first | omega | (unfold zBd at *; omega))) h_x0 h_x1 h_x2 h_x3 hr_a0_0 (by (first | omega | (unfold zBd at *; omega)))) ⟨gcwB hts tw_1061 tw_13 tw_1058 hd_yX2_takeAway ⟨Nat.le_of_ble_eq_true rfl, Nat.le_of_ble_eq_true rfl⟩, hts _ tw_1060, hts _ tp_44⟩ ⟨gblind, va_recv hK hPc (ci := 2) (q0 := 0) rfl rfl, (gpreS hPc hK hDc hN).2⟩ rfl rfl hl.1 rfl (lv_room (Nat.le_of_ble_eq_true rfl)) dX2_redoStep_41 ⟨Nat.le_of_ble_eq_true rfl, Nat.le_of_ble_eq_true rfl⟩) (fun u_14 H locs hw_16 hP hD hS => ?_)
    replace hP : va_P D gcl (zS_19 cB cC cI cJ a0 a1 a2 a3 x0 x1 x2 x3 x4 a1 a4 a4 (u_14.2.1 0) a3 f1 a2 (u_14.2.2.1 0)) H := hP
    replace hD : va_D A (zS_19 cB cC cI cJ a0 a1 a2 a3 x0 x1 x2 x3 x4 a1 a4 a4 (u_14.2.1 0) a3 f1 a2 (u_14.2.2.1 0)) := hD
    have hw_17 : (taQ f0 (u_14.2.1 0) x_7.toInt x_9.toInt x_11 6) := hw_16
    refine lv_aload_n (pc := 44) hx hb dX2_redoStep_44 rfl (lv_at hl 1 rfl) ?_
    refine lv_dup (pc := 45) hx hb dX2_redoStep_45 rfl ?_
    refine va_get (pc := 46) (ci := 2) (v := .int x2) (C := RX2) (T := TX2) (N := 8) hx hb hts iX2 hown hK hP 0 rfl rfl 5 (by decide) (hts _ tw_397) (fun _ h9 => h9) rfl dX2_redoStep_46 ?_
    refine lv_iconst (pc := 49) (v := 1) hx hb dX2_redoStep_49 (by decide) ?_
    refine b_iadd (pc := 50) hx hb rfl tI_1 (by first | exact (om_2 h_x2.1) | ((first | omega | (unfold zBd at *; omega)))) (by first | exact (om_1719 h_x2.2) | ((first | omega | (unfold zBd at *; omega)))) dX2_redoStep_50 (fun x_18 ex_18 => ?_)
    refine va_put (pc := 51) (ci := 2) (v := .int x_18) (ty := .int) (C := RX2) (T := TX2) (N := 8) hx hb hts iX2 tyX2 tyX2_ok nmX2 hown hK hP hD hS 0 rfl rfl 5 (by decide) (hts _ tw_397) (fun _ h9 => h9) rfl (by decide +kernel) rfl rfl (Nat.le_of_ble_eq_true rfl) dX2_redoStep_51 (fun H locs hP hD hS => ?_)
    replace hP : va_P D gcl (zS_19 cB cC cI cJ a0 a1 a2 a3 x0 x1 x_18 x3 x4 a1 a4 a4 (u_14.2.1 0) a3 f1 a2 (u_14.2.2.1 0)) H := hP
    replace hD : va_D A (zS_19 cB cC cI cJ a0 a1 a2 a3 x0 x1 x_18 x3 x4 a1 a4 a4 (u_14.2.1 0) a3 f1 a2 (u_14.2.2.1 0)) := hD
    refine lv_aload_n (pc := 54) hx hb dX2_redoStep_54 rfl (lv_at hl 1 rfl) ?_
    refine lv_dup (pc := 55) hx hb dX2_redoStep_55 rfl ?_
    refine va_get (pc := 56) (ci := 2) (v := .int x3) (C := RX2) (T := TX2) (N := 8) hx hb hts iX2 hown hK hP 0 rfl rfl 6 (by decide) (hts _ tw_399) (fun _ h9 => h9) rfl dX2_redoStep_56 ?_
    refine lv_iconst (pc := 59) (v := 1) hx hb dX2_redoStep_59 (by decide) ?_
    refine b_isub (pc := 60) hx hb rfl tI_1 (by first | exact (om_659 h_x3.1) | ((first | omega | (unfold zBd at *; omega)))) (by first | exact (om_1718 h_x3.2) | ((first | omega | (unfold zBd at *; omega)))) dX2_redoStep_60 (fun x_19 ex_19 => ?_)
    refine va_put (pc := 61) (ci := 2) (v := .int x_19) (ty := .int) (C := RX2) (T := TX2) (N := 8) hx hb hts iX2 tyX2 tyX2_ok nmX2 hown hK hP hD hS 0 rfl rfl 6 (by decide) (hts _ tw_399) (fun _ h9 => h9) rfl (by decide +kernel) rfl rfl (Nat.le_of_ble_eq_true rfl) dX2_redoStep_61 (fun H locs hP hD hS => ?_)
    replace hP : va_P D gcl (zS_19 cB cC cI cJ a0 a1 a2 a3 x0 x1 x_18 x_19 x4 a1 a4 a4 (u_14.2.1 0) a3 f1 a2 (u_14.2.2.1 0)) H := hP
    replace hD : va_D A (zS_19 cB cC cI cJ a0 a1 a2 a3 x0 x1 x_18 x_19 x4 a1 a4 a4 (u_14.2.1 0) a3 f1 a2 (u_14.2.2.1 0)) := hD
    refine lv_aload_n (pc := 64) hx hb dX2_redoStep_64 rfl (lv_at hl 1 rfl) ?_
    refine lv_dup (pc := 65) hx hb dX2_redoStep_65 rfl ?_
    refine va_get (pc := 66) (ci := 2) (v := .int x4) (C := RX2) (T := TX2) (N := 8) hx hb hts iX2 hown hK hP 0 rfl rfl 7 (by decide) (hts _ tw_401) (fun _ h9 => h9) rfl dX2_redoStep_66 ?_
    refine lv_iconst (pc := 69) (v := 1) hx hb dX2_redoStep_69 (by decide) ?_
    refine b_iadd (pc := 70) hx hb rfl tI_1 (by first | exact (om_561 rx4.1) | ((first | omega | (unfold zBd at *; omega)))) (by first | exact (om_1991 hg__dn.2.2 h_x3.1) | ((first | omega | (unfold zBd at *; omega)))) dX2_redoStep_70 (fun x_20 ex_20 => ?_)
    refine va_put (pc := 71) (ci := 2) (v := .int x_20) (ty := .int) (C := RX2) (T := TX2) (N := 8) hx hb hts iX2 tyX2 tyX2_ok nmX2 hown hK hP hD hS 0 rfl rfl 7 (by decide) (hts _ tw_401) (fun _ h9 => h9) rfl (by decide +kernel) rfl rfl (Nat.le_of_ble_eq_true rfl) dX2_redoStep_71 (fun H locs hP hD hS => ?_)
    replace hP : va_P D gcl (zS_19 cB cC cI cJ a0 a1 a2 a3 x0 x1 x_18 x_19 x_20 a1 a4 a4 (u_14.2.1 0) a3 f1 a2 (u_14.2.2.1 0)) H := hP
    replace hD : va_D A (zS_19 cB cC cI cJ a0 a1 a2 a3 x0 x1 x_18 x_19 x_20 a1 a4 a4 (u_14.2.1 0) a3 f1 a2 (u_14.2.2.1 0)) := hD
    refine lv_iconst (pc := 74) (v := 1) hx hb dX2_redoStep_74 (by decide) ?_
    have k9 := tI_1
    exact hret 1 ((fun _ => 0), (fun k => [(u_14.2.1 0)].getD k (fun _ => 0)), (fun k => [(u_14.2.2.1 0)].getD k (fun _ => 0)), (fun k => [x_18, x_19, x_20].getD k 0), (fun _ => 0)) dX2_redoStep_75 ⟨(Or.inr tI_1), ⟨(show (0 ≤ (1 : Int32).toInt ∧ (1 : Int32).toInt ≤ 1) from (n_c tI_1 (by decide))), (show (0 ≤ (x_18 : Int32).toInt ∧ (x_18 : Int32).toInt ≤ 40) from (by first | exact (om_1729 ex_18 h_x2.1 c_1 h_x3.1 hr_a0_0) | (have k9 := tI_1; (first | omega | (unfold zBd at *; omega))))), (show (0 ≤ (x_19 : Int32).toInt ∧ (x_19 : Int32).toInt ≤ 40) from (by first | exact (om_1720 c_1 h_x3.1 ex_19 h_x3.2) | (have k9 := tI_1; (first | omega | (unfold zBd at *; omega))))), (show ((x_18 : Int32).toInt + (x_19 : Int32).toInt ≤ 40) from (by first | exact (om_1992 ex_19 ex_18 hr_a0_0) | (have k9 := tI_1; (first | omega | (unfold zBd at *; omega))))), (show LedOK (u_14.2.1 0) f1 x1.toInt x_18.toInt x_19.toInt from Led_redo hg_led (by first | exact (om_0 h_x2.1) | ((first | omega | (unfold zBd at *; omega)))) (by first | exact (om_378 c_1 h_x3.1) | ((first | omega | (unfold zBd at *; omega)))) (by first | exact (om_5 ex_18) | ((first | omega | (unfold zBd at *; omega)))) (by first | exact (om_682 ex_19) | ((first | omega | (unfold zBd at *; omega)))) hw_6 ex_7 (e_ld ex_9 (show _ = r_3.toInt + 1 by (first | omega | (unfold zBd at *; omega)))).symm (e_ld ex_11 (show _ = r_3.toInt + 2 by (first | omega | (unfold zBd at *; omega)))).symm hw_17), (show ∀ T : Nat → Int32, XOK T f0 f1 x0.toInt x1.toInt x2.toInt x3.toInt x4.toInt → XOK T (u_14.2.1 0) f1 x0.toInt x1.toInt x_18.toInt x_19.toInt x_20.toInt from fun T h => X_redo h (by (first | omega | (unfold zBd at *; omega))) (by (first | omega | (unfold zBd at *; omega))) (by (first | omega | (unfold zBd at *; omega))) (by (first | omega | (unfold zBd at *; omega))) hw_6 ex_7 (e_ld ex_9 (show _ = r_3.toInt + 1 by (first | omega | (unfold zBd at *; omega)))).symm (e_ld ex_11 (show _ = r_3.toInt + 2 by (first | omega | (unfold zBd at *; omega)))).symm hw_17 (by (first | omega | (unfold zBd at *; omega)))), (show reQ (1 : Int32).toInt x2.toInt x3.toInt x4.toInt x_18.toInt x_19.toInt x_20.toInt from (by unfold reQ; (first | omega | (unfold zBd at *; omega))))⟩⟩ (g_psub (wc := (zS_19 cB cC cI cJ a0 a1 a2 a3 x0 x1 x_18 x_19 x_20 a1 a4 a4 (u_14.2.1 0) a3 f1 a2 (u_14.2.2.1 0))) hP [0, 1, 2, 3, 4] rfl) (hD.sub (ws' := (zS_19 cB cC cI cJ a0 a1 a2 a3 x0 x1 x_18 x_19 x_20 a1 a4 a4 (u_14.2.1 0) a3 f1 a2 (u_14.2.2.1 0))) [0, 1, 2, 3, 4] (by decide) rfl) hS
  ·
    refine lv_iconst (pc := 7) (v := 0) hx hb dX2_redoStep_7 (by decide) ?_
    have k9 := tI_0
    exact hret 0 ((fun _ => 0), (fun k => [f0].getD k (fun _ => 0)), (fun k => [g0].getD k (fun _ => 0)), (fun k => [x2, x3, x4].getD k 0), (fun _ => 0)) dX2_redoStep_8 ⟨(Or.inl tI_0), ⟨(show (0 ≤ (0 : Int32).toInt ∧ (0 : Int32).toInt ≤ 1) from (n_c tI_0 (by decide))), (show (0 ≤ (x2 : Int32).toInt ∧ (x2 : Int32).toInt ≤ 40) from h_x2), (show (0 ≤ (x3 : Int32).toInt ∧ (x3 : Int32).toInt ≤ 40) from h_x3), (show ((x2 : Int32).toInt + (x3 : Int32).toInt ≤ 40) from hr_a0_0), (show LedOK f0 f1 x1.toInt x2.toInt x3.toInt from hg_led), (show ∀ T : Nat → Int32, XOK T f0 f1 x0.toInt x1.toInt x2.toInt x3.toInt x4.toInt → XOK T f0 f1 x0.toInt x1.toInt x2.toInt x3.toInt x4.toInt from fun _ h => h), (show reQ (0 : Int32).toInt x2.toInt x3.toInt x4.toInt x2.toInt x3.toInt x4.toInt from (by unfold reQ; (first | omega | (unfold zBd at *; omega))))⟩⟩ (g_psub (wc := (zS_19 cB cC cI cJ a0 a1 a2 a3 x0 x1 x2 x3 x4 a1 a4 a4 f0 a3 f1 a2 g0)) hP [0, 1, 2, 3, 4] rfl) (hD.sub (ws' := (zS_19 cB cC cI cJ a0 a1 a2 a3 x0 x1 x2 x3 x4 a1 a4 a4 f0 a3 f1 a2 g0)) [0, 1, 2, 3, 4] (by decide) rfl) hS
set_option maxHeartbeats 4000000 in
set_option maxRecDepth 100000 in
theorem k_X11_redo (l : Launch) (D : va_G) (cB cC cI cJ : ClassId) (sz : Nat) (a0 a1 a2 a3 a4 a5 a6 a7 a8 a9 a10 a11 a12 a13 a14 a15 a16 a17 a18 a19 a20 a21 : Nat) (x0 x1 x2 x3 x4 x5 x6 x7 x8 x9 x10 x11 x12 : Int32) (f0 f1 f2 : Nat → Int32) (g0 : Nat → Int64) (h_x0 : zBd x0.toInt 0 14) (h_x1 : zBd x1.toInt (-1) 5) (h_x2 : zBd x2.toInt 0 39) (h_x3 : zBd x3.toInt 0 40) (h_x4 : zBd x4.toInt 0 40) (hr_a12_0 : (x3.toInt + x4.toInt ≤ 40)) (h_x6 : zBd x6.toInt (-1) 8) (h_x7 : zBd x7.toInt (-1) 5) (h_x8 : zBd x8.toInt (-1) 6) (h_x9 : zBd x9.toInt 0 6) (h_x10 : zBd x10.toInt 0 16) (hg_led : LedOK f0 f1 x2.toInt x3.toInt x4.toInt) (hg_xk : XOK f2 f0 f1 x1.toInt x2.toInt x3.toInt x4.toInt x5.toInt) (hg_se : x1.toInt = x7.toInt) : Met l yX11_redo (.code yX11_redo cX11_redo 1 (some .boolean) :: lw_gd) ({ frames := 4, cells := 0, slots := 0, locals := 92 }) (gPre D [(cB, .byte), (cC, .char), (cI, .int), (cJ, .long)] [.ref a0] (zS_52 cB cC cI cJ a0 a1 a2 a3 a4 a5 a6 a7 a8 a9 a10 x0 a11 a12 a13 a12 a14 a15 a16 x1 x2 x3 x4 x5 a14 a17 a17 f0 a16 f1 a11 a18 a19 a20 x6 x7 x8 x9 x10 x11 x12 a18 a21 a21 f2 a15 g0) sz) (va_Qi (fun r u => (0 ≤ r.toInt ∧ r.toInt ≤ 1) ∧ (0 ≤ (u.2.2.2.1 0).toInt ∧ (u.2.2.2.1 0).toInt ≤ 40) ∧ (0 ≤ (u.2.2.2.1 1).toInt ∧ (u.2.2.2.1 1).toInt ≤ 40) ∧ ((u.2.2.2.1 0).toInt + (u.2.2.2.1 1).toInt ≤ 40) ∧ (LedOK (u.2.1 0) f1 x2.toInt (u.2.2.2.1 0).toInt (u.2.2.2.1 1).toInt) ∧ (XOK f2 (u.2.1 0) f1 x1.toInt x2.toInt (u.2.2.2.1 0).toInt (u.2.2.2.1 1).toInt (u.2.2.2.1 2).toInt) ∧ (reQ r.toInt x3.toInt x4.toInt x5.toInt (u.2.2.2.1 0).toInt (u.2.2.2.1 1).toInt (u.2.2.2.1 2).toInt)) (gB D (va_A (zS_52 cB cC cI cJ a0 a1 a2 a3 a4 a5 a6 a7 a8 a9 a10 x0 a11 a12 a13 a12 a14 a15 a16 x1 x2 x3 x4 x5 a14 a17 a17 f0 a16 f1 a11 a18 a19 a20 x6 x7 x8 x9 x10 x11 x12 a18 a21 a21 f2 a15 g0) sz) (fun u : gEx => (zS_52 cB cC cI cJ a0 a1 a2 a3 a4 a5 a6 a7 a8 a9 a10 x0 a11 a12 a13 a12 a14 a15 a16 x1 x2 (u.2.2.2.1 0) (u.2.2.2.1 1) (u.2.2.2.1 2) a14 a17 a17 (u.2.1 0) a16 f1 a11 a18 a19 a20 x6 x7 x8 x9 x10 x11 x12 a18 a21 a21 f2 a15 (u.2.2.1 0)))) (va_A (zS_52 cB cC cI cJ a0 a1 a2 a3 a4 a5 a6 a7 a8 a9 a10 x0 a11 a12 a13 a12 a14 a15 a16 x1 x2 x3 x4 x5 a14 a17 a17 f0 a16 f1 a11 a18 a19 a20 x6 x7 x8 x9 x10 x11 x12 a18 a21 a21 f2 a15 g0) sz)) 0 0 (va_A (zS_52 cB cC cI cJ a0 a1 a2 a3 a4 a5 a6 a7 a8 a9 a10 x0 a11 a12 a13 a12 a14 a15 a16 x1 x2 x3 x4 x5 a14 a17 a17 f0 a16 f1 a11 a18 a19 a20 x6 x7 x8 x9 x10 x11 x12 a18 a21 a21 f2 a15 g0) sz) := by
  refine gOf_z (by decide +kernel) (Nat.le_of_ble_eq_true rfl) ?_
  intro p e s m args below meth c ls A Q hx hb hts hown hml hN hK hP hD hA hl hret
  replace hown : s.vm.findClass RX11 = some m.cls := hown
  have hS : va_S A s.heap s.heap [] := va_S.rf
  replace hP : va_P D gcl (zS_52 cB cC cI cJ a0 a1 a2 a3 a4 a5 a6 a7 a8 a9 a10 x0 a11 a12 a13 a12 a14 a15 a16 x1 x2 x3 x4 x5 a14 a17 a17 f0 a16 f1 a11 a18 a19 a20 x6 x7 x8 x9 x10 x11 x12 a18 a21 a21 f2 a15 g0) s.heap := hP
  replace hl : lv_has ls 1 [(0, .ref a0)] := hl
  have rx5 : zBd x5.toInt (-2147483648) 2147483647 := n_rng x5
  have rx11 : zBd x11.toInt (-2147483648) 2147483647 := n_rng x11
  have rx12 : zBd x12.toInt (-2147483648) 2147483647 := n_rng x12
  refine lv_aload_n (pc := 0) hx hb dX11_redo_0 rfl (lv_at hl 0 rfl) ?_
  refine va_get (pc := 1) (ci := 11) (v := .ref a12) (C := RX11) (T := TX11) (N := 14) hx hb hts iX11 hown hK hP 0 rfl rfl 12 (by decide) (hts _ tw_432) (fun _ h9 => h9) rfl dX11_redo_1 ?_
  refine gd_i (pc := 4) (wc := (zS_19 cB cC cI cJ a12 a14 a15 a16 x1 x2 x3 x4 x5 a14 a17 a17 f0 a16 f1 a15 g0)) hP hD hS hA [1, 2, 3, 4, 8] rfl (by decide +kernel) (fun _ => by rfl) (fun hPc hDc => va_runV (As := []) (rest := []) ⟨hx, hb, hml, hown, hts⟩ (k_X2_redoStep l D cB cC cI cJ _ a12 a14 a15 a16 a17 x1 x2 x3 x4 x5 f0 f1 g0 h_x1 h_x2 h_x3 h_x4 hr_a12_0 (hg_led) (by have q := (hg_xk).1; (first | omega | (unfold zBd at *; omega)))) ⟨gcwB hts tw_1082 tw_13 tw_1079 hd_yX2_redoStep ⟨Nat.le_of_ble_eq_true rfl, Nat.le_of_ble_eq_true rfl⟩, hts _ tw_1080, hts _ tw_1081⟩ ⟨gblind, va_recv hK hPc (ci := 2) (q0 := 0) rfl rfl, (gpreS hPc hK hDc hN).2⟩ rfl rfl hl.1 rfl (lv_room (Nat.le_of_ble_eq_true rfl)) dX11_redo_4 ⟨Nat.le_of_ble_eq_true rfl, Nat.le_of_ble_eq_true rfl⟩) (fun r_2 u_1 H locs hw_3 hP hD hS => ?_)
  replace hP : va_P D gcl (zS_52 cB cC cI cJ a0 a1 a2 a3 a4 a5 a6 a7 a8 a9 a10 x0 a11 a12 a13 a12 a14 a15 a16 x1 x2 (u_1.2.2.2.1 0) (u_1.2.2.2.1 1) (u_1.2.2.2.1 2) a14 a17 a17 (u_1.2.1 0) a16 f1 a11 a18 a19 a20 x6 x7 x8 x9 x10 x11 x12 a18 a21 a21 f2 a15 (u_1.2.2.1 0)) H := hP
  replace hD : va_D A (zS_52 cB cC cI cJ a0 a1 a2 a3 a4 a5 a6 a7 a8 a9 a10 x0 a11 a12 a13 a12 a14 a15 a16 x1 x2 (u_1.2.2.2.1 0) (u_1.2.2.2.1 1) (u_1.2.2.2.1 2) a14 a17 a17 (u_1.2.1 0) a16 f1 a11 a18 a19 a20 x6 x7 x8 x9 x10 x11 x12 a18 a21 a21 f2 a15 (u_1.2.2.1 0)) := hD
  have ru_1_0 : zBd (u_1.2.2.2.1 2).toInt (-2147483648) 2147483647 := n_rng (u_1.2.2.2.1 2)
  obtain ⟨hw_4, hw_5, hw_6, hw_7, hw_8, hw_9, hw_10⟩ := hw_3
  replace hw_4 : (0 ≤ r_2.toInt ∧ r_2.toInt ≤ 1) := hw_4
  replace hw_5 : zBd (u_1.2.2.2.1 0).toInt 0 40 := hw_5
  replace hw_6 : zBd (u_1.2.2.2.1 1).toInt 0 40 := hw_6
  replace hw_7 : ((u_1.2.2.2.1 0).toInt + (u_1.2.2.2.1 1).toInt ≤ 40) := hw_7
  replace hw_8 : (LedOK (u_1.2.1 0) f1 x2.toInt (u_1.2.2.2.1 0).toInt (u_1.2.2.2.1 1).toInt) := hw_8
  replace hw_9 : (∀ T : Nat → Int32, XOK T f0 f1 x1.toInt x2.toInt x3.toInt x4.toInt x5.toInt → XOK T (u_1.2.1 0) f1 x1.toInt x2.toInt (u_1.2.2.2.1 0).toInt (u_1.2.2.2.1 1).toInt (u_1.2.2.2.1 2).toInt) := hw_9
  replace hw_10 : (reQ r_2.toInt x3.toInt x4.toInt x5.toInt (u_1.2.2.2.1 0).toInt (u_1.2.2.2.1 1).toInt (u_1.2.2.2.1 2).toInt) := hw_10
  have rr_2 : zBd r_2.toInt (-2147483648) 2147483647 := n_rng r_2
  exact hret r_2 ((fun _ => 0), (fun k => [(u_1.2.1 0)].getD k (fun _ => 0)), (fun k => [(u_1.2.2.1 0)].getD k (fun _ => 0)), (fun k => [(u_1.2.2.2.1 0), (u_1.2.2.2.1 1), (u_1.2.2.2.1 2)].getD k 0), (fun _ => 0)) dX11_redo_7 ⟨(by first | exact (om_46 hw_4.1 hw_4.2) | ((first | omega | (unfold zBd at *; omega)))), ⟨(show (0 ≤ r_2.toInt ∧ r_2.toInt ≤ 1) from hw_4), (show (0 ≤ ((u_1.2.2.2.1 0) : Int32).toInt ∧ ((u_1.2.2.2.1 0) : Int32).toInt ≤ 40) from hw_5), (show (0 ≤ ((u_1.2.2.2.1 1) : Int32).toInt ∧ ((u_1.2.2.2.1 1) : Int32).toInt ≤ 40) from hw_6), (show (((u_1.2.2.2.1 0) : Int32).toInt + ((u_1.2.2.2.1 1) : Int32).toInt ≤ 40) from hw_7), (show LedOK (u_1.2.1 0) f1 x2.toInt (u_1.2.2.2.1 0).toInt (u_1.2.2.2.1 1).toInt from hw_8), (show XOK f2 (u_1.2.1 0) f1 x1.toInt x2.toInt (u_1.2.2.2.1 0).toInt (u_1.2.2.2.1 1).toInt (u_1.2.2.2.1 2).toInt from hw_9 _ hg_xk), (show reQ r_2.toInt x3.toInt x4.toInt x5.toInt (u_1.2.2.2.1 0).toInt (u_1.2.2.2.1 1).toInt (u_1.2.2.2.1 2).toInt from hw_10)⟩⟩ (g_psub (wc := (zS_52 cB cC cI cJ a0 a1 a2 a3 a4 a5 a6 a7 a8 a9 a10 x0 a11 a12 a13 a12 a14 a15 a16 x1 x2 (u_1.2.2.2.1 0) (u_1.2.2.2.1 1) (u_1.2.2.2.1 2) a14 a17 a17 (u_1.2.1 0) a16 f1 a11 a18 a19 a20 x6 x7 x8 x9 x10 x11 x12 a18 a21 a21 f2 a15 (u_1.2.2.1 0))) hP [0, 1, 2, 3, 4, 5, 6, 7, 8] rfl) (hD.sub (ws' := (zS_52 cB cC cI cJ a0 a1 a2 a3 a4 a5 a6 a7 a8 a9 a10 x0 a11 a12 a13 a12 a14 a15 a16 x1 x2 (u_1.2.2.2.1 0) (u_1.2.2.2.1 1) (u_1.2.2.2.1 2) a14 a17 a17 (u_1.2.1 0) a16 f1 a11 a18 a19 a20 x6 x7 x8 x9 x10 x11 x12 a18 a21 a21 f2 a15 (u_1.2.2.1 0))) [0, 1, 2, 3, 4, 5, 6, 7, 8] (by decide) rfl) hS
theorem om_1993 {a b : Int} (h0 : (a = b)) (h1 : (0 ≤ b)) : (-2147483648 ≤ a - 2) := by omega
theorem om_1994 {a : Int} (h0 : (a ≤ 2147483647)) : (a - 2 ≤ 2147483647) := by omega
theorem om_1995 {a : Int} (h0 : (a = 0)) : (a = 0 ∧ a = 0 ∧ a = 0) := by omega
set_option maxHeartbeats 4000000 in
set_option maxRecDepth 100000 in
theorem k_X11_on (l : Launch) (D : va_G) (cB cC cI cJ : ClassId) (sz : Nat) (a0 a1 a2 a3 a4 a5 a6 a7 a8 a9 a10 a11 a12 a13 a14 a15 a16 a17 a18 a19 a20 a21 a22 a23 a24 a25 a26 a27 a28 a29 a30 a31 a32 a33 a34 : Nat) (x0 x1 x2 x3 x4 x5 x6 x7 x8 x9 x10 x11 x12 x13 x14 x15 x16 x17 x18 x19 x20 : Int32) (y0 : Int64) (f0 f1 f2 f3 f4 f5 f6 : Nat → Int32) (g0 : Nat → Int64) (h_x0 : zBd x0.toInt 0 14) (h_x1 : zBd x1.toInt (-1) 5) (h_x2 : zBd x2.toInt 0 39) (h_x3 : zBd x3.toInt 0 40) (h_x4 : zBd x4.toInt 0 40) (hr_a12_0 : (x3.toInt + x4.toInt ≤ 40)) (h_x6 : zBd x6.toInt (-1) 5) (h_x7 : zBd x7.toInt 0 39) (h_x8 : zBd x8.toInt 0 40) (h_x9 : zBd x9.toInt 0 40) (hr_a13_0 : (x8.toInt + x9.toInt ≤ 40)) (h_x11 : zBd x11.toInt (-1) 8) (h_x12 : zBd x12.toInt (-1) 5) (h_x13 : zBd x13.toInt (-1) 6) (h_x14 : zBd x14.toInt 0 6) (h_x15 : zBd x15.toInt 0 16) (h_x18 : zBd x18.toInt 0 1600) (hg_led : LedOK f0 f1 x2.toInt x3.toInt x4.toInt) (hg_tb : TB f4 99) (hg_xk : XOK f4 f0 f1 x1.toInt x2.toInt x3.toInt x4.toInt x5.toInt) (hg_se : x1.toInt = x12.toInt) (h_x19 : zBd x19.toInt 0 10) (h_x20 : zBd x20.toInt 0 1) : Met l yX11_on (.code yX11_on cX11_on 3 (some .boolean) :: lw_gd) ({ frames := 5, cells := 0, slots := 0, locals := 116 }) (gPre D [(cB, .byte), (cC, .char), (cI, .int), (cJ, .long)] [.ref a0] (zS_56 cB cC cI cJ a0 a1 a2 a3 a4 a5 a6 a7 a8 a9 a10 x0 a11 a12 a13 a12 a14 a15 a16 x1 x2 x3 x4 x5 a14 a17 a17 f0 a16 f1 a13 a18 a19 a20 x6 x7 x8 x9 x10 a18 a21 a21 f2 a20 f3 a11 a22 a23 a24 x11 x12 x13 x14 x15 x16 x17 a22 a25 a25 f4 a2 a26 x18 a26 f5 a19 g0 a3 a27 a28 a29 a30 a31 a32 a33 a34 x19 y0 x20 a7 f6) sz) (va_Qi (fun r u => (0 ≤ r.toInt ∧ r.toInt ≤ 1) ∧ ((-1) ≤ (u.2.2.2.1 0).toInt ∧ (u.2.2.2.1 0).toInt ≤ 5) ∧ (0 ≤ (u.2.2.2.1 1).toInt ∧ (u.2.2.2.1 1).toInt ≤ 39) ∧ (0 ≤ (u.2.2.2.1 2).toInt ∧ (u.2.2.2.1 2).toInt ≤ 40) ∧ (0 ≤ (u.2.2.2.1 3).toInt ∧ (u.2.2.2.1 3).toInt ≤ 40) ∧ ((u.2.2.2.1 2).toInt + (u.2.2.2.1 3).toInt ≤ 40) ∧ (0 ≤ (u.2.2.2.1 5).toInt ∧ (u.2.2.2.1 5).toInt ≤ 1) ∧ ((0 : Int32).toInt = 0) ∧ (((u.1 0) = a12 ∧ (u.1 1) = a13 ∧ (LedOK f0 f1 x2.toInt x3.toInt x4.toInt ∧ XOK f4 f0 f1 x1.toInt x2.toInt x3.toInt x4.toInt x5.toInt ∧ x1.toInt = x12.toInt ∧ onQ9 r.toInt (taub f5 x18.toInt) x18.toInt x13.toInt (chP (trT f4) 6 x12.toInt) x3.toInt x4.toInt x5.toInt x3.toInt x4.toInt x5.toInt)) ∨ ((u.1 0) = a13 ∧ (u.1 1) = a12 ∧ (LedOK (u.2.1 0) (u.2.1 1) (u.2.2.2.1 1).toInt (u.2.2.2.1 2).toInt (u.2.2.2.1 3).toInt ∧ XOK f4 (u.2.1 0) (u.2.1 1) (u.2.2.2.1 0).toInt (u.2.2.2.1 1).toInt (u.2.2.2.1 2).toInt (u.2.2.2.1 3).toInt (u.2.2.2.1 4).toInt ∧ (u.2.2.2.1 0).toInt = x12.toInt ∧ onQ9 r.toInt (taub f5 x18.toInt) x18.toInt x13.toInt (chP (trT f4) 6 x12.toInt) x3.toInt x4.toInt x5.toInt (u.2.2.2.1 2).toInt (u.2.2.2.1 3).toInt (u.2.2.2.1 4).toInt)))) (gB D (va_A (zS_56 cB cC cI cJ a0 a1 a2 a3 a4 a5 a6 a7 a8 a9 a10 x0 a11 a12 a13 a12 a14 a15 a16 x1 x2 x3 x4 x5 a14 a17 a17 f0 a16 f1 a13 a18 a19 a20 x6 x7 x8 x9 x10 a18 a21 a21 f2 a20 f3 a11 a22 a23 a24 x11 x12 x13 x14 x15 x16 x17 a22 a25 a25 f4 a2 a26 x18 a26 f5 a19 g0 a3 a27 a28 a29 a30 a31 a32 a33 a34 x19 y0 x20 a7 f6) sz) (fun u : gEx => (zS_56 cB cC cI cJ a0 a1 a2 a3 a4 a5 a6 a7 a8 a9 a10 x0 a11 (u.1 0) (u.1 1) a12 a14 a15 a16 x1 x2 x3 x4 x5 a14 a17 a17 f0 a16 f1 a13 a18 a19 a20 (u.2.2.2.1 0) (u.2.2.2.1 1) (u.2.2.2.1 2) (u.2.2.2.1 3) (u.2.2.2.1 4) a18 a21 a21 (u.2.1 0) a20 (u.2.1 1) a11 a22 a23 a24 x11 x12 x13 x14 x15 x16 x17 a22 a25 a25 f4 a2 a26 0 a26 f5 a19 (u.2.2.1 0) a3 a27 a28 a29 a30 a31 a32 a33 a34 x19 y0 (u.2.2.2.1 5) a7 (u.2.1 2)))) (va_A (zS_56 cB cC cI cJ a0 a1 a2 a3 a4 a5 a6 a7 a8 a9 a10 x0 a11 a12 a13 a12 a14 a15 a16 x1 x2 x3 x4 x5 a14 a17 a17 f0 a16 f1 a13 a18 a19 a20 x6 x7 x8 x9 x10 a18 a21 a21 f2 a20 f3 a11 a22 a23 a24 x11 x12 x13 x14 x15 x16 x17 a22 a25 a25 f4 a2 a26 x18 a26 f5 a19 g0 a3 a27 a28 a29 a30 a31 a32 a33 a34 x19 y0 x20 a7 f6) sz)) 0 0 (va_A (zS_56 cB cC cI cJ a0 a1 a2 a3 a4 a5 a6 a7 a8 a9 a10 x0 a11 a12 a13 a12 a14 a15 a16 x1 x2 x3 x4 x5 a14 a17 a17 f0 a16 f1 a13 a18 a19 a20 x6 x7 x8 x9 x10 a18 a21 a21 f2 a20 f3 a11 a22 a23 a24 x11 x12 x13 x14 x15 x16 x17 a22 a25 a25 f4 a2 a26 x18 a26 f5 a19 g0 a3 a27 a28 a29 a30 a31 a32 a33 a34 x19 y0 x20 a7 f6) sz) := by
  refine gOf_z (by decide +kernel) (Nat.le_of_ble_eq_true rfl) ?_
  intro p e s m args below meth c ls A Q hx hb hts hown hml hN hK hP hD hA hl hret
  replace hown : s.vm.findClass RX11 = some m.cls := hown
  have hS : va_S A s.heap s.heap [] := va_S.rf
  replace hP : va_P D gcl (zS_56 cB cC cI cJ a0 a1 a2 a3 a4 a5 a6 a7 a8 a9 a10 x0 a11 a12 a13 a12 a14 a15 a16 x1 x2 x3 x4 x5 a14 a17 a17 f0 a16 f1 a13 a18 a19 a20 x6 x7 x8 x9 x10 a18 a21 a21 f2 a20 f3 a11 a22 a23 a24 x11 x12 x13 x14 x15 x16 x17 a22 a25 a25 f4 a2 a26 x18 a26 f5 a19 g0 a3 a27 a28 a29 a30 a31 a32 a33 a34 x19 y0 x20 a7 f6) s.heap := hP
  replace hl : lv_has ls 3 [(0, .ref a0)] := hl
  have rx5 : zBd x5.toInt (-2147483648) 2147483647 := n_rng x5
  have rx10 : zBd x10.toInt (-2147483648) 2147483647 := n_rng x10
  have rx16 : zBd x16.toInt (-2147483648) 2147483647 := n_rng x16
  have rx17 : zBd x17.toInt (-2147483648) 2147483647 := n_rng x17
  have ry0 := n_rngL y0
  refine lv_aload_n (pc := 0) hx hb dX11_on_0 rfl (lv_at hl 0 rfl) ?_
  refine gd_i (pc := 1) (wc := (zS_104 cB cC cI cJ a0 a1 a2 a3 a4 a5 a6 a7 a8 a9 a10 x0 a11 a12 a13 a11 a22 a23 a24 x11 x12 x13 x14 x15 x16 x17 a2 a26 x18 a26 f5)) hP hD hS hA [0, 9, 12, 13] rfl (by decide +kernel) (fun _ => by rfl) (fun hPc hDc => va_runV (As := []) (rest := []) ⟨hx, hb, hml, hown, hts⟩ (k_X11_isImage l D cB cC cI cJ _ a0 a1 a2 a3 a4 a5 a6 a7 a8 a9 a10 a11 a12 a13 a22 a23 a24 a26 x0 x11 x12 x13 x14 x15 x16 x17 x18 f5 h_x0 h_x11 h_x12 h_x13 h_x14 h_x15 h_x18) ⟨gcwB hts tw_1393 tw_1 tw_1390 hd_yX11_isImage ⟨Nat.le_of_ble_eq_true rfl, Nat.le_of_ble_eq_true rfl⟩, hts _ tw_1392, hts _ tp_58⟩ ⟨gblind, va_recv hK hPc (ci := 11) (q0 := 0) rfl rfl, (gpreS hPc hK hDc hN).2⟩ rfl rfl hl.1 rfl (lv_room (Nat.le_of_ble_eq_true rfl)) dX11_on_1 ⟨Nat.le_of_ble_eq_true rfl, Nat.le_of_ble_eq_true rfl⟩) (fun r_2 u_1 H locs hw_3 hP hD hS => ?_)
  replace hP : va_P D gcl (zS_56 cB cC cI cJ a0 a1 a2 a3 a4 a5 a6 a7 a8 a9 a10 x0 a11 a12 a13 a12 a14 a15 a16 x1 x2 x3 x4 x5 a14 a17 a17 f0 a16 f1 a13 a18 a19 a20 x6 x7 x8 x9 x10 a18 a21 a21 f2 a20 f3 a11 a22 a23 a24 x11 x12 x13 x14 x15 x16 x17 a22 a25 a25 f4 a2 a26 x18 a26 f5 a19 g0 a3 a27 a28 a29 a30 a31 a32 a33 a34 x19 y0 x20 a7 f6) H := hP
  replace hD : va_D A (zS_56 cB cC cI cJ a0 a1 a2 a3 a4 a5 a6 a7 a8 a9 a10 x0 a11 a12 a13 a12 a14 a15 a16 x1 x2 x3 x4 x5 a14 a17 a17 f0 a16 f1 a13 a18 a19 a20 x6 x7 x8 x9 x10 a18 a21 a21 f2 a20 f3 a11 a22 a23 a24 x11 x12 x13 x14 x15 x16 x17 a22 a25 a25 f4 a2 a26 x18 a26 f5 a19 g0 a3 a27 a28 a29 a30 a31 a32 a33 a34 x19 y0 x20 a7 f6) := hD
  obtain ⟨hw_4, hw_5⟩ := hw_3
  replace hw_4 : (0 ≤ r_2.toInt ∧ r_2.toInt ≤ 1) := hw_4
  replace hw_5 : ((r_2.toInt = 1 ∧ imgQ (taub f5 x18.toInt) x18.toInt x13.toInt) ∨ (r_2.toInt = 0 ∧ ¬ imgQ (taub f5 x18.toInt) x18.toInt x13.toInt)) := hw_5
  have rr_2 : zBd r_2.toInt (-2147483648) 2147483647 := n_rng r_2
  refine lv_istore_n (pc := 4) (lv' := [(1, .int r_2), (0, .ref a0)]) hx hb dX11_on_4 rfl hl (by decide) rfl (fun ls hl => ?_)
  refine lv_iload_n (pc := 5) hx hb dX11_on_5 rfl (lv_at hl 0 rfl) ?_
  refine b_if_eq (pc := 6) (tgt := 55) hx hb rfl  dX11_on_6 (by decide) (fun c_6 => ?_) (fun c_6 => ?_)
  ·
    refine lv_iload_n (pc := 55) hx hb dX11_on_55 rfl (lv_at hl 0 rfl) ?_
    refine b_if_eq (pc := 56) (tgt := 81) hx hb rfl  dX11_on_56 (by decide) (fun c_7 => ?_) (fun c_7 => absurd c_7 (by first | exact (om_122 c_6) | ((first | omega | (unfold zBd at *; omega)))))
    refine lv_aload_n (pc := 81) hx hb dX11_on_81 rfl (lv_at hl 1 rfl) ?_
    refine va_get (pc := 82) (ci := 11) (v := .ref a2) (C := RX11) (T := TX11) (N := 14) hx hb hts iX11 hown hK hP 0 rfl rfl 1 (by decide) (hts _ tw_421) (fun _ h9 => h9) rfl dX11_on_82 ?_
    refine lv_iconst (pc := 85) (v := 0) hx hb dX11_on_85 (by decide) ?_
    refine gd_v (pc := 86) (wc := [(a2, .inr (9, [.ref a26, .int x18]))]) hP hD hS hA [12] rfl (by decide +kernel) (fun _ => by rfl) (fun hPc hDc => va_runV (As := [.int 0]) (rest := []) ⟨hx, hb, hml, hown, hts⟩ (k_X9_cutTo l D cB cC cI cJ _ a2 a26 0 x18 (n_c tI_0 (by decide)) h_x18) ⟨gcwB hts tw_486 tw_3 tw_483 hd_yX9_cutTo ⟨Nat.le_of_ble_eq_true rfl, Nat.le_of_ble_eq_true rfl⟩, hts _ tw_484, hts _ tw_485⟩ ⟨gblind, va_recv hK hPc (ci := 9) (q0 := 0) rfl rfl, (gpreS hPc hK hDc hN).2⟩ rfl rfl hl.1 rfl (lv_room (Nat.le_of_ble_eq_true rfl)) dX11_on_86 ⟨Nat.le_of_ble_eq_true rfl, Nat.le_of_ble_eq_true rfl⟩) (fun u_8 H locs hw_10 hP hD hS => ?_)
    replace hP : va_P D gcl (zS_56 cB cC cI cJ a0 a1 a2 a3 a4 a5 a6 a7 a8 a9 a10 x0 a11 a12 a13 a12 a14 a15 a16 x1 x2 x3 x4 x5 a14 a17 a17 f0 a16 f1 a13 a18 a19 a20 x6 x7 x8 x9 x10 a18 a21 a21 f2 a20 f3 a11 a22 a23 a24 x11 x12 x13 x14 x15 x16 x17 a22 a25 a25 f4 a2 a26 0 a26 f5 a19 g0 a3 a27 a28 a29 a30 a31 a32 a33 a34 x19 y0 x20 a7 f6) H := hP
    replace hD : va_D A (zS_56 cB cC cI cJ a0 a1 a2 a3 a4 a5 a6 a7 a8 a9 a10 x0 a11 a12 a13 a12 a14 a15 a16 x1 x2 x3 x4 x5 a14 a17 a17 f0 a16 f1 a13 a18 a19 a20 x6 x7 x8 x9 x10 a18 a21 a21 f2 a20 f3 a11 a22 a23 a24 x11 x12 x13 x14 x15 x16 x17 a22 a25 a25 f4 a2 a26 0 a26 f5 a19 g0 a3 a27 a28 a29 a30 a31 a32 a33 a34 x19 y0 x20 a7 f6) := hD
    refine lv_iload_n (pc := 89) hx hb dX11_on_89 rfl (lv_at hl 0 rfl) ?_
    have k8_0 := tI_0
    exact hret r_2 ((fun k => [a12, a13].getD k 0), (fun k => [f2, f3, f6].getD k (fun _ => 0)), (fun k => [g0].getD k (fun _ => 0)), (fun k => [x6, x7, x8, x9, x10, x20].getD k 0), (fun _ => 0)) dX11_on_90 ⟨(by first | exact (om_45 c_7) | (have k8_0 := tI_0; (first | omega | (unfold zBd at *; omega)))), ⟨(show (0 ≤ r_2.toInt ∧ r_2.toInt ≤ 1) from hw_4), (show ((-1) ≤ (x6 : Int32).toInt ∧ (x6 : Int32).toInt ≤ 5) from h_x6), (show (0 ≤ (x7 : Int32).toInt ∧ (x7 : Int32).toInt ≤ 39) from h_x7), (show (0 ≤ (x8 : Int32).toInt ∧ (x8 : Int32).toInt ≤ 40) from h_x8), (show (0 ≤ (x9 : Int32).toInt ∧ (x9 : Int32).toInt ≤ 40) from h_x9), (show ((x8 : Int32).toInt + (x9 : Int32).toInt ≤ 40) from hr_a13_0), (show (0 ≤ (x20 : Int32).toInt ∧ (x20 : Int32).toInt ≤ 1) from h_x20), (show (0 : Int32).toInt = 0 from (by first | exact (om_31 tI_0) | (have k8_0 := tI_0; (first | omega | (unfold zBd at *; omega))))), (show (a12 = a12 ∧ a13 = a13 ∧ (LedOK f0 f1 x2.toInt x3.toInt x4.toInt ∧ XOK f4 f0 f1 x1.toInt x2.toInt x3.toInt x4.toInt x5.toInt ∧ x1.toInt = x12.toInt ∧ onQ9 r_2.toInt (taub f5 x18.toInt) x18.toInt x13.toInt (chP (trT f4) 6 x12.toInt) x3.toInt x4.toInt x5.toInt x3.toInt x4.toInt x5.toInt)) ∨ (a12 = a13 ∧ a13 = a12 ∧ (LedOK f2 f3 x7.toInt x8.toInt x9.toInt ∧ XOK f4 f2 f3 x6.toInt x7.toInt x8.toInt x9.toInt x10.toInt ∧ x6.toInt = x12.toInt ∧ onQ9 r_2.toInt (taub f5 x18.toInt) x18.toInt x13.toInt (chP (trT f4) 6 x12.toInt) x3.toInt x4.toInt x5.toInt x8.toInt x9.toInt x10.toInt)) from Or.inl ⟨rfl, rfl, hg_led, hg_xk, hg_se, on_img (by first | exact (om_31 c_7) | ((first | omega | (unfold zBd at *; omega)))) (ok_no hw_5 (by (first | omega | (unfold zBd at *; omega))))⟩)⟩⟩ (g_psub (wc := (zS_56 cB cC cI cJ a0 a1 a2 a3 a4 a5 a6 a7 a8 a9 a10 x0 a11 a12 a13 a12 a14 a15 a16 x1 x2 x3 x4 x5 a14 a17 a17 f0 a16 f1 a13 a18 a19 a20 x6 x7 x8 x9 x10 a18 a21 a21 f2 a20 f3 a11 a22 a23 a24 x11 x12 x13 x14 x15 x16 x17 a22 a25 a25 f4 a2 a26 0 a26 f5 a19 g0 a3 a27 a28 a29 a30 a31 a32 a33 a34 x19 y0 x20 a7 f6)) hP [0, 1, 2, 3, 4, 5, 6, 7, 8, 9, 10, 11, 12, 13, 14, 15, 16] rfl) (hD.sub (ws' := (zS_56 cB cC cI cJ a0 a1 a2 a3 a4 a5 a6 a7 a8 a9 a10 x0 a11 a12 a13 a12 a14 a15 a16 x1 x2 x3 x4 x5 a14 a17 a17 f0 a16 f1 a13 a18 a19 a20 x6 x7 x8 x9 x10 a18 a21 a21 f2 a20 f3 a11 a22 a23 a24 x11 x12 x13 x14 x15 x16 x17 a22 a25 a25 f4 a2 a26 0 a26 f5 a19 g0 a3 a27 a28 a29 a30 a31 a32 a33 a34 x19 y0 x20 a7 f6)) [0, 1, 2, 3, 4, 5, 6, 7, 8, 9, 10, 11, 12, 13, 14, 15, 16] (by decide) rfl) hS
  ·
    have hh_11 := img_n (ok_yes hw_5 (by (first | omega | (unfold zBd at *; omega))))
    refine lv_aload_n (pc := 9) hx hb dX11_on_9 rfl (lv_at hl 1 rfl) ?_
    refine va_get (pc := 10) (ci := 11) (v := .ref a2) (C := RX11) (T := TX11) (N := 14) hx hb hts iX11 hown hK hP 0 rfl rfl 1 (by decide) (hts _ tw_421) (fun _ h9 => h9) rfl dX11_on_10 ?_
    refine lv_aload_n (pc := 13) hx hb dX11_on_13 rfl (lv_at hl 1 rfl) ?_
    refine va_get (pc := 14) (ci := 11) (v := .ref a2) (C := RX11) (T := TX11) (N := 14) hx hb hts iX11 hown hK hP 0 rfl rfl 1 (by decide) (hts _ tw_421) (fun _ h9 => h9) rfl dX11_on_14 ?_
    refine gd_i (pc := 17) (wc := [(a2, .inr (9, [.ref a26, .int x18]))]) hP hD hS hA [12] rfl (by decide +kernel) (fun _ => by rfl) (fun hPc hDc => va_runV (As := []) (rest := [.ref a2]) ⟨hx, hb, hml, hown, hts⟩ (k_X9_length l D cB cC cI cJ _ a2 a26 x18 h_x18) ⟨gcwB hts tw_478 tw_3 tw_475 hd_yX9_length ⟨Nat.le_of_ble_eq_true rfl, Nat.le_of_ble_eq_true rfl⟩, hts _ tw_476, hts _ tw_477⟩ ⟨gblind, va_recv hK hPc (ci := 9) (q0 := 0) rfl rfl, (gpreS hPc hK hDc hN).2⟩ rfl rfl hl.1 rfl (lv_room (Nat.le_of_ble_eq_true rfl)) dX11_on_17 ⟨Nat.le_of_ble_eq_true rfl, Nat.le_of_ble_eq_true rfl⟩) (fun r_13 u_12 H locs hw_14 hP hD hS => ?_)
    replace hP : va_P D gcl (zS_56 cB cC cI cJ a0 a1 a2 a3 a4 a5 a6 a7 a8 a9 a10 x0 a11 a12 a13 a12 a14 a15 a16 x1 x2 x3 x4 x5 a14 a17 a17 f0 a16 f1 a13 a18 a19 a20 x6 x7 x8 x9 x10 a18 a21 a21 f2 a20 f3 a11 a22 a23 a24 x11 x12 x13 x14 x15 x16 x17 a22 a25 a25 f4 a2 a26 x18 a26 f5 a19 g0 a3 a27 a28 a29 a30 a31 a32 a33 a34 x19 y0 x20 a7 f6) H := hP
    replace hD : va_D A (zS_56 cB cC cI cJ a0 a1 a2 a3 a4 a5 a6 a7 a8 a9 a10 x0 a11 a12 a13 a12 a14 a15 a16 x1 x2 x3 x4 x5 a14 a17 a17 f0 a16 f1 a13 a18 a19 a20 x6 x7 x8 x9 x10 a18 a21 a21 f2 a20 f3 a11 a22 a23 a24 x11 x12 x13 x14 x15 x16 x17 a22 a25 a25 f4 a2 a26 x18 a26 f5 a19 g0 a3 a27 a28 a29 a30 a31 a32 a33 a34 x19 y0 x20 a7 f6) := hD
    have hw_15 : ((r_13.toInt = x18.toInt)) := hw_14
    have rr_13 : zBd r_13.toInt (-2147483648) 2147483647 := n_rng r_13
    refine lv_iconst (pc := 20) (v := 2) hx hb dX11_on_20 (by decide) ?_
    refine b_isub (pc := 21) hx hb rfl tI_2 (by first | exact (om_1993 hw_15 h_x18.1) | ((first | omega | (unfold zBd at *; omega)))) (by first | exact (om_1994 rr_13.2) | ((first | omega | (unfold zBd at *; omega)))) dX11_on_21 (fun x_16 ex_16 => ?_)
    refine gd_i (pc := 22) (wc := [(a2, .inr (9, [.ref a26, .int x18])), (a26, .inl (cB, 1600, .inl f5))]) hP hD hS hA [12, 13] rfl (by decide +kernel) (fun _ => by rfl) (fun hPc hDc => va_runV (As := [.int x_16]) (rest := []) ⟨hx, hb, hml, hown, hts⟩ (k_X9_at_E l D cB cC cI cJ _ a2 a26 x_16 x18 f5 h_x18) ⟨gcwB hts tw_518 tw_3 tw_1394 hd_yX9_at ⟨Nat.le_of_ble_eq_true rfl, Nat.le_of_ble_eq_true rfl⟩, hts _ tw_516, hts _ tw_517⟩ ⟨gblind, va_recv hK hPc (ci := 9) (q0 := 0) rfl rfl, (gpreS hPc hK hDc hN).2⟩ rfl rfl hl.1 rfl (lv_room (Nat.le_of_ble_eq_true rfl)) dX11_on_22 ⟨Nat.le_of_ble_eq_true rfl, Nat.le_of_ble_eq_true rfl⟩) (fun r_18 u_17 H locs hw_19 hP hD hS => ?_)
    replace hP : va_P D gcl (zS_56 cB cC cI cJ a0 a1 a2 a3 a4 a5 a6 a7 a8 a9 a10 x0 a11 a12 a13 a12 a14 a15 a16 x1 x2 x3 x4 x5 a14 a17 a17 f0 a16 f1 a13 a18 a19 a20 x6 x7 x8 x9 x10 a18 a21 a21 f2 a20 f3 a11 a22 a23 a24 x11 x12 x13 x14 x15 x16 x17 a22 a25 a25 f4 a2 a26 x18 a26 f5 a19 g0 a3 a27 a28 a29 a30 a31 a32 a33 a34 x19 y0 x20 a7 f6) H := hP
    replace hD : va_D A (zS_56 cB cC cI cJ a0 a1 a2 a3 a4 a5 a6 a7 a8 a9 a10 x0 a11 a12 a13 a12 a14 a15 a16 x1 x2 x3 x4 x5 a14 a17 a17 f0 a16 f1 a13 a18 a19 a20 x6 x7 x8 x9 x10 a18 a21 a21 f2 a20 f3 a11 a22 a23 a24 x11 x12 x13 x14 x15 x16 x17 a22 a25 a25 f4 a2 a26 x18 a26 f5 a19 g0 a3 a27 a28 a29 a30 a31 a32 a33 a34 x19 y0 x20 a7 f6) := hD
    obtain ⟨hw_20, hw_21⟩ := hw_19
    replace hw_20 : ((r_18.toInt = (-1) ∧ x_16.toInt < 0) ∨ (r_18.toInt = (-1) ∧ x_16.toInt ≥ 0 ∧ x_16.toInt ≥ x18.toInt) ∨ ((0 ≤ r_18.toInt ∧ r_18.toInt ≤ 255) ∧ x_16.toInt ≥ 0 ∧ x_16.toInt < x18.toInt)) := hw_20
    replace hw_21 : (r_18.toInt = taub f5 x18.toInt x_16.toInt) := hw_21
    have rr_18 : zBd r_18.toInt (-2147483648) 2147483647 := n_rng r_18
    have hh_22 : 0 ≤ r_18.toInt ∧ r_18.toInt ≤ 255 := (by have q := hw_21; have q1 := taub_in (f := f5) (n := x18.toInt) (i := (x18.toInt - 2)) (by (first | omega | (unfold zBd at *; omega))) (by (first | omega | (unfold zBd at *; omega))); (first | omega | (unfold zBd at *; omega)))
    refine lv_istore_n (pc := 25) (lv' := [(2, .int r_18), (1, .int r_2), (0, .ref a0)]) hx hb dX11_on_25 rfl hl (by decide) rfl (fun ls hl => ?_)
    refine lv_aload_n (pc := 26) hx hb dX11_on_26 rfl (lv_at hl 2 rfl) ?_
    refine va_get (pc := 27) (ci := 11) (v := .ref a13) (C := RX11) (T := TX11) (N := 14) hx hb hts iX11 hown hK hP 0 rfl rfl 13 (by decide) (hts _ tw_433) (fun _ h9 => h9) rfl dX11_on_27 ?_
    refine lv_aload_n (pc := 30) hx hb dX11_on_30 rfl (lv_at hl 2 rfl) ?_
    refine va_get (pc := 31) (ci := 11) (v := .ref a11) (C := RX11) (T := TX11) (N := 14) hx hb hts iX11 hown hK hP 0 rfl rfl 11 (by decide) (hts _ tw_431) (fun _ h9 => h9) rfl dX11_on_31 ?_
    refine gd_v (pc := 34) (wc := (zS_73 cB cC cI cJ a13 a18 a19 a20 x6 x7 x8 x9 x10 a18 a21 a21 f2 a20 f3 a11 a22 a23 a24 x11 x12 x13 x14 x15 x16 x17 a22 a25 a25 f4 a19 g0)) hP hD hS hA [5, 6, 7, 8, 9, 10, 11, 14] rfl (by decide +kernel) (fun _ => by rfl) (fun hPc hDc => va_runV (As := [.ref a11]) (rest := []) ⟨hx, hb, hml, hown, hts⟩ (k_X2_start_x l D cB cC cI cJ _ a13 a11 a18 a19 a20 a21 a22 a23 a24 a25 x6 x7 x8 x9 x10 x11 x12 x13 x14 x15 x16 x17 f2 f3 f4 g0 h_x6 h_x7 h_x8 h_x9 hr_a13_0 h_x11 h_x12 h_x13 h_x14 h_x15 (hg_tb)) ⟨gcwB hts tw_738 tw_13 tw_735 hd_yX2_start ⟨Nat.le_of_ble_eq_true rfl, Nat.le_of_ble_eq_true rfl⟩, hts _ tw_736, hts _ tw_737⟩ ⟨gblind, va_recv hK hPc (ci := 2) (q0 := 0) rfl rfl, (gpreS hPc hK hDc hN).2⟩ rfl rfl hl.1 rfl (lv_room (Nat.le_of_ble_eq_true rfl)) dX11_on_34 ⟨Nat.le_of_ble_eq_true rfl, Nat.le_of_ble_eq_true rfl⟩) (fun u_23 H locs hw_25 hP hD hS => ?_)
    replace hP : va_P D gcl (zS_56 cB cC cI cJ a0 a1 a2 a3 a4 a5 a6 a7 a8 a9 a10 x0 a11 a12 a13 a12 a14 a15 a16 x1 x2 x3 x4 x5 a14 a17 a17 f0 a16 f1 a13 a18 a19 a20 x12 0 0 0 0 a18 a21 a21 (u_23.2.1 0) a20 f3 a11 a22 a23 a24 x11 x12 x13 x14 x15 x16 x17 a22 a25 a25 f4 a2 a26 x18 a26 f5 a19 (u_23.2.2.1 0) a3 a27 a28 a29 a30 a31 a32 a33 a34 x19 y0 x20 a7 f6) H := hP
    replace hD : va_D A (zS_56 cB cC cI cJ a0 a1 a2 a3 a4 a5 a6 a7 a8 a9 a10 x0 a11 a12 a13 a12 a14 a15 a16 x1 x2 x3 x4 x5 a14 a17 a17 f0 a16 f1 a13 a18 a19 a20 x12 0 0 0 0 a18 a21 a21 (u_23.2.1 0) a20 f3 a11 a22 a23 a24 x11 x12 x13 x14 x15 x16 x17 a22 a25 a25 f4 a2 a26 x18 a26 f5 a19 (u_23.2.2.1 0) a3 a27 a28 a29 a30 a31 a32 a33 a34 x19 y0 x20 a7 f6) := hD
    obtain ⟨hw_26, hw_27, hw_28, hw_29⟩ := hw_25
    replace hw_26 : ((0 : Int32).toInt + (0 : Int32).toInt ≤ 40) := hw_26
    replace hw_27 : (LedOK (u_23.2.1 0) f3 (0 : Int32).toInt (0 : Int32).toInt (0 : Int32).toInt) := hw_27
    replace hw_28 : (XOK f4 (u_23.2.1 0) f3 x12.toInt (0 : Int32).toInt (0 : Int32).toInt (0 : Int32).toInt (0 : Int32).toInt) := hw_28
    replace hw_29 : (x12.toInt = x12.toInt) := hw_29
    refine lv_aload_n (pc := 37) hx hb dX11_on_37 rfl (lv_at hl 2 rfl) ?_
    refine va_get (pc := 38) (ci := 11) (v := .ref a13) (C := RX11) (T := TX11) (N := 14) hx hb hts iX11 hown hK hP 0 rfl rfl 13 (by decide) (hts _ tw_433) (fun _ h9 => h9) rfl dX11_on_38 ?_
    refine lv_iload_n (pc := 41) hx hb dX11_on_41 rfl (lv_at hl 0 rfl) ?_
    refine gd_i (pc := 42) (wc := (zS_19 cB cC cI cJ a13 a18 a19 a20 x12 0 0 0 0 a18 a21 a21 (u_23.2.1 0) a20 f3 a19 (u_23.2.2.1 0))) hP hD hS hA [5, 6, 7, 8, 14] rfl (by decide +kernel) (fun _ => by rfl) (fun hPc hDc => va_runV (As := [.int r_18]) (rest := []) ⟨hx, hb, hml, hown, hts⟩ (k_X2_makeSteps l D cB cC cI cJ _ a13 a18 a19 a20 a21 r_18 x12 0 0 0 0 (u_23.2.1 0) f3 (u_23.2.2.1 0) (by first | exact (om_1476 hh_22.1 hh_22.2) | (have k0 := tI_0; have k1 := tI_0; have k2 := tI_0; have k3 := tI_0; (first | omega | (unfold zBd at *; omega)))) h_x12 (n_c tI_0 (by decide)) (n_c tI_0 (by decide)) (n_c tI_0 (by decide)) hw_26 (hw_27)) ⟨gcwB hts tw_1039 tw_13 tw_1036 hd_yX2_makeSteps ⟨Nat.le_of_ble_eq_true rfl, Nat.le_of_ble_eq_true rfl⟩, hts _ tw_1037, hts _ tw_1038⟩ ⟨gblind, va_recv hK hPc (ci := 2) (q0 := 0) rfl rfl, (gpreS hPc hK hDc hN).2⟩ rfl rfl hl.1 rfl (lv_room (Nat.le_of_ble_eq_true rfl)) dX11_on_42 ⟨Nat.le_of_ble_eq_true rfl, Nat.le_of_ble_eq_true rfl⟩) (fun r_31 u_30 H locs hw_32 hP hD hS => ?_)
    replace hP : va_P D gcl (zS_56 cB cC cI cJ a0 a1 a2 a3 a4 a5 a6 a7 a8 a9 a10 x0 a11 a12 a13 a12 a14 a15 a16 x1 x2 x3 x4 x5 a14 a17 a17 f0 a16 f1 a13 a18 a19 a20 x12 (u_30.2.2.2.1 0) (u_30.2.2.2.1 1) (u_30.2.2.2.1 2) (u_30.2.2.2.1 3) a18 a21 a21 (u_30.2.1 0) a20 (u_30.2.1 1) a11 a22 a23 a24 x11 x12 x13 x14 x15 x16 x17 a22 a25 a25 f4 a2 a26 x18 a26 f5 a19 (u_30.2.2.1 0) a3 a27 a28 a29 a30 a31 a32 a33 a34 x19 y0 x20 a7 f6) H := hP
    replace hD : va_D A (zS_56 cB cC cI cJ a0 a1 a2 a3 a4 a5 a6 a7 a8 a9 a10 x0 a11 a12 a13 a12 a14 a15 a16 x1 x2 x3 x4 x5 a14 a17 a17 f0 a16 f1 a13 a18 a19 a20 x12 (u_30.2.2.2.1 0) (u_30.2.2.2.1 1) (u_30.2.2.2.1 2) (u_30.2.2.2.1 3) a18 a21 a21 (u_30.2.1 0) a20 (u_30.2.1 1) a11 a22 a23 a24 x11 x12 x13 x14 x15 x16 x17 a22 a25 a25 f4 a2 a26 x18 a26 f5 a19 (u_30.2.2.1 0) a3 a27 a28 a29 a30 a31 a32 a33 a34 x19 y0 x20 a7 f6) := hD
    have ru_30_0 : zBd (u_30.2.2.2.1 3).toInt (-2147483648) 2147483647 := n_rng (u_30.2.2.2.1 3)
    obtain ⟨hw_33, hw_34, hw_35, hw_36, hw_37, hw_38, hw_39, hw_40, hw_41, hw_42, hw_43⟩ := hw_32
    replace hw_33 : (0 ≤ r_31.toInt ∧ r_31.toInt ≤ 2147483647) := hw_33
    replace hw_34 : zBd (u_30.2.2.2.1 0).toInt 0 39 := hw_34
    replace hw_35 : zBd (u_30.2.2.2.1 1).toInt 0 40 := hw_35
    replace hw_36 : zBd (u_30.2.2.2.1 2).toInt 0 40 := hw_36
    replace hw_37 : ((u_30.2.2.2.1 1).toInt + (u_30.2.2.2.1 2).toInt ≤ 40) := hw_37
    replace hw_38 : (LedOK (u_30.2.1 0) (u_30.2.1 1) (u_30.2.2.2.1 0).toInt (u_30.2.2.2.1 1).toInt (u_30.2.2.2.1 2).toInt) := hw_38
    replace hw_39 : (0 ≤ r_31.toInt ∧ r_31.toInt ≤ r_18.toInt) := hw_39
    replace hw_40 : ((u_30.2.2.2.1 3).toInt = (0 : Int32).toInt + r_31.toInt) := hw_40
    replace hw_41 : (urQ (0 : Int32).toInt (0 : Int32).toInt (u_30.2.2.2.1 1).toInt (u_30.2.2.2.1 2).toInt r_31.toInt) := hw_41
    replace hw_42 : (∀ T : Nat → Int32, XOK T (u_23.2.1 0) f3 x12.toInt (0 : Int32).toInt (0 : Int32).toInt (0 : Int32).toInt (0 : Int32).toInt → XOK T (u_30.2.1 0) (u_30.2.1 1) x12.toInt (u_30.2.2.2.1 0).toInt (u_30.2.2.2.1 1).toInt (u_30.2.2.2.1 2).toInt (u_30.2.2.2.1 3).toInt) := hw_42
    replace hw_43 : (r_31.toInt = r_18.toInt ∨ 200 ≤ (u_30.2.2.2.1 3).toInt ∨ noq (trT (u_30.2.1 0)) 6 x12.toInt x12.toInt 0) := hw_43
    have kk0_r_31 := tI_0
    have kk1_r_31 := tI_0
    have kk2_r_31 := tI_0
    have kk3_r_31 := tI_0
    have rr_31 : zBd r_31.toInt (-2147483648) 2147483647 := n_rng r_31
    refine lv_iload_n (pc := 45) hx hb dX11_on_45 rfl (lv_at hl 0 rfl) ?_
    refine b_icmp_ne (pc := 46) (tgt := 53) hx hb rfl rfl  dX11_on_46 (by decide) (fun c_44 => ?_) (fun c_44 => ?_)
    ·
      refine lv_iconst (pc := 53) (v := 0) hx hb dX11_on_53 (by decide) ?_
      refine lv_istore_n (pc := 54) (lv' := [(1, .int 0), (2, .int r_18), (0, .ref a0)]) hx hb dX11_on_54 rfl hl (by decide) rfl (fun ls hl => ?_)
      refine lv_iload_n (pc := 55) hx hb dX11_on_55 rfl (lv_at hl 0 rfl) ?_
      refine b_if_eq (pc := 56) (tgt := 81) hx hb tI_0  dX11_on_56 (by decide) (fun c_45 => ?_) (fun c_45 => absurd c_45 (by first | exact (om_27) | ((first | omega | (unfold zBd at *; omega)))))
      refine lv_aload_n (pc := 81) hx hb dX11_on_81 rfl (lv_at hl 2 rfl) ?_
      refine va_get (pc := 82) (ci := 11) (v := .ref a2) (C := RX11) (T := TX11) (N := 14) hx hb hts iX11 hown hK hP 0 rfl rfl 1 (by decide) (hts _ tw_421) (fun _ h9 => h9) rfl dX11_on_82 ?_
      refine lv_iconst (pc := 85) (v := 0) hx hb dX11_on_85 (by decide) ?_
      refine gd_v (pc := 86) (wc := [(a2, .inr (9, [.ref a26, .int x18]))]) hP hD hS hA [12] rfl (by decide +kernel) (fun _ => by rfl) (fun hPc hDc => va_runV (As := [.int 0]) (rest := []) ⟨hx, hb, hml, hown, hts⟩ (k_X9_cutTo l D cB cC cI cJ _ a2 a26 0 x18 (n_c tI_0 (by decide)) h_x18) ⟨gcwB hts tw_486 tw_3 tw_483 hd_yX9_cutTo ⟨Nat.le_of_ble_eq_true rfl, Nat.le_of_ble_eq_true rfl⟩, hts _ tw_484, hts _ tw_485⟩ ⟨gblind, va_recv hK hPc (ci := 9) (q0 := 0) rfl rfl, (gpreS hPc hK hDc hN).2⟩ rfl rfl hl.1 rfl (lv_room (Nat.le_of_ble_eq_true rfl)) dX11_on_86 ⟨Nat.le_of_ble_eq_true rfl, Nat.le_of_ble_eq_true rfl⟩) (fun u_46 H locs hw_48 hP hD hS => ?_)
      replace hP : va_P D gcl (zS_56 cB cC cI cJ a0 a1 a2 a3 a4 a5 a6 a7 a8 a9 a10 x0 a11 a12 a13 a12 a14 a15 a16 x1 x2 x3 x4 x5 a14 a17 a17 f0 a16 f1 a13 a18 a19 a20 x12 (u_30.2.2.2.1 0) (u_30.2.2.2.1 1) (u_30.2.2.2.1 2) (u_30.2.2.2.1 3) a18 a21 a21 (u_30.2.1 0) a20 (u_30.2.1 1) a11 a22 a23 a24 x11 x12 x13 x14 x15 x16 x17 a22 a25 a25 f4 a2 a26 0 a26 f5 a19 (u_30.2.2.1 0) a3 a27 a28 a29 a30 a31 a32 a33 a34 x19 y0 x20 a7 f6) H := hP
      replace hD : va_D A (zS_56 cB cC cI cJ a0 a1 a2 a3 a4 a5 a6 a7 a8 a9 a10 x0 a11 a12 a13 a12 a14 a15 a16 x1 x2 x3 x4 x5 a14 a17 a17 f0 a16 f1 a13 a18 a19 a20 x12 (u_30.2.2.2.1 0) (u_30.2.2.2.1 1) (u_30.2.2.2.1 2) (u_30.2.2.2.1 3) a18 a21 a21 (u_30.2.1 0) a20 (u_30.2.1 1) a11 a22 a23 a24 x11 x12 x13 x14 x15 x16 x17 a22 a25 a25 f4 a2 a26 0 a26 f5 a19 (u_30.2.2.1 0) a3 a27 a28 a29 a30 a31 a32 a33 a34 x19 y0 x20 a7 f6) := hD
      refine lv_iload_n (pc := 89) hx hb dX11_on_89 rfl (lv_at hl 0 rfl) ?_
      have k9 := tI_0
      have k8_0 := tI_0
      exact hret 0 ((fun k => [a12, a13].getD k 0), (fun k => [(u_30.2.1 0), (u_30.2.1 1), f6].getD k (fun _ => 0)), (fun k => [(u_30.2.2.1 0)].getD k (fun _ => 0)), (fun k => [x12, (u_30.2.2.2.1 0), (u_30.2.2.2.1 1), (u_30.2.2.2.1 2), (u_30.2.2.2.1 3), x20].getD k 0), (fun _ => 0)) dX11_on_90 ⟨(Or.inl tI_0), ⟨(show (0 ≤ (0 : Int32).toInt ∧ (0 : Int32).toInt ≤ 1) from (n_c tI_0 (by decide))), (show ((-1) ≤ (x12 : Int32).toInt ∧ (x12 : Int32).toInt ≤ 5) from h_x12), (show (0 ≤ ((u_30.2.2.2.1 0) : Int32).toInt ∧ ((u_30.2.2.2.1 0) : Int32).toInt ≤ 39) from hw_34), (show (0 ≤ ((u_30.2.2.2.1 1) : Int32).toInt ∧ ((u_30.2.2.2.1 1) : Int32).toInt ≤ 40) from hw_35), (show (0 ≤ ((u_30.2.2.2.1 2) : Int32).toInt ∧ ((u_30.2.2.2.1 2) : Int32).toInt ≤ 40) from hw_36), (show (((u_30.2.2.2.1 1) : Int32).toInt + ((u_30.2.2.2.1 2) : Int32).toInt ≤ 40) from hw_37), (show (0 ≤ (x20 : Int32).toInt ∧ (x20 : Int32).toInt ≤ 1) from h_x20), (show (0 : Int32).toInt = 0 from (by first | exact (om_31 tI_0) | (have k9 := tI_0; have k8_0 := tI_0; (first | omega | (unfold zBd at *; omega))))), (show (a12 = a12 ∧ a13 = a13 ∧ (LedOK f0 f1 x2.toInt x3.toInt x4.toInt ∧ XOK f4 f0 f1 x1.toInt x2.toInt x3.toInt x4.toInt x5.toInt ∧ x1.toInt = x12.toInt ∧ onQ9 (0 : Int32).toInt (taub f5 x18.toInt) x18.toInt x13.toInt (chP (trT f4) 6 x12.toInt) x3.toInt x4.toInt x5.toInt x3.toInt x4.toInt x5.toInt)) ∨ (a12 = a13 ∧ a13 = a12 ∧ (LedOK (u_30.2.1 0) (u_30.2.1 1) (u_30.2.2.2.1 0).toInt (u_30.2.2.2.1 1).toInt (u_30.2.2.2.1 2).toInt ∧ XOK f4 (u_30.2.1 0) (u_30.2.1 1) x12.toInt (u_30.2.2.2.1 0).toInt (u_30.2.2.2.1 1).toInt (u_30.2.2.2.1 2).toInt (u_30.2.2.2.1 3).toInt ∧ x12.toInt = x12.toInt ∧ onQ9 (0 : Int32).toInt (taub f5 x18.toInt) x18.toInt x13.toInt (chP (trT f4) 6 x12.toInt) x3.toInt x4.toInt x5.toInt (u_30.2.2.2.1 1).toInt (u_30.2.2.2.1 2).toInt (u_30.2.2.2.1 3).toInt)) from Or.inl ⟨rfl, rfl, hg_led, hg_xk, hg_se, on_noX (by first | exact (om_31 tI_0) | ((first | omega | (unfold zBd at *; omega)))) hw_21 (by (first | omega | (unfold zBd at *; omega))) (hw_42 _ hw_28) hw_43 (by first | exact (om_112 c_44) | ((first | omega | (unfold zBd at *; omega)))) (by first | exact (om_635 hw_39.2) | ((first | omega | (unfold zBd at *; omega)))) hw_40 (by first | exact (om_31 tI_0) | ((first | omega | (unfold zBd at *; omega)))) (by first | exact (om_372 h_x12.2) | ((first | omega | (unfold zBd at *; omega))))⟩)⟩⟩ (g_psub (wc := (zS_56 cB cC cI cJ a0 a1 a2 a3 a4 a5 a6 a7 a8 a9 a10 x0 a11 a12 a13 a12 a14 a15 a16 x1 x2 x3 x4 x5 a14 a17 a17 f0 a16 f1 a13 a18 a19 a20 x12 (u_30.2.2.2.1 0) (u_30.2.2.2.1 1) (u_30.2.2.2.1 2) (u_30.2.2.2.1 3) a18 a21 a21 (u_30.2.1 0) a20 (u_30.2.1 1) a11 a22 a23 a24 x11 x12 x13 x14 x15 x16 x17 a22 a25 a25 f4 a2 a26 0 a26 f5 a19 (u_30.2.2.1 0) a3 a27 a28 a29 a30 a31 a32 a33 a34 x19 y0 x20 a7 f6)) hP [0, 1, 2, 3, 4, 5, 6, 7, 8, 9, 10, 11, 12, 13, 14, 15, 16] rfl) (hD.sub (ws' := (zS_56 cB cC cI cJ a0 a1 a2 a3 a4 a5 a6 a7 a8 a9 a10 x0 a11 a12 a13 a12 a14 a15 a16 x1 x2 x3 x4 x5 a14 a17 a17 f0 a16 f1 a13 a18 a19 a20 x12 (u_30.2.2.2.1 0) (u_30.2.2.2.1 1) (u_30.2.2.2.1 2) (u_30.2.2.2.1 3) a18 a21 a21 (u_30.2.1 0) a20 (u_30.2.1 1) a11 a22 a23 a24 x11 x12 x13 x14 x15 x16 x17 a22 a25 a25 f4 a2 a26 0 a26 f5 a19 (u_30.2.2.1 0) a3 a27 a28 a29 a30 a31 a32 a33 a34 x19 y0 x20 a7 f6)) [0, 1, 2, 3, 4, 5, 6, 7, 8, 9, 10, 11, 12, 13, 14, 15, 16] (by decide) rfl) hS
    ·
      refine lv_iconst (pc := 49) (v := 1) hx hb dX11_on_49 (by decide) ?_
      refine lv_goto (pc := 50) (tgt := 54) hx hb dX11_on_50 (by decide) ?_
      refine lv_istore_n (pc := 54) (lv' := [(1, .int 1), (2, .int r_18), (0, .ref a0)]) hx hb dX11_on_54 rfl hl (by decide) rfl (fun ls hl => ?_)
      refine lv_iload_n (pc := 55) hx hb dX11_on_55 rfl (lv_at hl 0 rfl) ?_
      refine b_if_eq (pc := 56) (tgt := 81) hx hb tI_1  dX11_on_56 (by decide) (fun c_49 => absurd c_49 (by first | exact (om_26) | ((first | omega | (unfold zBd at *; omega))))) (fun c_49 => ?_)
      refine lv_aload_n (pc := 59) hx hb dX11_on_59 rfl (lv_at hl 2 rfl) ?_
      refine gd_v (pc := 60) (wc := (zS_127 cB cC cI cJ a0 a1 a2 a3 a4 a5 a6 a7 a8 a9 a10 x0 a11 a12 a13 a11 a22 a23 a24 x11 x12 x13 x14 x15 x16 x17 a3 a27 a28 a29 a30 a31 a32 a33 a34 x19 y0 x20 a2 a26 x18 a26 f5 a7 f6)) hP hD hS hA [0, 9, 15, 12, 13, 16] rfl (by decide +kernel) (fun _ => by rfl) (fun hPc hDc => va_runV (As := []) (rest := []) ⟨hx, hb, hml, hown, hts⟩ (k_X11_takeHeard l D cB cC cI cJ _ a0 a1 a2 a3 a4 a5 a6 a7 a8 a9 a10 a11 a12 a13 a22 a23 a24 a27 a28 a29 a30 a31 a32 a33 a34 a26 x0 x11 x12 x13 x14 x15 x16 x17 x19 x20 x18 y0 f5 f6 h_x0 h_x11 h_x12 h_x13 h_x14 h_x15 h_x19 h_x20 h_x18) ⟨gcwB hts tw_808 tw_1 tw_805 hd_yX11_takeHeard ⟨Nat.le_of_ble_eq_true rfl, Nat.le_of_ble_eq_true rfl⟩, hts _ tw_807, hts _ tp_29⟩ ⟨gblind, va_recv hK hPc (ci := 11) (q0 := 0) rfl rfl, (gpreS hPc hK hDc hN).2⟩ rfl rfl hl.1 rfl (lv_room (Nat.le_of_ble_eq_true rfl)) dX11_on_60 ⟨Nat.le_of_ble_eq_true rfl, Nat.le_of_ble_eq_true rfl⟩) (fun u_50 H locs hw_52 hP hD hS => ?_)
      replace hP : va_P D gcl (zS_56 cB cC cI cJ a0 a1 a2 a3 a4 a5 a6 a7 a8 a9 a10 x0 a11 a12 a13 a12 a14 a15 a16 x1 x2 x3 x4 x5 a14 a17 a17 f0 a16 f1 a13 a18 a19 a20 x12 (u_30.2.2.2.1 0) (u_30.2.2.2.1 1) (u_30.2.2.2.1 2) (u_30.2.2.2.1 3) a18 a21 a21 (u_30.2.1 0) a20 (u_30.2.1 1) a11 a22 a23 a24 x11 x12 x13 x14 x15 x16 x17 a22 a25 a25 f4 a2 a26 x18 a26 f5 a19 (u_30.2.2.1 0) a3 a27 a28 a29 a30 a31 a32 a33 a34 x19 y0 0 a7 (u_50.2.1 0)) H := hP
      replace hD : va_D A (zS_56 cB cC cI cJ a0 a1 a2 a3 a4 a5 a6 a7 a8 a9 a10 x0 a11 a12 a13 a12 a14 a15 a16 x1 x2 x3 x4 x5 a14 a17 a17 f0 a16 f1 a13 a18 a19 a20 x12 (u_30.2.2.2.1 0) (u_30.2.2.2.1 1) (u_30.2.2.2.1 2) (u_30.2.2.2.1 3) a18 a21 a21 (u_30.2.1 0) a20 (u_30.2.1 1) a11 a22 a23 a24 x11 x12 x13 x14 x15 x16 x17 a22 a25 a25 f4 a2 a26 x18 a26 f5 a19 (u_30.2.2.1 0) a3 a27 a28 a29 a30 a31 a32 a33 a34 x19 y0 0 a7 (u_50.2.1 0)) := hD
      have hw_53 : ((((-1) ≤ x13.toInt ∧ x13.toInt ≤ 6))) := hw_52
      refine lv_aload_n (pc := 63) hx hb dX11_on_63 rfl (lv_at hl 2 rfl) ?_
      refine va_get (pc := 64) (ci := 11) (v := .ref a12) (C := RX11) (T := TX11) (N := 14) hx hb hts iX11 hown hK hP 0 rfl rfl 12 (by decide) (hts _ tw_432) (fun _ h9 => h9) rfl dX11_on_64 ?_
      refine lv_astore_n (pc := 67) (lv' := [(2, .ref a12), (1, .int 1), (0, .ref a0)]) hx hb dX11_on_67 rfl hl (by decide) rfl (fun ls hl => ?_)
      refine lv_aload_n (pc := 68) hx hb dX11_on_68 rfl (lv_at hl 2 rfl) ?_
      refine lv_aload_n (pc := 69) hx hb dX11_on_69 rfl (lv_at hl 2 rfl) ?_
      refine va_get (pc := 70) (ci := 11) (v := .ref a13) (C := RX11) (T := TX11) (N := 14) hx hb hts iX11 hown hK hP 0 rfl rfl 13 (by decide) (hts _ tw_433) (fun _ h9 => h9) rfl dX11_on_70 ?_
      refine va_put (pc := 73) (ci := 11) (v := .ref a13) (ty := (.object "ManyOut$Led")) (C := RX11) (T := TX11) (N := 14) hx hb hts iX11 tyX11 tyX11_ok nmX11 hown hK hP hD hS 0 rfl rfl 12 (by decide) (hts _ tw_432) (fun _ h9 => h9) rfl (by decide +kernel) rfl rfl (Nat.le_of_ble_eq_true rfl) dX11_on_73 (fun H locs hP hD hS => ?_)
      replace hP : va_P D gcl (zS_56 cB cC cI cJ a0 a1 a2 a3 a4 a5 a6 a7 a8 a9 a10 x0 a11 a13 a13 a12 a14 a15 a16 x1 x2 x3 x4 x5 a14 a17 a17 f0 a16 f1 a13 a18 a19 a20 x12 (u_30.2.2.2.1 0) (u_30.2.2.2.1 1) (u_30.2.2.2.1 2) (u_30.2.2.2.1 3) a18 a21 a21 (u_30.2.1 0) a20 (u_30.2.1 1) a11 a22 a23 a24 x11 x12 x13 x14 x15 x16 x17 a22 a25 a25 f4 a2 a26 x18 a26 f5 a19 (u_30.2.2.1 0) a3 a27 a28 a29 a30 a31 a32 a33 a34 x19 y0 0 a7 (u_50.2.1 0)) H := hP
      replace hD : va_D A (zS_56 cB cC cI cJ a0 a1 a2 a3 a4 a5 a6 a7 a8 a9 a10 x0 a11 a13 a13 a12 a14 a15 a16 x1 x2 x3 x4 x5 a14 a17 a17 f0 a16 f1 a13 a18 a19 a20 x12 (u_30.2.2.2.1 0) (u_30.2.2.2.1 1) (u_30.2.2.2.1 2) (u_30.2.2.2.1 3) a18 a21 a21 (u_30.2.1 0) a20 (u_30.2.1 1) a11 a22 a23 a24 x11 x12 x13 x14 x15 x16 x17 a22 a25 a25 f4 a2 a26 x18 a26 f5 a19 (u_30.2.2.1 0) a3 a27 a28 a29 a30 a31 a32 a33 a34 x19 y0 0 a7 (u_50.2.1 0)) := hD
      refine lv_aload_n (pc := 76) hx hb dX11_on_76 rfl (lv_at hl 2 rfl) ?_
      refine lv_aload_n (pc := 77) hx hb dX11_on_77 rfl (lv_at hl 0 rfl) ?_
      refine va_put (pc := 78) (ci := 11) (v := .ref a12) (ty := (.object "ManyOut$Led")) (C := RX11) (T := TX11) (N := 14) hx hb hts iX11 tyX11 tyX11_ok nmX11 hown hK hP hD hS 0 rfl rfl 13 (by decide) (hts _ tw_433) (fun _ h9 => h9) rfl (by decide +kernel) rfl rfl (Nat.le_of_ble_eq_true rfl) dX11_on_78 (fun H locs hP hD hS => ?_)
      replace hP : va_P D gcl (zS_56 cB cC cI cJ a0 a1 a2 a3 a4 a5 a6 a7 a8 a9 a10 x0 a11 a13 a12 a12 a14 a15 a16 x1 x2 x3 x4 x5 a14 a17 a17 f0 a16 f1 a13 a18 a19 a20 x12 (u_30.2.2.2.1 0) (u_30.2.2.2.1 1) (u_30.2.2.2.1 2) (u_30.2.2.2.1 3) a18 a21 a21 (u_30.2.1 0) a20 (u_30.2.1 1) a11 a22 a23 a24 x11 x12 x13 x14 x15 x16 x17 a22 a25 a25 f4 a2 a26 x18 a26 f5 a19 (u_30.2.2.1 0) a3 a27 a28 a29 a30 a31 a32 a33 a34 x19 y0 0 a7 (u_50.2.1 0)) H := hP
      replace hD : va_D A (zS_56 cB cC cI cJ a0 a1 a2 a3 a4 a5 a6 a7 a8 a9 a10 x0 a11 a13 a12 a12 a14 a15 a16 x1 x2 x3 x4 x5 a14 a17 a17 f0 a16 f1 a13 a18 a19 a20 x12 (u_30.2.2.2.1 0) (u_30.2.2.2.1 1) (u_30.2.2.2.1 2) (u_30.2.2.2.1 3) a18 a21 a21 (u_30.2.1 0) a20 (u_30.2.1 1) a11 a22 a23 a24 x11 x12 x13 x14 x15 x16 x17 a22 a25 a25 f4 a2 a26 x18 a26 f5 a19 (u_30.2.2.1 0) a3 a27 a28 a29 a30 a31 a32 a33 a34 x19 y0 0 a7 (u_50.2.1 0)) := hD
      refine lv_aload_n (pc := 81) hx hb dX11_on_81 rfl (lv_at hl 2 rfl) ?_
      refine va_get (pc := 82) (ci := 11) (v := .ref a2) (C := RX11) (T := TX11) (N := 14) hx hb hts iX11 hown hK hP 0 rfl rfl 1 (by decide) (hts _ tw_421) (fun _ h9 => h9) rfl dX11_on_82 ?_
      refine lv_iconst (pc := 85) (v := 0) hx hb dX11_on_85 (by decide) ?_
      refine gd_v (pc := 86) (wc := [(a2, .inr (9, [.ref a26, .int x18]))]) hP hD hS hA [12] rfl (by decide +kernel) (fun _ => by rfl) (fun hPc hDc => va_runV (As := [.int 0]) (rest := []) ⟨hx, hb, hml, hown, hts⟩ (k_X9_cutTo l D cB cC cI cJ _ a2 a26 0 x18 (n_c tI_0 (by decide)) h_x18) ⟨gcwB hts tw_486 tw_3 tw_483 hd_yX9_cutTo ⟨Nat.le_of_ble_eq_true rfl, Nat.le_of_ble_eq_true rfl⟩, hts _ tw_484, hts _ tw_485⟩ ⟨gblind, va_recv hK hPc (ci := 9) (q0 := 0) rfl rfl, (gpreS hPc hK hDc hN).2⟩ rfl rfl hl.1 rfl (lv_room (Nat.le_of_ble_eq_true rfl)) dX11_on_86 ⟨Nat.le_of_ble_eq_true rfl, Nat.le_of_ble_eq_true rfl⟩) (fun u_54 H locs hw_56 hP hD hS => ?_)
      replace hP : va_P D gcl (zS_56 cB cC cI cJ a0 a1 a2 a3 a4 a5 a6 a7 a8 a9 a10 x0 a11 a13 a12 a12 a14 a15 a16 x1 x2 x3 x4 x5 a14 a17 a17 f0 a16 f1 a13 a18 a19 a20 x12 (u_30.2.2.2.1 0) (u_30.2.2.2.1 1) (u_30.2.2.2.1 2) (u_30.2.2.2.1 3) a18 a21 a21 (u_30.2.1 0) a20 (u_30.2.1 1) a11 a22 a23 a24 x11 x12 x13 x14 x15 x16 x17 a22 a25 a25 f4 a2 a26 0 a26 f5 a19 (u_30.2.2.1 0) a3 a27 a28 a29 a30 a31 a32 a33 a34 x19 y0 0 a7 (u_50.2.1 0)) H := hP
      replace hD : va_D A (zS_56 cB cC cI cJ a0 a1 a2 a3 a4 a5 a6 a7 a8 a9 a10 x0 a11 a13 a12 a12 a14 a15 a16 x1 x2 x3 x4 x5 a14 a17 a17 f0 a16 f1 a13 a18 a19 a20 x12 (u_30.2.2.2.1 0) (u_30.2.2.2.1 1) (u_30.2.2.2.1 2) (u_30.2.2.2.1 3) a18 a21 a21 (u_30.2.1 0) a20 (u_30.2.1 1) a11 a22 a23 a24 x11 x12 x13 x14 x15 x16 x17 a22 a25 a25 f4 a2 a26 0 a26 f5 a19 (u_30.2.2.1 0) a3 a27 a28 a29 a30 a31 a32 a33 a34 x19 y0 0 a7 (u_50.2.1 0)) := hD
      refine lv_iload_n (pc := 89) hx hb dX11_on_89 rfl (lv_at hl 1 rfl) ?_
      have k9 := tI_1
      have k8_0 := tI_0
      exact hret 1 ((fun k => [a13, a12].getD k 0), (fun k => [(u_30.2.1 0), (u_30.2.1 1), (u_50.2.1 0)].getD k (fun _ => 0)), (fun k => [(u_30.2.2.1 0)].getD k (fun _ => 0)), (fun k => [x12, (u_30.2.2.2.1 0), (u_30.2.2.2.1 1), (u_30.2.2.2.1 2), (u_30.2.2.2.1 3), 0].getD k 0), (fun _ => 0)) dX11_on_90 ⟨(Or.inr tI_1), ⟨(show (0 ≤ (1 : Int32).toInt ∧ (1 : Int32).toInt ≤ 1) from (n_c tI_1 (by decide))), (show ((-1) ≤ (x12 : Int32).toInt ∧ (x12 : Int32).toInt ≤ 5) from h_x12), (show (0 ≤ ((u_30.2.2.2.1 0) : Int32).toInt ∧ ((u_30.2.2.2.1 0) : Int32).toInt ≤ 39) from hw_34), (show (0 ≤ ((u_30.2.2.2.1 1) : Int32).toInt ∧ ((u_30.2.2.2.1 1) : Int32).toInt ≤ 40) from hw_35), (show (0 ≤ ((u_30.2.2.2.1 2) : Int32).toInt ∧ ((u_30.2.2.2.1 2) : Int32).toInt ≤ 40) from hw_36), (show (((u_30.2.2.2.1 1) : Int32).toInt + ((u_30.2.2.2.1 2) : Int32).toInt ≤ 40) from hw_37), (show (0 ≤ (0 : Int32).toInt ∧ (0 : Int32).toInt ≤ 1) from (n_c tI_0 (by decide))), (show (0 : Int32).toInt = 0 from (by first | exact (om_31 tI_0) | (have k9 := tI_1; have k8_0 := tI_0; (first | omega | (unfold zBd at *; omega))))), (show (a13 = a12 ∧ a12 = a13 ∧ (LedOK f0 f1 x2.toInt x3.toInt x4.toInt ∧ XOK f4 f0 f1 x1.toInt x2.toInt x3.toInt x4.toInt x5.toInt ∧ x1.toInt = x12.toInt ∧ onQ9 (1 : Int32).toInt (taub f5 x18.toInt) x18.toInt x13.toInt (chP (trT f4) 6 x12.toInt) x3.toInt x4.toInt x5.toInt x3.toInt x4.toInt x5.toInt)) ∨ (a13 = a13 ∧ a12 = a12 ∧ (LedOK (u_30.2.1 0) (u_30.2.1 1) (u_30.2.2.2.1 0).toInt (u_30.2.2.2.1 1).toInt (u_30.2.2.2.1 2).toInt ∧ XOK f4 (u_30.2.1 0) (u_30.2.1 1) x12.toInt (u_30.2.2.2.1 0).toInt (u_30.2.2.2.1 1).toInt (u_30.2.2.2.1 2).toInt (u_30.2.2.2.1 3).toInt ∧ x12.toInt = x12.toInt ∧ onQ9 (1 : Int32).toInt (taub f5 x18.toInt) x18.toInt x13.toInt (chP (trT f4) 6 x12.toInt) x3.toInt x4.toInt x5.toInt (u_30.2.2.2.1 1).toInt (u_30.2.2.2.1 2).toInt (u_30.2.2.2.1 3).toInt)) from Or.inr ⟨rfl, rfl, hw_38, hw_42 _ hw_28, hw_29, on_yesX (by first | exact (om_28 tI_1) | ((first | omega | (unfold zBd at *; omega)))) (ok_yes hw_5 (by (first | omega | (unfold zBd at *; omega)))) hw_21 (by (first | omega | (unfold zBd at *; omega))) (hw_42 _ hw_28) hw_41 (by first | exact (om_1995 tI_0) | ((first | omega | (unfold zBd at *; omega)))) (by first | exact (om_41 c_44) | ((first | omega | (unfold zBd at *; omega)))) hw_40⟩)⟩⟩ (g_psub (wc := (zS_56 cB cC cI cJ a0 a1 a2 a3 a4 a5 a6 a7 a8 a9 a10 x0 a11 a13 a12 a12 a14 a15 a16 x1 x2 x3 x4 x5 a14 a17 a17 f0 a16 f1 a13 a18 a19 a20 x12 (u_30.2.2.2.1 0) (u_30.2.2.2.1 1) (u_30.2.2.2.1 2) (u_30.2.2.2.1 3) a18 a21 a21 (u_30.2.1 0) a20 (u_30.2.1 1) a11 a22 a23 a24 x11 x12 x13 x14 x15 x16 x17 a22 a25 a25 f4 a2 a26 0 a26 f5 a19 (u_30.2.2.1 0) a3 a27 a28 a29 a30 a31 a32 a33 a34 x19 y0 0 a7 (u_50.2.1 0))) hP [0, 1, 2, 3, 4, 5, 6, 7, 8, 9, 10, 11, 12, 13, 14, 15, 16] rfl) (hD.sub (ws' := (zS_56 cB cC cI cJ a0 a1 a2 a3 a4 a5 a6 a7 a8 a9 a10 x0 a11 a13 a12 a12 a14 a15 a16 x1 x2 x3 x4 x5 a14 a17 a17 f0 a16 f1 a13 a18 a19 a20 x12 (u_30.2.2.2.1 0) (u_30.2.2.2.1 1) (u_30.2.2.2.1 2) (u_30.2.2.2.1 3) a18 a21 a21 (u_30.2.1 0) a20 (u_30.2.1 1) a11 a22 a23 a24 x11 x12 x13 x14 x15 x16 x17 a22 a25 a25 f4 a2 a26 0 a26 f5 a19 (u_30.2.2.1 0) a3 a27 a28 a29 a30 a31 a32 a33 a34 x19 y0 0 a7 (u_50.2.1 0))) [0, 1, 2, 3, 4, 5, 6, 7, 8, 9, 10, 11, 12, 13, 14, 15, 16] (by decide) rfl) hS
