set_option maxHeartbeats 4000000 in
set_option maxRecDepth 100000 in
theorem k_J0_coder_7d493 (l : Launch) (D : va_G) (cB cC cI cJ : ClassId) (sz : Nat) (adK adV : Nat → Nat) (i : Nat) (hi : i < 15) : Met l yJ0_coder_7d493 (.code yJ0_coder_7d493 cJ0_coder_7d493 1 (some .byte) :: lw_gd) ({ frames := 0, cells := 0, slots := 0, locals := 0 }) (gPreT D [(cB, .byte), (cC, .char), (cI, .int), (cJ, .long)] [.ref (adK i)] [] sz adK adV) (va_Qi (fun r u => (0 ≤ r.toInt ∧ r.toInt ≤ 0)) (gB D (va_A [] sz) (fun u : gEx => [])) (va_A [] sz)) 0 0 (va_A [] sz) := by
  refine gOfT_b (by decide +kernel) (Nat.le_of_ble_eq_true rfl) ?_
  intro p e s m args below meth c ls A Q hx hb hts hown hml hN hK hP hD hA hl hF hret
  have hlen := s_len hi
  have hown : s.vm.findClass RJ0 = some m.cls := hown
  have hS : va_S A s.heap s.heap [] := va_S.rf
  have hP : va_P D gcl [] s.heap := hP
  have hl : lv_has ls 1 [(0, .ref (adK i))] := hl
  refine va_gets (pc := 0) (v := .int 1) hx hb hF.2.2.1 hS hown (hts _ tw_561) (fun _ h9 => h9) dJ0_coder_7d493_0 ?_
  refine b_if_eq (pc := 3) (tgt := 13) hx hb tI_1  dJ0_coder_7d493_3 (by decide) (fun c_1 => absurd c_1 (by omega)) (fun c_1 => ?_)
  refine lv_aload_n (pc := 6) hx hb dJ0_coder_7d493_6 rfl (lv_at hl 0 rfl) ?_
  refine vk_getf (pc := 7) (v := .int 0) hx hb (hF.1.1 i hi).2.1 hS hown (hts _ tw_2111) (fun _ h9 => h9) dJ0_coder_7d493_7 ?_
  refine lv_goto (pc := 10) (tgt := 14) hx hb dJ0_coder_7d493_10 (by decide) ?_
  exact hret 0 ((fun _ => 0), (fun _ => (fun _ => 0)), (fun _ => (fun _ => 0)), (fun _ => 0), (fun _ => 0)) dJ0_coder_7d493_14 ⟨(by have k9 := tI_0; omega), (show (0 ≤ (0 : Int32).toInt ∧ (0 : Int32).toInt ≤ 0) from (n_c tI_0 (by decide)))⟩ (g_psub (wc := []) hP [] rfl) (hD.sub (ws' := []) [] (by decide) rfl) hS
set_option maxHeartbeats 4000000 in
set_option maxRecDepth 100000 in
theorem k_J0_length_8abf5 (l : Launch) (D : va_G) (cB cC cI cJ : ClassId) (sz : Nat) (adK adV : Nat → Nat) (i : Nat) (hi : i < 15) : Met l yJ0_length_8abf5 (.code yJ0_length_8abf5 cJ0_length_8abf5 1 (some .int) :: lw_gd) ({ frames := 1, cells := 0, slots := 0, locals := 20 }) (gPreT D [(cB, .byte), (cC, .char), (cI, .int), (cJ, .long)] [.ref (adK i)] [] sz adK adV) (va_Qi (fun r u => (0 ≤ r.toInt ∧ r.toInt ≤ 6) ∧ (r.toInt = ((lenS.getD i 0 : Nat) : Int))) (gB D (va_A [] sz) (fun u : gEx => [])) (va_A [] sz)) 0 0 (va_A [] sz) := by
  refine gOfT_i (by decide +kernel) (Nat.le_of_ble_eq_true rfl) ?_
  intro p e s m args below meth c ls A Q hx hb hts hown hml hN hK hP hD hA hl hF hret
  have hlen := s_len hi
  have hown : s.vm.findClass RJ0 = some m.cls := hown
  have hS : va_S A s.heap s.heap [] := va_S.rf
  have hP : va_P D gcl [] s.heap := hP
  have hl : lv_has ls 1 [(0, .ref (adK i))] := hl
  refine lv_aload_n (pc := 0) hx hb dJ0_length_8abf5_0 rfl (lv_at hl 0 rfl) ?_
  refine vk_getf (pc := 1) (v := .ref (adV i)) hx hb (hF.1.1 i hi).2.2.1 hS hown (hts _ tw_2110) (fun _ h9 => h9) dJ0_length_8abf5_1 ?_
  refine va_tlen (pc := 4) hx hb (hF.1.1 i hi).2.2.2 hS rfl dJ0_length_8abf5_4 ?_
  refine lv_aload_n (pc := 5) hx hb dJ0_length_8abf5_5 rfl (lv_at hl 0 rfl) ?_
  refine gc_i (pc := 6) (wc := []) (wr := []) hP hD hS hA [] [] rfl rfl (by decide) (by decide) (by decide) (fun hPc hDc => va_runV (As := []) (rest := [.int (Int32.ofNat (lenS.getD i 0))]) ⟨hx, hb, hml, hown, hts⟩ (k_J0_coder_7d493 l D cB cC cI cJ _ adK adV i hi) ⟨gcwB hts tw_560 tw_15 tw_557 hd_yJ0_coder_7d493 ⟨Nat.le_of_ble_eq_true rfl, Nat.le_of_ble_eq_true rfl⟩, hts _ tw_558, hts _ tw_559⟩ ⟨gblindT, vk_recv hF.1 hi hS, (gpreT hPc hK hDc hN hF hS (va_free (wc := []) hD hS hA [] rfl)).2⟩ rfl rfl hl.1 rfl (lv_room (Nat.le_of_ble_eq_true rfl)) dJ0_length_8abf5_6 ⟨Nat.le_of_ble_eq_true rfl, Nat.le_of_ble_eq_true rfl⟩) (fun r_2 u_1 H locs hw_3 hP hD hS => ?_)
  have hP : va_P D gcl [] H := hP
  have hD : va_D A [] := hD
  have hw_4 : (0 ≤ r_2.toInt ∧ r_2.toInt ≤ 0) := hw_3
  have rr_2 := n_rng r_2
  have h_5 : r_2 = 0 := Int32.toInt_inj.mp ((show r_2.toInt = 0 by omega).trans tI_0.symm)
  subst h_5
  refine lv_ishr (pc := 9) hx hb dJ0_length_8abf5_9 ?_
  refine gI (y := (Int32.ofNat (lenS.getD i 0))) (s_shr hi) ?_
  exact hret (Int32.ofNat (lenS.getD i 0)) ((fun _ => 0), (fun _ => (fun _ => 0)), (fun _ => (fun _ => 0)), (fun _ => 0), (fun _ => 0)) dJ0_length_8abf5_10 ⟨(show (0 ≤ (Int32.ofNat (lenS.getD i 0)).toInt ∧ (Int32.ofNat (lenS.getD i 0)).toInt ≤ 6) by omega), (show (Int32.ofNat (lenS.getD i 0)).toInt = ((lenS.getD i 0 : Nat) : Int) by omega)⟩ (g_psub (wc := []) hP [] rfl) (hD.sub (ws' := []) [] (by decide) rfl) hS
set_option maxHeartbeats 4000000 in
set_option maxRecDepth 100000 in
theorem k_J0_isLatin1_aae02 (l : Launch) (D : va_G) (cB cC cI cJ : ClassId) (sz : Nat) (adK adV : Nat → Nat) (i : Nat) (hi : i < 15) : Met l yJ0_isLatin1_aae02 (.code yJ0_isLatin1_aae02 cJ0_isLatin1_aae02 1 (some .boolean) :: lw_gd) ({ frames := 0, cells := 0, slots := 0, locals := 0 }) (gPreT D [(cB, .byte), (cC, .char), (cI, .int), (cJ, .long)] [.ref (adK i)] [] sz adK adV) (va_Qi (fun r u => (1 ≤ r.toInt ∧ r.toInt ≤ 1) ∧ (r.toInt = 1)) (gB D (va_A [] sz) (fun u : gEx => [])) (va_A [] sz)) 0 0 (va_A [] sz) := by
  refine gOfT_z (by decide +kernel) (Nat.le_of_ble_eq_true rfl) ?_
  intro p e s m args below meth c ls A Q hx hb hts hown hml hN hK hP hD hA hl hF hret
  have hlen := s_len hi
  have hown : s.vm.findClass RJ0 = some m.cls := hown
  have hS : va_S A s.heap s.heap [] := va_S.rf
  have hP : va_P D gcl [] s.heap := hP
  have hl : lv_has ls 1 [(0, .ref (adK i))] := hl
  refine va_gets (pc := 0) (v := .int 1) hx hb hF.2.2.1 hS hown (hts _ tw_561) (fun _ h9 => h9) dJ0_isLatin1_aae02_0 ?_
  refine b_if_eq (pc := 3) (tgt := 17) hx hb tI_1  dJ0_isLatin1_aae02_3 (by decide) (fun c_1 => absurd c_1 (by omega)) (fun c_1 => ?_)
  refine lv_aload_n (pc := 6) hx hb dJ0_isLatin1_aae02_6 rfl (lv_at hl 0 rfl) ?_
  refine vk_getf (pc := 7) (v := .int 0) hx hb (hF.1.1 i hi).2.1 hS hown (hts _ tw_2111) (fun _ h9 => h9) dJ0_isLatin1_aae02_7 ?_
  refine b_if_ne (pc := 10) (tgt := 17) hx hb tI_0  dJ0_isLatin1_aae02_10 (by decide) (fun c_2 => absurd c_2 (by omega)) (fun c_2 => ?_)
  refine lv_iconst (pc := 13) (v := 1) hx hb dJ0_isLatin1_aae02_13 (by decide) ?_
  refine lv_goto (pc := 14) (tgt := 18) hx hb dJ0_isLatin1_aae02_14 (by decide) ?_
  have k9 := tI_1
  exact hret 1 ((fun _ => 0), (fun _ => (fun _ => 0)), (fun _ => (fun _ => 0)), (fun _ => 0), (fun _ => 0)) dJ0_isLatin1_aae02_18 ⟨(by have k9 := tI_1; omega), ⟨(show (1 ≤ (1 : Int32).toInt ∧ (1 : Int32).toInt ≤ 1) from (n_c tI_1 (by decide))), (show (1 : Int32).toInt = 1 by have k9 := tI_1; omega)⟩⟩ (g_psub (wc := []) hP [] rfl) (hD.sub (ws' := []) [] (by decide) rfl) hS
set_option maxHeartbeats 4000000 in
set_option maxRecDepth 100000 in
theorem k_J3_checkIndex_8e157_n (l : Launch) (D : va_G) (cB cC cI cJ : ClassId) (sz : Nat) (x0 x1 : Int32) (hg__k : 0 ≤ x0.toInt ∧ x0.toInt < x1.toInt) : Met l yJ3_checkIndex_8e157 (.code yJ3_checkIndex_8e157 cJ3_checkIndex_8e157 3 (some .int) :: lw_gd) ({ frames := 0, cells := 0, slots := 0, locals := 0 }) (gPre D [(cB, .byte), (cC, .char), (cI, .int), (cJ, .long)] [.int x0, .int x1, .null] [] sz) (va_Qi (fun r u => (0 ≤ r.toInt ∧ r.toInt ≤ 2147483646)) (gB D (va_A [] sz) (fun u : gEx => [])) (va_A [] sz)) 0 0 (va_A [] sz) := by
  refine gOf_i (by decide +kernel) (Nat.le_of_ble_eq_true rfl) ?_
  intro p e s m args below meth c ls A Q hx hb hts hown hml hN hK hP hD hA hl hret
  have hown : s.vm.findClass RJ3 = some m.cls := hown
  have hS : va_S A s.heap s.heap [] := va_S.rf
  have hP : va_P D gcl [] s.heap := hP
  have hl : lv_has ls 3 [(0, .int x0), (1, .int x1), (2, .null)] := hl
  have rx0 := n_rng x0
  have rx1 := n_rng x1
  refine lv_iload_n (pc := 0) hx hb dJ3_checkIndex_8e157_0 rfl (lv_at hl 0 rfl) ?_
  refine b_if_lt (pc := 1) (tgt := 9) hx hb rfl  dJ3_checkIndex_8e157_1 (by decide) (fun c_1 => ?_) (fun c_1 => ?_)
  ·
    exact False.elim (by omega)
  ·
    refine lv_iload_n (pc := 4) hx hb dJ3_checkIndex_8e157_4 rfl (lv_at hl 0 rfl) ?_
    refine lv_iload_n (pc := 5) hx hb dJ3_checkIndex_8e157_5 rfl (lv_at hl 1 rfl) ?_
    refine b_icmp_lt (pc := 6) (tgt := 16) hx hb rfl rfl  dJ3_checkIndex_8e157_6 (by decide) (fun c_2 => ?_) (fun c_2 => ?_)
    ·
      refine lv_iload_n (pc := 16) hx hb dJ3_checkIndex_8e157_16 rfl (lv_at hl 0 rfl) ?_
      exact hret x0 ((fun _ => 0), (fun _ => (fun _ => 0)), (fun _ => (fun _ => 0)), (fun _ => 0), (fun _ => 0)) dJ3_checkIndex_8e157_17 (show (0 ≤ x0.toInt ∧ x0.toInt ≤ 2147483646) by omega) (g_psub (wc := []) hP [] rfl) (hD.sub (ws' := []) [] (by decide) rfl) hS
    ·
      exact False.elim (by omega)
set_option maxHeartbeats 4000000 in
set_option maxRecDepth 100000 in
theorem k_J3_checkIndex_8e157 (l : Launch) (D : va_G) (cB cC cI cJ : ClassId) (sz : Nat) (a0 : Nat) (x0 x1 : Int32) (hg__k : 0 ≤ x0.toInt ∧ x0.toInt < x1.toInt) : Met l yJ3_checkIndex_8e157 (.code yJ3_checkIndex_8e157 cJ3_checkIndex_8e157 3 (some .int) :: lw_gd) ({ frames := 0, cells := 0, slots := 0, locals := 0 }) (gPre D [(cB, .byte), (cC, .char), (cI, .int), (cJ, .long)] [.int x0, .int x1, .ref a0] [] sz) (va_Qi (fun r u => (0 ≤ r.toInt ∧ r.toInt ≤ 2147483646)) (gB D (va_A [] sz) (fun u : gEx => [])) (va_A [] sz)) 0 0 (va_A [] sz) := by
  refine gOf_i (by decide +kernel) (Nat.le_of_ble_eq_true rfl) ?_
  intro p e s m args below meth c ls A Q hx hb hts hown hml hN hK hP hD hA hl hret
  have hown : s.vm.findClass RJ3 = some m.cls := hown
  have hS : va_S A s.heap s.heap [] := va_S.rf
  have hP : va_P D gcl [] s.heap := hP
  have hl : lv_has ls 3 [(0, .int x0), (1, .int x1), (2, .ref a0)] := hl
  have rx0 := n_rng x0
  have rx1 := n_rng x1
  refine lv_iload_n (pc := 0) hx hb dJ3_checkIndex_8e157_0 rfl (lv_at hl 0 rfl) ?_
  refine b_if_lt (pc := 1) (tgt := 9) hx hb rfl  dJ3_checkIndex_8e157_1 (by decide) (fun c_1 => ?_) (fun c_1 => ?_)
  ·
    exact False.elim (by omega)
  ·
    refine lv_iload_n (pc := 4) hx hb dJ3_checkIndex_8e157_4 rfl (lv_at hl 0 rfl) ?_
    refine lv_iload_n (pc := 5) hx hb dJ3_checkIndex_8e157_5 rfl (lv_at hl 1 rfl) ?_
    refine b_icmp_lt (pc := 6) (tgt := 16) hx hb rfl rfl  dJ3_checkIndex_8e157_6 (by decide) (fun c_2 => ?_) (fun c_2 => ?_)
    ·
      refine lv_iload_n (pc := 16) hx hb dJ3_checkIndex_8e157_16 rfl (lv_at hl 0 rfl) ?_
      exact hret x0 ((fun _ => 0), (fun _ => (fun _ => 0)), (fun _ => (fun _ => 0)), (fun _ => 0), (fun _ => 0)) dJ3_checkIndex_8e157_17 (show (0 ≤ x0.toInt ∧ x0.toInt ≤ 2147483646) by omega) (g_psub (wc := []) hP [] rfl) (hD.sub (ws' := []) [] (by decide) rfl) hS
    ·
      exact False.elim (by omega)
set_option maxHeartbeats 4000000 in
set_option maxRecDepth 100000 in
theorem k_J0_checkIndex_df160 (l : Launch) (D : va_G) (cB cC cI cJ : ClassId) (sz : Nat) (adK adV : Nat → Nat) (x0 x1 : Int32) (hg__k : 0 ≤ x0.toInt ∧ x0.toInt < x1.toInt) : Met l yJ0_checkIndex_df160 (.code yJ0_checkIndex_df160 cJ0_checkIndex_df160 2 none :: lw_gd) ({ frames := 1, cells := 0, slots := 0, locals := 22 }) (gPreT D [(cB, .byte), (cC, .char), (cI, .int), (cJ, .long)] [.int x0, .int x1] [] sz adK adV) (va_Qv (fun u => True) (gB D (va_A [] sz) (fun u : gEx => [])) (va_A [] sz)) 0 0 (va_A [] sz) := by
  refine gOfT_v (by decide +kernel) (Nat.le_of_ble_eq_true rfl) ?_
  intro p e s m args below meth c ls A Q hx hb hts hown hml hN hK hP hD hA hl hF hret
  have hown : s.vm.findClass RJ0 = some m.cls := hown
  have hS : va_S A s.heap s.heap [] := va_S.rf
  have hP : va_P D gcl [] s.heap := hP
  have hl : lv_has ls 2 [(0, .int x0), (1, .int x1)] := hl
  have rx0 := n_rng x0
  have rx1 := n_rng x1
  refine lv_iload_n (pc := 0) hx hb dJ0_checkIndex_df160_0 rfl (lv_at hl 0 rfl) ?_
  refine lv_iload_n (pc := 1) hx hb dJ0_checkIndex_df160_1 rfl (lv_at hl 1 rfl) ?_
  rcases hF.2.2.2 with hz_1 | ⟨zt_2, hz_1⟩
  ·
    refine va_gets (pc := 2) (v := .null) hx hb hz_1 hS hown (hts _ tw_577) (fun _ h9 => h9) dJ0_checkIndex_df160_2 ?_
    refine gc_i (pc := 5) (wc := []) (wr := []) hP hD hS hA [] [] rfl rfl (by decide) (by decide) (by decide) (fun hPc hDc => va_runS (As := [.int x0, .int x1, .null]) (rest := []) ⟨hx, hb, hml, hown, hts⟩ (k_J3_checkIndex_8e157_n l D cB cC cI cJ _ x0 x1 hg__k) ⟨gcwB hts tw_581 tw_17 tw_579 hd_yJ3_checkIndex_8e157 ⟨Nat.le_of_ble_eq_true rfl, Nat.le_of_ble_eq_true rfl⟩, hts _ tw_580⟩ (gpreS hPc hK hDc hN) rfl rfl hl.1 rfl (lv_room (Nat.le_of_ble_eq_true rfl)) dJ0_checkIndex_df160_5 ⟨Nat.le_of_ble_eq_true rfl, Nat.le_of_ble_eq_true rfl⟩) (fun r_4 u_3 H locs hw_5 hP hD hS => ?_)
    have hP : va_P D gcl [] H := hP
    have hD : va_D A [] := hD
    have hw_6 : (0 ≤ r_4.toInt ∧ r_4.toInt ≤ 2147483646) := hw_5
    have rr_4 := n_rng r_4
    refine lv_pop (pc := 8) hx hb dJ0_checkIndex_df160_8 rfl ?_
    exact hret ((fun _ => 0), (fun _ => (fun _ => 0)), (fun _ => (fun _ => 0)), (fun _ => 0), (fun _ => 0)) dJ0_checkIndex_df160_9 trivial (g_psub (wc := []) hP [] rfl) (hD.sub (ws' := []) [] (by decide) rfl) hS
  ·
    refine va_gets (pc := 2) (v := .ref zt_2) hx hb hz_1 hS hown (hts _ tw_577) (fun _ h9 => h9) dJ0_checkIndex_df160_2 ?_
    refine gc_i (pc := 5) (wc := []) (wr := []) hP hD hS hA [] [] rfl rfl (by decide) (by decide) (by decide) (fun hPc hDc => va_runS (As := [.int x0, .int x1, .ref zt_2]) (rest := []) ⟨hx, hb, hml, hown, hts⟩ (k_J3_checkIndex_8e157 l D cB cC cI cJ _ zt_2 x0 x1 hg__k) ⟨gcwB hts tw_581 tw_17 tw_579 hd_yJ3_checkIndex_8e157 ⟨Nat.le_of_ble_eq_true rfl, Nat.le_of_ble_eq_true rfl⟩, hts _ tw_580⟩ (gpreS hPc hK hDc hN) rfl rfl hl.1 rfl (lv_room (Nat.le_of_ble_eq_true rfl)) dJ0_checkIndex_df160_5 ⟨Nat.le_of_ble_eq_true rfl, Nat.le_of_ble_eq_true rfl⟩) (fun r_8 u_7 H locs hw_9 hP hD hS => ?_)
    have hP : va_P D gcl [] H := hP
    have hD : va_D A [] := hD
    have hw_10 : (0 ≤ r_8.toInt ∧ r_8.toInt ≤ 2147483646) := hw_9
    have rr_8 := n_rng r_8
    refine lv_pop (pc := 8) hx hb dJ0_checkIndex_df160_8 rfl ?_
    exact hret ((fun _ => 0), (fun _ => (fun _ => 0)), (fun _ => (fun _ => 0)), (fun _ => 0), (fun _ => 0)) dJ0_checkIndex_df160_9 trivial (g_psub (wc := []) hP [] rfl) (hD.sub (ws' := []) [] (by decide) rfl) hS
set_option maxHeartbeats 4000000 in
set_option maxRecDepth 100000 in
theorem k_J1_charAt_3b067 (l : Launch) (D : va_G) (cB cC cI cJ : ClassId) (sz : Nat) (adK adV : Nat → Nat) (i : Nat) (hi : i < 15) (x0 : Int32) (hg__k : 0 ≤ x0.toInt ∧ x0.toInt < ((lenS.getD i 0 : Nat) : Int)) : Met l yJ1_charAt_3b067 (.code yJ1_charAt_3b067 cJ1_charAt_3b067 2 (some .char) :: lw_gd) ({ frames := 2, cells := 0, slots := 0, locals := 43 }) (gPreT D [(cB, .byte), (cC, .char), (cI, .int), (cJ, .long)] [.ref (adV i), .int x0] [] sz adK adV) (va_Qi (fun r u => (narrow .char (.int r) = (.int r : Value)) ∧ (r.toInt = (wL.getD i []).getD (x0.toInt).toNat 0)) (gB D (va_A [] sz) (fun u : gEx => [])) (va_A [] sz)) 0 0 (va_A [] sz) := by
  refine gOfT_c (by decide +kernel) (Nat.le_of_ble_eq_true rfl) ?_
  intro p e s m args below meth c ls A Q hx hb hts hown hml hN hK hP hD hA hl hF hret
  have hlen := s_len hi
  have hown : s.vm.findClass RJ1 = some m.cls := hown
  have hS : va_S A s.heap s.heap [] := va_S.rf
  have hP : va_P D gcl [] s.heap := hP
  have hl : lv_has ls 2 [(0, .ref (adV i)), (1, .int x0)] := hl
  have rx0 := n_rng x0
  refine lv_iload_n (pc := 0) hx hb dJ1_charAt_3b067_0 rfl (lv_at hl 1 rfl) ?_
  refine lv_aload_n (pc := 1) hx hb dJ1_charAt_3b067_1 rfl (lv_at hl 0 rfl) ?_
  refine va_tlen (pc := 2) hx hb (hF.1.1 i hi).2.2.2 hS rfl dJ1_charAt_3b067_2 ?_
  refine gc_v (pc := 3) (wc := []) (wr := []) hP hD hS hA [] [] rfl rfl (by decide) (by decide) (by decide) (fun hPc hDc => va_runS (As := [.int x0, .int (Int32.ofNat (lenS.getD i 0))]) (rest := []) ⟨hx, hb, hml, hown, hts⟩ (k_J0_checkIndex_df160 l D cB cC cI cJ _ adK adV x0 (Int32.ofNat (lenS.getD i 0)) (by  omega)) ⟨gcwB hts tw_576 tw_15 tw_574 hd_yJ0_checkIndex_df160 ⟨Nat.le_of_ble_eq_true rfl, Nat.le_of_ble_eq_true rfl⟩, hts _ tw_575⟩ (gpreT hPc hK hDc hN hF hS (va_free (wc := []) hD hS hA [] rfl)) rfl rfl hl.1 rfl (lv_room (Nat.le_of_ble_eq_true rfl)) dJ1_charAt_3b067_3 ⟨Nat.le_of_ble_eq_true rfl, Nat.le_of_ble_eq_true rfl⟩) (fun u_1 H locs hw_3 hP hD hS => ?_)
  have hP : va_P D gcl [] H := hP
  have hD : va_D A [] := hD
  refine lv_aload_n (pc := 6) hx hb dJ1_charAt_3b067_6 rfl (lv_at hl 0 rfl) ?_
  refine lv_iload_n (pc := 7) hx hb dJ1_charAt_3b067_7 rfl (lv_at hl 1 rfl) ?_
  refine va_tb (pc := 8) hx hb (hF.1.1 i hi).2.2.2 hS (n_in rfl (by omega) (by omega)) rfl dJ1_charAt_3b067_8 ?_
  refine lv_sipush (pc := 9) (v := 255) hx hb dJ1_charAt_3b067_9 (by decide) ?_
  refine lv_iand (pc := 12) hx hb dJ1_charAt_3b067_12 ?_
  refine lv_i2c (pc := 13) hx hb dJ1_charAt_3b067_13 rfl ?_
  refine lv_topi (fun x_4 ex_4 => ?_)
  have rx_4 := n_rng x_4
  have nrx_4 : narrow .char (.int x_4) = .int x_4 := by rw [ex_4]; exact s_nar hi (show x0.toInt.toNat < 6 by omega)
  exact hret x_4 ((fun _ => 0), (fun _ => (fun _ => 0)), (fun _ => (fun _ => 0)), (fun _ => 0), (fun _ => 0)) dJ1_charAt_3b067_14 ⟨nrx_4, ⟨(show narrow .char (.int x_4) = (.int x_4 : Value) from nrx_4), (show x_4.toInt = (wL.getD i []).getD (x0.toInt).toNat 0 from (s_ch hi (show (x0.toInt).toNat < 6 by omega) ex_4))⟩⟩ (g_psub (wc := []) hP [] rfl) (hD.sub (ws' := []) [] (by decide) rfl) hS
set_option maxHeartbeats 4000000 in
set_option maxRecDepth 100000 in
theorem k_J0_charAt_5068e (l : Launch) (D : va_G) (cB cC cI cJ : ClassId) (sz : Nat) (adK adV : Nat → Nat) (i : Nat) (hi : i < 15) (x0 : Int32) (hg__k : 0 ≤ x0.toInt ∧ x0.toInt < ((lenS.getD i 0 : Nat) : Int)) : Met l yJ0_charAt_5068e (.code yJ0_charAt_5068e cJ0_charAt_5068e 2 (some .char) :: lw_gd) ({ frames := 3, cells := 0, slots := 0, locals := 64 }) (gPreT D [(cB, .byte), (cC, .char), (cI, .int), (cJ, .long)] [.ref (adK i), .int x0] [] sz adK adV) (va_Qi (fun r u => (r.toInt = (wL.getD i []).getD (x0.toInt).toNat 0)) (gB D (va_A [] sz) (fun u : gEx => [])) (va_A [] sz)) 0 0 (va_A [] sz) := by
  refine gOfT_c (by decide +kernel) (Nat.le_of_ble_eq_true rfl) ?_
  intro p e s m args below meth c ls A Q hx hb hts hown hml hN hK hP hD hA hl hF hret
  have hlen := s_len hi
  have hown : s.vm.findClass RJ0 = some m.cls := hown
  have hS : va_S A s.heap s.heap [] := va_S.rf
  have hP : va_P D gcl [] s.heap := hP
  have hl : lv_has ls 2 [(0, .ref (adK i)), (1, .int x0)] := hl
  have rx0 := n_rng x0
  refine lv_aload_n (pc := 0) hx hb dJ0_charAt_5068e_0 rfl (lv_at hl 0 rfl) ?_
  refine gc_i (pc := 1) (wc := []) (wr := []) hP hD hS hA [] [] rfl rfl (by decide) (by decide) (by decide) (fun hPc hDc => va_runV (As := []) (rest := []) ⟨hx, hb, hml, hown, hts⟩ (k_J0_isLatin1_aae02 l D cB cC cI cJ _ adK adV i hi) ⟨gcwB hts tw_570 tw_15 tw_567 hd_yJ0_isLatin1_aae02 ⟨Nat.le_of_ble_eq_true rfl, Nat.le_of_ble_eq_true rfl⟩, hts _ tw_568, hts _ tw_569⟩ ⟨gblindT, vk_recv hF.1 hi hS, (gpreT hPc hK hDc hN hF hS (va_free (wc := []) hD hS hA [] rfl)).2⟩ rfl rfl hl.1 rfl (lv_room (Nat.le_of_ble_eq_true rfl)) dJ0_charAt_5068e_1 ⟨Nat.le_of_ble_eq_true rfl, Nat.le_of_ble_eq_true rfl⟩) (fun r_2 u_1 H locs hw_3 hP hD hS => ?_)
  have hP : va_P D gcl [] H := hP
  have hD : va_D A [] := hD
  obtain ⟨hw_4, hw_5⟩ := hw_3
  have hw_4 : (1 ≤ r_2.toInt ∧ r_2.toInt ≤ 1) := hw_4
  have hw_5 : (r_2.toInt = 1) := hw_5
  have rr_2 := n_rng r_2
  refine b_if_eq (pc := 4) (tgt := 16) hx hb rfl  dJ0_charAt_5068e_4 (by decide) (fun c_6 => absurd c_6 (by omega)) (fun c_6 => ?_)
  refine lv_aload_n (pc := 7) hx hb dJ0_charAt_5068e_7 rfl (lv_at hl 0 rfl) ?_
  refine vk_getf (pc := 8) (v := .ref (adV i)) hx hb (hF.1.1 i hi).2.2.1 hS hown (hts _ tw_2110) (fun _ h9 => h9) dJ0_charAt_5068e_8 ?_
  refine lv_iload_n (pc := 11) hx hb dJ0_charAt_5068e_11 rfl (lv_at hl 1 rfl) ?_
  refine gc_i (pc := 12) (wc := []) (wr := []) hP hD hS hA [] [] rfl rfl (by decide) (by decide) (by decide) (fun hPc hDc => va_runS (As := [.ref (adV i), .int x0]) (rest := []) ⟨hx, hb, hml, hown, hts⟩ (k_J1_charAt_3b067 l D cB cC cI cJ _ adK adV i hi x0 hg__k) ⟨gcwB hts tw_573 tw_16 tw_571 hd_yJ1_charAt_3b067 ⟨Nat.le_of_ble_eq_true rfl, Nat.le_of_ble_eq_true rfl⟩, hts _ tw_572⟩ (gpreT hPc hK hDc hN hF hS (va_free (wc := []) hD hS hA [] rfl)) rfl rfl hl.1 rfl (lv_room (Nat.le_of_ble_eq_true rfl)) dJ0_charAt_5068e_12 ⟨Nat.le_of_ble_eq_true rfl, Nat.le_of_ble_eq_true rfl⟩) (fun r_8 u_7 H locs hw_9 hP hD hS => ?_)
  have hP : va_P D gcl [] H := hP
  have hD : va_D A [] := hD
  obtain ⟨hw_10, hw_11⟩ := hw_9
  have hw_10 : (narrow .char (.int r_8) = (.int r_8 : Value)) := hw_10
  have hw_11 : (r_8.toInt = (wL.getD i []).getD (x0.toInt).toNat 0) := hw_11
  have rr_8 := n_rng r_8
  exact hret r_8 ((fun _ => 0), (fun _ => (fun _ => 0)), (fun _ => (fun _ => 0)), (fun _ => 0), (fun _ => 0)) dJ0_charAt_5068e_15 ⟨hw_10, (show r_8.toInt = (wL.getD i []).getD (x0.toInt).toNat 0 from hw_11)⟩ (g_psub (wc := []) hP [] rfl) (hD.sub (ws' := []) [] (by decide) rfl) hS
set_option maxHeartbeats 4000000 in
set_option maxRecDepth 100000 in
theorem k_X4_isWordAhead (l : Launch) (D : va_G) (cB cC cI cJ : ClassId) (sz : Nat) (adK adV : Nat → Nat) (i : Nat) (hi : i < 15) (a0 a1 a2 a3 : Nat) (x0 x1 x2 x3 x4 x5 x6 : Int32) (f0 : Nat → Int32) (h_x0 : (0 ≤ x0.toInt ∧ x0.toInt ≤ 1600)) (h_x1 : ((-1) ≤ x1.toInt ∧ x1.toInt ≤ 255)) (h_x2 : (0 ≤ x2.toInt ∧ x2.toInt ≤ 1600)) (h_x4 : (0 ≤ x4.toInt ∧ x4.toInt ≤ 4)) (h_x5 : ((-1) ≤ x5.toInt ∧ x5.toInt ≤ 1600)) (h_x6 : (0 ≤ x6.toInt ∧ x6.toInt ≤ 1600)) : Met l yX4_isWordAhead (.code yX4_isWordAhead cX4_isWordAhead 4 (some .boolean) :: lw_gd) ({ frames := 4, cells := 0, slots := 0, locals := 85 }) (gPreT D [(cB, .byte), (cC, .char), (cI, .int), (cJ, .long)] [.ref a0, .ref (adK i)] [(a0, .inr (4, [.ref a1, .ref a2, .int x0, .int x1, .int x2, .int x3, .int x4, .int x5])), (a1, .inr (9, [.ref a3, .int x6])), (a3, .inl (cB, 1600, .inl f0))] sz adK adV) (va_Qi (fun r u => (0 ≤ r.toInt ∧ r.toInt ≤ 1) ∧ (waQ (taub f0 x6.toInt) x0.toInt x1.toInt (wL.getD i []) r.toInt)) (gB D (va_A [(a0, .inr (4, [.ref a1, .ref a2, .int x0, .int x1, .int x2, .int x3, .int x4, .int x5])), (a1, .inr (9, [.ref a3, .int x6])), (a3, .inl (cB, 1600, .inl f0))] sz) (fun u : gEx => [(a0, .inr (4, [.ref a1, .ref a2, .int x0, .int x1, .int x2, .int x3, .int x4, .int x5])), (a1, .inr (9, [.ref a3, .int x6])), (a3, .inl (cB, 1600, .inl f0))])) (va_A [(a0, .inr (4, [.ref a1, .ref a2, .int x0, .int x1, .int x2, .int x3, .int x4, .int x5])), (a1, .inr (9, [.ref a3, .int x6])), (a3, .inl (cB, 1600, .inl f0))] sz)) 0 0 (va_A [(a0, .inr (4, [.ref a1, .ref a2, .int x0, .int x1, .int x2, .int x3, .int x4, .int x5])), (a1, .inr (9, [.ref a3, .int x6])), (a3, .inl (cB, 1600, .inl f0))] sz) := by
  refine gOfT_z (by decide +kernel) (Nat.le_of_ble_eq_true rfl) ?_
  intro p e s m args below meth c ls A Q hx hb hts hown hml hN hK hP hD hA hl hF hret
  have hlen := s_len hi
  have hown : s.vm.findClass RX4 = some m.cls := hown
  have hS : va_S A s.heap s.heap [] := va_S.rf
  have hP : va_P D gcl [(a0, .inr (4, [.ref a1, .ref a2, .int x0, .int x1, .int x2, .int x3, .int x4, .int x5])), (a1, .inr (9, [.ref a3, .int x6])), (a3, .inl (cB, 1600, .inl f0))] s.heap := hP
  have hl : lv_has ls 4 [(0, .ref a0), (1, .ref (adK i))] := hl
  have rx3 := n_rng x3
  refine lv_aload_n (pc := 0) hx hb dX4_isWordAhead_0 rfl (lv_at hl 1 rfl) ?_
  refine gc_i (pc := 1) (wc := []) (wr := [(a0, .inr (4, [.ref a1, .ref a2, .int x0, .int x1, .int x2, .int x3, .int x4, .int x5])), (a1, .inr (9, [.ref a3, .int x6])), (a3, .inl (cB, 1600, .inl f0))]) hP hD hS hA [] [0, 1, 2] rfl rfl (by decide) (by decide) (by decide) (fun hPc hDc => va_runV (As := []) (rest := []) ⟨hx, hb, hml, hown, hts⟩ (k_J0_length_8abf5 l D cB cC cI cJ _ adK adV i hi) ⟨gcwB hts tw_556 tw_15 tw_553 hd_yJ0_length_8abf5 ⟨Nat.le_of_ble_eq_true rfl, Nat.le_of_ble_eq_true rfl⟩, hts _ tw_554, hts _ tw_555⟩ ⟨gblindT, vk_recv hF.1 hi hS, (gpreT hPc hK hDc hN hF hS (va_free (wc := []) hD hS hA [] rfl)).2⟩ rfl rfl hl.1 rfl (lv_room (Nat.le_of_ble_eq_true rfl)) dX4_isWordAhead_1 ⟨Nat.le_of_ble_eq_true rfl, Nat.le_of_ble_eq_true rfl⟩) (fun r_2 u_1 H locs hw_3 hP hD hS => ?_)
  have hP : va_P D gcl [(a0, .inr (4, [.ref a1, .ref a2, .int x0, .int x1, .int x2, .int x3, .int x4, .int x5])), (a1, .inr (9, [.ref a3, .int x6])), (a3, .inl (cB, 1600, .inl f0))] H := hP
  have hD : va_D A [(a0, .inr (4, [.ref a1, .ref a2, .int x0, .int x1, .int x2, .int x3, .int x4, .int x5])), (a1, .inr (9, [.ref a3, .int x6])), (a3, .inl (cB, 1600, .inl f0))] := hD
  obtain ⟨hw_4, hw_5⟩ := hw_3
  have hw_4 : (0 ≤ r_2.toInt ∧ r_2.toInt ≤ 6) := hw_4
  have hw_5 : (r_2.toInt = ((lenS.getD i 0 : Nat) : Int)) := hw_5
  have rr_2 := n_rng r_2
  refine lv_istore_n (pc := 4) (lv' := [(2, .int r_2), (0, .ref a0), (1, .ref (adK i))]) hx hb dX4_isWordAhead_4 rfl hl (by decide) rfl (fun ls hl => ?_)
  refine lv_iconst (pc := 5) (v := 0) hx hb dX4_isWordAhead_5 (by decide) ?_
  refine lv_istore_n (pc := 6) (lv' := [(3, .int 0), (2, .int r_2), (0, .ref a0), (1, .ref (adK i))]) hx hb dX4_isWordAhead_6 rfl hl (by decide) rfl (fun ls hl => ?_)
  have lp_10 : ∀ (n : Nat) (x_6 : Int32) (H : Heap) (locs : List Loc) (ls : Array Slot), (0 ≤ x_6.toInt ∧ x_6.toInt ≤ 6) → (x_6.toInt ≤ r_2.toInt) → (mtk (taub f0 x6.toInt) x0.toInt (wL.getD i []) x_6.toInt) → (2147483647 - x_6.toInt).toNat < n → va_P D gcl [(a0, .inr (4, [.ref a1, .ref a2, .int x0, .int x1, .int x2, .int x3, .int x4, .int x5])), (a1, .inr (9, [.ref a3, .int x6])), (a3, .inl (cB, 1600, .inl f0))] H → va_D A [(a0, .inr (4, [.ref a1, .ref a2, .int x0, .int x1, .int x2, .int x3, .int x4, .int x5])), (a1, .inr (9, [.ref a3, .int x6])), (a3, .inl (cB, 1600, .inl f0))] → va_S A s.heap H locs → lv_has ls 4 [(3, .int x_6), (2, .int r_2), (0, .ref a0), (1, .ref (adK i))] → W p l e ({ frames := 4, cells := 0, slots := 0, locals := 85 }) s m args below meth c H locs 0 0 Q (F0 m 7 ls []) := by
    intro n
    induction n with
    | zero => intro x_6 H locs ls hi_7 hi_8 hi_9 hmu; exact absurd hmu (Nat.not_lt_zero _)
    | succ n ih_lp_10 =>
      intro x_6 H locs ls hi_7 hi_8 hi_9 hmu_lp_10 hP hD hS hl
      refine lv_iload_n (pc := 7) hx hb dX4_isWordAhead_7 rfl (lv_at hl 0 rfl) ?_
      refine lv_iload_n (pc := 8) hx hb dX4_isWordAhead_8 rfl (lv_at hl 1 rfl) ?_
      refine b_icmp_ge (pc := 9) (tgt := 41) hx hb rfl rfl  dX4_isWordAhead_9 (by decide) (fun c_11 => ?_) (fun c_11 => ?_)
      ·
        refine lv_aload_n (pc := 41) hx hb dX4_isWordAhead_41 rfl (lv_at hl 2 rfl) ?_
        refine va_get (pc := 42) (ci := 4) (v := .int x1) (C := RX4) (T := TX4) (N := 8) hx hb hts iX4 hown hK hP 0 rfl rfl 3 (by decide) (hts _ tw_171) (fun _ h9 => h9) rfl dX4_isWordAhead_42 ?_
        refine b_if_eq (pc := 45) (tgt := 71) hx hb rfl  dX4_isWordAhead_45 (by decide) (fun c_12 => ?_) (fun c_12 => ?_)
        ·
          refine lv_iconst (pc := 71) (v := 0) hx hb dX4_isWordAhead_71 (by decide) ?_
          have k9 := tI_0
          exact hret 0 ((fun _ => 0), (fun _ => (fun _ => 0)), (fun _ => (fun _ => 0)), (fun _ => 0), (fun _ => 0)) dX4_isWordAhead_72 ⟨(by have k9 := tI_0; omega), ⟨(show (0 ≤ (0 : Int32).toInt ∧ (0 : Int32).toInt ≤ 1) from (n_c tI_0 (by decide))), (show waQ (taub f0 x6.toInt) x0.toInt x1.toInt (wL.getD i []) (0 : Int32).toInt from wa_no0 (by omega) (by omega))⟩⟩ (g_psub (wc := [(a0, .inr (4, [.ref a1, .ref a2, .int x0, .int x1, .int x2, .int x3, .int x4, .int x5])), (a1, .inr (9, [.ref a3, .int x6])), (a3, .inl (cB, 1600, .inl f0))]) hP [0, 1, 2] rfl) (hD.sub (ws' := [(a0, .inr (4, [.ref a1, .ref a2, .int x0, .int x1, .int x2, .int x3, .int x4, .int x5])), (a1, .inr (9, [.ref a3, .int x6])), (a3, .inl (cB, 1600, .inl f0))]) [0, 1, 2] (by decide) rfl) hS
        ·
          refine lv_aload_n (pc := 48) hx hb dX4_isWordAhead_48 rfl (lv_at hl 2 rfl) ?_
          refine va_get (pc := 49) (ci := 4) (v := .ref a1) (C := RX4) (T := TX4) (N := 8) hx hb hts iX4 hown hK hP 0 rfl rfl 0 (by decide) (hts _ tw_167) (fun _ h9 => h9) rfl dX4_isWordAhead_49 ?_
          refine lv_aload_n (pc := 52) hx hb dX4_isWordAhead_52 rfl (lv_at hl 2 rfl) ?_
          refine va_get (pc := 53) (ci := 4) (v := .int x0) (C := RX4) (T := TX4) (N := 8) hx hb hts iX4 hown hK hP 0 rfl rfl 2 (by decide) (hts _ tw_170) (fun _ h9 => h9) rfl dX4_isWordAhead_53 ?_
          refine lv_iload_n (pc := 56) hx hb dX4_isWordAhead_56 rfl (lv_at hl 1 rfl) ?_
          refine b_iadd (pc := 57) hx hb rfl rfl (by omega) (by omega) dX4_isWordAhead_57 (fun x_13 ex_13 => ?_)
          refine gc_i (pc := 58) (wc := [(a1, .inr (9, [.ref a3, .int x6])), (a3, .inl (cB, 1600, .inl f0))]) (wr := [(a0, .inr (4, [.ref a1, .ref a2, .int x0, .int x1, .int x2, .int x3, .int x4, .int x5]))]) hP hD hS hA [1, 2] [0] rfl rfl (by decide) (by decide) (by decide) (fun hPc hDc => va_runV (As := [.int x_13]) (rest := []) ⟨hx, hb, hml, hown, hts⟩ (k_X9_at_E l D cB cC cI cJ _ a1 a3 x_13 x6 f0 h_x6) ⟨gcwB hts tw_518 tw_3 tw_515 hd_yX9_at ⟨Nat.le_of_ble_eq_true rfl, Nat.le_of_ble_eq_true rfl⟩, hts _ tw_516, hts _ tw_517⟩ ⟨gblind, va_recv hK hPc (ci := 9) (q0 := 0) rfl rfl, (gpreS hPc hK hDc hN).2⟩ rfl rfl hl.1 rfl (lv_room (Nat.le_of_ble_eq_true rfl)) dX4_isWordAhead_58 ⟨Nat.le_of_ble_eq_true rfl, Nat.le_of_ble_eq_true rfl⟩) (fun r_15 u_14 H locs hw_16 hP hD hS => ?_)
          have hP : va_P D gcl [(a0, .inr (4, [.ref a1, .ref a2, .int x0, .int x1, .int x2, .int x3, .int x4, .int x5])), (a1, .inr (9, [.ref a3, .int x6])), (a3, .inl (cB, 1600, .inl f0))] H := hP
          have hD : va_D A [(a0, .inr (4, [.ref a1, .ref a2, .int x0, .int x1, .int x2, .int x3, .int x4, .int x5])), (a1, .inr (9, [.ref a3, .int x6])), (a3, .inl (cB, 1600, .inl f0))] := hD
          obtain ⟨hw_17, hw_18⟩ := hw_16
          have hw_17 : ((r_15.toInt = (-1) ∧ x_13.toInt < 0) ∨ (r_15.toInt = (-1) ∧ x_13.toInt ≥ 0 ∧ x_13.toInt ≥ x6.toInt) ∨ ((0 ≤ r_15.toInt ∧ r_15.toInt ≤ 255) ∧ x_13.toInt ≥ 0 ∧ x_13.toInt < x6.toInt)) := hw_17
          have hw_18 : (r_15.toInt = taub f0 x6.toInt x_13.toInt) := hw_18
          have rr_15 := n_rng r_15
          refine gc_i (pc := 61) (wc := []) (wr := [(a0, .inr (4, [.ref a1, .ref a2, .int x0, .int x1, .int x2, .int x3, .int x4, .int x5])), (a1, .inr (9, [.ref a3, .int x6])), (a3, .inl (cB, 1600, .inl f0))]) hP hD hS hA [] [0, 1, 2] rfl rfl (by decide) (by decide) (by decide) (fun hPc hDc => va_runS (As := [.int r_15]) (rest := []) ⟨hx, hb, hml, hown, hts⟩ (k_X4_isSmall l D cB cC cI cJ _ r_15) ⟨gcwB hts tw_524 tw_2 tw_522 hd_yX4_isSmall ⟨Nat.le_of_ble_eq_true rfl, Nat.le_of_ble_eq_true rfl⟩, hts _ tw_523⟩ (gpreS hPc hK hDc hN) rfl rfl hl.1 rfl (lv_room (Nat.le_of_ble_eq_true rfl)) dX4_isWordAhead_61 ⟨Nat.le_of_ble_eq_true rfl, Nat.le_of_ble_eq_true rfl⟩) (fun r_20 u_19 H locs hw_21 hP hD hS => ?_)
          have hP : va_P D gcl [(a0, .inr (4, [.ref a1, .ref a2, .int x0, .int x1, .int x2, .int x3, .int x4, .int x5])), (a1, .inr (9, [.ref a3, .int x6])), (a3, .inl (cB, 1600, .inl f0))] H := hP
          have hD : va_D A [(a0, .inr (4, [.ref a1, .ref a2, .int x0, .int x1, .int x2, .int x3, .int x4, .int x5])), (a1, .inr (9, [.ref a3, .int x6])), (a3, .inl (cB, 1600, .inl f0))] := hD
          have hw_22 : ((r_20.toInt = 0 ∧ r_15.toInt < 97) ∨ (r_20.toInt = 0 ∧ r_15.toInt ≥ 97 ∧ r_15.toInt > 122) ∨ (r_20.toInt = 1 ∧ r_15.toInt ≥ 97 ∧ r_15.toInt ≤ 122)) := hw_21
          have rr_20 := n_rng r_20
          refine b_if_ne (pc := 64) (tgt := 71) hx hb rfl  dX4_isWordAhead_64 (by decide) (fun c_23 => ?_) (fun c_23 => ?_)
          ·
            refine lv_iconst (pc := 71) (v := 0) hx hb dX4_isWordAhead_71 (by decide) ?_
            have k9 := tI_0
            exact hret 0 ((fun _ => 0), (fun _ => (fun _ => 0)), (fun _ => (fun _ => 0)), (fun _ => 0), (fun _ => 0)) dX4_isWordAhead_72 ⟨(by have k9 := tI_0; omega), ⟨(show (0 ≤ (0 : Int32).toInt ∧ (0 : Int32).toInt ≤ 1) from (n_c tI_0 (by decide))), (show waQ (taub f0 x6.toInt) x0.toInt x1.toInt (wL.getD i []) (0 : Int32).toInt from wa_more (n := r_2.toInt) (by have q := s_wl hi; omega) (show _ = x0.toInt + r_2.toInt by omega) hw_18 (by omega) (by omega))⟩⟩ (g_psub (wc := [(a0, .inr (4, [.ref a1, .ref a2, .int x0, .int x1, .int x2, .int x3, .int x4, .int x5])), (a1, .inr (9, [.ref a3, .int x6])), (a3, .inl (cB, 1600, .inl f0))]) hP [0, 1, 2] rfl) (hD.sub (ws' := [(a0, .inr (4, [.ref a1, .ref a2, .int x0, .int x1, .int x2, .int x3, .int x4, .int x5])), (a1, .inr (9, [.ref a3, .int x6])), (a3, .inl (cB, 1600, .inl f0))]) [0, 1, 2] (by decide) rfl) hS
          ·
            refine lv_iconst (pc := 67) (v := 1) hx hb dX4_isWordAhead_67 (by decide) ?_
            refine lv_goto (pc := 68) (tgt := 72) hx hb dX4_isWordAhead_68 (by decide) ?_
            have k9 := tI_1
            exact hret 1 ((fun _ => 0), (fun _ => (fun _ => 0)), (fun _ => (fun _ => 0)), (fun _ => 0), (fun _ => 0)) dX4_isWordAhead_72 ⟨(by have k9 := tI_1; omega), ⟨(show (0 ≤ (1 : Int32).toInt ∧ (1 : Int32).toInt ≤ 1) from (n_c tI_1 (by decide))), (show waQ (taub f0 x6.toInt) x0.toInt x1.toInt (wL.getD i []) (1 : Int32).toInt from wa_yes hi_9 (by have q := s_wl hi; omega) (by omega) (show _ = x0.toInt + x_6.toInt by omega) hw_18 (by omega) (by omega))⟩⟩ (g_psub (wc := [(a0, .inr (4, [.ref a1, .ref a2, .int x0, .int x1, .int x2, .int x3, .int x4, .int x5])), (a1, .inr (9, [.ref a3, .int x6])), (a3, .inl (cB, 1600, .inl f0))]) hP [0, 1, 2] rfl) (hD.sub (ws' := [(a0, .inr (4, [.ref a1, .ref a2, .int x0, .int x1, .int x2, .int x3, .int x4, .int x5])), (a1, .inr (9, [.ref a3, .int x6])), (a3, .inl (cB, 1600, .inl f0))]) [0, 1, 2] (by decide) rfl) hS
      ·
        refine lv_aload_n (pc := 12) hx hb dX4_isWordAhead_12 rfl (lv_at hl 2 rfl) ?_
        refine va_get (pc := 13) (ci := 4) (v := .ref a1) (C := RX4) (T := TX4) (N := 8) hx hb hts iX4 hown hK hP 0 rfl rfl 0 (by decide) (hts _ tw_167) (fun _ h9 => h9) rfl dX4_isWordAhead_13 ?_
        refine lv_aload_n (pc := 16) hx hb dX4_isWordAhead_16 rfl (lv_at hl 2 rfl) ?_
        refine va_get (pc := 17) (ci := 4) (v := .int x0) (C := RX4) (T := TX4) (N := 8) hx hb hts iX4 hown hK hP 0 rfl rfl 2 (by decide) (hts _ tw_170) (fun _ h9 => h9) rfl dX4_isWordAhead_17 ?_
        refine lv_iload_n (pc := 20) hx hb dX4_isWordAhead_20 rfl (lv_at hl 0 rfl) ?_
        refine b_iadd (pc := 21) hx hb rfl rfl (by omega) (by omega) dX4_isWordAhead_21 (fun x_24 ex_24 => ?_)
        refine gc_i (pc := 22) (wc := [(a1, .inr (9, [.ref a3, .int x6])), (a3, .inl (cB, 1600, .inl f0))]) (wr := [(a0, .inr (4, [.ref a1, .ref a2, .int x0, .int x1, .int x2, .int x3, .int x4, .int x5]))]) hP hD hS hA [1, 2] [0] rfl rfl (by decide) (by decide) (by decide) (fun hPc hDc => va_runV (As := [.int x_24]) (rest := []) ⟨hx, hb, hml, hown, hts⟩ (k_X9_at_E l D cB cC cI cJ _ a1 a3 x_24 x6 f0 h_x6) ⟨gcwB hts tw_518 tw_3 tw_515 hd_yX9_at ⟨Nat.le_of_ble_eq_true rfl, Nat.le_of_ble_eq_true rfl⟩, hts _ tw_516, hts _ tw_517⟩ ⟨gblind, va_recv hK hPc (ci := 9) (q0 := 0) rfl rfl, (gpreS hPc hK hDc hN).2⟩ rfl rfl hl.1 rfl (lv_room (Nat.le_of_ble_eq_true rfl)) dX4_isWordAhead_22 ⟨Nat.le_of_ble_eq_true rfl, Nat.le_of_ble_eq_true rfl⟩) (fun r_26 u_25 H locs hw_27 hP hD hS => ?_)
        have hP : va_P D gcl [(a0, .inr (4, [.ref a1, .ref a2, .int x0, .int x1, .int x2, .int x3, .int x4, .int x5])), (a1, .inr (9, [.ref a3, .int x6])), (a3, .inl (cB, 1600, .inl f0))] H := hP
        have hD : va_D A [(a0, .inr (4, [.ref a1, .ref a2, .int x0, .int x1, .int x2, .int x3, .int x4, .int x5])), (a1, .inr (9, [.ref a3, .int x6])), (a3, .inl (cB, 1600, .inl f0))] := hD
        obtain ⟨hw_28, hw_29⟩ := hw_27
        have hw_28 : ((r_26.toInt = (-1) ∧ x_24.toInt < 0) ∨ (r_26.toInt = (-1) ∧ x_24.toInt ≥ 0 ∧ x_24.toInt ≥ x6.toInt) ∨ ((0 ≤ r_26.toInt ∧ r_26.toInt ≤ 255) ∧ x_24.toInt ≥ 0 ∧ x_24.toInt < x6.toInt)) := hw_28
        have hw_29 : (r_26.toInt = taub f0 x6.toInt x_24.toInt) := hw_29
        have rr_26 := n_rng r_26
        refine lv_aload_n (pc := 25) hx hb dX4_isWordAhead_25 rfl (lv_at hl 3 rfl) ?_
        refine lv_iload_n (pc := 26) hx hb dX4_isWordAhead_26 rfl (lv_at hl 0 rfl) ?_
        refine gc_i (pc := 27) (wc := []) (wr := [(a0, .inr (4, [.ref a1, .ref a2, .int x0, .int x1, .int x2, .int x3, .int x4, .int x5])), (a1, .inr (9, [.ref a3, .int x6])), (a3, .inl (cB, 1600, .inl f0))]) hP hD hS hA [] [0, 1, 2] rfl rfl (by decide) (by decide) (by decide) (fun hPc hDc => va_runV (As := [.int x_6]) (rest := [.int r_26]) ⟨hx, hb, hml, hown, hts⟩ (k_J0_charAt_5068e l D cB cC cI cJ _ adK adV i hi x_6 (by  omega)) ⟨gcwB hts tw_566 tw_15 tw_563 hd_yJ0_charAt_5068e ⟨Nat.le_of_ble_eq_true rfl, Nat.le_of_ble_eq_true rfl⟩, hts _ tw_564, hts _ tw_565⟩ ⟨gblindT, vk_recv hF.1 hi hS, (gpreT hPc hK hDc hN hF hS (va_free (wc := []) hD hS hA [] rfl)).2⟩ rfl rfl hl.1 rfl (lv_room (Nat.le_of_ble_eq_true rfl)) dX4_isWordAhead_27 ⟨Nat.le_of_ble_eq_true rfl, Nat.le_of_ble_eq_true rfl⟩) (fun r_31 u_30 H locs hw_32 hP hD hS => ?_)
        have hP : va_P D gcl [(a0, .inr (4, [.ref a1, .ref a2, .int x0, .int x1, .int x2, .int x3, .int x4, .int x5])), (a1, .inr (9, [.ref a3, .int x6])), (a3, .inl (cB, 1600, .inl f0))] H := hP
        have hD : va_D A [(a0, .inr (4, [.ref a1, .ref a2, .int x0, .int x1, .int x2, .int x3, .int x4, .int x5])), (a1, .inr (9, [.ref a3, .int x6])), (a3, .inl (cB, 1600, .inl f0))] := hD
        have hw_33 : (r_31.toInt = (wL.getD i []).getD (x_6.toInt).toNat 0) := hw_32
        have rr_31 := n_rng r_31
        refine b_icmp_eq (pc := 30) (tgt := 35) hx hb rfl rfl  dX4_isWordAhead_30 (by decide) (fun c_34 => ?_) (fun c_34 => ?_)
        ·
          refine b_iinc (pc := 35) hx hb dX4_isWordAhead_35 hl (k := 0) rfl rfl tI_1 (by omega) (by omega) (by decide) (fun x_35 ex_35 ls hl => ?_)
          have hl : lv_has ls 4 [(3, .int x_35), (2, .int r_2), (0, .ref a0), (1, .ref (adK i))] := hl
          refine lv_goto (pc := 38) (tgt := 7) hx hb dX4_isWordAhead_38 (by decide) ?_
          exact ih_lp_10 x_35 _ _ ls (by omega) (by omega) (mtk_up hi_9 (by omega) (by omega) (by omega) hw_29 hw_33 (by omega)) (by omega) hP hD hS (lv_sub hl [0, 1, 2, 3] rfl)
        ·
          refine lv_iconst (pc := 33) (v := 0) hx hb dX4_isWordAhead_33 (by decide) ?_
          have k9 := tI_0
          exact hret 0 ((fun _ => 0), (fun _ => (fun _ => 0)), (fun _ => (fun _ => 0)), (fun _ => 0), (fun _ => 0)) dX4_isWordAhead_34 ⟨(by have k9 := tI_0; omega), ⟨(show (0 ≤ (0 : Int32).toInt ∧ (0 : Int32).toInt ≤ 1) from (n_c tI_0 (by decide))), (show waQ (taub f0 x6.toInt) x0.toInt x1.toInt (wL.getD i []) (0 : Int32).toInt from wa_diff (k := x_6.toInt) (by omega) (by have q := s_wl hi; omega) (show _ = x0.toInt + x_6.toInt by omega) hw_29 hw_33 (by omega) (by omega))⟩⟩ (g_psub (wc := [(a0, .inr (4, [.ref a1, .ref a2, .int x0, .int x1, .int x2, .int x3, .int x4, .int x5])), (a1, .inr (9, [.ref a3, .int x6])), (a3, .inl (cB, 1600, .inl f0))]) hP [0, 1, 2] rfl) (hD.sub (ws' := [(a0, .inr (4, [.ref a1, .ref a2, .int x0, .int x1, .int x2, .int x3, .int x4, .int x5])), (a1, .inr (9, [.ref a3, .int x6])), (a3, .inl (cB, 1600, .inl f0))]) [0, 1, 2] (by decide) rfl) hS
  exact lp_10 _ 0 _ _ ls (n_c tI_0 (by decide)) (by have k0 := tI_0; omega) (mtk_0 (by have q := tI_0; omega)) (Nat.lt_succ_self _) hP hD hS (lv_sub hl [0, 1, 2, 3] rfl)
set_option maxHeartbeats 4000000 in
set_option maxRecDepth 100000 in
theorem k_X4_takesWord (l : Launch) (D : va_G) (cB cC cI cJ : ClassId) (sz : Nat) (adK adV : Nat → Nat) (i : Nat) (hi : i < 15) (a0 a1 a2 a3 : Nat) (x0 x1 x2 x3 x4 x5 x6 : Int32) (f0 : Nat → Int32) (h_x0 : (0 ≤ x0.toInt ∧ x0.toInt ≤ 1600)) (h_x1 : ((-1) ≤ x1.toInt ∧ x1.toInt ≤ 255)) (h_x2 : (0 ≤ x2.toInt ∧ x2.toInt ≤ 1600)) (h_x4 : (0 ≤ x4.toInt ∧ x4.toInt ≤ 4)) (h_x5 : ((-1) ≤ x5.toInt ∧ x5.toInt ≤ 1600)) (h_x6 : (0 ≤ x6.toInt ∧ x6.toInt ≤ 1600)) (hg_sv : svQ (taub f0 x6.toInt) x0.toInt x1.toInt) : Met l yX4_takesWord (.code yX4_takesWord cX4_takesWord 3 (some .boolean) :: lw_gd) ({ frames := 5, cells := 0, slots := 0, locals := 108 }) (gPreT D [(cB, .byte), (cC, .char), (cI, .int), (cJ, .long)] [.ref a0, .ref (adK i)] [(a0, .inr (4, [.ref a1, .ref a2, .int x0, .int x1, .int x2, .int x3, .int x4, .int x5])), (a1, .inr (9, [.ref a3, .int x6])), (a3, .inl (cB, 1600, .inl f0))] sz adK adV) (va_Qi (fun r u => (0 ≤ r.toInt ∧ r.toInt ≤ 1) ∧ (0 ≤ (u.2.2.2.1 0).toInt ∧ (u.2.2.2.1 0).toInt ≤ 1600) ∧ ((-1) ≤ (u.2.2.2.1 1).toInt ∧ (u.2.2.2.1 1).toInt ≤ 255) ∧ (twQ (taub f0 x6.toInt) x0.toInt x1.toInt (wL.getD i []) (u.2.2.2.1 0).toInt (u.2.2.2.1 1).toInt r.toInt) ∧ (svQ (taub f0 x6.toInt) (u.2.2.2.1 0).toInt (u.2.2.2.1 1).toInt) ∧ (x0.toInt + r.toInt ≤ (u.2.2.2.1 0).toInt)) (gB D (va_A [(a0, .inr (4, [.ref a1, .ref a2, .int x0, .int x1, .int x2, .int x3, .int x4, .int x5])), (a1, .inr (9, [.ref a3, .int x6])), (a3, .inl (cB, 1600, .inl f0))] sz) (fun u : gEx => [(a0, .inr (4, [.ref a1, .ref a2, .int (u.2.2.2.1 0), .int (u.2.2.2.1 1), .int x2, .int x3, .int x4, .int x5])), (a1, .inr (9, [.ref a3, .int x6])), (a3, .inl (cB, 1600, .inl f0))])) (va_A [(a0, .inr (4, [.ref a1, .ref a2, .int x0, .int x1, .int x2, .int x3, .int x4, .int x5])), (a1, .inr (9, [.ref a3, .int x6])), (a3, .inl (cB, 1600, .inl f0))] sz)) 0 0 (va_A [(a0, .inr (4, [.ref a1, .ref a2, .int x0, .int x1, .int x2, .int x3, .int x4, .int x5])), (a1, .inr (9, [.ref a3, .int x6])), (a3, .inl (cB, 1600, .inl f0))] sz) := by
  refine gOfT_z (by decide +kernel) (Nat.le_of_ble_eq_true rfl) ?_
  intro p e s m args below meth c ls A Q hx hb hts hown hml hN hK hP hD hA hl hF hret
  have hlen := s_len hi
  have hown : s.vm.findClass RX4 = some m.cls := hown
  have hS : va_S A s.heap s.heap [] := va_S.rf
  have hP : va_P D gcl [(a0, .inr (4, [.ref a1, .ref a2, .int x0, .int x1, .int x2, .int x3, .int x4, .int x5])), (a1, .inr (9, [.ref a3, .int x6])), (a3, .inl (cB, 1600, .inl f0))] s.heap := hP
  have hl : lv_has ls 3 [(0, .ref a0), (1, .ref (adK i))] := hl
  have rx3 := n_rng x3
  refine lv_aload_n (pc := 0) hx hb dX4_takesWord_0 rfl (lv_at hl 0 rfl) ?_
  refine lv_aload_n (pc := 1) hx hb dX4_takesWord_1 rfl (lv_at hl 1 rfl) ?_
  refine gc_i (pc := 2) (wc := [(a0, .inr (4, [.ref a1, .ref a2, .int x0, .int x1, .int x2, .int x3, .int x4, .int x5])), (a1, .inr (9, [.ref a3, .int x6])), (a3, .inl (cB, 1600, .inl f0))]) (wr := []) hP hD hS hA [0, 1, 2] [] rfl rfl (by decide) (by decide) (by decide) (fun hPc hDc => va_runV (As := [.ref (adK i)]) (rest := []) ⟨hx, hb, hml, hown, hts⟩ (k_X4_isWordAhead l D cB cC cI cJ _ adK adV i hi a0 a1 a2 a3 x0 x1 x2 x3 x4 x5 x6 f0 h_x0 h_x1 h_x2 h_x4 h_x5 h_x6) ⟨gcwB hts tw_552 tw_2 tw_549 hd_yX4_isWordAhead ⟨Nat.le_of_ble_eq_true rfl, Nat.le_of_ble_eq_true rfl⟩, hts _ tw_551, hts _ tp_6⟩ ⟨gblindT, va_recv hK hPc (ci := 4) (q0 := 0) rfl rfl, (gpreT hPc hK hDc hN hF hS (va_free (wc := [(a0, .inr (4, [.ref a1, .ref a2, .int x0, .int x1, .int x2, .int x3, .int x4, .int x5])), (a1, .inr (9, [.ref a3, .int x6])), (a3, .inl (cB, 1600, .inl f0))]) hD hS hA [0, 1, 2] rfl)).2⟩ rfl rfl hl.1 rfl (lv_room (Nat.le_of_ble_eq_true rfl)) dX4_takesWord_2 ⟨Nat.le_of_ble_eq_true rfl, Nat.le_of_ble_eq_true rfl⟩) (fun r_2 u_1 H locs hw_3 hP hD hS => ?_)
  have hP : va_P D gcl [(a0, .inr (4, [.ref a1, .ref a2, .int x0, .int x1, .int x2, .int x3, .int x4, .int x5])), (a1, .inr (9, [.ref a3, .int x6])), (a3, .inl (cB, 1600, .inl f0))] H := hP
  have hD : va_D A [(a0, .inr (4, [.ref a1, .ref a2, .int x0, .int x1, .int x2, .int x3, .int x4, .int x5])), (a1, .inr (9, [.ref a3, .int x6])), (a3, .inl (cB, 1600, .inl f0))] := hD
  obtain ⟨hw_4, hw_5⟩ := hw_3
  have hw_4 : (0 ≤ r_2.toInt ∧ r_2.toInt ≤ 1) := hw_4
  have hw_5 : (waQ (taub f0 x6.toInt) x0.toInt x1.toInt (wL.getD i []) r_2.toInt) := hw_5
  have rr_2 := n_rng r_2
  refine lv_istore_n (pc := 5) (lv' := [(2, .int r_2), (0, .ref a0), (1, .ref (adK i))]) hx hb dX4_takesWord_5 rfl hl (by decide) rfl (fun ls hl => ?_)
  refine lv_iload_n (pc := 6) hx hb dX4_takesWord_6 rfl (lv_at hl 0 rfl) ?_
  refine b_if_eq (pc := 7) (tgt := 24) hx hb rfl  dX4_takesWord_7 (by decide) (fun c_6 => ?_) (fun c_6 => ?_)
  ·
    refine lv_iload_n (pc := 24) hx hb dX4_takesWord_24 rfl (lv_at hl 0 rfl) ?_
    exact hret r_2 ((fun _ => 0), (fun _ => (fun _ => 0)), (fun _ => (fun _ => 0)), (fun k => [x0, x1].getD k 0), (fun _ => 0)) dX4_takesWord_25 ⟨(by omega), ⟨(show (0 ≤ r_2.toInt ∧ r_2.toInt ≤ 1) from hw_4), (show (0 ≤ (x0 : Int32).toInt ∧ (x0 : Int32).toInt ≤ 1600) from h_x0), (show ((-1) ≤ (x1 : Int32).toInt ∧ (x1 : Int32).toInt ≤ 255) from h_x1), (show twQ (taub f0 x6.toInt) x0.toInt x1.toInt (wL.getD i []) x0.toInt x1.toInt r_2.toInt from tw_no hw_5 (by omega) (by omega)), (show svQ (taub f0 x6.toInt) x0.toInt x1.toInt from hg_sv), (show x0.toInt + r_2.toInt ≤ x0.toInt by omega)⟩⟩ (g_psub (wc := [(a0, .inr (4, [.ref a1, .ref a2, .int x0, .int x1, .int x2, .int x3, .int x4, .int x5])), (a1, .inr (9, [.ref a3, .int x6])), (a3, .inl (cB, 1600, .inl f0))]) hP [0, 1, 2] rfl) (hD.sub (ws' := [(a0, .inr (4, [.ref a1, .ref a2, .int x0, .int x1, .int x2, .int x3, .int x4, .int x5])), (a1, .inr (9, [.ref a3, .int x6])), (a3, .inl (cB, 1600, .inl f0))]) [0, 1, 2] (by decide) rfl) hS
  ·
    have hh_7 := wd_lt (hw_5.1 (by omega)) (s_pos hi) (s_ne hi)
    have hh_8 := s_wl hi
    have hh_9 := s_l1 hi
    refine lv_aload_n (pc := 10) hx hb dX4_takesWord_10 rfl (lv_at hl 1 rfl) ?_
    refine lv_aload_n (pc := 11) hx hb dX4_takesWord_11 rfl (lv_at hl 1 rfl) ?_
    refine va_get (pc := 12) (ci := 4) (v := .int x0) (C := RX4) (T := TX4) (N := 8) hx hb hts iX4 hown hK hP 0 rfl rfl 2 (by decide) (hts _ tw_170) (fun _ h9 => h9) rfl dX4_takesWord_12 ?_
    refine lv_aload_n (pc := 15) hx hb dX4_takesWord_15 rfl (lv_at hl 2 rfl) ?_
    refine gc_i (pc := 16) (wc := []) (wr := [(a0, .inr (4, [.ref a1, .ref a2, .int x0, .int x1, .int x2, .int x3, .int x4, .int x5])), (a1, .inr (9, [.ref a3, .int x6])), (a3, .inl (cB, 1600, .inl f0))]) hP hD hS hA [] [0, 1, 2] rfl rfl (by decide) (by decide) (by decide) (fun hPc hDc => va_runV (As := []) (rest := [.int x0, .ref a0]) ⟨hx, hb, hml, hown, hts⟩ (k_J0_length_8abf5 l D cB cC cI cJ _ adK adV i hi) ⟨gcwB hts tw_556 tw_15 tw_553 hd_yJ0_length_8abf5 ⟨Nat.le_of_ble_eq_true rfl, Nat.le_of_ble_eq_true rfl⟩, hts _ tw_554, hts _ tw_555⟩ ⟨gblindT, vk_recv hF.1 hi hS, (gpreT hPc hK hDc hN hF hS (va_free (wc := []) hD hS hA [] rfl)).2⟩ rfl rfl hl.1 rfl (lv_room (Nat.le_of_ble_eq_true rfl)) dX4_takesWord_16 ⟨Nat.le_of_ble_eq_true rfl, Nat.le_of_ble_eq_true rfl⟩) (fun r_11 u_10 H locs hw_12 hP hD hS => ?_)
    have hP : va_P D gcl [(a0, .inr (4, [.ref a1, .ref a2, .int x0, .int x1, .int x2, .int x3, .int x4, .int x5])), (a1, .inr (9, [.ref a3, .int x6])), (a3, .inl (cB, 1600, .inl f0))] H := hP
    have hD : va_D A [(a0, .inr (4, [.ref a1, .ref a2, .int x0, .int x1, .int x2, .int x3, .int x4, .int x5])), (a1, .inr (9, [.ref a3, .int x6])), (a3, .inl (cB, 1600, .inl f0))] := hD
    obtain ⟨hw_13, hw_14⟩ := hw_12
    have hw_13 : (0 ≤ r_11.toInt ∧ r_11.toInt ≤ 6) := hw_13
    have hw_14 : (r_11.toInt = ((lenS.getD i 0 : Nat) : Int)) := hw_14
    have rr_11 := n_rng r_11
    refine b_iadd (pc := 19) hx hb rfl rfl (by omega) (by omega) dX4_takesWord_19 (fun x_15 ex_15 => ?_)
    refine lv_iconst (pc := 20) (v := 1) hx hb dX4_takesWord_20 (by decide) ?_
    refine gc_v (pc := 21) (wc := [(a0, .inr (4, [.ref a1, .ref a2, .int x0, .int x1, .int x2, .int x3, .int x4, .int x5])), (a1, .inr (9, [.ref a3, .int x6])), (a3, .inl (cB, 1600, .inl f0))]) (wr := []) hP hD hS hA [0, 1, 2] [] rfl rfl (by decide) (by decide) (by decide) (fun hPc hDc => va_runV (As := [.int x_15, .int 1]) (rest := []) ⟨hx, hb, hml, hown, hts⟩ (k_X4_goOn l D cB cC cI cJ _ a0 a1 a2 a3 x_15 1 x0 x1 x2 x3 x4 x5 x6 f0 (by have k0 := tI_1; omega) (n_c tI_1 (by decide)) h_x0 h_x1 h_x2 h_x4 h_x5 h_x6) ⟨gcwB hts tw_513 tw_2 tw_510 hd_yX4_goOn ⟨Nat.le_of_ble_eq_true rfl, Nat.le_of_ble_eq_true rfl⟩, hts _ tw_512, hts _ tp_0⟩ ⟨gblind, va_recv hK hPc (ci := 4) (q0 := 0) rfl rfl, (gpreS hPc hK hDc hN).2⟩ rfl rfl hl.1 rfl (lv_room (Nat.le_of_ble_eq_true rfl)) dX4_takesWord_21 ⟨Nat.le_of_ble_eq_true rfl, Nat.le_of_ble_eq_true rfl⟩) (fun u_16 H locs hw_18 hP hD hS => ?_)
    have hP : va_P D gcl [(a0, .inr (4, [.ref a1, .ref a2, .int (u_16.2.2.2.1 0), .int (u_16.2.2.2.1 1), .int x2, .int x3, .int x4, .int x5])), (a1, .inr (9, [.ref a3, .int x6])), (a3, .inl (cB, 1600, .inl f0))] H := hP
    have hD : va_D A [(a0, .inr (4, [.ref a1, .ref a2, .int (u_16.2.2.2.1 0), .int (u_16.2.2.2.1 1), .int x2, .int x3, .int x4, .int x5])), (a1, .inr (9, [.ref a3, .int x6])), (a3, .inl (cB, 1600, .inl f0))] := hD
    obtain ⟨hw_19, hw_20, hw_21, hw_22, hw_23⟩ := hw_18
    have hw_19 : (0 ≤ (u_16.2.2.2.1 0).toInt ∧ (u_16.2.2.2.1 0).toInt ≤ 1600) := hw_19
    have hw_20 : ((-1) ≤ (u_16.2.2.2.1 1).toInt ∧ (u_16.2.2.2.1 1).toInt ≤ 255) := hw_20
    have hw_21 : ((u_16.2.2.2.1 0).toInt = skp (taub f0 x6.toInt) x_15.toInt) := hw_21
    have hw_22 : ((u_16.2.2.2.1 1).toInt = gsn (taub f0 x6.toInt) x_15.toInt (u_16.2.2.2.1 0).toInt (1 : Int32).toInt) := hw_22
    have hw_23 : (x_15.toInt ≤ (u_16.2.2.2.1 0).toInt) := hw_23
    have kk0_r_17 := tI_1
    refine lv_iload_n (pc := 24) hx hb dX4_takesWord_24 rfl (lv_at hl 0 rfl) ?_
    exact hret r_2 ((fun _ => 0), (fun _ => (fun _ => 0)), (fun _ => (fun _ => 0)), (fun k => [(u_16.2.2.2.1 0), (u_16.2.2.2.1 1)].getD k 0), (fun _ => 0)) dX4_takesWord_25 ⟨(by omega), ⟨(show (0 ≤ r_2.toInt ∧ r_2.toInt ≤ 1) from hw_4), (show (0 ≤ ((u_16.2.2.2.1 0) : Int32).toInt ∧ ((u_16.2.2.2.1 0) : Int32).toInt ≤ 1600) from hw_19), (show ((-1) ≤ ((u_16.2.2.2.1 1) : Int32).toInt ∧ ((u_16.2.2.2.1 1) : Int32).toInt ≤ 255) from hw_20), (show twQ (taub f0 x6.toInt) x0.toInt x1.toInt (wL.getD i []) (u_16.2.2.2.1 0).toInt (u_16.2.2.2.1 1).toInt r_2.toInt from tw_yes hw_5 (by omega) (show _ = x0.toInt + ((lenS.getD i 0 : Nat) : Int) by omega) hh_8.symm hw_21 hw_22 (by omega) (by omega)), (show svQ (taub f0 x6.toInt) (u_16.2.2.2.1 0).toInt (u_16.2.2.2.1 1).toInt from (by rw [hw_22, gsn_w (by omega)]; exact sgn_sv)), (show x0.toInt + r_2.toInt ≤ (u_16.2.2.2.1 0).toInt by omega)⟩⟩ (g_psub (wc := [(a0, .inr (4, [.ref a1, .ref a2, .int (u_16.2.2.2.1 0), .int (u_16.2.2.2.1 1), .int x2, .int x3, .int x4, .int x5])), (a1, .inr (9, [.ref a3, .int x6])), (a3, .inl (cB, 1600, .inl f0))]) hP [0, 1, 2] rfl) (hD.sub (ws' := [(a0, .inr (4, [.ref a1, .ref a2, .int (u_16.2.2.2.1 0), .int (u_16.2.2.2.1 1), .int x2, .int x3, .int x4, .int x5])), (a1, .inr (9, [.ref a3, .int x6])), (a3, .inl (cB, 1600, .inl f0))]) [0, 1, 2] (by decide) rfl) hS
set_option maxHeartbeats 4000000 in
set_option maxRecDepth 100000 in
theorem k_X4_fail (l : Launch) (D : va_G) (cB cC cI cJ : ClassId) (sz : Nat) (a0 a1 a2 : Nat) (x0 x1 x2 x3 x4 x5 x6 x7 : Int32) (hp1 : (1 ≤ x0.toInt ∧ x0.toInt ≤ 4)) (hp2 : (0 ≤ x1.toInt ∧ x1.toInt ≤ 1600)) (h_x2 : (0 ≤ x2.toInt ∧ x2.toInt ≤ 1600)) (h_x3 : ((-1) ≤ x3.toInt ∧ x3.toInt ≤ 255)) (h_x4 : (0 ≤ x4.toInt ∧ x4.toInt ≤ 1600)) (h_x6 : (0 ≤ x6.toInt ∧ x6.toInt ≤ 4)) (h_x7 : ((-1) ≤ x7.toInt ∧ x7.toInt ≤ 1600)) : Met l yX4_fail (.code yX4_fail cX4_fail 3 (some .boolean) :: lw_gd) ({ frames := 0, cells := 0, slots := 0, locals := 0 }) (gPre D [(cB, .byte), (cC, .char), (cI, .int), (cJ, .long)] [.ref a0, .int x0, .int x1] [(a0, .inr (4, [.ref a1, .ref a2, .int x2, .int x3, .int x4, .int x5, .int x6, .int x7]))] sz) (va_Qi (fun r u => ((r.toInt = 0))) (gB D (va_A [(a0, .inr (4, [.ref a1, .ref a2, .int x2, .int x3, .int x4, .int x5, .int x6, .int x7]))] sz) (fun u : gEx => [(a0, .inr (4, [.ref a1, .ref a2, .int x2, .int x3, .int x4, .int x5, .int x0, .int x1]))])) (va_A [(a0, .inr (4, [.ref a1, .ref a2, .int x2, .int x3, .int x4, .int x5, .int x6, .int x7]))] sz)) 0 0 (va_A [(a0, .inr (4, [.ref a1, .ref a2, .int x2, .int x3, .int x4, .int x5, .int x6, .int x7]))] sz) := by
  refine gOf_z (by decide +kernel) (Nat.le_of_ble_eq_true rfl) ?_
  intro p e s m args below meth c ls A Q hx hb hts hown hml hN hK hP hD hA hl hret
  have hown : s.vm.findClass RX4 = some m.cls := hown
  have hS : va_S A s.heap s.heap [] := va_S.rf
  have hP : va_P D gcl [(a0, .inr (4, [.ref a1, .ref a2, .int x2, .int x3, .int x4, .int x5, .int x6, .int x7]))] s.heap := hP
  have hl : lv_has ls 3 [(0, .ref a0), (1, .int x0), (2, .int x1)] := hl
  have rx5 := n_rng x5
  refine lv_aload_n (pc := 0) hx hb dX4_fail_0 rfl (lv_at hl 0 rfl) ?_
  refine lv_iload_n (pc := 1) hx hb dX4_fail_1 rfl (lv_at hl 1 rfl) ?_
  refine va_put (pc := 2) (ci := 4) (v := .int x0) (ty := .int) (C := RX4) (T := TX4) (N := 8) hx hb hts iX4 tyX4 tyX4_ok nmX4 hown hK hP hD hS 0 rfl rfl 6 (by decide) (hts _ tw_174) (fun _ h9 => h9) rfl (by decide +kernel) rfl rfl (Nat.le_of_ble_eq_true rfl) dX4_fail_2 (fun H locs hP hD hS => ?_)
  have hP : va_P D gcl [(a0, .inr (4, [.ref a1, .ref a2, .int x2, .int x3, .int x4, .int x5, .int x0, .int x7]))] H := hP
  have hD : va_D A [(a0, .inr (4, [.ref a1, .ref a2, .int x2, .int x3, .int x4, .int x5, .int x0, .int x7]))] := hD
  refine lv_aload_n (pc := 5) hx hb dX4_fail_5 rfl (lv_at hl 0 rfl) ?_
  refine lv_iload_n (pc := 6) hx hb dX4_fail_6 rfl (lv_at hl 2 rfl) ?_
  refine va_put (pc := 7) (ci := 4) (v := .int x1) (ty := .int) (C := RX4) (T := TX4) (N := 8) hx hb hts iX4 tyX4 tyX4_ok nmX4 hown hK hP hD hS 0 rfl rfl 7 (by decide) (hts _ tw_176) (fun _ h9 => h9) rfl (by decide +kernel) rfl rfl (Nat.le_of_ble_eq_true rfl) dX4_fail_7 (fun H locs hP hD hS => ?_)
  have hP : va_P D gcl [(a0, .inr (4, [.ref a1, .ref a2, .int x2, .int x3, .int x4, .int x5, .int x0, .int x1]))] H := hP
  have hD : va_D A [(a0, .inr (4, [.ref a1, .ref a2, .int x2, .int x3, .int x4, .int x5, .int x0, .int x1]))] := hD
  refine lv_iconst (pc := 10) (v := 0) hx hb dX4_fail_10 (by decide) ?_
  exact hret 0 ((fun _ => 0), (fun _ => (fun _ => 0)), (fun _ => (fun _ => 0)), (fun _ => 0), (fun _ => 0)) dX4_fail_11 ⟨(by have k9 := tI_0; omega), (show (((0 : Int32).toInt = 0)) by have k9 := tI_0; omega)⟩ (g_psub (wc := [(a0, .inr (4, [.ref a1, .ref a2, .int x2, .int x3, .int x4, .int x5, .int x0, .int x1]))]) hP [0] rfl) (hD.sub (ws' := [(a0, .inr (4, [.ref a1, .ref a2, .int x2, .int x3, .int x4, .int x5, .int x0, .int x1]))]) [0] (by decide) rfl) hS
set_option maxHeartbeats 4000000 in
set_option maxRecDepth 100000 in
theorem k_X4_failHere (l : Launch) (D : va_G) (cB cC cI cJ : ClassId) (sz : Nat) (a0 a1 a2 : Nat) (x0 x1 x2 x3 x4 x5 : Int32) (h_x0 : (0 ≤ x0.toInt ∧ x0.toInt ≤ 1600)) (h_x1 : ((-1) ≤ x1.toInt ∧ x1.toInt ≤ 255)) (h_x2 : (0 ≤ x2.toInt ∧ x2.toInt ≤ 1600)) (h_x4 : (0 ≤ x4.toInt ∧ x4.toInt ≤ 4)) (h_x5 : ((-1) ≤ x5.toInt ∧ x5.toInt ≤ 1600)) : Met l yX4_failHere (.code yX4_failHere cX4_failHere 1 (some .boolean) :: lw_gd) ({ frames := 1, cells := 0, slots := 0, locals := 22 }) (gPre D [(cB, .byte), (cC, .char), (cI, .int), (cJ, .long)] [.ref a0] [(a0, .inr (4, [.ref a1, .ref a2, .int x0, .int x1, .int x2, .int x3, .int x4, .int x5]))] sz) (va_Qi (fun r u => (0 ≤ r.toInt ∧ r.toInt ≤ 0)) (gB D (va_A [(a0, .inr (4, [.ref a1, .ref a2, .int x0, .int x1, .int x2, .int x3, .int x4, .int x5]))] sz) (fun u : gEx => [(a0, .inr (4, [.ref a1, .ref a2, .int x0, .int x1, .int x2, .int x3, .int 1, .int x0]))])) (va_A [(a0, .inr (4, [.ref a1, .ref a2, .int x0, .int x1, .int x2, .int x3, .int x4, .int x5]))] sz)) 0 0 (va_A [(a0, .inr (4, [.ref a1, .ref a2, .int x0, .int x1, .int x2, .int x3, .int x4, .int x5]))] sz) := by
  refine gOf_z (by decide +kernel) (Nat.le_of_ble_eq_true rfl) ?_
  intro p e s m args below meth c ls A Q hx hb hts hown hml hN hK hP hD hA hl hret
  have hown : s.vm.findClass RX4 = some m.cls := hown
  have hS : va_S A s.heap s.heap [] := va_S.rf
  have hP : va_P D gcl [(a0, .inr (4, [.ref a1, .ref a2, .int x0, .int x1, .int x2, .int x3, .int x4, .int x5]))] s.heap := hP
  have hl : lv_has ls 1 [(0, .ref a0)] := hl
  have rx3 := n_rng x3
  refine lv_aload_n (pc := 0) hx hb dX4_failHere_0 rfl (lv_at hl 0 rfl) ?_
  refine lv_iconst (pc := 1) (v := 1) hx hb dX4_failHere_1 (by decide) ?_
  refine lv_aload_n (pc := 2) hx hb dX4_failHere_2 rfl (lv_at hl 0 rfl) ?_
  refine va_get (pc := 3) (ci := 4) (v := .int x0) (C := RX4) (T := TX4) (N := 8) hx hb hts iX4 hown hK hP 0 rfl rfl 2 (by decide) (hts _ tw_170) (fun _ h9 => h9) rfl dX4_failHere_3 ?_
  refine gc_i (pc := 6) (wc := [(a0, .inr (4, [.ref a1, .ref a2, .int x0, .int x1, .int x2, .int x3, .int x4, .int x5]))]) (wr := []) hP hD hS hA [0] [] rfl rfl (by decide) (by decide) (by decide) (fun hPc hDc => va_runV (As := [.int 1, .int x0]) (rest := []) ⟨hx, hb, hml, hown, hts⟩ (k_X4_fail l D cB cC cI cJ _ a0 a1 a2 1 x0 x0 x1 x2 x3 x4 x5 (n_c tI_1 (by decide)) h_x0 h_x0 h_x1 h_x2 h_x4 h_x5) ⟨gcwB hts tw_535 tw_2 tw_532 hd_yX4_fail ⟨Nat.le_of_ble_eq_true rfl, Nat.le_of_ble_eq_true rfl⟩, hts _ tw_534, hts _ tp_2⟩ ⟨gblind, va_recv hK hPc (ci := 4) (q0 := 0) rfl rfl, (gpreS hPc hK hDc hN).2⟩ rfl rfl hl.1 rfl (lv_room (Nat.le_of_ble_eq_true rfl)) dX4_failHere_6 ⟨Nat.le_of_ble_eq_true rfl, Nat.le_of_ble_eq_true rfl⟩) (fun r_2 u_1 H locs hw_3 hP hD hS => ?_)
  have hP : va_P D gcl [(a0, .inr (4, [.ref a1, .ref a2, .int x0, .int x1, .int x2, .int x3, .int 1, .int x0]))] H := hP
  have hD : va_D A [(a0, .inr (4, [.ref a1, .ref a2, .int x0, .int x1, .int x2, .int x3, .int 1, .int x0]))] := hD
  have hw_4 : ((r_2.toInt = 0)) := hw_3
  have kk0_r_2 := tI_1
  have rr_2 := n_rng r_2
  exact hret r_2 ((fun _ => 0), (fun _ => (fun _ => 0)), (fun _ => (fun _ => 0)), (fun _ => 0), (fun _ => 0)) dX4_failHere_9 ⟨(by omega), (show (0 ≤ r_2.toInt ∧ r_2.toInt ≤ 0) by omega)⟩ (g_psub (wc := [(a0, .inr (4, [.ref a1, .ref a2, .int x0, .int x1, .int x2, .int x3, .int 1, .int x0]))]) hP [0] rfl) (hD.sub (ws' := [(a0, .inr (4, [.ref a1, .ref a2, .int x0, .int x1, .int x2, .int x3, .int 1, .int x0]))]) [0] (by decide) rfl) hS
set_option maxHeartbeats 4000000 in
set_option maxRecDepth 100000 in
theorem k_X4_readWord (l : Launch) (D : va_G) (cB cC cI cJ : ClassId) (sz : Nat) (adK adV : Nat → Nat) (i : Nat) (hi : i < 15) (a0 a1 a2 a3 : Nat) (x0 x1 x2 x3 x4 x5 x6 : Int32) (f0 : Nat → Int32) (h_x0 : (0 ≤ x0.toInt ∧ x0.toInt ≤ 1600)) (h_x1 : ((-1) ≤ x1.toInt ∧ x1.toInt ≤ 255)) (h_x2 : (0 ≤ x2.toInt ∧ x2.toInt ≤ 1600)) (h_x4 : (0 ≤ x4.toInt ∧ x4.toInt ≤ 4)) (h_x5 : ((-1) ≤ x5.toInt ∧ x5.toInt ≤ 1600)) (h_x6 : (0 ≤ x6.toInt ∧ x6.toInt ≤ 1600)) (hg_sv : svQ (taub f0 x6.toInt) x0.toInt x1.toInt) (hg__ff : x4.toInt = 0 ∧ x5.toInt = -1) : Met l yX4_readWord (.code yX4_readWord cX4_readWord 2 (some .boolean) :: lw_gd) ({ frames := 6, cells := 0, slots := 0, locals := 130 }) (gPreT D [(cB, .byte), (cC, .char), (cI, .int), (cJ, .long)] [.ref a0, .ref (adK i)] [(a0, .inr (4, [.ref a1, .ref a2, .int x0, .int x1, .int x2, .int x3, .int x4, .int x5])), (a1, .inr (9, [.ref a3, .int x6])), (a3, .inl (cB, 1600, .inl f0))] sz adK adV) (va_Qi (fun r u => (0 ≤ r.toInt ∧ r.toInt ≤ 1) ∧ (0 ≤ (u.2.2.2.1 0).toInt ∧ (u.2.2.2.1 0).toInt ≤ 1600) ∧ ((-1) ≤ (u.2.2.2.1 1).toInt ∧ (u.2.2.2.1 1).toInt ≤ 255) ∧ (0 ≤ (u.2.2.2.1 2).toInt ∧ (u.2.2.2.1 2).toInt ≤ 4) ∧ ((-1) ≤ (u.2.2.2.1 3).toInt ∧ (u.2.2.2.1 3).toInt ≤ 1600) ∧ (rwQ (taub f0 x6.toInt) x0.toInt x1.toInt (wL.getD i []) (u.2.2.2.1 0).toInt (u.2.2.2.1 1).toInt r.toInt (u.2.2.2.1 2).toInt (u.2.2.2.1 3).toInt) ∧ (svQ (taub f0 x6.toInt) (u.2.2.2.1 0).toInt (u.2.2.2.1 1).toInt) ∧ (x0.toInt + r.toInt ≤ (u.2.2.2.1 0).toInt) ∧ ((u.2.2.2.1 2).toInt ≤ 4 - 4 * r.toInt ∧ (u.2.2.2.1 3).toInt ≤ 1600 - 1601 * r.toInt)) (gB D (va_A [(a0, .inr (4, [.ref a1, .ref a2, .int x0, .int x1, .int x2, .int x3, .int x4, .int x5])), (a1, .inr (9, [.ref a3, .int x6])), (a3, .inl (cB, 1600, .inl f0))] sz) (fun u : gEx => [(a0, .inr (4, [.ref a1, .ref a2, .int (u.2.2.2.1 0), .int (u.2.2.2.1 1), .int x2, .int x3, .int (u.2.2.2.1 2), .int (u.2.2.2.1 3)])), (a1, .inr (9, [.ref a3, .int x6])), (a3, .inl (cB, 1600, .inl f0))])) (va_A [(a0, .inr (4, [.ref a1, .ref a2, .int x0, .int x1, .int x2, .int x3, .int x4, .int x5])), (a1, .inr (9, [.ref a3, .int x6])), (a3, .inl (cB, 1600, .inl f0))] sz)) 0 0 (va_A [(a0, .inr (4, [.ref a1, .ref a2, .int x0, .int x1, .int x2, .int x3, .int x4, .int x5])), (a1, .inr (9, [.ref a3, .int x6])), (a3, .inl (cB, 1600, .inl f0))] sz) := by
  refine gOfT_z (by decide +kernel) (Nat.le_of_ble_eq_true rfl) ?_
  intro p e s m args below meth c ls A Q hx hb hts hown hml hN hK hP hD hA hl hF hret
  have hlen := s_len hi
  have hown : s.vm.findClass RX4 = some m.cls := hown
  have hS : va_S A s.heap s.heap [] := va_S.rf
  have hP : va_P D gcl [(a0, .inr (4, [.ref a1, .ref a2, .int x0, .int x1, .int x2, .int x3, .int x4, .int x5])), (a1, .inr (9, [.ref a3, .int x6])), (a3, .inl (cB, 1600, .inl f0))] s.heap := hP
  have hl : lv_has ls 2 [(0, .ref a0), (1, .ref (adK i))] := hl
  have rx3 := n_rng x3
  refine lv_aload_n (pc := 0) hx hb dX4_readWord_0 rfl (lv_at hl 0 rfl) ?_
  refine lv_aload_n (pc := 1) hx hb dX4_readWord_1 rfl (lv_at hl 1 rfl) ?_
  refine gc_i (pc := 2) (wc := [(a0, .inr (4, [.ref a1, .ref a2, .int x0, .int x1, .int x2, .int x3, .int x4, .int x5])), (a1, .inr (9, [.ref a3, .int x6])), (a3, .inl (cB, 1600, .inl f0))]) (wr := []) hP hD hS hA [0, 1, 2] [] rfl rfl (by decide) (by decide) (by decide) (fun hPc hDc => va_runV (As := [.ref (adK i)]) (rest := []) ⟨hx, hb, hml, hown, hts⟩ (k_X4_takesWord l D cB cC cI cJ _ adK adV i hi a0 a1 a2 a3 x0 x1 x2 x3 x4 x5 x6 f0 h_x0 h_x1 h_x2 h_x4 h_x5 h_x6 (hg_sv)) ⟨gcwB hts tw_548 tw_2 tw_545 hd_yX4_takesWord ⟨Nat.le_of_ble_eq_true rfl, Nat.le_of_ble_eq_true rfl⟩, hts _ tw_547, hts _ tp_5⟩ ⟨gblindT, va_recv hK hPc (ci := 4) (q0 := 0) rfl rfl, (gpreT hPc hK hDc hN hF hS (va_free (wc := [(a0, .inr (4, [.ref a1, .ref a2, .int x0, .int x1, .int x2, .int x3, .int x4, .int x5])), (a1, .inr (9, [.ref a3, .int x6])), (a3, .inl (cB, 1600, .inl f0))]) hD hS hA [0, 1, 2] rfl)).2⟩ rfl rfl hl.1 rfl (lv_room (Nat.le_of_ble_eq_true rfl)) dX4_readWord_2 ⟨Nat.le_of_ble_eq_true rfl, Nat.le_of_ble_eq_true rfl⟩) (fun r_2 u_1 H locs hw_3 hP hD hS => ?_)
  have hP : va_P D gcl [(a0, .inr (4, [.ref a1, .ref a2, .int (u_1.2.2.2.1 0), .int (u_1.2.2.2.1 1), .int x2, .int x3, .int x4, .int x5])), (a1, .inr (9, [.ref a3, .int x6])), (a3, .inl (cB, 1600, .inl f0))] H := hP
  have hD : va_D A [(a0, .inr (4, [.ref a1, .ref a2, .int (u_1.2.2.2.1 0), .int (u_1.2.2.2.1 1), .int x2, .int x3, .int x4, .int x5])), (a1, .inr (9, [.ref a3, .int x6])), (a3, .inl (cB, 1600, .inl f0))] := hD
  obtain ⟨hw_4, hw_5, hw_6, hw_7, hw_8, hw_9⟩ := hw_3
  have hw_4 : (0 ≤ r_2.toInt ∧ r_2.toInt ≤ 1) := hw_4
  have hw_5 : (0 ≤ (u_1.2.2.2.1 0).toInt ∧ (u_1.2.2.2.1 0).toInt ≤ 1600) := hw_5
  have hw_6 : ((-1) ≤ (u_1.2.2.2.1 1).toInt ∧ (u_1.2.2.2.1 1).toInt ≤ 255) := hw_6
  have hw_7 : (twQ (taub f0 x6.toInt) x0.toInt x1.toInt (wL.getD i []) (u_1.2.2.2.1 0).toInt (u_1.2.2.2.1 1).toInt r_2.toInt) := hw_7
  have hw_8 : (svQ (taub f0 x6.toInt) (u_1.2.2.2.1 0).toInt (u_1.2.2.2.1 1).toInt) := hw_8
  have hw_9 : (x0.toInt + r_2.toInt ≤ (u_1.2.2.2.1 0).toInt) := hw_9
  have rr_2 := n_rng r_2
  refine b_if_ne (pc := 5) (tgt := 15) hx hb rfl  dX4_readWord_5 (by decide) (fun c_10 => ?_) (fun c_10 => ?_)
  ·
    refine lv_iconst (pc := 15) (v := 1) hx hb dX4_readWord_15 (by decide) ?_
    refine lv_goto (pc := 16) (tgt := 20) hx hb dX4_readWord_16 (by decide) ?_
    have k9 := tI_1
    exact hret 1 ((fun _ => 0), (fun _ => (fun _ => 0)), (fun _ => (fun _ => 0)), (fun k => [(u_1.2.2.2.1 0), (u_1.2.2.2.1 1), x4, x5].getD k 0), (fun _ => 0)) dX4_readWord_20 ⟨(by have k9 := tI_1; omega), ⟨(show (0 ≤ (1 : Int32).toInt ∧ (1 : Int32).toInt ≤ 1) from (n_c tI_1 (by decide))), (show (0 ≤ ((u_1.2.2.2.1 0) : Int32).toInt ∧ ((u_1.2.2.2.1 0) : Int32).toInt ≤ 1600) from hw_5), (show ((-1) ≤ ((u_1.2.2.2.1 1) : Int32).toInt ∧ ((u_1.2.2.2.1 1) : Int32).toInt ≤ 255) from hw_6), (show (0 ≤ (x4 : Int32).toInt ∧ (x4 : Int32).toInt ≤ 4) from h_x4), (show ((-1) ≤ (x5 : Int32).toInt ∧ (x5 : Int32).toInt ≤ 1600) from h_x5), (show rwQ (taub f0 x6.toInt) x0.toInt x1.toInt (wL.getD i []) (u_1.2.2.2.1 0).toInt (u_1.2.2.2.1 1).toInt (1 : Int32).toInt x4.toInt x5.toInt from rw_yes hw_7 (by omega) (by omega)), (show svQ (taub f0 x6.toInt) (u_1.2.2.2.1 0).toInt (u_1.2.2.2.1 1).toInt from hw_8), (show x0.toInt + (1 : Int32).toInt ≤ (u_1.2.2.2.1 0).toInt by have k9 := tI_1; omega), (show x4.toInt ≤ 4 - 4 * (1 : Int32).toInt ∧ x5.toInt ≤ 1600 - 1601 * (1 : Int32).toInt by have k9 := tI_1; omega)⟩⟩ (g_psub (wc := [(a0, .inr (4, [.ref a1, .ref a2, .int (u_1.2.2.2.1 0), .int (u_1.2.2.2.1 1), .int x2, .int x3, .int x4, .int x5])), (a1, .inr (9, [.ref a3, .int x6])), (a3, .inl (cB, 1600, .inl f0))]) hP [0, 1, 2] rfl) (hD.sub (ws' := [(a0, .inr (4, [.ref a1, .ref a2, .int (u_1.2.2.2.1 0), .int (u_1.2.2.2.1 1), .int x2, .int x3, .int x4, .int x5])), (a1, .inr (9, [.ref a3, .int x6])), (a3, .inl (cB, 1600, .inl f0))]) [0, 1, 2] (by decide) rfl) hS
  ·
    refine lv_aload_n (pc := 8) hx hb dX4_readWord_8 rfl (lv_at hl 0 rfl) ?_
    refine gc_i (pc := 9) (wc := [(a0, .inr (4, [.ref a1, .ref a2, .int (u_1.2.2.2.1 0), .int (u_1.2.2.2.1 1), .int x2, .int x3, .int x4, .int x5]))]) (wr := [(a1, .inr (9, [.ref a3, .int x6])), (a3, .inl (cB, 1600, .inl f0))]) hP hD hS hA [0] [1, 2] rfl rfl (by decide) (by decide) (by decide) (fun hPc hDc => va_runV (As := []) (rest := []) ⟨hx, hb, hml, hown, hts⟩ (k_X4_failHere l D cB cC cI cJ _ a0 a1 a2 (u_1.2.2.2.1 0) (u_1.2.2.2.1 1) x2 x3 x4 x5 hw_5 hw_6 h_x2 h_x4 h_x5) ⟨gcwB hts tw_531 tw_2 tw_528 hd_yX4_failHere ⟨Nat.le_of_ble_eq_true rfl, Nat.le_of_ble_eq_true rfl⟩, hts _ tw_530, hts _ tp_1⟩ ⟨gblind, va_recv hK hPc (ci := 4) (q0 := 0) rfl rfl, (gpreS hPc hK hDc hN).2⟩ rfl rfl hl.1 rfl (lv_room (Nat.le_of_ble_eq_true rfl)) dX4_readWord_9 ⟨Nat.le_of_ble_eq_true rfl, Nat.le_of_ble_eq_true rfl⟩) (fun r_12 u_11 H locs hw_13 hP hD hS => ?_)
    have hP : va_P D gcl [(a1, .inr (9, [.ref a3, .int x6])), (a3, .inl (cB, 1600, .inl f0)), (a0, .inr (4, [.ref a1, .ref a2, .int (u_1.2.2.2.1 0), .int (u_1.2.2.2.1 1), .int x2, .int x3, .int 1, .int (u_1.2.2.2.1 0)]))] H := hP
    have hD : va_D A [(a1, .inr (9, [.ref a3, .int x6])), (a3, .inl (cB, 1600, .inl f0)), (a0, .inr (4, [.ref a1, .ref a2, .int (u_1.2.2.2.1 0), .int (u_1.2.2.2.1 1), .int x2, .int x3, .int 1, .int (u_1.2.2.2.1 0)]))] := hD
    have hw_14 : (0 ≤ r_12.toInt ∧ r_12.toInt ≤ 0) := hw_13
    have rr_12 := n_rng r_12
    refine b_if_eq (pc := 12) (tgt := 19) hx hb rfl  dX4_readWord_12 (by decide) (fun c_15 => ?_) (fun c_15 => absurd c_15 (by omega))
    refine lv_iconst (pc := 19) (v := 0) hx hb dX4_readWord_19 (by decide) ?_
    have k9 := tI_0
    have k8_0 := tI_1
    exact hret 0 ((fun _ => 0), (fun _ => (fun _ => 0)), (fun _ => (fun _ => 0)), (fun k => [(u_1.2.2.2.1 0), (u_1.2.2.2.1 1), 1, (u_1.2.2.2.1 0)].getD k 0), (fun _ => 0)) dX4_readWord_20 ⟨(by have k9 := tI_0; have k8_0 := tI_1; omega), ⟨(show (0 ≤ (0 : Int32).toInt ∧ (0 : Int32).toInt ≤ 1) from (n_c tI_0 (by decide))), (show (0 ≤ ((u_1.2.2.2.1 0) : Int32).toInt ∧ ((u_1.2.2.2.1 0) : Int32).toInt ≤ 1600) from hw_5), (show ((-1) ≤ ((u_1.2.2.2.1 1) : Int32).toInt ∧ ((u_1.2.2.2.1 1) : Int32).toInt ≤ 255) from hw_6), (show (0 ≤ (1 : Int32).toInt ∧ (1 : Int32).toInt ≤ 4) from (n_c tI_1 (by decide))), (show ((-1) ≤ ((u_1.2.2.2.1 0) : Int32).toInt ∧ ((u_1.2.2.2.1 0) : Int32).toInt ≤ 1600) by have k9 := tI_0; have k8_0 := tI_1; omega), (show rwQ (taub f0 x6.toInt) x0.toInt x1.toInt (wL.getD i []) (u_1.2.2.2.1 0).toInt (u_1.2.2.2.1 1).toInt (0 : Int32).toInt (1 : Int32).toInt (u_1.2.2.2.1 0).toInt from rw_no hw_7 (by omega) (by omega) (by omega) (by omega)), (show svQ (taub f0 x6.toInt) (u_1.2.2.2.1 0).toInt (u_1.2.2.2.1 1).toInt from hw_8), (show x0.toInt + (0 : Int32).toInt ≤ (u_1.2.2.2.1 0).toInt by have k9 := tI_0; have k8_0 := tI_1; omega), (show (1 : Int32).toInt ≤ 4 - 4 * (0 : Int32).toInt ∧ (u_1.2.2.2.1 0).toInt ≤ 1600 - 1601 * (0 : Int32).toInt by have k9 := tI_0; have k8_0 := tI_1; omega)⟩⟩ (g_psub (wc := [(a0, .inr (4, [.ref a1, .ref a2, .int (u_1.2.2.2.1 0), .int (u_1.2.2.2.1 1), .int x2, .int x3, .int 1, .int (u_1.2.2.2.1 0)])), (a1, .inr (9, [.ref a3, .int x6])), (a3, .inl (cB, 1600, .inl f0))]) hP [2, 0, 1] rfl) (hD.sub (ws' := [(a0, .inr (4, [.ref a1, .ref a2, .int (u_1.2.2.2.1 0), .int (u_1.2.2.2.1 1), .int x2, .int x3, .int 1, .int (u_1.2.2.2.1 0)])), (a1, .inr (9, [.ref a3, .int x6])), (a3, .inl (cB, 1600, .inl f0))]) [2, 0, 1] (by decide) rfl) hS
