set_option maxHeartbeats 4000000 in
set_option maxRecDepth 100000 in
theorem whole_start {p : Program} {e : Env} {s : State} {m : MethodId} {below : List Frame} {meth : Method} {c : Code} (l : Launch) {b L : Nat} {xs : Nat → Int32} (hL : L ≤ 6) (C0 : lw_At p s m meth c b L xs) : W p l e room_1 s m #[Value.ref b] below meth c s.heap [] 0 0 (lw_Z below #[Value.ref b] s) (entryFrame m ([Value.ref b] : List Value).toArray 4) := by
  obtain ⟨hx, hb, hr, hml, hown, hts0, hX, hbl, hlocks, hgv⟩ := id C0
  have hts := g_tbl hts0
  have hN := gNw.of hts0
  have hA : ∀ q : Nat, s.heap.size ≤ q → (fun q : Nat => s.heap.size ≤ q) q := fun _ h => h
  have hbA : ¬ (fun q : Nat => s.heap.size ≤ q) b := Nat.not_le.mpr hbl
  obtain ⟨D, hKc⟩ := g_known hts
  obtain ⟨cB, hcB1, hcB2⟩ := g_arr1 (hts _ tw_49)
  obtain ⟨cC, hcC1, hcC2⟩ := g_arr1 (hts _ tw_1621)
  obtain ⟨cI, hcI1, hcI2⟩ := g_arr1 (hts _ tw_66)
  obtain ⟨cJ, hcJ1, hcJ2⟩ := g_arr1 (hts _ tw_241)
  have hK : va_K D gcl [(cB, .byte), (cC, .char), (cI, .int), (cJ, .long)] s := ⟨hKc, fun k q h => by
    match k, h with
    | 0, h => cases h; exact ⟨hcB1, hcB2⟩
    | 1, h => cases h; exact ⟨hcC1, hcC2⟩
    | 2, h => cases h; exact ⟨hcI1, hcI2⟩
    | 3, h => cases h; exact ⟨hcJ1, hcJ2⟩
    | k + 4, h => simp at h⟩
  have hS : va_S (fun q : Nat => s.heap.size ≤ q) s.heap s.heap [] := va_S.rf
  have hP : va_P D gcl [] s.heap := fun k q h => by simp at h
  have hD : va_D (fun q : Nat => s.heap.size ≤ q) [] := ⟨fun i j p q h => by simp at h, fun k q h => by simp at h⟩
  have hl := lv_entry ([.ref b]) (n := 4) (Nat.le_of_ble_eq_true rfl)
  rw [lg_entry_eq]
  generalize (lg_sl ([.ref b]) ++ List.replicate (4 - (lg_sl ([.ref b])).length) Slot.unset).toArray = ls at hl ⊢
  have hl : lv_has ls 4 [(0, .ref b)] := hl
  refine va_new (pc := 0) (ci := 11) (fs := [.null, .null, .null, .null, .null, .null, .null, .null, .null, .null, .int 0, .null, .null, .null]) (C := RX11) (T := TX11) (N := 14) hx hb hts iX11 tyX11 tyX11_ok hown (hts _ tw_22) (hts _ tw_23) (hts _ tw_1) hK hP hD hS hA rfl (gdv_X11) (Nat.le_of_ble_eq_true rfl) (Nat.le_of_ble_eq_true rfl) dL_law_0 (fun q0 H hP hD hS => ?_)
  have hP : va_P D gcl [(q0, .inr (11, [.null, .null, .null, .null, .null, .null, .null, .null, .null, .null, .int 0, .null, .null, .null]))] H := hP
  have hD : va_D (fun q : Nat => s.heap.size ≤ q) [(q0, .inr (11, [.null, .null, .null, .null, .null, .null, .null, .null, .null, .null, .int 0, .null, .null, .null]))] := hD
  refine lv_dup (pc := 3) hx hb dL_law_3 rfl ?_
  refine gc_v (pc := 4) (wc := [(q0, .inr (11, [.null, .null, .null, .null, .null, .null, .null, .null, .null, .null, .int 0, .null, .null, .null]))]) (wr := []) hP hD hS hA [0] [] rfl rfl (by decide) (by decide) (by decide) (fun hPc hDc => va_runI (As := []) (rest := [.ref q0]) ⟨hx, hb, hml, hown, hts⟩ (cc_13_yX11_init l D cB cC cI cJ _ q0) ⟨gcwB hts tw_26 tw_1 tw_24 hd_yX11_init ⟨Nat.le_of_ble_eq_true rfl, Nat.le_of_ble_eq_true rfl⟩, rfl, hts _ tw_25⟩ (gpreS hPc hK hDc hN) rfl rfl hl.1 rfl (lv_room (Nat.le_of_ble_eq_true rfl)) dL_law_4 ⟨Nat.le_of_ble_eq_true rfl, Nat.le_of_ble_eq_true rfl⟩) (fun u H locs hw hP hD hS => ?_)
  have hP : va_P D gcl (lwX cB cC cI cJ q0 u) H := hP
  have hD : va_D (fun q : Nat => s.heap.size ≤ q) (lwX cB cC cI cJ q0 u) := hD
  refine lv_astore_n (pc := 7) (lv' := [(1, .ref q0), (0, .ref b)]) hx hb dL_law_7 rfl hl (by decide) rfl (fun ls hl => ?_)
  refine va_new (pc := 8) (ci := 12) (fs := [.null, .int 0, .int 0, .int 0, .int 0, .int 0, .int 0, .int 0, .int 0, .null, .null, .null, .null, .null, .null, .null, .null, .null, .null, .null, .null, .null, .null, .null, .int 0, .int 0, .int 0, .int 0, .int 0, .int 0, .null, .null, .null, .int 0, .null, .int 0, .null, .int 0, .int 0, .null, .null, .null, .null, .int 0, .null, .int 0, .null, .null, .null, .long 0, .null, .null, .null, .null, .null, .null, .null, .null, .null, .int 0, .int 0, .int 0, .long 0, .null, .int 0, .null, .null, .null, .null, .int 0, .int 0, .int 0, .int 0]) (C := RX12) (T := TX12) (N := 73) hx hb hts iX12 tyX12 tyX12_ok hown (hts _ tw_1395) (hts _ tw_1396) (hts _ tw_14) hK hP hD hS hA rfl (gdv_X12) (Nat.le_of_ble_eq_true rfl) (Nat.le_of_ble_eq_true rfl) dL_law_8 (fun q1 H hP hD hS => ?_)
  refine lv_dup (pc := 11) hx hb dL_law_11 rfl ?_
  refine gc_v (pc := 12) (wc := [(q1, .inr (12, [.null, .int 0, .int 0, .int 0, .int 0, .int 0, .int 0, .int 0, .int 0, .null, .null, .null, .null, .null, .null, .null, .null, .null, .null, .null, .null, .null, .null, .null, .int 0, .int 0, .int 0, .int 0, .int 0, .int 0, .null, .null, .null, .int 0, .null, .int 0, .null, .int 0, .int 0, .null, .null, .null, .null, .int 0, .null, .int 0, .null, .null, .null, .long 0, .null, .null, .null, .null, .null, .null, .null, .null, .null, .int 0, .int 0, .int 0, .long 0, .null, .int 0, .null, .null, .null, .null, .int 0, .int 0, .int 0, .int 0]))]) (wr := lwX cB cC cI cJ q0 u) hP hD hS hA [82] [0, 1, 2, 3, 4, 5, 6, 7, 8, 9, 10, 11, 12, 13, 14, 15, 16, 17, 18, 19, 20, 21, 22, 23, 24, 25, 26, 27, 28, 29, 30, 31, 32, 33, 34, 35, 36, 37, 38, 39, 40, 41, 42, 43, 44, 45, 46, 47, 48, 49, 50, 51, 52, 53, 54, 55, 56, 57, 58, 59, 60, 61, 62, 63, 64, 65, 66, 67, 68, 69, 70, 71, 72, 73, 74, 75, 76, 77, 78, 79, 80, 81] rfl rfl (by decide) (by decide) (by decide) (fun hPc hDc => va_runI (As := []) (rest := [.ref q1]) ⟨hx, hb, hml, hown, hts⟩ (cc_14_yX12_init l D cB cC cI cJ _ q1) ⟨gcwB hts tw_1399 tw_14 tw_1397 hd_yX12_init ⟨Nat.le_of_ble_eq_true rfl, Nat.le_of_ble_eq_true rfl⟩, rfl, hts _ tw_1398⟩ (gpreS hPc hK hDc hN) rfl rfl hl.1 rfl (lv_room (Nat.le_of_ble_eq_true rfl)) dL_law_12 ⟨Nat.le_of_ble_eq_true rfl, Nat.le_of_ble_eq_true rfl⟩) (fun v H locs hw hP hD hS => ?_)
  have hP : va_P D gcl (lwX cB cC cI cJ q0 u ++ lwM cB cC cI cJ q1 v) H := hP
  have hD : va_D (fun q : Nat => s.heap.size ≤ q) (lwX cB cC cI cJ q0 u ++ lwM cB cC cI cJ q1 v) := hD
  refine lv_astore_n (pc := 15) (lv' := [(2, .ref q1), (1, .ref q0), (0, .ref b)]) hx hb dL_law_15 rfl hl (by decide) rfl (fun ls hl => ?_)
  refine lv_iconst (pc := 16) (v := 0) hx hb dL_law_16 (by decide) ?_
  refine lv_istore_n (pc := 17) (lv' := [(3, .int 0), (2, .ref q1), (1, .ref q0), (0, .ref b)]) hx hb dL_law_17 rfl hl (by decide) rfl (fun ls hl => ?_)
  refine lv_iload_n (pc := 18) hx hb dL_law_18 rfl (lv_at hl 0 rfl) ?_
  refine lv_aload_n (pc := 19) hx hb dL_law_19 rfl (lv_at hl 3 rfl) ?_
  refine va_slen (pc := 20) hx hb hX hbl hbA hS dL_law_20 ?_
  refine lv_bipush (pc := 21) (v := 6) hx hb dL_law_21 (by decide) ?_
  refine lv_isub (pc := 23) hx hb dL_law_23 ?_
  rcases (show L = 6 ∨ L < 6 by omega) with h6 | h6
  rotate_left
  · have hneg : (0 : Int32) > Int32.ofNat L - 6 := by
      rcases (show L = 0 ∨ L = 1 ∨ L = 2 ∨ L = 3 ∨ L = 4 ∨ L = 5 by omega) with h | h | h | h | h | h <;> rw [h] <;> decide +kernel
    refine lv_icmp_gt (pc := 24) (tgt := 1538) hx hb dL_law_24 (by decide) (fun _ => ?_) (fun c => absurd hneg c)
    refine lv_iconst (pc := 1538) (v := 1) hx hb dL_law_1538 (by decide) ?_
    refine va_forget (fun q hq => hS.2.2 q hq) ?_
    refine W.widen (k := 600000) (n := 7302250) (Nat.le_of_ble_eq_true rfl) (Nat.le_of_ble_eq_true rfl) ?_
    exact lw_ret hx hb hr hlocks dL_law_1539
  subst h6
  refine gI (y := 0) (by decide +kernel) ?_
  refine lv_icmp_gt (pc := 24) (tgt := 1538) hx hb dL_law_24 (by decide) (fun c => absurd c (by decide +kernel)) (fun _ => ?_)
  refine lv_aload_n (pc := 27) hx hb dL_law_27 rfl (lv_at hl 3 rfl) ?_
  refine lv_iload_n (pc := 28) hx hb dL_law_28 rfl (lv_at hl 0 rfl) ?_
  refine va_sld (pc := 29) hx hb hX hbl hbA hS (gin rfl) dL_law_29 ?_
  refine lv_bipush (pc := 30) (v := 63) hx hb dL_law_30 (by decide) ?_
  refine lv_iand (pc := 32) hx hb dL_law_32 ?_
  refine W.widen (k := 126) (n := 15724) (Nat.le_of_ble_eq_true rfl) (Nat.le_of_ble_eq_true rfl) ?_
  refine lv_topi (fun z ez => ?_)
  clear ez
  by_cases h0 : z = 0
  · subst h0
    refine lv_tableIn (pc := 33) (off := 195) (tgt := 228) hx hb dL_law_33 (by decide +kernel) (by decide +kernel) (by decide +kernel) (by decide) ?_
    exact lo_0 C0 hK q0 q1 u v H locs hP hD hS ls hl
  by_cases h1 : z = 1
  · subst h1
    refine lv_tableIn (pc := 33) (off := 258) (tgt := 291) hx hb dL_law_33 (by decide +kernel) (by decide +kernel) (by decide +kernel) (by decide) ?_
    exact lo_1 C0 hK q0 q1 u v H locs hP hD hS ls hl
  by_cases h2 : z = 2
  · subst h2
    refine lv_tableIn (pc := 33) (off := 281) (tgt := 314) hx hb dL_law_33 (by decide +kernel) (by decide +kernel) (by decide +kernel) (by decide) ?_
    exact lo_2 C0 hK q0 q1 u v H locs hP hD hS ls hl
  by_cases h3 : z = 3
  · subst h3
    refine lv_tableIn (pc := 33) (off := 294) (tgt := 327) hx hb dL_law_33 (by decide +kernel) (by decide +kernel) (by decide +kernel) (by decide) ?_
    exact lo_3 C0 hK q0 q1 u v H locs hP hD hS ls hl
  by_cases h4 : z = 4
  · subst h4
    refine lv_tableIn (pc := 33) (off := 317) (tgt := 350) hx hb dL_law_33 (by decide +kernel) (by decide +kernel) (by decide +kernel) (by decide) ?_
    exact lo_4 C0 hK q0 q1 u v H locs hP hD hS ls hl
  by_cases h5 : z = 5
  · subst h5
    refine lv_tableIn (pc := 33) (off := 340) (tgt := 373) hx hb dL_law_33 (by decide +kernel) (by decide +kernel) (by decide +kernel) (by decide) ?_
    exact lo_5 C0 hK q0 q1 u v H locs hP hD hS ls hl
  by_cases h6 : z = 6
  · subst h6
    refine lv_tableIn (pc := 33) (off := 399) (tgt := 432) hx hb dL_law_33 (by decide +kernel) (by decide +kernel) (by decide +kernel) (by decide) ?_
    exact lo_6 C0 hK q0 q1 u v H locs hP hD hS ls hl
  by_cases h7 : z = 7
  · subst h7
    refine lv_tableIn (pc := 33) (off := 458) (tgt := 491) hx hb dL_law_33 (by decide +kernel) (by decide +kernel) (by decide +kernel) (by decide) ?_
    exact lo_7 C0 hK q0 q1 u v H locs hP hD hS ls hl
  by_cases h8 : z = 8
  · subst h8
    refine lv_tableIn (pc := 33) (off := 471) (tgt := 504) hx hb dL_law_33 (by decide +kernel) (by decide +kernel) (by decide +kernel) (by decide) ?_
    exact lo_8 C0 hK q0 q1 u v H locs hP hD hS ls hl
  by_cases h9 : z = 9
  · subst h9
    refine lv_tableIn (pc := 33) (off := 494) (tgt := 527) hx hb dL_law_33 (by decide +kernel) (by decide +kernel) (by decide +kernel) (by decide) ?_
    exact lo_9 C0 hK q0 q1 u v H locs hP hD hS ls hl
  by_cases h10 : z = 10
  · subst h10
    refine lv_tableIn (pc := 33) (off := 507) (tgt := 540) hx hb dL_law_33 (by decide +kernel) (by decide +kernel) (by decide +kernel) (by decide) ?_
    exact lo_10 C0 hK q0 q1 u v H locs hP hD hS ls hl
  by_cases h11 : z = 11
  · subst h11
    refine lv_tableIn (pc := 33) (off := 521) (tgt := 554) hx hb dL_law_33 (by decide +kernel) (by decide +kernel) (by decide +kernel) (by decide) ?_
    exact lo_11 C0 hK q0 q1 u v H locs hP hD hS ls hl
  by_cases h12 : z = 12
  · subst h12
    refine lv_tableIn (pc := 33) (off := 554) (tgt := 587) hx hb dL_law_33 (by decide +kernel) (by decide +kernel) (by decide +kernel) (by decide) ?_
    exact lo_12 C0 hK q0 q1 u v H locs hP hD hS ls hl
  by_cases h13 : z = 13
  · subst h13
    refine lv_tableIn (pc := 33) (off := 587) (tgt := 620) hx hb dL_law_33 (by decide +kernel) (by decide +kernel) (by decide +kernel) (by decide) ?_
    exact lo_13 C0 hK q0 q1 u v H locs hP hD hS ls hl
  by_cases h14 : z = 14
  · subst h14
    refine lv_tableIn (pc := 33) (off := 611) (tgt := 644) hx hb dL_law_33 (by decide +kernel) (by decide +kernel) (by decide +kernel) (by decide) ?_
    exact lo_14 C0 hK q0 q1 u v H locs hP hD hS ls hl
  by_cases h15 : z = 15
  · subst h15
    refine lv_tableIn (pc := 33) (off := 664) (tgt := 697) hx hb dL_law_33 (by decide +kernel) (by decide +kernel) (by decide +kernel) (by decide) ?_
    exact lo_15 C0 hK q0 q1 u v H locs hP hD hS ls hl
  by_cases h16 : z = 16
  · subst h16
    refine lv_tableIn (pc := 33) (off := 687) (tgt := 720) hx hb dL_law_33 (by decide +kernel) (by decide +kernel) (by decide +kernel) (by decide) ?_
    exact lo_16 C0 hK q0 q1 u v H locs hP hD hS ls hl
  by_cases h17 : z = 17
  · subst h17
    refine lv_tableIn (pc := 33) (off := 710) (tgt := 743) hx hb dL_law_33 (by decide +kernel) (by decide +kernel) (by decide +kernel) (by decide) ?_
    exact lo_17 C0 hK q0 q1 u v H locs hP hD hS ls hl
  by_cases h18 : z = 18
  · subst h18
    refine lv_tableIn (pc := 33) (off := 724) (tgt := 757) hx hb dL_law_33 (by decide +kernel) (by decide +kernel) (by decide +kernel) (by decide) ?_
    exact lo_18 C0 hK q0 q1 u v H locs hP hD hS ls hl
  by_cases h19 : z = 19
  · subst h19
    refine lv_tableIn (pc := 33) (off := 758) (tgt := 791) hx hb dL_law_33 (by decide +kernel) (by decide +kernel) (by decide +kernel) (by decide) ?_
    exact lo_19 C0 hK q0 q1 u v H locs hP hD hS ls hl
  by_cases h20 : z = 20
  · subst h20
    refine lv_tableIn (pc := 33) (off := 791) (tgt := 824) hx hb dL_law_33 (by decide +kernel) (by decide +kernel) (by decide +kernel) (by decide) ?_
    exact lo_20 C0 hK q0 q1 u v H locs hP hD hS ls hl
  by_cases h21 : z = 21
  · subst h21
    refine lv_tableIn (pc := 33) (off := 815) (tgt := 848) hx hb dL_law_33 (by decide +kernel) (by decide +kernel) (by decide +kernel) (by decide) ?_
    exact lo_21 C0 hK q0 q1 u v H locs hP hD hS ls hl
  by_cases h22 : z = 22
  · subst h22
    refine lv_tableIn (pc := 33) (off := 838) (tgt := 871) hx hb dL_law_33 (by decide +kernel) (by decide +kernel) (by decide +kernel) (by decide) ?_
    exact lo_22 C0 hK q0 q1 u v H locs hP hD hS ls hl
  by_cases h23 : z = 23
  · subst h23
    refine lv_tableIn (pc := 33) (off := 851) (tgt := 884) hx hb dL_law_33 (by decide +kernel) (by decide +kernel) (by decide +kernel) (by decide) ?_
    exact lo_23 C0 hK q0 q1 u v H locs hP hD hS ls hl
  by_cases h24 : z = 24
  · subst h24
    refine lv_tableIn (pc := 33) (off := 864) (tgt := 897) hx hb dL_law_33 (by decide +kernel) (by decide +kernel) (by decide +kernel) (by decide) ?_
    exact lo_24 C0 hK q0 q1 u v H locs hP hD hS ls hl
  by_cases h25 : z = 25
  · subst h25
    refine lv_tableIn (pc := 33) (off := 898) (tgt := 931) hx hb dL_law_33 (by decide +kernel) (by decide +kernel) (by decide +kernel) (by decide) ?_
    exact lo_25 C0 hK q0 q1 u v H locs hP hD hS ls hl
  by_cases h26 : z = 26
  · subst h26
    refine lv_tableIn (pc := 33) (off := 931) (tgt := 964) hx hb dL_law_33 (by decide +kernel) (by decide +kernel) (by decide +kernel) (by decide) ?_
    exact lo_26 C0 hK q0 q1 u v H locs hP hD hS ls hl
  by_cases h27 : z = 27
  · subst h27
    refine lv_tableIn (pc := 33) (off := 990) (tgt := 1023) hx hb dL_law_33 (by decide +kernel) (by decide +kernel) (by decide +kernel) (by decide) ?_
    exact lo_27 C0 hK q0 q1 u v H locs hP hD hS ls hl
  by_cases h28 : z = 28
  · subst h28
    refine lv_tableIn (pc := 33) (off := 1029) (tgt := 1062) hx hb dL_law_33 (by decide +kernel) (by decide +kernel) (by decide +kernel) (by decide) ?_
    exact lo_28 C0 hK q0 q1 u v H locs hP hD hS ls hl
  by_cases h29 : z = 29
  · subst h29
    refine lv_tableIn (pc := 33) (off := 1069) (tgt := 1102) hx hb dL_law_33 (by decide +kernel) (by decide +kernel) (by decide +kernel) (by decide) ?_
    exact lo_29 C0 hK q0 q1 u v H locs hP hD hS ls hl
  by_cases h30 : z = 30
  · subst h30
    refine lv_tableIn (pc := 33) (off := 1113) (tgt := 1146) hx hb dL_law_33 (by decide +kernel) (by decide +kernel) (by decide +kernel) (by decide) ?_
    exact lo_30 C0 hK q0 q1 u v H locs hP hD hS ls hl
  by_cases h31 : z = 31
  · subst h31
    refine lv_tableIn (pc := 33) (off := 1137) (tgt := 1170) hx hb dL_law_33 (by decide +kernel) (by decide +kernel) (by decide +kernel) (by decide) ?_
    exact lo_31 C0 hK q0 q1 u v H locs hP hD hS ls hl
  by_cases h32 : z = 32
  · subst h32
    refine lv_tableIn (pc := 33) (off := 1170) (tgt := 1203) hx hb dL_law_33 (by decide +kernel) (by decide +kernel) (by decide +kernel) (by decide) ?_
    exact lo_32 C0 hK q0 q1 u v H locs hP hD hS ls hl
  by_cases h33 : z = 33
  · subst h33
    refine lv_tableIn (pc := 33) (off := 1194) (tgt := 1227) hx hb dL_law_33 (by decide +kernel) (by decide +kernel) (by decide +kernel) (by decide) ?_
    exact lo_33 C0 hK q0 q1 u v H locs hP hD hS ls hl
  by_cases h34 : z = 34
  · subst h34
    refine lv_tableIn (pc := 33) (off := 1207) (tgt := 1240) hx hb dL_law_33 (by decide +kernel) (by decide +kernel) (by decide +kernel) (by decide) ?_
    exact lo_34 C0 hK q0 q1 u v H locs hP hD hS ls hl
  by_cases h35 : z = 35
  · subst h35
    refine lv_tableIn (pc := 33) (off := 1231) (tgt := 1264) hx hb dL_law_33 (by decide +kernel) (by decide +kernel) (by decide +kernel) (by decide) ?_
    exact lo_35 C0 hK q0 q1 u v H locs hP hD hS ls hl
  by_cases h36 : z = 36
  · subst h36
    refine lv_tableIn (pc := 33) (off := 1254) (tgt := 1287) hx hb dL_law_33 (by decide +kernel) (by decide +kernel) (by decide +kernel) (by decide) ?_
    exact lo_36 C0 hK q0 q1 u v H locs hP hD hS ls hl
  by_cases h37 : z = 37
  · subst h37
    refine lv_tableIn (pc := 33) (off := 1287) (tgt := 1320) hx hb dL_law_33 (by decide +kernel) (by decide +kernel) (by decide +kernel) (by decide) ?_
    exact lo_37 C0 hK q0 q1 u v H locs hP hD hS ls hl
  by_cases h38 : z = 38
  · subst h38
    refine lv_tableIn (pc := 33) (off := 1327) (tgt := 1360) hx hb dL_law_33 (by decide +kernel) (by decide +kernel) (by decide +kernel) (by decide) ?_
    exact lo_38 C0 hK q0 q1 u v H locs hP hD hS ls hl
  by_cases h39 : z = 39
  · subst h39
    refine lv_tableIn (pc := 33) (off := 1341) (tgt := 1374) hx hb dL_law_33 (by decide +kernel) (by decide +kernel) (by decide +kernel) (by decide) ?_
    exact lo_39 C0 hK q0 q1 u v H locs hP hD hS ls hl
  by_cases h40 : z = 40
  · subst h40
    refine lv_tableIn (pc := 33) (off := 1364) (tgt := 1397) hx hb dL_law_33 (by decide +kernel) (by decide +kernel) (by decide +kernel) (by decide) ?_
    exact lo_40 C0 hK q0 q1 u v H locs hP hD hS ls hl
  by_cases h41 : z = 41
  · subst h41
    refine lv_tableIn (pc := 33) (off := 1387) (tgt := 1420) hx hb dL_law_33 (by decide +kernel) (by decide +kernel) (by decide +kernel) (by decide) ?_
    exact lo_41 C0 hK q0 q1 u v H locs hP hD hS ls hl
  by_cases h42 : z = 42
  · subst h42
    refine lv_tableIn (pc := 33) (off := 1450) (tgt := 1483) hx hb dL_law_33 (by decide +kernel) (by decide +kernel) (by decide +kernel) (by decide) ?_
    exact lo_42 C0 hK q0 q1 u v H locs hP hD hS ls hl
  by_cases h43 : z = 43
  · subst h43
    refine lv_tableIn (pc := 33) (off := 1463) (tgt := 1496) hx hb dL_law_33 (by decide +kernel) (by decide +kernel) (by decide +kernel) (by decide) ?_
    exact lo_43 C0 hK q0 q1 u v H locs hP hD hS ls hl
  by_cases h44 : z = 44
  · subst h44
    refine lv_tableIn (pc := 33) (off := 1486) (tgt := 1519) hx hb dL_law_33 (by decide +kernel) (by decide +kernel) (by decide +kernel) (by decide) ?_
    exact lo_44 C0 hK q0 q1 u v H locs hP hD hS ls hl
  have ho : z.toInt < 0 ∨ 44 < z.toInt := by (have t0 := lv_neT h0 (show (0 : Int32).toInt = 0 by decide +kernel); have t1 := lv_neT h1 (show (1 : Int32).toInt = 1 by decide +kernel); have t2 := lv_neT h2 (show (2 : Int32).toInt = 2 by decide +kernel); have t3 := lv_neT h3 (show (3 : Int32).toInt = 3 by decide +kernel); have t4 := lv_neT h4 (show (4 : Int32).toInt = 4 by decide +kernel); have t5 := lv_neT h5 (show (5 : Int32).toInt = 5 by decide +kernel); have t6 := lv_neT h6 (show (6 : Int32).toInt = 6 by decide +kernel); have t7 := lv_neT h7 (show (7 : Int32).toInt = 7 by decide +kernel); have t8 := lv_neT h8 (show (8 : Int32).toInt = 8 by decide +kernel); have t9 := lv_neT h9 (show (9 : Int32).toInt = 9 by decide +kernel); have t10 := lv_neT h10 (show (10 : Int32).toInt = 10 by decide +kernel); have t11 := lv_neT h11 (show (11 : Int32).toInt = 11 by decide +kernel); have t12 := lv_neT h12 (show (12 : Int32).toInt = 12 by decide +kernel); have t13 := lv_neT h13 (show (13 : Int32).toInt = 13 by decide +kernel); have t14 := lv_neT h14 (show (14 : Int32).toInt = 14 by decide +kernel); have t15 := lv_neT h15 (show (15 : Int32).toInt = 15 by decide +kernel); have t16 := lv_neT h16 (show (16 : Int32).toInt = 16 by decide +kernel); have t17 := lv_neT h17 (show (17 : Int32).toInt = 17 by decide +kernel); have t18 := lv_neT h18 (show (18 : Int32).toInt = 18 by decide +kernel); have t19 := lv_neT h19 (show (19 : Int32).toInt = 19 by decide +kernel); have t20 := lv_neT h20 (show (20 : Int32).toInt = 20 by decide +kernel); have t21 := lv_neT h21 (show (21 : Int32).toInt = 21 by decide +kernel); have t22 := lv_neT h22 (show (22 : Int32).toInt = 22 by decide +kernel); have t23 := lv_neT h23 (show (23 : Int32).toInt = 23 by decide +kernel); have t24 := lv_neT h24 (show (24 : Int32).toInt = 24 by decide +kernel); have t25 := lv_neT h25 (show (25 : Int32).toInt = 25 by decide +kernel); have t26 := lv_neT h26 (show (26 : Int32).toInt = 26 by decide +kernel); have t27 := lv_neT h27 (show (27 : Int32).toInt = 27 by decide +kernel); have t28 := lv_neT h28 (show (28 : Int32).toInt = 28 by decide +kernel); have t29 := lv_neT h29 (show (29 : Int32).toInt = 29 by decide +kernel); have t30 := lv_neT h30 (show (30 : Int32).toInt = 30 by decide +kernel); have t31 := lv_neT h31 (show (31 : Int32).toInt = 31 by decide +kernel); have t32 := lv_neT h32 (show (32 : Int32).toInt = 32 by decide +kernel); have t33 := lv_neT h33 (show (33 : Int32).toInt = 33 by decide +kernel); have t34 := lv_neT h34 (show (34 : Int32).toInt = 34 by decide +kernel); have t35 := lv_neT h35 (show (35 : Int32).toInt = 35 by decide +kernel); have t36 := lv_neT h36 (show (36 : Int32).toInt = 36 by decide +kernel); have t37 := lv_neT h37 (show (37 : Int32).toInt = 37 by decide +kernel); have t38 := lv_neT h38 (show (38 : Int32).toInt = 38 by decide +kernel); have t39 := lv_neT h39 (show (39 : Int32).toInt = 39 by decide +kernel); have t40 := lv_neT h40 (show (40 : Int32).toInt = 40 by decide +kernel); have t41 := lv_neT h41 (show (41 : Int32).toInt = 41 by decide +kernel); have t42 := lv_neT h42 (show (42 : Int32).toInt = 42 by decide +kernel); have t43 := lv_neT h43 (show (43 : Int32).toInt = 43 by decide +kernel); have t44 := lv_neT h44 (show (44 : Int32).toInt = 44 by decide +kernel); omega)
  refine lv_tableOut (pc := 33) (tgt := 1532) hx hb dL_law_33 ho (by decide) ?_
  exact law_end C0 (Nat.le_of_ble_eq_true rfl) (Nat.le_of_ble_eq_true rfl) hS ls (lv_sub hl [0, 3] rfl)
