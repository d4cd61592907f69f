set_option maxHeartbeats 8000000 in
set_option maxRecDepth 100000 in
theorem lo_27 {p : Program} {l : Launch} {e : Env} {s : State} {m : MethodId} {below : List Frame} {meth : Method} {c : Code} {D : va_G} {cB cC cI cJ : ClassId} {b L : Nat} {xs : Nat → Int32} {adK adV : Nat → Nat} (C0 : lw_At p s m meth c b L xs) (hLN : L ≤ 3072) (hK : va_K D gcl [(cB, .byte), (cC, .char), (cI, .int), (cJ, .long)] s) (hF : sF adK adV (fun q : Nat => s.heap.size ≤ q) s s.heap) (o1 o2 : Nat) (i : Int32) (hi0 : 0 ≤ i.toInt) (hi1 : i.toInt + 6 ≤ (L : Int)) (u v : gEx) (hfX : fX u) (hfM : fM v) (heq : tEq (u.2.1 4) (u.2.2.2.1 7).toInt (v.2.1 0) (v.2.2.2.1 0).toInt ∧ ((u.2.2.2.1 5).toInt = (v.2.2.2.1 6).toInt ∧ (u.2.2.2.1 6).toInt = (v.2.2.2.1 7).toInt ∧ (u.2.2.2.1 15).toInt = (v.2.2.2.1 8).toInt ∧ (u.2.2.2.1 16).toInt = (v.2.2.2.1 9).toInt ∧ (u.2.2.2.1 17).toInt = (v.2.2.2.1 10).toInt ∧ (u.2.2.2.1 18).toInt = (v.2.2.2.1 11).toInt ∧ (u.2.2.2.1 19).toInt = (v.2.2.2.1 12).toInt ∧ (u.2.2.2.1 43).toInt = ((v.2.1 21) 0).toInt ∧ (u.2.2.2.1 24).toInt = (v.2.2.2.1 21).toInt ∧ (u.2.2.2.1 25).toInt = (v.2.2.2.1 22).toInt ∧ (u.2.2.2.1 26).toInt = (v.2.2.2.1 20).toInt) ∧ plE (u.2.1 31) (u.2.1 15) (u.2.2.2.1 20).toInt (v.2.1 17) (v.2.1 18) (v.2.2.2.1 13).toInt (u.2.2.2.1 19).toInt (u.2.2.2.1 16).toInt (u.2.2.2.1 17).toInt) (hu0 : u.1 0 = o1) (hv0 : v.1 0 = o2) (H : Heap) (locs : List Loc) (ls : Array Slot) (hP : va_P D gcl (wX cB cC cI cJ u ++ wM cB cC cI cJ v) H) (hD : va_D (fun q : Nat => s.heap.size ≤ q) (wX cB cC cI cJ u ++ wM cB cC cI cJ v)) (hS : va_S (fun q : Nat => s.heap.size ≤ q) s.heap H locs) (hl : lv_has ls 4 [(3, .int i), (2, .ref o2), (1, .ref o1), (0, .ref b)])
    (kk : ∀ (u v : gEx) (H : Heap) (locs : List Loc) (ls : Array Slot), fX u → fM v → tEq (u.2.1 4) (u.2.2.2.1 7).toInt (v.2.1 0) (v.2.2.2.1 0).toInt ∧ ((u.2.2.2.1 5).toInt = (v.2.2.2.1 6).toInt ∧ (u.2.2.2.1 6).toInt = (v.2.2.2.1 7).toInt ∧ (u.2.2.2.1 15).toInt = (v.2.2.2.1 8).toInt ∧ (u.2.2.2.1 16).toInt = (v.2.2.2.1 9).toInt ∧ (u.2.2.2.1 17).toInt = (v.2.2.2.1 10).toInt ∧ (u.2.2.2.1 18).toInt = (v.2.2.2.1 11).toInt ∧ (u.2.2.2.1 19).toInt = (v.2.2.2.1 12).toInt ∧ (u.2.2.2.1 43).toInt = ((v.2.1 21) 0).toInt ∧ (u.2.2.2.1 24).toInt = (v.2.2.2.1 21).toInt ∧ (u.2.2.2.1 25).toInt = (v.2.2.2.1 22).toInt ∧ (u.2.2.2.1 26).toInt = (v.2.2.2.1 20).toInt) ∧ plE (u.2.1 31) (u.2.1 15) (u.2.2.2.1 20).toInt (v.2.1 17) (v.2.1 18) (v.2.2.2.1 13).toInt (u.2.2.2.1 19).toInt (u.2.2.2.1 16).toInt (u.2.2.2.1 17).toInt → u.1 0 = o1 → v.1 0 = o2 → va_P D gcl (wX cB cC cI cJ u ++ wM cB cC cI cJ v) H → va_D (fun q : Nat => s.heap.size ≤ q) (wX cB cC cI cJ u ++ wM cB cC cI cJ v) → va_S (fun q : Nat => s.heap.size ≤ q) s.heap H locs → lv_has ls 4 [(3, .int i), (2, .ref o2), (1, .ref o1), (0, .ref b)] → W p l e room_1 s m #[Value.ref b] below meth c H locs 126 15724 (lw_Z below #[Value.ref b] s) (F0 m 1519 ls [])) : W p l e room_1 s m #[Value.ref b] below meth c H locs 126 15724 (lw_Z below #[Value.ref b] s) (F0 m 1017 ls []) := by
  subst hu0
  subst hv0
  have hlen := heq.1.1
  have hreg := heq.2.1
  obtain ⟨hx, hb, hr, hml, hown, hts0, hX, hbl, hlocks, hgv⟩ := id C0
  have hts := g_tbl hts0
  have hbA : ¬ (fun q : Nat => s.heap.size ≤ q) b := Nat.not_le.mpr hbl
  refine lv_aload_n (pc := 1017) hx hb dL_law_1017 rfl (lv_at hl 2 rfl) ?_
  refine lv_aload_n (pc := 1018) hx hb dL_law_1018 rfl (lv_at hl 3 rfl) ?_
  refine lv_iload_n (pc := 1019) hx hb dL_law_1019 rfl (lv_at hl 0 rfl) ?_
  refine lv_iconst (pc := 1020) (v := 1) hx hb dL_law_1020 (by decide) ?_
  refine b_iadd (pc := 1021) hx hb rfl tI_1 (by omega) (by omega) dL_law_1021 (fun x_1 ex_1 => ?_)
  refine va_sld (pc := 1022) hx hb hX hbl hbA hS (n_in rfl (by omega) (by omega)) dL_law_1022 ?_
  refine lv_topi (fun x_2 ex_2 => ?_)
  have rx_2 := n_rng x_2
  have tx_2 := congrArg Int32.toInt (e_ld (f := xs) (show x_2 = xs (x_1.toInt).toNat from ex_2) (show x_1.toInt = (i.toInt) + (1) by omega))
  refine b_if_eq (pc := 1023) (tgt := 1030) hx hb rfl  dL_law_1023 (by decide) (fun c_3 => ?_) (fun c_3 => ?_)
  ·
    refine lv_iconst (pc := 1030) (v := 0) hx hb dL_law_1030 (by decide) ?_
    refine cc_1031 C0 hK hF u hfX hl (0 : Int32) (by rw [tI_0]; decide) hP hD hS (fun r_4 w_5 H locs hf_6 ho_7 he_8 he_9 he_10 he_11 he_12 hP hD hS => ?_)
    have rr_4 := n_rng r_4
    refine lv_pop (pc := 1034) hx hb dL_law_1034 rfl ?_
    refine lv_aload_n (pc := 1035) hx hb dL_law_1035 rfl (lv_at hl 1 rfl) ?_
    refine lv_aload_n (pc := 1036) hx hb dL_law_1036 rfl (lv_at hl 3 rfl) ?_
    refine lv_iload_n (pc := 1037) hx hb dL_law_1037 rfl (lv_at hl 0 rfl) ?_
    refine lv_iconst (pc := 1038) (v := 1) hx hb dL_law_1038 (by decide) ?_
    refine b_iadd (pc := 1039) hx hb rfl tI_1 (by omega) (by omega) dL_law_1039 (fun x_13 ex_13 => ?_)
    refine va_sld (pc := 1040) hx hb hX hbl hbA hS (n_in rfl (by omega) (by omega)) dL_law_1040 ?_
    refine lv_topi (fun x_14 ex_14 => ?_)
    have rx_14 := n_rng x_14
    have tx_14 := congrArg Int32.toInt (e_ld (f := xs) (show x_14 = xs (x_13.toInt).toNat from ex_14) (show x_13.toInt = (i.toInt) + (1) by omega))
    refine b_if_eq (pc := 1041) (tgt := 1048) hx hb rfl  dL_law_1041 (by decide) (fun c_15 => ?_) (fun c_15 => ?_)
    ·
      refine lv_iconst (pc := 1048) (v := 0) hx hb dL_law_1048 (by decide) ?_
      have hP : va_P D gcl (wM cB cC cI cJ v ++ wX cB cC cI cJ w_5) H := va_P.swap (a := []) (b := wX cB cC cI cJ w_5) (c := wM cB cC cI cJ v) hP
      have hD : va_D (fun q : Nat => s.heap.size ≤ q) (wM cB cC cI cJ v ++ wX cB cC cI cJ w_5) := va_D.swap (a := []) (b := wX cB cC cI cJ w_5) (c := wM cB cC cI cJ v) hD
      refine cc_1049 C0 hK hF v hfM hl (0 : Int32) (by rw [tI_0]; decide) hP hD hS (fun r_16 w_17 H locs hf_18 ho_19 he_20 he_21 he_22 he_23 he_24 hP hD hS => ?_)
      have rr_16 := n_rng r_16
      refine lv_pop (pc := 1052) hx hb dL_law_1052 rfl ?_
      refine lv_goto (pc := 1053) (tgt := 1519) hx hb dL_law_1053 (by decide) ?_
      exact kk w_5 w_17 H locs ls hf_6 hf_18 ⟨te_cut heq.1 he_9 he_21 (by omega) (by omega), by omega, plE_keep heq.2.2 he_11 he_23 (by omega) (by omega) (by omega)⟩ ho_7 ho_19 (va_P.swap (a := []) (b := wM cB cC cI cJ w_17) (c := wX cB cC cI cJ w_5) hP) (va_D.swap (a := []) (b := wM cB cC cI cJ w_17) (c := wX cB cC cI cJ w_5) hD) hS hl
    ·
      refine lv_iconst (pc := 1044) (v := 1) hx hb dL_law_1044 (by decide) ?_
      refine lv_goto (pc := 1045) (tgt := 1049) hx hb dL_law_1045 (by decide) ?_
      have hP : va_P D gcl (wM cB cC cI cJ v ++ wX cB cC cI cJ w_5) H := va_P.swap (a := []) (b := wX cB cC cI cJ w_5) (c := wM cB cC cI cJ v) hP
      have hD : va_D (fun q : Nat => s.heap.size ≤ q) (wM cB cC cI cJ v ++ wX cB cC cI cJ w_5) := va_D.swap (a := []) (b := wX cB cC cI cJ w_5) (c := wM cB cC cI cJ v) hD
      refine cc_1049 C0 hK hF v hfM hl (1 : Int32) (by rw [tI_1]; decide) hP hD hS (fun r_25 w_26 H locs hf_27 ho_28 he_29 he_30 he_31 he_32 he_33 hP hD hS => ?_)
      have rr_25 := n_rng r_25
      refine lv_pop (pc := 1052) hx hb dL_law_1052 rfl ?_
      refine lv_goto (pc := 1053) (tgt := 1519) hx hb dL_law_1053 (by decide) ?_
      exact kk w_5 w_26 H locs ls hf_6 hf_27 ⟨te_cut heq.1 he_9 he_30 (by omega) (by omega), by omega, plE_keep heq.2.2 he_11 he_32 (by omega) (by omega) (by omega)⟩ ho_7 ho_28 (va_P.swap (a := []) (b := wM cB cC cI cJ w_26) (c := wX cB cC cI cJ w_5) hP) (va_D.swap (a := []) (b := wM cB cC cI cJ w_26) (c := wX cB cC cI cJ w_5) hD) hS hl
  ·
    refine lv_iconst (pc := 1026) (v := 1) hx hb dL_law_1026 (by decide) ?_
    refine lv_goto (pc := 1027) (tgt := 1031) hx hb dL_law_1027 (by decide) ?_
    refine cc_1031 C0 hK hF u hfX hl (1 : Int32) (by rw [tI_1]; decide) hP hD hS (fun r_34 w_35 H locs hf_36 ho_37 he_38 he_39 he_40 he_41 he_42 hP hD hS => ?_)
    have rr_34 := n_rng r_34
    refine lv_pop (pc := 1034) hx hb dL_law_1034 rfl ?_
    refine lv_aload_n (pc := 1035) hx hb dL_law_1035 rfl (lv_at hl 1 rfl) ?_
    refine lv_aload_n (pc := 1036) hx hb dL_law_1036 rfl (lv_at hl 3 rfl) ?_
    refine lv_iload_n (pc := 1037) hx hb dL_law_1037 rfl (lv_at hl 0 rfl) ?_
    refine lv_iconst (pc := 1038) (v := 1) hx hb dL_law_1038 (by decide) ?_
    refine b_iadd (pc := 1039) hx hb rfl tI_1 (by omega) (by omega) dL_law_1039 (fun x_43 ex_43 => ?_)
    refine va_sld (pc := 1040) hx hb hX hbl hbA hS (n_in rfl (by omega) (by omega)) dL_law_1040 ?_
    refine lv_topi (fun x_44 ex_44 => ?_)
    have rx_44 := n_rng x_44
    have tx_44 := congrArg Int32.toInt (e_ld (f := xs) (show x_44 = xs (x_43.toInt).toNat from ex_44) (show x_43.toInt = (i.toInt) + (1) by omega))
    refine b_if_eq (pc := 1041) (tgt := 1048) hx hb rfl  dL_law_1041 (by decide) (fun c_45 => ?_) (fun c_45 => ?_)
    ·
      refine lv_iconst (pc := 1048) (v := 0) hx hb dL_law_1048 (by decide) ?_
      have hP : va_P D gcl (wM cB cC cI cJ v ++ wX cB cC cI cJ w_35) H := va_P.swap (a := []) (b := wX cB cC cI cJ w_35) (c := wM cB cC cI cJ v) hP
      have hD : va_D (fun q : Nat => s.heap.size ≤ q) (wM cB cC cI cJ v ++ wX cB cC cI cJ w_35) := va_D.swap (a := []) (b := wX cB cC cI cJ w_35) (c := wM cB cC cI cJ v) hD
      refine cc_1049 C0 hK hF v hfM hl (0 : Int32) (by rw [tI_0]; decide) hP hD hS (fun r_46 w_47 H locs hf_48 ho_49 he_50 he_51 he_52 he_53 he_54 hP hD hS => ?_)
      have rr_46 := n_rng r_46
      refine lv_pop (pc := 1052) hx hb dL_law_1052 rfl ?_
      refine lv_goto (pc := 1053) (tgt := 1519) hx hb dL_law_1053 (by decide) ?_
      exact kk w_35 w_47 H locs ls hf_36 hf_48 ⟨te_cut heq.1 he_39 he_51 (by omega) (by omega), by omega, plE_keep heq.2.2 he_41 he_53 (by omega) (by omega) (by omega)⟩ ho_37 ho_49 (va_P.swap (a := []) (b := wM cB cC cI cJ w_47) (c := wX cB cC cI cJ w_35) hP) (va_D.swap (a := []) (b := wM cB cC cI cJ w_47) (c := wX cB cC cI cJ w_35) hD) hS hl
    ·
      refine lv_iconst (pc := 1044) (v := 1) hx hb dL_law_1044 (by decide) ?_
      refine lv_goto (pc := 1045) (tgt := 1049) hx hb dL_law_1045 (by decide) ?_
      have hP : va_P D gcl (wM cB cC cI cJ v ++ wX cB cC cI cJ w_35) H := va_P.swap (a := []) (b := wX cB cC cI cJ w_35) (c := wM cB cC cI cJ v) hP
      have hD : va_D (fun q : Nat => s.heap.size ≤ q) (wM cB cC cI cJ v ++ wX cB cC cI cJ w_35) := va_D.swap (a := []) (b := wX cB cC cI cJ w_35) (c := wM cB cC cI cJ v) hD
      refine cc_1049 C0 hK hF v hfM hl (1 : Int32) (by rw [tI_1]; decide) hP hD hS (fun r_55 w_56 H locs hf_57 ho_58 he_59 he_60 he_61 he_62 he_63 hP hD hS => ?_)
      have rr_55 := n_rng r_55
      refine lv_pop (pc := 1052) hx hb dL_law_1052 rfl ?_
      refine lv_goto (pc := 1053) (tgt := 1519) hx hb dL_law_1053 (by decide) ?_
      exact kk w_35 w_56 H locs ls hf_36 hf_57 ⟨te_cut heq.1 he_39 he_60 (by omega) (by omega), by omega, plE_keep heq.2.2 he_41 he_62 (by omega) (by omega) (by omega)⟩ ho_37 ho_58 (va_P.swap (a := []) (b := wM cB cC cI cJ w_56) (c := wX cB cC cI cJ w_35) hP) (va_D.swap (a := []) (b := wM cB cC cI cJ w_56) (c := wX cB cC cI cJ w_35) hD) hS hl
set_option maxHeartbeats 8000000 in
set_option maxRecDepth 100000 in
theorem lo_28 {p : Program} {l : Launch} {e : Env} {s : State} {m : MethodId} {below : List Frame} {meth : Method} {c : Code} {D : va_G} {cB cC cI cJ : ClassId} {b L : Nat} {xs : Nat → Int32} {adK adV : Nat → Nat} (C0 : lw_At p s m meth c b L xs) (hLN : L ≤ 3072) (hK : va_K D gcl [(cB, .byte), (cC, .char), (cI, .int), (cJ, .long)] s) (hF : sF adK adV (fun q : Nat => s.heap.size ≤ q) s s.heap) (o1 o2 : Nat) (i : Int32) (hi0 : 0 ≤ i.toInt) (hi1 : i.toInt + 6 ≤ (L : Int)) (u v : gEx) (hfX : fX u) (hfM : fM v) (heq : tEq (u.2.1 4) (u.2.2.2.1 7).toInt (v.2.1 0) (v.2.2.2.1 0).toInt ∧ ((u.2.2.2.1 5).toInt = (v.2.2.2.1 6).toInt ∧ (u.2.2.2.1 6).toInt = (v.2.2.2.1 7).toInt ∧ (u.2.2.2.1 15).toInt = (v.2.2.2.1 8).toInt ∧ (u.2.2.2.1 16).toInt = (v.2.2.2.1 9).toInt ∧ (u.2.2.2.1 17).toInt = (v.2.2.2.1 10).toInt ∧ (u.2.2.2.1 18).toInt = (v.2.2.2.1 11).toInt ∧ (u.2.2.2.1 19).toInt = (v.2.2.2.1 12).toInt ∧ (u.2.2.2.1 43).toInt = ((v.2.1 21) 0).toInt ∧ (u.2.2.2.1 24).toInt = (v.2.2.2.1 21).toInt ∧ (u.2.2.2.1 25).toInt = (v.2.2.2.1 22).toInt ∧ (u.2.2.2.1 26).toInt = (v.2.2.2.1 20).toInt) ∧ plE (u.2.1 31) (u.2.1 15) (u.2.2.2.1 20).toInt (v.2.1 17) (v.2.1 18) (v.2.2.2.1 13).toInt (u.2.2.2.1 19).toInt (u.2.2.2.1 16).toInt (u.2.2.2.1 17).toInt) (hu0 : u.1 0 = o1) (hv0 : v.1 0 = o2) (H : Heap) (locs : List Loc) (ls : Array Slot) (hP : va_P D gcl (wX cB cC cI cJ u ++ wM cB cC cI cJ v) H) (hD : va_D (fun q : Nat => s.heap.size ≤ q) (wX cB cC cI cJ u ++ wM cB cC cI cJ v)) (hS : va_S (fun q : Nat => s.heap.size ≤ q) s.heap H locs) (hl : lv_has ls 4 [(3, .int i), (2, .ref o2), (1, .ref o1), (0, .ref b)])
    (kk : ∀ (u v : gEx) (H : Heap) (locs : List Loc) (ls : Array Slot), fX u → fM v → tEq (u.2.1 4) (u.2.2.2.1 7).toInt (v.2.1 0) (v.2.2.2.1 0).toInt ∧ ((u.2.2.2.1 5).toInt = (v.2.2.2.1 6).toInt ∧ (u.2.2.2.1 6).toInt = (v.2.2.2.1 7).toInt ∧ (u.2.2.2.1 15).toInt = (v.2.2.2.1 8).toInt ∧ (u.2.2.2.1 16).toInt = (v.2.2.2.1 9).toInt ∧ (u.2.2.2.1 17).toInt = (v.2.2.2.1 10).toInt ∧ (u.2.2.2.1 18).toInt = (v.2.2.2.1 11).toInt ∧ (u.2.2.2.1 19).toInt = (v.2.2.2.1 12).toInt ∧ (u.2.2.2.1 43).toInt = ((v.2.1 21) 0).toInt ∧ (u.2.2.2.1 24).toInt = (v.2.2.2.1 21).toInt ∧ (u.2.2.2.1 25).toInt = (v.2.2.2.1 22).toInt ∧ (u.2.2.2.1 26).toInt = (v.2.2.2.1 20).toInt) ∧ plE (u.2.1 31) (u.2.1 15) (u.2.2.2.1 20).toInt (v.2.1 17) (v.2.1 18) (v.2.2.2.1 13).toInt (u.2.2.2.1 19).toInt (u.2.2.2.1 16).toInt (u.2.2.2.1 17).toInt → u.1 0 = o1 → v.1 0 = o2 → va_P D gcl (wX cB cC cI cJ u ++ wM cB cC cI cJ v) H → va_D (fun q : Nat => s.heap.size ≤ q) (wX cB cC cI cJ u ++ wM cB cC cI cJ v) → va_S (fun q : Nat => s.heap.size ≤ q) s.heap H locs → lv_has ls 4 [(3, .int i), (2, .ref o2), (1, .ref o1), (0, .ref b)] → W p l e room_1 s m #[Value.ref b] below meth c H locs 126 15724 (lw_Z below #[Value.ref b] s) (F0 m 1519 ls [])) : W p l e room_1 s m #[Value.ref b] below meth c H locs 126 15724 (lw_Z below #[Value.ref b] s) (F0 m 1056 ls []) := by
  subst hu0
  subst hv0
  have hlen := heq.1.1
  have hreg := heq.2.1
  obtain ⟨hx, hb, hr, hml, hown, hts0, hX, hbl, hlocks, hgv⟩ := id C0
  have hts := g_tbl hts0
  have hbA : ¬ (fun q : Nat => s.heap.size ≤ q) b := Nat.not_le.mpr hbl
  refine lv_aload_n (pc := 1056) hx hb dL_law_1056 rfl (lv_at hl 2 rfl) ?_
  refine lv_aload_n (pc := 1057) hx hb dL_law_1057 rfl (lv_at hl 3 rfl) ?_
  refine lv_iload_n (pc := 1058) hx hb dL_law_1058 rfl (lv_at hl 0 rfl) ?_
  refine lv_iconst (pc := 1059) (v := 1) hx hb dL_law_1059 (by decide) ?_
  refine b_iadd (pc := 1060) hx hb rfl tI_1 (by omega) (by omega) dL_law_1060 (fun x_1 ex_1 => ?_)
  refine va_sld (pc := 1061) hx hb hX hbl hbA hS (n_in rfl (by omega) (by omega)) dL_law_1061 ?_
  refine lv_topi (fun x_2 ex_2 => ?_)
  have rx_2 := n_rng x_2
  have tx_2 := congrArg Int32.toInt (e_ld (f := xs) (show x_2 = xs (x_1.toInt).toNat from ex_2) (show x_1.toInt = (i.toInt) + (1) by omega))
  refine b_if_eq (pc := 1062) (tgt := 1069) hx hb rfl  dL_law_1062 (by decide) (fun c_3 => ?_) (fun c_3 => ?_)
  ·
    refine lv_iconst (pc := 1069) (v := 0) hx hb dL_law_1069 (by decide) ?_
    refine cc_1070 C0 hK hF u hfX hl (0 : Int32) (by rw [tI_0]; decide) hP hD hS (fun r_4 w_5 H locs hf_6 ho_7 he_8 he_9 he_10 he_11 he_12 hP hD hS => ?_)
    have rr_4 := n_rngL r_4
    refine lv_pop2_2 (pc := 1073) hx hb dL_law_1073 rfl ?_
    refine lv_aload_n (pc := 1074) hx hb dL_law_1074 rfl (lv_at hl 1 rfl) ?_
    refine lv_aload_n (pc := 1075) hx hb dL_law_1075 rfl (lv_at hl 3 rfl) ?_
    refine lv_iload_n (pc := 1076) hx hb dL_law_1076 rfl (lv_at hl 0 rfl) ?_
    refine lv_iconst (pc := 1077) (v := 1) hx hb dL_law_1077 (by decide) ?_
    refine b_iadd (pc := 1078) hx hb rfl tI_1 (by omega) (by omega) dL_law_1078 (fun x_13 ex_13 => ?_)
    refine va_sld (pc := 1079) hx hb hX hbl hbA hS (n_in rfl (by omega) (by omega)) dL_law_1079 ?_
    refine lv_topi (fun x_14 ex_14 => ?_)
    have rx_14 := n_rng x_14
    have tx_14 := congrArg Int32.toInt (e_ld (f := xs) (show x_14 = xs (x_13.toInt).toNat from ex_14) (show x_13.toInt = (i.toInt) + (1) by omega))
    refine b_if_eq (pc := 1080) (tgt := 1087) hx hb rfl  dL_law_1080 (by decide) (fun c_15 => ?_) (fun c_15 => ?_)
    ·
      refine lv_iconst (pc := 1087) (v := 0) hx hb dL_law_1087 (by decide) ?_
      have hP : va_P D gcl (wM cB cC cI cJ v ++ wX cB cC cI cJ w_5) H := va_P.swap (a := []) (b := wX cB cC cI cJ w_5) (c := wM cB cC cI cJ v) hP
      have hD : va_D (fun q : Nat => s.heap.size ≤ q) (wM cB cC cI cJ v ++ wX cB cC cI cJ w_5) := va_D.swap (a := []) (b := wX cB cC cI cJ w_5) (c := wM cB cC cI cJ v) hD
      refine cc_1088 C0 hK hF v hfM hl (0 : Int32) (by rw [tI_0]; decide) hP hD hS (fun r_16 w_17 H locs hf_18 ho_19 he_20 he_21 he_22 he_23 he_24 hP hD hS => ?_)
      have rr_16 := n_rngL r_16
      refine lv_pop2_2 (pc := 1091) hx hb dL_law_1091 rfl ?_
      refine lv_goto (pc := 1092) (tgt := 1519) hx hb dL_law_1092 (by decide) ?_
      exact kk w_5 w_17 H locs ls hf_6 hf_18 ⟨te_cut heq.1 he_9 he_21 (by omega) (by omega), by omega, plE_keep heq.2.2 he_11 he_23 (by omega) (by omega) (by omega)⟩ ho_7 ho_19 (va_P.swap (a := []) (b := wM cB cC cI cJ w_17) (c := wX cB cC cI cJ w_5) hP) (va_D.swap (a := []) (b := wM cB cC cI cJ w_17) (c := wX cB cC cI cJ w_5) hD) hS hl
    ·
      refine lv_iconst (pc := 1083) (v := 1) hx hb dL_law_1083 (by decide) ?_
      refine lv_goto (pc := 1084) (tgt := 1088) hx hb dL_law_1084 (by decide) ?_
      have hP : va_P D gcl (wM cB cC cI cJ v ++ wX cB cC cI cJ w_5) H := va_P.swap (a := []) (b := wX cB cC cI cJ w_5) (c := wM cB cC cI cJ v) hP
      have hD : va_D (fun q : Nat => s.heap.size ≤ q) (wM cB cC cI cJ v ++ wX cB cC cI cJ w_5) := va_D.swap (a := []) (b := wX cB cC cI cJ w_5) (c := wM cB cC cI cJ v) hD
      refine cc_1088 C0 hK hF v hfM hl (1 : Int32) (by rw [tI_1]; decide) hP hD hS (fun r_25 w_26 H locs hf_27 ho_28 he_29 he_30 he_31 he_32 he_33 hP hD hS => ?_)
      have rr_25 := n_rngL r_25
      refine lv_pop2_2 (pc := 1091) hx hb dL_law_1091 rfl ?_
      refine lv_goto (pc := 1092) (tgt := 1519) hx hb dL_law_1092 (by decide) ?_
      exact kk w_5 w_26 H locs ls hf_6 hf_27 ⟨te_cut heq.1 he_9 he_30 (by omega) (by omega), by omega, plE_keep heq.2.2 he_11 he_32 (by omega) (by omega) (by omega)⟩ ho_7 ho_28 (va_P.swap (a := []) (b := wM cB cC cI cJ w_26) (c := wX cB cC cI cJ w_5) hP) (va_D.swap (a := []) (b := wM cB cC cI cJ w_26) (c := wX cB cC cI cJ w_5) hD) hS hl
  ·
    refine lv_iconst (pc := 1065) (v := 1) hx hb dL_law_1065 (by decide) ?_
    refine lv_goto (pc := 1066) (tgt := 1070) hx hb dL_law_1066 (by decide) ?_
    refine cc_1070 C0 hK hF u hfX hl (1 : Int32) (by rw [tI_1]; decide) hP hD hS (fun r_34 w_35 H locs hf_36 ho_37 he_38 he_39 he_40 he_41 he_42 hP hD hS => ?_)
    have rr_34 := n_rngL r_34
    refine lv_pop2_2 (pc := 1073) hx hb dL_law_1073 rfl ?_
    refine lv_aload_n (pc := 1074) hx hb dL_law_1074 rfl (lv_at hl 1 rfl) ?_
    refine lv_aload_n (pc := 1075) hx hb dL_law_1075 rfl (lv_at hl 3 rfl) ?_
    refine lv_iload_n (pc := 1076) hx hb dL_law_1076 rfl (lv_at hl 0 rfl) ?_
    refine lv_iconst (pc := 1077) (v := 1) hx hb dL_law_1077 (by decide) ?_
    refine b_iadd (pc := 1078) hx hb rfl tI_1 (by omega) (by omega) dL_law_1078 (fun x_43 ex_43 => ?_)
    refine va_sld (pc := 1079) hx hb hX hbl hbA hS (n_in rfl (by omega) (by omega)) dL_law_1079 ?_
    refine lv_topi (fun x_44 ex_44 => ?_)
    have rx_44 := n_rng x_44
    have tx_44 := congrArg Int32.toInt (e_ld (f := xs) (show x_44 = xs (x_43.toInt).toNat from ex_44) (show x_43.toInt = (i.toInt) + (1) by omega))
    refine b_if_eq (pc := 1080) (tgt := 1087) hx hb rfl  dL_law_1080 (by decide) (fun c_45 => ?_) (fun c_45 => ?_)
    ·
      refine lv_iconst (pc := 1087) (v := 0) hx hb dL_law_1087 (by decide) ?_
      have hP : va_P D gcl (wM cB cC cI cJ v ++ wX cB cC cI cJ w_35) H := va_P.swap (a := []) (b := wX cB cC cI cJ w_35) (c := wM cB cC cI cJ v) hP
      have hD : va_D (fun q : Nat => s.heap.size ≤ q) (wM cB cC cI cJ v ++ wX cB cC cI cJ w_35) := va_D.swap (a := []) (b := wX cB cC cI cJ w_35) (c := wM cB cC cI cJ v) hD
      refine cc_1088 C0 hK hF v hfM hl (0 : Int32) (by rw [tI_0]; decide) hP hD hS (fun r_46 w_47 H locs hf_48 ho_49 he_50 he_51 he_52 he_53 he_54 hP hD hS => ?_)
      have rr_46 := n_rngL r_46
      refine lv_pop2_2 (pc := 1091) hx hb dL_law_1091 rfl ?_
      refine lv_goto (pc := 1092) (tgt := 1519) hx hb dL_law_1092 (by decide) ?_
      exact kk w_35 w_47 H locs ls hf_36 hf_48 ⟨te_cut heq.1 he_39 he_51 (by omega) (by omega), by omega, plE_keep heq.2.2 he_41 he_53 (by omega) (by omega) (by omega)⟩ ho_37 ho_49 (va_P.swap (a := []) (b := wM cB cC cI cJ w_47) (c := wX cB cC cI cJ w_35) hP) (va_D.swap (a := []) (b := wM cB cC cI cJ w_47) (c := wX cB cC cI cJ w_35) hD) hS hl
    ·
      refine lv_iconst (pc := 1083) (v := 1) hx hb dL_law_1083 (by decide) ?_
      refine lv_goto (pc := 1084) (tgt := 1088) hx hb dL_law_1084 (by decide) ?_
      have hP : va_P D gcl (wM cB cC cI cJ v ++ wX cB cC cI cJ w_35) H := va_P.swap (a := []) (b := wX cB cC cI cJ w_35) (c := wM cB cC cI cJ v) hP
      have hD : va_D (fun q : Nat => s.heap.size ≤ q) (wM cB cC cI cJ v ++ wX cB cC cI cJ w_35) := va_D.swap (a := []) (b := wX cB cC cI cJ w_35) (c := wM cB cC cI cJ v) hD
      refine cc_1088 C0 hK hF v hfM hl (1 : Int32) (by rw [tI_1]; decide) hP hD hS (fun r_55 w_56 H locs hf_57 ho_58 he_59 he_60 he_61 he_62 he_63 hP hD hS => ?_)
      have rr_55 := n_rngL r_55
      refine lv_pop2_2 (pc := 1091) hx hb dL_law_1091 rfl ?_
      refine lv_goto (pc := 1092) (tgt := 1519) hx hb dL_law_1092 (by decide) ?_
      exact kk w_35 w_56 H locs ls hf_36 hf_57 ⟨te_cut heq.1 he_39 he_60 (by omega) (by omega), by omega, plE_keep heq.2.2 he_41 he_62 (by omega) (by omega) (by omega)⟩ ho_37 ho_58 (va_P.swap (a := []) (b := wM cB cC cI cJ w_56) (c := wX cB cC cI cJ w_35) hP) (va_D.swap (a := []) (b := wM cB cC cI cJ w_56) (c := wX cB cC cI cJ w_35) hD) hS hl
set_option maxHeartbeats 8000000 in
set_option maxRecDepth 100000 in
theorem lo_29 {p : Program} {l : Launch} {e : Env} {s : State} {m : MethodId} {below : List Frame} {meth : Method} {c : Code} {D : va_G} {cB cC cI cJ : ClassId} {b L : Nat} {xs : Nat → Int32} {adK adV : Nat → Nat} (C0 : lw_At p s m meth c b L xs) (hLN : L ≤ 3072) (hK : va_K D gcl [(cB, .byte), (cC, .char), (cI, .int), (cJ, .long)] s) (hF : sF adK adV (fun q : Nat => s.heap.size ≤ q) s s.heap) (o1 o2 : Nat) (i : Int32) (hi0 : 0 ≤ i.toInt) (hi1 : i.toInt + 6 ≤ (L : Int)) (u v : gEx) (hfX : fX u) (hfM : fM v) (heq : tEq (u.2.1 4) (u.2.2.2.1 7).toInt (v.2.1 0) (v.2.2.2.1 0).toInt ∧ ((u.2.2.2.1 5).toInt = (v.2.2.2.1 6).toInt ∧ (u.2.2.2.1 6).toInt = (v.2.2.2.1 7).toInt ∧ (u.2.2.2.1 15).toInt = (v.2.2.2.1 8).toInt ∧ (u.2.2.2.1 16).toInt = (v.2.2.2.1 9).toInt ∧ (u.2.2.2.1 17).toInt = (v.2.2.2.1 10).toInt ∧ (u.2.2.2.1 18).toInt = (v.2.2.2.1 11).toInt ∧ (u.2.2.2.1 19).toInt = (v.2.2.2.1 12).toInt ∧ (u.2.2.2.1 43).toInt = ((v.2.1 21) 0).toInt ∧ (u.2.2.2.1 24).toInt = (v.2.2.2.1 21).toInt ∧ (u.2.2.2.1 25).toInt = (v.2.2.2.1 22).toInt ∧ (u.2.2.2.1 26).toInt = (v.2.2.2.1 20).toInt) ∧ plE (u.2.1 31) (u.2.1 15) (u.2.2.2.1 20).toInt (v.2.1 17) (v.2.1 18) (v.2.2.2.1 13).toInt (u.2.2.2.1 19).toInt (u.2.2.2.1 16).toInt (u.2.2.2.1 17).toInt) (hu0 : u.1 0 = o1) (hv0 : v.1 0 = o2) (H : Heap) (locs : List Loc) (ls : Array Slot) (hP : va_P D gcl (wX cB cC cI cJ u ++ wM cB cC cI cJ v) H) (hD : va_D (fun q : Nat => s.heap.size ≤ q) (wX cB cC cI cJ u ++ wM cB cC cI cJ v)) (hS : va_S (fun q : Nat => s.heap.size ≤ q) s.heap H locs) (hl : lv_has ls 4 [(3, .int i), (2, .ref o2), (1, .ref o1), (0, .ref b)])
    (kk : ∀ (u v : gEx) (H : Heap) (locs : List Loc) (ls : Array Slot), fX u → fM v → tEq (u.2.1 4) (u.2.2.2.1 7).toInt (v.2.1 0) (v.2.2.2.1 0).toInt ∧ ((u.2.2.2.1 5).toInt = (v.2.2.2.1 6).toInt ∧ (u.2.2.2.1 6).toInt = (v.2.2.2.1 7).toInt ∧ (u.2.2.2.1 15).toInt = (v.2.2.2.1 8).toInt ∧ (u.2.2.2.1 16).toInt = (v.2.2.2.1 9).toInt ∧ (u.2.2.2.1 17).toInt = (v.2.2.2.1 10).toInt ∧ (u.2.2.2.1 18).toInt = (v.2.2.2.1 11).toInt ∧ (u.2.2.2.1 19).toInt = (v.2.2.2.1 12).toInt ∧ (u.2.2.2.1 43).toInt = ((v.2.1 21) 0).toInt ∧ (u.2.2.2.1 24).toInt = (v.2.2.2.1 21).toInt ∧ (u.2.2.2.1 25).toInt = (v.2.2.2.1 22).toInt ∧ (u.2.2.2.1 26).toInt = (v.2.2.2.1 20).toInt) ∧ plE (u.2.1 31) (u.2.1 15) (u.2.2.2.1 20).toInt (v.2.1 17) (v.2.1 18) (v.2.2.2.1 13).toInt (u.2.2.2.1 19).toInt (u.2.2.2.1 16).toInt (u.2.2.2.1 17).toInt → u.1 0 = o1 → v.1 0 = o2 → va_P D gcl (wX cB cC cI cJ u ++ wM cB cC cI cJ v) H → va_D (fun q : Nat => s.heap.size ≤ q) (wX cB cC cI cJ u ++ wM cB cC cI cJ v) → va_S (fun q : Nat => s.heap.size ≤ q) s.heap H locs → lv_has ls 4 [(3, .int i), (2, .ref o2), (1, .ref o1), (0, .ref b)] → W p l e room_1 s m #[Value.ref b] below meth c H locs 126 15724 (lw_Z below #[Value.ref b] s) (F0 m 1519 ls [])) : W p l e room_1 s m #[Value.ref b] below meth c H locs 126 15724 (lw_Z below #[Value.ref b] s) (F0 m 1095 ls []) := by
  subst hu0
  subst hv0
  have hlen := heq.1.1
  have hreg := heq.2.1
  obtain ⟨hx, hb, hr, hml, hown, hts0, hX, hbl, hlocks, hgv⟩ := id C0
  have hts := g_tbl hts0
  have hbA : ¬ (fun q : Nat => s.heap.size ≤ q) b := Nat.not_le.mpr hbl
  refine lv_aload_n (pc := 1095) hx hb dL_law_1095 rfl (lv_at hl 2 rfl) ?_
  refine lv_aload_n (pc := 1096) hx hb dL_law_1096 rfl (lv_at hl 3 rfl) ?_
  refine lv_iload_n (pc := 1097) hx hb dL_law_1097 rfl (lv_at hl 0 rfl) ?_
  refine lv_iconst (pc := 1098) (v := 1) hx hb dL_law_1098 (by decide) ?_
  refine b_iadd (pc := 1099) hx hb rfl tI_1 (by omega) (by omega) dL_law_1099 (fun x_1 ex_1 => ?_)
  refine va_sld (pc := 1100) hx hb hX hbl hbA hS (n_in rfl (by omega) (by omega)) dL_law_1100 ?_
  refine lv_topi (fun x_2 ex_2 => ?_)
  have rx_2 := n_rng x_2
  have tx_2 := congrArg Int32.toInt (e_ld (f := xs) (show x_2 = xs (x_1.toInt).toNat from ex_2) (show x_1.toInt = (i.toInt) + (1) by omega))
  refine lv_aload_n (pc := 1101) hx hb dL_law_1101 rfl (lv_at hl 3 rfl) ?_
  refine lv_iload_n (pc := 1102) hx hb dL_law_1102 rfl (lv_at hl 0 rfl) ?_
  refine lv_iconst (pc := 1103) (v := 2) hx hb dL_law_1103 (by decide) ?_
  refine b_iadd (pc := 1104) hx hb rfl tI_2 (by omega) (by omega) dL_law_1104 (fun x_3 ex_3 => ?_)
  refine va_sld (pc := 1105) hx hb hX hbl hbA hS (n_in rfl (by omega) (by omega)) dL_law_1105 ?_
  refine lv_topi (fun x_4 ex_4 => ?_)
  have rx_4 := n_rng x_4
  have tx_4 := congrArg Int32.toInt (e_ld (f := xs) (show x_4 = xs (x_3.toInt).toNat from ex_4) (show x_3.toInt = (i.toInt) + (2) by omega))
  refine lv_aload_n (pc := 1106) hx hb dL_law_1106 rfl (lv_at hl 3 rfl) ?_
  refine lv_iload_n (pc := 1107) hx hb dL_law_1107 rfl (lv_at hl 0 rfl) ?_
  refine lv_iconst (pc := 1108) (v := 3) hx hb dL_law_1108 (by decide) ?_
  refine b_iadd (pc := 1109) hx hb rfl tI_3 (by omega) (by omega) dL_law_1109 (fun x_5 ex_5 => ?_)
  refine va_sld (pc := 1110) hx hb hX hbl hbA hS (n_in rfl (by omega) (by omega)) dL_law_1110 ?_
  refine lv_topi (fun x_6 ex_6 => ?_)
  have rx_6 := n_rng x_6
  have tx_6 := congrArg Int32.toInt (e_ld (f := xs) (show x_6 = xs (x_5.toInt).toNat from ex_6) (show x_5.toInt = (i.toInt) + (3) by omega))
  refine cc_1111 C0 hK hF u hfX hl x_2 x_4 x_6 hP hD hS (fun r_7 w_8 H locs hf_9 ho_10 he_11 he_12 he_13 he_14 he_15 hP hD hS => ?_)
  have rr_7 := n_rngL r_7
  refine lv_pop2_2 (pc := 1114) hx hb dL_law_1114 rfl ?_
  refine lv_aload_n (pc := 1115) hx hb dL_law_1115 rfl (lv_at hl 1 rfl) ?_
  refine lv_aload_n (pc := 1116) hx hb dL_law_1116 rfl (lv_at hl 3 rfl) ?_
  refine lv_iload_n (pc := 1117) hx hb dL_law_1117 rfl (lv_at hl 0 rfl) ?_
  refine lv_iconst (pc := 1118) (v := 1) hx hb dL_law_1118 (by decide) ?_
  refine b_iadd (pc := 1119) hx hb rfl tI_1 (by omega) (by omega) dL_law_1119 (fun x_16 ex_16 => ?_)
  refine va_sld (pc := 1120) hx hb hX hbl hbA hS (n_in rfl (by omega) (by omega)) dL_law_1120 ?_
  refine lv_topi (fun x_17 ex_17 => ?_)
  have rx_17 := n_rng x_17
  have tx_17 := congrArg Int32.toInt (e_ld (f := xs) (show x_17 = xs (x_16.toInt).toNat from ex_17) (show x_16.toInt = (i.toInt) + (1) by omega))
  refine lv_aload_n (pc := 1121) hx hb dL_law_1121 rfl (lv_at hl 3 rfl) ?_
  refine lv_iload_n (pc := 1122) hx hb dL_law_1122 rfl (lv_at hl 0 rfl) ?_
  refine lv_iconst (pc := 1123) (v := 2) hx hb dL_law_1123 (by decide) ?_
  refine b_iadd (pc := 1124) hx hb rfl tI_2 (by omega) (by omega) dL_law_1124 (fun x_18 ex_18 => ?_)
  refine va_sld (pc := 1125) hx hb hX hbl hbA hS (n_in rfl (by omega) (by omega)) dL_law_1125 ?_
  refine lv_topi (fun x_19 ex_19 => ?_)
  have rx_19 := n_rng x_19
  have tx_19 := congrArg Int32.toInt (e_ld (f := xs) (show x_19 = xs (x_18.toInt).toNat from ex_19) (show x_18.toInt = (i.toInt) + (2) by omega))
  refine lv_aload_n (pc := 1126) hx hb dL_law_1126 rfl (lv_at hl 3 rfl) ?_
  refine lv_iload_n (pc := 1127) hx hb dL_law_1127 rfl (lv_at hl 0 rfl) ?_
  refine lv_iconst (pc := 1128) (v := 3) hx hb dL_law_1128 (by decide) ?_
  refine b_iadd (pc := 1129) hx hb rfl tI_3 (by omega) (by omega) dL_law_1129 (fun x_20 ex_20 => ?_)
  refine va_sld (pc := 1130) hx hb hX hbl hbA hS (n_in rfl (by omega) (by omega)) dL_law_1130 ?_
  refine lv_topi (fun x_21 ex_21 => ?_)
  have rx_21 := n_rng x_21
  have tx_21 := congrArg Int32.toInt (e_ld (f := xs) (show x_21 = xs (x_20.toInt).toNat from ex_21) (show x_20.toInt = (i.toInt) + (3) by omega))
  have hP : va_P D gcl (wM cB cC cI cJ v ++ wX cB cC cI cJ w_8) H := va_P.swap (a := []) (b := wX cB cC cI cJ w_8) (c := wM cB cC cI cJ v) hP
  have hD : va_D (fun q : Nat => s.heap.size ≤ q) (wM cB cC cI cJ v ++ wX cB cC cI cJ w_8) := va_D.swap (a := []) (b := wX cB cC cI cJ w_8) (c := wM cB cC cI cJ v) hD
  refine cc_1131 C0 hK hF v hfM hl x_17 x_19 x_21 hP hD hS (fun r_22 w_23 H locs hf_24 ho_25 he_26 he_27 he_28 he_29 he_30 hP hD hS => ?_)
  have rr_22 := n_rngL r_22
  refine lv_pop2_2 (pc := 1134) hx hb dL_law_1134 rfl ?_
  refine lv_goto (pc := 1135) (tgt := 1519) hx hb dL_law_1135 (by decide) ?_
  exact kk w_8 w_23 H locs ls hf_9 hf_24 ⟨te_cut heq.1 he_12 he_27 (by omega) (by omega), by omega, plE_keep heq.2.2 he_14 he_29 (by omega) (by omega) (by omega)⟩ ho_10 ho_25 (va_P.swap (a := []) (b := wM cB cC cI cJ w_23) (c := wX cB cC cI cJ w_8) hP) (va_D.swap (a := []) (b := wM cB cC cI cJ w_23) (c := wX cB cC cI cJ w_8) hD) hS hl
set_option maxHeartbeats 8000000 in
set_option maxRecDepth 100000 in
theorem lo_30 {p : Program} {l : Launch} {e : Env} {s : State} {m : MethodId} {below : List Frame} {meth : Method} {c : Code} {D : va_G} {cB cC cI cJ : ClassId} {b L : Nat} {xs : Nat → Int32} {adK adV : Nat → Nat} (C0 : lw_At p s m meth c b L xs) (hLN : L ≤ 3072) (hK : va_K D gcl [(cB, .byte), (cC, .char), (cI, .int), (cJ, .long)] s) (hF : sF adK adV (fun q : Nat => s.heap.size ≤ q) s s.heap) (o1 o2 : Nat) (i : Int32) (hi0 : 0 ≤ i.toInt) (hi1 : i.toInt + 6 ≤ (L : Int)) (u v : gEx) (hfX : fX u) (hfM : fM v) (heq : tEq (u.2.1 4) (u.2.2.2.1 7).toInt (v.2.1 0) (v.2.2.2.1 0).toInt ∧ ((u.2.2.2.1 5).toInt = (v.2.2.2.1 6).toInt ∧ (u.2.2.2.1 6).toInt = (v.2.2.2.1 7).toInt ∧ (u.2.2.2.1 15).toInt = (v.2.2.2.1 8).toInt ∧ (u.2.2.2.1 16).toInt = (v.2.2.2.1 9).toInt ∧ (u.2.2.2.1 17).toInt = (v.2.2.2.1 10).toInt ∧ (u.2.2.2.1 18).toInt = (v.2.2.2.1 11).toInt ∧ (u.2.2.2.1 19).toInt = (v.2.2.2.1 12).toInt ∧ (u.2.2.2.1 43).toInt = ((v.2.1 21) 0).toInt ∧ (u.2.2.2.1 24).toInt = (v.2.2.2.1 21).toInt ∧ (u.2.2.2.1 25).toInt = (v.2.2.2.1 22).toInt ∧ (u.2.2.2.1 26).toInt = (v.2.2.2.1 20).toInt) ∧ plE (u.2.1 31) (u.2.1 15) (u.2.2.2.1 20).toInt (v.2.1 17) (v.2.1 18) (v.2.2.2.1 13).toInt (u.2.2.2.1 19).toInt (u.2.2.2.1 16).toInt (u.2.2.2.1 17).toInt) (hu0 : u.1 0 = o1) (hv0 : v.1 0 = o2) (H : Heap) (locs : List Loc) (ls : Array Slot) (hP : va_P D gcl (wX cB cC cI cJ u ++ wM cB cC cI cJ v) H) (hD : va_D (fun q : Nat => s.heap.size ≤ q) (wX cB cC cI cJ u ++ wM cB cC cI cJ v)) (hS : va_S (fun q : Nat => s.heap.size ≤ q) s.heap H locs) (hl : lv_has ls 4 [(3, .int i), (2, .ref o2), (1, .ref o1), (0, .ref b)])
    (kk : ∀ (u v : gEx) (H : Heap) (locs : List Loc) (ls : Array Slot), fX u → fM v → tEq (u.2.1 4) (u.2.2.2.1 7).toInt (v.2.1 0) (v.2.2.2.1 0).toInt ∧ ((u.2.2.2.1 5).toInt = (v.2.2.2.1 6).toInt ∧ (u.2.2.2.1 6).toInt = (v.2.2.2.1 7).toInt ∧ (u.2.2.2.1 15).toInt = (v.2.2.2.1 8).toInt ∧ (u.2.2.2.1 16).toInt = (v.2.2.2.1 9).toInt ∧ (u.2.2.2.1 17).toInt = (v.2.2.2.1 10).toInt ∧ (u.2.2.2.1 18).toInt = (v.2.2.2.1 11).toInt ∧ (u.2.2.2.1 19).toInt = (v.2.2.2.1 12).toInt ∧ (u.2.2.2.1 43).toInt = ((v.2.1 21) 0).toInt ∧ (u.2.2.2.1 24).toInt = (v.2.2.2.1 21).toInt ∧ (u.2.2.2.1 25).toInt = (v.2.2.2.1 22).toInt ∧ (u.2.2.2.1 26).toInt = (v.2.2.2.1 20).toInt) ∧ plE (u.2.1 31) (u.2.1 15) (u.2.2.2.1 20).toInt (v.2.1 17) (v.2.1 18) (v.2.2.2.1 13).toInt (u.2.2.2.1 19).toInt (u.2.2.2.1 16).toInt (u.2.2.2.1 17).toInt → u.1 0 = o1 → v.1 0 = o2 → va_P D gcl (wX cB cC cI cJ u ++ wM cB cC cI cJ v) H → va_D (fun q : Nat => s.heap.size ≤ q) (wX cB cC cI cJ u ++ wM cB cC cI cJ v) → va_S (fun q : Nat => s.heap.size ≤ q) s.heap H locs → lv_has ls 4 [(3, .int i), (2, .ref o2), (1, .ref o1), (0, .ref b)] → W p l e room_1 s m #[Value.ref b] below meth c H locs 126 15724 (lw_Z below #[Value.ref b] s) (F0 m 1519 ls [])) : W p l e room_1 s m #[Value.ref b] below meth c H locs 126 15724 (lw_Z below #[Value.ref b] s) (F0 m 1138 ls []) := by
  subst hu0
  subst hv0
  have hlen := heq.1.1
  have hreg := heq.2.1
  obtain ⟨hx, hb, hr, hml, hown, hts0, hX, hbl, hlocks, hgv⟩ := id C0
  have hts := g_tbl hts0
  have hbA : ¬ (fun q : Nat => s.heap.size ≤ q) b := Nat.not_le.mpr hbl
  refine lv_aload_n (pc := 1138) hx hb dL_law_1138 rfl (lv_at hl 2 rfl) ?_
  refine lv_aload_n (pc := 1139) hx hb dL_law_1139 rfl (lv_at hl 3 rfl) ?_
  refine lv_iload_n (pc := 1140) hx hb dL_law_1140 rfl (lv_at hl 0 rfl) ?_
  refine lv_iconst (pc := 1141) (v := 1) hx hb dL_law_1141 (by decide) ?_
  refine b_iadd (pc := 1142) hx hb rfl tI_1 (by omega) (by omega) dL_law_1142 (fun x_1 ex_1 => ?_)
  refine va_sld (pc := 1143) hx hb hX hbl hbA hS (n_in rfl (by omega) (by omega)) dL_law_1143 ?_
  refine lv_topi (fun x_2 ex_2 => ?_)
  have rx_2 := n_rng x_2
  have tx_2 := congrArg Int32.toInt (e_ld (f := xs) (show x_2 = xs (x_1.toInt).toNat from ex_2) (show x_1.toInt = (i.toInt) + (1) by omega))
  refine cc_1144 C0 hK hF u hfX hl x_2 hP hD hS (fun r_3 w_4 H locs hf_5 ho_6 he_7 he_8 he_9 he_10 he_11 hP hD hS => ?_)
  have rr_3 := n_rngL r_3
  refine lv_pop2_2 (pc := 1147) hx hb dL_law_1147 rfl ?_
  refine lv_aload_n (pc := 1148) hx hb dL_law_1148 rfl (lv_at hl 1 rfl) ?_
  refine lv_aload_n (pc := 1149) hx hb dL_law_1149 rfl (lv_at hl 3 rfl) ?_
  refine lv_iload_n (pc := 1150) hx hb dL_law_1150 rfl (lv_at hl 0 rfl) ?_
  refine lv_iconst (pc := 1151) (v := 1) hx hb dL_law_1151 (by decide) ?_
  refine b_iadd (pc := 1152) hx hb rfl tI_1 (by omega) (by omega) dL_law_1152 (fun x_12 ex_12 => ?_)
  refine va_sld (pc := 1153) hx hb hX hbl hbA hS (n_in rfl (by omega) (by omega)) dL_law_1153 ?_
  refine lv_topi (fun x_13 ex_13 => ?_)
  have rx_13 := n_rng x_13
  have tx_13 := congrArg Int32.toInt (e_ld (f := xs) (show x_13 = xs (x_12.toInt).toNat from ex_13) (show x_12.toInt = (i.toInt) + (1) by omega))
  have hP : va_P D gcl (wM cB cC cI cJ v ++ wX cB cC cI cJ w_4) H := va_P.swap (a := []) (b := wX cB cC cI cJ w_4) (c := wM cB cC cI cJ v) hP
  have hD : va_D (fun q : Nat => s.heap.size ≤ q) (wM cB cC cI cJ v ++ wX cB cC cI cJ w_4) := va_D.swap (a := []) (b := wX cB cC cI cJ w_4) (c := wM cB cC cI cJ v) hD
  refine cc_1154 C0 hK hF v hfM hl x_13 hP hD hS (fun r_14 w_15 H locs hf_16 ho_17 he_18 he_19 he_20 he_21 he_22 hP hD hS => ?_)
  have rr_14 := n_rngL r_14
  refine lv_pop2_2 (pc := 1157) hx hb dL_law_1157 rfl ?_
  refine lv_goto (pc := 1158) (tgt := 1519) hx hb dL_law_1158 (by decide) ?_
  exact kk w_4 w_15 H locs ls hf_5 hf_16 ⟨te_cut heq.1 he_8 he_19 (by omega) (by omega), by omega, plE_keep heq.2.2 he_10 he_21 (by omega) (by omega) (by omega)⟩ ho_6 ho_17 (va_P.swap (a := []) (b := wM cB cC cI cJ w_15) (c := wX cB cC cI cJ w_4) hP) (va_D.swap (a := []) (b := wM cB cC cI cJ w_15) (c := wX cB cC cI cJ w_4) hD) hS hl
set_option maxHeartbeats 8000000 in
set_option maxRecDepth 100000 in
theorem lo_31 {p : Program} {l : Launch} {e : Env} {s : State} {m : MethodId} {below : List Frame} {meth : Method} {c : Code} {D : va_G} {cB cC cI cJ : ClassId} {b L : Nat} {xs : Nat → Int32} {adK adV : Nat → Nat} (C0 : lw_At p s m meth c b L xs) (hLN : L ≤ 3072) (hK : va_K D gcl [(cB, .byte), (cC, .char), (cI, .int), (cJ, .long)] s) (hF : sF adK adV (fun q : Nat => s.heap.size ≤ q) s s.heap) (o1 o2 : Nat) (i : Int32) (hi0 : 0 ≤ i.toInt) (hi1 : i.toInt + 6 ≤ (L : Int)) (u v : gEx) (hfX : fX u) (hfM : fM v) (heq : tEq (u.2.1 4) (u.2.2.2.1 7).toInt (v.2.1 0) (v.2.2.2.1 0).toInt ∧ ((u.2.2.2.1 5).toInt = (v.2.2.2.1 6).toInt ∧ (u.2.2.2.1 6).toInt = (v.2.2.2.1 7).toInt ∧ (u.2.2.2.1 15).toInt = (v.2.2.2.1 8).toInt ∧ (u.2.2.2.1 16).toInt = (v.2.2.2.1 9).toInt ∧ (u.2.2.2.1 17).toInt = (v.2.2.2.1 10).toInt ∧ (u.2.2.2.1 18).toInt = (v.2.2.2.1 11).toInt ∧ (u.2.2.2.1 19).toInt = (v.2.2.2.1 12).toInt ∧ (u.2.2.2.1 43).toInt = ((v.2.1 21) 0).toInt ∧ (u.2.2.2.1 24).toInt = (v.2.2.2.1 21).toInt ∧ (u.2.2.2.1 25).toInt = (v.2.2.2.1 22).toInt ∧ (u.2.2.2.1 26).toInt = (v.2.2.2.1 20).toInt) ∧ plE (u.2.1 31) (u.2.1 15) (u.2.2.2.1 20).toInt (v.2.1 17) (v.2.1 18) (v.2.2.2.1 13).toInt (u.2.2.2.1 19).toInt (u.2.2.2.1 16).toInt (u.2.2.2.1 17).toInt) (hu0 : u.1 0 = o1) (hv0 : v.1 0 = o2) (H : Heap) (locs : List Loc) (ls : Array Slot) (hP : va_P D gcl (wX cB cC cI cJ u ++ wM cB cC cI cJ v) H) (hD : va_D (fun q : Nat => s.heap.size ≤ q) (wX cB cC cI cJ u ++ wM cB cC cI cJ v)) (hS : va_S (fun q : Nat => s.heap.size ≤ q) s.heap H locs) (hl : lv_has ls 4 [(3, .int i), (2, .ref o2), (1, .ref o1), (0, .ref b)])
    (kk : ∀ (u v : gEx) (H : Heap) (locs : List Loc) (ls : Array Slot), fX u → fM v → tEq (u.2.1 4) (u.2.2.2.1 7).toInt (v.2.1 0) (v.2.2.2.1 0).toInt ∧ ((u.2.2.2.1 5).toInt = (v.2.2.2.1 6).toInt ∧ (u.2.2.2.1 6).toInt = (v.2.2.2.1 7).toInt ∧ (u.2.2.2.1 15).toInt = (v.2.2.2.1 8).toInt ∧ (u.2.2.2.1 16).toInt = (v.2.2.2.1 9).toInt ∧ (u.2.2.2.1 17).toInt = (v.2.2.2.1 10).toInt ∧ (u.2.2.2.1 18).toInt = (v.2.2.2.1 11).toInt ∧ (u.2.2.2.1 19).toInt = (v.2.2.2.1 12).toInt ∧ (u.2.2.2.1 43).toInt = ((v.2.1 21) 0).toInt ∧ (u.2.2.2.1 24).toInt = (v.2.2.2.1 21).toInt ∧ (u.2.2.2.1 25).toInt = (v.2.2.2.1 22).toInt ∧ (u.2.2.2.1 26).toInt = (v.2.2.2.1 20).toInt) ∧ plE (u.2.1 31) (u.2.1 15) (u.2.2.2.1 20).toInt (v.2.1 17) (v.2.1 18) (v.2.2.2.1 13).toInt (u.2.2.2.1 19).toInt (u.2.2.2.1 16).toInt (u.2.2.2.1 17).toInt → u.1 0 = o1 → v.1 0 = o2 → va_P D gcl (wX cB cC cI cJ u ++ wM cB cC cI cJ v) H → va_D (fun q : Nat => s.heap.size ≤ q) (wX cB cC cI cJ u ++ wM cB cC cI cJ v) → va_S (fun q : Nat => s.heap.size ≤ q) s.heap H locs → lv_has ls 4 [(3, .int i), (2, .ref o2), (1, .ref o1), (0, .ref b)] → W p l e room_1 s m #[Value.ref b] below meth c H locs 126 15724 (lw_Z below #[Value.ref b] s) (F0 m 1519 ls [])) : W p l e room_1 s m #[Value.ref b] below meth c H locs 126 15724 (lw_Z below #[Value.ref b] s) (F0 m 1161 ls []) := by
  subst hu0
  subst hv0
  have hlen := heq.1.1
  have hreg := heq.2.1
  obtain ⟨hx, hb, hr, hml, hown, hts0, hX, hbl, hlocks, hgv⟩ := id C0
  have hts := g_tbl hts0
  have hbA : ¬ (fun q : Nat => s.heap.size ≤ q) b := Nat.not_le.mpr hbl
  refine lv_aload_n (pc := 1161) hx hb dL_law_1161 rfl (lv_at hl 2 rfl) ?_
  refine lv_aload_n (pc := 1162) hx hb dL_law_1162 rfl (lv_at hl 3 rfl) ?_
  refine lv_iload_n (pc := 1163) hx hb dL_law_1163 rfl (lv_at hl 0 rfl) ?_
  refine lv_iconst (pc := 1164) (v := 1) hx hb dL_law_1164 (by decide) ?_
  refine b_iadd (pc := 1165) hx hb rfl tI_1 (by omega) (by omega) dL_law_1165 (fun x_1 ex_1 => ?_)
  refine va_sld (pc := 1166) hx hb hX hbl hbA hS (n_in rfl (by omega) (by omega)) dL_law_1166 ?_
  refine lv_topi (fun x_2 ex_2 => ?_)
  have rx_2 := n_rng x_2
  have tx_2 := congrArg Int32.toInt (e_ld (f := xs) (show x_2 = xs (x_1.toInt).toNat from ex_2) (show x_1.toInt = (i.toInt) + (1) by omega))
  refine lv_aload_n (pc := 1167) hx hb dL_law_1167 rfl (lv_at hl 3 rfl) ?_
  refine lv_iload_n (pc := 1168) hx hb dL_law_1168 rfl (lv_at hl 0 rfl) ?_
  refine lv_iconst (pc := 1169) (v := 2) hx hb dL_law_1169 (by decide) ?_
  refine b_iadd (pc := 1170) hx hb rfl tI_2 (by omega) (by omega) dL_law_1170 (fun x_3 ex_3 => ?_)
  refine va_sld (pc := 1171) hx hb hX hbl hbA hS (n_in rfl (by omega) (by omega)) dL_law_1171 ?_
  refine lv_topi (fun x_4 ex_4 => ?_)
  have rx_4 := n_rng x_4
  have tx_4 := congrArg Int32.toInt (e_ld (f := xs) (show x_4 = xs (x_3.toInt).toNat from ex_4) (show x_3.toInt = (i.toInt) + (2) by omega))
  refine cc_1172 C0 hK hF u hfX hl x_2 x_4 hP hD hS (fun r_5 w_6 H locs hf_7 ho_8 he_9 he_10 he_11 he_12 he_13 hP hD hS => ?_)
  have rr_5 := n_rng r_5
  refine lv_pop (pc := 1175) hx hb dL_law_1175 rfl ?_
  refine lv_aload_n (pc := 1176) hx hb dL_law_1176 rfl (lv_at hl 1 rfl) ?_
  refine lv_aload_n (pc := 1177) hx hb dL_law_1177 rfl (lv_at hl 3 rfl) ?_
  refine lv_iload_n (pc := 1178) hx hb dL_law_1178 rfl (lv_at hl 0 rfl) ?_
  refine lv_iconst (pc := 1179) (v := 1) hx hb dL_law_1179 (by decide) ?_
  refine b_iadd (pc := 1180) hx hb rfl tI_1 (by omega) (by omega) dL_law_1180 (fun x_14 ex_14 => ?_)
  refine va_sld (pc := 1181) hx hb hX hbl hbA hS (n_in rfl (by omega) (by omega)) dL_law_1181 ?_
  refine lv_topi (fun x_15 ex_15 => ?_)
  have rx_15 := n_rng x_15
  have tx_15 := congrArg Int32.toInt (e_ld (f := xs) (show x_15 = xs (x_14.toInt).toNat from ex_15) (show x_14.toInt = (i.toInt) + (1) by omega))
  refine lv_aload_n (pc := 1182) hx hb dL_law_1182 rfl (lv_at hl 3 rfl) ?_
  refine lv_iload_n (pc := 1183) hx hb dL_law_1183 rfl (lv_at hl 0 rfl) ?_
  refine lv_iconst (pc := 1184) (v := 2) hx hb dL_law_1184 (by decide) ?_
  refine b_iadd (pc := 1185) hx hb rfl tI_2 (by omega) (by omega) dL_law_1185 (fun x_16 ex_16 => ?_)
  refine va_sld (pc := 1186) hx hb hX hbl hbA hS (n_in rfl (by omega) (by omega)) dL_law_1186 ?_
  refine lv_topi (fun x_17 ex_17 => ?_)
  have rx_17 := n_rng x_17
  have tx_17 := congrArg Int32.toInt (e_ld (f := xs) (show x_17 = xs (x_16.toInt).toNat from ex_17) (show x_16.toInt = (i.toInt) + (2) by omega))
  have hP : va_P D gcl (wM cB cC cI cJ v ++ wX cB cC cI cJ w_6) H := va_P.swap (a := []) (b := wX cB cC cI cJ w_6) (c := wM cB cC cI cJ v) hP
  have hD : va_D (fun q : Nat => s.heap.size ≤ q) (wM cB cC cI cJ v ++ wX cB cC cI cJ w_6) := va_D.swap (a := []) (b := wX cB cC cI cJ w_6) (c := wM cB cC cI cJ v) hD
  refine cc_1187 C0 hK hF v hfM hl x_15 x_17 hP hD hS (fun r_18 w_19 H locs hf_20 ho_21 he_22 he_23 he_24 he_25 he_26 hP hD hS => ?_)
  have rr_18 := n_rng r_18
  refine lv_pop (pc := 1190) hx hb dL_law_1190 rfl ?_
  refine lv_goto (pc := 1191) (tgt := 1519) hx hb dL_law_1191 (by decide) ?_
  exact kk w_6 w_19 H locs ls hf_7 hf_20 ⟨te_cut heq.1 he_10 he_23 (by omega) (by omega), by omega, plE_keep heq.2.2 he_12 he_25 (by omega) (by omega) (by omega)⟩ ho_8 ho_21 (va_P.swap (a := []) (b := wM cB cC cI cJ w_19) (c := wX cB cC cI cJ w_6) hP) (va_D.swap (a := []) (b := wM cB cC cI cJ w_19) (c := wX cB cC cI cJ w_6) hD) hS hl
set_option maxHeartbeats 8000000 in
set_option maxRecDepth 100000 in
theorem lo_32 {p : Program} {l : Launch} {e : Env} {s : State} {m : MethodId} {below : List Frame} {meth : Method} {c : Code} {D : va_G} {cB cC cI cJ : ClassId} {b L : Nat} {xs : Nat → Int32} {adK adV : Nat → Nat} (C0 : lw_At p s m meth c b L xs) (hLN : L ≤ 3072) (hK : va_K D gcl [(cB, .byte), (cC, .char), (cI, .int), (cJ, .long)] s) (hF : sF adK adV (fun q : Nat => s.heap.size ≤ q) s s.heap) (o1 o2 : Nat) (i : Int32) (hi0 : 0 ≤ i.toInt) (hi1 : i.toInt + 6 ≤ (L : Int)) (u v : gEx) (hfX : fX u) (hfM : fM v) (heq : tEq (u.2.1 4) (u.2.2.2.1 7).toInt (v.2.1 0) (v.2.2.2.1 0).toInt ∧ ((u.2.2.2.1 5).toInt = (v.2.2.2.1 6).toInt ∧ (u.2.2.2.1 6).toInt = (v.2.2.2.1 7).toInt ∧ (u.2.2.2.1 15).toInt = (v.2.2.2.1 8).toInt ∧ (u.2.2.2.1 16).toInt = (v.2.2.2.1 9).toInt ∧ (u.2.2.2.1 17).toInt = (v.2.2.2.1 10).toInt ∧ (u.2.2.2.1 18).toInt = (v.2.2.2.1 11).toInt ∧ (u.2.2.2.1 19).toInt = (v.2.2.2.1 12).toInt ∧ (u.2.2.2.1 43).toInt = ((v.2.1 21) 0).toInt ∧ (u.2.2.2.1 24).toInt = (v.2.2.2.1 21).toInt ∧ (u.2.2.2.1 25).toInt = (v.2.2.2.1 22).toInt ∧ (u.2.2.2.1 26).toInt = (v.2.2.2.1 20).toInt) ∧ plE (u.2.1 31) (u.2.1 15) (u.2.2.2.1 20).toInt (v.2.1 17) (v.2.1 18) (v.2.2.2.1 13).toInt (u.2.2.2.1 19).toInt (u.2.2.2.1 16).toInt (u.2.2.2.1 17).toInt) (hu0 : u.1 0 = o1) (hv0 : v.1 0 = o2) (H : Heap) (locs : List Loc) (ls : Array Slot) (hP : va_P D gcl (wX cB cC cI cJ u ++ wM cB cC cI cJ v) H) (hD : va_D (fun q : Nat => s.heap.size ≤ q) (wX cB cC cI cJ u ++ wM cB cC cI cJ v)) (hS : va_S (fun q : Nat => s.heap.size ≤ q) s.heap H locs) (hl : lv_has ls 4 [(3, .int i), (2, .ref o2), (1, .ref o1), (0, .ref b)])
    (kk : ∀ (u v : gEx) (H : Heap) (locs : List Loc) (ls : Array Slot), fX u → fM v → tEq (u.2.1 4) (u.2.2.2.1 7).toInt (v.2.1 0) (v.2.2.2.1 0).toInt ∧ ((u.2.2.2.1 5).toInt = (v.2.2.2.1 6).toInt ∧ (u.2.2.2.1 6).toInt = (v.2.2.2.1 7).toInt ∧ (u.2.2.2.1 15).toInt = (v.2.2.2.1 8).toInt ∧ (u.2.2.2.1 16).toInt = (v.2.2.2.1 9).toInt ∧ (u.2.2.2.1 17).toInt = (v.2.2.2.1 10).toInt ∧ (u.2.2.2.1 18).toInt = (v.2.2.2.1 11).toInt ∧ (u.2.2.2.1 19).toInt = (v.2.2.2.1 12).toInt ∧ (u.2.2.2.1 43).toInt = ((v.2.1 21) 0).toInt ∧ (u.2.2.2.1 24).toInt = (v.2.2.2.1 21).toInt ∧ (u.2.2.2.1 25).toInt = (v.2.2.2.1 22).toInt ∧ (u.2.2.2.1 26).toInt = (v.2.2.2.1 20).toInt) ∧ plE (u.2.1 31) (u.2.1 15) (u.2.2.2.1 20).toInt (v.2.1 17) (v.2.1 18) (v.2.2.2.1 13).toInt (u.2.2.2.1 19).toInt (u.2.2.2.1 16).toInt (u.2.2.2.1 17).toInt → u.1 0 = o1 → v.1 0 = o2 → va_P D gcl (wX cB cC cI cJ u ++ wM cB cC cI cJ v) H → va_D (fun q : Nat => s.heap.size ≤ q) (wX cB cC cI cJ u ++ wM cB cC cI cJ v) → va_S (fun q : Nat => s.heap.size ≤ q) s.heap H locs → lv_has ls 4 [(3, .int i), (2, .ref o2), (1, .ref o1), (0, .ref b)] → W p l e room_1 s m #[Value.ref b] below meth c H locs 126 15724 (lw_Z below #[Value.ref b] s) (F0 m 1519 ls [])) : W p l e room_1 s m #[Value.ref b] below meth c H locs 126 15724 (lw_Z below #[Value.ref b] s) (F0 m 1194 ls []) := by
  subst hu0
  subst hv0
  have hlen := heq.1.1
  have hreg := heq.2.1
  obtain ⟨hx, hb, hr, hml, hown, hts0, hX, hbl, hlocks, hgv⟩ := id C0
  have hts := g_tbl hts0
  have hbA : ¬ (fun q : Nat => s.heap.size ≤ q) b := Nat.not_le.mpr hbl
  refine lv_aload_n (pc := 1194) hx hb dL_law_1194 rfl (lv_at hl 2 rfl) ?_
  refine lv_aload_n (pc := 1195) hx hb dL_law_1195 rfl (lv_at hl 3 rfl) ?_
  refine lv_iload_n (pc := 1196) hx hb dL_law_1196 rfl (lv_at hl 0 rfl) ?_
  refine lv_iconst (pc := 1197) (v := 1) hx hb dL_law_1197 (by decide) ?_
  refine b_iadd (pc := 1198) hx hb rfl tI_1 (by omega) (by omega) dL_law_1198 (fun x_1 ex_1 => ?_)
  refine va_sld (pc := 1199) hx hb hX hbl hbA hS (n_in rfl (by omega) (by omega)) dL_law_1199 ?_
  refine lv_topi (fun x_2 ex_2 => ?_)
  have rx_2 := n_rng x_2
  have tx_2 := congrArg Int32.toInt (e_ld (f := xs) (show x_2 = xs (x_1.toInt).toNat from ex_2) (show x_1.toInt = (i.toInt) + (1) by omega))
  refine cc_1200 C0 hK hF u hfX hl x_2 hP hD hS (fun r_3 w_4 H locs hf_5 ho_6 he_7 he_8 he_9 he_10 he_11 hP hD hS => ?_)
  have rr_3 := n_rngL r_3
  refine lv_pop2_2 (pc := 1203) hx hb dL_law_1203 rfl ?_
  refine lv_aload_n (pc := 1204) hx hb dL_law_1204 rfl (lv_at hl 1 rfl) ?_
  refine lv_aload_n (pc := 1205) hx hb dL_law_1205 rfl (lv_at hl 3 rfl) ?_
  refine lv_iload_n (pc := 1206) hx hb dL_law_1206 rfl (lv_at hl 0 rfl) ?_
  refine lv_iconst (pc := 1207) (v := 1) hx hb dL_law_1207 (by decide) ?_
  refine b_iadd (pc := 1208) hx hb rfl tI_1 (by omega) (by omega) dL_law_1208 (fun x_12 ex_12 => ?_)
  refine va_sld (pc := 1209) hx hb hX hbl hbA hS (n_in rfl (by omega) (by omega)) dL_law_1209 ?_
  refine lv_topi (fun x_13 ex_13 => ?_)
  have rx_13 := n_rng x_13
  have tx_13 := congrArg Int32.toInt (e_ld (f := xs) (show x_13 = xs (x_12.toInt).toNat from ex_13) (show x_12.toInt = (i.toInt) + (1) by omega))
  have hP : va_P D gcl (wM cB cC cI cJ v ++ wX cB cC cI cJ w_4) H := va_P.swap (a := []) (b := wX cB cC cI cJ w_4) (c := wM cB cC cI cJ v) hP
  have hD : va_D (fun q : Nat => s.heap.size ≤ q) (wM cB cC cI cJ v ++ wX cB cC cI cJ w_4) := va_D.swap (a := []) (b := wX cB cC cI cJ w_4) (c := wM cB cC cI cJ v) hD
  refine cc_1210 C0 hK hF v hfM hl x_13 hP hD hS (fun r_14 w_15 H locs hf_16 ho_17 he_18 he_19 he_20 he_21 he_22 hP hD hS => ?_)
  have rr_14 := n_rngL r_14
  refine lv_pop2_2 (pc := 1213) hx hb dL_law_1213 rfl ?_
  refine lv_goto (pc := 1214) (tgt := 1519) hx hb dL_law_1214 (by decide) ?_
  exact kk w_4 w_15 H locs ls hf_5 hf_16 ⟨te_cut heq.1 he_8 he_19 (by omega) (by omega), by omega, plE_keep heq.2.2 he_10 he_21 (by omega) (by omega) (by omega)⟩ ho_6 ho_17 (va_P.swap (a := []) (b := wM cB cC cI cJ w_15) (c := wX cB cC cI cJ w_4) hP) (va_D.swap (a := []) (b := wM cB cC cI cJ w_15) (c := wX cB cC cI cJ w_4) hD) hS hl
set_option maxHeartbeats 8000000 in
set_option maxRecDepth 100000 in
theorem lo_33 {p : Program} {l : Launch} {e : Env} {s : State} {m : MethodId} {below : List Frame} {meth : Method} {c : Code} {D : va_G} {cB cC cI cJ : ClassId} {b L : Nat} {xs : Nat → Int32} {adK adV : Nat → Nat} (C0 : lw_At p s m meth c b L xs) (hLN : L ≤ 3072) (hK : va_K D gcl [(cB, .byte), (cC, .char), (cI, .int), (cJ, .long)] s) (hF : sF adK adV (fun q : Nat => s.heap.size ≤ q) s s.heap) (o1 o2 : Nat) (i : Int32) (hi0 : 0 ≤ i.toInt) (hi1 : i.toInt + 6 ≤ (L : Int)) (u v : gEx) (hfX : fX u) (hfM : fM v) (heq : tEq (u.2.1 4) (u.2.2.2.1 7).toInt (v.2.1 0) (v.2.2.2.1 0).toInt ∧ ((u.2.2.2.1 5).toInt = (v.2.2.2.1 6).toInt ∧ (u.2.2.2.1 6).toInt = (v.2.2.2.1 7).toInt ∧ (u.2.2.2.1 15).toInt = (v.2.2.2.1 8).toInt ∧ (u.2.2.2.1 16).toInt = (v.2.2.2.1 9).toInt ∧ (u.2.2.2.1 17).toInt = (v.2.2.2.1 10).toInt ∧ (u.2.2.2.1 18).toInt = (v.2.2.2.1 11).toInt ∧ (u.2.2.2.1 19).toInt = (v.2.2.2.1 12).toInt ∧ (u.2.2.2.1 43).toInt = ((v.2.1 21) 0).toInt ∧ (u.2.2.2.1 24).toInt = (v.2.2.2.1 21).toInt ∧ (u.2.2.2.1 25).toInt = (v.2.2.2.1 22).toInt ∧ (u.2.2.2.1 26).toInt = (v.2.2.2.1 20).toInt) ∧ plE (u.2.1 31) (u.2.1 15) (u.2.2.2.1 20).toInt (v.2.1 17) (v.2.1 18) (v.2.2.2.1 13).toInt (u.2.2.2.1 19).toInt (u.2.2.2.1 16).toInt (u.2.2.2.1 17).toInt) (hu0 : u.1 0 = o1) (hv0 : v.1 0 = o2) (H : Heap) (locs : List Loc) (ls : Array Slot) (hP : va_P D gcl (wX cB cC cI cJ u ++ wM cB cC cI cJ v) H) (hD : va_D (fun q : Nat => s.heap.size ≤ q) (wX cB cC cI cJ u ++ wM cB cC cI cJ v)) (hS : va_S (fun q : Nat => s.heap.size ≤ q) s.heap H locs) (hl : lv_has ls 4 [(3, .int i), (2, .ref o2), (1, .ref o1), (0, .ref b)])
    (kk : ∀ (u v : gEx) (H : Heap) (locs : List Loc) (ls : Array Slot), fX u → fM v → tEq (u.2.1 4) (u.2.2.2.1 7).toInt (v.2.1 0) (v.2.2.2.1 0).toInt ∧ ((u.2.2.2.1 5).toInt = (v.2.2.2.1 6).toInt ∧ (u.2.2.2.1 6).toInt = (v.2.2.2.1 7).toInt ∧ (u.2.2.2.1 15).toInt = (v.2.2.2.1 8).toInt ∧ (u.2.2.2.1 16).toInt = (v.2.2.2.1 9).toInt ∧ (u.2.2.2.1 17).toInt = (v.2.2.2.1 10).toInt ∧ (u.2.2.2.1 18).toInt = (v.2.2.2.1 11).toInt ∧ (u.2.2.2.1 19).toInt = (v.2.2.2.1 12).toInt ∧ (u.2.2.2.1 43).toInt = ((v.2.1 21) 0).toInt ∧ (u.2.2.2.1 24).toInt = (v.2.2.2.1 21).toInt ∧ (u.2.2.2.1 25).toInt = (v.2.2.2.1 22).toInt ∧ (u.2.2.2.1 26).toInt = (v.2.2.2.1 20).toInt) ∧ plE (u.2.1 31) (u.2.1 15) (u.2.2.2.1 20).toInt (v.2.1 17) (v.2.1 18) (v.2.2.2.1 13).toInt (u.2.2.2.1 19).toInt (u.2.2.2.1 16).toInt (u.2.2.2.1 17).toInt → u.1 0 = o1 → v.1 0 = o2 → va_P D gcl (wX cB cC cI cJ u ++ wM cB cC cI cJ v) H → va_D (fun q : Nat => s.heap.size ≤ q) (wX cB cC cI cJ u ++ wM cB cC cI cJ v) → va_S (fun q : Nat => s.heap.size ≤ q) s.heap H locs → lv_has ls 4 [(3, .int i), (2, .ref o2), (1, .ref o1), (0, .ref b)] → W p l e room_1 s m #[Value.ref b] below meth c H locs 126 15724 (lw_Z below #[Value.ref b] s) (F0 m 1519 ls [])) : W p l e room_1 s m #[Value.ref b] below meth c H locs 126 15724 (lw_Z below #[Value.ref b] s) (F0 m 1217 ls []) := by
  subst hu0
  subst hv0
  have hlen := heq.1.1
  have hreg := heq.2.1
  obtain ⟨hx, hb, hr, hml, hown, hts0, hX, hbl, hlocks, hgv⟩ := id C0
  have hts := g_tbl hts0
  have hbA : ¬ (fun q : Nat => s.heap.size ≤ q) b := Nat.not_le.mpr hbl
  refine lv_aload_n (pc := 1217) hx hb dL_law_1217 rfl (lv_at hl 2 rfl) ?_
  refine cc_1218 C0 hK hF u hfX hl  hP hD hS (fun r_1 w_2 H locs hf_3 ho_4 he_5 he_6 he_7 he_8 he_9 hP hD hS => ?_)
  have rr_1 := n_rng r_1
  refine lv_pop (pc := 1221) hx hb dL_law_1221 rfl ?_
  refine lv_aload_n (pc := 1222) hx hb dL_law_1222 rfl (lv_at hl 1 rfl) ?_
  have hP : va_P D gcl (wM cB cC cI cJ v ++ wX cB cC cI cJ w_2) H := va_P.swap (a := []) (b := wX cB cC cI cJ w_2) (c := wM cB cC cI cJ v) hP
  have hD : va_D (fun q : Nat => s.heap.size ≤ q) (wM cB cC cI cJ v ++ wX cB cC cI cJ w_2) := va_D.swap (a := []) (b := wX cB cC cI cJ w_2) (c := wM cB cC cI cJ v) hD
  refine cc_1223 C0 hK hF v hfM hl  hP hD hS (fun r_10 w_11 H locs hf_12 ho_13 he_14 he_15 he_16 he_17 he_18 hP hD hS => ?_)
  have rr_10 := n_rng r_10
  refine lv_pop (pc := 1226) hx hb dL_law_1226 rfl ?_
  refine lv_goto (pc := 1227) (tgt := 1519) hx hb dL_law_1227 (by decide) ?_
  exact kk w_2 w_11 H locs ls hf_3 hf_12 ⟨te_cut heq.1 he_6 he_15 (by omega) (by omega), by omega, plE_keep heq.2.2 he_8 he_17 (by omega) (by omega) (by omega)⟩ ho_4 ho_13 (va_P.swap (a := []) (b := wM cB cC cI cJ w_11) (c := wX cB cC cI cJ w_2) hP) (va_D.swap (a := []) (b := wM cB cC cI cJ w_11) (c := wX cB cC cI cJ w_2) hD) hS hl
set_option maxHeartbeats 8000000 in
set_option maxRecDepth 100000 in
theorem lo_34 {p : Program} {l : Launch} {e : Env} {s : State} {m : MethodId} {below : List Frame} {meth : Method} {c : Code} {D : va_G} {cB cC cI cJ : ClassId} {b L : Nat} {xs : Nat → Int32} {adK adV : Nat → Nat} (C0 : lw_At p s m meth c b L xs) (hLN : L ≤ 3072) (hK : va_K D gcl [(cB, .byte), (cC, .char), (cI, .int), (cJ, .long)] s) (hF : sF adK adV (fun q : Nat => s.heap.size ≤ q) s s.heap) (o1 o2 : Nat) (i : Int32) (hi0 : 0 ≤ i.toInt) (hi1 : i.toInt + 6 ≤ (L : Int)) (u v : gEx) (hfX : fX u) (hfM : fM v) (heq : tEq (u.2.1 4) (u.2.2.2.1 7).toInt (v.2.1 0) (v.2.2.2.1 0).toInt ∧ ((u.2.2.2.1 5).toInt = (v.2.2.2.1 6).toInt ∧ (u.2.2.2.1 6).toInt = (v.2.2.2.1 7).toInt ∧ (u.2.2.2.1 15).toInt = (v.2.2.2.1 8).toInt ∧ (u.2.2.2.1 16).toInt = (v.2.2.2.1 9).toInt ∧ (u.2.2.2.1 17).toInt = (v.2.2.2.1 10).toInt ∧ (u.2.2.2.1 18).toInt = (v.2.2.2.1 11).toInt ∧ (u.2.2.2.1 19).toInt = (v.2.2.2.1 12).toInt ∧ (u.2.2.2.1 43).toInt = ((v.2.1 21) 0).toInt ∧ (u.2.2.2.1 24).toInt = (v.2.2.2.1 21).toInt ∧ (u.2.2.2.1 25).toInt = (v.2.2.2.1 22).toInt ∧ (u.2.2.2.1 26).toInt = (v.2.2.2.1 20).toInt) ∧ plE (u.2.1 31) (u.2.1 15) (u.2.2.2.1 20).toInt (v.2.1 17) (v.2.1 18) (v.2.2.2.1 13).toInt (u.2.2.2.1 19).toInt (u.2.2.2.1 16).toInt (u.2.2.2.1 17).toInt) (hu0 : u.1 0 = o1) (hv0 : v.1 0 = o2) (H : Heap) (locs : List Loc) (ls : Array Slot) (hP : va_P D gcl (wX cB cC cI cJ u ++ wM cB cC cI cJ v) H) (hD : va_D (fun q : Nat => s.heap.size ≤ q) (wX cB cC cI cJ u ++ wM cB cC cI cJ v)) (hS : va_S (fun q : Nat => s.heap.size ≤ q) s.heap H locs) (hl : lv_has ls 4 [(3, .int i), (2, .ref o2), (1, .ref o1), (0, .ref b)])
    (kk : ∀ (u v : gEx) (H : Heap) (locs : List Loc) (ls : Array Slot), fX u → fM v → tEq (u.2.1 4) (u.2.2.2.1 7).toInt (v.2.1 0) (v.2.2.2.1 0).toInt ∧ ((u.2.2.2.1 5).toInt = (v.2.2.2.1 6).toInt ∧ (u.2.2.2.1 6).toInt = (v.2.2.2.1 7).toInt ∧ (u.2.2.2.1 15).toInt = (v.2.2.2.1 8).toInt ∧ (u.2.2.2.1 16).toInt = (v.2.2.2.1 9).toInt ∧ (u.2.2.2.1 17).toInt = (v.2.2.2.1 10).toInt ∧ (u.2.2.2.1 18).toInt = (v.2.2.2.1 11).toInt ∧ (u.2.2.2.1 19).toInt = (v.2.2.2.1 12).toInt ∧ (u.2.2.2.1 43).toInt = ((v.2.1 21) 0).toInt ∧ (u.2.2.2.1 24).toInt = (v.2.2.2.1 21).toInt ∧ (u.2.2.2.1 25).toInt = (v.2.2.2.1 22).toInt ∧ (u.2.2.2.1 26).toInt = (v.2.2.2.1 20).toInt) ∧ plE (u.2.1 31) (u.2.1 15) (u.2.2.2.1 20).toInt (v.2.1 17) (v.2.1 18) (v.2.2.2.1 13).toInt (u.2.2.2.1 19).toInt (u.2.2.2.1 16).toInt (u.2.2.2.1 17).toInt → u.1 0 = o1 → v.1 0 = o2 → va_P D gcl (wX cB cC cI cJ u ++ wM cB cC cI cJ v) H → va_D (fun q : Nat => s.heap.size ≤ q) (wX cB cC cI cJ u ++ wM cB cC cI cJ v) → va_S (fun q : Nat => s.heap.size ≤ q) s.heap H locs → lv_has ls 4 [(3, .int i), (2, .ref o2), (1, .ref o1), (0, .ref b)] → W p l e room_1 s m #[Value.ref b] below meth c H locs 126 15724 (lw_Z below #[Value.ref b] s) (F0 m 1519 ls [])) : W p l e room_1 s m #[Value.ref b] below meth c H locs 126 15724 (lw_Z below #[Value.ref b] s) (F0 m 1230 ls []) := by
  subst hu0
  subst hv0
  have hlen := heq.1.1
  have hreg := heq.2.1
  obtain ⟨hx, hb, hr, hml, hown, hts0, hX, hbl, hlocks, hgv⟩ := id C0
  have hts := g_tbl hts0
  have hbA : ¬ (fun q : Nat => s.heap.size ≤ q) b := Nat.not_le.mpr hbl
  refine lv_aload_n (pc := 1230) hx hb dL_law_1230 rfl (lv_at hl 2 rfl) ?_
  refine lv_aload_n (pc := 1231) hx hb dL_law_1231 rfl (lv_at hl 3 rfl) ?_
  refine lv_iload_n (pc := 1232) hx hb dL_law_1232 rfl (lv_at hl 0 rfl) ?_
  refine lv_iconst (pc := 1233) (v := 1) hx hb dL_law_1233 (by decide) ?_
  refine b_iadd (pc := 1234) hx hb rfl tI_1 (by omega) (by omega) dL_law_1234 (fun x_1 ex_1 => ?_)
  refine va_sld (pc := 1235) hx hb hX hbl hbA hS (n_in rfl (by omega) (by omega)) dL_law_1235 ?_
  refine lv_topi (fun x_2 ex_2 => ?_)
  have rx_2 := n_rng x_2
  have tx_2 := congrArg Int32.toInt (e_ld (f := xs) (show x_2 = xs (x_1.toInt).toNat from ex_2) (show x_1.toInt = (i.toInt) + (1) by omega))
  refine cc_1236 C0 hK hF u hfX hl x_2 hP hD hS (fun r_3 w_4 H locs hf_5 ho_6 he_7 he_8 he_9 he_10 he_11 hP hD hS => ?_)
  have rr_3 := n_rngL r_3
  refine lv_pop2_2 (pc := 1239) hx hb dL_law_1239 rfl ?_
  refine lv_aload_n (pc := 1240) hx hb dL_law_1240 rfl (lv_at hl 1 rfl) ?_
  refine lv_aload_n (pc := 1241) hx hb dL_law_1241 rfl (lv_at hl 3 rfl) ?_
  refine lv_iload_n (pc := 1242) hx hb dL_law_1242 rfl (lv_at hl 0 rfl) ?_
  refine lv_iconst (pc := 1243) (v := 1) hx hb dL_law_1243 (by decide) ?_
  refine b_iadd (pc := 1244) hx hb rfl tI_1 (by omega) (by omega) dL_law_1244 (fun x_12 ex_12 => ?_)
  refine va_sld (pc := 1245) hx hb hX hbl hbA hS (n_in rfl (by omega) (by omega)) dL_law_1245 ?_
  refine lv_topi (fun x_13 ex_13 => ?_)
  have rx_13 := n_rng x_13
  have tx_13 := congrArg Int32.toInt (e_ld (f := xs) (show x_13 = xs (x_12.toInt).toNat from ex_13) (show x_12.toInt = (i.toInt) + (1) by omega))
  have hP : va_P D gcl (wM cB cC cI cJ v ++ wX cB cC cI cJ w_4) H := va_P.swap (a := []) (b := wX cB cC cI cJ w_4) (c := wM cB cC cI cJ v) hP
  have hD : va_D (fun q : Nat => s.heap.size ≤ q) (wM cB cC cI cJ v ++ wX cB cC cI cJ w_4) := va_D.swap (a := []) (b := wX cB cC cI cJ w_4) (c := wM cB cC cI cJ v) hD
  refine cc_1246 C0 hK hF v hfM hl x_13 hP hD hS (fun r_14 w_15 H locs hf_16 ho_17 he_18 he_19 he_20 he_21 he_22 hP hD hS => ?_)
  have rr_14 := n_rngL r_14
  refine lv_pop2_2 (pc := 1249) hx hb dL_law_1249 rfl ?_
  refine lv_goto (pc := 1250) (tgt := 1519) hx hb dL_law_1250 (by decide) ?_
  exact kk w_4 w_15 H locs ls hf_5 hf_16 ⟨te_cut heq.1 he_8 he_19 (by omega) (by omega), by omega, plE_keep heq.2.2 he_10 he_21 (by omega) (by omega) (by omega)⟩ ho_6 ho_17 (va_P.swap (a := []) (b := wM cB cC cI cJ w_15) (c := wX cB cC cI cJ w_4) hP) (va_D.swap (a := []) (b := wM cB cC cI cJ w_15) (c := wX cB cC cI cJ w_4) hD) hS hl
set_option maxHeartbeats 8000000 in
set_option maxRecDepth 100000 in
theorem lo_35 {p : Program} {l : Launch} {e : Env} {s : State} {m : MethodId} {below : List Frame} {meth : Method} {c : Code} {D : va_G} {cB cC cI cJ : ClassId} {b L : Nat} {xs : Nat → Int32} {adK adV : Nat → Nat} (C0 : lw_At p s m meth c b L xs) (hLN : L ≤ 3072) (hK : va_K D gcl [(cB, .byte), (cC, .char), (cI, .int), (cJ, .long)] s) (hF : sF adK adV (fun q : Nat => s.heap.size ≤ q) s s.heap) (o1 o2 : Nat) (i : Int32) (hi0 : 0 ≤ i.toInt) (hi1 : i.toInt + 6 ≤ (L : Int)) (u v : gEx) (hfX : fX u) (hfM : fM v) (heq : tEq (u.2.1 4) (u.2.2.2.1 7).toInt (v.2.1 0) (v.2.2.2.1 0).toInt ∧ ((u.2.2.2.1 5).toInt = (v.2.2.2.1 6).toInt ∧ (u.2.2.2.1 6).toInt = (v.2.2.2.1 7).toInt ∧ (u.2.2.2.1 15).toInt = (v.2.2.2.1 8).toInt ∧ (u.2.2.2.1 16).toInt = (v.2.2.2.1 9).toInt ∧ (u.2.2.2.1 17).toInt = (v.2.2.2.1 10).toInt ∧ (u.2.2.2.1 18).toInt = (v.2.2.2.1 11).toInt ∧ (u.2.2.2.1 19).toInt = (v.2.2.2.1 12).toInt ∧ (u.2.2.2.1 43).toInt = ((v.2.1 21) 0).toInt ∧ (u.2.2.2.1 24).toInt = (v.2.2.2.1 21).toInt ∧ (u.2.2.2.1 25).toInt = (v.2.2.2.1 22).toInt ∧ (u.2.2.2.1 26).toInt = (v.2.2.2.1 20).toInt) ∧ plE (u.2.1 31) (u.2.1 15) (u.2.2.2.1 20).toInt (v.2.1 17) (v.2.1 18) (v.2.2.2.1 13).toInt (u.2.2.2.1 19).toInt (u.2.2.2.1 16).toInt (u.2.2.2.1 17).toInt) (hu0 : u.1 0 = o1) (hv0 : v.1 0 = o2) (H : Heap) (locs : List Loc) (ls : Array Slot) (hP : va_P D gcl (wX cB cC cI cJ u ++ wM cB cC cI cJ v) H) (hD : va_D (fun q : Nat => s.heap.size ≤ q) (wX cB cC cI cJ u ++ wM cB cC cI cJ v)) (hS : va_S (fun q : Nat => s.heap.size ≤ q) s.heap H locs) (hl : lv_has ls 4 [(3, .int i), (2, .ref o2), (1, .ref o1), (0, .ref b)])
    (kk : ∀ (u v : gEx) (H : Heap) (locs : List Loc) (ls : Array Slot), fX u → fM v → tEq (u.2.1 4) (u.2.2.2.1 7).toInt (v.2.1 0) (v.2.2.2.1 0).toInt ∧ ((u.2.2.2.1 5).toInt = (v.2.2.2.1 6).toInt ∧ (u.2.2.2.1 6).toInt = (v.2.2.2.1 7).toInt ∧ (u.2.2.2.1 15).toInt = (v.2.2.2.1 8).toInt ∧ (u.2.2.2.1 16).toInt = (v.2.2.2.1 9).toInt ∧ (u.2.2.2.1 17).toInt = (v.2.2.2.1 10).toInt ∧ (u.2.2.2.1 18).toInt = (v.2.2.2.1 11).toInt ∧ (u.2.2.2.1 19).toInt = (v.2.2.2.1 12).toInt ∧ (u.2.2.2.1 43).toInt = ((v.2.1 21) 0).toInt ∧ (u.2.2.2.1 24).toInt = (v.2.2.2.1 21).toInt ∧ (u.2.2.2.1 25).toInt = (v.2.2.2.1 22).toInt ∧ (u.2.2.2.1 26).toInt = (v.2.2.2.1 20).toInt) ∧ plE (u.2.1 31) (u.2.1 15) (u.2.2.2.1 20).toInt (v.2.1 17) (v.2.1 18) (v.2.2.2.1 13).toInt (u.2.2.2.1 19).toInt (u.2.2.2.1 16).toInt (u.2.2.2.1 17).toInt → u.1 0 = o1 → v.1 0 = o2 → va_P D gcl (wX cB cC cI cJ u ++ wM cB cC cI cJ v) H → va_D (fun q : Nat => s.heap.size ≤ q) (wX cB cC cI cJ u ++ wM cB cC cI cJ v) → va_S (fun q : Nat => s.heap.size ≤ q) s.heap H locs → lv_has ls 4 [(3, .int i), (2, .ref o2), (1, .ref o1), (0, .ref b)] → W p l e room_1 s m #[Value.ref b] below meth c H locs 126 15724 (lw_Z below #[Value.ref b] s) (F0 m 1519 ls [])) : W p l e room_1 s m #[Value.ref b] below meth c H locs 126 15724 (lw_Z below #[Value.ref b] s) (F0 m 1253 ls []) := by
  subst hu0
  subst hv0
  have hlen := heq.1.1
  have hreg := heq.2.1
  obtain ⟨hx, hb, hr, hml, hown, hts0, hX, hbl, hlocks, hgv⟩ := id C0
  have hts := g_tbl hts0
  have hbA : ¬ (fun q : Nat => s.heap.size ≤ q) b := Nat.not_le.mpr hbl
  refine lv_aload_n (pc := 1253) hx hb dL_law_1253 rfl (lv_at hl 2 rfl) ?_
  refine lv_aload_n (pc := 1254) hx hb dL_law_1254 rfl (lv_at hl 3 rfl) ?_
  refine lv_iload_n (pc := 1255) hx hb dL_law_1255 rfl (lv_at hl 0 rfl) ?_
  refine lv_iconst (pc := 1256) (v := 1) hx hb dL_law_1256 (by decide) ?_
  refine b_iadd (pc := 1257) hx hb rfl tI_1 (by omega) (by omega) dL_law_1257 (fun x_1 ex_1 => ?_)
  refine va_sld (pc := 1258) hx hb hX hbl hbA hS (n_in rfl (by omega) (by omega)) dL_law_1258 ?_
  refine lv_topi (fun x_2 ex_2 => ?_)
  have rx_2 := n_rng x_2
  have tx_2 := congrArg Int32.toInt (e_ld (f := xs) (show x_2 = xs (x_1.toInt).toNat from ex_2) (show x_1.toInt = (i.toInt) + (1) by omega))
  refine cc_1259 C0 hK hF u hfX hl x_2 hP hD hS (fun r_3 w_4 H locs hf_5 ho_6 he_7 he_8 he_9 he_10 he_11 hP hD hS => ?_)
  have rr_3 := n_rng r_3
  refine lv_pop (pc := 1262) hx hb dL_law_1262 rfl ?_
  refine lv_aload_n (pc := 1263) hx hb dL_law_1263 rfl (lv_at hl 1 rfl) ?_
  refine lv_aload_n (pc := 1264) hx hb dL_law_1264 rfl (lv_at hl 3 rfl) ?_
  refine lv_iload_n (pc := 1265) hx hb dL_law_1265 rfl (lv_at hl 0 rfl) ?_
  refine lv_iconst (pc := 1266) (v := 1) hx hb dL_law_1266 (by decide) ?_
  refine b_iadd (pc := 1267) hx hb rfl tI_1 (by omega) (by omega) dL_law_1267 (fun x_12 ex_12 => ?_)
  refine va_sld (pc := 1268) hx hb hX hbl hbA hS (n_in rfl (by omega) (by omega)) dL_law_1268 ?_
  refine lv_topi (fun x_13 ex_13 => ?_)
  have rx_13 := n_rng x_13
  have tx_13 := congrArg Int32.toInt (e_ld (f := xs) (show x_13 = xs (x_12.toInt).toNat from ex_13) (show x_12.toInt = (i.toInt) + (1) by omega))
  have hP : va_P D gcl (wM cB cC cI cJ v ++ wX cB cC cI cJ w_4) H := va_P.swap (a := []) (b := wX cB cC cI cJ w_4) (c := wM cB cC cI cJ v) hP
  have hD : va_D (fun q : Nat => s.heap.size ≤ q) (wM cB cC cI cJ v ++ wX cB cC cI cJ w_4) := va_D.swap (a := []) (b := wX cB cC cI cJ w_4) (c := wM cB cC cI cJ v) hD
  refine cc_1269 C0 hK hF v hfM hl x_13 hP hD hS (fun r_14 w_15 H locs hf_16 ho_17 he_18 he_19 he_20 he_21 he_22 hP hD hS => ?_)
  have rr_14 := n_rng r_14
  refine lv_pop (pc := 1272) hx hb dL_law_1272 rfl ?_
  refine lv_goto (pc := 1273) (tgt := 1519) hx hb dL_law_1273 (by decide) ?_
  exact kk w_4 w_15 H locs ls hf_5 hf_16 ⟨te_cut heq.1 he_8 he_19 (by omega) (by omega), by omega, plE_keep heq.2.2 he_10 he_21 (by omega) (by omega) (by omega)⟩ ho_6 ho_17 (va_P.swap (a := []) (b := wM cB cC cI cJ w_15) (c := wX cB cC cI cJ w_4) hP) (va_D.swap (a := []) (b := wM cB cC cI cJ w_15) (c := wX cB cC cI cJ w_4) hD) hS hl
set_option maxHeartbeats 8000000 in
set_option maxRecDepth 100000 in
theorem lo_36 {p : Program} {l : Launch} {e : Env} {s : State} {m : MethodId} {below : List Frame} {meth : Method} {c : Code} {D : va_G} {cB cC cI cJ : ClassId} {b L : Nat} {xs : Nat → Int32} {adK adV : Nat → Nat} (C0 : lw_At p s m meth c b L xs) (hLN : L ≤ 3072) (hK : va_K D gcl [(cB, .byte), (cC, .char), (cI, .int), (cJ, .long)] s) (hF : sF adK adV (fun q : Nat => s.heap.size ≤ q) s s.heap) (o1 o2 : Nat) (i : Int32) (hi0 : 0 ≤ i.toInt) (hi1 : i.toInt + 6 ≤ (L : Int)) (u v : gEx) (hfX : fX u) (hfM : fM v) (heq : tEq (u.2.1 4) (u.2.2.2.1 7).toInt (v.2.1 0) (v.2.2.2.1 0).toInt ∧ ((u.2.2.2.1 5).toInt = (v.2.2.2.1 6).toInt ∧ (u.2.2.2.1 6).toInt = (v.2.2.2.1 7).toInt ∧ (u.2.2.2.1 15).toInt = (v.2.2.2.1 8).toInt ∧ (u.2.2.2.1 16).toInt = (v.2.2.2.1 9).toInt ∧ (u.2.2.2.1 17).toInt = (v.2.2.2.1 10).toInt ∧ (u.2.2.2.1 18).toInt = (v.2.2.2.1 11).toInt ∧ (u.2.2.2.1 19).toInt = (v.2.2.2.1 12).toInt ∧ (u.2.2.2.1 43).toInt = ((v.2.1 21) 0).toInt ∧ (u.2.2.2.1 24).toInt = (v.2.2.2.1 21).toInt ∧ (u.2.2.2.1 25).toInt = (v.2.2.2.1 22).toInt ∧ (u.2.2.2.1 26).toInt = (v.2.2.2.1 20).toInt) ∧ plE (u.2.1 31) (u.2.1 15) (u.2.2.2.1 20).toInt (v.2.1 17) (v.2.1 18) (v.2.2.2.1 13).toInt (u.2.2.2.1 19).toInt (u.2.2.2.1 16).toInt (u.2.2.2.1 17).toInt) (hu0 : u.1 0 = o1) (hv0 : v.1 0 = o2) (H : Heap) (locs : List Loc) (ls : Array Slot) (hP : va_P D gcl (wX cB cC cI cJ u ++ wM cB cC cI cJ v) H) (hD : va_D (fun q : Nat => s.heap.size ≤ q) (wX cB cC cI cJ u ++ wM cB cC cI cJ v)) (hS : va_S (fun q : Nat => s.heap.size ≤ q) s.heap H locs) (hl : lv_has ls 4 [(3, .int i), (2, .ref o2), (1, .ref o1), (0, .ref b)])
    (kk : ∀ (u v : gEx) (H : Heap) (locs : List Loc) (ls : Array Slot), fX u → fM v → tEq (u.2.1 4) (u.2.2.2.1 7).toInt (v.2.1 0) (v.2.2.2.1 0).toInt ∧ ((u.2.2.2.1 5).toInt = (v.2.2.2.1 6).toInt ∧ (u.2.2.2.1 6).toInt = (v.2.2.2.1 7).toInt ∧ (u.2.2.2.1 15).toInt = (v.2.2.2.1 8).toInt ∧ (u.2.2.2.1 16).toInt = (v.2.2.2.1 9).toInt ∧ (u.2.2.2.1 17).toInt = (v.2.2.2.1 10).toInt ∧ (u.2.2.2.1 18).toInt = (v.2.2.2.1 11).toInt ∧ (u.2.2.2.1 19).toInt = (v.2.2.2.1 12).toInt ∧ (u.2.2.2.1 43).toInt = ((v.2.1 21) 0).toInt ∧ (u.2.2.2.1 24).toInt = (v.2.2.2.1 21).toInt ∧ (u.2.2.2.1 25).toInt = (v.2.2.2.1 22).toInt ∧ (u.2.2.2.1 26).toInt = (v.2.2.2.1 20).toInt) ∧ plE (u.2.1 31) (u.2.1 15) (u.2.2.2.1 20).toInt (v.2.1 17) (v.2.1 18) (v.2.2.2.1 13).toInt (u.2.2.2.1 19).toInt (u.2.2.2.1 16).toInt (u.2.2.2.1 17).toInt → u.1 0 = o1 → v.1 0 = o2 → va_P D gcl (wX cB cC cI cJ u ++ wM cB cC cI cJ v) H → va_D (fun q : Nat => s.heap.size ≤ q) (wX cB cC cI cJ u ++ wM cB cC cI cJ v) → va_S (fun q : Nat => s.heap.size ≤ q) s.heap H locs → lv_has ls 4 [(3, .int i), (2, .ref o2), (1, .ref o1), (0, .ref b)] → W p l e room_1 s m #[Value.ref b] below meth c H locs 126 15724 (lw_Z below #[Value.ref b] s) (F0 m 1519 ls [])) : W p l e room_1 s m #[Value.ref b] below meth c H locs 126 15724 (lw_Z below #[Value.ref b] s) (F0 m 1276 ls []) := by
  subst hu0
  subst hv0
  have hlen := heq.1.1
  have hreg := heq.2.1
  obtain ⟨hx, hb, hr, hml, hown, hts0, hX, hbl, hlocks, hgv⟩ := id C0
  have hts := g_tbl hts0
  have hbA : ¬ (fun q : Nat => s.heap.size ≤ q) b := Nat.not_le.mpr hbl
  refine lv_aload_n (pc := 1276) hx hb dL_law_1276 rfl (lv_at hl 2 rfl) ?_
  refine lv_aload_n (pc := 1277) hx hb dL_law_1277 rfl (lv_at hl 3 rfl) ?_
  refine lv_iload_n (pc := 1278) hx hb dL_law_1278 rfl (lv_at hl 0 rfl) ?_
  refine lv_iconst (pc := 1279) (v := 1) hx hb dL_law_1279 (by decide) ?_
  refine b_iadd (pc := 1280) hx hb rfl tI_1 (by omega) (by omega) dL_law_1280 (fun x_1 ex_1 => ?_)
  refine va_sld (pc := 1281) hx hb hX hbl hbA hS (n_in rfl (by omega) (by omega)) dL_law_1281 ?_
  refine lv_topi (fun x_2 ex_2 => ?_)
  have rx_2 := n_rng x_2
  have tx_2 := congrArg Int32.toInt (e_ld (f := xs) (show x_2 = xs (x_1.toInt).toNat from ex_2) (show x_1.toInt = (i.toInt) + (1) by omega))
  refine lv_aload_n (pc := 1282) hx hb dL_law_1282 rfl (lv_at hl 3 rfl) ?_
  refine lv_iload_n (pc := 1283) hx hb dL_law_1283 rfl (lv_at hl 0 rfl) ?_
  refine lv_iconst (pc := 1284) (v := 2) hx hb dL_law_1284 (by decide) ?_
  refine b_iadd (pc := 1285) hx hb rfl tI_2 (by omega) (by omega) dL_law_1285 (fun x_3 ex_3 => ?_)
  refine va_sld (pc := 1286) hx hb hX hbl hbA hS (n_in rfl (by omega) (by omega)) dL_law_1286 ?_
  refine lv_topi (fun x_4 ex_4 => ?_)
  have rx_4 := n_rng x_4
  have tx_4 := congrArg Int32.toInt (e_ld (f := xs) (show x_4 = xs (x_3.toInt).toNat from ex_4) (show x_3.toInt = (i.toInt) + (2) by omega))
  refine cc_1287 C0 hK hF u hfX hl x_2 x_4 hP hD hS (fun r_5 w_6 H locs hf_7 ho_8 he_9 he_10 he_11 he_12 he_13 hP hD hS => ?_)
  have rr_5 := n_rng r_5
  refine lv_pop (pc := 1290) hx hb dL_law_1290 rfl ?_
  refine lv_aload_n (pc := 1291) hx hb dL_law_1291 rfl (lv_at hl 1 rfl) ?_
  refine lv_aload_n (pc := 1292) hx hb dL_law_1292 rfl (lv_at hl 3 rfl) ?_
  refine lv_iload_n (pc := 1293) hx hb dL_law_1293 rfl (lv_at hl 0 rfl) ?_
  refine lv_iconst (pc := 1294) (v := 1) hx hb dL_law_1294 (by decide) ?_
  refine b_iadd (pc := 1295) hx hb rfl tI_1 (by omega) (by omega) dL_law_1295 (fun x_14 ex_14 => ?_)
  refine va_sld (pc := 1296) hx hb hX hbl hbA hS (n_in rfl (by omega) (by omega)) dL_law_1296 ?_
  refine lv_topi (fun x_15 ex_15 => ?_)
  have rx_15 := n_rng x_15
  have tx_15 := congrArg Int32.toInt (e_ld (f := xs) (show x_15 = xs (x_14.toInt).toNat from ex_15) (show x_14.toInt = (i.toInt) + (1) by omega))
  refine lv_aload_n (pc := 1297) hx hb dL_law_1297 rfl (lv_at hl 3 rfl) ?_
  refine lv_iload_n (pc := 1298) hx hb dL_law_1298 rfl (lv_at hl 0 rfl) ?_
  refine lv_iconst (pc := 1299) (v := 2) hx hb dL_law_1299 (by decide) ?_
  refine b_iadd (pc := 1300) hx hb rfl tI_2 (by omega) (by omega) dL_law_1300 (fun x_16 ex_16 => ?_)
  refine va_sld (pc := 1301) hx hb hX hbl hbA hS (n_in rfl (by omega) (by omega)) dL_law_1301 ?_
  refine lv_topi (fun x_17 ex_17 => ?_)
  have rx_17 := n_rng x_17
  have tx_17 := congrArg Int32.toInt (e_ld (f := xs) (show x_17 = xs (x_16.toInt).toNat from ex_17) (show x_16.toInt = (i.toInt) + (2) by omega))
  have hP : va_P D gcl (wM cB cC cI cJ v ++ wX cB cC cI cJ w_6) H := va_P.swap (a := []) (b := wX cB cC cI cJ w_6) (c := wM cB cC cI cJ v) hP
  have hD : va_D (fun q : Nat => s.heap.size ≤ q) (wM cB cC cI cJ v ++ wX cB cC cI cJ w_6) := va_D.swap (a := []) (b := wX cB cC cI cJ w_6) (c := wM cB cC cI cJ v) hD
  refine cc_1302 C0 hK hF v hfM hl x_15 x_17 hP hD hS (fun r_18 w_19 H locs hf_20 ho_21 he_22 he_23 he_24 he_25 he_26 hP hD hS => ?_)
  have rr_18 := n_rng r_18
  refine lv_pop (pc := 1305) hx hb dL_law_1305 rfl ?_
  refine lv_goto (pc := 1306) (tgt := 1519) hx hb dL_law_1306 (by decide) ?_
  exact kk w_6 w_19 H locs ls hf_7 hf_20 ⟨te_cut heq.1 he_10 he_23 (by omega) (by omega), by omega, plE_keep heq.2.2 he_12 he_25 (by omega) (by omega) (by omega)⟩ ho_8 ho_21 (va_P.swap (a := []) (b := wM cB cC cI cJ w_19) (c := wX cB cC cI cJ w_6) hP) (va_D.swap (a := []) (b := wM cB cC cI cJ w_19) (c := wX cB cC cI cJ w_6) hD) hS hl
set_option maxHeartbeats 8000000 in
set_option maxRecDepth 100000 in
theorem lo_37 {p : Program} {l : Launch} {e : Env} {s : State} {m : MethodId} {below : List Frame} {meth : Method} {c : Code} {D : va_G} {cB cC cI cJ : ClassId} {b L : Nat} {xs : Nat → Int32} {adK adV : Nat → Nat} (C0 : lw_At p s m meth c b L xs) (hLN : L ≤ 3072) (hK : va_K D gcl [(cB, .byte), (cC, .char), (cI, .int), (cJ, .long)] s) (hF : sF adK adV (fun q : Nat => s.heap.size ≤ q) s s.heap) (o1 o2 : Nat) (i : Int32) (hi0 : 0 ≤ i.toInt) (hi1 : i.toInt + 6 ≤ (L : Int)) (u v : gEx) (hfX : fX u) (hfM : fM v) (heq : tEq (u.2.1 4) (u.2.2.2.1 7).toInt (v.2.1 0) (v.2.2.2.1 0).toInt ∧ ((u.2.2.2.1 5).toInt = (v.2.2.2.1 6).toInt ∧ (u.2.2.2.1 6).toInt = (v.2.2.2.1 7).toInt ∧ (u.2.2.2.1 15).toInt = (v.2.2.2.1 8).toInt ∧ (u.2.2.2.1 16).toInt = (v.2.2.2.1 9).toInt ∧ (u.2.2.2.1 17).toInt = (v.2.2.2.1 10).toInt ∧ (u.2.2.2.1 18).toInt = (v.2.2.2.1 11).toInt ∧ (u.2.2.2.1 19).toInt = (v.2.2.2.1 12).toInt ∧ (u.2.2.2.1 43).toInt = ((v.2.1 21) 0).toInt ∧ (u.2.2.2.1 24).toInt = (v.2.2.2.1 21).toInt ∧ (u.2.2.2.1 25).toInt = (v.2.2.2.1 22).toInt ∧ (u.2.2.2.1 26).toInt = (v.2.2.2.1 20).toInt) ∧ plE (u.2.1 31) (u.2.1 15) (u.2.2.2.1 20).toInt (v.2.1 17) (v.2.1 18) (v.2.2.2.1 13).toInt (u.2.2.2.1 19).toInt (u.2.2.2.1 16).toInt (u.2.2.2.1 17).toInt) (hu0 : u.1 0 = o1) (hv0 : v.1 0 = o2) (H : Heap) (locs : List Loc) (ls : Array Slot) (hP : va_P D gcl (wX cB cC cI cJ u ++ wM cB cC cI cJ v) H) (hD : va_D (fun q : Nat => s.heap.size ≤ q) (wX cB cC cI cJ u ++ wM cB cC cI cJ v)) (hS : va_S (fun q : Nat => s.heap.size ≤ q) s.heap H locs) (hl : lv_has ls 4 [(3, .int i), (2, .ref o2), (1, .ref o1), (0, .ref b)])
    (kk : ∀ (u v : gEx) (H : Heap) (locs : List Loc) (ls : Array Slot), fX u → fM v → tEq (u.2.1 4) (u.2.2.2.1 7).toInt (v.2.1 0) (v.2.2.2.1 0).toInt ∧ ((u.2.2.2.1 5).toInt = (v.2.2.2.1 6).toInt ∧ (u.2.2.2.1 6).toInt = (v.2.2.2.1 7).toInt ∧ (u.2.2.2.1 15).toInt = (v.2.2.2.1 8).toInt ∧ (u.2.2.2.1 16).toInt = (v.2.2.2.1 9).toInt ∧ (u.2.2.2.1 17).toInt = (v.2.2.2.1 10).toInt ∧ (u.2.2.2.1 18).toInt = (v.2.2.2.1 11).toInt ∧ (u.2.2.2.1 19).toInt = (v.2.2.2.1 12).toInt ∧ (u.2.2.2.1 43).toInt = ((v.2.1 21) 0).toInt ∧ (u.2.2.2.1 24).toInt = (v.2.2.2.1 21).toInt ∧ (u.2.2.2.1 25).toInt = (v.2.2.2.1 22).toInt ∧ (u.2.2.2.1 26).toInt = (v.2.2.2.1 20).toInt) ∧ plE (u.2.1 31) (u.2.1 15) (u.2.2.2.1 20).toInt (v.2.1 17) (v.2.1 18) (v.2.2.2.1 13).toInt (u.2.2.2.1 19).toInt (u.2.2.2.1 16).toInt (u.2.2.2.1 17).toInt → u.1 0 = o1 → v.1 0 = o2 → va_P D gcl (wX cB cC cI cJ u ++ wM cB cC cI cJ v) H → va_D (fun q : Nat => s.heap.size ≤ q) (wX cB cC cI cJ u ++ wM cB cC cI cJ v) → va_S (fun q : Nat => s.heap.size ≤ q) s.heap H locs → lv_has ls 4 [(3, .int i), (2, .ref o2), (1, .ref o1), (0, .ref b)] → W p l e room_1 s m #[Value.ref b] below meth c H locs 126 15724 (lw_Z below #[Value.ref b] s) (F0 m 1519 ls [])) : W p l e room_1 s m #[Value.ref b] below meth c H locs 126 15724 (lw_Z below #[Value.ref b] s) (F0 m 1309 ls []) := by
  subst hu0
  subst hv0
  have hlen := heq.1.1
  have hreg := heq.2.1
  obtain ⟨hx, hb, hr, hml, hown, hts0, hX, hbl, hlocks, hgv⟩ := id C0
  have hts := g_tbl hts0
  have hbA : ¬ (fun q : Nat => s.heap.size ≤ q) b := Nat.not_le.mpr hbl
  refine lv_aload_n (pc := 1309) hx hb dL_law_1309 rfl (lv_at hl 2 rfl) ?_
  refine lv_aload_n (pc := 1310) hx hb dL_law_1310 rfl (lv_at hl 3 rfl) ?_
  refine lv_iload_n (pc := 1311) hx hb dL_law_1311 rfl (lv_at hl 0 rfl) ?_
  refine lv_iconst (pc := 1312) (v := 1) hx hb dL_law_1312 (by decide) ?_
  refine b_iadd (pc := 1313) hx hb rfl tI_1 (by omega) (by omega) dL_law_1313 (fun x_1 ex_1 => ?_)
  refine va_sld (pc := 1314) hx hb hX hbl hbA hS (n_in rfl (by omega) (by omega)) dL_law_1314 ?_
  refine lv_topi (fun x_2 ex_2 => ?_)
  have rx_2 := n_rng x_2
  have tx_2 := congrArg Int32.toInt (e_ld (f := xs) (show x_2 = xs (x_1.toInt).toNat from ex_2) (show x_1.toInt = (i.toInt) + (1) by omega))
  refine b_if_eq (pc := 1315) (tgt := 1322) hx hb rfl  dL_law_1315 (by decide) (fun c_3 => ?_) (fun c_3 => ?_)
  ·
    refine lv_iconst (pc := 1322) (v := 0) hx hb dL_law_1322 (by decide) ?_
    refine cc_1323 C0 hK hF u hfX hl (0 : Int32) (by rw [tI_0]; decide) hP hD hS (fun r_4 w_5 H locs hf_6 ho_7 he_8 he_9 he_10 he_11 he_12 hP hD hS => ?_)
    have rr_4 := n_rngL r_4
    refine lv_pop2_2 (pc := 1326) hx hb dL_law_1326 rfl ?_
    refine lv_aload_n (pc := 1327) hx hb dL_law_1327 rfl (lv_at hl 1 rfl) ?_
    refine lv_aload_n (pc := 1328) hx hb dL_law_1328 rfl (lv_at hl 3 rfl) ?_
    refine lv_iload_n (pc := 1329) hx hb dL_law_1329 rfl (lv_at hl 0 rfl) ?_
    refine lv_iconst (pc := 1330) (v := 1) hx hb dL_law_1330 (by decide) ?_
    refine b_iadd (pc := 1331) hx hb rfl tI_1 (by omega) (by omega) dL_law_1331 (fun x_13 ex_13 => ?_)
    refine va_sld (pc := 1332) hx hb hX hbl hbA hS (n_in rfl (by omega) (by omega)) dL_law_1332 ?_
    refine lv_topi (fun x_14 ex_14 => ?_)
    have rx_14 := n_rng x_14
    have tx_14 := congrArg Int32.toInt (e_ld (f := xs) (show x_14 = xs (x_13.toInt).toNat from ex_14) (show x_13.toInt = (i.toInt) + (1) by omega))
    refine b_if_eq (pc := 1333) (tgt := 1340) hx hb rfl  dL_law_1333 (by decide) (fun c_15 => ?_) (fun c_15 => ?_)
    ·
      refine lv_iconst (pc := 1340) (v := 0) hx hb dL_law_1340 (by decide) ?_
      have hP : va_P D gcl (wM cB cC cI cJ v ++ wX cB cC cI cJ w_5) H := va_P.swap (a := []) (b := wX cB cC cI cJ w_5) (c := wM cB cC cI cJ v) hP
      have hD : va_D (fun q : Nat => s.heap.size ≤ q) (wM cB cC cI cJ v ++ wX cB cC cI cJ w_5) := va_D.swap (a := []) (b := wX cB cC cI cJ w_5) (c := wM cB cC cI cJ v) hD
      refine cc_1341 C0 hK hF v hfM hl (0 : Int32) (by rw [tI_0]; decide) hP hD hS (fun r_16 w_17 H locs hf_18 ho_19 he_20 he_21 he_22 he_23 he_24 hP hD hS => ?_)
      have rr_16 := n_rngL r_16
      refine lv_pop2_2 (pc := 1344) hx hb dL_law_1344 rfl ?_
      refine lv_goto (pc := 1345) (tgt := 1519) hx hb dL_law_1345 (by decide) ?_
      exact kk w_5 w_17 H locs ls hf_6 hf_18 ⟨te_cut heq.1 he_9 he_21 (by omega) (by omega), by omega, plE_keep heq.2.2 he_11 he_23 (by omega) (by omega) (by omega)⟩ ho_7 ho_19 (va_P.swap (a := []) (b := wM cB cC cI cJ w_17) (c := wX cB cC cI cJ w_5) hP) (va_D.swap (a := []) (b := wM cB cC cI cJ w_17) (c := wX cB cC cI cJ w_5) hD) hS hl
    ·
      refine lv_iconst (pc := 1336) (v := 1) hx hb dL_law_1336 (by decide) ?_
      refine lv_goto (pc := 1337) (tgt := 1341) hx hb dL_law_1337 (by decide) ?_
      have hP : va_P D gcl (wM cB cC cI cJ v ++ wX cB cC cI cJ w_5) H := va_P.swap (a := []) (b := wX cB cC cI cJ w_5) (c := wM cB cC cI cJ v) hP
      have hD : va_D (fun q : Nat => s.heap.size ≤ q) (wM cB cC cI cJ v ++ wX cB cC cI cJ w_5) := va_D.swap (a := []) (b := wX cB cC cI cJ w_5) (c := wM cB cC cI cJ v) hD
      refine cc_1341 C0 hK hF v hfM hl (1 : Int32) (by rw [tI_1]; decide) hP hD hS (fun r_25 w_26 H locs hf_27 ho_28 he_29 he_30 he_31 he_32 he_33 hP hD hS => ?_)
      have rr_25 := n_rngL r_25
      refine lv_pop2_2 (pc := 1344) hx hb dL_law_1344 rfl ?_
      refine lv_goto (pc := 1345) (tgt := 1519) hx hb dL_law_1345 (by decide) ?_
      exact kk w_5 w_26 H locs ls hf_6 hf_27 ⟨te_cut heq.1 he_9 he_30 (by omega) (by omega), by omega, plE_keep heq.2.2 he_11 he_32 (by omega) (by omega) (by omega)⟩ ho_7 ho_28 (va_P.swap (a := []) (b := wM cB cC cI cJ w_26) (c := wX cB cC cI cJ w_5) hP) (va_D.swap (a := []) (b := wM cB cC cI cJ w_26) (c := wX cB cC cI cJ w_5) hD) hS hl
  ·
    refine lv_iconst (pc := 1318) (v := 1) hx hb dL_law_1318 (by decide) ?_
    refine lv_goto (pc := 1319) (tgt := 1323) hx hb dL_law_1319 (by decide) ?_
    refine cc_1323 C0 hK hF u hfX hl (1 : Int32) (by rw [tI_1]; decide) hP hD hS (fun r_34 w_35 H locs hf_36 ho_37 he_38 he_39 he_40 he_41 he_42 hP hD hS => ?_)
    have rr_34 := n_rngL r_34
    refine lv_pop2_2 (pc := 1326) hx hb dL_law_1326 rfl ?_
    refine lv_aload_n (pc := 1327) hx hb dL_law_1327 rfl (lv_at hl 1 rfl) ?_
    refine lv_aload_n (pc := 1328) hx hb dL_law_1328 rfl (lv_at hl 3 rfl) ?_
    refine lv_iload_n (pc := 1329) hx hb dL_law_1329 rfl (lv_at hl 0 rfl) ?_
    refine lv_iconst (pc := 1330) (v := 1) hx hb dL_law_1330 (by decide) ?_
    refine b_iadd (pc := 1331) hx hb rfl tI_1 (by omega) (by omega) dL_law_1331 (fun x_43 ex_43 => ?_)
    refine va_sld (pc := 1332) hx hb hX hbl hbA hS (n_in rfl (by omega) (by omega)) dL_law_1332 ?_
    refine lv_topi (fun x_44 ex_44 => ?_)
    have rx_44 := n_rng x_44
    have tx_44 := congrArg Int32.toInt (e_ld (f := xs) (show x_44 = xs (x_43.toInt).toNat from ex_44) (show x_43.toInt = (i.toInt) + (1) by omega))
    refine b_if_eq (pc := 1333) (tgt := 1340) hx hb rfl  dL_law_1333 (by decide) (fun c_45 => ?_) (fun c_45 => ?_)
    ·
      refine lv_iconst (pc := 1340) (v := 0) hx hb dL_law_1340 (by decide) ?_
      have hP : va_P D gcl (wM cB cC cI cJ v ++ wX cB cC cI cJ w_35) H := va_P.swap (a := []) (b := wX cB cC cI cJ w_35) (c := wM cB cC cI cJ v) hP
      have hD : va_D (fun q : Nat => s.heap.size ≤ q) (wM cB cC cI cJ v ++ wX cB cC cI cJ w_35) := va_D.swap (a := []) (b := wX cB cC cI cJ w_35) (c := wM cB cC cI cJ v) hD
      refine cc_1341 C0 hK hF v hfM hl (0 : Int32) (by rw [tI_0]; decide) hP hD hS (fun r_46 w_47 H locs hf_48 ho_49 he_50 he_51 he_52 he_53 he_54 hP hD hS => ?_)
      have rr_46 := n_rngL r_46
      refine lv_pop2_2 (pc := 1344) hx hb dL_law_1344 rfl ?_
      refine lv_goto (pc := 1345) (tgt := 1519) hx hb dL_law_1345 (by decide) ?_
      exact kk w_35 w_47 H locs ls hf_36 hf_48 ⟨te_cut heq.1 he_39 he_51 (by omega) (by omega), by omega, plE_keep heq.2.2 he_41 he_53 (by omega) (by omega) (by omega)⟩ ho_37 ho_49 (va_P.swap (a := []) (b := wM cB cC cI cJ w_47) (c := wX cB cC cI cJ w_35) hP) (va_D.swap (a := []) (b := wM cB cC cI cJ w_47) (c := wX cB cC cI cJ w_35) hD) hS hl
    ·
      refine lv_iconst (pc := 1336) (v := 1) hx hb dL_law_1336 (by decide) ?_
      refine lv_goto (pc := 1337) (tgt := 1341) hx hb dL_law_1337 (by decide) ?_
      have hP : va_P D gcl (wM cB cC cI cJ v ++ wX cB cC cI cJ w_35) H := va_P.swap (a := []) (b := wX cB cC cI cJ w_35) (c := wM cB cC cI cJ v) hP
      have hD : va_D (fun q : Nat => s.heap.size ≤ q) (wM cB cC cI cJ v ++ wX cB cC cI cJ w_35) := va_D.swap (a := []) (b := wX cB cC cI cJ w_35) (c := wM cB cC cI cJ v) hD
      refine cc_1341 C0 hK hF v hfM hl (1 : Int32) (by rw [tI_1]; decide) hP hD hS (fun r_55 w_56 H locs hf_57 ho_58 he_59 he_60 he_61 he_62 he_63 hP hD hS => ?_)
      have rr_55 := n_rngL r_55
      refine lv_pop2_2 (pc := 1344) hx hb dL_law_1344 rfl ?_
      refine lv_goto (pc := 1345) (tgt := 1519) hx hb dL_law_1345 (by decide) ?_
      exact kk w_35 w_56 H locs ls hf_36 hf_57 ⟨te_cut heq.1 he_39 he_60 (by omega) (by omega), by omega, plE_keep heq.2.2 he_41 he_62 (by omega) (by omega) (by omega)⟩ ho_37 ho_58 (va_P.swap (a := []) (b := wM cB cC cI cJ w_56) (c := wX cB cC cI cJ w_35) hP) (va_D.swap (a := []) (b := wM cB cC cI cJ w_56) (c := wX cB cC cI cJ w_35) hD) hS hl
set_option maxHeartbeats 8000000 in
set_option maxRecDepth 100000 in
theorem lo_38 {p : Program} {l : Launch} {e : Env} {s : State} {m : MethodId} {below : List Frame} {meth : Method} {c : Code} {D : va_G} {cB cC cI cJ : ClassId} {b L : Nat} {xs : Nat → Int32} {adK adV : Nat → Nat} (C0 : lw_At p s m meth c b L xs) (hLN : L ≤ 3072) (hK : va_K D gcl [(cB, .byte), (cC, .char), (cI, .int), (cJ, .long)] s) (hF : sF adK adV (fun q : Nat => s.heap.size ≤ q) s s.heap) (o1 o2 : Nat) (i : Int32) (hi0 : 0 ≤ i.toInt) (hi1 : i.toInt + 6 ≤ (L : Int)) (u v : gEx) (hfX : fX u) (hfM : fM v) (heq : tEq (u.2.1 4) (u.2.2.2.1 7).toInt (v.2.1 0) (v.2.2.2.1 0).toInt ∧ ((u.2.2.2.1 5).toInt = (v.2.2.2.1 6).toInt ∧ (u.2.2.2.1 6).toInt = (v.2.2.2.1 7).toInt ∧ (u.2.2.2.1 15).toInt = (v.2.2.2.1 8).toInt ∧ (u.2.2.2.1 16).toInt = (v.2.2.2.1 9).toInt ∧ (u.2.2.2.1 17).toInt = (v.2.2.2.1 10).toInt ∧ (u.2.2.2.1 18).toInt = (v.2.2.2.1 11).toInt ∧ (u.2.2.2.1 19).toInt = (v.2.2.2.1 12).toInt ∧ (u.2.2.2.1 43).toInt = ((v.2.1 21) 0).toInt ∧ (u.2.2.2.1 24).toInt = (v.2.2.2.1 21).toInt ∧ (u.2.2.2.1 25).toInt = (v.2.2.2.1 22).toInt ∧ (u.2.2.2.1 26).toInt = (v.2.2.2.1 20).toInt) ∧ plE (u.2.1 31) (u.2.1 15) (u.2.2.2.1 20).toInt (v.2.1 17) (v.2.1 18) (v.2.2.2.1 13).toInt (u.2.2.2.1 19).toInt (u.2.2.2.1 16).toInt (u.2.2.2.1 17).toInt) (hu0 : u.1 0 = o1) (hv0 : v.1 0 = o2) (H : Heap) (locs : List Loc) (ls : Array Slot) (hP : va_P D gcl (wX cB cC cI cJ u ++ wM cB cC cI cJ v) H) (hD : va_D (fun q : Nat => s.heap.size ≤ q) (wX cB cC cI cJ u ++ wM cB cC cI cJ v)) (hS : va_S (fun q : Nat => s.heap.size ≤ q) s.heap H locs) (hl : lv_has ls 4 [(3, .int i), (2, .ref o2), (1, .ref o1), (0, .ref b)])
    (kk : ∀ (u v : gEx) (H : Heap) (locs : List Loc) (ls : Array Slot), fX u → fM v → tEq (u.2.1 4) (u.2.2.2.1 7).toInt (v.2.1 0) (v.2.2.2.1 0).toInt ∧ ((u.2.2.2.1 5).toInt = (v.2.2.2.1 6).toInt ∧ (u.2.2.2.1 6).toInt = (v.2.2.2.1 7).toInt ∧ (u.2.2.2.1 15).toInt = (v.2.2.2.1 8).toInt ∧ (u.2.2.2.1 16).toInt = (v.2.2.2.1 9).toInt ∧ (u.2.2.2.1 17).toInt = (v.2.2.2.1 10).toInt ∧ (u.2.2.2.1 18).toInt = (v.2.2.2.1 11).toInt ∧ (u.2.2.2.1 19).toInt = (v.2.2.2.1 12).toInt ∧ (u.2.2.2.1 43).toInt = ((v.2.1 21) 0).toInt ∧ (u.2.2.2.1 24).toInt = (v.2.2.2.1 21).toInt ∧ (u.2.2.2.1 25).toInt = (v.2.2.2.1 22).toInt ∧ (u.2.2.2.1 26).toInt = (v.2.2.2.1 20).toInt) ∧ plE (u.2.1 31) (u.2.1 15) (u.2.2.2.1 20).toInt (v.2.1 17) (v.2.1 18) (v.2.2.2.1 13).toInt (u.2.2.2.1 19).toInt (u.2.2.2.1 16).toInt (u.2.2.2.1 17).toInt → u.1 0 = o1 → v.1 0 = o2 → va_P D gcl (wX cB cC cI cJ u ++ wM cB cC cI cJ v) H → va_D (fun q : Nat => s.heap.size ≤ q) (wX cB cC cI cJ u ++ wM cB cC cI cJ v) → va_S (fun q : Nat => s.heap.size ≤ q) s.heap H locs → lv_has ls 4 [(3, .int i), (2, .ref o2), (1, .ref o1), (0, .ref b)] → W p l e room_1 s m #[Value.ref b] below meth c H locs 126 15724 (lw_Z below #[Value.ref b] s) (F0 m 1519 ls [])) : W p l e room_1 s m #[Value.ref b] below meth c H locs 126 15724 (lw_Z below #[Value.ref b] s) (F0 m 1348 ls []) := by
  subst hu0
  subst hv0
  have hlen := heq.1.1
  have hreg := heq.2.1
  obtain ⟨hx, hb, hr, hml, hown, hts0, hX, hbl, hlocks, hgv⟩ := id C0
  have hts := g_tbl hts0
  have hbA : ¬ (fun q : Nat => s.heap.size ≤ q) b := Nat.not_le.mpr hbl
  refine lv_aload_n (pc := 1348) hx hb dL_law_1348 rfl (lv_at hl 2 rfl) ?_
  refine cc_1349 C0 hK hF u hfX hl  hP hD hS (fun r_1 w_2 H locs hf_3 ho_4 he_5 he_6 he_7 he_8 he_9 hP hD hS => ?_)
  have rr_1 := n_rngL r_1
  refine lv_pop2_2 (pc := 1352) hx hb dL_law_1352 rfl ?_
  refine lv_aload_n (pc := 1353) hx hb dL_law_1353 rfl (lv_at hl 1 rfl) ?_
  have hP : va_P D gcl (wM cB cC cI cJ v ++ wX cB cC cI cJ w_2) H := va_P.swap (a := []) (b := wX cB cC cI cJ w_2) (c := wM cB cC cI cJ v) hP
  have hD : va_D (fun q : Nat => s.heap.size ≤ q) (wM cB cC cI cJ v ++ wX cB cC cI cJ w_2) := va_D.swap (a := []) (b := wX cB cC cI cJ w_2) (c := wM cB cC cI cJ v) hD
  refine cc_1354 C0 hK hF v hfM hl  hP hD hS (fun r_10 w_11 H locs hf_12 ho_13 he_14 he_15 he_16 he_17 he_18 hP hD hS => ?_)
  have rr_10 := n_rngL r_10
  refine lv_pop2_2 (pc := 1357) hx hb dL_law_1357 rfl ?_
  refine lv_goto (pc := 1358) (tgt := 1519) hx hb dL_law_1358 (by decide) ?_
  exact kk w_2 w_11 H locs ls hf_3 hf_12 ⟨te_cut heq.1 he_6 he_15 (by omega) (by omega), by omega, plE_keep heq.2.2 he_8 he_17 (by omega) (by omega) (by omega)⟩ ho_4 ho_13 (va_P.swap (a := []) (b := wM cB cC cI cJ w_11) (c := wX cB cC cI cJ w_2) hP) (va_D.swap (a := []) (b := wM cB cC cI cJ w_11) (c := wX cB cC cI cJ w_2) hD) hS hl
set_option maxHeartbeats 8000000 in
set_option maxRecDepth 100000 in
theorem lo_39 {p : Program} {l : Launch} {e : Env} {s : State} {m : MethodId} {below : List Frame} {meth : Method} {c : Code} {D : va_G} {cB cC cI cJ : ClassId} {b L : Nat} {xs : Nat → Int32} {adK adV : Nat → Nat} (C0 : lw_At p s m meth c b L xs) (hLN : L ≤ 3072) (hK : va_K D gcl [(cB, .byte), (cC, .char), (cI, .int), (cJ, .long)] s) (hF : sF adK adV (fun q : Nat => s.heap.size ≤ q) s s.heap) (o1 o2 : Nat) (i : Int32) (hi0 : 0 ≤ i.toInt) (hi1 : i.toInt + 6 ≤ (L : Int)) (u v : gEx) (hfX : fX u) (hfM : fM v) (heq : tEq (u.2.1 4) (u.2.2.2.1 7).toInt (v.2.1 0) (v.2.2.2.1 0).toInt ∧ ((u.2.2.2.1 5).toInt = (v.2.2.2.1 6).toInt ∧ (u.2.2.2.1 6).toInt = (v.2.2.2.1 7).toInt ∧ (u.2.2.2.1 15).toInt = (v.2.2.2.1 8).toInt ∧ (u.2.2.2.1 16).toInt = (v.2.2.2.1 9).toInt ∧ (u.2.2.2.1 17).toInt = (v.2.2.2.1 10).toInt ∧ (u.2.2.2.1 18).toInt = (v.2.2.2.1 11).toInt ∧ (u.2.2.2.1 19).toInt = (v.2.2.2.1 12).toInt ∧ (u.2.2.2.1 43).toInt = ((v.2.1 21) 0).toInt ∧ (u.2.2.2.1 24).toInt = (v.2.2.2.1 21).toInt ∧ (u.2.2.2.1 25).toInt = (v.2.2.2.1 22).toInt ∧ (u.2.2.2.1 26).toInt = (v.2.2.2.1 20).toInt) ∧ plE (u.2.1 31) (u.2.1 15) (u.2.2.2.1 20).toInt (v.2.1 17) (v.2.1 18) (v.2.2.2.1 13).toInt (u.2.2.2.1 19).toInt (u.2.2.2.1 16).toInt (u.2.2.2.1 17).toInt) (hu0 : u.1 0 = o1) (hv0 : v.1 0 = o2) (H : Heap) (locs : List Loc) (ls : Array Slot) (hP : va_P D gcl (wX cB cC cI cJ u ++ wM cB cC cI cJ v) H) (hD : va_D (fun q : Nat => s.heap.size ≤ q) (wX cB cC cI cJ u ++ wM cB cC cI cJ v)) (hS : va_S (fun q : Nat => s.heap.size ≤ q) s.heap H locs) (hl : lv_has ls 4 [(3, .int i), (2, .ref o2), (1, .ref o1), (0, .ref b)])
    (kk : ∀ (u v : gEx) (H : Heap) (locs : List Loc) (ls : Array Slot), fX u → fM v → tEq (u.2.1 4) (u.2.2.2.1 7).toInt (v.2.1 0) (v.2.2.2.1 0).toInt ∧ ((u.2.2.2.1 5).toInt = (v.2.2.2.1 6).toInt ∧ (u.2.2.2.1 6).toInt = (v.2.2.2.1 7).toInt ∧ (u.2.2.2.1 15).toInt = (v.2.2.2.1 8).toInt ∧ (u.2.2.2.1 16).toInt = (v.2.2.2.1 9).toInt ∧ (u.2.2.2.1 17).toInt = (v.2.2.2.1 10).toInt ∧ (u.2.2.2.1 18).toInt = (v.2.2.2.1 11).toInt ∧ (u.2.2.2.1 19).toInt = (v.2.2.2.1 12).toInt ∧ (u.2.2.2.1 43).toInt = ((v.2.1 21) 0).toInt ∧ (u.2.2.2.1 24).toInt = (v.2.2.2.1 21).toInt ∧ (u.2.2.2.1 25).toInt = (v.2.2.2.1 22).toInt ∧ (u.2.2.2.1 26).toInt = (v.2.2.2.1 20).toInt) ∧ plE (u.2.1 31) (u.2.1 15) (u.2.2.2.1 20).toInt (v.2.1 17) (v.2.1 18) (v.2.2.2.1 13).toInt (u.2.2.2.1 19).toInt (u.2.2.2.1 16).toInt (u.2.2.2.1 17).toInt → u.1 0 = o1 → v.1 0 = o2 → va_P D gcl (wX cB cC cI cJ u ++ wM cB cC cI cJ v) H → va_D (fun q : Nat => s.heap.size ≤ q) (wX cB cC cI cJ u ++ wM cB cC cI cJ v) → va_S (fun q : Nat => s.heap.size ≤ q) s.heap H locs → lv_has ls 4 [(3, .int i), (2, .ref o2), (1, .ref o1), (0, .ref b)] → W p l e room_1 s m #[Value.ref b] below meth c H locs 126 15724 (lw_Z below #[Value.ref b] s) (F0 m 1519 ls [])) : W p l e room_1 s m #[Value.ref b] below meth c H locs 126 15724 (lw_Z below #[Value.ref b] s) (F0 m 1361 ls []) := by
  subst hu0
  subst hv0
  have hlen := heq.1.1
  have hreg := heq.2.1
  obtain ⟨hx, hb, hr, hml, hown, hts0, hX, hbl, hlocks, hgv⟩ := id C0
  have hts := g_tbl hts0
  have hbA : ¬ (fun q : Nat => s.heap.size ≤ q) b := Nat.not_le.mpr hbl
  refine lv_aload_n (pc := 1361) hx hb dL_law_1361 rfl (lv_at hl 2 rfl) ?_
  refine lv_aload_n (pc := 1362) hx hb dL_law_1362 rfl (lv_at hl 3 rfl) ?_
  refine lv_iload_n (pc := 1363) hx hb dL_law_1363 rfl (lv_at hl 0 rfl) ?_
  refine lv_iconst (pc := 1364) (v := 1) hx hb dL_law_1364 (by decide) ?_
  refine b_iadd (pc := 1365) hx hb rfl tI_1 (by omega) (by omega) dL_law_1365 (fun x_1 ex_1 => ?_)
  refine va_sld (pc := 1366) hx hb hX hbl hbA hS (n_in rfl (by omega) (by omega)) dL_law_1366 ?_
  refine lv_topi (fun x_2 ex_2 => ?_)
  have rx_2 := n_rng x_2
  have tx_2 := congrArg Int32.toInt (e_ld (f := xs) (show x_2 = xs (x_1.toInt).toNat from ex_2) (show x_1.toInt = (i.toInt) + (1) by omega))
  refine cc_1367 C0 hK hF u hfX hl x_2 hP hD hS (fun r_3 w_4 H locs hf_5 ho_6 he_7 he_8 he_9 he_10 he_11 hP hD hS => ?_)
  have rr_3 := n_rng r_3
  refine lv_pop (pc := 1370) hx hb dL_law_1370 rfl ?_
  refine lv_aload_n (pc := 1371) hx hb dL_law_1371 rfl (lv_at hl 1 rfl) ?_
  refine lv_aload_n (pc := 1372) hx hb dL_law_1372 rfl (lv_at hl 3 rfl) ?_
  refine lv_iload_n (pc := 1373) hx hb dL_law_1373 rfl (lv_at hl 0 rfl) ?_
  refine lv_iconst (pc := 1374) (v := 1) hx hb dL_law_1374 (by decide) ?_
  refine b_iadd (pc := 1375) hx hb rfl tI_1 (by omega) (by omega) dL_law_1375 (fun x_12 ex_12 => ?_)
  refine va_sld (pc := 1376) hx hb hX hbl hbA hS (n_in rfl (by omega) (by omega)) dL_law_1376 ?_
  refine lv_topi (fun x_13 ex_13 => ?_)
  have rx_13 := n_rng x_13
  have tx_13 := congrArg Int32.toInt (e_ld (f := xs) (show x_13 = xs (x_12.toInt).toNat from ex_13) (show x_12.toInt = (i.toInt) + (1) by omega))
  have hP : va_P D gcl (wM cB cC cI cJ v ++ wX cB cC cI cJ w_4) H := va_P.swap (a := []) (b := wX cB cC cI cJ w_4) (c := wM cB cC cI cJ v) hP
  have hD : va_D (fun q : Nat => s.heap.size ≤ q) (wM cB cC cI cJ v ++ wX cB cC cI cJ w_4) := va_D.swap (a := []) (b := wX cB cC cI cJ w_4) (c := wM cB cC cI cJ v) hD
  refine cc_1377 C0 hK hF v hfM hl x_13 hP hD hS (fun r_14 w_15 H locs hf_16 ho_17 he_18 he_19 he_20 he_21 he_22 hP hD hS => ?_)
  have rr_14 := n_rng r_14
  refine lv_pop (pc := 1380) hx hb dL_law_1380 rfl ?_
  refine lv_goto (pc := 1381) (tgt := 1519) hx hb dL_law_1381 (by decide) ?_
  exact kk w_4 w_15 H locs ls hf_5 hf_16 ⟨te_cut heq.1 he_8 he_19 (by omega) (by omega), by omega, plE_keep heq.2.2 he_10 he_21 (by omega) (by omega) (by omega)⟩ ho_6 ho_17 (va_P.swap (a := []) (b := wM cB cC cI cJ w_15) (c := wX cB cC cI cJ w_4) hP) (va_D.swap (a := []) (b := wM cB cC cI cJ w_15) (c := wX cB cC cI cJ w_4) hD) hS hl
set_option maxHeartbeats 8000000 in
set_option maxRecDepth 100000 in
theorem lo_40 {p : Program} {l : Launch} {e : Env} {s : State} {m : MethodId} {below : List Frame} {meth : Method} {c : Code} {D : va_G} {cB cC cI cJ : ClassId} {b L : Nat} {xs : Nat → Int32} {adK adV : Nat → Nat} (C0 : lw_At p s m meth c b L xs) (hLN : L ≤ 3072) (hK : va_K D gcl [(cB, .byte), (cC, .char), (cI, .int), (cJ, .long)] s) (hF : sF adK adV (fun q : Nat => s.heap.size ≤ q) s s.heap) (o1 o2 : Nat) (i : Int32) (hi0 : 0 ≤ i.toInt) (hi1 : i.toInt + 6 ≤ (L : Int)) (u v : gEx) (hfX : fX u) (hfM : fM v) (heq : tEq (u.2.1 4) (u.2.2.2.1 7).toInt (v.2.1 0) (v.2.2.2.1 0).toInt ∧ ((u.2.2.2.1 5).toInt = (v.2.2.2.1 6).toInt ∧ (u.2.2.2.1 6).toInt = (v.2.2.2.1 7).toInt ∧ (u.2.2.2.1 15).toInt = (v.2.2.2.1 8).toInt ∧ (u.2.2.2.1 16).toInt = (v.2.2.2.1 9).toInt ∧ (u.2.2.2.1 17).toInt = (v.2.2.2.1 10).toInt ∧ (u.2.2.2.1 18).toInt = (v.2.2.2.1 11).toInt ∧ (u.2.2.2.1 19).toInt = (v.2.2.2.1 12).toInt ∧ (u.2.2.2.1 43).toInt = ((v.2.1 21) 0).toInt ∧ (u.2.2.2.1 24).toInt = (v.2.2.2.1 21).toInt ∧ (u.2.2.2.1 25).toInt = (v.2.2.2.1 22).toInt ∧ (u.2.2.2.1 26).toInt = (v.2.2.2.1 20).toInt) ∧ plE (u.2.1 31) (u.2.1 15) (u.2.2.2.1 20).toInt (v.2.1 17) (v.2.1 18) (v.2.2.2.1 13).toInt (u.2.2.2.1 19).toInt (u.2.2.2.1 16).toInt (u.2.2.2.1 17).toInt) (hu0 : u.1 0 = o1) (hv0 : v.1 0 = o2) (H : Heap) (locs : List Loc) (ls : Array Slot) (hP : va_P D gcl (wX cB cC cI cJ u ++ wM cB cC cI cJ v) H) (hD : va_D (fun q : Nat => s.heap.size ≤ q) (wX cB cC cI cJ u ++ wM cB cC cI cJ v)) (hS : va_S (fun q : Nat => s.heap.size ≤ q) s.heap H locs) (hl : lv_has ls 4 [(3, .int i), (2, .ref o2), (1, .ref o1), (0, .ref b)])
    (kk : ∀ (u v : gEx) (H : Heap) (locs : List Loc) (ls : Array Slot), fX u → fM v → tEq (u.2.1 4) (u.2.2.2.1 7).toInt (v.2.1 0) (v.2.2.2.1 0).toInt ∧ ((u.2.2.2.1 5).toInt = (v.2.2.2.1 6).toInt ∧ (u.2.2.2.1 6).toInt = (v.2.2.2.1 7).toInt ∧ (u.2.2.2.1 15).toInt = (v.2.2.2.1 8).toInt ∧ (u.2.2.2.1 16).toInt = (v.2.2.2.1 9).toInt ∧ (u.2.2.2.1 17).toInt = (v.2.2.2.1 10).toInt ∧ (u.2.2.2.1 18).toInt = (v.2.2.2.1 11).toInt ∧ (u.2.2.2.1 19).toInt = (v.2.2.2.1 12).toInt ∧ (u.2.2.2.1 43).toInt = ((v.2.1 21) 0).toInt ∧ (u.2.2.2.1 24).toInt = (v.2.2.2.1 21).toInt ∧ (u.2.2.2.1 25).toInt = (v.2.2.2.1 22).toInt ∧ (u.2.2.2.1 26).toInt = (v.2.2.2.1 20).toInt) ∧ plE (u.2.1 31) (u.2.1 15) (u.2.2.2.1 20).toInt (v.2.1 17) (v.2.1 18) (v.2.2.2.1 13).toInt (u.2.2.2.1 19).toInt (u.2.2.2.1 16).toInt (u.2.2.2.1 17).toInt → u.1 0 = o1 → v.1 0 = o2 → va_P D gcl (wX cB cC cI cJ u ++ wM cB cC cI cJ v) H → va_D (fun q : Nat => s.heap.size ≤ q) (wX cB cC cI cJ u ++ wM cB cC cI cJ v) → va_S (fun q : Nat => s.heap.size ≤ q) s.heap H locs → lv_has ls 4 [(3, .int i), (2, .ref o2), (1, .ref o1), (0, .ref b)] → W p l e room_1 s m #[Value.ref b] below meth c H locs 126 15724 (lw_Z below #[Value.ref b] s) (F0 m 1519 ls [])) : W p l e room_1 s m #[Value.ref b] below meth c H locs 126 15724 (lw_Z below #[Value.ref b] s) (F0 m 1384 ls []) := by
  subst hu0
  subst hv0
  have hlen := heq.1.1
  have hreg := heq.2.1
  obtain ⟨hx, hb, hr, hml, hown, hts0, hX, hbl, hlocks, hgv⟩ := id C0
  have hts := g_tbl hts0
  have hbA : ¬ (fun q : Nat => s.heap.size ≤ q) b := Nat.not_le.mpr hbl
  refine lv_aload_n (pc := 1384) hx hb dL_law_1384 rfl (lv_at hl 2 rfl) ?_
  refine lv_aload_n (pc := 1385) hx hb dL_law_1385 rfl (lv_at hl 3 rfl) ?_
  refine lv_iload_n (pc := 1386) hx hb dL_law_1386 rfl (lv_at hl 0 rfl) ?_
  refine lv_iconst (pc := 1387) (v := 1) hx hb dL_law_1387 (by decide) ?_
  refine b_iadd (pc := 1388) hx hb rfl tI_1 (by omega) (by omega) dL_law_1388 (fun x_1 ex_1 => ?_)
  refine va_sld (pc := 1389) hx hb hX hbl hbA hS (n_in rfl (by omega) (by omega)) dL_law_1389 ?_
  refine lv_topi (fun x_2 ex_2 => ?_)
  have rx_2 := n_rng x_2
  have tx_2 := congrArg Int32.toInt (e_ld (f := xs) (show x_2 = xs (x_1.toInt).toNat from ex_2) (show x_1.toInt = (i.toInt) + (1) by omega))
  refine cc_1390 C0 hK hF u hfX hl x_2 hP hD hS (fun r_3 w_4 H locs hf_5 ho_6 he_7 he_8 he_9 he_10 he_11 hP hD hS => ?_)
  have rr_3 := n_rng r_3
  refine lv_pop (pc := 1393) hx hb dL_law_1393 rfl ?_
  refine lv_aload_n (pc := 1394) hx hb dL_law_1394 rfl (lv_at hl 1 rfl) ?_
  refine lv_aload_n (pc := 1395) hx hb dL_law_1395 rfl (lv_at hl 3 rfl) ?_
  refine lv_iload_n (pc := 1396) hx hb dL_law_1396 rfl (lv_at hl 0 rfl) ?_
  refine lv_iconst (pc := 1397) (v := 1) hx hb dL_law_1397 (by decide) ?_
  refine b_iadd (pc := 1398) hx hb rfl tI_1 (by omega) (by omega) dL_law_1398 (fun x_12 ex_12 => ?_)
  refine va_sld (pc := 1399) hx hb hX hbl hbA hS (n_in rfl (by omega) (by omega)) dL_law_1399 ?_
  refine lv_topi (fun x_13 ex_13 => ?_)
  have rx_13 := n_rng x_13
  have tx_13 := congrArg Int32.toInt (e_ld (f := xs) (show x_13 = xs (x_12.toInt).toNat from ex_13) (show x_12.toInt = (i.toInt) + (1) by omega))
  have hP : va_P D gcl (wM cB cC cI cJ v ++ wX cB cC cI cJ w_4) H := va_P.swap (a := []) (b := wX cB cC cI cJ w_4) (c := wM cB cC cI cJ v) hP
  have hD : va_D (fun q : Nat => s.heap.size ≤ q) (wM cB cC cI cJ v ++ wX cB cC cI cJ w_4) := va_D.swap (a := []) (b := wX cB cC cI cJ w_4) (c := wM cB cC cI cJ v) hD
  refine cc_1400 C0 hK hF v hfM hl x_13 hP hD hS (fun r_14 w_15 H locs hf_16 ho_17 he_18 he_19 he_20 he_21 he_22 hP hD hS => ?_)
  have rr_14 := n_rng r_14
  refine lv_pop (pc := 1403) hx hb dL_law_1403 rfl ?_
  refine lv_goto (pc := 1404) (tgt := 1519) hx hb dL_law_1404 (by decide) ?_
  exact kk w_4 w_15 H locs ls hf_5 hf_16 ⟨te_cut heq.1 he_8 he_19 (by omega) (by omega), by omega, plE_keep heq.2.2 he_10 he_21 (by omega) (by omega) (by omega)⟩ ho_6 ho_17 (va_P.swap (a := []) (b := wM cB cC cI cJ w_15) (c := wX cB cC cI cJ w_4) hP) (va_D.swap (a := []) (b := wM cB cC cI cJ w_15) (c := wX cB cC cI cJ w_4) hD) hS hl
set_option maxHeartbeats 8000000 in
set_option maxRecDepth 100000 in
theorem lo_41 {p : Program} {l : Launch} {e : Env} {s : State} {m : MethodId} {below : List Frame} {meth : Method} {c : Code} {D : va_G} {cB cC cI cJ : ClassId} {b L : Nat} {xs : Nat → Int32} {adK adV : Nat → Nat} (C0 : lw_At p s m meth c b L xs) (hLN : L ≤ 3072) (hK : va_K D gcl [(cB, .byte), (cC, .char), (cI, .int), (cJ, .long)] s) (hF : sF adK adV (fun q : Nat => s.heap.size ≤ q) s s.heap) (o1 o2 : Nat) (i : Int32) (hi0 : 0 ≤ i.toInt) (hi1 : i.toInt + 6 ≤ (L : Int)) (u v : gEx) (hfX : fX u) (hfM : fM v) (heq : tEq (u.2.1 4) (u.2.2.2.1 7).toInt (v.2.1 0) (v.2.2.2.1 0).toInt ∧ ((u.2.2.2.1 5).toInt = (v.2.2.2.1 6).toInt ∧ (u.2.2.2.1 6).toInt = (v.2.2.2.1 7).toInt ∧ (u.2.2.2.1 15).toInt = (v.2.2.2.1 8).toInt ∧ (u.2.2.2.1 16).toInt = (v.2.2.2.1 9).toInt ∧ (u.2.2.2.1 17).toInt = (v.2.2.2.1 10).toInt ∧ (u.2.2.2.1 18).toInt = (v.2.2.2.1 11).toInt ∧ (u.2.2.2.1 19).toInt = (v.2.2.2.1 12).toInt ∧ (u.2.2.2.1 43).toInt = ((v.2.1 21) 0).toInt ∧ (u.2.2.2.1 24).toInt = (v.2.2.2.1 21).toInt ∧ (u.2.2.2.1 25).toInt = (v.2.2.2.1 22).toInt ∧ (u.2.2.2.1 26).toInt = (v.2.2.2.1 20).toInt) ∧ plE (u.2.1 31) (u.2.1 15) (u.2.2.2.1 20).toInt (v.2.1 17) (v.2.1 18) (v.2.2.2.1 13).toInt (u.2.2.2.1 19).toInt (u.2.2.2.1 16).toInt (u.2.2.2.1 17).toInt) (hu0 : u.1 0 = o1) (hv0 : v.1 0 = o2) (H : Heap) (locs : List Loc) (ls : Array Slot) (hP : va_P D gcl (wX cB cC cI cJ u ++ wM cB cC cI cJ v) H) (hD : va_D (fun q : Nat => s.heap.size ≤ q) (wX cB cC cI cJ u ++ wM cB cC cI cJ v)) (hS : va_S (fun q : Nat => s.heap.size ≤ q) s.heap H locs) (hl : lv_has ls 4 [(3, .int i), (2, .ref o2), (1, .ref o1), (0, .ref b)])
    (kk : ∀ (u v : gEx) (H : Heap) (locs : List Loc) (ls : Array Slot), fX u → fM v → tEq (u.2.1 4) (u.2.2.2.1 7).toInt (v.2.1 0) (v.2.2.2.1 0).toInt ∧ ((u.2.2.2.1 5).toInt = (v.2.2.2.1 6).toInt ∧ (u.2.2.2.1 6).toInt = (v.2.2.2.1 7).toInt ∧ (u.2.2.2.1 15).toInt = (v.2.2.2.1 8).toInt ∧ (u.2.2.2.1 16).toInt = (v.2.2.2.1 9).toInt ∧ (u.2.2.2.1 17).toInt = (v.2.2.2.1 10).toInt ∧ (u.2.2.2.1 18).toInt = (v.2.2.2.1 11).toInt ∧ (u.2.2.2.1 19).toInt = (v.2.2.2.1 12).toInt ∧ (u.2.2.2.1 43).toInt = ((v.2.1 21) 0).toInt ∧ (u.2.2.2.1 24).toInt = (v.2.2.2.1 21).toInt ∧ (u.2.2.2.1 25).toInt = (v.2.2.2.1 22).toInt ∧ (u.2.2.2.1 26).toInt = (v.2.2.2.1 20).toInt) ∧ plE (u.2.1 31) (u.2.1 15) (u.2.2.2.1 20).toInt (v.2.1 17) (v.2.1 18) (v.2.2.2.1 13).toInt (u.2.2.2.1 19).toInt (u.2.2.2.1 16).toInt (u.2.2.2.1 17).toInt → u.1 0 = o1 → v.1 0 = o2 → va_P D gcl (wX cB cC cI cJ u ++ wM cB cC cI cJ v) H → va_D (fun q : Nat => s.heap.size ≤ q) (wX cB cC cI cJ u ++ wM cB cC cI cJ v) → va_S (fun q : Nat => s.heap.size ≤ q) s.heap H locs → lv_has ls 4 [(3, .int i), (2, .ref o2), (1, .ref o1), (0, .ref b)] → W p l e room_1 s m #[Value.ref b] below meth c H locs 126 15724 (lw_Z below #[Value.ref b] s) (F0 m 1519 ls [])) : W p l e room_1 s m #[Value.ref b] below meth c H locs 126 15724 (lw_Z below #[Value.ref b] s) (F0 m 1407 ls []) := by
  subst hu0
  subst hv0
  have hlen := heq.1.1
  have hreg := heq.2.1
  obtain ⟨hx, hb, hr, hml, hown, hts0, hX, hbl, hlocks, hgv⟩ := id C0
  have hts := g_tbl hts0
  have hbA : ¬ (fun q : Nat => s.heap.size ≤ q) b := Nat.not_le.mpr hbl
  refine lv_aload_n (pc := 1407) hx hb dL_law_1407 rfl (lv_at hl 2 rfl) ?_
  refine lv_aload_n (pc := 1408) hx hb dL_law_1408 rfl (lv_at hl 3 rfl) ?_
  refine lv_iload_n (pc := 1409) hx hb dL_law_1409 rfl (lv_at hl 0 rfl) ?_
  refine lv_iconst (pc := 1410) (v := 1) hx hb dL_law_1410 (by decide) ?_
  refine b_iadd (pc := 1411) hx hb rfl tI_1 (by omega) (by omega) dL_law_1411 (fun x_1 ex_1 => ?_)
  refine va_sld (pc := 1412) hx hb hX hbl hbA hS (n_in rfl (by omega) (by omega)) dL_law_1412 ?_
  refine lv_topi (fun x_2 ex_2 => ?_)
  have rx_2 := n_rng x_2
  have tx_2 := congrArg Int32.toInt (e_ld (f := xs) (show x_2 = xs (x_1.toInt).toNat from ex_2) (show x_1.toInt = (i.toInt) + (1) by omega))
  refine lv_aload_n (pc := 1413) hx hb dL_law_1413 rfl (lv_at hl 3 rfl) ?_
  refine lv_iload_n (pc := 1414) hx hb dL_law_1414 rfl (lv_at hl 0 rfl) ?_
  refine lv_iconst (pc := 1415) (v := 2) hx hb dL_law_1415 (by decide) ?_
  refine b_iadd (pc := 1416) hx hb rfl tI_2 (by omega) (by omega) dL_law_1416 (fun x_3 ex_3 => ?_)
  refine va_sld (pc := 1417) hx hb hX hbl hbA hS (n_in rfl (by omega) (by omega)) dL_law_1417 ?_
  refine lv_topi (fun x_4 ex_4 => ?_)
  have rx_4 := n_rng x_4
  have tx_4 := congrArg Int32.toInt (e_ld (f := xs) (show x_4 = xs (x_3.toInt).toNat from ex_4) (show x_3.toInt = (i.toInt) + (2) by omega))
  refine b_i2l (pc := 1418) hx hb rfl dL_law_1418 (fun y_5 ey_5 => ?_)
  have ry_5 := n_rng x_4
  refine lv_bipush (pc := 1419) (v := 32) hx hb dL_law_1419 (by decide) ?_
  refine lv_lshl (pc := 1421) hx hb dL_law_1421 rfl ?_
  refine lv_topl (fun y_6 _ => ?_)
  have ry_6 := n_rngL y_6
  refine lv_aload_n (pc := 1422) hx hb dL_law_1422 rfl (lv_at hl 3 rfl) ?_
  refine lv_iload_n (pc := 1423) hx hb dL_law_1423 rfl (lv_at hl 0 rfl) ?_
  refine lv_iconst (pc := 1424) (v := 3) hx hb dL_law_1424 (by decide) ?_
  refine b_iadd (pc := 1425) hx hb rfl tI_3 (by omega) (by omega) dL_law_1425 (fun x_7 ex_7 => ?_)
  refine va_sld (pc := 1426) hx hb hX hbl hbA hS (n_in rfl (by omega) (by omega)) dL_law_1426 ?_
  refine lv_topi (fun x_8 ex_8 => ?_)
  have rx_8 := n_rng x_8
  have tx_8 := congrArg Int32.toInt (e_ld (f := xs) (show x_8 = xs (x_7.toInt).toNat from ex_8) (show x_7.toInt = (i.toInt) + (3) by omega))
  refine b_i2l (pc := 1427) hx hb rfl dL_law_1427 (fun y_9 ey_9 => ?_)
  have ry_9 := n_rng x_8
  refine lv_ldc2 (pc := 1428) hx hb hown (hts _ tw_2109) dL_law_1428 ?_
  refine lv_land (pc := 1431) hx hb dL_law_1431 ?_
  refine lv_topl (fun y_10 _ => ?_)
  have ry_10 := n_rngL y_10
  refine lv_lor (pc := 1432) hx hb dL_law_1432 ?_
  refine lv_topl (fun y_11 _ => ?_)
  have ry_11 := n_rngL y_11
  refine cc_1433 C0 hK hF u hfX hl x_2 y_11 hP hD hS (fun r_12 w_13 H locs hf_14 ho_15 he_16 he_17 he_18 he_19 he_20 hP hD hS => ?_)
  have rr_12 := n_rng r_12
  refine lv_pop (pc := 1436) hx hb dL_law_1436 rfl ?_
  refine lv_aload_n (pc := 1437) hx hb dL_law_1437 rfl (lv_at hl 1 rfl) ?_
  refine lv_aload_n (pc := 1438) hx hb dL_law_1438 rfl (lv_at hl 3 rfl) ?_
  refine lv_iload_n (pc := 1439) hx hb dL_law_1439 rfl (lv_at hl 0 rfl) ?_
  refine lv_iconst (pc := 1440) (v := 1) hx hb dL_law_1440 (by decide) ?_
  refine b_iadd (pc := 1441) hx hb rfl tI_1 (by omega) (by omega) dL_law_1441 (fun x_21 ex_21 => ?_)
  refine va_sld (pc := 1442) hx hb hX hbl hbA hS (n_in rfl (by omega) (by omega)) dL_law_1442 ?_
  refine lv_topi (fun x_22 ex_22 => ?_)
  have rx_22 := n_rng x_22
  have tx_22 := congrArg Int32.toInt (e_ld (f := xs) (show x_22 = xs (x_21.toInt).toNat from ex_22) (show x_21.toInt = (i.toInt) + (1) by omega))
  refine lv_aload_n (pc := 1443) hx hb dL_law_1443 rfl (lv_at hl 3 rfl) ?_
  refine lv_iload_n (pc := 1444) hx hb dL_law_1444 rfl (lv_at hl 0 rfl) ?_
  refine lv_iconst (pc := 1445) (v := 2) hx hb dL_law_1445 (by decide) ?_
  refine b_iadd (pc := 1446) hx hb rfl tI_2 (by omega) (by omega) dL_law_1446 (fun x_23 ex_23 => ?_)
  refine va_sld (pc := 1447) hx hb hX hbl hbA hS (n_in rfl (by omega) (by omega)) dL_law_1447 ?_
  refine lv_topi (fun x_24 ex_24 => ?_)
  have rx_24 := n_rng x_24
  have tx_24 := congrArg Int32.toInt (e_ld (f := xs) (show x_24 = xs (x_23.toInt).toNat from ex_24) (show x_23.toInt = (i.toInt) + (2) by omega))
  refine b_i2l (pc := 1448) hx hb rfl dL_law_1448 (fun y_25 ey_25 => ?_)
  have ry_25 := n_rng x_24
  refine lv_bipush (pc := 1449) (v := 32) hx hb dL_law_1449 (by decide) ?_
  refine lv_lshl (pc := 1451) hx hb dL_law_1451 rfl ?_
  refine lv_topl (fun y_26 _ => ?_)
  have ry_26 := n_rngL y_26
  refine lv_aload_n (pc := 1452) hx hb dL_law_1452 rfl (lv_at hl 3 rfl) ?_
  refine lv_iload_n (pc := 1453) hx hb dL_law_1453 rfl (lv_at hl 0 rfl) ?_
  refine lv_iconst (pc := 1454) (v := 3) hx hb dL_law_1454 (by decide) ?_
  refine b_iadd (pc := 1455) hx hb rfl tI_3 (by omega) (by omega) dL_law_1455 (fun x_27 ex_27 => ?_)
  refine va_sld (pc := 1456) hx hb hX hbl hbA hS (n_in rfl (by omega) (by omega)) dL_law_1456 ?_
  refine lv_topi (fun x_28 ex_28 => ?_)
  have rx_28 := n_rng x_28
  have tx_28 := congrArg Int32.toInt (e_ld (f := xs) (show x_28 = xs (x_27.toInt).toNat from ex_28) (show x_27.toInt = (i.toInt) + (3) by omega))
  refine b_i2l (pc := 1457) hx hb rfl dL_law_1457 (fun y_29 ey_29 => ?_)
  have ry_29 := n_rng x_28
  refine lv_ldc2 (pc := 1458) hx hb hown (hts _ tw_2109) dL_law_1458 ?_
  refine lv_land (pc := 1461) hx hb dL_law_1461 ?_
  refine lv_topl (fun y_30 _ => ?_)
  have ry_30 := n_rngL y_30
  refine lv_lor (pc := 1462) hx hb dL_law_1462 ?_
  refine lv_topl (fun y_31 _ => ?_)
  have ry_31 := n_rngL y_31
  have hP : va_P D gcl (wM cB cC cI cJ v ++ wX cB cC cI cJ w_13) H := va_P.swap (a := []) (b := wX cB cC cI cJ w_13) (c := wM cB cC cI cJ v) hP
  have hD : va_D (fun q : Nat => s.heap.size ≤ q) (wM cB cC cI cJ v ++ wX cB cC cI cJ w_13) := va_D.swap (a := []) (b := wX cB cC cI cJ w_13) (c := wM cB cC cI cJ v) hD
  refine cc_1463 C0 hK hF v hfM hl x_22 y_31 hP hD hS (fun r_32 w_33 H locs hf_34 ho_35 he_36 he_37 he_38 he_39 he_40 hP hD hS => ?_)
  have rr_32 := n_rng r_32
  refine lv_pop (pc := 1466) hx hb dL_law_1466 rfl ?_
  refine lv_goto (pc := 1467) (tgt := 1519) hx hb dL_law_1467 (by decide) ?_
  exact kk w_13 w_33 H locs ls hf_14 hf_34 ⟨te_cut heq.1 he_17 he_37 (by omega) (by omega), by omega, plE_keep heq.2.2 he_19 he_39 (by omega) (by omega) (by omega)⟩ ho_15 ho_35 (va_P.swap (a := []) (b := wM cB cC cI cJ w_33) (c := wX cB cC cI cJ w_13) hP) (va_D.swap (a := []) (b := wM cB cC cI cJ w_33) (c := wX cB cC cI cJ w_13) hD) hS hl
set_option maxHeartbeats 8000000 in
set_option maxRecDepth 100000 in
theorem lo_42 {p : Program} {l : Launch} {e : Env} {s : State} {m : MethodId} {below : List Frame} {meth : Method} {c : Code} {D : va_G} {cB cC cI cJ : ClassId} {b L : Nat} {xs : Nat → Int32} {adK adV : Nat → Nat} (C0 : lw_At p s m meth c b L xs) (hLN : L ≤ 3072) (hK : va_K D gcl [(cB, .byte), (cC, .char), (cI, .int), (cJ, .long)] s) (hF : sF adK adV (fun q : Nat => s.heap.size ≤ q) s s.heap) (o1 o2 : Nat) (i : Int32) (hi0 : 0 ≤ i.toInt) (hi1 : i.toInt + 6 ≤ (L : Int)) (u v : gEx) (hfX : fX u) (hfM : fM v) (heq : tEq (u.2.1 4) (u.2.2.2.1 7).toInt (v.2.1 0) (v.2.2.2.1 0).toInt ∧ ((u.2.2.2.1 5).toInt = (v.2.2.2.1 6).toInt ∧ (u.2.2.2.1 6).toInt = (v.2.2.2.1 7).toInt ∧ (u.2.2.2.1 15).toInt = (v.2.2.2.1 8).toInt ∧ (u.2.2.2.1 16).toInt = (v.2.2.2.1 9).toInt ∧ (u.2.2.2.1 17).toInt = (v.2.2.2.1 10).toInt ∧ (u.2.2.2.1 18).toInt = (v.2.2.2.1 11).toInt ∧ (u.2.2.2.1 19).toInt = (v.2.2.2.1 12).toInt ∧ (u.2.2.2.1 43).toInt = ((v.2.1 21) 0).toInt ∧ (u.2.2.2.1 24).toInt = (v.2.2.2.1 21).toInt ∧ (u.2.2.2.1 25).toInt = (v.2.2.2.1 22).toInt ∧ (u.2.2.2.1 26).toInt = (v.2.2.2.1 20).toInt) ∧ plE (u.2.1 31) (u.2.1 15) (u.2.2.2.1 20).toInt (v.2.1 17) (v.2.1 18) (v.2.2.2.1 13).toInt (u.2.2.2.1 19).toInt (u.2.2.2.1 16).toInt (u.2.2.2.1 17).toInt) (hu0 : u.1 0 = o1) (hv0 : v.1 0 = o2) (H : Heap) (locs : List Loc) (ls : Array Slot) (hP : va_P D gcl (wX cB cC cI cJ u ++ wM cB cC cI cJ v) H) (hD : va_D (fun q : Nat => s.heap.size ≤ q) (wX cB cC cI cJ u ++ wM cB cC cI cJ v)) (hS : va_S (fun q : Nat => s.heap.size ≤ q) s.heap H locs) (hl : lv_has ls 4 [(3, .int i), (2, .ref o2), (1, .ref o1), (0, .ref b)])
    (kk : ∀ (u v : gEx) (H : Heap) (locs : List Loc) (ls : Array Slot), fX u → fM v → tEq (u.2.1 4) (u.2.2.2.1 7).toInt (v.2.1 0) (v.2.2.2.1 0).toInt ∧ ((u.2.2.2.1 5).toInt = (v.2.2.2.1 6).toInt ∧ (u.2.2.2.1 6).toInt = (v.2.2.2.1 7).toInt ∧ (u.2.2.2.1 15).toInt = (v.2.2.2.1 8).toInt ∧ (u.2.2.2.1 16).toInt = (v.2.2.2.1 9).toInt ∧ (u.2.2.2.1 17).toInt = (v.2.2.2.1 10).toInt ∧ (u.2.2.2.1 18).toInt = (v.2.2.2.1 11).toInt ∧ (u.2.2.2.1 19).toInt = (v.2.2.2.1 12).toInt ∧ (u.2.2.2.1 43).toInt = ((v.2.1 21) 0).toInt ∧ (u.2.2.2.1 24).toInt = (v.2.2.2.1 21).toInt ∧ (u.2.2.2.1 25).toInt = (v.2.2.2.1 22).toInt ∧ (u.2.2.2.1 26).toInt = (v.2.2.2.1 20).toInt) ∧ plE (u.2.1 31) (u.2.1 15) (u.2.2.2.1 20).toInt (v.2.1 17) (v.2.1 18) (v.2.2.2.1 13).toInt (u.2.2.2.1 19).toInt (u.2.2.2.1 16).toInt (u.2.2.2.1 17).toInt → u.1 0 = o1 → v.1 0 = o2 → va_P D gcl (wX cB cC cI cJ u ++ wM cB cC cI cJ v) H → va_D (fun q : Nat => s.heap.size ≤ q) (wX cB cC cI cJ u ++ wM cB cC cI cJ v) → va_S (fun q : Nat => s.heap.size ≤ q) s.heap H locs → lv_has ls 4 [(3, .int i), (2, .ref o2), (1, .ref o1), (0, .ref b)] → W p l e room_1 s m #[Value.ref b] below meth c H locs 126 15724 (lw_Z below #[Value.ref b] s) (F0 m 1519 ls [])) : W p l e room_1 s m #[Value.ref b] below meth c H locs 126 15724 (lw_Z below #[Value.ref b] s) (F0 m 1470 ls []) := by
  subst hu0
  subst hv0
  have hlen := heq.1.1
  have hreg := heq.2.1
  obtain ⟨hx, hb, hr, hml, hown, hts0, hX, hbl, hlocks, hgv⟩ := id C0
  have hts := g_tbl hts0
  have hbA : ¬ (fun q : Nat => s.heap.size ≤ q) b := Nat.not_le.mpr hbl
  refine lv_aload_n (pc := 1470) hx hb dL_law_1470 rfl (lv_at hl 2 rfl) ?_
  refine cc_1471 C0 hK hF u hfX hl  hP hD hS (fun r_1 w_2 H locs hf_3 ho_4 he_5 he_6 he_7 he_8 he_9 hP hD hS => ?_)
  have rr_1 := n_rng r_1
  refine lv_pop (pc := 1474) hx hb dL_law_1474 rfl ?_
  refine lv_aload_n (pc := 1475) hx hb dL_law_1475 rfl (lv_at hl 1 rfl) ?_
  have hP : va_P D gcl (wM cB cC cI cJ v ++ wX cB cC cI cJ w_2) H := va_P.swap (a := []) (b := wX cB cC cI cJ w_2) (c := wM cB cC cI cJ v) hP
  have hD : va_D (fun q : Nat => s.heap.size ≤ q) (wM cB cC cI cJ v ++ wX cB cC cI cJ w_2) := va_D.swap (a := []) (b := wX cB cC cI cJ w_2) (c := wM cB cC cI cJ v) hD
  refine cc_1476 C0 hK hF v hfM hl  hP hD hS (fun r_10 w_11 H locs hf_12 ho_13 he_14 he_15 he_16 he_17 he_18 hP hD hS => ?_)
  have rr_10 := n_rng r_10
  refine lv_pop (pc := 1479) hx hb dL_law_1479 rfl ?_
  refine lv_goto (pc := 1480) (tgt := 1519) hx hb dL_law_1480 (by decide) ?_
  exact kk w_2 w_11 H locs ls hf_3 hf_12 ⟨te_cut heq.1 he_6 he_15 (by omega) (by omega), by omega, plE_keep heq.2.2 he_8 he_17 (by omega) (by omega) (by omega)⟩ ho_4 ho_13 (va_P.swap (a := []) (b := wM cB cC cI cJ w_11) (c := wX cB cC cI cJ w_2) hP) (va_D.swap (a := []) (b := wM cB cC cI cJ w_11) (c := wX cB cC cI cJ w_2) hD) hS hl
set_option maxHeartbeats 8000000 in
set_option maxRecDepth 100000 in
theorem lo_43 {p : Program} {l : Launch} {e : Env} {s : State} {m : MethodId} {below : List Frame} {meth : Method} {c : Code} {D : va_G} {cB cC cI cJ : ClassId} {b L : Nat} {xs : Nat → Int32} {adK adV : Nat → Nat} (C0 : lw_At p s m meth c b L xs) (hLN : L ≤ 3072) (hK : va_K D gcl [(cB, .byte), (cC, .char), (cI, .int), (cJ, .long)] s) (hF : sF adK adV (fun q : Nat => s.heap.size ≤ q) s s.heap) (o1 o2 : Nat) (i : Int32) (hi0 : 0 ≤ i.toInt) (hi1 : i.toInt + 6 ≤ (L : Int)) (u v : gEx) (hfX : fX u) (hfM : fM v) (heq : tEq (u.2.1 4) (u.2.2.2.1 7).toInt (v.2.1 0) (v.2.2.2.1 0).toInt ∧ ((u.2.2.2.1 5).toInt = (v.2.2.2.1 6).toInt ∧ (u.2.2.2.1 6).toInt = (v.2.2.2.1 7).toInt ∧ (u.2.2.2.1 15).toInt = (v.2.2.2.1 8).toInt ∧ (u.2.2.2.1 16).toInt = (v.2.2.2.1 9).toInt ∧ (u.2.2.2.1 17).toInt = (v.2.2.2.1 10).toInt ∧ (u.2.2.2.1 18).toInt = (v.2.2.2.1 11).toInt ∧ (u.2.2.2.1 19).toInt = (v.2.2.2.1 12).toInt ∧ (u.2.2.2.1 43).toInt = ((v.2.1 21) 0).toInt ∧ (u.2.2.2.1 24).toInt = (v.2.2.2.1 21).toInt ∧ (u.2.2.2.1 25).toInt = (v.2.2.2.1 22).toInt ∧ (u.2.2.2.1 26).toInt = (v.2.2.2.1 20).toInt) ∧ plE (u.2.1 31) (u.2.1 15) (u.2.2.2.1 20).toInt (v.2.1 17) (v.2.1 18) (v.2.2.2.1 13).toInt (u.2.2.2.1 19).toInt (u.2.2.2.1 16).toInt (u.2.2.2.1 17).toInt) (hu0 : u.1 0 = o1) (hv0 : v.1 0 = o2) (H : Heap) (locs : List Loc) (ls : Array Slot) (hP : va_P D gcl (wX cB cC cI cJ u ++ wM cB cC cI cJ v) H) (hD : va_D (fun q : Nat => s.heap.size ≤ q) (wX cB cC cI cJ u ++ wM cB cC cI cJ v)) (hS : va_S (fun q : Nat => s.heap.size ≤ q) s.heap H locs) (hl : lv_has ls 4 [(3, .int i), (2, .ref o2), (1, .ref o1), (0, .ref b)])
    (kk : ∀ (u v : gEx) (H : Heap) (locs : List Loc) (ls : Array Slot), fX u → fM v → tEq (u.2.1 4) (u.2.2.2.1 7).toInt (v.2.1 0) (v.2.2.2.1 0).toInt ∧ ((u.2.2.2.1 5).toInt = (v.2.2.2.1 6).toInt ∧ (u.2.2.2.1 6).toInt = (v.2.2.2.1 7).toInt ∧ (u.2.2.2.1 15).toInt = (v.2.2.2.1 8).toInt ∧ (u.2.2.2.1 16).toInt = (v.2.2.2.1 9).toInt ∧ (u.2.2.2.1 17).toInt = (v.2.2.2.1 10).toInt ∧ (u.2.2.2.1 18).toInt = (v.2.2.2.1 11).toInt ∧ (u.2.2.2.1 19).toInt = (v.2.2.2.1 12).toInt ∧ (u.2.2.2.1 43).toInt = ((v.2.1 21) 0).toInt ∧ (u.2.2.2.1 24).toInt = (v.2.2.2.1 21).toInt ∧ (u.2.2.2.1 25).toInt = (v.2.2.2.1 22).toInt ∧ (u.2.2.2.1 26).toInt = (v.2.2.2.1 20).toInt) ∧ plE (u.2.1 31) (u.2.1 15) (u.2.2.2.1 20).toInt (v.2.1 17) (v.2.1 18) (v.2.2.2.1 13).toInt (u.2.2.2.1 19).toInt (u.2.2.2.1 16).toInt (u.2.2.2.1 17).toInt → u.1 0 = o1 → v.1 0 = o2 → va_P D gcl (wX cB cC cI cJ u ++ wM cB cC cI cJ v) H → va_D (fun q : Nat => s.heap.size ≤ q) (wX cB cC cI cJ u ++ wM cB cC cI cJ v) → va_S (fun q : Nat => s.heap.size ≤ q) s.heap H locs → lv_has ls 4 [(3, .int i), (2, .ref o2), (1, .ref o1), (0, .ref b)] → W p l e room_1 s m #[Value.ref b] below meth c H locs 126 15724 (lw_Z below #[Value.ref b] s) (F0 m 1519 ls [])) : W p l e room_1 s m #[Value.ref b] below meth c H locs 126 15724 (lw_Z below #[Value.ref b] s) (F0 m 1483 ls []) := by
  subst hu0
  subst hv0
  have hlen := heq.1.1
  have hreg := heq.2.1
  obtain ⟨hx, hb, hr, hml, hown, hts0, hX, hbl, hlocks, hgv⟩ := id C0
  have hts := g_tbl hts0
  have hbA : ¬ (fun q : Nat => s.heap.size ≤ q) b := Nat.not_le.mpr hbl
  refine lv_aload_n (pc := 1483) hx hb dL_law_1483 rfl (lv_at hl 2 rfl) ?_
  refine lv_aload_n (pc := 1484) hx hb dL_law_1484 rfl (lv_at hl 3 rfl) ?_
  refine lv_iload_n (pc := 1485) hx hb dL_law_1485 rfl (lv_at hl 0 rfl) ?_
  refine lv_iconst (pc := 1486) (v := 1) hx hb dL_law_1486 (by decide) ?_
  refine b_iadd (pc := 1487) hx hb rfl tI_1 (by omega) (by omega) dL_law_1487 (fun x_1 ex_1 => ?_)
  refine va_sld (pc := 1488) hx hb hX hbl hbA hS (n_in rfl (by omega) (by omega)) dL_law_1488 ?_
  refine lv_topi (fun x_2 ex_2 => ?_)
  have rx_2 := n_rng x_2
  have tx_2 := congrArg Int32.toInt (e_ld (f := xs) (show x_2 = xs (x_1.toInt).toNat from ex_2) (show x_1.toInt = (i.toInt) + (1) by omega))
  refine cc_1489 C0 hK hF u hfX hl x_2 hP hD hS (fun r_3 w_4 H locs hf_5 ho_6 he_7 he_8 he_9 he_10 he_11 hP hD hS => ?_)
  have rr_3 := n_rng r_3
  refine lv_pop (pc := 1492) hx hb dL_law_1492 rfl ?_
  refine lv_aload_n (pc := 1493) hx hb dL_law_1493 rfl (lv_at hl 1 rfl) ?_
  refine lv_aload_n (pc := 1494) hx hb dL_law_1494 rfl (lv_at hl 3 rfl) ?_
  refine lv_iload_n (pc := 1495) hx hb dL_law_1495 rfl (lv_at hl 0 rfl) ?_
  refine lv_iconst (pc := 1496) (v := 1) hx hb dL_law_1496 (by decide) ?_
  refine b_iadd (pc := 1497) hx hb rfl tI_1 (by omega) (by omega) dL_law_1497 (fun x_12 ex_12 => ?_)
  refine va_sld (pc := 1498) hx hb hX hbl hbA hS (n_in rfl (by omega) (by omega)) dL_law_1498 ?_
  refine lv_topi (fun x_13 ex_13 => ?_)
  have rx_13 := n_rng x_13
  have tx_13 := congrArg Int32.toInt (e_ld (f := xs) (show x_13 = xs (x_12.toInt).toNat from ex_13) (show x_12.toInt = (i.toInt) + (1) by omega))
  have hP : va_P D gcl (wM cB cC cI cJ v ++ wX cB cC cI cJ w_4) H := va_P.swap (a := []) (b := wX cB cC cI cJ w_4) (c := wM cB cC cI cJ v) hP
  have hD : va_D (fun q : Nat => s.heap.size ≤ q) (wM cB cC cI cJ v ++ wX cB cC cI cJ w_4) := va_D.swap (a := []) (b := wX cB cC cI cJ w_4) (c := wM cB cC cI cJ v) hD
  refine cc_1499 C0 hK hF v hfM hl x_13 hP hD hS (fun r_14 w_15 H locs hf_16 ho_17 he_18 he_19 he_20 he_21 he_22 hP hD hS => ?_)
  have rr_14 := n_rng r_14
  refine lv_pop (pc := 1502) hx hb dL_law_1502 rfl ?_
  refine lv_goto (pc := 1503) (tgt := 1519) hx hb dL_law_1503 (by decide) ?_
  exact kk w_4 w_15 H locs ls hf_5 hf_16 ⟨te_cut heq.1 he_8 he_19 (by omega) (by omega), by omega, plE_keep heq.2.2 he_10 he_21 (by omega) (by omega) (by omega)⟩ ho_6 ho_17 (va_P.swap (a := []) (b := wM cB cC cI cJ w_15) (c := wX cB cC cI cJ w_4) hP) (va_D.swap (a := []) (b := wM cB cC cI cJ w_15) (c := wX cB cC cI cJ w_4) hD) hS hl
set_option maxHeartbeats 8000000 in
set_option maxRecDepth 100000 in
theorem lo_44 {p : Program} {l : Launch} {e : Env} {s : State} {m : MethodId} {below : List Frame} {meth : Method} {c : Code} {D : va_G} {cB cC cI cJ : ClassId} {b L : Nat} {xs : Nat → Int32} {adK adV : Nat → Nat} (C0 : lw_At p s m meth c b L xs) (hLN : L ≤ 3072) (hK : va_K D gcl [(cB, .byte), (cC, .char), (cI, .int), (cJ, .long)] s) (hF : sF adK adV (fun q : Nat => s.heap.size ≤ q) s s.heap) (o1 o2 : Nat) (i : Int32) (hi0 : 0 ≤ i.toInt) (hi1 : i.toInt + 6 ≤ (L : Int)) (u v : gEx) (hfX : fX u) (hfM : fM v) (heq : tEq (u.2.1 4) (u.2.2.2.1 7).toInt (v.2.1 0) (v.2.2.2.1 0).toInt ∧ ((u.2.2.2.1 5).toInt = (v.2.2.2.1 6).toInt ∧ (u.2.2.2.1 6).toInt = (v.2.2.2.1 7).toInt ∧ (u.2.2.2.1 15).toInt = (v.2.2.2.1 8).toInt ∧ (u.2.2.2.1 16).toInt = (v.2.2.2.1 9).toInt ∧ (u.2.2.2.1 17).toInt = (v.2.2.2.1 10).toInt ∧ (u.2.2.2.1 18).toInt = (v.2.2.2.1 11).toInt ∧ (u.2.2.2.1 19).toInt = (v.2.2.2.1 12).toInt ∧ (u.2.2.2.1 43).toInt = ((v.2.1 21) 0).toInt ∧ (u.2.2.2.1 24).toInt = (v.2.2.2.1 21).toInt ∧ (u.2.2.2.1 25).toInt = (v.2.2.2.1 22).toInt ∧ (u.2.2.2.1 26).toInt = (v.2.2.2.1 20).toInt) ∧ plE (u.2.1 31) (u.2.1 15) (u.2.2.2.1 20).toInt (v.2.1 17) (v.2.1 18) (v.2.2.2.1 13).toInt (u.2.2.2.1 19).toInt (u.2.2.2.1 16).toInt (u.2.2.2.1 17).toInt) (hu0 : u.1 0 = o1) (hv0 : v.1 0 = o2) (H : Heap) (locs : List Loc) (ls : Array Slot) (hP : va_P D gcl (wX cB cC cI cJ u ++ wM cB cC cI cJ v) H) (hD : va_D (fun q : Nat => s.heap.size ≤ q) (wX cB cC cI cJ u ++ wM cB cC cI cJ v)) (hS : va_S (fun q : Nat => s.heap.size ≤ q) s.heap H locs) (hl : lv_has ls 4 [(3, .int i), (2, .ref o2), (1, .ref o1), (0, .ref b)])
    (kk : ∀ (u v : gEx) (H : Heap) (locs : List Loc) (ls : Array Slot), fX u → fM v → tEq (u.2.1 4) (u.2.2.2.1 7).toInt (v.2.1 0) (v.2.2.2.1 0).toInt ∧ ((u.2.2.2.1 5).toInt = (v.2.2.2.1 6).toInt ∧ (u.2.2.2.1 6).toInt = (v.2.2.2.1 7).toInt ∧ (u.2.2.2.1 15).toInt = (v.2.2.2.1 8).toInt ∧ (u.2.2.2.1 16).toInt = (v.2.2.2.1 9).toInt ∧ (u.2.2.2.1 17).toInt = (v.2.2.2.1 10).toInt ∧ (u.2.2.2.1 18).toInt = (v.2.2.2.1 11).toInt ∧ (u.2.2.2.1 19).toInt = (v.2.2.2.1 12).toInt ∧ (u.2.2.2.1 43).toInt = ((v.2.1 21) 0).toInt ∧ (u.2.2.2.1 24).toInt = (v.2.2.2.1 21).toInt ∧ (u.2.2.2.1 25).toInt = (v.2.2.2.1 22).toInt ∧ (u.2.2.2.1 26).toInt = (v.2.2.2.1 20).toInt) ∧ plE (u.2.1 31) (u.2.1 15) (u.2.2.2.1 20).toInt (v.2.1 17) (v.2.1 18) (v.2.2.2.1 13).toInt (u.2.2.2.1 19).toInt (u.2.2.2.1 16).toInt (u.2.2.2.1 17).toInt → u.1 0 = o1 → v.1 0 = o2 → va_P D gcl (wX cB cC cI cJ u ++ wM cB cC cI cJ v) H → va_D (fun q : Nat => s.heap.size ≤ q) (wX cB cC cI cJ u ++ wM cB cC cI cJ v) → va_S (fun q : Nat => s.heap.size ≤ q) s.heap H locs → lv_has ls 4 [(3, .int i), (2, .ref o2), (1, .ref o1), (0, .ref b)] → W p l e room_1 s m #[Value.ref b] below meth c H locs 126 15724 (lw_Z below #[Value.ref b] s) (F0 m 1519 ls [])) : W p l e room_1 s m #[Value.ref b] below meth c H locs 126 15724 (lw_Z below #[Value.ref b] s) (F0 m 1506 ls []) := by
  subst hu0
  subst hv0
  have hlen := heq.1.1
  have hreg := heq.2.1
  obtain ⟨hx, hb, hr, hml, hown, hts0, hX, hbl, hlocks, hgv⟩ := id C0
  have hts := g_tbl hts0
  have hbA : ¬ (fun q : Nat => s.heap.size ≤ q) b := Nat.not_le.mpr hbl
  refine lv_aload_n (pc := 1506) hx hb dL_law_1506 rfl (lv_at hl 2 rfl) ?_
  refine cc_1507 C0 hK hF u hfX hl  hP hD hS (fun r_1 w_2 H locs hf_3 ho_4 he_5 he_6 he_7 he_8 he_9 hP hD hS => ?_)
  have rr_1 := n_rng r_1
  refine lv_pop (pc := 1510) hx hb dL_law_1510 rfl ?_
  refine lv_aload_n (pc := 1511) hx hb dL_law_1511 rfl (lv_at hl 1 rfl) ?_
  have hP : va_P D gcl (wM cB cC cI cJ v ++ wX cB cC cI cJ w_2) H := va_P.swap (a := []) (b := wX cB cC cI cJ w_2) (c := wM cB cC cI cJ v) hP
  have hD : va_D (fun q : Nat => s.heap.size ≤ q) (wM cB cC cI cJ v ++ wX cB cC cI cJ w_2) := va_D.swap (a := []) (b := wX cB cC cI cJ w_2) (c := wM cB cC cI cJ v) hD
  refine cc_1512 C0 hK hF v hfM hl  hP hD hS (fun r_10 w_11 H locs hf_12 ho_13 he_14 he_15 he_16 he_17 he_18 hP hD hS => ?_)
  have rr_10 := n_rng r_10
  have b9oXx16 := (pX_14 (u := u) hfX)
  have b9oXx17 := (pX_15 (u := u) hfX)
  have b9oMx9 := (pM_7 (u := v) hfM)
  have b9oMx10 := (pM_8 (u := v) hfM)
  have b9oMx21 := (pM_17 (u := v) hfM)
  have b9oMx22 := (pM_18 (u := v) hfM)
  have b9oMx20 := (pM_16 (u := v) hfM)
  have b9ose := (pX_58 (u := u) hfX)
  have b9ohr_a0_0 := (pM_24 (u := v) hfM)
  have b9ohr_a0_1 := (pM_25 (u := v) hfM)
  have b9ohr_a0_2 := (pM_26 (u := v) hfM)
  have e9 : taub (u.2.1 4) (u.2.2.2.1 7).toInt = tau (v.2.1 0) (v.2.2.2.1 0).toInt := funext heq.1.2
  rw [← e9] at he_18
  have hl9 := on_eq he_9 he_18 rfl (by omega) (by omega) (chP_eq heq.2.2 (by omega) (by omega) (by omega)) (by omega) (by omega) (by omega)
  refine lv_pop (pc := 1515) hx hb dL_law_1515 rfl ?_
  refine lv_goto (pc := 1516) (tgt := 1519) hx hb dL_law_1516 (by decide) ?_
  exact kk w_2 w_11 H locs ls hf_3 hf_12 ⟨te_cut heq.1 he_6 he_15 (by omega) (by omega), by omega, plE_keep heq.2.2 he_8 he_17 (by omega) (by omega) (by omega)⟩ ho_4 ho_13 (va_P.swap (a := []) (b := wM cB cC cI cJ w_11) (c := wX cB cC cI cJ w_2) hP) (va_D.swap (a := []) (b := wM cB cC cI cJ w_11) (c := wX cB cC cI cJ w_2) hD) hS hl
