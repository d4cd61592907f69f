set_option maxHeartbeats 8000000 in
set_option maxRecDepth 100000 in
theorem lo_18 {p : Program} {l : Launch} {e : Env} {s : State} {m : MethodId} {below : List Frame} {meth : Method} {c : Code} {D : va_G} {cB cC cI cJ : ClassId} {b L : Nat} {xs : Nat → Int32} {adK adV : Nat → Nat} (C0 : lw_At p s m meth c b L xs) (hLN : L ≤ 3072) (hK : va_K D gcl [(cB, .byte), (cC, .char), (cI, .int), (cJ, .long)] s) (hF : sF adK adV (fun q : Nat => s.heap.size ≤ q) s s.heap) (o1 o2 : Nat) (i : Int32) (hi0 : 0 ≤ i.toInt) (hi1 : i.toInt + 6 ≤ (L : Int)) (u v : gEx) (hfX : fX u) (hfM : fM v) (heq : tEq (u.2.1 4) (u.2.2.2.1 7).toInt (v.2.1 0) (v.2.2.2.1 0).toInt ∧ ((u.2.2.2.1 5).toInt = (v.2.2.2.1 6).toInt ∧ (u.2.2.2.1 6).toInt = (v.2.2.2.1 7).toInt ∧ (u.2.2.2.1 15).toInt = (v.2.2.2.1 8).toInt ∧ (u.2.2.2.1 16).toInt = (v.2.2.2.1 9).toInt ∧ (u.2.2.2.1 17).toInt = (v.2.2.2.1 10).toInt ∧ (u.2.2.2.1 18).toInt = (v.2.2.2.1 11).toInt ∧ (u.2.2.2.1 19).toInt = (v.2.2.2.1 12).toInt ∧ (u.2.2.2.1 43).toInt = ((v.2.1 21) 0).toInt ∧ (u.2.2.2.1 24).toInt = (v.2.2.2.1 21).toInt ∧ (u.2.2.2.1 25).toInt = (v.2.2.2.1 22).toInt ∧ (u.2.2.2.1 26).toInt = (v.2.2.2.1 20).toInt) ∧ plE (u.2.1 31) (u.2.1 15) (u.2.2.2.1 20).toInt (v.2.1 17) (v.2.1 18) (v.2.2.2.1 13).toInt (u.2.2.2.1 19).toInt (u.2.2.2.1 16).toInt (u.2.2.2.1 17).toInt) (hu0 : u.1 0 = o1) (hv0 : v.1 0 = o2) (H : Heap) (locs : List Loc) (ls : Array Slot) (hP : va_P D gcl (wX cB cC cI cJ u ++ wM cB cC cI cJ v) H) (hD : va_D (fun q : Nat => s.heap.size ≤ q) (wX cB cC cI cJ u ++ wM cB cC cI cJ v)) (hS : va_S (fun q : Nat => s.heap.size ≤ q) s.heap H locs) (hl : lv_has ls 4 [(3, .int i), (2, .ref o2), (1, .ref o1), (0, .ref b)])
    (kk : ∀ (u v : gEx) (H : Heap) (locs : List Loc) (ls : Array Slot), fX u → fM v → tEq (u.2.1 4) (u.2.2.2.1 7).toInt (v.2.1 0) (v.2.2.2.1 0).toInt ∧ ((u.2.2.2.1 5).toInt = (v.2.2.2.1 6).toInt ∧ (u.2.2.2.1 6).toInt = (v.2.2.2.1 7).toInt ∧ (u.2.2.2.1 15).toInt = (v.2.2.2.1 8).toInt ∧ (u.2.2.2.1 16).toInt = (v.2.2.2.1 9).toInt ∧ (u.2.2.2.1 17).toInt = (v.2.2.2.1 10).toInt ∧ (u.2.2.2.1 18).toInt = (v.2.2.2.1 11).toInt ∧ (u.2.2.2.1 19).toInt = (v.2.2.2.1 12).toInt ∧ (u.2.2.2.1 43).toInt = ((v.2.1 21) 0).toInt ∧ (u.2.2.2.1 24).toInt = (v.2.2.2.1 21).toInt ∧ (u.2.2.2.1 25).toInt = (v.2.2.2.1 22).toInt ∧ (u.2.2.2.1 26).toInt = (v.2.2.2.1 20).toInt) ∧ plE (u.2.1 31) (u.2.1 15) (u.2.2.2.1 20).toInt (v.2.1 17) (v.2.1 18) (v.2.2.2.1 13).toInt (u.2.2.2.1 19).toInt (u.2.2.2.1 16).toInt (u.2.2.2.1 17).toInt → u.1 0 = o1 → v.1 0 = o2 → va_P D gcl (wX cB cC cI cJ u ++ wM cB cC cI cJ v) H → va_D (fun q : Nat => s.heap.size ≤ q) (wX cB cC cI cJ u ++ wM cB cC cI cJ v) → va_S (fun q : Nat => s.heap.size ≤ q) s.heap H locs → lv_has ls 4 [(3, .int i), (2, .ref o2), (1, .ref o1), (0, .ref b)] → W p l e room_1 s m #[Value.ref b] below meth c H locs 126 15724 (lw_Z below #[Value.ref b] s) (F0 m 1519 ls [])) : W p l e room_1 s m #[Value.ref b] below meth c H locs 126 15724 (lw_Z below #[Value.ref b] s) (F0 m 754 ls []) := by
  subst hu0
  subst hv0
  have hlen := heq.1.1
  have hreg := heq.2.1
  obtain ⟨hx, hb, hr, hml, hown, hts0, hX, hbl, hlocks, hgv⟩ := id C0
  have hts := g_tbl hts0
  have hbA : ¬ (fun q : Nat => s.heap.size ≤ q) b := Nat.not_le.mpr hbl
  refine lv_aload_n (pc := 754) hx hb dL_law_754 rfl (lv_at hl 2 rfl) ?_
  refine lv_aload_n (pc := 755) hx hb dL_law_755 rfl (lv_at hl 3 rfl) ?_
  refine lv_iload_n (pc := 756) hx hb dL_law_756 rfl (lv_at hl 0 rfl) ?_
  refine lv_iconst (pc := 757) (v := 1) hx hb dL_law_757 (by decide) ?_
  refine b_iadd (pc := 758) hx hb rfl tI_1 (by omega) (by omega) dL_law_758 (fun x_1 ex_1 => ?_)
  refine va_sld (pc := 759) hx hb hX hbl hbA hS (n_in rfl (by omega) (by omega)) dL_law_759 ?_
  refine lv_topi (fun x_2 ex_2 => ?_)
  have rx_2 := n_rng x_2
  have tx_2 := congrArg Int32.toInt (e_ld (f := xs) (show x_2 = xs (x_1.toInt).toNat from ex_2) (show x_1.toInt = (i.toInt) + (1) by omega))
  refine lv_aload_n (pc := 760) hx hb dL_law_760 rfl (lv_at hl 3 rfl) ?_
  refine lv_iload_n (pc := 761) hx hb dL_law_761 rfl (lv_at hl 0 rfl) ?_
  refine lv_iconst (pc := 762) (v := 2) hx hb dL_law_762 (by decide) ?_
  refine b_iadd (pc := 763) hx hb rfl tI_2 (by omega) (by omega) dL_law_763 (fun x_3 ex_3 => ?_)
  refine va_sld (pc := 764) hx hb hX hbl hbA hS (n_in rfl (by omega) (by omega)) dL_law_764 ?_
  refine lv_topi (fun x_4 ex_4 => ?_)
  have rx_4 := n_rng x_4
  have tx_4 := congrArg Int32.toInt (e_ld (f := xs) (show x_4 = xs (x_3.toInt).toNat from ex_4) (show x_3.toInt = (i.toInt) + (2) by omega))
  refine cc_765 C0 hK hF u hfX hl x_2 x_4 hP hD hS (fun r_5 w_6 H locs hf_7 ho_8 he_9 he_10 he_11 he_12 he_13 hP hD hS => ?_)
  have rr_5 := n_rngL r_5
  refine lv_pop2_2 (pc := 768) hx hb dL_law_768 rfl ?_
  refine lv_aload_n (pc := 769) hx hb dL_law_769 rfl (lv_at hl 1 rfl) ?_
  refine lv_aload_n (pc := 770) hx hb dL_law_770 rfl (lv_at hl 3 rfl) ?_
  refine lv_iload_n (pc := 771) hx hb dL_law_771 rfl (lv_at hl 0 rfl) ?_
  refine lv_iconst (pc := 772) (v := 1) hx hb dL_law_772 (by decide) ?_
  refine b_iadd (pc := 773) hx hb rfl tI_1 (by omega) (by omega) dL_law_773 (fun x_14 ex_14 => ?_)
  refine va_sld (pc := 774) hx hb hX hbl hbA hS (n_in rfl (by omega) (by omega)) dL_law_774 ?_
  refine lv_topi (fun x_15 ex_15 => ?_)
  have rx_15 := n_rng x_15
  have tx_15 := congrArg Int32.toInt (e_ld (f := xs) (show x_15 = xs (x_14.toInt).toNat from ex_15) (show x_14.toInt = (i.toInt) + (1) by omega))
  refine lv_aload_n (pc := 775) hx hb dL_law_775 rfl (lv_at hl 3 rfl) ?_
  refine lv_iload_n (pc := 776) hx hb dL_law_776 rfl (lv_at hl 0 rfl) ?_
  refine lv_iconst (pc := 777) (v := 2) hx hb dL_law_777 (by decide) ?_
  refine b_iadd (pc := 778) hx hb rfl tI_2 (by omega) (by omega) dL_law_778 (fun x_16 ex_16 => ?_)
  refine va_sld (pc := 779) hx hb hX hbl hbA hS (n_in rfl (by omega) (by omega)) dL_law_779 ?_
  refine lv_topi (fun x_17 ex_17 => ?_)
  have rx_17 := n_rng x_17
  have tx_17 := congrArg Int32.toInt (e_ld (f := xs) (show x_17 = xs (x_16.toInt).toNat from ex_17) (show x_16.toInt = (i.toInt) + (2) by omega))
  have hP : va_P D gcl (wM cB cC cI cJ v ++ wX cB cC cI cJ w_6) H := va_P.swap (a := []) (b := wX cB cC cI cJ w_6) (c := wM cB cC cI cJ v) hP
  have hD : va_D (fun q : Nat => s.heap.size ≤ q) (wM cB cC cI cJ v ++ wX cB cC cI cJ w_6) := va_D.swap (a := []) (b := wX cB cC cI cJ w_6) (c := wM cB cC cI cJ v) hD
  refine cc_780 C0 hK hF v hfM hl x_15 x_17 hP hD hS (fun r_18 w_19 H locs hf_20 ho_21 he_22 he_23 he_24 he_25 he_26 hP hD hS => ?_)
  have rr_18 := n_rngL r_18
  refine lv_pop2_2 (pc := 783) hx hb dL_law_783 rfl ?_
  refine lv_goto (pc := 784) (tgt := 1519) hx hb dL_law_784 (by decide) ?_
  exact kk w_6 w_19 H locs ls hf_7 hf_20 ⟨te_cut heq.1 he_10 he_23 (by omega) (by omega), by omega, plE_keep heq.2.2 he_12 he_25 (by omega) (by omega) (by omega)⟩ ho_8 ho_21 (va_P.swap (a := []) (b := wM cB cC cI cJ w_19) (c := wX cB cC cI cJ w_6) hP) (va_D.swap (a := []) (b := wM cB cC cI cJ w_19) (c := wX cB cC cI cJ w_6) hD) hS hl
set_option maxHeartbeats 8000000 in
set_option maxRecDepth 100000 in
theorem lo_19 {p : Program} {l : Launch} {e : Env} {s : State} {m : MethodId} {below : List Frame} {meth : Method} {c : Code} {D : va_G} {cB cC cI cJ : ClassId} {b L : Nat} {xs : Nat → Int32} {adK adV : Nat → Nat} (C0 : lw_At p s m meth c b L xs) (hLN : L ≤ 3072) (hK : va_K D gcl [(cB, .byte), (cC, .char), (cI, .int), (cJ, .long)] s) (hF : sF adK adV (fun q : Nat => s.heap.size ≤ q) s s.heap) (o1 o2 : Nat) (i : Int32) (hi0 : 0 ≤ i.toInt) (hi1 : i.toInt + 6 ≤ (L : Int)) (u v : gEx) (hfX : fX u) (hfM : fM v) (heq : tEq (u.2.1 4) (u.2.2.2.1 7).toInt (v.2.1 0) (v.2.2.2.1 0).toInt ∧ ((u.2.2.2.1 5).toInt = (v.2.2.2.1 6).toInt ∧ (u.2.2.2.1 6).toInt = (v.2.2.2.1 7).toInt ∧ (u.2.2.2.1 15).toInt = (v.2.2.2.1 8).toInt ∧ (u.2.2.2.1 16).toInt = (v.2.2.2.1 9).toInt ∧ (u.2.2.2.1 17).toInt = (v.2.2.2.1 10).toInt ∧ (u.2.2.2.1 18).toInt = (v.2.2.2.1 11).toInt ∧ (u.2.2.2.1 19).toInt = (v.2.2.2.1 12).toInt ∧ (u.2.2.2.1 43).toInt = ((v.2.1 21) 0).toInt ∧ (u.2.2.2.1 24).toInt = (v.2.2.2.1 21).toInt ∧ (u.2.2.2.1 25).toInt = (v.2.2.2.1 22).toInt ∧ (u.2.2.2.1 26).toInt = (v.2.2.2.1 20).toInt) ∧ plE (u.2.1 31) (u.2.1 15) (u.2.2.2.1 20).toInt (v.2.1 17) (v.2.1 18) (v.2.2.2.1 13).toInt (u.2.2.2.1 19).toInt (u.2.2.2.1 16).toInt (u.2.2.2.1 17).toInt) (hu0 : u.1 0 = o1) (hv0 : v.1 0 = o2) (H : Heap) (locs : List Loc) (ls : Array Slot) (hP : va_P D gcl (wX cB cC cI cJ u ++ wM cB cC cI cJ v) H) (hD : va_D (fun q : Nat => s.heap.size ≤ q) (wX cB cC cI cJ u ++ wM cB cC cI cJ v)) (hS : va_S (fun q : Nat => s.heap.size ≤ q) s.heap H locs) (hl : lv_has ls 4 [(3, .int i), (2, .ref o2), (1, .ref o1), (0, .ref b)])
    (kk : ∀ (u v : gEx) (H : Heap) (locs : List Loc) (ls : Array Slot), fX u → fM v → tEq (u.2.1 4) (u.2.2.2.1 7).toInt (v.2.1 0) (v.2.2.2.1 0).toInt ∧ ((u.2.2.2.1 5).toInt = (v.2.2.2.1 6).toInt ∧ (u.2.2.2.1 6).toInt = (v.2.2.2.1 7).toInt ∧ (u.2.2.2.1 15).toInt = (v.2.2.2.1 8).toInt ∧ (u.2.2.2.1 16).toInt = (v.2.2.2.1 9).toInt ∧ (u.2.2.2.1 17).toInt = (v.2.2.2.1 10).toInt ∧ (u.2.2.2.1 18).toInt = (v.2.2.2.1 11).toInt ∧ (u.2.2.2.1 19).toInt = (v.2.2.2.1 12).toInt ∧ (u.2.2.2.1 43).toInt = ((v.2.1 21) 0).toInt ∧ (u.2.2.2.1 24).toInt = (v.2.2.2.1 21).toInt ∧ (u.2.2.2.1 25).toInt = (v.2.2.2.1 22).toInt ∧ (u.2.2.2.1 26).toInt = (v.2.2.2.1 20).toInt) ∧ plE (u.2.1 31) (u.2.1 15) (u.2.2.2.1 20).toInt (v.2.1 17) (v.2.1 18) (v.2.2.2.1 13).toInt (u.2.2.2.1 19).toInt (u.2.2.2.1 16).toInt (u.2.2.2.1 17).toInt → u.1 0 = o1 → v.1 0 = o2 → va_P D gcl (wX cB cC cI cJ u ++ wM cB cC cI cJ v) H → va_D (fun q : Nat => s.heap.size ≤ q) (wX cB cC cI cJ u ++ wM cB cC cI cJ v) → va_S (fun q : Nat => s.heap.size ≤ q) s.heap H locs → lv_has ls 4 [(3, .int i), (2, .ref o2), (1, .ref o1), (0, .ref b)] → W p l e room_1 s m #[Value.ref b] below meth c H locs 126 15724 (lw_Z below #[Value.ref b] s) (F0 m 1519 ls [])) : W p l e room_1 s m #[Value.ref b] below meth c H locs 126 15724 (lw_Z below #[Value.ref b] s) (F0 m 787 ls []) := by
  subst hu0
  subst hv0
  have hlen := heq.1.1
  have hreg := heq.2.1
  obtain ⟨hx, hb, hr, hml, hown, hts0, hX, hbl, hlocks, hgv⟩ := id C0
  have hts := g_tbl hts0
  have hbA : ¬ (fun q : Nat => s.heap.size ≤ q) b := Nat.not_le.mpr hbl
  refine lv_aload_n (pc := 787) hx hb dL_law_787 rfl (lv_at hl 2 rfl) ?_
  refine lv_aload_n (pc := 788) hx hb dL_law_788 rfl (lv_at hl 3 rfl) ?_
  refine lv_iload_n (pc := 789) hx hb dL_law_789 rfl (lv_at hl 0 rfl) ?_
  refine lv_iconst (pc := 790) (v := 1) hx hb dL_law_790 (by decide) ?_
  refine b_iadd (pc := 791) hx hb rfl tI_1 (by omega) (by omega) dL_law_791 (fun x_1 ex_1 => ?_)
  refine va_sld (pc := 792) hx hb hX hbl hbA hS (n_in rfl (by omega) (by omega)) dL_law_792 ?_
  refine lv_topi (fun x_2 ex_2 => ?_)
  have rx_2 := n_rng x_2
  have tx_2 := congrArg Int32.toInt (e_ld (f := xs) (show x_2 = xs (x_1.toInt).toNat from ex_2) (show x_1.toInt = (i.toInt) + (1) by omega))
  refine lv_aload_n (pc := 793) hx hb dL_law_793 rfl (lv_at hl 3 rfl) ?_
  refine lv_iload_n (pc := 794) hx hb dL_law_794 rfl (lv_at hl 0 rfl) ?_
  refine lv_iconst (pc := 795) (v := 2) hx hb dL_law_795 (by decide) ?_
  refine b_iadd (pc := 796) hx hb rfl tI_2 (by omega) (by omega) dL_law_796 (fun x_3 ex_3 => ?_)
  refine va_sld (pc := 797) hx hb hX hbl hbA hS (n_in rfl (by omega) (by omega)) dL_law_797 ?_
  refine lv_topi (fun x_4 ex_4 => ?_)
  have rx_4 := n_rng x_4
  have tx_4 := congrArg Int32.toInt (e_ld (f := xs) (show x_4 = xs (x_3.toInt).toNat from ex_4) (show x_3.toInt = (i.toInt) + (2) by omega))
  refine cc_798 C0 hK hF u hfX hl x_2 x_4 hP hD hS (fun r_5 w_6 H locs hf_7 ho_8 he_9 he_10 he_11 he_12 he_13 hP hD hS => ?_)
  have rr_5 := n_rng r_5
  refine lv_pop (pc := 801) hx hb dL_law_801 rfl ?_
  refine lv_aload_n (pc := 802) hx hb dL_law_802 rfl (lv_at hl 1 rfl) ?_
  refine lv_aload_n (pc := 803) hx hb dL_law_803 rfl (lv_at hl 3 rfl) ?_
  refine lv_iload_n (pc := 804) hx hb dL_law_804 rfl (lv_at hl 0 rfl) ?_
  refine lv_iconst (pc := 805) (v := 1) hx hb dL_law_805 (by decide) ?_
  refine b_iadd (pc := 806) hx hb rfl tI_1 (by omega) (by omega) dL_law_806 (fun x_14 ex_14 => ?_)
  refine va_sld (pc := 807) hx hb hX hbl hbA hS (n_in rfl (by omega) (by omega)) dL_law_807 ?_
  refine lv_topi (fun x_15 ex_15 => ?_)
  have rx_15 := n_rng x_15
  have tx_15 := congrArg Int32.toInt (e_ld (f := xs) (show x_15 = xs (x_14.toInt).toNat from ex_15) (show x_14.toInt = (i.toInt) + (1) by omega))
  refine lv_aload_n (pc := 808) hx hb dL_law_808 rfl (lv_at hl 3 rfl) ?_
  refine lv_iload_n (pc := 809) hx hb dL_law_809 rfl (lv_at hl 0 rfl) ?_
  refine lv_iconst (pc := 810) (v := 2) hx hb dL_law_810 (by decide) ?_
  refine b_iadd (pc := 811) hx hb rfl tI_2 (by omega) (by omega) dL_law_811 (fun x_16 ex_16 => ?_)
  refine va_sld (pc := 812) hx hb hX hbl hbA hS (n_in rfl (by omega) (by omega)) dL_law_812 ?_
  refine lv_topi (fun x_17 ex_17 => ?_)
  have rx_17 := n_rng x_17
  have tx_17 := congrArg Int32.toInt (e_ld (f := xs) (show x_17 = xs (x_16.toInt).toNat from ex_17) (show x_16.toInt = (i.toInt) + (2) by omega))
  have hP : va_P D gcl (wM cB cC cI cJ v ++ wX cB cC cI cJ w_6) H := va_P.swap (a := []) (b := wX cB cC cI cJ w_6) (c := wM cB cC cI cJ v) hP
  have hD : va_D (fun q : Nat => s.heap.size ≤ q) (wM cB cC cI cJ v ++ wX cB cC cI cJ w_6) := va_D.swap (a := []) (b := wX cB cC cI cJ w_6) (c := wM cB cC cI cJ v) hD
  refine cc_813 C0 hK hF v hfM hl x_15 x_17 hP hD hS (fun r_18 w_19 H locs hf_20 ho_21 he_22 he_23 he_24 he_25 he_26 hP hD hS => ?_)
  have rr_18 := n_rng r_18
  refine lv_pop (pc := 816) hx hb dL_law_816 rfl ?_
  refine lv_goto (pc := 817) (tgt := 1519) hx hb dL_law_817 (by decide) ?_
  exact kk w_6 w_19 H locs ls hf_7 hf_20 ⟨te_cut heq.1 he_10 he_23 (by omega) (by omega), by omega, plE_keep heq.2.2 he_12 he_25 (by omega) (by omega) (by omega)⟩ ho_8 ho_21 (va_P.swap (a := []) (b := wM cB cC cI cJ w_19) (c := wX cB cC cI cJ w_6) hP) (va_D.swap (a := []) (b := wM cB cC cI cJ w_19) (c := wX cB cC cI cJ w_6) hD) hS hl
set_option maxHeartbeats 8000000 in
set_option maxRecDepth 100000 in
theorem lo_20 {p : Program} {l : Launch} {e : Env} {s : State} {m : MethodId} {below : List Frame} {meth : Method} {c : Code} {D : va_G} {cB cC cI cJ : ClassId} {b L : Nat} {xs : Nat → Int32} {adK adV : Nat → Nat} (C0 : lw_At p s m meth c b L xs) (hLN : L ≤ 3072) (hK : va_K D gcl [(cB, .byte), (cC, .char), (cI, .int), (cJ, .long)] s) (hF : sF adK adV (fun q : Nat => s.heap.size ≤ q) s s.heap) (o1 o2 : Nat) (i : Int32) (hi0 : 0 ≤ i.toInt) (hi1 : i.toInt + 6 ≤ (L : Int)) (u v : gEx) (hfX : fX u) (hfM : fM v) (heq : tEq (u.2.1 4) (u.2.2.2.1 7).toInt (v.2.1 0) (v.2.2.2.1 0).toInt ∧ ((u.2.2.2.1 5).toInt = (v.2.2.2.1 6).toInt ∧ (u.2.2.2.1 6).toInt = (v.2.2.2.1 7).toInt ∧ (u.2.2.2.1 15).toInt = (v.2.2.2.1 8).toInt ∧ (u.2.2.2.1 16).toInt = (v.2.2.2.1 9).toInt ∧ (u.2.2.2.1 17).toInt = (v.2.2.2.1 10).toInt ∧ (u.2.2.2.1 18).toInt = (v.2.2.2.1 11).toInt ∧ (u.2.2.2.1 19).toInt = (v.2.2.2.1 12).toInt ∧ (u.2.2.2.1 43).toInt = ((v.2.1 21) 0).toInt ∧ (u.2.2.2.1 24).toInt = (v.2.2.2.1 21).toInt ∧ (u.2.2.2.1 25).toInt = (v.2.2.2.1 22).toInt ∧ (u.2.2.2.1 26).toInt = (v.2.2.2.1 20).toInt) ∧ plE (u.2.1 31) (u.2.1 15) (u.2.2.2.1 20).toInt (v.2.1 17) (v.2.1 18) (v.2.2.2.1 13).toInt (u.2.2.2.1 19).toInt (u.2.2.2.1 16).toInt (u.2.2.2.1 17).toInt) (hu0 : u.1 0 = o1) (hv0 : v.1 0 = o2) (H : Heap) (locs : List Loc) (ls : Array Slot) (hP : va_P D gcl (wX cB cC cI cJ u ++ wM cB cC cI cJ v) H) (hD : va_D (fun q : Nat => s.heap.size ≤ q) (wX cB cC cI cJ u ++ wM cB cC cI cJ v)) (hS : va_S (fun q : Nat => s.heap.size ≤ q) s.heap H locs) (hl : lv_has ls 4 [(3, .int i), (2, .ref o2), (1, .ref o1), (0, .ref b)])
    (kk : ∀ (u v : gEx) (H : Heap) (locs : List Loc) (ls : Array Slot), fX u → fM v → tEq (u.2.1 4) (u.2.2.2.1 7).toInt (v.2.1 0) (v.2.2.2.1 0).toInt ∧ ((u.2.2.2.1 5).toInt = (v.2.2.2.1 6).toInt ∧ (u.2.2.2.1 6).toInt = (v.2.2.2.1 7).toInt ∧ (u.2.2.2.1 15).toInt = (v.2.2.2.1 8).toInt ∧ (u.2.2.2.1 16).toInt = (v.2.2.2.1 9).toInt ∧ (u.2.2.2.1 17).toInt = (v.2.2.2.1 10).toInt ∧ (u.2.2.2.1 18).toInt = (v.2.2.2.1 11).toInt ∧ (u.2.2.2.1 19).toInt = (v.2.2.2.1 12).toInt ∧ (u.2.2.2.1 43).toInt = ((v.2.1 21) 0).toInt ∧ (u.2.2.2.1 24).toInt = (v.2.2.2.1 21).toInt ∧ (u.2.2.2.1 25).toInt = (v.2.2.2.1 22).toInt ∧ (u.2.2.2.1 26).toInt = (v.2.2.2.1 20).toInt) ∧ plE (u.2.1 31) (u.2.1 15) (u.2.2.2.1 20).toInt (v.2.1 17) (v.2.1 18) (v.2.2.2.1 13).toInt (u.2.2.2.1 19).toInt (u.2.2.2.1 16).toInt (u.2.2.2.1 17).toInt → u.1 0 = o1 → v.1 0 = o2 → va_P D gcl (wX cB cC cI cJ u ++ wM cB cC cI cJ v) H → va_D (fun q : Nat => s.heap.size ≤ q) (wX cB cC cI cJ u ++ wM cB cC cI cJ v) → va_S (fun q : Nat => s.heap.size ≤ q) s.heap H locs → lv_has ls 4 [(3, .int i), (2, .ref o2), (1, .ref o1), (0, .ref b)] → W p l e room_1 s m #[Value.ref b] below meth c H locs 126 15724 (lw_Z below #[Value.ref b] s) (F0 m 1519 ls [])) : W p l e room_1 s m #[Value.ref b] below meth c H locs 126 15724 (lw_Z below #[Value.ref b] s) (F0 m 820 ls []) := by
  subst hu0
  subst hv0
  have hlen := heq.1.1
  have hreg := heq.2.1
  obtain ⟨hx, hb, hr, hml, hown, hts0, hX, hbl, hlocks, hgv⟩ := id C0
  have hts := g_tbl hts0
  have hbA : ¬ (fun q : Nat => s.heap.size ≤ q) b := Nat.not_le.mpr hbl
  refine lv_aload_n (pc := 820) hx hb dL_law_820 rfl (lv_at hl 2 rfl) ?_
  refine lv_aload_n (pc := 821) hx hb dL_law_821 rfl (lv_at hl 3 rfl) ?_
  refine lv_iload_n (pc := 822) hx hb dL_law_822 rfl (lv_at hl 0 rfl) ?_
  refine lv_iconst (pc := 823) (v := 1) hx hb dL_law_823 (by decide) ?_
  refine b_iadd (pc := 824) hx hb rfl tI_1 (by omega) (by omega) dL_law_824 (fun x_1 ex_1 => ?_)
  refine va_sld (pc := 825) hx hb hX hbl hbA hS (n_in rfl (by omega) (by omega)) dL_law_825 ?_
  refine lv_topi (fun x_2 ex_2 => ?_)
  have rx_2 := n_rng x_2
  have tx_2 := congrArg Int32.toInt (e_ld (f := xs) (show x_2 = xs (x_1.toInt).toNat from ex_2) (show x_1.toInt = (i.toInt) + (1) by omega))
  refine cc_826 C0 hK hF u hfX hl x_2 hP hD hS (fun r_3 w_4 H locs hf_5 ho_6 he_7 he_8 he_9 he_10 he_11 hP hD hS => ?_)
  have rr_3 := n_rngL r_3
  refine lv_pop2_2 (pc := 829) hx hb dL_law_829 rfl ?_
  refine lv_aload_n (pc := 830) hx hb dL_law_830 rfl (lv_at hl 1 rfl) ?_
  refine lv_aload_n (pc := 831) hx hb dL_law_831 rfl (lv_at hl 3 rfl) ?_
  refine lv_iload_n (pc := 832) hx hb dL_law_832 rfl (lv_at hl 0 rfl) ?_
  refine lv_iconst (pc := 833) (v := 1) hx hb dL_law_833 (by decide) ?_
  refine b_iadd (pc := 834) hx hb rfl tI_1 (by omega) (by omega) dL_law_834 (fun x_12 ex_12 => ?_)
  refine va_sld (pc := 835) hx hb hX hbl hbA hS (n_in rfl (by omega) (by omega)) dL_law_835 ?_
  refine lv_topi (fun x_13 ex_13 => ?_)
  have rx_13 := n_rng x_13
  have tx_13 := congrArg Int32.toInt (e_ld (f := xs) (show x_13 = xs (x_12.toInt).toNat from ex_13) (show x_12.toInt = (i.toInt) + (1) by omega))
  have hP : va_P D gcl (wM cB cC cI cJ v ++ wX cB cC cI cJ w_4) H := va_P.swap (a := []) (b := wX cB cC cI cJ w_4) (c := wM cB cC cI cJ v) hP
  have hD : va_D (fun q : Nat => s.heap.size ≤ q) (wM cB cC cI cJ v ++ wX cB cC cI cJ w_4) := va_D.swap (a := []) (b := wX cB cC cI cJ w_4) (c := wM cB cC cI cJ v) hD
  refine cc_836 C0 hK hF v hfM hl x_13 hP hD hS (fun r_14 w_15 H locs hf_16 ho_17 he_18 he_19 he_20 he_21 he_22 hP hD hS => ?_)
  have rr_14 := n_rngL r_14
  refine lv_pop2_2 (pc := 839) hx hb dL_law_839 rfl ?_
  refine lv_goto (pc := 840) (tgt := 1519) hx hb dL_law_840 (by decide) ?_
  exact kk w_4 w_15 H locs ls hf_5 hf_16 ⟨te_cut heq.1 he_8 he_19 (by omega) (by omega), by omega, plE_keep heq.2.2 he_10 he_21 (by omega) (by omega) (by omega)⟩ ho_6 ho_17 (va_P.swap (a := []) (b := wM cB cC cI cJ w_15) (c := wX cB cC cI cJ w_4) hP) (va_D.swap (a := []) (b := wM cB cC cI cJ w_15) (c := wX cB cC cI cJ w_4) hD) hS hl
set_option maxHeartbeats 8000000 in
set_option maxRecDepth 100000 in
theorem lo_21 {p : Program} {l : Launch} {e : Env} {s : State} {m : MethodId} {below : List Frame} {meth : Method} {c : Code} {D : va_G} {cB cC cI cJ : ClassId} {b L : Nat} {xs : Nat → Int32} {adK adV : Nat → Nat} (C0 : lw_At p s m meth c b L xs) (hLN : L ≤ 3072) (hK : va_K D gcl [(cB, .byte), (cC, .char), (cI, .int), (cJ, .long)] s) (hF : sF adK adV (fun q : Nat => s.heap.size ≤ q) s s.heap) (o1 o2 : Nat) (i : Int32) (hi0 : 0 ≤ i.toInt) (hi1 : i.toInt + 6 ≤ (L : Int)) (u v : gEx) (hfX : fX u) (hfM : fM v) (heq : tEq (u.2.1 4) (u.2.2.2.1 7).toInt (v.2.1 0) (v.2.2.2.1 0).toInt ∧ ((u.2.2.2.1 5).toInt = (v.2.2.2.1 6).toInt ∧ (u.2.2.2.1 6).toInt = (v.2.2.2.1 7).toInt ∧ (u.2.2.2.1 15).toInt = (v.2.2.2.1 8).toInt ∧ (u.2.2.2.1 16).toInt = (v.2.2.2.1 9).toInt ∧ (u.2.2.2.1 17).toInt = (v.2.2.2.1 10).toInt ∧ (u.2.2.2.1 18).toInt = (v.2.2.2.1 11).toInt ∧ (u.2.2.2.1 19).toInt = (v.2.2.2.1 12).toInt ∧ (u.2.2.2.1 43).toInt = ((v.2.1 21) 0).toInt ∧ (u.2.2.2.1 24).toInt = (v.2.2.2.1 21).toInt ∧ (u.2.2.2.1 25).toInt = (v.2.2.2.1 22).toInt ∧ (u.2.2.2.1 26).toInt = (v.2.2.2.1 20).toInt) ∧ plE (u.2.1 31) (u.2.1 15) (u.2.2.2.1 20).toInt (v.2.1 17) (v.2.1 18) (v.2.2.2.1 13).toInt (u.2.2.2.1 19).toInt (u.2.2.2.1 16).toInt (u.2.2.2.1 17).toInt) (hu0 : u.1 0 = o1) (hv0 : v.1 0 = o2) (H : Heap) (locs : List Loc) (ls : Array Slot) (hP : va_P D gcl (wX cB cC cI cJ u ++ wM cB cC cI cJ v) H) (hD : va_D (fun q : Nat => s.heap.size ≤ q) (wX cB cC cI cJ u ++ wM cB cC cI cJ v)) (hS : va_S (fun q : Nat => s.heap.size ≤ q) s.heap H locs) (hl : lv_has ls 4 [(3, .int i), (2, .ref o2), (1, .ref o1), (0, .ref b)])
    (kk : ∀ (u v : gEx) (H : Heap) (locs : List Loc) (ls : Array Slot), fX u → fM v → tEq (u.2.1 4) (u.2.2.2.1 7).toInt (v.2.1 0) (v.2.2.2.1 0).toInt ∧ ((u.2.2.2.1 5).toInt = (v.2.2.2.1 6).toInt ∧ (u.2.2.2.1 6).toInt = (v.2.2.2.1 7).toInt ∧ (u.2.2.2.1 15).toInt = (v.2.2.2.1 8).toInt ∧ (u.2.2.2.1 16).toInt = (v.2.2.2.1 9).toInt ∧ (u.2.2.2.1 17).toInt = (v.2.2.2.1 10).toInt ∧ (u.2.2.2.1 18).toInt = (v.2.2.2.1 11).toInt ∧ (u.2.2.2.1 19).toInt = (v.2.2.2.1 12).toInt ∧ (u.2.2.2.1 43).toInt = ((v.2.1 21) 0).toInt ∧ (u.2.2.2.1 24).toInt = (v.2.2.2.1 21).toInt ∧ (u.2.2.2.1 25).toInt = (v.2.2.2.1 22).toInt ∧ (u.2.2.2.1 26).toInt = (v.2.2.2.1 20).toInt) ∧ plE (u.2.1 31) (u.2.1 15) (u.2.2.2.1 20).toInt (v.2.1 17) (v.2.1 18) (v.2.2.2.1 13).toInt (u.2.2.2.1 19).toInt (u.2.2.2.1 16).toInt (u.2.2.2.1 17).toInt → u.1 0 = o1 → v.1 0 = o2 → va_P D gcl (wX cB cC cI cJ u ++ wM cB cC cI cJ v) H → va_D (fun q : Nat => s.heap.size ≤ q) (wX cB cC cI cJ u ++ wM cB cC cI cJ v) → va_S (fun q : Nat => s.heap.size ≤ q) s.heap H locs → lv_has ls 4 [(3, .int i), (2, .ref o2), (1, .ref o1), (0, .ref b)] → W p l e room_1 s m #[Value.ref b] below meth c H locs 126 15724 (lw_Z below #[Value.ref b] s) (F0 m 1519 ls [])) : W p l e room_1 s m #[Value.ref b] below meth c H locs 126 15724 (lw_Z below #[Value.ref b] s) (F0 m 843 ls []) := by
  subst hu0
  subst hv0
  have hlen := heq.1.1
  have hreg := heq.2.1
  obtain ⟨hx, hb, hr, hml, hown, hts0, hX, hbl, hlocks, hgv⟩ := id C0
  have hts := g_tbl hts0
  have hbA : ¬ (fun q : Nat => s.heap.size ≤ q) b := Nat.not_le.mpr hbl
  refine lv_aload_n (pc := 843) hx hb dL_law_843 rfl (lv_at hl 2 rfl) ?_
  refine lv_aload_n (pc := 844) hx hb dL_law_844 rfl (lv_at hl 3 rfl) ?_
  refine lv_iload_n (pc := 845) hx hb dL_law_845 rfl (lv_at hl 0 rfl) ?_
  refine lv_iconst (pc := 846) (v := 1) hx hb dL_law_846 (by decide) ?_
  refine b_iadd (pc := 847) hx hb rfl tI_1 (by omega) (by omega) dL_law_847 (fun x_1 ex_1 => ?_)
  refine va_sld (pc := 848) hx hb hX hbl hbA hS (n_in rfl (by omega) (by omega)) dL_law_848 ?_
  refine lv_topi (fun x_2 ex_2 => ?_)
  have rx_2 := n_rng x_2
  have tx_2 := congrArg Int32.toInt (e_ld (f := xs) (show x_2 = xs (x_1.toInt).toNat from ex_2) (show x_1.toInt = (i.toInt) + (1) by omega))
  refine cc_849 C0 hK hF u hfX hl x_2 hP hD hS (fun r_3 w_4 H locs hf_5 ho_6 he_7 he_8 he_9 he_10 he_11 hP hD hS => ?_)
  have rr_3 := n_rng r_3
  refine lv_pop (pc := 852) hx hb dL_law_852 rfl ?_
  refine lv_aload_n (pc := 853) hx hb dL_law_853 rfl (lv_at hl 1 rfl) ?_
  refine lv_aload_n (pc := 854) hx hb dL_law_854 rfl (lv_at hl 3 rfl) ?_
  refine lv_iload_n (pc := 855) hx hb dL_law_855 rfl (lv_at hl 0 rfl) ?_
  refine lv_iconst (pc := 856) (v := 1) hx hb dL_law_856 (by decide) ?_
  refine b_iadd (pc := 857) hx hb rfl tI_1 (by omega) (by omega) dL_law_857 (fun x_12 ex_12 => ?_)
  refine va_sld (pc := 858) hx hb hX hbl hbA hS (n_in rfl (by omega) (by omega)) dL_law_858 ?_
  refine lv_topi (fun x_13 ex_13 => ?_)
  have rx_13 := n_rng x_13
  have tx_13 := congrArg Int32.toInt (e_ld (f := xs) (show x_13 = xs (x_12.toInt).toNat from ex_13) (show x_12.toInt = (i.toInt) + (1) by omega))
  have hP : va_P D gcl (wM cB cC cI cJ v ++ wX cB cC cI cJ w_4) H := va_P.swap (a := []) (b := wX cB cC cI cJ w_4) (c := wM cB cC cI cJ v) hP
  have hD : va_D (fun q : Nat => s.heap.size ≤ q) (wM cB cC cI cJ v ++ wX cB cC cI cJ w_4) := va_D.swap (a := []) (b := wX cB cC cI cJ w_4) (c := wM cB cC cI cJ v) hD
  refine cc_859 C0 hK hF v hfM hl x_13 hP hD hS (fun r_14 w_15 H locs hf_16 ho_17 he_18 he_19 he_20 he_21 he_22 hP hD hS => ?_)
  have rr_14 := n_rng r_14
  have b9nXx16 := (pX_14 (u := w_4) hf_5)
  have b9nXx17 := (pX_15 (u := w_4) hf_5)
  have b9nMx9 := (pM_7 (u := w_15) hf_16)
  have b9nMx10 := (pM_8 (u := w_15) hf_16)
  have b9nMx21 := (pM_17 (u := w_15) hf_16)
  have b9nMx22 := (pM_18 (u := w_15) hf_16)
  have b9nMx20 := (pM_16 (u := w_15) hf_16)
  have b9nse := (pX_58 (u := w_4) hf_5)
  have b9nhr_a0_0 := (pM_24 (u := w_15) hf_16)
  have b9nhr_a0_1 := (pM_25 (u := w_15) hf_16)
  have b9nhr_a0_2 := (pM_26 (u := w_15) hf_16)
  have pk9 : plE (w_4.2.1 31) (w_4.2.1 15) (w_4.2.2.2.1 20).toInt (w_15.2.1 17) (w_15.2.1 18) (w_15.2.2.2.1 13).toInt (w_4.2.2.2.1 19).toInt (w_4.2.2.2.1 16).toInt (w_4.2.2.2.1 17).toInt := plE_keep heq.2.2 he_10 he_21 (by omega) (by omega) (by omega)
  have hl9 := ld_eq pk9 (pX_57 (u := w_4) hf_5) (pM_39 (u := w_15) hf_16) (by omega) (by omega) (by omega) (by omega) (by omega) he_11 he_22 (by omega) (by omega) (by omega) (by omega)
  refine lv_pop (pc := 862) hx hb dL_law_862 rfl ?_
  refine lv_goto (pc := 863) (tgt := 1519) hx hb dL_law_863 (by decide) ?_
  exact kk w_4 w_15 H locs ls hf_5 hf_16 ⟨te_cut heq.1 he_8 he_19 (by omega) (by omega), by omega, plE_keep heq.2.2 he_10 he_21 (by omega) (by omega) (by omega)⟩ ho_6 ho_17 (va_P.swap (a := []) (b := wM cB cC cI cJ w_15) (c := wX cB cC cI cJ w_4) hP) (va_D.swap (a := []) (b := wM cB cC cI cJ w_15) (c := wX cB cC cI cJ w_4) hD) hS hl
set_option maxHeartbeats 8000000 in
set_option maxRecDepth 100000 in
theorem lo_22 {p : Program} {l : Launch} {e : Env} {s : State} {m : MethodId} {below : List Frame} {meth : Method} {c : Code} {D : va_G} {cB cC cI cJ : ClassId} {b L : Nat} {xs : Nat → Int32} {adK adV : Nat → Nat} (C0 : lw_At p s m meth c b L xs) (hLN : L ≤ 3072) (hK : va_K D gcl [(cB, .byte), (cC, .char), (cI, .int), (cJ, .long)] s) (hF : sF adK adV (fun q : Nat => s.heap.size ≤ q) s s.heap) (o1 o2 : Nat) (i : Int32) (hi0 : 0 ≤ i.toInt) (hi1 : i.toInt + 6 ≤ (L : Int)) (u v : gEx) (hfX : fX u) (hfM : fM v) (heq : tEq (u.2.1 4) (u.2.2.2.1 7).toInt (v.2.1 0) (v.2.2.2.1 0).toInt ∧ ((u.2.2.2.1 5).toInt = (v.2.2.2.1 6).toInt ∧ (u.2.2.2.1 6).toInt = (v.2.2.2.1 7).toInt ∧ (u.2.2.2.1 15).toInt = (v.2.2.2.1 8).toInt ∧ (u.2.2.2.1 16).toInt = (v.2.2.2.1 9).toInt ∧ (u.2.2.2.1 17).toInt = (v.2.2.2.1 10).toInt ∧ (u.2.2.2.1 18).toInt = (v.2.2.2.1 11).toInt ∧ (u.2.2.2.1 19).toInt = (v.2.2.2.1 12).toInt ∧ (u.2.2.2.1 43).toInt = ((v.2.1 21) 0).toInt ∧ (u.2.2.2.1 24).toInt = (v.2.2.2.1 21).toInt ∧ (u.2.2.2.1 25).toInt = (v.2.2.2.1 22).toInt ∧ (u.2.2.2.1 26).toInt = (v.2.2.2.1 20).toInt) ∧ plE (u.2.1 31) (u.2.1 15) (u.2.2.2.1 20).toInt (v.2.1 17) (v.2.1 18) (v.2.2.2.1 13).toInt (u.2.2.2.1 19).toInt (u.2.2.2.1 16).toInt (u.2.2.2.1 17).toInt) (hu0 : u.1 0 = o1) (hv0 : v.1 0 = o2) (H : Heap) (locs : List Loc) (ls : Array Slot) (hP : va_P D gcl (wX cB cC cI cJ u ++ wM cB cC cI cJ v) H) (hD : va_D (fun q : Nat => s.heap.size ≤ q) (wX cB cC cI cJ u ++ wM cB cC cI cJ v)) (hS : va_S (fun q : Nat => s.heap.size ≤ q) s.heap H locs) (hl : lv_has ls 4 [(3, .int i), (2, .ref o2), (1, .ref o1), (0, .ref b)])
    (kk : ∀ (u v : gEx) (H : Heap) (locs : List Loc) (ls : Array Slot), fX u → fM v → tEq (u.2.1 4) (u.2.2.2.1 7).toInt (v.2.1 0) (v.2.2.2.1 0).toInt ∧ ((u.2.2.2.1 5).toInt = (v.2.2.2.1 6).toInt ∧ (u.2.2.2.1 6).toInt = (v.2.2.2.1 7).toInt ∧ (u.2.2.2.1 15).toInt = (v.2.2.2.1 8).toInt ∧ (u.2.2.2.1 16).toInt = (v.2.2.2.1 9).toInt ∧ (u.2.2.2.1 17).toInt = (v.2.2.2.1 10).toInt ∧ (u.2.2.2.1 18).toInt = (v.2.2.2.1 11).toInt ∧ (u.2.2.2.1 19).toInt = (v.2.2.2.1 12).toInt ∧ (u.2.2.2.1 43).toInt = ((v.2.1 21) 0).toInt ∧ (u.2.2.2.1 24).toInt = (v.2.2.2.1 21).toInt ∧ (u.2.2.2.1 25).toInt = (v.2.2.2.1 22).toInt ∧ (u.2.2.2.1 26).toInt = (v.2.2.2.1 20).toInt) ∧ plE (u.2.1 31) (u.2.1 15) (u.2.2.2.1 20).toInt (v.2.1 17) (v.2.1 18) (v.2.2.2.1 13).toInt (u.2.2.2.1 19).toInt (u.2.2.2.1 16).toInt (u.2.2.2.1 17).toInt → u.1 0 = o1 → v.1 0 = o2 → va_P D gcl (wX cB cC cI cJ u ++ wM cB cC cI cJ v) H → va_D (fun q : Nat => s.heap.size ≤ q) (wX cB cC cI cJ u ++ wM cB cC cI cJ v) → va_S (fun q : Nat => s.heap.size ≤ q) s.heap H locs → lv_has ls 4 [(3, .int i), (2, .ref o2), (1, .ref o1), (0, .ref b)] → W p l e room_1 s m #[Value.ref b] below meth c H locs 126 15724 (lw_Z below #[Value.ref b] s) (F0 m 1519 ls [])) : W p l e room_1 s m #[Value.ref b] below meth c H locs 126 15724 (lw_Z below #[Value.ref b] s) (F0 m 866 ls []) := by
  subst hu0
  subst hv0
  have hlen := heq.1.1
  have hreg := heq.2.1
  obtain ⟨hx, hb, hr, hml, hown, hts0, hX, hbl, hlocks, hgv⟩ := id C0
  have hts := g_tbl hts0
  have hbA : ¬ (fun q : Nat => s.heap.size ≤ q) b := Nat.not_le.mpr hbl
  refine lv_aload_n (pc := 866) hx hb dL_law_866 rfl (lv_at hl 2 rfl) ?_
  refine cc_867 C0 hK hF u hfX hl  hP hD hS (fun r_1 w_2 H locs hf_3 ho_4 he_5 he_6 he_7 he_8 he_9 hP hD hS => ?_)
  have rr_1 := n_rng r_1
  refine lv_pop (pc := 870) hx hb dL_law_870 rfl ?_
  refine lv_aload_n (pc := 871) hx hb dL_law_871 rfl (lv_at hl 1 rfl) ?_
  have hP : va_P D gcl (wM cB cC cI cJ v ++ wX cB cC cI cJ w_2) H := va_P.swap (a := []) (b := wX cB cC cI cJ w_2) (c := wM cB cC cI cJ v) hP
  have hD : va_D (fun q : Nat => s.heap.size ≤ q) (wM cB cC cI cJ v ++ wX cB cC cI cJ w_2) := va_D.swap (a := []) (b := wX cB cC cI cJ w_2) (c := wM cB cC cI cJ v) hD
  refine cc_872 C0 hK hF v hfM hl  hP hD hS (fun r_10 w_11 H locs hf_12 ho_13 he_14 he_15 he_16 he_17 he_18 hP hD hS => ?_)
  have rr_10 := n_rng r_10
  have hl9 := un_eq he_9 he_18 (by omega) (by omega) (by omega)
  refine lv_pop (pc := 875) hx hb dL_law_875 rfl ?_
  refine lv_goto (pc := 876) (tgt := 1519) hx hb dL_law_876 (by decide) ?_
  exact kk w_2 w_11 H locs ls hf_3 hf_12 ⟨te_cut heq.1 he_6 he_15 (by omega) (by omega), by omega, plE_keep heq.2.2 he_8 he_17 (by omega) (by omega) (by omega)⟩ ho_4 ho_13 (va_P.swap (a := []) (b := wM cB cC cI cJ w_11) (c := wX cB cC cI cJ w_2) hP) (va_D.swap (a := []) (b := wM cB cC cI cJ w_11) (c := wX cB cC cI cJ w_2) hD) hS hl
set_option maxHeartbeats 8000000 in
set_option maxRecDepth 100000 in
theorem lo_23 {p : Program} {l : Launch} {e : Env} {s : State} {m : MethodId} {below : List Frame} {meth : Method} {c : Code} {D : va_G} {cB cC cI cJ : ClassId} {b L : Nat} {xs : Nat → Int32} {adK adV : Nat → Nat} (C0 : lw_At p s m meth c b L xs) (hLN : L ≤ 3072) (hK : va_K D gcl [(cB, .byte), (cC, .char), (cI, .int), (cJ, .long)] s) (hF : sF adK adV (fun q : Nat => s.heap.size ≤ q) s s.heap) (o1 o2 : Nat) (i : Int32) (hi0 : 0 ≤ i.toInt) (hi1 : i.toInt + 6 ≤ (L : Int)) (u v : gEx) (hfX : fX u) (hfM : fM v) (heq : tEq (u.2.1 4) (u.2.2.2.1 7).toInt (v.2.1 0) (v.2.2.2.1 0).toInt ∧ ((u.2.2.2.1 5).toInt = (v.2.2.2.1 6).toInt ∧ (u.2.2.2.1 6).toInt = (v.2.2.2.1 7).toInt ∧ (u.2.2.2.1 15).toInt = (v.2.2.2.1 8).toInt ∧ (u.2.2.2.1 16).toInt = (v.2.2.2.1 9).toInt ∧ (u.2.2.2.1 17).toInt = (v.2.2.2.1 10).toInt ∧ (u.2.2.2.1 18).toInt = (v.2.2.2.1 11).toInt ∧ (u.2.2.2.1 19).toInt = (v.2.2.2.1 12).toInt ∧ (u.2.2.2.1 43).toInt = ((v.2.1 21) 0).toInt ∧ (u.2.2.2.1 24).toInt = (v.2.2.2.1 21).toInt ∧ (u.2.2.2.1 25).toInt = (v.2.2.2.1 22).toInt ∧ (u.2.2.2.1 26).toInt = (v.2.2.2.1 20).toInt) ∧ plE (u.2.1 31) (u.2.1 15) (u.2.2.2.1 20).toInt (v.2.1 17) (v.2.1 18) (v.2.2.2.1 13).toInt (u.2.2.2.1 19).toInt (u.2.2.2.1 16).toInt (u.2.2.2.1 17).toInt) (hu0 : u.1 0 = o1) (hv0 : v.1 0 = o2) (H : Heap) (locs : List Loc) (ls : Array Slot) (hP : va_P D gcl (wX cB cC cI cJ u ++ wM cB cC cI cJ v) H) (hD : va_D (fun q : Nat => s.heap.size ≤ q) (wX cB cC cI cJ u ++ wM cB cC cI cJ v)) (hS : va_S (fun q : Nat => s.heap.size ≤ q) s.heap H locs) (hl : lv_has ls 4 [(3, .int i), (2, .ref o2), (1, .ref o1), (0, .ref b)])
    (kk : ∀ (u v : gEx) (H : Heap) (locs : List Loc) (ls : Array Slot), fX u → fM v → tEq (u.2.1 4) (u.2.2.2.1 7).toInt (v.2.1 0) (v.2.2.2.1 0).toInt ∧ ((u.2.2.2.1 5).toInt = (v.2.2.2.1 6).toInt ∧ (u.2.2.2.1 6).toInt = (v.2.2.2.1 7).toInt ∧ (u.2.2.2.1 15).toInt = (v.2.2.2.1 8).toInt ∧ (u.2.2.2.1 16).toInt = (v.2.2.2.1 9).toInt ∧ (u.2.2.2.1 17).toInt = (v.2.2.2.1 10).toInt ∧ (u.2.2.2.1 18).toInt = (v.2.2.2.1 11).toInt ∧ (u.2.2.2.1 19).toInt = (v.2.2.2.1 12).toInt ∧ (u.2.2.2.1 43).toInt = ((v.2.1 21) 0).toInt ∧ (u.2.2.2.1 24).toInt = (v.2.2.2.1 21).toInt ∧ (u.2.2.2.1 25).toInt = (v.2.2.2.1 22).toInt ∧ (u.2.2.2.1 26).toInt = (v.2.2.2.1 20).toInt) ∧ plE (u.2.1 31) (u.2.1 15) (u.2.2.2.1 20).toInt (v.2.1 17) (v.2.1 18) (v.2.2.2.1 13).toInt (u.2.2.2.1 19).toInt (u.2.2.2.1 16).toInt (u.2.2.2.1 17).toInt → u.1 0 = o1 → v.1 0 = o2 → va_P D gcl (wX cB cC cI cJ u ++ wM cB cC cI cJ v) H → va_D (fun q : Nat => s.heap.size ≤ q) (wX cB cC cI cJ u ++ wM cB cC cI cJ v) → va_S (fun q : Nat => s.heap.size ≤ q) s.heap H locs → lv_has ls 4 [(3, .int i), (2, .ref o2), (1, .ref o1), (0, .ref b)] → W p l e room_1 s m #[Value.ref b] below meth c H locs 126 15724 (lw_Z below #[Value.ref b] s) (F0 m 1519 ls [])) : W p l e room_1 s m #[Value.ref b] below meth c H locs 126 15724 (lw_Z below #[Value.ref b] s) (F0 m 879 ls []) := by
  subst hu0
  subst hv0
  have hlen := heq.1.1
  have hreg := heq.2.1
  obtain ⟨hx, hb, hr, hml, hown, hts0, hX, hbl, hlocks, hgv⟩ := id C0
  have hts := g_tbl hts0
  have hbA : ¬ (fun q : Nat => s.heap.size ≤ q) b := Nat.not_le.mpr hbl
  refine lv_aload_n (pc := 879) hx hb dL_law_879 rfl (lv_at hl 2 rfl) ?_
  refine cc_880 C0 hK hF u hfX hl  hP hD hS (fun r_1 w_2 H locs hf_3 ho_4 he_5 he_6 he_7 he_8 he_9 hP hD hS => ?_)
  have rr_1 := n_rng r_1
  refine lv_pop (pc := 883) hx hb dL_law_883 rfl ?_
  refine lv_aload_n (pc := 884) hx hb dL_law_884 rfl (lv_at hl 1 rfl) ?_
  have hP : va_P D gcl (wM cB cC cI cJ v ++ wX cB cC cI cJ w_2) H := va_P.swap (a := []) (b := wX cB cC cI cJ w_2) (c := wM cB cC cI cJ v) hP
  have hD : va_D (fun q : Nat => s.heap.size ≤ q) (wM cB cC cI cJ v ++ wX cB cC cI cJ w_2) := va_D.swap (a := []) (b := wX cB cC cI cJ w_2) (c := wM cB cC cI cJ v) hD
  refine cc_885 C0 hK hF v hfM hl  hP hD hS (fun r_10 w_11 H locs hf_12 ho_13 he_14 he_15 he_16 he_17 he_18 hP hD hS => ?_)
  have rr_10 := n_rng r_10
  have hl9 := re_eq he_9 he_18 (by omega) (by omega) (by omega)
  refine lv_pop (pc := 888) hx hb dL_law_888 rfl ?_
  refine lv_goto (pc := 889) (tgt := 1519) hx hb dL_law_889 (by decide) ?_
  exact kk w_2 w_11 H locs ls hf_3 hf_12 ⟨te_cut heq.1 he_6 he_15 (by omega) (by omega), by omega, plE_keep heq.2.2 he_8 he_17 (by omega) (by omega) (by omega)⟩ ho_4 ho_13 (va_P.swap (a := []) (b := wM cB cC cI cJ w_11) (c := wX cB cC cI cJ w_2) hP) (va_D.swap (a := []) (b := wM cB cC cI cJ w_11) (c := wX cB cC cI cJ w_2) hD) hS hl
set_option maxHeartbeats 8000000 in
set_option maxRecDepth 100000 in
theorem lo_24 {p : Program} {l : Launch} {e : Env} {s : State} {m : MethodId} {below : List Frame} {meth : Method} {c : Code} {D : va_G} {cB cC cI cJ : ClassId} {b L : Nat} {xs : Nat → Int32} {adK adV : Nat → Nat} (C0 : lw_At p s m meth c b L xs) (hLN : L ≤ 3072) (hK : va_K D gcl [(cB, .byte), (cC, .char), (cI, .int), (cJ, .long)] s) (hF : sF adK adV (fun q : Nat => s.heap.size ≤ q) s s.heap) (o1 o2 : Nat) (i : Int32) (hi0 : 0 ≤ i.toInt) (hi1 : i.toInt + 6 ≤ (L : Int)) (u v : gEx) (hfX : fX u) (hfM : fM v) (heq : tEq (u.2.1 4) (u.2.2.2.1 7).toInt (v.2.1 0) (v.2.2.2.1 0).toInt ∧ ((u.2.2.2.1 5).toInt = (v.2.2.2.1 6).toInt ∧ (u.2.2.2.1 6).toInt = (v.2.2.2.1 7).toInt ∧ (u.2.2.2.1 15).toInt = (v.2.2.2.1 8).toInt ∧ (u.2.2.2.1 16).toInt = (v.2.2.2.1 9).toInt ∧ (u.2.2.2.1 17).toInt = (v.2.2.2.1 10).toInt ∧ (u.2.2.2.1 18).toInt = (v.2.2.2.1 11).toInt ∧ (u.2.2.2.1 19).toInt = (v.2.2.2.1 12).toInt ∧ (u.2.2.2.1 43).toInt = ((v.2.1 21) 0).toInt ∧ (u.2.2.2.1 24).toInt = (v.2.2.2.1 21).toInt ∧ (u.2.2.2.1 25).toInt = (v.2.2.2.1 22).toInt ∧ (u.2.2.2.1 26).toInt = (v.2.2.2.1 20).toInt) ∧ plE (u.2.1 31) (u.2.1 15) (u.2.2.2.1 20).toInt (v.2.1 17) (v.2.1 18) (v.2.2.2.1 13).toInt (u.2.2.2.1 19).toInt (u.2.2.2.1 16).toInt (u.2.2.2.1 17).toInt) (hu0 : u.1 0 = o1) (hv0 : v.1 0 = o2) (H : Heap) (locs : List Loc) (ls : Array Slot) (hP : va_P D gcl (wX cB cC cI cJ u ++ wM cB cC cI cJ v) H) (hD : va_D (fun q : Nat => s.heap.size ≤ q) (wX cB cC cI cJ u ++ wM cB cC cI cJ v)) (hS : va_S (fun q : Nat => s.heap.size ≤ q) s.heap H locs) (hl : lv_has ls 4 [(3, .int i), (2, .ref o2), (1, .ref o1), (0, .ref b)])
    (kk : ∀ (u v : gEx) (H : Heap) (locs : List Loc) (ls : Array Slot), fX u → fM v → tEq (u.2.1 4) (u.2.2.2.1 7).toInt (v.2.1 0) (v.2.2.2.1 0).toInt ∧ ((u.2.2.2.1 5).toInt = (v.2.2.2.1 6).toInt ∧ (u.2.2.2.1 6).toInt = (v.2.2.2.1 7).toInt ∧ (u.2.2.2.1 15).toInt = (v.2.2.2.1 8).toInt ∧ (u.2.2.2.1 16).toInt = (v.2.2.2.1 9).toInt ∧ (u.2.2.2.1 17).toInt = (v.2.2.2.1 10).toInt ∧ (u.2.2.2.1 18).toInt = (v.2.2.2.1 11).toInt ∧ (u.2.2.2.1 19).toInt = (v.2.2.2.1 12).toInt ∧ (u.2.2.2.1 43).toInt = ((v.2.1 21) 0).toInt ∧ (u.2.2.2.1 24).toInt = (v.2.2.2.1 21).toInt ∧ (u.2.2.2.1 25).toInt = (v.2.2.2.1 22).toInt ∧ (u.2.2.2.1 26).toInt = (v.2.2.2.1 20).toInt) ∧ plE (u.2.1 31) (u.2.1 15) (u.2.2.2.1 20).toInt (v.2.1 17) (v.2.1 18) (v.2.2.2.1 13).toInt (u.2.2.2.1 19).toInt (u.2.2.2.1 16).toInt (u.2.2.2.1 17).toInt → u.1 0 = o1 → v.1 0 = o2 → va_P D gcl (wX cB cC cI cJ u ++ wM cB cC cI cJ v) H → va_D (fun q : Nat => s.heap.size ≤ q) (wX cB cC cI cJ u ++ wM cB cC cI cJ v) → va_S (fun q : Nat => s.heap.size ≤ q) s.heap H locs → lv_has ls 4 [(3, .int i), (2, .ref o2), (1, .ref o1), (0, .ref b)] → W p l e room_1 s m #[Value.ref b] below meth c H locs 126 15724 (lw_Z below #[Value.ref b] s) (F0 m 1519 ls [])) : W p l e room_1 s m #[Value.ref b] below meth c H locs 126 15724 (lw_Z below #[Value.ref b] s) (F0 m 892 ls []) := by
  subst hu0
  subst hv0
  have hlen := heq.1.1
  have hreg := heq.2.1
  obtain ⟨hx, hb, hr, hml, hown, hts0, hX, hbl, hlocks, hgv⟩ := id C0
  have hts := g_tbl hts0
  have hbA : ¬ (fun q : Nat => s.heap.size ≤ q) b := Nat.not_le.mpr hbl
  refine lv_aload_n (pc := 892) hx hb dL_law_892 rfl (lv_at hl 2 rfl) ?_
  refine lv_aload_n (pc := 893) hx hb dL_law_893 rfl (lv_at hl 3 rfl) ?_
  refine lv_iload_n (pc := 894) hx hb dL_law_894 rfl (lv_at hl 0 rfl) ?_
  refine lv_iconst (pc := 895) (v := 1) hx hb dL_law_895 (by decide) ?_
  refine b_iadd (pc := 896) hx hb rfl tI_1 (by omega) (by omega) dL_law_896 (fun x_1 ex_1 => ?_)
  refine va_sld (pc := 897) hx hb hX hbl hbA hS (n_in rfl (by omega) (by omega)) dL_law_897 ?_
  refine lv_topi (fun x_2 ex_2 => ?_)
  have rx_2 := n_rng x_2
  have tx_2 := congrArg Int32.toInt (e_ld (f := xs) (show x_2 = xs (x_1.toInt).toNat from ex_2) (show x_1.toInt = (i.toInt) + (1) by omega))
  refine lv_aload_n (pc := 898) hx hb dL_law_898 rfl (lv_at hl 3 rfl) ?_
  refine lv_iload_n (pc := 899) hx hb dL_law_899 rfl (lv_at hl 0 rfl) ?_
  refine lv_iconst (pc := 900) (v := 2) hx hb dL_law_900 (by decide) ?_
  refine b_iadd (pc := 901) hx hb rfl tI_2 (by omega) (by omega) dL_law_901 (fun x_3 ex_3 => ?_)
  refine va_sld (pc := 902) hx hb hX hbl hbA hS (n_in rfl (by omega) (by omega)) dL_law_902 ?_
  refine lv_topi (fun x_4 ex_4 => ?_)
  have rx_4 := n_rng x_4
  have tx_4 := congrArg Int32.toInt (e_ld (f := xs) (show x_4 = xs (x_3.toInt).toNat from ex_4) (show x_3.toInt = (i.toInt) + (2) by omega))
  refine cc_903 C0 hK hF u hfX hl x_2 x_4 hP hD hS (fun r_5 w_6 H locs hf_7 ho_8 he_9 he_10 he_11 he_12 he_13 hP hD hS => ?_)
  have rr_5 := n_rngL r_5
  refine lv_pop2_2 (pc := 906) hx hb dL_law_906 rfl ?_
  refine lv_aload_n (pc := 907) hx hb dL_law_907 rfl (lv_at hl 1 rfl) ?_
  refine lv_aload_n (pc := 908) hx hb dL_law_908 rfl (lv_at hl 3 rfl) ?_
  refine lv_iload_n (pc := 909) hx hb dL_law_909 rfl (lv_at hl 0 rfl) ?_
  refine lv_iconst (pc := 910) (v := 1) hx hb dL_law_910 (by decide) ?_
  refine b_iadd (pc := 911) hx hb rfl tI_1 (by omega) (by omega) dL_law_911 (fun x_14 ex_14 => ?_)
  refine va_sld (pc := 912) hx hb hX hbl hbA hS (n_in rfl (by omega) (by omega)) dL_law_912 ?_
  refine lv_topi (fun x_15 ex_15 => ?_)
  have rx_15 := n_rng x_15
  have tx_15 := congrArg Int32.toInt (e_ld (f := xs) (show x_15 = xs (x_14.toInt).toNat from ex_15) (show x_14.toInt = (i.toInt) + (1) by omega))
  refine lv_aload_n (pc := 913) hx hb dL_law_913 rfl (lv_at hl 3 rfl) ?_
  refine lv_iload_n (pc := 914) hx hb dL_law_914 rfl (lv_at hl 0 rfl) ?_
  refine lv_iconst (pc := 915) (v := 2) hx hb dL_law_915 (by decide) ?_
  refine b_iadd (pc := 916) hx hb rfl tI_2 (by omega) (by omega) dL_law_916 (fun x_16 ex_16 => ?_)
  refine va_sld (pc := 917) hx hb hX hbl hbA hS (n_in rfl (by omega) (by omega)) dL_law_917 ?_
  refine lv_topi (fun x_17 ex_17 => ?_)
  have rx_17 := n_rng x_17
  have tx_17 := congrArg Int32.toInt (e_ld (f := xs) (show x_17 = xs (x_16.toInt).toNat from ex_17) (show x_16.toInt = (i.toInt) + (2) by omega))
  have hP : va_P D gcl (wM cB cC cI cJ v ++ wX cB cC cI cJ w_6) H := va_P.swap (a := []) (b := wX cB cC cI cJ w_6) (c := wM cB cC cI cJ v) hP
  have hD : va_D (fun q : Nat => s.heap.size ≤ q) (wM cB cC cI cJ v ++ wX cB cC cI cJ w_6) := va_D.swap (a := []) (b := wX cB cC cI cJ w_6) (c := wM cB cC cI cJ v) hD
  refine cc_918 C0 hK hF v hfM hl x_15 x_17 hP hD hS (fun r_18 w_19 H locs hf_20 ho_21 he_22 he_23 he_24 he_25 he_26 hP hD hS => ?_)
  have rr_18 := n_rngL r_18
  refine lv_pop2_2 (pc := 921) hx hb dL_law_921 rfl ?_
  refine lv_goto (pc := 922) (tgt := 1519) hx hb dL_law_922 (by decide) ?_
  exact kk w_6 w_19 H locs ls hf_7 hf_20 ⟨te_cut heq.1 he_10 he_23 (by omega) (by omega), by omega, plE_keep heq.2.2 he_12 he_25 (by omega) (by omega) (by omega)⟩ ho_8 ho_21 (va_P.swap (a := []) (b := wM cB cC cI cJ w_19) (c := wX cB cC cI cJ w_6) hP) (va_D.swap (a := []) (b := wM cB cC cI cJ w_19) (c := wX cB cC cI cJ w_6) hD) hS hl
set_option maxHeartbeats 8000000 in
set_option maxRecDepth 100000 in
theorem lo_25 {p : Program} {l : Launch} {e : Env} {s : State} {m : MethodId} {below : List Frame} {meth : Method} {c : Code} {D : va_G} {cB cC cI cJ : ClassId} {b L : Nat} {xs : Nat → Int32} {adK adV : Nat → Nat} (C0 : lw_At p s m meth c b L xs) (hLN : L ≤ 3072) (hK : va_K D gcl [(cB, .byte), (cC, .char), (cI, .int), (cJ, .long)] s) (hF : sF adK adV (fun q : Nat => s.heap.size ≤ q) s s.heap) (o1 o2 : Nat) (i : Int32) (hi0 : 0 ≤ i.toInt) (hi1 : i.toInt + 6 ≤ (L : Int)) (u v : gEx) (hfX : fX u) (hfM : fM v) (heq : tEq (u.2.1 4) (u.2.2.2.1 7).toInt (v.2.1 0) (v.2.2.2.1 0).toInt ∧ ((u.2.2.2.1 5).toInt = (v.2.2.2.1 6).toInt ∧ (u.2.2.2.1 6).toInt = (v.2.2.2.1 7).toInt ∧ (u.2.2.2.1 15).toInt = (v.2.2.2.1 8).toInt ∧ (u.2.2.2.1 16).toInt = (v.2.2.2.1 9).toInt ∧ (u.2.2.2.1 17).toInt = (v.2.2.2.1 10).toInt ∧ (u.2.2.2.1 18).toInt = (v.2.2.2.1 11).toInt ∧ (u.2.2.2.1 19).toInt = (v.2.2.2.1 12).toInt ∧ (u.2.2.2.1 43).toInt = ((v.2.1 21) 0).toInt ∧ (u.2.2.2.1 24).toInt = (v.2.2.2.1 21).toInt ∧ (u.2.2.2.1 25).toInt = (v.2.2.2.1 22).toInt ∧ (u.2.2.2.1 26).toInt = (v.2.2.2.1 20).toInt) ∧ plE (u.2.1 31) (u.2.1 15) (u.2.2.2.1 20).toInt (v.2.1 17) (v.2.1 18) (v.2.2.2.1 13).toInt (u.2.2.2.1 19).toInt (u.2.2.2.1 16).toInt (u.2.2.2.1 17).toInt) (hu0 : u.1 0 = o1) (hv0 : v.1 0 = o2) (H : Heap) (locs : List Loc) (ls : Array Slot) (hP : va_P D gcl (wX cB cC cI cJ u ++ wM cB cC cI cJ v) H) (hD : va_D (fun q : Nat => s.heap.size ≤ q) (wX cB cC cI cJ u ++ wM cB cC cI cJ v)) (hS : va_S (fun q : Nat => s.heap.size ≤ q) s.heap H locs) (hl : lv_has ls 4 [(3, .int i), (2, .ref o2), (1, .ref o1), (0, .ref b)])
    (kk : ∀ (u v : gEx) (H : Heap) (locs : List Loc) (ls : Array Slot), fX u → fM v → tEq (u.2.1 4) (u.2.2.2.1 7).toInt (v.2.1 0) (v.2.2.2.1 0).toInt ∧ ((u.2.2.2.1 5).toInt = (v.2.2.2.1 6).toInt ∧ (u.2.2.2.1 6).toInt = (v.2.2.2.1 7).toInt ∧ (u.2.2.2.1 15).toInt = (v.2.2.2.1 8).toInt ∧ (u.2.2.2.1 16).toInt = (v.2.2.2.1 9).toInt ∧ (u.2.2.2.1 17).toInt = (v.2.2.2.1 10).toInt ∧ (u.2.2.2.1 18).toInt = (v.2.2.2.1 11).toInt ∧ (u.2.2.2.1 19).toInt = (v.2.2.2.1 12).toInt ∧ (u.2.2.2.1 43).toInt = ((v.2.1 21) 0).toInt ∧ (u.2.2.2.1 24).toInt = (v.2.2.2.1 21).toInt ∧ (u.2.2.2.1 25).toInt = (v.2.2.2.1 22).toInt ∧ (u.2.2.2.1 26).toInt = (v.2.2.2.1 20).toInt) ∧ plE (u.2.1 31) (u.2.1 15) (u.2.2.2.1 20).toInt (v.2.1 17) (v.2.1 18) (v.2.2.2.1 13).toInt (u.2.2.2.1 19).toInt (u.2.2.2.1 16).toInt (u.2.2.2.1 17).toInt → u.1 0 = o1 → v.1 0 = o2 → va_P D gcl (wX cB cC cI cJ u ++ wM cB cC cI cJ v) H → va_D (fun q : Nat => s.heap.size ≤ q) (wX cB cC cI cJ u ++ wM cB cC cI cJ v) → va_S (fun q : Nat => s.heap.size ≤ q) s.heap H locs → lv_has ls 4 [(3, .int i), (2, .ref o2), (1, .ref o1), (0, .ref b)] → W p l e room_1 s m #[Value.ref b] below meth c H locs 126 15724 (lw_Z below #[Value.ref b] s) (F0 m 1519 ls [])) : W p l e room_1 s m #[Value.ref b] below meth c H locs 126 15724 (lw_Z below #[Value.ref b] s) (F0 m 925 ls []) := by
  subst hu0
  subst hv0
  have hlen := heq.1.1
  have hreg := heq.2.1
  obtain ⟨hx, hb, hr, hml, hown, hts0, hX, hbl, hlocks, hgv⟩ := id C0
  have hts := g_tbl hts0
  have hbA : ¬ (fun q : Nat => s.heap.size ≤ q) b := Nat.not_le.mpr hbl
  refine lv_aload_n (pc := 925) hx hb dL_law_925 rfl (lv_at hl 2 rfl) ?_
  refine lv_aload_n (pc := 926) hx hb dL_law_926 rfl (lv_at hl 3 rfl) ?_
  refine lv_iload_n (pc := 927) hx hb dL_law_927 rfl (lv_at hl 0 rfl) ?_
  refine lv_iconst (pc := 928) (v := 1) hx hb dL_law_928 (by decide) ?_
  refine b_iadd (pc := 929) hx hb rfl tI_1 (by omega) (by omega) dL_law_929 (fun x_1 ex_1 => ?_)
  refine va_sld (pc := 930) hx hb hX hbl hbA hS (n_in rfl (by omega) (by omega)) dL_law_930 ?_
  refine lv_topi (fun x_2 ex_2 => ?_)
  have rx_2 := n_rng x_2
  have tx_2 := congrArg Int32.toInt (e_ld (f := xs) (show x_2 = xs (x_1.toInt).toNat from ex_2) (show x_1.toInt = (i.toInt) + (1) by omega))
  refine lv_aload_n (pc := 931) hx hb dL_law_931 rfl (lv_at hl 3 rfl) ?_
  refine lv_iload_n (pc := 932) hx hb dL_law_932 rfl (lv_at hl 0 rfl) ?_
  refine lv_iconst (pc := 933) (v := 2) hx hb dL_law_933 (by decide) ?_
  refine b_iadd (pc := 934) hx hb rfl tI_2 (by omega) (by omega) dL_law_934 (fun x_3 ex_3 => ?_)
  refine va_sld (pc := 935) hx hb hX hbl hbA hS (n_in rfl (by omega) (by omega)) dL_law_935 ?_
  refine lv_topi (fun x_4 ex_4 => ?_)
  have rx_4 := n_rng x_4
  have tx_4 := congrArg Int32.toInt (e_ld (f := xs) (show x_4 = xs (x_3.toInt).toNat from ex_4) (show x_3.toInt = (i.toInt) + (2) by omega))
  refine cc_936 C0 hK hF u hfX hl x_2 x_4 hP hD hS (fun r_5 w_6 H locs hf_7 ho_8 he_9 he_10 he_11 he_12 he_13 hP hD hS => ?_)
  have rr_5 := n_rng r_5
  refine lv_pop (pc := 939) hx hb dL_law_939 rfl ?_
  refine lv_aload_n (pc := 940) hx hb dL_law_940 rfl (lv_at hl 1 rfl) ?_
  refine lv_aload_n (pc := 941) hx hb dL_law_941 rfl (lv_at hl 3 rfl) ?_
  refine lv_iload_n (pc := 942) hx hb dL_law_942 rfl (lv_at hl 0 rfl) ?_
  refine lv_iconst (pc := 943) (v := 1) hx hb dL_law_943 (by decide) ?_
  refine b_iadd (pc := 944) hx hb rfl tI_1 (by omega) (by omega) dL_law_944 (fun x_14 ex_14 => ?_)
  refine va_sld (pc := 945) hx hb hX hbl hbA hS (n_in rfl (by omega) (by omega)) dL_law_945 ?_
  refine lv_topi (fun x_15 ex_15 => ?_)
  have rx_15 := n_rng x_15
  have tx_15 := congrArg Int32.toInt (e_ld (f := xs) (show x_15 = xs (x_14.toInt).toNat from ex_15) (show x_14.toInt = (i.toInt) + (1) by omega))
  refine lv_aload_n (pc := 946) hx hb dL_law_946 rfl (lv_at hl 3 rfl) ?_
  refine lv_iload_n (pc := 947) hx hb dL_law_947 rfl (lv_at hl 0 rfl) ?_
  refine lv_iconst (pc := 948) (v := 2) hx hb dL_law_948 (by decide) ?_
  refine b_iadd (pc := 949) hx hb rfl tI_2 (by omega) (by omega) dL_law_949 (fun x_16 ex_16 => ?_)
  refine va_sld (pc := 950) hx hb hX hbl hbA hS (n_in rfl (by omega) (by omega)) dL_law_950 ?_
  refine lv_topi (fun x_17 ex_17 => ?_)
  have rx_17 := n_rng x_17
  have tx_17 := congrArg Int32.toInt (e_ld (f := xs) (show x_17 = xs (x_16.toInt).toNat from ex_17) (show x_16.toInt = (i.toInt) + (2) by omega))
  have hP : va_P D gcl (wM cB cC cI cJ v ++ wX cB cC cI cJ w_6) H := va_P.swap (a := []) (b := wX cB cC cI cJ w_6) (c := wM cB cC cI cJ v) hP
  have hD : va_D (fun q : Nat => s.heap.size ≤ q) (wM cB cC cI cJ v ++ wX cB cC cI cJ w_6) := va_D.swap (a := []) (b := wX cB cC cI cJ w_6) (c := wM cB cC cI cJ v) hD
  refine cc_951 C0 hK hF v hfM hl x_15 x_17 hP hD hS (fun r_18 w_19 H locs hf_20 ho_21 he_22 he_23 he_24 he_25 he_26 hP hD hS => ?_)
  have rr_18 := n_rng r_18
  refine lv_pop (pc := 954) hx hb dL_law_954 rfl ?_
  refine lv_goto (pc := 955) (tgt := 1519) hx hb dL_law_955 (by decide) ?_
  exact kk w_6 w_19 H locs ls hf_7 hf_20 ⟨te_cut heq.1 he_10 he_23 (by omega) (by omega), by omega, plE_keep heq.2.2 he_12 he_25 (by omega) (by omega) (by omega)⟩ ho_8 ho_21 (va_P.swap (a := []) (b := wM cB cC cI cJ w_19) (c := wX cB cC cI cJ w_6) hP) (va_D.swap (a := []) (b := wM cB cC cI cJ w_19) (c := wX cB cC cI cJ w_6) hD) hS hl
set_option maxHeartbeats 8000000 in
set_option maxRecDepth 100000 in
theorem lo_26 {p : Program} {l : Launch} {e : Env} {s : State} {m : MethodId} {below : List Frame} {meth : Method} {c : Code} {D : va_G} {cB cC cI cJ : ClassId} {b L : Nat} {xs : Nat → Int32} {adK adV : Nat → Nat} (C0 : lw_At p s m meth c b L xs) (hLN : L ≤ 3072) (hK : va_K D gcl [(cB, .byte), (cC, .char), (cI, .int), (cJ, .long)] s) (hF : sF adK adV (fun q : Nat => s.heap.size ≤ q) s s.heap) (o1 o2 : Nat) (i : Int32) (hi0 : 0 ≤ i.toInt) (hi1 : i.toInt + 6 ≤ (L : Int)) (u v : gEx) (hfX : fX u) (hfM : fM v) (heq : tEq (u.2.1 4) (u.2.2.2.1 7).toInt (v.2.1 0) (v.2.2.2.1 0).toInt ∧ ((u.2.2.2.1 5).toInt = (v.2.2.2.1 6).toInt ∧ (u.2.2.2.1 6).toInt = (v.2.2.2.1 7).toInt ∧ (u.2.2.2.1 15).toInt = (v.2.2.2.1 8).toInt ∧ (u.2.2.2.1 16).toInt = (v.2.2.2.1 9).toInt ∧ (u.2.2.2.1 17).toInt = (v.2.2.2.1 10).toInt ∧ (u.2.2.2.1 18).toInt = (v.2.2.2.1 11).toInt ∧ (u.2.2.2.1 19).toInt = (v.2.2.2.1 12).toInt ∧ (u.2.2.2.1 43).toInt = ((v.2.1 21) 0).toInt ∧ (u.2.2.2.1 24).toInt = (v.2.2.2.1 21).toInt ∧ (u.2.2.2.1 25).toInt = (v.2.2.2.1 22).toInt ∧ (u.2.2.2.1 26).toInt = (v.2.2.2.1 20).toInt) ∧ plE (u.2.1 31) (u.2.1 15) (u.2.2.2.1 20).toInt (v.2.1 17) (v.2.1 18) (v.2.2.2.1 13).toInt (u.2.2.2.1 19).toInt (u.2.2.2.1 16).toInt (u.2.2.2.1 17).toInt) (hu0 : u.1 0 = o1) (hv0 : v.1 0 = o2) (H : Heap) (locs : List Loc) (ls : Array Slot) (hP : va_P D gcl (wX cB cC cI cJ u ++ wM cB cC cI cJ v) H) (hD : va_D (fun q : Nat => s.heap.size ≤ q) (wX cB cC cI cJ u ++ wM cB cC cI cJ v)) (hS : va_S (fun q : Nat => s.heap.size ≤ q) s.heap H locs) (hl : lv_has ls 4 [(3, .int i), (2, .ref o2), (1, .ref o1), (0, .ref b)])
    (kk : ∀ (u v : gEx) (H : Heap) (locs : List Loc) (ls : Array Slot), fX u → fM v → tEq (u.2.1 4) (u.2.2.2.1 7).toInt (v.2.1 0) (v.2.2.2.1 0).toInt ∧ ((u.2.2.2.1 5).toInt = (v.2.2.2.1 6).toInt ∧ (u.2.2.2.1 6).toInt = (v.2.2.2.1 7).toInt ∧ (u.2.2.2.1 15).toInt = (v.2.2.2.1 8).toInt ∧ (u.2.2.2.1 16).toInt = (v.2.2.2.1 9).toInt ∧ (u.2.2.2.1 17).toInt = (v.2.2.2.1 10).toInt ∧ (u.2.2.2.1 18).toInt = (v.2.2.2.1 11).toInt ∧ (u.2.2.2.1 19).toInt = (v.2.2.2.1 12).toInt ∧ (u.2.2.2.1 43).toInt = ((v.2.1 21) 0).toInt ∧ (u.2.2.2.1 24).toInt = (v.2.2.2.1 21).toInt ∧ (u.2.2.2.1 25).toInt = (v.2.2.2.1 22).toInt ∧ (u.2.2.2.1 26).toInt = (v.2.2.2.1 20).toInt) ∧ plE (u.2.1 31) (u.2.1 15) (u.2.2.2.1 20).toInt (v.2.1 17) (v.2.1 18) (v.2.2.2.1 13).toInt (u.2.2.2.1 19).toInt (u.2.2.2.1 16).toInt (u.2.2.2.1 17).toInt → u.1 0 = o1 → v.1 0 = o2 → va_P D gcl (wX cB cC cI cJ u ++ wM cB cC cI cJ v) H → va_D (fun q : Nat => s.heap.size ≤ q) (wX cB cC cI cJ u ++ wM cB cC cI cJ v) → va_S (fun q : Nat => s.heap.size ≤ q) s.heap H locs → lv_has ls 4 [(3, .int i), (2, .ref o2), (1, .ref o1), (0, .ref b)] → W p l e room_1 s m #[Value.ref b] below meth c H locs 126 15724 (lw_Z below #[Value.ref b] s) (F0 m 1519 ls [])) : W p l e room_1 s m #[Value.ref b] below meth c H locs 126 15724 (lw_Z below #[Value.ref b] s) (F0 m 958 ls []) := by
  subst hu0
  subst hv0
  have hlen := heq.1.1
  have hreg := heq.2.1
  obtain ⟨hx, hb, hr, hml, hown, hts0, hX, hbl, hlocks, hgv⟩ := id C0
  have hts := g_tbl hts0
  have hbA : ¬ (fun q : Nat => s.heap.size ≤ q) b := Nat.not_le.mpr hbl
  refine lv_aload_n (pc := 958) hx hb dL_law_958 rfl (lv_at hl 2 rfl) ?_
  refine lv_aload_n (pc := 959) hx hb dL_law_959 rfl (lv_at hl 3 rfl) ?_
  refine lv_iload_n (pc := 960) hx hb dL_law_960 rfl (lv_at hl 0 rfl) ?_
  refine lv_iconst (pc := 961) (v := 1) hx hb dL_law_961 (by decide) ?_
  refine b_iadd (pc := 962) hx hb rfl tI_1 (by omega) (by omega) dL_law_962 (fun x_1 ex_1 => ?_)
  refine va_sld (pc := 963) hx hb hX hbl hbA hS (n_in rfl (by omega) (by omega)) dL_law_963 ?_
  refine lv_topi (fun x_2 ex_2 => ?_)
  have rx_2 := n_rng x_2
  have tx_2 := congrArg Int32.toInt (e_ld (f := xs) (show x_2 = xs (x_1.toInt).toNat from ex_2) (show x_1.toInt = (i.toInt) + (1) by omega))
  refine lv_aload_n (pc := 964) hx hb dL_law_964 rfl (lv_at hl 3 rfl) ?_
  refine lv_iload_n (pc := 965) hx hb dL_law_965 rfl (lv_at hl 0 rfl) ?_
  refine lv_iconst (pc := 966) (v := 2) hx hb dL_law_966 (by decide) ?_
  refine b_iadd (pc := 967) hx hb rfl tI_2 (by omega) (by omega) dL_law_967 (fun x_3 ex_3 => ?_)
  refine va_sld (pc := 968) hx hb hX hbl hbA hS (n_in rfl (by omega) (by omega)) dL_law_968 ?_
  refine lv_topi (fun x_4 ex_4 => ?_)
  have rx_4 := n_rng x_4
  have tx_4 := congrArg Int32.toInt (e_ld (f := xs) (show x_4 = xs (x_3.toInt).toNat from ex_4) (show x_3.toInt = (i.toInt) + (2) by omega))
  refine lv_aload_n (pc := 969) hx hb dL_law_969 rfl (lv_at hl 3 rfl) ?_
  refine lv_iload_n (pc := 970) hx hb dL_law_970 rfl (lv_at hl 0 rfl) ?_
  refine lv_iconst (pc := 971) (v := 3) hx hb dL_law_971 (by decide) ?_
  refine b_iadd (pc := 972) hx hb rfl tI_3 (by omega) (by omega) dL_law_972 (fun x_5 ex_5 => ?_)
  refine va_sld (pc := 973) hx hb hX hbl hbA hS (n_in rfl (by omega) (by omega)) dL_law_973 ?_
  refine lv_topi (fun x_6 ex_6 => ?_)
  have rx_6 := n_rng x_6
  have tx_6 := congrArg Int32.toInt (e_ld (f := xs) (show x_6 = xs (x_5.toInt).toNat from ex_6) (show x_5.toInt = (i.toInt) + (3) by omega))
  refine b_if_eq (pc := 974) (tgt := 981) hx hb rfl  dL_law_974 (by decide) (fun c_7 => ?_) (fun c_7 => ?_)
  ·
    refine lv_iconst (pc := 981) (v := 0) hx hb dL_law_981 (by decide) ?_
    refine cc_982 C0 hK hF u hfX hl x_2 x_4 (0 : Int32) (by rw [tI_0]; decide) hP hD hS (fun r_8 w_9 H locs hf_10 ho_11 he_12 he_13 he_14 he_15 he_16 hP hD hS => ?_)
    have rr_8 := n_rng r_8
    refine lv_pop (pc := 985) hx hb dL_law_985 rfl ?_
    refine lv_aload_n (pc := 986) hx hb dL_law_986 rfl (lv_at hl 1 rfl) ?_
    refine lv_aload_n (pc := 987) hx hb dL_law_987 rfl (lv_at hl 3 rfl) ?_
    refine lv_iload_n (pc := 988) hx hb dL_law_988 rfl (lv_at hl 0 rfl) ?_
    refine lv_iconst (pc := 989) (v := 1) hx hb dL_law_989 (by decide) ?_
    refine b_iadd (pc := 990) hx hb rfl tI_1 (by omega) (by omega) dL_law_990 (fun x_17 ex_17 => ?_)
    refine va_sld (pc := 991) hx hb hX hbl hbA hS (n_in rfl (by omega) (by omega)) dL_law_991 ?_
    refine lv_topi (fun x_18 ex_18 => ?_)
    have rx_18 := n_rng x_18
    have tx_18 := congrArg Int32.toInt (e_ld (f := xs) (show x_18 = xs (x_17.toInt).toNat from ex_18) (show x_17.toInt = (i.toInt) + (1) by omega))
    refine lv_aload_n (pc := 992) hx hb dL_law_992 rfl (lv_at hl 3 rfl) ?_
    refine lv_iload_n (pc := 993) hx hb dL_law_993 rfl (lv_at hl 0 rfl) ?_
    refine lv_iconst (pc := 994) (v := 2) hx hb dL_law_994 (by decide) ?_
    refine b_iadd (pc := 995) hx hb rfl tI_2 (by omega) (by omega) dL_law_995 (fun x_19 ex_19 => ?_)
    refine va_sld (pc := 996) hx hb hX hbl hbA hS (n_in rfl (by omega) (by omega)) dL_law_996 ?_
    refine lv_topi (fun x_20 ex_20 => ?_)
    have rx_20 := n_rng x_20
    have tx_20 := congrArg Int32.toInt (e_ld (f := xs) (show x_20 = xs (x_19.toInt).toNat from ex_20) (show x_19.toInt = (i.toInt) + (2) by omega))
    refine lv_aload_n (pc := 997) hx hb dL_law_997 rfl (lv_at hl 3 rfl) ?_
    refine lv_iload_n (pc := 998) hx hb dL_law_998 rfl (lv_at hl 0 rfl) ?_
    refine lv_iconst (pc := 999) (v := 3) hx hb dL_law_999 (by decide) ?_
    refine b_iadd (pc := 1000) hx hb rfl tI_3 (by omega) (by omega) dL_law_1000 (fun x_21 ex_21 => ?_)
    refine va_sld (pc := 1001) hx hb hX hbl hbA hS (n_in rfl (by omega) (by omega)) dL_law_1001 ?_
    refine lv_topi (fun x_22 ex_22 => ?_)
    have rx_22 := n_rng x_22
    have tx_22 := congrArg Int32.toInt (e_ld (f := xs) (show x_22 = xs (x_21.toInt).toNat from ex_22) (show x_21.toInt = (i.toInt) + (3) by omega))
    refine b_if_eq (pc := 1002) (tgt := 1009) hx hb rfl  dL_law_1002 (by decide) (fun c_23 => ?_) (fun c_23 => ?_)
    ·
      refine lv_iconst (pc := 1009) (v := 0) hx hb dL_law_1009 (by decide) ?_
      have hP : va_P D gcl (wM cB cC cI cJ v ++ wX cB cC cI cJ w_9) H := va_P.swap (a := []) (b := wX cB cC cI cJ w_9) (c := wM cB cC cI cJ v) hP
      have hD : va_D (fun q : Nat => s.heap.size ≤ q) (wM cB cC cI cJ v ++ wX cB cC cI cJ w_9) := va_D.swap (a := []) (b := wX cB cC cI cJ w_9) (c := wM cB cC cI cJ v) hD
      refine cc_1010 C0 hK hF v hfM hl x_18 x_20 (0 : Int32) (by rw [tI_0]; decide) hP hD hS (fun r_24 w_25 H locs hf_26 ho_27 he_28 he_29 he_30 he_31 he_32 hP hD hS => ?_)
      have rr_24 := n_rng r_24
      refine lv_pop (pc := 1013) hx hb dL_law_1013 rfl ?_
      refine lv_goto (pc := 1014) (tgt := 1519) hx hb dL_law_1014 (by decide) ?_
      exact kk w_9 w_25 H locs ls hf_10 hf_26 ⟨te_cut heq.1 he_13 he_29 (by omega) (by omega), by omega, plE_keep heq.2.2 he_15 he_31 (by omega) (by omega) (by omega)⟩ ho_11 ho_27 (va_P.swap (a := []) (b := wM cB cC cI cJ w_25) (c := wX cB cC cI cJ w_9) hP) (va_D.swap (a := []) (b := wM cB cC cI cJ w_25) (c := wX cB cC cI cJ w_9) hD) hS hl
    ·
      refine lv_iconst (pc := 1005) (v := 1) hx hb dL_law_1005 (by decide) ?_
      refine lv_goto (pc := 1006) (tgt := 1010) hx hb dL_law_1006 (by decide) ?_
      have hP : va_P D gcl (wM cB cC cI cJ v ++ wX cB cC cI cJ w_9) H := va_P.swap (a := []) (b := wX cB cC cI cJ w_9) (c := wM cB cC cI cJ v) hP
      have hD : va_D (fun q : Nat => s.heap.size ≤ q) (wM cB cC cI cJ v ++ wX cB cC cI cJ w_9) := va_D.swap (a := []) (b := wX cB cC cI cJ w_9) (c := wM cB cC cI cJ v) hD
      refine cc_1010 C0 hK hF v hfM hl x_18 x_20 (1 : Int32) (by rw [tI_1]; decide) hP hD hS (fun r_33 w_34 H locs hf_35 ho_36 he_37 he_38 he_39 he_40 he_41 hP hD hS => ?_)
      have rr_33 := n_rng r_33
      refine lv_pop (pc := 1013) hx hb dL_law_1013 rfl ?_
      refine lv_goto (pc := 1014) (tgt := 1519) hx hb dL_law_1014 (by decide) ?_
      exact kk w_9 w_34 H locs ls hf_10 hf_35 ⟨te_cut heq.1 he_13 he_38 (by omega) (by omega), by omega, plE_keep heq.2.2 he_15 he_40 (by omega) (by omega) (by omega)⟩ ho_11 ho_36 (va_P.swap (a := []) (b := wM cB cC cI cJ w_34) (c := wX cB cC cI cJ w_9) hP) (va_D.swap (a := []) (b := wM cB cC cI cJ w_34) (c := wX cB cC cI cJ w_9) hD) hS hl
  ·
    refine lv_iconst (pc := 977) (v := 1) hx hb dL_law_977 (by decide) ?_
    refine lv_goto (pc := 978) (tgt := 982) hx hb dL_law_978 (by decide) ?_
    refine cc_982 C0 hK hF u hfX hl x_2 x_4 (1 : Int32) (by rw [tI_1]; decide) hP hD hS (fun r_42 w_43 H locs hf_44 ho_45 he_46 he_47 he_48 he_49 he_50 hP hD hS => ?_)
    have rr_42 := n_rng r_42
    refine lv_pop (pc := 985) hx hb dL_law_985 rfl ?_
    refine lv_aload_n (pc := 986) hx hb dL_law_986 rfl (lv_at hl 1 rfl) ?_
    refine lv_aload_n (pc := 987) hx hb dL_law_987 rfl (lv_at hl 3 rfl) ?_
    refine lv_iload_n (pc := 988) hx hb dL_law_988 rfl (lv_at hl 0 rfl) ?_
    refine lv_iconst (pc := 989) (v := 1) hx hb dL_law_989 (by decide) ?_
    refine b_iadd (pc := 990) hx hb rfl tI_1 (by omega) (by omega) dL_law_990 (fun x_51 ex_51 => ?_)
    refine va_sld (pc := 991) hx hb hX hbl hbA hS (n_in rfl (by omega) (by omega)) dL_law_991 ?_
    refine lv_topi (fun x_52 ex_52 => ?_)
    have rx_52 := n_rng x_52
    have tx_52 := congrArg Int32.toInt (e_ld (f := xs) (show x_52 = xs (x_51.toInt).toNat from ex_52) (show x_51.toInt = (i.toInt) + (1) by omega))
    refine lv_aload_n (pc := 992) hx hb dL_law_992 rfl (lv_at hl 3 rfl) ?_
    refine lv_iload_n (pc := 993) hx hb dL_law_993 rfl (lv_at hl 0 rfl) ?_
    refine lv_iconst (pc := 994) (v := 2) hx hb dL_law_994 (by decide) ?_
    refine b_iadd (pc := 995) hx hb rfl tI_2 (by omega) (by omega) dL_law_995 (fun x_53 ex_53 => ?_)
    refine va_sld (pc := 996) hx hb hX hbl hbA hS (n_in rfl (by omega) (by omega)) dL_law_996 ?_
    refine lv_topi (fun x_54 ex_54 => ?_)
    have rx_54 := n_rng x_54
    have tx_54 := congrArg Int32.toInt (e_ld (f := xs) (show x_54 = xs (x_53.toInt).toNat from ex_54) (show x_53.toInt = (i.toInt) + (2) by omega))
    refine lv_aload_n (pc := 997) hx hb dL_law_997 rfl (lv_at hl 3 rfl) ?_
    refine lv_iload_n (pc := 998) hx hb dL_law_998 rfl (lv_at hl 0 rfl) ?_
    refine lv_iconst (pc := 999) (v := 3) hx hb dL_law_999 (by decide) ?_
    refine b_iadd (pc := 1000) hx hb rfl tI_3 (by omega) (by omega) dL_law_1000 (fun x_55 ex_55 => ?_)
    refine va_sld (pc := 1001) hx hb hX hbl hbA hS (n_in rfl (by omega) (by omega)) dL_law_1001 ?_
    refine lv_topi (fun x_56 ex_56 => ?_)
    have rx_56 := n_rng x_56
    have tx_56 := congrArg Int32.toInt (e_ld (f := xs) (show x_56 = xs (x_55.toInt).toNat from ex_56) (show x_55.toInt = (i.toInt) + (3) by omega))
    refine b_if_eq (pc := 1002) (tgt := 1009) hx hb rfl  dL_law_1002 (by decide) (fun c_57 => ?_) (fun c_57 => ?_)
    ·
      refine lv_iconst (pc := 1009) (v := 0) hx hb dL_law_1009 (by decide) ?_
      have hP : va_P D gcl (wM cB cC cI cJ v ++ wX cB cC cI cJ w_43) H := va_P.swap (a := []) (b := wX cB cC cI cJ w_43) (c := wM cB cC cI cJ v) hP
      have hD : va_D (fun q : Nat => s.heap.size ≤ q) (wM cB cC cI cJ v ++ wX cB cC cI cJ w_43) := va_D.swap (a := []) (b := wX cB cC cI cJ w_43) (c := wM cB cC cI cJ v) hD
      refine cc_1010 C0 hK hF v hfM hl x_52 x_54 (0 : Int32) (by rw [tI_0]; decide) hP hD hS (fun r_58 w_59 H locs hf_60 ho_61 he_62 he_63 he_64 he_65 he_66 hP hD hS => ?_)
      have rr_58 := n_rng r_58
      refine lv_pop (pc := 1013) hx hb dL_law_1013 rfl ?_
      refine lv_goto (pc := 1014) (tgt := 1519) hx hb dL_law_1014 (by decide) ?_
      exact kk w_43 w_59 H locs ls hf_44 hf_60 ⟨te_cut heq.1 he_47 he_63 (by omega) (by omega), by omega, plE_keep heq.2.2 he_49 he_65 (by omega) (by omega) (by omega)⟩ ho_45 ho_61 (va_P.swap (a := []) (b := wM cB cC cI cJ w_59) (c := wX cB cC cI cJ w_43) hP) (va_D.swap (a := []) (b := wM cB cC cI cJ w_59) (c := wX cB cC cI cJ w_43) hD) hS hl
    ·
      refine lv_iconst (pc := 1005) (v := 1) hx hb dL_law_1005 (by decide) ?_
      refine lv_goto (pc := 1006) (tgt := 1010) hx hb dL_law_1006 (by decide) ?_
      have hP : va_P D gcl (wM cB cC cI cJ v ++ wX cB cC cI cJ w_43) H := va_P.swap (a := []) (b := wX cB cC cI cJ w_43) (c := wM cB cC cI cJ v) hP
      have hD : va_D (fun q : Nat => s.heap.size ≤ q) (wM cB cC cI cJ v ++ wX cB cC cI cJ w_43) := va_D.swap (a := []) (b := wX cB cC cI cJ w_43) (c := wM cB cC cI cJ v) hD
      refine cc_1010 C0 hK hF v hfM hl x_52 x_54 (1 : Int32) (by rw [tI_1]; decide) hP hD hS (fun r_67 w_68 H locs hf_69 ho_70 he_71 he_72 he_73 he_74 he_75 hP hD hS => ?_)
      have rr_67 := n_rng r_67
      refine lv_pop (pc := 1013) hx hb dL_law_1013 rfl ?_
      refine lv_goto (pc := 1014) (tgt := 1519) hx hb dL_law_1014 (by decide) ?_
      exact kk w_43 w_68 H locs ls hf_44 hf_69 ⟨te_cut heq.1 he_47 he_72 (by omega) (by omega), by omega, plE_keep heq.2.2 he_49 he_74 (by omega) (by omega) (by omega)⟩ ho_45 ho_70 (va_P.swap (a := []) (b := wM cB cC cI cJ w_68) (c := wX cB cC cI cJ w_43) hP) (va_D.swap (a := []) (b := wM cB cC cI cJ w_68) (c := wX cB cC cI cJ w_43) hD) hS hl
