set_option maxHeartbeats 8000000 in
set_option maxRecDepth 100000 in
theorem lo_20 {p : Program} {l : Launch} {e : Env} {s : State} {m : MethodId} {below : List Frame} {meth : Method} {c : Code} {D : va_G} {cB cC cI cJ : ClassId} {b L : Nat} {xs : Nat → Int32} {adK adV : Nat → Nat} (C0 : lw_At p s m meth c b L xs) (hLN : L ≤ 3072) (hK : va_K D gcl [(cB, .byte), (cC, .char), (cI, .int), (cJ, .long)] s) (hF : sF adK adV (fun q : Nat => s.heap.size ≤ q) s s.heap) (o1 o2 : Nat) (i : Int32) (hi0 : 0 ≤ i.toInt) (hi1 : i.toInt + 6 ≤ (L : Int)) (u v : gEx) (hfX : fX u) (hfM : fM v) (heq : tEq (u.2.1 4) (u.2.2.2.1 7).toInt (v.2.1 0) (v.2.2.2.1 0).toInt ∧ ((u.2.2.2.1 5).toInt = (v.2.2.2.1 6).toInt ∧ (u.2.2.2.1 6).toInt = (v.2.2.2.1 7).toInt ∧ (u.2.2.2.1 15).toInt = (v.2.2.2.1 8).toInt ∧ (u.2.2.2.1 16).toInt = (v.2.2.2.1 9).toInt ∧ (u.2.2.2.1 17).toInt = (v.2.2.2.1 10).toInt ∧ (u.2.2.2.1 18).toInt = (v.2.2.2.1 11).toInt ∧ (u.2.2.2.1 19).toInt = (v.2.2.2.1 12).toInt)) (hu0 : u.1 0 = o1) (hv0 : v.1 0 = o2) (H : Heap) (locs : List Loc) (ls : Array Slot) (hP : va_P D gcl (wX cB cC cI cJ u ++ wM cB cC cI cJ v) H) (hD : va_D (fun q : Nat => s.heap.size ≤ q) (wX cB cC cI cJ u ++ wM cB cC cI cJ v)) (hS : va_S (fun q : Nat => s.heap.size ≤ q) s.heap H locs) (hl : lv_has ls 4 [(3, .int i), (2, .ref o2), (1, .ref o1), (0, .ref b)])
    (kk : ∀ (u v : gEx) (H : Heap) (locs : List Loc) (ls : Array Slot), fX u → fM v → tEq (u.2.1 4) (u.2.2.2.1 7).toInt (v.2.1 0) (v.2.2.2.1 0).toInt ∧ ((u.2.2.2.1 5).toInt = (v.2.2.2.1 6).toInt ∧ (u.2.2.2.1 6).toInt = (v.2.2.2.1 7).toInt ∧ (u.2.2.2.1 15).toInt = (v.2.2.2.1 8).toInt ∧ (u.2.2.2.1 16).toInt = (v.2.2.2.1 9).toInt ∧ (u.2.2.2.1 17).toInt = (v.2.2.2.1 10).toInt ∧ (u.2.2.2.1 18).toInt = (v.2.2.2.1 11).toInt ∧ (u.2.2.2.1 19).toInt = (v.2.2.2.1 12).toInt) → u.1 0 = o1 → v.1 0 = o2 → va_P D gcl (wX cB cC cI cJ u ++ wM cB cC cI cJ v) H → va_D (fun q : Nat => s.heap.size ≤ q) (wX cB cC cI cJ u ++ wM cB cC cI cJ v) → va_S (fun q : Nat => s.heap.size ≤ q) s.heap H locs → lv_has ls 4 [(3, .int i), (2, .ref o2), (1, .ref o1), (0, .ref b)] → W p l e room_1 s m #[Value.ref b] below meth c H locs 126 15724 (lw_Z below #[Value.ref b] s) (F0 m 1519 ls [])) : W p l e room_1 s m #[Value.ref b] below meth c H locs 126 15724 (lw_Z below #[Value.ref b] s) (F0 m 820 ls []) := by
  subst hu0
  subst hv0
  have hlen := heq.1.1
  have hreg := heq.2
  obtain ⟨hx, hb, hr, hml, hown, hts0, hX, hbl, hlocks, hgv⟩ := id C0
  have hts := g_tbl hts0
  have hbA : ¬ (fun q : Nat => s.heap.size ≤ q) b := Nat.not_le.mpr hbl
  refine lv_aload_n (pc := 820) hx hb dL_law_820 rfl (lv_at hl 2 rfl) ?_
  refine lv_aload_n (pc := 821) hx hb dL_law_821 rfl (lv_at hl 3 rfl) ?_
  refine lv_iload_n (pc := 822) hx hb dL_law_822 rfl (lv_at hl 0 rfl) ?_
  refine lv_iconst (pc := 823) (v := 1) hx hb dL_law_823 (by decide) ?_
  refine b_iadd (pc := 824) hx hb rfl tI_1 (by omega) (by omega) dL_law_824 (fun x_1 ex_1 => ?_)
  refine va_sld (pc := 825) hx hb hX hbl hbA hS (n_in rfl (by omega) (by omega)) dL_law_825 ?_
  refine lv_topi (fun x_2 ex_2 => ?_)
  have rx_2 := n_rng x_2
  have tx_2 := congrArg Int32.toInt (e_ld (f := xs) (show x_2 = xs (x_1.toInt).toNat from ex_2) (show x_1.toInt = (i.toInt) + (1) by omega))
  refine cc_826 C0 hK hF u hfX hl x_2 hP hD hS (fun r_3 w_4 H locs hf_5 ho_6 he_7 he_8 he_9 hP hD hS => ?_)
  have rr_3 := n_rngL r_3
  refine lv_pop2_2 (pc := 829) hx hb dL_law_829 rfl ?_
  refine lv_aload_n (pc := 830) hx hb dL_law_830 rfl (lv_at hl 1 rfl) ?_
  refine lv_aload_n (pc := 831) hx hb dL_law_831 rfl (lv_at hl 3 rfl) ?_
  refine lv_iload_n (pc := 832) hx hb dL_law_832 rfl (lv_at hl 0 rfl) ?_
  refine lv_iconst (pc := 833) (v := 1) hx hb dL_law_833 (by decide) ?_
  refine b_iadd (pc := 834) hx hb rfl tI_1 (by omega) (by omega) dL_law_834 (fun x_10 ex_10 => ?_)
  refine va_sld (pc := 835) hx hb hX hbl hbA hS (n_in rfl (by omega) (by omega)) dL_law_835 ?_
  refine lv_topi (fun x_11 ex_11 => ?_)
  have rx_11 := n_rng x_11
  have tx_11 := congrArg Int32.toInt (e_ld (f := xs) (show x_11 = xs (x_10.toInt).toNat from ex_11) (show x_10.toInt = (i.toInt) + (1) by omega))
  have hP : va_P D gcl (wM cB cC cI cJ v ++ wX cB cC cI cJ w_4) H := va_P.swap (a := []) (b := wX cB cC cI cJ w_4) (c := wM cB cC cI cJ v) hP
  have hD : va_D (fun q : Nat => s.heap.size ≤ q) (wM cB cC cI cJ v ++ wX cB cC cI cJ w_4) := va_D.swap (a := []) (b := wX cB cC cI cJ w_4) (c := wM cB cC cI cJ v) hD
  refine cc_836 C0 hK hF v hfM hl x_11 hP hD hS (fun r_12 w_13 H locs hf_14 ho_15 he_16 he_17 he_18 hP hD hS => ?_)
  have rr_12 := n_rngL r_12
  refine lv_pop2_2 (pc := 839) hx hb dL_law_839 rfl ?_
  refine lv_goto (pc := 840) (tgt := 1519) hx hb dL_law_840 (by decide) ?_
  exact kk w_4 w_13 H locs ls hf_5 hf_14 ⟨te_cut heq.1 he_8 he_17 (by omega) (by omega), by omega⟩ ho_6 ho_15 (va_P.swap (a := []) (b := wM cB cC cI cJ w_13) (c := wX cB cC cI cJ w_4) hP) (va_D.swap (a := []) (b := wM cB cC cI cJ w_13) (c := wX cB cC cI cJ w_4) hD) hS hl
set_option maxHeartbeats 8000000 in
set_option maxRecDepth 100000 in
theorem lo_21 {p : Program} {l : Launch} {e : Env} {s : State} {m : MethodId} {below : List Frame} {meth : Method} {c : Code} {D : va_G} {cB cC cI cJ : ClassId} {b L : Nat} {xs : Nat → Int32} {adK adV : Nat → Nat} (C0 : lw_At p s m meth c b L xs) (hLN : L ≤ 3072) (hK : va_K D gcl [(cB, .byte), (cC, .char), (cI, .int), (cJ, .long)] s) (hF : sF adK adV (fun q : Nat => s.heap.size ≤ q) s s.heap) (o1 o2 : Nat) (i : Int32) (hi0 : 0 ≤ i.toInt) (hi1 : i.toInt + 6 ≤ (L : Int)) (u v : gEx) (hfX : fX u) (hfM : fM v) (heq : tEq (u.2.1 4) (u.2.2.2.1 7).toInt (v.2.1 0) (v.2.2.2.1 0).toInt ∧ ((u.2.2.2.1 5).toInt = (v.2.2.2.1 6).toInt ∧ (u.2.2.2.1 6).toInt = (v.2.2.2.1 7).toInt ∧ (u.2.2.2.1 15).toInt = (v.2.2.2.1 8).toInt ∧ (u.2.2.2.1 16).toInt = (v.2.2.2.1 9).toInt ∧ (u.2.2.2.1 17).toInt = (v.2.2.2.1 10).toInt ∧ (u.2.2.2.1 18).toInt = (v.2.2.2.1 11).toInt ∧ (u.2.2.2.1 19).toInt = (v.2.2.2.1 12).toInt)) (hu0 : u.1 0 = o1) (hv0 : v.1 0 = o2) (H : Heap) (locs : List Loc) (ls : Array Slot) (hP : va_P D gcl (wX cB cC cI cJ u ++ wM cB cC cI cJ v) H) (hD : va_D (fun q : Nat => s.heap.size ≤ q) (wX cB cC cI cJ u ++ wM cB cC cI cJ v)) (hS : va_S (fun q : Nat => s.heap.size ≤ q) s.heap H locs) (hl : lv_has ls 4 [(3, .int i), (2, .ref o2), (1, .ref o1), (0, .ref b)])
    (kk : ∀ (u v : gEx) (H : Heap) (locs : List Loc) (ls : Array Slot), fX u → fM v → tEq (u.2.1 4) (u.2.2.2.1 7).toInt (v.2.1 0) (v.2.2.2.1 0).toInt ∧ ((u.2.2.2.1 5).toInt = (v.2.2.2.1 6).toInt ∧ (u.2.2.2.1 6).toInt = (v.2.2.2.1 7).toInt ∧ (u.2.2.2.1 15).toInt = (v.2.2.2.1 8).toInt ∧ (u.2.2.2.1 16).toInt = (v.2.2.2.1 9).toInt ∧ (u.2.2.2.1 17).toInt = (v.2.2.2.1 10).toInt ∧ (u.2.2.2.1 18).toInt = (v.2.2.2.1 11).toInt ∧ (u.2.2.2.1 19).toInt = (v.2.2.2.1 12).toInt) → u.1 0 = o1 → v.1 0 = o2 → va_P D gcl (wX cB cC cI cJ u ++ wM cB cC cI cJ v) H → va_D (fun q : Nat => s.heap.size ≤ q) (wX cB cC cI cJ u ++ wM cB cC cI cJ v) → va_S (fun q : Nat => s.heap.size ≤ q) s.heap H locs → lv_has ls 4 [(3, .int i), (2, .ref o2), (1, .ref o1), (0, .ref b)] → W p l e room_1 s m #[Value.ref b] below meth c H locs 126 15724 (lw_Z below #[Value.ref b] s) (F0 m 1519 ls [])) : W p l e room_1 s m #[Value.ref b] below meth c H locs 126 15724 (lw_Z below #[Value.ref b] s) (F0 m 843 ls []) := by
  subst hu0
  subst hv0
  have hlen := heq.1.1
  have hreg := heq.2
  obtain ⟨hx, hb, hr, hml, hown, hts0, hX, hbl, hlocks, hgv⟩ := id C0
  have hts := g_tbl hts0
  have hbA : ¬ (fun q : Nat => s.heap.size ≤ q) b := Nat.not_le.mpr hbl
  refine lv_aload_n (pc := 843) hx hb dL_law_843 rfl (lv_at hl 2 rfl) ?_
  refine lv_aload_n (pc := 844) hx hb dL_law_844 rfl (lv_at hl 3 rfl) ?_
  refine lv_iload_n (pc := 845) hx hb dL_law_845 rfl (lv_at hl 0 rfl) ?_
  refine lv_iconst (pc := 846) (v := 1) hx hb dL_law_846 (by decide) ?_
  refine b_iadd (pc := 847) hx hb rfl tI_1 (by omega) (by omega) dL_law_847 (fun x_1 ex_1 => ?_)
  refine va_sld (pc := 848) hx hb hX hbl hbA hS (n_in rfl (by omega) (by omega)) dL_law_848 ?_
  refine lv_topi (fun x_2 ex_2 => ?_)
  have rx_2 := n_rng x_2
  have tx_2 := congrArg Int32.toInt (e_ld (f := xs) (show x_2 = xs (x_1.toInt).toNat from ex_2) (show x_1.toInt = (i.toInt) + (1) by omega))
  refine cc_849 C0 hK hF u hfX hl x_2 hP hD hS (fun r_3 w_4 H locs hf_5 ho_6 he_7 he_8 he_9 hP hD hS => ?_)
  have rr_3 := n_rng r_3
  refine lv_pop (pc := 852) hx hb dL_law_852 rfl ?_
  refine lv_aload_n (pc := 853) hx hb dL_law_853 rfl (lv_at hl 1 rfl) ?_
  refine lv_aload_n (pc := 854) hx hb dL_law_854 rfl (lv_at hl 3 rfl) ?_
  refine lv_iload_n (pc := 855) hx hb dL_law_855 rfl (lv_at hl 0 rfl) ?_
  refine lv_iconst (pc := 856) (v := 1) hx hb dL_law_856 (by decide) ?_
  refine b_iadd (pc := 857) hx hb rfl tI_1 (by omega) (by omega) dL_law_857 (fun x_10 ex_10 => ?_)
  refine va_sld (pc := 858) hx hb hX hbl hbA hS (n_in rfl (by omega) (by omega)) dL_law_858 ?_
  refine lv_topi (fun x_11 ex_11 => ?_)
  have rx_11 := n_rng x_11
  have tx_11 := congrArg Int32.toInt (e_ld (f := xs) (show x_11 = xs (x_10.toInt).toNat from ex_11) (show x_10.toInt = (i.toInt) + (1) by omega))
  have hP : va_P D gcl (wM cB cC cI cJ v ++ wX cB cC cI cJ w_4) H := va_P.swap (a := []) (b := wX cB cC cI cJ w_4) (c := wM cB cC cI cJ v) hP
  have hD : va_D (fun q : Nat => s.heap.size ≤ q) (wM cB cC cI cJ v ++ wX cB cC cI cJ w_4) := va_D.swap (a := []) (b := wX cB cC cI cJ w_4) (c := wM cB cC cI cJ v) hD
  refine cc_859 C0 hK hF v hfM hl x_11 hP hD hS (fun r_12 w_13 H locs hf_14 ho_15 he_16 he_17 he_18 hP hD hS => ?_)
  have rr_12 := n_rng r_12
  refine lv_pop (pc := 862) hx hb dL_law_862 rfl ?_
  refine lv_goto (pc := 863) (tgt := 1519) hx hb dL_law_863 (by decide) ?_
  exact kk w_4 w_13 H locs ls hf_5 hf_14 ⟨te_cut heq.1 he_8 he_17 (by omega) (by omega), by omega⟩ ho_6 ho_15 (va_P.swap (a := []) (b := wM cB cC cI cJ w_13) (c := wX cB cC cI cJ w_4) hP) (va_D.swap (a := []) (b := wM cB cC cI cJ w_13) (c := wX cB cC cI cJ w_4) hD) hS hl
set_option maxHeartbeats 8000000 in
set_option maxRecDepth 100000 in
theorem lo_22 {p : Program} {l : Launch} {e : Env} {s : State} {m : MethodId} {below : List Frame} {meth : Method} {c : Code} {D : va_G} {cB cC cI cJ : ClassId} {b L : Nat} {xs : Nat → Int32} {adK adV : Nat → Nat} (C0 : lw_At p s m meth c b L xs) (hLN : L ≤ 3072) (hK : va_K D gcl [(cB, .byte), (cC, .char), (cI, .int), (cJ, .long)] s) (hF : sF adK adV (fun q : Nat => s.heap.size ≤ q) s s.heap) (o1 o2 : Nat) (i : Int32) (hi0 : 0 ≤ i.toInt) (hi1 : i.toInt + 6 ≤ (L : Int)) (u v : gEx) (hfX : fX u) (hfM : fM v) (heq : tEq (u.2.1 4) (u.2.2.2.1 7).toInt (v.2.1 0) (v.2.2.2.1 0).toInt ∧ ((u.2.2.2.1 5).toInt = (v.2.2.2.1 6).toInt ∧ (u.2.2.2.1 6).toInt = (v.2.2.2.1 7).toInt ∧ (u.2.2.2.1 15).toInt = (v.2.2.2.1 8).toInt ∧ (u.2.2.2.1 16).toInt = (v.2.2.2.1 9).toInt ∧ (u.2.2.2.1 17).toInt = (v.2.2.2.1 10).toInt ∧ (u.2.2.2.1 18).toInt = (v.2.2.2.1 11).toInt ∧ (u.2.2.2.1 19).toInt = (v.2.2.2.1 12).toInt)) (hu0 : u.1 0 = o1) (hv0 : v.1 0 = o2) (H : Heap) (locs : List Loc) (ls : Array Slot) (hP : va_P D gcl (wX cB cC cI cJ u ++ wM cB cC cI cJ v) H) (hD : va_D (fun q : Nat => s.heap.size ≤ q) (wX cB cC cI cJ u ++ wM cB cC cI cJ v)) (hS : va_S (fun q : Nat => s.heap.size ≤ q) s.heap H locs) (hl : lv_has ls 4 [(3, .int i), (2, .ref o2), (1, .ref o1), (0, .ref b)])
    (kk : ∀ (u v : gEx) (H : Heap) (locs : List Loc) (ls : Array Slot), fX u → fM v → tEq (u.2.1 4) (u.2.2.2.1 7).toInt (v.2.1 0) (v.2.2.2.1 0).toInt ∧ ((u.2.2.2.1 5).toInt = (v.2.2.2.1 6).toInt ∧ (u.2.2.2.1 6).toInt = (v.2.2.2.1 7).toInt ∧ (u.2.2.2.1 15).toInt = (v.2.2.2.1 8).toInt ∧ (u.2.2.2.1 16).toInt = (v.2.2.2.1 9).toInt ∧ (u.2.2.2.1 17).toInt = (v.2.2.2.1 10).toInt ∧ (u.2.2.2.1 18).toInt = (v.2.2.2.1 11).toInt ∧ (u.2.2.2.1 19).toInt = (v.2.2.2.1 12).toInt) → u.1 0 = o1 → v.1 0 = o2 → va_P D gcl (wX cB cC cI cJ u ++ wM cB cC cI cJ v) H → va_D (fun q : Nat => s.heap.size ≤ q) (wX cB cC cI cJ u ++ wM cB cC cI cJ v) → va_S (fun q : Nat => s.heap.size ≤ q) s.heap H locs → lv_has ls 4 [(3, .int i), (2, .ref o2), (1, .ref o1), (0, .ref b)] → W p l e room_1 s m #[Value.ref b] below meth c H locs 126 15724 (lw_Z below #[Value.ref b] s) (F0 m 1519 ls [])) : W p l e room_1 s m #[Value.ref b] below meth c H locs 126 15724 (lw_Z below #[Value.ref b] s) (F0 m 866 ls []) := by
  subst hu0
  subst hv0
  have hlen := heq.1.1
  have hreg := heq.2
  obtain ⟨hx, hb, hr, hml, hown, hts0, hX, hbl, hlocks, hgv⟩ := id C0
  have hts := g_tbl hts0
  have hbA : ¬ (fun q : Nat => s.heap.size ≤ q) b := Nat.not_le.mpr hbl
  refine lv_aload_n (pc := 866) hx hb dL_law_866 rfl (lv_at hl 2 rfl) ?_
  refine cc_867 C0 hK hF u hfX hl  hP hD hS (fun r_1 w_2 H locs hf_3 ho_4 he_5 he_6 he_7 hP hD hS => ?_)
  have rr_1 := n_rng r_1
  refine lv_pop (pc := 870) hx hb dL_law_870 rfl ?_
  refine lv_aload_n (pc := 871) hx hb dL_law_871 rfl (lv_at hl 1 rfl) ?_
  have hP : va_P D gcl (wM cB cC cI cJ v ++ wX cB cC cI cJ w_2) H := va_P.swap (a := []) (b := wX cB cC cI cJ w_2) (c := wM cB cC cI cJ v) hP
  have hD : va_D (fun q : Nat => s.heap.size ≤ q) (wM cB cC cI cJ v ++ wX cB cC cI cJ w_2) := va_D.swap (a := []) (b := wX cB cC cI cJ w_2) (c := wM cB cC cI cJ v) hD
  refine cc_872 C0 hK hF v hfM hl  hP hD hS (fun r_8 w_9 H locs hf_10 ho_11 he_12 he_13 he_14 hP hD hS => ?_)
  have rr_8 := n_rng r_8
  refine lv_pop (pc := 875) hx hb dL_law_875 rfl ?_
  refine lv_goto (pc := 876) (tgt := 1519) hx hb dL_law_876 (by decide) ?_
  exact kk w_2 w_9 H locs ls hf_3 hf_10 ⟨te_cut heq.1 he_6 he_13 (by omega) (by omega), by omega⟩ ho_4 ho_11 (va_P.swap (a := []) (b := wM cB cC cI cJ w_9) (c := wX cB cC cI cJ w_2) hP) (va_D.swap (a := []) (b := wM cB cC cI cJ w_9) (c := wX cB cC cI cJ w_2) hD) hS hl
set_option maxHeartbeats 8000000 in
set_option maxRecDepth 100000 in
theorem lo_23 {p : Program} {l : Launch} {e : Env} {s : State} {m : MethodId} {below : List Frame} {meth : Method} {c : Code} {D : va_G} {cB cC cI cJ : ClassId} {b L : Nat} {xs : Nat → Int32} {adK adV : Nat → Nat} (C0 : lw_At p s m meth c b L xs) (hLN : L ≤ 3072) (hK : va_K D gcl [(cB, .byte), (cC, .char), (cI, .int), (cJ, .long)] s) (hF : sF adK adV (fun q : Nat => s.heap.size ≤ q) s s.heap) (o1 o2 : Nat) (i : Int32) (hi0 : 0 ≤ i.toInt) (hi1 : i.toInt + 6 ≤ (L : Int)) (u v : gEx) (hfX : fX u) (hfM : fM v) (heq : tEq (u.2.1 4) (u.2.2.2.1 7).toInt (v.2.1 0) (v.2.2.2.1 0).toInt ∧ ((u.2.2.2.1 5).toInt = (v.2.2.2.1 6).toInt ∧ (u.2.2.2.1 6).toInt = (v.2.2.2.1 7).toInt ∧ (u.2.2.2.1 15).toInt = (v.2.2.2.1 8).toInt ∧ (u.2.2.2.1 16).toInt = (v.2.2.2.1 9).toInt ∧ (u.2.2.2.1 17).toInt = (v.2.2.2.1 10).toInt ∧ (u.2.2.2.1 18).toInt = (v.2.2.2.1 11).toInt ∧ (u.2.2.2.1 19).toInt = (v.2.2.2.1 12).toInt)) (hu0 : u.1 0 = o1) (hv0 : v.1 0 = o2) (H : Heap) (locs : List Loc) (ls : Array Slot) (hP : va_P D gcl (wX cB cC cI cJ u ++ wM cB cC cI cJ v) H) (hD : va_D (fun q : Nat => s.heap.size ≤ q) (wX cB cC cI cJ u ++ wM cB cC cI cJ v)) (hS : va_S (fun q : Nat => s.heap.size ≤ q) s.heap H locs) (hl : lv_has ls 4 [(3, .int i), (2, .ref o2), (1, .ref o1), (0, .ref b)])
    (kk : ∀ (u v : gEx) (H : Heap) (locs : List Loc) (ls : Array Slot), fX u → fM v → tEq (u.2.1 4) (u.2.2.2.1 7).toInt (v.2.1 0) (v.2.2.2.1 0).toInt ∧ ((u.2.2.2.1 5).toInt = (v.2.2.2.1 6).toInt ∧ (u.2.2.2.1 6).toInt = (v.2.2.2.1 7).toInt ∧ (u.2.2.2.1 15).toInt = (v.2.2.2.1 8).toInt ∧ (u.2.2.2.1 16).toInt = (v.2.2.2.1 9).toInt ∧ (u.2.2.2.1 17).toInt = (v.2.2.2.1 10).toInt ∧ (u.2.2.2.1 18).toInt = (v.2.2.2.1 11).toInt ∧ (u.2.2.2.1 19).toInt = (v.2.2.2.1 12).toInt) → u.1 0 = o1 → v.1 0 = o2 → va_P D gcl (wX cB cC cI cJ u ++ wM cB cC cI cJ v) H → va_D (fun q : Nat => s.heap.size ≤ q) (wX cB cC cI cJ u ++ wM cB cC cI cJ v) → va_S (fun q : Nat => s.heap.size ≤ q) s.heap H locs → lv_has ls 4 [(3, .int i), (2, .ref o2), (1, .ref o1), (0, .ref b)] → W p l e room_1 s m #[Value.ref b] below meth c H locs 126 15724 (lw_Z below #[Value.ref b] s) (F0 m 1519 ls [])) : W p l e room_1 s m #[Value.ref b] below meth c H locs 126 15724 (lw_Z below #[Value.ref b] s) (F0 m 879 ls []) := by
  subst hu0
  subst hv0
  have hlen := heq.1.1
  have hreg := heq.2
  obtain ⟨hx, hb, hr, hml, hown, hts0, hX, hbl, hlocks, hgv⟩ := id C0
  have hts := g_tbl hts0
  have hbA : ¬ (fun q : Nat => s.heap.size ≤ q) b := Nat.not_le.mpr hbl
  refine lv_aload_n (pc := 879) hx hb dL_law_879 rfl (lv_at hl 2 rfl) ?_
  refine cc_880 C0 hK hF u hfX hl  hP hD hS (fun r_1 w_2 H locs hf_3 ho_4 he_5 he_6 he_7 hP hD hS => ?_)
  have rr_1 := n_rng r_1
  refine lv_pop (pc := 883) hx hb dL_law_883 rfl ?_
  refine lv_aload_n (pc := 884) hx hb dL_law_884 rfl (lv_at hl 1 rfl) ?_
  have hP : va_P D gcl (wM cB cC cI cJ v ++ wX cB cC cI cJ w_2) H := va_P.swap (a := []) (b := wX cB cC cI cJ w_2) (c := wM cB cC cI cJ v) hP
  have hD : va_D (fun q : Nat => s.heap.size ≤ q) (wM cB cC cI cJ v ++ wX cB cC cI cJ w_2) := va_D.swap (a := []) (b := wX cB cC cI cJ w_2) (c := wM cB cC cI cJ v) hD
  refine cc_885 C0 hK hF v hfM hl  hP hD hS (fun r_8 w_9 H locs hf_10 ho_11 he_12 he_13 he_14 hP hD hS => ?_)
  have rr_8 := n_rng r_8
  refine lv_pop (pc := 888) hx hb dL_law_888 rfl ?_
  refine lv_goto (pc := 889) (tgt := 1519) hx hb dL_law_889 (by decide) ?_
  exact kk w_2 w_9 H locs ls hf_3 hf_10 ⟨te_cut heq.1 he_6 he_13 (by omega) (by omega), by omega⟩ ho_4 ho_11 (va_P.swap (a := []) (b := wM cB cC cI cJ w_9) (c := wX cB cC cI cJ w_2) hP) (va_D.swap (a := []) (b := wM cB cC cI cJ w_9) (c := wX cB cC cI cJ w_2) hD) hS hl
set_option maxHeartbeats 8000000 in
set_option maxRecDepth 100000 in
theorem lo_24 {p : Program} {l : Launch} {e : Env} {s : State} {m : MethodId} {below : List Frame} {meth : Method} {c : Code} {D : va_G} {cB cC cI cJ : ClassId} {b L : Nat} {xs : Nat → Int32} {adK adV : Nat → Nat} (C0 : lw_At p s m meth c b L xs) (hLN : L ≤ 3072) (hK : va_K D gcl [(cB, .byte), (cC, .char), (cI, .int), (cJ, .long)] s) (hF : sF adK adV (fun q : Nat => s.heap.size ≤ q) s s.heap) (o1 o2 : Nat) (i : Int32) (hi0 : 0 ≤ i.toInt) (hi1 : i.toInt + 6 ≤ (L : Int)) (u v : gEx) (hfX : fX u) (hfM : fM v) (heq : tEq (u.2.1 4) (u.2.2.2.1 7).toInt (v.2.1 0) (v.2.2.2.1 0).toInt ∧ ((u.2.2.2.1 5).toInt = (v.2.2.2.1 6).toInt ∧ (u.2.2.2.1 6).toInt = (v.2.2.2.1 7).toInt ∧ (u.2.2.2.1 15).toInt = (v.2.2.2.1 8).toInt ∧ (u.2.2.2.1 16).toInt = (v.2.2.2.1 9).toInt ∧ (u.2.2.2.1 17).toInt = (v.2.2.2.1 10).toInt ∧ (u.2.2.2.1 18).toInt = (v.2.2.2.1 11).toInt ∧ (u.2.2.2.1 19).toInt = (v.2.2.2.1 12).toInt)) (hu0 : u.1 0 = o1) (hv0 : v.1 0 = o2) (H : Heap) (locs : List Loc) (ls : Array Slot) (hP : va_P D gcl (wX cB cC cI cJ u ++ wM cB cC cI cJ v) H) (hD : va_D (fun q : Nat => s.heap.size ≤ q) (wX cB cC cI cJ u ++ wM cB cC cI cJ v)) (hS : va_S (fun q : Nat => s.heap.size ≤ q) s.heap H locs) (hl : lv_has ls 4 [(3, .int i), (2, .ref o2), (1, .ref o1), (0, .ref b)])
    (kk : ∀ (u v : gEx) (H : Heap) (locs : List Loc) (ls : Array Slot), fX u → fM v → tEq (u.2.1 4) (u.2.2.2.1 7).toInt (v.2.1 0) (v.2.2.2.1 0).toInt ∧ ((u.2.2.2.1 5).toInt = (v.2.2.2.1 6).toInt ∧ (u.2.2.2.1 6).toInt = (v.2.2.2.1 7).toInt ∧ (u.2.2.2.1 15).toInt = (v.2.2.2.1 8).toInt ∧ (u.2.2.2.1 16).toInt = (v.2.2.2.1 9).toInt ∧ (u.2.2.2.1 17).toInt = (v.2.2.2.1 10).toInt ∧ (u.2.2.2.1 18).toInt = (v.2.2.2.1 11).toInt ∧ (u.2.2.2.1 19).toInt = (v.2.2.2.1 12).toInt) → u.1 0 = o1 → v.1 0 = o2 → va_P D gcl (wX cB cC cI cJ u ++ wM cB cC cI cJ v) H → va_D (fun q : Nat => s.heap.size ≤ q) (wX cB cC cI cJ u ++ wM cB cC cI cJ v) → va_S (fun q : Nat => s.heap.size ≤ q) s.heap H locs → lv_has ls 4 [(3, .int i), (2, .ref o2), (1, .ref o1), (0, .ref b)] → W p l e room_1 s m #[Value.ref b] below meth c H locs 126 15724 (lw_Z below #[Value.ref b] s) (F0 m 1519 ls [])) : W p l e room_1 s m #[Value.ref b] below meth c H locs 126 15724 (lw_Z below #[Value.ref b] s) (F0 m 892 ls []) := by
  subst hu0
  subst hv0
  have hlen := heq.1.1
  have hreg := heq.2
  obtain ⟨hx, hb, hr, hml, hown, hts0, hX, hbl, hlocks, hgv⟩ := id C0
  have hts := g_tbl hts0
  have hbA : ¬ (fun q : Nat => s.heap.size ≤ q) b := Nat.not_le.mpr hbl
  refine lv_aload_n (pc := 892) hx hb dL_law_892 rfl (lv_at hl 2 rfl) ?_
  refine lv_aload_n (pc := 893) hx hb dL_law_893 rfl (lv_at hl 3 rfl) ?_
  refine lv_iload_n (pc := 894) hx hb dL_law_894 rfl (lv_at hl 0 rfl) ?_
  refine lv_iconst (pc := 895) (v := 1) hx hb dL_law_895 (by decide) ?_
  refine b_iadd (pc := 896) hx hb rfl tI_1 (by omega) (by omega) dL_law_896 (fun x_1 ex_1 => ?_)
  refine va_sld (pc := 897) hx hb hX hbl hbA hS (n_in rfl (by omega) (by omega)) dL_law_897 ?_
  refine lv_topi (fun x_2 ex_2 => ?_)
  have rx_2 := n_rng x_2
  have tx_2 := congrArg Int32.toInt (e_ld (f := xs) (show x_2 = xs (x_1.toInt).toNat from ex_2) (show x_1.toInt = (i.toInt) + (1) by omega))
  refine lv_aload_n (pc := 898) hx hb dL_law_898 rfl (lv_at hl 3 rfl) ?_
  refine lv_iload_n (pc := 899) hx hb dL_law_899 rfl (lv_at hl 0 rfl) ?_
  refine lv_iconst (pc := 900) (v := 2) hx hb dL_law_900 (by decide) ?_
  refine b_iadd (pc := 901) hx hb rfl tI_2 (by omega) (by omega) dL_law_901 (fun x_3 ex_3 => ?_)
  refine va_sld (pc := 902) hx hb hX hbl hbA hS (n_in rfl (by omega) (by omega)) dL_law_902 ?_
  refine lv_topi (fun x_4 ex_4 => ?_)
  have rx_4 := n_rng x_4
  have tx_4 := congrArg Int32.toInt (e_ld (f := xs) (show x_4 = xs (x_3.toInt).toNat from ex_4) (show x_3.toInt = (i.toInt) + (2) by omega))
  refine cc_903 C0 hK hF u hfX hl x_2 x_4 hP hD hS (fun r_5 w_6 H locs hf_7 ho_8 he_9 he_10 he_11 hP hD hS => ?_)
  have rr_5 := n_rngL r_5
  refine lv_pop2_2 (pc := 906) hx hb dL_law_906 rfl ?_
  refine lv_aload_n (pc := 907) hx hb dL_law_907 rfl (lv_at hl 1 rfl) ?_
  refine lv_aload_n (pc := 908) hx hb dL_law_908 rfl (lv_at hl 3 rfl) ?_
  refine lv_iload_n (pc := 909) hx hb dL_law_909 rfl (lv_at hl 0 rfl) ?_
  refine lv_iconst (pc := 910) (v := 1) hx hb dL_law_910 (by decide) ?_
  refine b_iadd (pc := 911) hx hb rfl tI_1 (by omega) (by omega) dL_law_911 (fun x_12 ex_12 => ?_)
  refine va_sld (pc := 912) hx hb hX hbl hbA hS (n_in rfl (by omega) (by omega)) dL_law_912 ?_
  refine lv_topi (fun x_13 ex_13 => ?_)
  have rx_13 := n_rng x_13
  have tx_13 := congrArg Int32.toInt (e_ld (f := xs) (show x_13 = xs (x_12.toInt).toNat from ex_13) (show x_12.toInt = (i.toInt) + (1) by omega))
  refine lv_aload_n (pc := 913) hx hb dL_law_913 rfl (lv_at hl 3 rfl) ?_
  refine lv_iload_n (pc := 914) hx hb dL_law_914 rfl (lv_at hl 0 rfl) ?_
  refine lv_iconst (pc := 915) (v := 2) hx hb dL_law_915 (by decide) ?_
  refine b_iadd (pc := 916) hx hb rfl tI_2 (by omega) (by omega) dL_law_916 (fun x_14 ex_14 => ?_)
  refine va_sld (pc := 917) hx hb hX hbl hbA hS (n_in rfl (by omega) (by omega)) dL_law_917 ?_
  refine lv_topi (fun x_15 ex_15 => ?_)
  have rx_15 := n_rng x_15
  have tx_15 := congrArg Int32.toInt (e_ld (f := xs) (show x_15 = xs (x_14.toInt).toNat from ex_15) (show x_14.toInt = (i.toInt) + (2) by omega))
  have hP : va_P D gcl (wM cB cC cI cJ v ++ wX cB cC cI cJ w_6) H := va_P.swap (a := []) (b := wX cB cC cI cJ w_6) (c := wM cB cC cI cJ v) hP
  have hD : va_D (fun q : Nat => s.heap.size ≤ q) (wM cB cC cI cJ v ++ wX cB cC cI cJ w_6) := va_D.swap (a := []) (b := wX cB cC cI cJ w_6) (c := wM cB cC cI cJ v) hD
  refine cc_918 C0 hK hF v hfM hl x_13 x_15 hP hD hS (fun r_16 w_17 H locs hf_18 ho_19 he_20 he_21 he_22 hP hD hS => ?_)
  have rr_16 := n_rngL r_16
  refine lv_pop2_2 (pc := 921) hx hb dL_law_921 rfl ?_
  refine lv_goto (pc := 922) (tgt := 1519) hx hb dL_law_922 (by decide) ?_
  exact kk w_6 w_17 H locs ls hf_7 hf_18 ⟨te_cut heq.1 he_10 he_21 (by omega) (by omega), by omega⟩ ho_8 ho_19 (va_P.swap (a := []) (b := wM cB cC cI cJ w_17) (c := wX cB cC cI cJ w_6) hP) (va_D.swap (a := []) (b := wM cB cC cI cJ w_17) (c := wX cB cC cI cJ w_6) hD) hS hl
set_option maxHeartbeats 8000000 in
set_option maxRecDepth 100000 in
theorem lo_25 {p : Program} {l : Launch} {e : Env} {s : State} {m : MethodId} {below : List Frame} {meth : Method} {c : Code} {D : va_G} {cB cC cI cJ : ClassId} {b L : Nat} {xs : Nat → Int32} {adK adV : Nat → Nat} (C0 : lw_At p s m meth c b L xs) (hLN : L ≤ 3072) (hK : va_K D gcl [(cB, .byte), (cC, .char), (cI, .int), (cJ, .long)] s) (hF : sF adK adV (fun q : Nat => s.heap.size ≤ q) s s.heap) (o1 o2 : Nat) (i : Int32) (hi0 : 0 ≤ i.toInt) (hi1 : i.toInt + 6 ≤ (L : Int)) (u v : gEx) (hfX : fX u) (hfM : fM v) (heq : tEq (u.2.1 4) (u.2.2.2.1 7).toInt (v.2.1 0) (v.2.2.2.1 0).toInt ∧ ((u.2.2.2.1 5).toInt = (v.2.2.2.1 6).toInt ∧ (u.2.2.2.1 6).toInt = (v.2.2.2.1 7).toInt ∧ (u.2.2.2.1 15).toInt = (v.2.2.2.1 8).toInt ∧ (u.2.2.2.1 16).toInt = (v.2.2.2.1 9).toInt ∧ (u.2.2.2.1 17).toInt = (v.2.2.2.1 10).toInt ∧ (u.2.2.2.1 18).toInt = (v.2.2.2.1 11).toInt ∧ (u.2.2.2.1 19).toInt = (v.2.2.2.1 12).toInt)) (hu0 : u.1 0 = o1) (hv0 : v.1 0 = o2) (H : Heap) (locs : List Loc) (ls : Array Slot) (hP : va_P D gcl (wX cB cC cI cJ u ++ wM cB cC cI cJ v) H) (hD : va_D (fun q : Nat => s.heap.size ≤ q) (wX cB cC cI cJ u ++ wM cB cC cI cJ v)) (hS : va_S (fun q : Nat => s.heap.size ≤ q) s.heap H locs) (hl : lv_has ls 4 [(3, .int i), (2, .ref o2), (1, .ref o1), (0, .ref b)])
    (kk : ∀ (u v : gEx) (H : Heap) (locs : List Loc) (ls : Array Slot), fX u → fM v → tEq (u.2.1 4) (u.2.2.2.1 7).toInt (v.2.1 0) (v.2.2.2.1 0).toInt ∧ ((u.2.2.2.1 5).toInt = (v.2.2.2.1 6).toInt ∧ (u.2.2.2.1 6).toInt = (v.2.2.2.1 7).toInt ∧ (u.2.2.2.1 15).toInt = (v.2.2.2.1 8).toInt ∧ (u.2.2.2.1 16).toInt = (v.2.2.2.1 9).toInt ∧ (u.2.2.2.1 17).toInt = (v.2.2.2.1 10).toInt ∧ (u.2.2.2.1 18).toInt = (v.2.2.2.1 11).toInt ∧ (u.2.2.2.1 19).toInt = (v.2.2.2.1 12).toInt) → u.1 0 = o1 → v.1 0 = o2 → va_P D gcl (wX cB cC cI cJ u ++ wM cB cC cI cJ v) H → va_D (fun q : Nat => s.heap.size ≤ q) (wX cB cC cI cJ u ++ wM cB cC cI cJ v) → va_S (fun q : Nat => s.heap.size ≤ q) s.heap H locs → lv_has ls 4 [(3, .int i), (2, .ref o2), (1, .ref o1), (0, .ref b)] → W p l e room_1 s m #[Value.ref b] below meth c H locs 126 15724 (lw_Z below #[Value.ref b] s) (F0 m 1519 ls [])) : W p l e room_1 s m #[Value.ref b] below meth c H locs 126 15724 (lw_Z below #[Value.ref b] s) (F0 m 925 ls []) := by
  subst hu0
  subst hv0
  have hlen := heq.1.1
  have hreg := heq.2
  obtain ⟨hx, hb, hr, hml, hown, hts0, hX, hbl, hlocks, hgv⟩ := id C0
  have hts := g_tbl hts0
  have hbA : ¬ (fun q : Nat => s.heap.size ≤ q) b := Nat.not_le.mpr hbl
  refine lv_aload_n (pc := 925) hx hb dL_law_925 rfl (lv_at hl 2 rfl) ?_
  refine lv_aload_n (pc := 926) hx hb dL_law_926 rfl (lv_at hl 3 rfl) ?_
  refine lv_iload_n (pc := 927) hx hb dL_law_927 rfl (lv_at hl 0 rfl) ?_
  refine lv_iconst (pc := 928) (v := 1) hx hb dL_law_928 (by decide) ?_
  refine b_iadd (pc := 929) hx hb rfl tI_1 (by omega) (by omega) dL_law_929 (fun x_1 ex_1 => ?_)
  refine va_sld (pc := 930) hx hb hX hbl hbA hS (n_in rfl (by omega) (by omega)) dL_law_930 ?_
  refine lv_topi (fun x_2 ex_2 => ?_)
  have rx_2 := n_rng x_2
  have tx_2 := congrArg Int32.toInt (e_ld (f := xs) (show x_2 = xs (x_1.toInt).toNat from ex_2) (show x_1.toInt = (i.toInt) + (1) by omega))
  refine lv_aload_n (pc := 931) hx hb dL_law_931 rfl (lv_at hl 3 rfl) ?_
  refine lv_iload_n (pc := 932) hx hb dL_law_932 rfl (lv_at hl 0 rfl) ?_
  refine lv_iconst (pc := 933) (v := 2) hx hb dL_law_933 (by decide) ?_
  refine b_iadd (pc := 934) hx hb rfl tI_2 (by omega) (by omega) dL_law_934 (fun x_3 ex_3 => ?_)
  refine va_sld (pc := 935) hx hb hX hbl hbA hS (n_in rfl (by omega) (by omega)) dL_law_935 ?_
  refine lv_topi (fun x_4 ex_4 => ?_)
  have rx_4 := n_rng x_4
  have tx_4 := congrArg Int32.toInt (e_ld (f := xs) (show x_4 = xs (x_3.toInt).toNat from ex_4) (show x_3.toInt = (i.toInt) + (2) by omega))
  refine cc_936 C0 hK hF u hfX hl x_2 x_4 hP hD hS (fun r_5 w_6 H locs hf_7 ho_8 he_9 he_10 he_11 hP hD hS => ?_)
  have rr_5 := n_rng r_5
  refine lv_pop (pc := 939) hx hb dL_law_939 rfl ?_
  refine lv_aload_n (pc := 940) hx hb dL_law_940 rfl (lv_at hl 1 rfl) ?_
  refine lv_aload_n (pc := 941) hx hb dL_law_941 rfl (lv_at hl 3 rfl) ?_
  refine lv_iload_n (pc := 942) hx hb dL_law_942 rfl (lv_at hl 0 rfl) ?_
  refine lv_iconst (pc := 943) (v := 1) hx hb dL_law_943 (by decide) ?_
  refine b_iadd (pc := 944) hx hb rfl tI_1 (by omega) (by omega) dL_law_944 (fun x_12 ex_12 => ?_)
  refine va_sld (pc := 945) hx hb hX hbl hbA hS (n_in rfl (by omega) (by omega)) dL_law_945 ?_
  refine lv_topi (fun x_13 ex_13 => ?_)
  have rx_13 := n_rng x_13
  have tx_13 := congrArg Int32.toInt (e_ld (f := xs) (show x_13 = xs (x_12.toInt).toNat from ex_13) (show x_12.toInt = (i.toInt) + (1) by omega))
  refine lv_aload_n (pc := 946) hx hb dL_law_946 rfl (lv_at hl 3 rfl) ?_
  refine lv_iload_n (pc := 947) hx hb dL_law_947 rfl (lv_at hl 0 rfl) ?_
  refine lv_iconst (pc := 948) (v := 2) hx hb dL_law_948 (by decide) ?_
  refine b_iadd (pc := 949) hx hb rfl tI_2 (by omega) (by omega) dL_law_949 (fun x_14 ex_14 => ?_)
  refine va_sld (pc := 950) hx hb hX hbl hbA hS (n_in rfl (by omega) (by omega)) dL_law_950 ?_
  refine lv_topi (fun x_15 ex_15 => ?_)
  have rx_15 := n_rng x_15
  have tx_15 := congrArg Int32.toInt (e_ld (f := xs) (show x_15 = xs (x_14.toInt).toNat from ex_15) (show x_14.toInt = (i.toInt) + (2) by omega))
  have hP : va_P D gcl (wM cB cC cI cJ v ++ wX cB cC cI cJ w_6) H := va_P.swap (a := []) (b := wX cB cC cI cJ w_6) (c := wM cB cC cI cJ v) hP
  have hD : va_D (fun q : Nat => s.heap.size ≤ q) (wM cB cC cI cJ v ++ wX cB cC cI cJ w_6) := va_D.swap (a := []) (b := wX cB cC cI cJ w_6) (c := wM cB cC cI cJ v) hD
  refine cc_951 C0 hK hF v hfM hl x_13 x_15 hP hD hS (fun r_16 w_17 H locs hf_18 ho_19 he_20 he_21 he_22 hP hD hS => ?_)
  have rr_16 := n_rng r_16
  refine lv_pop (pc := 954) hx hb dL_law_954 rfl ?_
  refine lv_goto (pc := 955) (tgt := 1519) hx hb dL_law_955 (by decide) ?_
  exact kk w_6 w_17 H locs ls hf_7 hf_18 ⟨te_cut heq.1 he_10 he_21 (by omega) (by omega), by omega⟩ ho_8 ho_19 (va_P.swap (a := []) (b := wM cB cC cI cJ w_17) (c := wX cB cC cI cJ w_6) hP) (va_D.swap (a := []) (b := wM cB cC cI cJ w_17) (c := wX cB cC cI cJ w_6) hD) hS hl
set_option maxHeartbeats 8000000 in
set_option maxRecDepth 100000 in
theorem lo_26 {p : Program} {l : Launch} {e : Env} {s : State} {m : MethodId} {below : List Frame} {meth : Method} {c : Code} {D : va_G} {cB cC cI cJ : ClassId} {b L : Nat} {xs : Nat → Int32} {adK adV : Nat → Nat} (C0 : lw_At p s m meth c b L xs) (hLN : L ≤ 3072) (hK : va_K D gcl [(cB, .byte), (cC, .char), (cI, .int), (cJ, .long)] s) (hF : sF adK adV (fun q : Nat => s.heap.size ≤ q) s s.heap) (o1 o2 : Nat) (i : Int32) (hi0 : 0 ≤ i.toInt) (hi1 : i.toInt + 6 ≤ (L : Int)) (u v : gEx) (hfX : fX u) (hfM : fM v) (heq : tEq (u.2.1 4) (u.2.2.2.1 7).toInt (v.2.1 0) (v.2.2.2.1 0).toInt ∧ ((u.2.2.2.1 5).toInt = (v.2.2.2.1 6).toInt ∧ (u.2.2.2.1 6).toInt = (v.2.2.2.1 7).toInt ∧ (u.2.2.2.1 15).toInt = (v.2.2.2.1 8).toInt ∧ (u.2.2.2.1 16).toInt = (v.2.2.2.1 9).toInt ∧ (u.2.2.2.1 17).toInt = (v.2.2.2.1 10).toInt ∧ (u.2.2.2.1 18).toInt = (v.2.2.2.1 11).toInt ∧ (u.2.2.2.1 19).toInt = (v.2.2.2.1 12).toInt)) (hu0 : u.1 0 = o1) (hv0 : v.1 0 = o2) (H : Heap) (locs : List Loc) (ls : Array Slot) (hP : va_P D gcl (wX cB cC cI cJ u ++ wM cB cC cI cJ v) H) (hD : va_D (fun q : Nat => s.heap.size ≤ q) (wX cB cC cI cJ u ++ wM cB cC cI cJ v)) (hS : va_S (fun q : Nat => s.heap.size ≤ q) s.heap H locs) (hl : lv_has ls 4 [(3, .int i), (2, .ref o2), (1, .ref o1), (0, .ref b)])
    (kk : ∀ (u v : gEx) (H : Heap) (locs : List Loc) (ls : Array Slot), fX u → fM v → tEq (u.2.1 4) (u.2.2.2.1 7).toInt (v.2.1 0) (v.2.2.2.1 0).toInt ∧ ((u.2.2.2.1 5).toInt = (v.2.2.2.1 6).toInt ∧ (u.2.2.2.1 6).toInt = (v.2.2.2.1 7).toInt ∧ (u.2.2.2.1 15).toInt = (v.2.2.2.1 8).toInt ∧ (u.2.2.2.1 16).toInt = (v.2.2.2.1 9).toInt ∧ (u.2.2.2.1 17).toInt = (v.2.2.2.1 10).toInt ∧ (u.2.2.2.1 18).toInt = (v.2.2.2.1 11).toInt ∧ (u.2.2.2.1 19).toInt = (v.2.2.2.1 12).toInt) → u.1 0 = o1 → v.1 0 = o2 → va_P D gcl (wX cB cC cI cJ u ++ wM cB cC cI cJ v) H → va_D (fun q : Nat => s.heap.size ≤ q) (wX cB cC cI cJ u ++ wM cB cC cI cJ v) → va_S (fun q : Nat => s.heap.size ≤ q) s.heap H locs → lv_has ls 4 [(3, .int i), (2, .ref o2), (1, .ref o1), (0, .ref b)] → W p l e room_1 s m #[Value.ref b] below meth c H locs 126 15724 (lw_Z below #[Value.ref b] s) (F0 m 1519 ls [])) : W p l e room_1 s m #[Value.ref b] below meth c H locs 126 15724 (lw_Z below #[Value.ref b] s) (F0 m 958 ls []) := by
  subst hu0
  subst hv0
  have hlen := heq.1.1
  have hreg := heq.2
  obtain ⟨hx, hb, hr, hml, hown, hts0, hX, hbl, hlocks, hgv⟩ := id C0
  have hts := g_tbl hts0
  have hbA : ¬ (fun q : Nat => s.heap.size ≤ q) b := Nat.not_le.mpr hbl
  refine lv_aload_n (pc := 958) hx hb dL_law_958 rfl (lv_at hl 2 rfl) ?_
  refine lv_aload_n (pc := 959) hx hb dL_law_959 rfl (lv_at hl 3 rfl) ?_
  refine lv_iload_n (pc := 960) hx hb dL_law_960 rfl (lv_at hl 0 rfl) ?_
  refine lv_iconst (pc := 961) (v := 1) hx hb dL_law_961 (by decide) ?_
  refine b_iadd (pc := 962) hx hb rfl tI_1 (by omega) (by omega) dL_law_962 (fun x_1 ex_1 => ?_)
  refine va_sld (pc := 963) hx hb hX hbl hbA hS (n_in rfl (by omega) (by omega)) dL_law_963 ?_
  refine lv_topi (fun x_2 ex_2 => ?_)
  have rx_2 := n_rng x_2
  have tx_2 := congrArg Int32.toInt (e_ld (f := xs) (show x_2 = xs (x_1.toInt).toNat from ex_2) (show x_1.toInt = (i.toInt) + (1) by omega))
  refine lv_aload_n (pc := 964) hx hb dL_law_964 rfl (lv_at hl 3 rfl) ?_
  refine lv_iload_n (pc := 965) hx hb dL_law_965 rfl (lv_at hl 0 rfl) ?_
  refine lv_iconst (pc := 966) (v := 2) hx hb dL_law_966 (by decide) ?_
  refine b_iadd (pc := 967) hx hb rfl tI_2 (by omega) (by omega) dL_law_967 (fun x_3 ex_3 => ?_)
  refine va_sld (pc := 968) hx hb hX hbl hbA hS (n_in rfl (by omega) (by omega)) dL_law_968 ?_
  refine lv_topi (fun x_4 ex_4 => ?_)
  have rx_4 := n_rng x_4
  have tx_4 := congrArg Int32.toInt (e_ld (f := xs) (show x_4 = xs (x_3.toInt).toNat from ex_4) (show x_3.toInt = (i.toInt) + (2) by omega))
  refine lv_aload_n (pc := 969) hx hb dL_law_969 rfl (lv_at hl 3 rfl) ?_
  refine lv_iload_n (pc := 970) hx hb dL_law_970 rfl (lv_at hl 0 rfl) ?_
  refine lv_iconst (pc := 971) (v := 3) hx hb dL_law_971 (by decide) ?_
  refine b_iadd (pc := 972) hx hb rfl tI_3 (by omega) (by omega) dL_law_972 (fun x_5 ex_5 => ?_)
  refine va_sld (pc := 973) hx hb hX hbl hbA hS (n_in rfl (by omega) (by omega)) dL_law_973 ?_
  refine lv_topi (fun x_6 ex_6 => ?_)
  have rx_6 := n_rng x_6
  have tx_6 := congrArg Int32.toInt (e_ld (f := xs) (show x_6 = xs (x_5.toInt).toNat from ex_6) (show x_5.toInt = (i.toInt) + (3) by omega))
  refine b_if_eq (pc := 974) (tgt := 981) hx hb rfl  dL_law_974 (by decide) (fun c_7 => ?_) (fun c_7 => ?_)
  ·
    refine lv_iconst (pc := 981) (v := 0) hx hb dL_law_981 (by decide) ?_
    refine cc_982 C0 hK hF u hfX hl x_2 x_4 (0 : Int32) (by rw [tI_0]; decide) hP hD hS (fun r_8 w_9 H locs hf_10 ho_11 he_12 he_13 he_14 hP hD hS => ?_)
    have rr_8 := n_rng r_8
    refine lv_pop (pc := 985) hx hb dL_law_985 rfl ?_
    refine lv_aload_n (pc := 986) hx hb dL_law_986 rfl (lv_at hl 1 rfl) ?_
    refine lv_aload_n (pc := 987) hx hb dL_law_987 rfl (lv_at hl 3 rfl) ?_
    refine lv_iload_n (pc := 988) hx hb dL_law_988 rfl (lv_at hl 0 rfl) ?_
    refine lv_iconst (pc := 989) (v := 1) hx hb dL_law_989 (by decide) ?_
    refine b_iadd (pc := 990) hx hb rfl tI_1 (by omega) (by omega) dL_law_990 (fun x_15 ex_15 => ?_)
    refine va_sld (pc := 991) hx hb hX hbl hbA hS (n_in rfl (by omega) (by omega)) dL_law_991 ?_
    refine lv_topi (fun x_16 ex_16 => ?_)
    have rx_16 := n_rng x_16
    have tx_16 := congrArg Int32.toInt (e_ld (f := xs) (show x_16 = xs (x_15.toInt).toNat from ex_16) (show x_15.toInt = (i.toInt) + (1) by omega))
    refine lv_aload_n (pc := 992) hx hb dL_law_992 rfl (lv_at hl 3 rfl) ?_
    refine lv_iload_n (pc := 993) hx hb dL_law_993 rfl (lv_at hl 0 rfl) ?_
    refine lv_iconst (pc := 994) (v := 2) hx hb dL_law_994 (by decide) ?_
    refine b_iadd (pc := 995) hx hb rfl tI_2 (by omega) (by omega) dL_law_995 (fun x_17 ex_17 => ?_)
    refine va_sld (pc := 996) hx hb hX hbl hbA hS (n_in rfl (by omega) (by omega)) dL_law_996 ?_
    refine lv_topi (fun x_18 ex_18 => ?_)
    have rx_18 := n_rng x_18
    have tx_18 := congrArg Int32.toInt (e_ld (f := xs) (show x_18 = xs (x_17.toInt).toNat from ex_18) (show x_17.toInt = (i.toInt) + (2) by omega))
    refine lv_aload_n (pc := 997) hx hb dL_law_997 rfl (lv_at hl 3 rfl) ?_
    refine lv_iload_n (pc := 998) hx hb dL_law_998 rfl (lv_at hl 0 rfl) ?_
    refine lv_iconst (pc := 999) (v := 3) hx hb dL_law_999 (by decide) ?_
    refine b_iadd (pc := 1000) hx hb rfl tI_3 (by omega) (by omega) dL_law_1000 (fun x_19 ex_19 => ?_)
    refine va_sld (pc := 1001) hx hb hX hbl hbA hS (n_in rfl (by omega) (by omega)) dL_law_1001 ?_
    refine lv_topi (fun x_20 ex_20 => ?_)
    have rx_20 := n_rng x_20
    have tx_20 := congrArg Int32.toInt (e_ld (f := xs) (show x_20 = xs (x_19.toInt).toNat from ex_20) (show x_19.toInt = (i.toInt) + (3) by omega))
    refine b_if_eq (pc := 1002) (tgt := 1009) hx hb rfl  dL_law_1002 (by decide) (fun c_21 => ?_) (fun c_21 => ?_)
    ·
      refine lv_iconst (pc := 1009) (v := 0) hx hb dL_law_1009 (by decide) ?_
      have hP : va_P D gcl (wM cB cC cI cJ v ++ wX cB cC cI cJ w_9) H := va_P.swap (a := []) (b := wX cB cC cI cJ w_9) (c := wM cB cC cI cJ v) hP
      have hD : va_D (fun q : Nat => s.heap.size ≤ q) (wM cB cC cI cJ v ++ wX cB cC cI cJ w_9) := va_D.swap (a := []) (b := wX cB cC cI cJ w_9) (c := wM cB cC cI cJ v) hD
      refine cc_1010 C0 hK hF v hfM hl x_16 x_18 (0 : Int32) (by rw [tI_0]; decide) hP hD hS (fun r_22 w_23 H locs hf_24 ho_25 he_26 he_27 he_28 hP hD hS => ?_)
      have rr_22 := n_rng r_22
      refine lv_pop (pc := 1013) hx hb dL_law_1013 rfl ?_
      refine lv_goto (pc := 1014) (tgt := 1519) hx hb dL_law_1014 (by decide) ?_
      exact kk w_9 w_23 H locs ls hf_10 hf_24 ⟨te_cut heq.1 he_13 he_27 (by omega) (by omega), by omega⟩ ho_11 ho_25 (va_P.swap (a := []) (b := wM cB cC cI cJ w_23) (c := wX cB cC cI cJ w_9) hP) (va_D.swap (a := []) (b := wM cB cC cI cJ w_23) (c := wX cB cC cI cJ w_9) hD) hS hl
    ·
      refine lv_iconst (pc := 1005) (v := 1) hx hb dL_law_1005 (by decide) ?_
      refine lv_goto (pc := 1006) (tgt := 1010) hx hb dL_law_1006 (by decide) ?_
      have hP : va_P D gcl (wM cB cC cI cJ v ++ wX cB cC cI cJ w_9) H := va_P.swap (a := []) (b := wX cB cC cI cJ w_9) (c := wM cB cC cI cJ v) hP
      have hD : va_D (fun q : Nat => s.heap.size ≤ q) (wM cB cC cI cJ v ++ wX cB cC cI cJ w_9) := va_D.swap (a := []) (b := wX cB cC cI cJ w_9) (c := wM cB cC cI cJ v) hD
      refine cc_1010 C0 hK hF v hfM hl x_16 x_18 (1 : Int32) (by rw [tI_1]; decide) hP hD hS (fun r_29 w_30 H locs hf_31 ho_32 he_33 he_34 he_35 hP hD hS => ?_)
      have rr_29 := n_rng r_29
      refine lv_pop (pc := 1013) hx hb dL_law_1013 rfl ?_
      refine lv_goto (pc := 1014) (tgt := 1519) hx hb dL_law_1014 (by decide) ?_
      exact kk w_9 w_30 H locs ls hf_10 hf_31 ⟨te_cut heq.1 he_13 he_34 (by omega) (by omega), by omega⟩ ho_11 ho_32 (va_P.swap (a := []) (b := wM cB cC cI cJ w_30) (c := wX cB cC cI cJ w_9) hP) (va_D.swap (a := []) (b := wM cB cC cI cJ w_30) (c := wX cB cC cI cJ w_9) hD) hS hl
  ·
    refine lv_iconst (pc := 977) (v := 1) hx hb dL_law_977 (by decide) ?_
    refine lv_goto (pc := 978) (tgt := 982) hx hb dL_law_978 (by decide) ?_
    refine cc_982 C0 hK hF u hfX hl x_2 x_4 (1 : Int32) (by rw [tI_1]; decide) hP hD hS (fun r_36 w_37 H locs hf_38 ho_39 he_40 he_41 he_42 hP hD hS => ?_)
    have rr_36 := n_rng r_36
    refine lv_pop (pc := 985) hx hb dL_law_985 rfl ?_
    refine lv_aload_n (pc := 986) hx hb dL_law_986 rfl (lv_at hl 1 rfl) ?_
    refine lv_aload_n (pc := 987) hx hb dL_law_987 rfl (lv_at hl 3 rfl) ?_
    refine lv_iload_n (pc := 988) hx hb dL_law_988 rfl (lv_at hl 0 rfl) ?_
    refine lv_iconst (pc := 989) (v := 1) hx hb dL_law_989 (by decide) ?_
    refine b_iadd (pc := 990) hx hb rfl tI_1 (by omega) (by omega) dL_law_990 (fun x_43 ex_43 => ?_)
    refine va_sld (pc := 991) hx hb hX hbl hbA hS (n_in rfl (by omega) (by omega)) dL_law_991 ?_
    refine lv_topi (fun x_44 ex_44 => ?_)
    have rx_44 := n_rng x_44
    have tx_44 := congrArg Int32.toInt (e_ld (f := xs) (show x_44 = xs (x_43.toInt).toNat from ex_44) (show x_43.toInt = (i.toInt) + (1) by omega))
    refine lv_aload_n (pc := 992) hx hb dL_law_992 rfl (lv_at hl 3 rfl) ?_
    refine lv_iload_n (pc := 993) hx hb dL_law_993 rfl (lv_at hl 0 rfl) ?_
    refine lv_iconst (pc := 994) (v := 2) hx hb dL_law_994 (by decide) ?_
    refine b_iadd (pc := 995) hx hb rfl tI_2 (by omega) (by omega) dL_law_995 (fun x_45 ex_45 => ?_)
    refine va_sld (pc := 996) hx hb hX hbl hbA hS (n_in rfl (by omega) (by omega)) dL_law_996 ?_
    refine lv_topi (fun x_46 ex_46 => ?_)
    have rx_46 := n_rng x_46
    have tx_46 := congrArg Int32.toInt (e_ld (f := xs) (show x_46 = xs (x_45.toInt).toNat from ex_46) (show x_45.toInt = (i.toInt) + (2) by omega))
    refine lv_aload_n (pc := 997) hx hb dL_law_997 rfl (lv_at hl 3 rfl) ?_
    refine lv_iload_n (pc := 998) hx hb dL_law_998 rfl (lv_at hl 0 rfl) ?_
    refine lv_iconst (pc := 999) (v := 3) hx hb dL_law_999 (by decide) ?_
    refine b_iadd (pc := 1000) hx hb rfl tI_3 (by omega) (by omega) dL_law_1000 (fun x_47 ex_47 => ?_)
    refine va_sld (pc := 1001) hx hb hX hbl hbA hS (n_in rfl (by omega) (by omega)) dL_law_1001 ?_
    refine lv_topi (fun x_48 ex_48 => ?_)
    have rx_48 := n_rng x_48
    have tx_48 := congrArg Int32.toInt (e_ld (f := xs) (show x_48 = xs (x_47.toInt).toNat from ex_48) (show x_47.toInt = (i.toInt) + (3) by omega))
    refine b_if_eq (pc := 1002) (tgt := 1009) hx hb rfl  dL_law_1002 (by decide) (fun c_49 => ?_) (fun c_49 => ?_)
    ·
      refine lv_iconst (pc := 1009) (v := 0) hx hb dL_law_1009 (by decide) ?_
      have hP : va_P D gcl (wM cB cC cI cJ v ++ wX cB cC cI cJ w_37) H := va_P.swap (a := []) (b := wX cB cC cI cJ w_37) (c := wM cB cC cI cJ v) hP
      have hD : va_D (fun q : Nat => s.heap.size ≤ q) (wM cB cC cI cJ v ++ wX cB cC cI cJ w_37) := va_D.swap (a := []) (b := wX cB cC cI cJ w_37) (c := wM cB cC cI cJ v) hD
      refine cc_1010 C0 hK hF v hfM hl x_44 x_46 (0 : Int32) (by rw [tI_0]; decide) hP hD hS (fun r_50 w_51 H locs hf_52 ho_53 he_54 he_55 he_56 hP hD hS => ?_)
      have rr_50 := n_rng r_50
      refine lv_pop (pc := 1013) hx hb dL_law_1013 rfl ?_
      refine lv_goto (pc := 1014) (tgt := 1519) hx hb dL_law_1014 (by decide) ?_
      exact kk w_37 w_51 H locs ls hf_38 hf_52 ⟨te_cut heq.1 he_41 he_55 (by omega) (by omega), by omega⟩ ho_39 ho_53 (va_P.swap (a := []) (b := wM cB cC cI cJ w_51) (c := wX cB cC cI cJ w_37) hP) (va_D.swap (a := []) (b := wM cB cC cI cJ w_51) (c := wX cB cC cI cJ w_37) hD) hS hl
    ·
      refine lv_iconst (pc := 1005) (v := 1) hx hb dL_law_1005 (by decide) ?_
      refine lv_goto (pc := 1006) (tgt := 1010) hx hb dL_law_1006 (by decide) ?_
      have hP : va_P D gcl (wM cB cC cI cJ v ++ wX cB cC cI cJ w_37) H := va_P.swap (a := []) (b := wX cB cC cI cJ w_37) (c := wM cB cC cI cJ v) hP
      have hD : va_D (fun q : Nat => s.heap.size ≤ q) (wM cB cC cI cJ v ++ wX cB cC cI cJ w_37) := va_D.swap (a := []) (b := wX cB cC cI cJ w_37) (c := wM cB cC cI cJ v) hD
      refine cc_1010 C0 hK hF v hfM hl x_44 x_46 (1 : Int32) (by rw [tI_1]; decide) hP hD hS (fun r_57 w_58 H locs hf_59 ho_60 he_61 he_62 he_63 hP hD hS => ?_)
      have rr_57 := n_rng r_57
      refine lv_pop (pc := 1013) hx hb dL_law_1013 rfl ?_
      refine lv_goto (pc := 1014) (tgt := 1519) hx hb dL_law_1014 (by decide) ?_
      exact kk w_37 w_58 H locs ls hf_38 hf_59 ⟨te_cut heq.1 he_41 he_62 (by omega) (by omega), by omega⟩ ho_39 ho_60 (va_P.swap (a := []) (b := wM cB cC cI cJ w_58) (c := wX cB cC cI cJ w_37) hP) (va_D.swap (a := []) (b := wM cB cC cI cJ w_58) (c := wX cB cC cI cJ w_37) hD) hS hl
set_option maxHeartbeats 8000000 in
set_option maxRecDepth 100000 in
theorem lo_27 {p : Program} {l : Launch} {e : Env} {s : State} {m : MethodId} {below : List Frame} {meth : Method} {c : Code} {D : va_G} {cB cC cI cJ : ClassId} {b L : Nat} {xs : Nat → Int32} {adK adV : Nat → Nat} (C0 : lw_At p s m meth c b L xs) (hLN : L ≤ 3072) (hK : va_K D gcl [(cB, .byte), (cC, .char), (cI, .int), (cJ, .long)] s) (hF : sF adK adV (fun q : Nat => s.heap.size ≤ q) s s.heap) (o1 o2 : Nat) (i : Int32) (hi0 : 0 ≤ i.toInt) (hi1 : i.toInt + 6 ≤ (L : Int)) (u v : gEx) (hfX : fX u) (hfM : fM v) (heq : tEq (u.2.1 4) (u.2.2.2.1 7).toInt (v.2.1 0) (v.2.2.2.1 0).toInt ∧ ((u.2.2.2.1 5).toInt = (v.2.2.2.1 6).toInt ∧ (u.2.2.2.1 6).toInt = (v.2.2.2.1 7).toInt ∧ (u.2.2.2.1 15).toInt = (v.2.2.2.1 8).toInt ∧ (u.2.2.2.1 16).toInt = (v.2.2.2.1 9).toInt ∧ (u.2.2.2.1 17).toInt = (v.2.2.2.1 10).toInt ∧ (u.2.2.2.1 18).toInt = (v.2.2.2.1 11).toInt ∧ (u.2.2.2.1 19).toInt = (v.2.2.2.1 12).toInt)) (hu0 : u.1 0 = o1) (hv0 : v.1 0 = o2) (H : Heap) (locs : List Loc) (ls : Array Slot) (hP : va_P D gcl (wX cB cC cI cJ u ++ wM cB cC cI cJ v) H) (hD : va_D (fun q : Nat => s.heap.size ≤ q) (wX cB cC cI cJ u ++ wM cB cC cI cJ v)) (hS : va_S (fun q : Nat => s.heap.size ≤ q) s.heap H locs) (hl : lv_has ls 4 [(3, .int i), (2, .ref o2), (1, .ref o1), (0, .ref b)])
    (kk : ∀ (u v : gEx) (H : Heap) (locs : List Loc) (ls : Array Slot), fX u → fM v → tEq (u.2.1 4) (u.2.2.2.1 7).toInt (v.2.1 0) (v.2.2.2.1 0).toInt ∧ ((u.2.2.2.1 5).toInt = (v.2.2.2.1 6).toInt ∧ (u.2.2.2.1 6).toInt = (v.2.2.2.1 7).toInt ∧ (u.2.2.2.1 15).toInt = (v.2.2.2.1 8).toInt ∧ (u.2.2.2.1 16).toInt = (v.2.2.2.1 9).toInt ∧ (u.2.2.2.1 17).toInt = (v.2.2.2.1 10).toInt ∧ (u.2.2.2.1 18).toInt = (v.2.2.2.1 11).toInt ∧ (u.2.2.2.1 19).toInt = (v.2.2.2.1 12).toInt) → u.1 0 = o1 → v.1 0 = o2 → va_P D gcl (wX cB cC cI cJ u ++ wM cB cC cI cJ v) H → va_D (fun q : Nat => s.heap.size ≤ q) (wX cB cC cI cJ u ++ wM cB cC cI cJ v) → va_S (fun q : Nat => s.heap.size ≤ q) s.heap H locs → lv_has ls 4 [(3, .int i), (2, .ref o2), (1, .ref o1), (0, .ref b)] → W p l e room_1 s m #[Value.ref b] below meth c H locs 126 15724 (lw_Z below #[Value.ref b] s) (F0 m 1519 ls [])) : W p l e room_1 s m #[Value.ref b] below meth c H locs 126 15724 (lw_Z below #[Value.ref b] s) (F0 m 1017 ls []) := by
  subst hu0
  subst hv0
  have hlen := heq.1.1
  have hreg := heq.2
  obtain ⟨hx, hb, hr, hml, hown, hts0, hX, hbl, hlocks, hgv⟩ := id C0
  have hts := g_tbl hts0
  have hbA : ¬ (fun q : Nat => s.heap.size ≤ q) b := Nat.not_le.mpr hbl
  refine lv_aload_n (pc := 1017) hx hb dL_law_1017 rfl (lv_at hl 2 rfl) ?_
  refine lv_aload_n (pc := 1018) hx hb dL_law_1018 rfl (lv_at hl 3 rfl) ?_
  refine lv_iload_n (pc := 1019) hx hb dL_law_1019 rfl (lv_at hl 0 rfl) ?_
  refine lv_iconst (pc := 1020) (v := 1) hx hb dL_law_1020 (by decide) ?_
  refine b_iadd (pc := 1021) hx hb rfl tI_1 (by omega) (by omega) dL_law_1021 (fun x_1 ex_1 => ?_)
  refine va_sld (pc := 1022) hx hb hX hbl hbA hS (n_in rfl (by omega) (by omega)) dL_law_1022 ?_
  refine lv_topi (fun x_2 ex_2 => ?_)
  have rx_2 := n_rng x_2
  have tx_2 := congrArg Int32.toInt (e_ld (f := xs) (show x_2 = xs (x_1.toInt).toNat from ex_2) (show x_1.toInt = (i.toInt) + (1) by omega))
  refine b_if_eq (pc := 1023) (tgt := 1030) hx hb rfl  dL_law_1023 (by decide) (fun c_3 => ?_) (fun c_3 => ?_)
  ·
    refine lv_iconst (pc := 1030) (v := 0) hx hb dL_law_1030 (by decide) ?_
    refine cc_1031 C0 hK hF u hfX hl (0 : Int32) (by rw [tI_0]; decide) hP hD hS (fun r_4 w_5 H locs hf_6 ho_7 he_8 he_9 he_10 hP hD hS => ?_)
    have rr_4 := n_rng r_4
    refine lv_pop (pc := 1034) hx hb dL_law_1034 rfl ?_
    refine lv_aload_n (pc := 1035) hx hb dL_law_1035 rfl (lv_at hl 1 rfl) ?_
    refine lv_aload_n (pc := 1036) hx hb dL_law_1036 rfl (lv_at hl 3 rfl) ?_
    refine lv_iload_n (pc := 1037) hx hb dL_law_1037 rfl (lv_at hl 0 rfl) ?_
    refine lv_iconst (pc := 1038) (v := 1) hx hb dL_law_1038 (by decide) ?_
    refine b_iadd (pc := 1039) hx hb rfl tI_1 (by omega) (by omega) dL_law_1039 (fun x_11 ex_11 => ?_)
    refine va_sld (pc := 1040) hx hb hX hbl hbA hS (n_in rfl (by omega) (by omega)) dL_law_1040 ?_
    refine lv_topi (fun x_12 ex_12 => ?_)
    have rx_12 := n_rng x_12
    have tx_12 := congrArg Int32.toInt (e_ld (f := xs) (show x_12 = xs (x_11.toInt).toNat from ex_12) (show x_11.toInt = (i.toInt) + (1) by omega))
    refine b_if_eq (pc := 1041) (tgt := 1048) hx hb rfl  dL_law_1041 (by decide) (fun c_13 => ?_) (fun c_13 => ?_)
    ·
      refine lv_iconst (pc := 1048) (v := 0) hx hb dL_law_1048 (by decide) ?_
      have hP : va_P D gcl (wM cB cC cI cJ v ++ wX cB cC cI cJ w_5) H := va_P.swap (a := []) (b := wX cB cC cI cJ w_5) (c := wM cB cC cI cJ v) hP
      have hD : va_D (fun q : Nat => s.heap.size ≤ q) (wM cB cC cI cJ v ++ wX cB cC cI cJ w_5) := va_D.swap (a := []) (b := wX cB cC cI cJ w_5) (c := wM cB cC cI cJ v) hD
      refine cc_1049 C0 hK hF v hfM hl (0 : Int32) (by rw [tI_0]; decide) hP hD hS (fun r_14 w_15 H locs hf_16 ho_17 he_18 he_19 he_20 hP hD hS => ?_)
      have rr_14 := n_rng r_14
      refine lv_pop (pc := 1052) hx hb dL_law_1052 rfl ?_
      refine lv_goto (pc := 1053) (tgt := 1519) hx hb dL_law_1053 (by decide) ?_
      exact kk w_5 w_15 H locs ls hf_6 hf_16 ⟨te_cut heq.1 he_9 he_19 (by omega) (by omega), by omega⟩ ho_7 ho_17 (va_P.swap (a := []) (b := wM cB cC cI cJ w_15) (c := wX cB cC cI cJ w_5) hP) (va_D.swap (a := []) (b := wM cB cC cI cJ w_15) (c := wX cB cC cI cJ w_5) hD) hS hl
    ·
      refine lv_iconst (pc := 1044) (v := 1) hx hb dL_law_1044 (by decide) ?_
      refine lv_goto (pc := 1045) (tgt := 1049) hx hb dL_law_1045 (by decide) ?_
      have hP : va_P D gcl (wM cB cC cI cJ v ++ wX cB cC cI cJ w_5) H := va_P.swap (a := []) (b := wX cB cC cI cJ w_5) (c := wM cB cC cI cJ v) hP
      have hD : va_D (fun q : Nat => s.heap.size ≤ q) (wM cB cC cI cJ v ++ wX cB cC cI cJ w_5) := va_D.swap (a := []) (b := wX cB cC cI cJ w_5) (c := wM cB cC cI cJ v) hD
      refine cc_1049 C0 hK hF v hfM hl (1 : Int32) (by rw [tI_1]; decide) hP hD hS (fun r_21 w_22 H locs hf_23 ho_24 he_25 he_26 he_27 hP hD hS => ?_)
      have rr_21 := n_rng r_21
      refine lv_pop (pc := 1052) hx hb dL_law_1052 rfl ?_
      refine lv_goto (pc := 1053) (tgt := 1519) hx hb dL_law_1053 (by decide) ?_
      exact kk w_5 w_22 H locs ls hf_6 hf_23 ⟨te_cut heq.1 he_9 he_26 (by omega) (by omega), by omega⟩ ho_7 ho_24 (va_P.swap (a := []) (b := wM cB cC cI cJ w_22) (c := wX cB cC cI cJ w_5) hP) (va_D.swap (a := []) (b := wM cB cC cI cJ w_22) (c := wX cB cC cI cJ w_5) hD) hS hl
  ·
    refine lv_iconst (pc := 1026) (v := 1) hx hb dL_law_1026 (by decide) ?_
    refine lv_goto (pc := 1027) (tgt := 1031) hx hb dL_law_1027 (by decide) ?_
    refine cc_1031 C0 hK hF u hfX hl (1 : Int32) (by rw [tI_1]; decide) hP hD hS (fun r_28 w_29 H locs hf_30 ho_31 he_32 he_33 he_34 hP hD hS => ?_)
    have rr_28 := n_rng r_28
    refine lv_pop (pc := 1034) hx hb dL_law_1034 rfl ?_
    refine lv_aload_n (pc := 1035) hx hb dL_law_1035 rfl (lv_at hl 1 rfl) ?_
    refine lv_aload_n (pc := 1036) hx hb dL_law_1036 rfl (lv_at hl 3 rfl) ?_
    refine lv_iload_n (pc := 1037) hx hb dL_law_1037 rfl (lv_at hl 0 rfl) ?_
    refine lv_iconst (pc := 1038) (v := 1) hx hb dL_law_1038 (by decide) ?_
    refine b_iadd (pc := 1039) hx hb rfl tI_1 (by omega) (by omega) dL_law_1039 (fun x_35 ex_35 => ?_)
    refine va_sld (pc := 1040) hx hb hX hbl hbA hS (n_in rfl (by omega) (by omega)) dL_law_1040 ?_
    refine lv_topi (fun x_36 ex_36 => ?_)
    have rx_36 := n_rng x_36
    have tx_36 := congrArg Int32.toInt (e_ld (f := xs) (show x_36 = xs (x_35.toInt).toNat from ex_36) (show x_35.toInt = (i.toInt) + (1) by omega))
    refine b_if_eq (pc := 1041) (tgt := 1048) hx hb rfl  dL_law_1041 (by decide) (fun c_37 => ?_) (fun c_37 => ?_)
    ·
      refine lv_iconst (pc := 1048) (v := 0) hx hb dL_law_1048 (by decide) ?_
      have hP : va_P D gcl (wM cB cC cI cJ v ++ wX cB cC cI cJ w_29) H := va_P.swap (a := []) (b := wX cB cC cI cJ w_29) (c := wM cB cC cI cJ v) hP
      have hD : va_D (fun q : Nat => s.heap.size ≤ q) (wM cB cC cI cJ v ++ wX cB cC cI cJ w_29) := va_D.swap (a := []) (b := wX cB cC cI cJ w_29) (c := wM cB cC cI cJ v) hD
      refine cc_1049 C0 hK hF v hfM hl (0 : Int32) (by rw [tI_0]; decide) hP hD hS (fun r_38 w_39 H locs hf_40 ho_41 he_42 he_43 he_44 hP hD hS => ?_)
      have rr_38 := n_rng r_38
      refine lv_pop (pc := 1052) hx hb dL_law_1052 rfl ?_
      refine lv_goto (pc := 1053) (tgt := 1519) hx hb dL_law_1053 (by decide) ?_
      exact kk w_29 w_39 H locs ls hf_30 hf_40 ⟨te_cut heq.1 he_33 he_43 (by omega) (by omega), by omega⟩ ho_31 ho_41 (va_P.swap (a := []) (b := wM cB cC cI cJ w_39) (c := wX cB cC cI cJ w_29) hP) (va_D.swap (a := []) (b := wM cB cC cI cJ w_39) (c := wX cB cC cI cJ w_29) hD) hS hl
    ·
      refine lv_iconst (pc := 1044) (v := 1) hx hb dL_law_1044 (by decide) ?_
      refine lv_goto (pc := 1045) (tgt := 1049) hx hb dL_law_1045 (by decide) ?_
      have hP : va_P D gcl (wM cB cC cI cJ v ++ wX cB cC cI cJ w_29) H := va_P.swap (a := []) (b := wX cB cC cI cJ w_29) (c := wM cB cC cI cJ v) hP
      have hD : va_D (fun q : Nat => s.heap.size ≤ q) (wM cB cC cI cJ v ++ wX cB cC cI cJ w_29) := va_D.swap (a := []) (b := wX cB cC cI cJ w_29) (c := wM cB cC cI cJ v) hD
      refine cc_1049 C0 hK hF v hfM hl (1 : Int32) (by rw [tI_1]; decide) hP hD hS (fun r_45 w_46 H locs hf_47 ho_48 he_49 he_50 he_51 hP hD hS => ?_)
      have rr_45 := n_rng r_45
      refine lv_pop (pc := 1052) hx hb dL_law_1052 rfl ?_
      refine lv_goto (pc := 1053) (tgt := 1519) hx hb dL_law_1053 (by decide) ?_
      exact kk w_29 w_46 H locs ls hf_30 hf_47 ⟨te_cut heq.1 he_33 he_50 (by omega) (by omega), by omega⟩ ho_31 ho_48 (va_P.swap (a := []) (b := wM cB cC cI cJ w_46) (c := wX cB cC cI cJ w_29) hP) (va_D.swap (a := []) (b := wM cB cC cI cJ w_46) (c := wX cB cC cI cJ w_29) hD) hS hl
set_option maxHeartbeats 8000000 in
set_option maxRecDepth 100000 in
theorem lo_28 {p : Program} {l : Launch} {e : Env} {s : State} {m : MethodId} {below : List Frame} {meth : Method} {c : Code} {D : va_G} {cB cC cI cJ : ClassId} {b L : Nat} {xs : Nat → Int32} {adK adV : Nat → Nat} (C0 : lw_At p s m meth c b L xs) (hLN : L ≤ 3072) (hK : va_K D gcl [(cB, .byte), (cC, .char), (cI, .int), (cJ, .long)] s) (hF : sF adK adV (fun q : Nat => s.heap.size ≤ q) s s.heap) (o1 o2 : Nat) (i : Int32) (hi0 : 0 ≤ i.toInt) (hi1 : i.toInt + 6 ≤ (L : Int)) (u v : gEx) (hfX : fX u) (hfM : fM v) (heq : tEq (u.2.1 4) (u.2.2.2.1 7).toInt (v.2.1 0) (v.2.2.2.1 0).toInt ∧ ((u.2.2.2.1 5).toInt = (v.2.2.2.1 6).toInt ∧ (u.2.2.2.1 6).toInt = (v.2.2.2.1 7).toInt ∧ (u.2.2.2.1 15).toInt = (v.2.2.2.1 8).toInt ∧ (u.2.2.2.1 16).toInt = (v.2.2.2.1 9).toInt ∧ (u.2.2.2.1 17).toInt = (v.2.2.2.1 10).toInt ∧ (u.2.2.2.1 18).toInt = (v.2.2.2.1 11).toInt ∧ (u.2.2.2.1 19).toInt = (v.2.2.2.1 12).toInt)) (hu0 : u.1 0 = o1) (hv0 : v.1 0 = o2) (H : Heap) (locs : List Loc) (ls : Array Slot) (hP : va_P D gcl (wX cB cC cI cJ u ++ wM cB cC cI cJ v) H) (hD : va_D (fun q : Nat => s.heap.size ≤ q) (wX cB cC cI cJ u ++ wM cB cC cI cJ v)) (hS : va_S (fun q : Nat => s.heap.size ≤ q) s.heap H locs) (hl : lv_has ls 4 [(3, .int i), (2, .ref o2), (1, .ref o1), (0, .ref b)])
    (kk : ∀ (u v : gEx) (H : Heap) (locs : List Loc) (ls : Array Slot), fX u → fM v → tEq (u.2.1 4) (u.2.2.2.1 7).toInt (v.2.1 0) (v.2.2.2.1 0).toInt ∧ ((u.2.2.2.1 5).toInt = (v.2.2.2.1 6).toInt ∧ (u.2.2.2.1 6).toInt = (v.2.2.2.1 7).toInt ∧ (u.2.2.2.1 15).toInt = (v.2.2.2.1 8).toInt ∧ (u.2.2.2.1 16).toInt = (v.2.2.2.1 9).toInt ∧ (u.2.2.2.1 17).toInt = (v.2.2.2.1 10).toInt ∧ (u.2.2.2.1 18).toInt = (v.2.2.2.1 11).toInt ∧ (u.2.2.2.1 19).toInt = (v.2.2.2.1 12).toInt) → u.1 0 = o1 → v.1 0 = o2 → va_P D gcl (wX cB cC cI cJ u ++ wM cB cC cI cJ v) H → va_D (fun q : Nat => s.heap.size ≤ q) (wX cB cC cI cJ u ++ wM cB cC cI cJ v) → va_S (fun q : Nat => s.heap.size ≤ q) s.heap H locs → lv_has ls 4 [(3, .int i), (2, .ref o2), (1, .ref o1), (0, .ref b)] → W p l e room_1 s m #[Value.ref b] below meth c H locs 126 15724 (lw_Z below #[Value.ref b] s) (F0 m 1519 ls [])) : W p l e room_1 s m #[Value.ref b] below meth c H locs 126 15724 (lw_Z below #[Value.ref b] s) (F0 m 1056 ls []) := by
  subst hu0
  subst hv0
  have hlen := heq.1.1
  have hreg := heq.2
  obtain ⟨hx, hb, hr, hml, hown, hts0, hX, hbl, hlocks, hgv⟩ := id C0
  have hts := g_tbl hts0
  have hbA : ¬ (fun q : Nat => s.heap.size ≤ q) b := Nat.not_le.mpr hbl
  refine lv_aload_n (pc := 1056) hx hb dL_law_1056 rfl (lv_at hl 2 rfl) ?_
  refine lv_aload_n (pc := 1057) hx hb dL_law_1057 rfl (lv_at hl 3 rfl) ?_
  refine lv_iload_n (pc := 1058) hx hb dL_law_1058 rfl (lv_at hl 0 rfl) ?_
  refine lv_iconst (pc := 1059) (v := 1) hx hb dL_law_1059 (by decide) ?_
  refine b_iadd (pc := 1060) hx hb rfl tI_1 (by omega) (by omega) dL_law_1060 (fun x_1 ex_1 => ?_)
  refine va_sld (pc := 1061) hx hb hX hbl hbA hS (n_in rfl (by omega) (by omega)) dL_law_1061 ?_
  refine lv_topi (fun x_2 ex_2 => ?_)
  have rx_2 := n_rng x_2
  have tx_2 := congrArg Int32.toInt (e_ld (f := xs) (show x_2 = xs (x_1.toInt).toNat from ex_2) (show x_1.toInt = (i.toInt) + (1) by omega))
  refine b_if_eq (pc := 1062) (tgt := 1069) hx hb rfl  dL_law_1062 (by decide) (fun c_3 => ?_) (fun c_3 => ?_)
  ·
    refine lv_iconst (pc := 1069) (v := 0) hx hb dL_law_1069 (by decide) ?_
    refine cc_1070 C0 hK hF u hfX hl (0 : Int32) (by rw [tI_0]; decide) hP hD hS (fun r_4 w_5 H locs hf_6 ho_7 he_8 he_9 he_10 hP hD hS => ?_)
    have rr_4 := n_rngL r_4
    refine lv_pop2_2 (pc := 1073) hx hb dL_law_1073 rfl ?_
    refine lv_aload_n (pc := 1074) hx hb dL_law_1074 rfl (lv_at hl 1 rfl) ?_
    refine lv_aload_n (pc := 1075) hx hb dL_law_1075 rfl (lv_at hl 3 rfl) ?_
    refine lv_iload_n (pc := 1076) hx hb dL_law_1076 rfl (lv_at hl 0 rfl) ?_
    refine lv_iconst (pc := 1077) (v := 1) hx hb dL_law_1077 (by decide) ?_
    refine b_iadd (pc := 1078) hx hb rfl tI_1 (by omega) (by omega) dL_law_1078 (fun x_11 ex_11 => ?_)
    refine va_sld (pc := 1079) hx hb hX hbl hbA hS (n_in rfl (by omega) (by omega)) dL_law_1079 ?_
    refine lv_topi (fun x_12 ex_12 => ?_)
    have rx_12 := n_rng x_12
    have tx_12 := congrArg Int32.toInt (e_ld (f := xs) (show x_12 = xs (x_11.toInt).toNat from ex_12) (show x_11.toInt = (i.toInt) + (1) by omega))
    refine b_if_eq (pc := 1080) (tgt := 1087) hx hb rfl  dL_law_1080 (by decide) (fun c_13 => ?_) (fun c_13 => ?_)
    ·
      refine lv_iconst (pc := 1087) (v := 0) hx hb dL_law_1087 (by decide) ?_
      have hP : va_P D gcl (wM cB cC cI cJ v ++ wX cB cC cI cJ w_5) H := va_P.swap (a := []) (b := wX cB cC cI cJ w_5) (c := wM cB cC cI cJ v) hP
      have hD : va_D (fun q : Nat => s.heap.size ≤ q) (wM cB cC cI cJ v ++ wX cB cC cI cJ w_5) := va_D.swap (a := []) (b := wX cB cC cI cJ w_5) (c := wM cB cC cI cJ v) hD
      refine cc_1088 C0 hK hF v hfM hl (0 : Int32) (by rw [tI_0]; decide) hP hD hS (fun r_14 w_15 H locs hf_16 ho_17 he_18 he_19 he_20 hP hD hS => ?_)
      have rr_14 := n_rngL r_14
      refine lv_pop2_2 (pc := 1091) hx hb dL_law_1091 rfl ?_
      refine lv_goto (pc := 1092) (tgt := 1519) hx hb dL_law_1092 (by decide) ?_
      exact kk w_5 w_15 H locs ls hf_6 hf_16 ⟨te_cut heq.1 he_9 he_19 (by omega) (by omega), by omega⟩ ho_7 ho_17 (va_P.swap (a := []) (b := wM cB cC cI cJ w_15) (c := wX cB cC cI cJ w_5) hP) (va_D.swap (a := []) (b := wM cB cC cI cJ w_15) (c := wX cB cC cI cJ w_5) hD) hS hl
    ·
      refine lv_iconst (pc := 1083) (v := 1) hx hb dL_law_1083 (by decide) ?_
      refine lv_goto (pc := 1084) (tgt := 1088) hx hb dL_law_1084 (by decide) ?_
      have hP : va_P D gcl (wM cB cC cI cJ v ++ wX cB cC cI cJ w_5) H := va_P.swap (a := []) (b := wX cB cC cI cJ w_5) (c := wM cB cC cI cJ v) hP
      have hD : va_D (fun q : Nat => s.heap.size ≤ q) (wM cB cC cI cJ v ++ wX cB cC cI cJ w_5) := va_D.swap (a := []) (b := wX cB cC cI cJ w_5) (c := wM cB cC cI cJ v) hD
      refine cc_1088 C0 hK hF v hfM hl (1 : Int32) (by rw [tI_1]; decide) hP hD hS (fun r_21 w_22 H locs hf_23 ho_24 he_25 he_26 he_27 hP hD hS => ?_)
      have rr_21 := n_rngL r_21
      refine lv_pop2_2 (pc := 1091) hx hb dL_law_1091 rfl ?_
      refine lv_goto (pc := 1092) (tgt := 1519) hx hb dL_law_1092 (by decide) ?_
      exact kk w_5 w_22 H locs ls hf_6 hf_23 ⟨te_cut heq.1 he_9 he_26 (by omega) (by omega), by omega⟩ ho_7 ho_24 (va_P.swap (a := []) (b := wM cB cC cI cJ w_22) (c := wX cB cC cI cJ w_5) hP) (va_D.swap (a := []) (b := wM cB cC cI cJ w_22) (c := wX cB cC cI cJ w_5) hD) hS hl
  ·
    refine lv_iconst (pc := 1065) (v := 1) hx hb dL_law_1065 (by decide) ?_
    refine lv_goto (pc := 1066) (tgt := 1070) hx hb dL_law_1066 (by decide) ?_
    refine cc_1070 C0 hK hF u hfX hl (1 : Int32) (by rw [tI_1]; decide) hP hD hS (fun r_28 w_29 H locs hf_30 ho_31 he_32 he_33 he_34 hP hD hS => ?_)
    have rr_28 := n_rngL r_28
    refine lv_pop2_2 (pc := 1073) hx hb dL_law_1073 rfl ?_
    refine lv_aload_n (pc := 1074) hx hb dL_law_1074 rfl (lv_at hl 1 rfl) ?_
    refine lv_aload_n (pc := 1075) hx hb dL_law_1075 rfl (lv_at hl 3 rfl) ?_
    refine lv_iload_n (pc := 1076) hx hb dL_law_1076 rfl (lv_at hl 0 rfl) ?_
    refine lv_iconst (pc := 1077) (v := 1) hx hb dL_law_1077 (by decide) ?_
    refine b_iadd (pc := 1078) hx hb rfl tI_1 (by omega) (by omega) dL_law_1078 (fun x_35 ex_35 => ?_)
    refine va_sld (pc := 1079) hx hb hX hbl hbA hS (n_in rfl (by omega) (by omega)) dL_law_1079 ?_
    refine lv_topi (fun x_36 ex_36 => ?_)
    have rx_36 := n_rng x_36
    have tx_36 := congrArg Int32.toInt (e_ld (f := xs) (show x_36 = xs (x_35.toInt).toNat from ex_36) (show x_35.toInt = (i.toInt) + (1) by omega))
    refine b_if_eq (pc := 1080) (tgt := 1087) hx hb rfl  dL_law_1080 (by decide) (fun c_37 => ?_) (fun c_37 => ?_)
    ·
      refine lv_iconst (pc := 1087) (v := 0) hx hb dL_law_1087 (by decide) ?_
      have hP : va_P D gcl (wM cB cC cI cJ v ++ wX cB cC cI cJ w_29) H := va_P.swap (a := []) (b := wX cB cC cI cJ w_29) (c := wM cB cC cI cJ v) hP
      have hD : va_D (fun q : Nat => s.heap.size ≤ q) (wM cB cC cI cJ v ++ wX cB cC cI cJ w_29) := va_D.swap (a := []) (b := wX cB cC cI cJ w_29) (c := wM cB cC cI cJ v) hD
      refine cc_1088 C0 hK hF v hfM hl (0 : Int32) (by rw [tI_0]; decide) hP hD hS (fun r_38 w_39 H locs hf_40 ho_41 he_42 he_43 he_44 hP hD hS => ?_)
      have rr_38 := n_rngL r_38
      refine lv_pop2_2 (pc := 1091) hx hb dL_law_1091 rfl ?_
      refine lv_goto (pc := 1092) (tgt := 1519) hx hb dL_law_1092 (by decide) ?_
      exact kk w_29 w_39 H locs ls hf_30 hf_40 ⟨te_cut heq.1 he_33 he_43 (by omega) (by omega), by omega⟩ ho_31 ho_41 (va_P.swap (a := []) (b := wM cB cC cI cJ w_39) (c := wX cB cC cI cJ w_29) hP) (va_D.swap (a := []) (b := wM cB cC cI cJ w_39) (c := wX cB cC cI cJ w_29) hD) hS hl
    ·
      refine lv_iconst (pc := 1083) (v := 1) hx hb dL_law_1083 (by decide) ?_
      refine lv_goto (pc := 1084) (tgt := 1088) hx hb dL_law_1084 (by decide) ?_
      have hP : va_P D gcl (wM cB cC cI cJ v ++ wX cB cC cI cJ w_29) H := va_P.swap (a := []) (b := wX cB cC cI cJ w_29) (c := wM cB cC cI cJ v) hP
      have hD : va_D (fun q : Nat => s.heap.size ≤ q) (wM cB cC cI cJ v ++ wX cB cC cI cJ w_29) := va_D.swap (a := []) (b := wX cB cC cI cJ w_29) (c := wM cB cC cI cJ v) hD
      refine cc_1088 C0 hK hF v hfM hl (1 : Int32) (by rw [tI_1]; decide) hP hD hS (fun r_45 w_46 H locs hf_47 ho_48 he_49 he_50 he_51 hP hD hS => ?_)
      have rr_45 := n_rngL r_45
      refine lv_pop2_2 (pc := 1091) hx hb dL_law_1091 rfl ?_
      refine lv_goto (pc := 1092) (tgt := 1519) hx hb dL_law_1092 (by decide) ?_
      exact kk w_29 w_46 H locs ls hf_30 hf_47 ⟨te_cut heq.1 he_33 he_50 (by omega) (by omega), by omega⟩ ho_31 ho_48 (va_P.swap (a := []) (b := wM cB cC cI cJ w_46) (c := wX cB cC cI cJ w_29) hP) (va_D.swap (a := []) (b := wM cB cC cI cJ w_46) (c := wX cB cC cI cJ w_29) hD) hS hl
