set_option maxHeartbeats 8000000 in
set_option maxRecDepth 100000 in
theorem lo_24 {p : Program} {l : Launch} {e : Env} {s : State} {m : MethodId} {below : List Frame} {meth : Method} {c : Code} {D : va_G} {cB cC cI cJ : ClassId} {b L : Nat} {xs : Nat → Int32} {adK adV : Nat → Nat} (C0 : lw_At p s m meth c b L xs) (hLN : L ≤ 3072) (hK : va_K D gcl [(cB, .byte), (cC, .char), (cI, .int), (cJ, .long)] s) (hF : sF adK adV (fun q : Nat => s.heap.size ≤ q) s s.heap) (o1 o2 : Nat) (i : Int32) (hi0 : 0 ≤ i.toInt) (hi1 : i.toInt + 6 ≤ (L : Int)) (u v : gEx) (hfX : fX u) (hfM : fM v) (heq : tEq (u.2.1 4) (u.2.2.2.1 7).toInt (v.2.1 0) (v.2.2.2.1 0).toInt) (hu0 : u.1 0 = o1) (hv0 : v.1 0 = o2) (H : Heap) (locs : List Loc) (ls : Array Slot) (hP : va_P D gcl (wX cB cC cI cJ u ++ wM cB cC cI cJ v) H) (hD : va_D (fun q : Nat => s.heap.size ≤ q) (wX cB cC cI cJ u ++ wM cB cC cI cJ v)) (hS : va_S (fun q : Nat => s.heap.size ≤ q) s.heap H locs) (hl : lv_has ls 4 [(3, .int i), (2, .ref o2), (1, .ref o1), (0, .ref b)])
    (kk : ∀ (u v : gEx) (H : Heap) (locs : List Loc) (ls : Array Slot), fX u → fM v → tEq (u.2.1 4) (u.2.2.2.1 7).toInt (v.2.1 0) (v.2.2.2.1 0).toInt → u.1 0 = o1 → v.1 0 = o2 → va_P D gcl (wX cB cC cI cJ u ++ wM cB cC cI cJ v) H → va_D (fun q : Nat => s.heap.size ≤ q) (wX cB cC cI cJ u ++ wM cB cC cI cJ v) → va_S (fun q : Nat => s.heap.size ≤ q) s.heap H locs → lv_has ls 4 [(3, .int i), (2, .ref o2), (1, .ref o1), (0, .ref b)] → W p l e room_1 s m #[Value.ref b] below meth c H locs 126 15724 (lw_Z below #[Value.ref b] s) (F0 m 1519 ls [])) : W p l e room_1 s m #[Value.ref b] below meth c H locs 126 15724 (lw_Z below #[Value.ref b] s) (F0 m 892 ls []) := by
  subst hu0
  subst hv0
  have hlen := heq.1
  obtain ⟨hx, hb, hr, hml, hown, hts0, hX, hbl, hlocks, hgv⟩ := id C0
  have hts := g_tbl hts0
  have hbA : ¬ (fun q : Nat => s.heap.size ≤ q) b := Nat.not_le.mpr hbl
  refine lv_aload_n (pc := 892) hx hb dL_law_892 rfl (lv_at hl 2 rfl) ?_
  refine lv_aload_n (pc := 893) hx hb dL_law_893 rfl (lv_at hl 3 rfl) ?_
  refine lv_iload_n (pc := 894) hx hb dL_law_894 rfl (lv_at hl 0 rfl) ?_
  refine lv_iconst (pc := 895) (v := 1) hx hb dL_law_895 (by decide) ?_
  refine b_iadd (pc := 896) hx hb rfl tI_1 (by omega) (by omega) dL_law_896 (fun x_1 ex_1 => ?_)
  refine va_sld (pc := 897) hx hb hX hbl hbA hS (n_in rfl (by omega) (by omega)) dL_law_897 ?_
  refine lv_topi (fun x_2 ex_2 => ?_)
  have rx_2 := n_rng x_2
  have tx_2 := congrArg Int32.toInt (e_ld (f := xs) (show x_2 = xs (x_1.toInt).toNat from ex_2) (show x_1.toInt = (i.toInt) + (1) by omega))
  refine lv_aload_n (pc := 898) hx hb dL_law_898 rfl (lv_at hl 3 rfl) ?_
  refine lv_iload_n (pc := 899) hx hb dL_law_899 rfl (lv_at hl 0 rfl) ?_
  refine lv_iconst (pc := 900) (v := 2) hx hb dL_law_900 (by decide) ?_
  refine b_iadd (pc := 901) hx hb rfl tI_2 (by omega) (by omega) dL_law_901 (fun x_3 ex_3 => ?_)
  refine va_sld (pc := 902) hx hb hX hbl hbA hS (n_in rfl (by omega) (by omega)) dL_law_902 ?_
  refine lv_topi (fun x_4 ex_4 => ?_)
  have rx_4 := n_rng x_4
  have tx_4 := congrArg Int32.toInt (e_ld (f := xs) (show x_4 = xs (x_3.toInt).toNat from ex_4) (show x_3.toInt = (i.toInt) + (2) by omega))
  refine cc_903 C0 hK hF u hfX hl x_2 x_4 hP hD hS (fun r_5 w_6 H locs hf_7 ho_8 he_9 he_10 hP hD hS => ?_)
  have rr_5 := n_rngL r_5
  refine lv_pop2_2 (pc := 906) hx hb dL_law_906 rfl ?_
  refine lv_aload_n (pc := 907) hx hb dL_law_907 rfl (lv_at hl 1 rfl) ?_
  refine lv_aload_n (pc := 908) hx hb dL_law_908 rfl (lv_at hl 3 rfl) ?_
  refine lv_iload_n (pc := 909) hx hb dL_law_909 rfl (lv_at hl 0 rfl) ?_
  refine lv_iconst (pc := 910) (v := 1) hx hb dL_law_910 (by decide) ?_
  refine b_iadd (pc := 911) hx hb rfl tI_1 (by omega) (by omega) dL_law_911 (fun x_11 ex_11 => ?_)
  refine va_sld (pc := 912) hx hb hX hbl hbA hS (n_in rfl (by omega) (by omega)) dL_law_912 ?_
  refine lv_topi (fun x_12 ex_12 => ?_)
  have rx_12 := n_rng x_12
  have tx_12 := congrArg Int32.toInt (e_ld (f := xs) (show x_12 = xs (x_11.toInt).toNat from ex_12) (show x_11.toInt = (i.toInt) + (1) by omega))
  refine lv_aload_n (pc := 913) hx hb dL_law_913 rfl (lv_at hl 3 rfl) ?_
  refine lv_iload_n (pc := 914) hx hb dL_law_914 rfl (lv_at hl 0 rfl) ?_
  refine lv_iconst (pc := 915) (v := 2) hx hb dL_law_915 (by decide) ?_
  refine b_iadd (pc := 916) hx hb rfl tI_2 (by omega) (by omega) dL_law_916 (fun x_13 ex_13 => ?_)
  refine va_sld (pc := 917) hx hb hX hbl hbA hS (n_in rfl (by omega) (by omega)) dL_law_917 ?_
  refine lv_topi (fun x_14 ex_14 => ?_)
  have rx_14 := n_rng x_14
  have tx_14 := congrArg Int32.toInt (e_ld (f := xs) (show x_14 = xs (x_13.toInt).toNat from ex_14) (show x_13.toInt = (i.toInt) + (2) by omega))
  have hP : va_P D gcl (wM cB cC cI cJ v ++ wX cB cC cI cJ w_6) H := va_P.swap (a := []) (b := wX cB cC cI cJ w_6) (c := wM cB cC cI cJ v) hP
  have hD : va_D (fun q : Nat => s.heap.size ≤ q) (wM cB cC cI cJ v ++ wX cB cC cI cJ w_6) := va_D.swap (a := []) (b := wX cB cC cI cJ w_6) (c := wM cB cC cI cJ v) hD
  refine cc_918 C0 hK hF v hfM hl x_12 x_14 hP hD hS (fun r_15 w_16 H locs hf_17 ho_18 he_19 he_20 hP hD hS => ?_)
  have rr_15 := n_rngL r_15
  refine lv_pop2_2 (pc := 921) hx hb dL_law_921 rfl ?_
  refine lv_goto (pc := 922) (tgt := 1519) hx hb dL_law_922 (by decide) ?_
  exact kk w_6 w_16 H locs ls hf_7 hf_17 (te_cut heq he_10 he_20 (by omega) (by omega)) ho_8 ho_18 (va_P.swap (a := []) (b := wM cB cC cI cJ w_16) (c := wX cB cC cI cJ w_6) hP) (va_D.swap (a := []) (b := wM cB cC cI cJ w_16) (c := wX cB cC cI cJ w_6) hD) hS hl
set_option maxHeartbeats 8000000 in
set_option maxRecDepth 100000 in
theorem lo_25 {p : Program} {l : Launch} {e : Env} {s : State} {m : MethodId} {below : List Frame} {meth : Method} {c : Code} {D : va_G} {cB cC cI cJ : ClassId} {b L : Nat} {xs : Nat → Int32} {adK adV : Nat → Nat} (C0 : lw_At p s m meth c b L xs) (hLN : L ≤ 3072) (hK : va_K D gcl [(cB, .byte), (cC, .char), (cI, .int), (cJ, .long)] s) (hF : sF adK adV (fun q : Nat => s.heap.size ≤ q) s s.heap) (o1 o2 : Nat) (i : Int32) (hi0 : 0 ≤ i.toInt) (hi1 : i.toInt + 6 ≤ (L : Int)) (u v : gEx) (hfX : fX u) (hfM : fM v) (heq : tEq (u.2.1 4) (u.2.2.2.1 7).toInt (v.2.1 0) (v.2.2.2.1 0).toInt) (hu0 : u.1 0 = o1) (hv0 : v.1 0 = o2) (H : Heap) (locs : List Loc) (ls : Array Slot) (hP : va_P D gcl (wX cB cC cI cJ u ++ wM cB cC cI cJ v) H) (hD : va_D (fun q : Nat => s.heap.size ≤ q) (wX cB cC cI cJ u ++ wM cB cC cI cJ v)) (hS : va_S (fun q : Nat => s.heap.size ≤ q) s.heap H locs) (hl : lv_has ls 4 [(3, .int i), (2, .ref o2), (1, .ref o1), (0, .ref b)])
    (kk : ∀ (u v : gEx) (H : Heap) (locs : List Loc) (ls : Array Slot), fX u → fM v → tEq (u.2.1 4) (u.2.2.2.1 7).toInt (v.2.1 0) (v.2.2.2.1 0).toInt → u.1 0 = o1 → v.1 0 = o2 → va_P D gcl (wX cB cC cI cJ u ++ wM cB cC cI cJ v) H → va_D (fun q : Nat => s.heap.size ≤ q) (wX cB cC cI cJ u ++ wM cB cC cI cJ v) → va_S (fun q : Nat => s.heap.size ≤ q) s.heap H locs → lv_has ls 4 [(3, .int i), (2, .ref o2), (1, .ref o1), (0, .ref b)] → W p l e room_1 s m #[Value.ref b] below meth c H locs 126 15724 (lw_Z below #[Value.ref b] s) (F0 m 1519 ls [])) : W p l e room_1 s m #[Value.ref b] below meth c H locs 126 15724 (lw_Z below #[Value.ref b] s) (F0 m 925 ls []) := by
  subst hu0
  subst hv0
  have hlen := heq.1
  obtain ⟨hx, hb, hr, hml, hown, hts0, hX, hbl, hlocks, hgv⟩ := id C0
  have hts := g_tbl hts0
  have hbA : ¬ (fun q : Nat => s.heap.size ≤ q) b := Nat.not_le.mpr hbl
  refine lv_aload_n (pc := 925) hx hb dL_law_925 rfl (lv_at hl 2 rfl) ?_
  refine lv_aload_n (pc := 926) hx hb dL_law_926 rfl (lv_at hl 3 rfl) ?_
  refine lv_iload_n (pc := 927) hx hb dL_law_927 rfl (lv_at hl 0 rfl) ?_
  refine lv_iconst (pc := 928) (v := 1) hx hb dL_law_928 (by decide) ?_
  refine b_iadd (pc := 929) hx hb rfl tI_1 (by omega) (by omega) dL_law_929 (fun x_1 ex_1 => ?_)
  refine va_sld (pc := 930) hx hb hX hbl hbA hS (n_in rfl (by omega) (by omega)) dL_law_930 ?_
  refine lv_topi (fun x_2 ex_2 => ?_)
  have rx_2 := n_rng x_2
  have tx_2 := congrArg Int32.toInt (e_ld (f := xs) (show x_2 = xs (x_1.toInt).toNat from ex_2) (show x_1.toInt = (i.toInt) + (1) by omega))
  refine lv_aload_n (pc := 931) hx hb dL_law_931 rfl (lv_at hl 3 rfl) ?_
  refine lv_iload_n (pc := 932) hx hb dL_law_932 rfl (lv_at hl 0 rfl) ?_
  refine lv_iconst (pc := 933) (v := 2) hx hb dL_law_933 (by decide) ?_
  refine b_iadd (pc := 934) hx hb rfl tI_2 (by omega) (by omega) dL_law_934 (fun x_3 ex_3 => ?_)
  refine va_sld (pc := 935) hx hb hX hbl hbA hS (n_in rfl (by omega) (by omega)) dL_law_935 ?_
  refine lv_topi (fun x_4 ex_4 => ?_)
  have rx_4 := n_rng x_4
  have tx_4 := congrArg Int32.toInt (e_ld (f := xs) (show x_4 = xs (x_3.toInt).toNat from ex_4) (show x_3.toInt = (i.toInt) + (2) by omega))
  refine cc_936 C0 hK hF u hfX hl x_2 x_4 hP hD hS (fun r_5 w_6 H locs hf_7 ho_8 he_9 he_10 hP hD hS => ?_)
  have rr_5 := n_rng r_5
  refine lv_pop (pc := 939) hx hb dL_law_939 rfl ?_
  refine lv_aload_n (pc := 940) hx hb dL_law_940 rfl (lv_at hl 1 rfl) ?_
  refine lv_aload_n (pc := 941) hx hb dL_law_941 rfl (lv_at hl 3 rfl) ?_
  refine lv_iload_n (pc := 942) hx hb dL_law_942 rfl (lv_at hl 0 rfl) ?_
  refine lv_iconst (pc := 943) (v := 1) hx hb dL_law_943 (by decide) ?_
  refine b_iadd (pc := 944) hx hb rfl tI_1 (by omega) (by omega) dL_law_944 (fun x_11 ex_11 => ?_)
  refine va_sld (pc := 945) hx hb hX hbl hbA hS (n_in rfl (by omega) (by omega)) dL_law_945 ?_
  refine lv_topi (fun x_12 ex_12 => ?_)
  have rx_12 := n_rng x_12
  have tx_12 := congrArg Int32.toInt (e_ld (f := xs) (show x_12 = xs (x_11.toInt).toNat from ex_12) (show x_11.toInt = (i.toInt) + (1) by omega))
  refine lv_aload_n (pc := 946) hx hb dL_law_946 rfl (lv_at hl 3 rfl) ?_
  refine lv_iload_n (pc := 947) hx hb dL_law_947 rfl (lv_at hl 0 rfl) ?_
  refine lv_iconst (pc := 948) (v := 2) hx hb dL_law_948 (by decide) ?_
  refine b_iadd (pc := 949) hx hb rfl tI_2 (by omega) (by omega) dL_law_949 (fun x_13 ex_13 => ?_)
  refine va_sld (pc := 950) hx hb hX hbl hbA hS (n_in rfl (by omega) (by omega)) dL_law_950 ?_
  refine lv_topi (fun x_14 ex_14 => ?_)
  have rx_14 := n_rng x_14
  have tx_14 := congrArg Int32.toInt (e_ld (f := xs) (show x_14 = xs (x_13.toInt).toNat from ex_14) (show x_13.toInt = (i.toInt) + (2) by omega))
  have hP : va_P D gcl (wM cB cC cI cJ v ++ wX cB cC cI cJ w_6) H := va_P.swap (a := []) (b := wX cB cC cI cJ w_6) (c := wM cB cC cI cJ v) hP
  have hD : va_D (fun q : Nat => s.heap.size ≤ q) (wM cB cC cI cJ v ++ wX cB cC cI cJ w_6) := va_D.swap (a := []) (b := wX cB cC cI cJ w_6) (c := wM cB cC cI cJ v) hD
  refine cc_951 C0 hK hF v hfM hl x_12 x_14 hP hD hS (fun r_15 w_16 H locs hf_17 ho_18 he_19 he_20 hP hD hS => ?_)
  have rr_15 := n_rng r_15
  refine lv_pop (pc := 954) hx hb dL_law_954 rfl ?_
  refine lv_goto (pc := 955) (tgt := 1519) hx hb dL_law_955 (by decide) ?_
  exact kk w_6 w_16 H locs ls hf_7 hf_17 (te_cut heq he_10 he_20 (by omega) (by omega)) ho_8 ho_18 (va_P.swap (a := []) (b := wM cB cC cI cJ w_16) (c := wX cB cC cI cJ w_6) hP) (va_D.swap (a := []) (b := wM cB cC cI cJ w_16) (c := wX cB cC cI cJ w_6) hD) hS hl
set_option maxHeartbeats 8000000 in
set_option maxRecDepth 100000 in
theorem lo_26 {p : Program} {l : Launch} {e : Env} {s : State} {m : MethodId} {below : List Frame} {meth : Method} {c : Code} {D : va_G} {cB cC cI cJ : ClassId} {b L : Nat} {xs : Nat → Int32} {adK adV : Nat → Nat} (C0 : lw_At p s m meth c b L xs) (hLN : L ≤ 3072) (hK : va_K D gcl [(cB, .byte), (cC, .char), (cI, .int), (cJ, .long)] s) (hF : sF adK adV (fun q : Nat => s.heap.size ≤ q) s s.heap) (o1 o2 : Nat) (i : Int32) (hi0 : 0 ≤ i.toInt) (hi1 : i.toInt + 6 ≤ (L : Int)) (u v : gEx) (hfX : fX u) (hfM : fM v) (heq : tEq (u.2.1 4) (u.2.2.2.1 7).toInt (v.2.1 0) (v.2.2.2.1 0).toInt) (hu0 : u.1 0 = o1) (hv0 : v.1 0 = o2) (H : Heap) (locs : List Loc) (ls : Array Slot) (hP : va_P D gcl (wX cB cC cI cJ u ++ wM cB cC cI cJ v) H) (hD : va_D (fun q : Nat => s.heap.size ≤ q) (wX cB cC cI cJ u ++ wM cB cC cI cJ v)) (hS : va_S (fun q : Nat => s.heap.size ≤ q) s.heap H locs) (hl : lv_has ls 4 [(3, .int i), (2, .ref o2), (1, .ref o1), (0, .ref b)])
    (kk : ∀ (u v : gEx) (H : Heap) (locs : List Loc) (ls : Array Slot), fX u → fM v → tEq (u.2.1 4) (u.2.2.2.1 7).toInt (v.2.1 0) (v.2.2.2.1 0).toInt → u.1 0 = o1 → v.1 0 = o2 → va_P D gcl (wX cB cC cI cJ u ++ wM cB cC cI cJ v) H → va_D (fun q : Nat => s.heap.size ≤ q) (wX cB cC cI cJ u ++ wM cB cC cI cJ v) → va_S (fun q : Nat => s.heap.size ≤ q) s.heap H locs → lv_has ls 4 [(3, .int i), (2, .ref o2), (1, .ref o1), (0, .ref b)] → W p l e room_1 s m #[Value.ref b] below meth c H locs 126 15724 (lw_Z below #[Value.ref b] s) (F0 m 1519 ls [])) : W p l e room_1 s m #[Value.ref b] below meth c H locs 126 15724 (lw_Z below #[Value.ref b] s) (F0 m 958 ls []) := by
  subst hu0
  subst hv0
  have hlen := heq.1
  obtain ⟨hx, hb, hr, hml, hown, hts0, hX, hbl, hlocks, hgv⟩ := id C0
  have hts := g_tbl hts0
  have hbA : ¬ (fun q : Nat => s.heap.size ≤ q) b := Nat.not_le.mpr hbl
  refine lv_aload_n (pc := 958) hx hb dL_law_958 rfl (lv_at hl 2 rfl) ?_
  refine lv_aload_n (pc := 959) hx hb dL_law_959 rfl (lv_at hl 3 rfl) ?_
  refine lv_iload_n (pc := 960) hx hb dL_law_960 rfl (lv_at hl 0 rfl) ?_
  refine lv_iconst (pc := 961) (v := 1) hx hb dL_law_961 (by decide) ?_
  refine b_iadd (pc := 962) hx hb rfl tI_1 (by omega) (by omega) dL_law_962 (fun x_1 ex_1 => ?_)
  refine va_sld (pc := 963) hx hb hX hbl hbA hS (n_in rfl (by omega) (by omega)) dL_law_963 ?_
  refine lv_topi (fun x_2 ex_2 => ?_)
  have rx_2 := n_rng x_2
  have tx_2 := congrArg Int32.toInt (e_ld (f := xs) (show x_2 = xs (x_1.toInt).toNat from ex_2) (show x_1.toInt = (i.toInt) + (1) by omega))
  refine lv_aload_n (pc := 964) hx hb dL_law_964 rfl (lv_at hl 3 rfl) ?_
  refine lv_iload_n (pc := 965) hx hb dL_law_965 rfl (lv_at hl 0 rfl) ?_
  refine lv_iconst (pc := 966) (v := 2) hx hb dL_law_966 (by decide) ?_
  refine b_iadd (pc := 967) hx hb rfl tI_2 (by omega) (by omega) dL_law_967 (fun x_3 ex_3 => ?_)
  refine va_sld (pc := 968) hx hb hX hbl hbA hS (n_in rfl (by omega) (by omega)) dL_law_968 ?_
  refine lv_topi (fun x_4 ex_4 => ?_)
  have rx_4 := n_rng x_4
  have tx_4 := congrArg Int32.toInt (e_ld (f := xs) (show x_4 = xs (x_3.toInt).toNat from ex_4) (show x_3.toInt = (i.toInt) + (2) by omega))
  refine lv_aload_n (pc := 969) hx hb dL_law_969 rfl (lv_at hl 3 rfl) ?_
  refine lv_iload_n (pc := 970) hx hb dL_law_970 rfl (lv_at hl 0 rfl) ?_
  refine lv_iconst (pc := 971) (v := 3) hx hb dL_law_971 (by decide) ?_
  refine b_iadd (pc := 972) hx hb rfl tI_3 (by omega) (by omega) dL_law_972 (fun x_5 ex_5 => ?_)
  refine va_sld (pc := 973) hx hb hX hbl hbA hS (n_in rfl (by omega) (by omega)) dL_law_973 ?_
  refine lv_topi (fun x_6 ex_6 => ?_)
  have rx_6 := n_rng x_6
  have tx_6 := congrArg Int32.toInt (e_ld (f := xs) (show x_6 = xs (x_5.toInt).toNat from ex_6) (show x_5.toInt = (i.toInt) + (3) by omega))
  refine b_if_eq (pc := 974) (tgt := 981) hx hb rfl  dL_law_974 (by decide) (fun c_7 => ?_) (fun c_7 => ?_)
  ·
    refine lv_iconst (pc := 981) (v := 0) hx hb dL_law_981 (by decide) ?_
    refine cc_982 C0 hK hF u hfX hl x_2 x_4 (0 : Int32) (by rw [tI_0]; decide) hP hD hS (fun r_8 w_9 H locs hf_10 ho_11 he_12 he_13 hP hD hS => ?_)
    have rr_8 := n_rng r_8
    refine lv_pop (pc := 985) hx hb dL_law_985 rfl ?_
    refine lv_aload_n (pc := 986) hx hb dL_law_986 rfl (lv_at hl 1 rfl) ?_
    refine lv_aload_n (pc := 987) hx hb dL_law_987 rfl (lv_at hl 3 rfl) ?_
    refine lv_iload_n (pc := 988) hx hb dL_law_988 rfl (lv_at hl 0 rfl) ?_
    refine lv_iconst (pc := 989) (v := 1) hx hb dL_law_989 (by decide) ?_
    refine b_iadd (pc := 990) hx hb rfl tI_1 (by omega) (by omega) dL_law_990 (fun x_14 ex_14 => ?_)
    refine va_sld (pc := 991) hx hb hX hbl hbA hS (n_in rfl (by omega) (by omega)) dL_law_991 ?_
    refine lv_topi (fun x_15 ex_15 => ?_)
    have rx_15 := n_rng x_15
    have tx_15 := congrArg Int32.toInt (e_ld (f := xs) (show x_15 = xs (x_14.toInt).toNat from ex_15) (show x_14.toInt = (i.toInt) + (1) by omega))
    refine lv_aload_n (pc := 992) hx hb dL_law_992 rfl (lv_at hl 3 rfl) ?_
    refine lv_iload_n (pc := 993) hx hb dL_law_993 rfl (lv_at hl 0 rfl) ?_
    refine lv_iconst (pc := 994) (v := 2) hx hb dL_law_994 (by decide) ?_
    refine b_iadd (pc := 995) hx hb rfl tI_2 (by omega) (by omega) dL_law_995 (fun x_16 ex_16 => ?_)
    refine va_sld (pc := 996) hx hb hX hbl hbA hS (n_in rfl (by omega) (by omega)) dL_law_996 ?_
    refine lv_topi (fun x_17 ex_17 => ?_)
    have rx_17 := n_rng x_17
    have tx_17 := congrArg Int32.toInt (e_ld (f := xs) (show x_17 = xs (x_16.toInt).toNat from ex_17) (show x_16.toInt = (i.toInt) + (2) by omega))
    refine lv_aload_n (pc := 997) hx hb dL_law_997 rfl (lv_at hl 3 rfl) ?_
    refine lv_iload_n (pc := 998) hx hb dL_law_998 rfl (lv_at hl 0 rfl) ?_
    refine lv_iconst (pc := 999) (v := 3) hx hb dL_law_999 (by decide) ?_
    refine b_iadd (pc := 1000) hx hb rfl tI_3 (by omega) (by omega) dL_law_1000 (fun x_18 ex_18 => ?_)
    refine va_sld (pc := 1001) hx hb hX hbl hbA hS (n_in rfl (by omega) (by omega)) dL_law_1001 ?_
    refine lv_topi (fun x_19 ex_19 => ?_)
    have rx_19 := n_rng x_19
    have tx_19 := congrArg Int32.toInt (e_ld (f := xs) (show x_19 = xs (x_18.toInt).toNat from ex_19) (show x_18.toInt = (i.toInt) + (3) by omega))
    refine b_if_eq (pc := 1002) (tgt := 1009) hx hb rfl  dL_law_1002 (by decide) (fun c_20 => ?_) (fun c_20 => ?_)
    ·
      refine lv_iconst (pc := 1009) (v := 0) hx hb dL_law_1009 (by decide) ?_
      have hP : va_P D gcl (wM cB cC cI cJ v ++ wX cB cC cI cJ w_9) H := va_P.swap (a := []) (b := wX cB cC cI cJ w_9) (c := wM cB cC cI cJ v) hP
      have hD : va_D (fun q : Nat => s.heap.size ≤ q) (wM cB cC cI cJ v ++ wX cB cC cI cJ w_9) := va_D.swap (a := []) (b := wX cB cC cI cJ w_9) (c := wM cB cC cI cJ v) hD
      refine cc_1010 C0 hK hF v hfM hl x_15 x_17 (0 : Int32) (by rw [tI_0]; decide) hP hD hS (fun r_21 w_22 H locs hf_23 ho_24 he_25 he_26 hP hD hS => ?_)
      have rr_21 := n_rng r_21
      refine lv_pop (pc := 1013) hx hb dL_law_1013 rfl ?_
      refine lv_goto (pc := 1014) (tgt := 1519) hx hb dL_law_1014 (by decide) ?_
      exact kk w_9 w_22 H locs ls hf_10 hf_23 (te_cut heq he_13 he_26 (by omega) (by omega)) ho_11 ho_24 (va_P.swap (a := []) (b := wM cB cC cI cJ w_22) (c := wX cB cC cI cJ w_9) hP) (va_D.swap (a := []) (b := wM cB cC cI cJ w_22) (c := wX cB cC cI cJ w_9) hD) hS hl
    ·
      refine lv_iconst (pc := 1005) (v := 1) hx hb dL_law_1005 (by decide) ?_
      refine lv_goto (pc := 1006) (tgt := 1010) hx hb dL_law_1006 (by decide) ?_
      have hP : va_P D gcl (wM cB cC cI cJ v ++ wX cB cC cI cJ w_9) H := va_P.swap (a := []) (b := wX cB cC cI cJ w_9) (c := wM cB cC cI cJ v) hP
      have hD : va_D (fun q : Nat => s.heap.size ≤ q) (wM cB cC cI cJ v ++ wX cB cC cI cJ w_9) := va_D.swap (a := []) (b := wX cB cC cI cJ w_9) (c := wM cB cC cI cJ v) hD
      refine cc_1010 C0 hK hF v hfM hl x_15 x_17 (1 : Int32) (by rw [tI_1]; decide) hP hD hS (fun r_27 w_28 H locs hf_29 ho_30 he_31 he_32 hP hD hS => ?_)
      have rr_27 := n_rng r_27
      refine lv_pop (pc := 1013) hx hb dL_law_1013 rfl ?_
      refine lv_goto (pc := 1014) (tgt := 1519) hx hb dL_law_1014 (by decide) ?_
      exact kk w_9 w_28 H locs ls hf_10 hf_29 (te_cut heq he_13 he_32 (by omega) (by omega)) ho_11 ho_30 (va_P.swap (a := []) (b := wM cB cC cI cJ w_28) (c := wX cB cC cI cJ w_9) hP) (va_D.swap (a := []) (b := wM cB cC cI cJ w_28) (c := wX cB cC cI cJ w_9) hD) hS hl
  ·
    refine lv_iconst (pc := 977) (v := 1) hx hb dL_law_977 (by decide) ?_
    refine lv_goto (pc := 978) (tgt := 982) hx hb dL_law_978 (by decide) ?_
    refine cc_982 C0 hK hF u hfX hl x_2 x_4 (1 : Int32) (by rw [tI_1]; decide) hP hD hS (fun r_33 w_34 H locs hf_35 ho_36 he_37 he_38 hP hD hS => ?_)
    have rr_33 := n_rng r_33
    refine lv_pop (pc := 985) hx hb dL_law_985 rfl ?_
    refine lv_aload_n (pc := 986) hx hb dL_law_986 rfl (lv_at hl 1 rfl) ?_
    refine lv_aload_n (pc := 987) hx hb dL_law_987 rfl (lv_at hl 3 rfl) ?_
    refine lv_iload_n (pc := 988) hx hb dL_law_988 rfl (lv_at hl 0 rfl) ?_
    refine lv_iconst (pc := 989) (v := 1) hx hb dL_law_989 (by decide) ?_
    refine b_iadd (pc := 990) hx hb rfl tI_1 (by omega) (by omega) dL_law_990 (fun x_39 ex_39 => ?_)
    refine va_sld (pc := 991) hx hb hX hbl hbA hS (n_in rfl (by omega) (by omega)) dL_law_991 ?_
    refine lv_topi (fun x_40 ex_40 => ?_)
    have rx_40 := n_rng x_40
    have tx_40 := congrArg Int32.toInt (e_ld (f := xs) (show x_40 = xs (x_39.toInt).toNat from ex_40) (show x_39.toInt = (i.toInt) + (1) by omega))
    refine lv_aload_n (pc := 992) hx hb dL_law_992 rfl (lv_at hl 3 rfl) ?_
    refine lv_iload_n (pc := 993) hx hb dL_law_993 rfl (lv_at hl 0 rfl) ?_
    refine lv_iconst (pc := 994) (v := 2) hx hb dL_law_994 (by decide) ?_
    refine b_iadd (pc := 995) hx hb rfl tI_2 (by omega) (by omega) dL_law_995 (fun x_41 ex_41 => ?_)
    refine va_sld (pc := 996) hx hb hX hbl hbA hS (n_in rfl (by omega) (by omega)) dL_law_996 ?_
    refine lv_topi (fun x_42 ex_42 => ?_)
    have rx_42 := n_rng x_42
    have tx_42 := congrArg Int32.toInt (e_ld (f := xs) (show x_42 = xs (x_41.toInt).toNat from ex_42) (show x_41.toInt = (i.toInt) + (2) by omega))
    refine lv_aload_n (pc := 997) hx hb dL_law_997 rfl (lv_at hl 3 rfl) ?_
    refine lv_iload_n (pc := 998) hx hb dL_law_998 rfl (lv_at hl 0 rfl) ?_
    refine lv_iconst (pc := 999) (v := 3) hx hb dL_law_999 (by decide) ?_
    refine b_iadd (pc := 1000) hx hb rfl tI_3 (by omega) (by omega) dL_law_1000 (fun x_43 ex_43 => ?_)
    refine va_sld (pc := 1001) hx hb hX hbl hbA hS (n_in rfl (by omega) (by omega)) dL_law_1001 ?_
    refine lv_topi (fun x_44 ex_44 => ?_)
    have rx_44 := n_rng x_44
    have tx_44 := congrArg Int32.toInt (e_ld (f := xs) (show x_44 = xs (x_43.toInt).toNat from ex_44) (show x_43.toInt = (i.toInt) + (3) by omega))
    refine b_if_eq (pc := 1002) (tgt := 1009) hx hb rfl  dL_law_1002 (by decide) (fun c_45 => ?_) (fun c_45 => ?_)
    ·
      refine lv_iconst (pc := 1009) (v := 0) hx hb dL_law_1009 (by decide) ?_
      have hP : va_P D gcl (wM cB cC cI cJ v ++ wX cB cC cI cJ w_34) H := va_P.swap (a := []) (b := wX cB cC cI cJ w_34) (c := wM cB cC cI cJ v) hP
      have hD : va_D (fun q : Nat => s.heap.size ≤ q) (wM cB cC cI cJ v ++ wX cB cC cI cJ w_34) := va_D.swap (a := []) (b := wX cB cC cI cJ w_34) (c := wM cB cC cI cJ v) hD
      refine cc_1010 C0 hK hF v hfM hl x_40 x_42 (0 : Int32) (by rw [tI_0]; decide) hP hD hS (fun r_46 w_47 H locs hf_48 ho_49 he_50 he_51 hP hD hS => ?_)
      have rr_46 := n_rng r_46
      refine lv_pop (pc := 1013) hx hb dL_law_1013 rfl ?_
      refine lv_goto (pc := 1014) (tgt := 1519) hx hb dL_law_1014 (by decide) ?_
      exact kk w_34 w_47 H locs ls hf_35 hf_48 (te_cut heq he_38 he_51 (by omega) (by omega)) ho_36 ho_49 (va_P.swap (a := []) (b := wM cB cC cI cJ w_47) (c := wX cB cC cI cJ w_34) hP) (va_D.swap (a := []) (b := wM cB cC cI cJ w_47) (c := wX cB cC cI cJ w_34) hD) hS hl
    ·
      refine lv_iconst (pc := 1005) (v := 1) hx hb dL_law_1005 (by decide) ?_
      refine lv_goto (pc := 1006) (tgt := 1010) hx hb dL_law_1006 (by decide) ?_
      have hP : va_P D gcl (wM cB cC cI cJ v ++ wX cB cC cI cJ w_34) H := va_P.swap (a := []) (b := wX cB cC cI cJ w_34) (c := wM cB cC cI cJ v) hP
      have hD : va_D (fun q : Nat => s.heap.size ≤ q) (wM cB cC cI cJ v ++ wX cB cC cI cJ w_34) := va_D.swap (a := []) (b := wX cB cC cI cJ w_34) (c := wM cB cC cI cJ v) hD
      refine cc_1010 C0 hK hF v hfM hl x_40 x_42 (1 : Int32) (by rw [tI_1]; decide) hP hD hS (fun r_52 w_53 H locs hf_54 ho_55 he_56 he_57 hP hD hS => ?_)
      have rr_52 := n_rng r_52
      refine lv_pop (pc := 1013) hx hb dL_law_1013 rfl ?_
      refine lv_goto (pc := 1014) (tgt := 1519) hx hb dL_law_1014 (by decide) ?_
      exact kk w_34 w_53 H locs ls hf_35 hf_54 (te_cut heq he_38 he_57 (by omega) (by omega)) ho_36 ho_55 (va_P.swap (a := []) (b := wM cB cC cI cJ w_53) (c := wX cB cC cI cJ w_34) hP) (va_D.swap (a := []) (b := wM cB cC cI cJ w_53) (c := wX cB cC cI cJ w_34) hD) hS hl
set_option maxHeartbeats 8000000 in
set_option maxRecDepth 100000 in
theorem lo_27 {p : Program} {l : Launch} {e : Env} {s : State} {m : MethodId} {below : List Frame} {meth : Method} {c : Code} {D : va_G} {cB cC cI cJ : ClassId} {b L : Nat} {xs : Nat → Int32} {adK adV : Nat → Nat} (C0 : lw_At p s m meth c b L xs) (hLN : L ≤ 3072) (hK : va_K D gcl [(cB, .byte), (cC, .char), (cI, .int), (cJ, .long)] s) (hF : sF adK adV (fun q : Nat => s.heap.size ≤ q) s s.heap) (o1 o2 : Nat) (i : Int32) (hi0 : 0 ≤ i.toInt) (hi1 : i.toInt + 6 ≤ (L : Int)) (u v : gEx) (hfX : fX u) (hfM : fM v) (heq : tEq (u.2.1 4) (u.2.2.2.1 7).toInt (v.2.1 0) (v.2.2.2.1 0).toInt) (hu0 : u.1 0 = o1) (hv0 : v.1 0 = o2) (H : Heap) (locs : List Loc) (ls : Array Slot) (hP : va_P D gcl (wX cB cC cI cJ u ++ wM cB cC cI cJ v) H) (hD : va_D (fun q : Nat => s.heap.size ≤ q) (wX cB cC cI cJ u ++ wM cB cC cI cJ v)) (hS : va_S (fun q : Nat => s.heap.size ≤ q) s.heap H locs) (hl : lv_has ls 4 [(3, .int i), (2, .ref o2), (1, .ref o1), (0, .ref b)])
    (kk : ∀ (u v : gEx) (H : Heap) (locs : List Loc) (ls : Array Slot), fX u → fM v → tEq (u.2.1 4) (u.2.2.2.1 7).toInt (v.2.1 0) (v.2.2.2.1 0).toInt → u.1 0 = o1 → v.1 0 = o2 → va_P D gcl (wX cB cC cI cJ u ++ wM cB cC cI cJ v) H → va_D (fun q : Nat => s.heap.size ≤ q) (wX cB cC cI cJ u ++ wM cB cC cI cJ v) → va_S (fun q : Nat => s.heap.size ≤ q) s.heap H locs → lv_has ls 4 [(3, .int i), (2, .ref o2), (1, .ref o1), (0, .ref b)] → W p l e room_1 s m #[Value.ref b] below meth c H locs 126 15724 (lw_Z below #[Value.ref b] s) (F0 m 1519 ls [])) : W p l e room_1 s m #[Value.ref b] below meth c H locs 126 15724 (lw_Z below #[Value.ref b] s) (F0 m 1017 ls []) := by
  subst hu0
  subst hv0
  have hlen := heq.1
  obtain ⟨hx, hb, hr, hml, hown, hts0, hX, hbl, hlocks, hgv⟩ := id C0
  have hts := g_tbl hts0
  have hbA : ¬ (fun q : Nat => s.heap.size ≤ q) b := Nat.not_le.mpr hbl
  refine lv_aload_n (pc := 1017) hx hb dL_law_1017 rfl (lv_at hl 2 rfl) ?_
  refine lv_aload_n (pc := 1018) hx hb dL_law_1018 rfl (lv_at hl 3 rfl) ?_
  refine lv_iload_n (pc := 1019) hx hb dL_law_1019 rfl (lv_at hl 0 rfl) ?_
  refine lv_iconst (pc := 1020) (v := 1) hx hb dL_law_1020 (by decide) ?_
  refine b_iadd (pc := 1021) hx hb rfl tI_1 (by omega) (by omega) dL_law_1021 (fun x_1 ex_1 => ?_)
  refine va_sld (pc := 1022) hx hb hX hbl hbA hS (n_in rfl (by omega) (by omega)) dL_law_1022 ?_
  refine lv_topi (fun x_2 ex_2 => ?_)
  have rx_2 := n_rng x_2
  have tx_2 := congrArg Int32.toInt (e_ld (f := xs) (show x_2 = xs (x_1.toInt).toNat from ex_2) (show x_1.toInt = (i.toInt) + (1) by omega))
  refine b_if_eq (pc := 1023) (tgt := 1030) hx hb rfl  dL_law_1023 (by decide) (fun c_3 => ?_) (fun c_3 => ?_)
  ·
    refine lv_iconst (pc := 1030) (v := 0) hx hb dL_law_1030 (by decide) ?_
    refine cc_1031 C0 hK hF u hfX hl (0 : Int32) (by rw [tI_0]; decide) hP hD hS (fun r_4 w_5 H locs hf_6 ho_7 he_8 he_9 hP hD hS => ?_)
    have rr_4 := n_rng r_4
    refine lv_pop (pc := 1034) hx hb dL_law_1034 rfl ?_
    refine lv_aload_n (pc := 1035) hx hb dL_law_1035 rfl (lv_at hl 1 rfl) ?_
    refine lv_aload_n (pc := 1036) hx hb dL_law_1036 rfl (lv_at hl 3 rfl) ?_
    refine lv_iload_n (pc := 1037) hx hb dL_law_1037 rfl (lv_at hl 0 rfl) ?_
    refine lv_iconst (pc := 1038) (v := 1) hx hb dL_law_1038 (by decide) ?_
    refine b_iadd (pc := 1039) hx hb rfl tI_1 (by omega) (by omega) dL_law_1039 (fun x_10 ex_10 => ?_)
    refine va_sld (pc := 1040) hx hb hX hbl hbA hS (n_in rfl (by omega) (by omega)) dL_law_1040 ?_
    refine lv_topi (fun x_11 ex_11 => ?_)
    have rx_11 := n_rng x_11
    have tx_11 := congrArg Int32.toInt (e_ld (f := xs) (show x_11 = xs (x_10.toInt).toNat from ex_11) (show x_10.toInt = (i.toInt) + (1) by omega))
    refine b_if_eq (pc := 1041) (tgt := 1048) hx hb rfl  dL_law_1041 (by decide) (fun c_12 => ?_) (fun c_12 => ?_)
    ·
      refine lv_iconst (pc := 1048) (v := 0) hx hb dL_law_1048 (by decide) ?_
      have hP : va_P D gcl (wM cB cC cI cJ v ++ wX cB cC cI cJ w_5) H := va_P.swap (a := []) (b := wX cB cC cI cJ w_5) (c := wM cB cC cI cJ v) hP
      have hD : va_D (fun q : Nat => s.heap.size ≤ q) (wM cB cC cI cJ v ++ wX cB cC cI cJ w_5) := va_D.swap (a := []) (b := wX cB cC cI cJ w_5) (c := wM cB cC cI cJ v) hD
      refine cc_1049 C0 hK hF v hfM hl (0 : Int32) (by rw [tI_0]; decide) hP hD hS (fun r_13 w_14 H locs hf_15 ho_16 he_17 he_18 hP hD hS => ?_)
      have rr_13 := n_rng r_13
      refine lv_pop (pc := 1052) hx hb dL_law_1052 rfl ?_
      refine lv_goto (pc := 1053) (tgt := 1519) hx hb dL_law_1053 (by decide) ?_
      exact kk w_5 w_14 H locs ls hf_6 hf_15 (te_cut heq he_9 he_18 (by omega) (by omega)) ho_7 ho_16 (va_P.swap (a := []) (b := wM cB cC cI cJ w_14) (c := wX cB cC cI cJ w_5) hP) (va_D.swap (a := []) (b := wM cB cC cI cJ w_14) (c := wX cB cC cI cJ w_5) hD) hS hl
    ·
      refine lv_iconst (pc := 1044) (v := 1) hx hb dL_law_1044 (by decide) ?_
      refine lv_goto (pc := 1045) (tgt := 1049) hx hb dL_law_1045 (by decide) ?_
      have hP : va_P D gcl (wM cB cC cI cJ v ++ wX cB cC cI cJ w_5) H := va_P.swap (a := []) (b := wX cB cC cI cJ w_5) (c := wM cB cC cI cJ v) hP
      have hD : va_D (fun q : Nat => s.heap.size ≤ q) (wM cB cC cI cJ v ++ wX cB cC cI cJ w_5) := va_D.swap (a := []) (b := wX cB cC cI cJ w_5) (c := wM cB cC cI cJ v) hD
      refine cc_1049 C0 hK hF v hfM hl (1 : Int32) (by rw [tI_1]; decide) hP hD hS (fun r_19 w_20 H locs hf_21 ho_22 he_23 he_24 hP hD hS => ?_)
      have rr_19 := n_rng r_19
      refine lv_pop (pc := 1052) hx hb dL_law_1052 rfl ?_
      refine lv_goto (pc := 1053) (tgt := 1519) hx hb dL_law_1053 (by decide) ?_
      exact kk w_5 w_20 H locs ls hf_6 hf_21 (te_cut heq he_9 he_24 (by omega) (by omega)) ho_7 ho_22 (va_P.swap (a := []) (b := wM cB cC cI cJ w_20) (c := wX cB cC cI cJ w_5) hP) (va_D.swap (a := []) (b := wM cB cC cI cJ w_20) (c := wX cB cC cI cJ w_5) hD) hS hl
  ·
    refine lv_iconst (pc := 1026) (v := 1) hx hb dL_law_1026 (by decide) ?_
    refine lv_goto (pc := 1027) (tgt := 1031) hx hb dL_law_1027 (by decide) ?_
    refine cc_1031 C0 hK hF u hfX hl (1 : Int32) (by rw [tI_1]; decide) hP hD hS (fun r_25 w_26 H locs hf_27 ho_28 he_29 he_30 hP hD hS => ?_)
    have rr_25 := n_rng r_25
    refine lv_pop (pc := 1034) hx hb dL_law_1034 rfl ?_
    refine lv_aload_n (pc := 1035) hx hb dL_law_1035 rfl (lv_at hl 1 rfl) ?_
    refine lv_aload_n (pc := 1036) hx hb dL_law_1036 rfl (lv_at hl 3 rfl) ?_
    refine lv_iload_n (pc := 1037) hx hb dL_law_1037 rfl (lv_at hl 0 rfl) ?_
    refine lv_iconst (pc := 1038) (v := 1) hx hb dL_law_1038 (by decide) ?_
    refine b_iadd (pc := 1039) hx hb rfl tI_1 (by omega) (by omega) dL_law_1039 (fun x_31 ex_31 => ?_)
    refine va_sld (pc := 1040) hx hb hX hbl hbA hS (n_in rfl (by omega) (by omega)) dL_law_1040 ?_
    refine lv_topi (fun x_32 ex_32 => ?_)
    have rx_32 := n_rng x_32
    have tx_32 := congrArg Int32.toInt (e_ld (f := xs) (show x_32 = xs (x_31.toInt).toNat from ex_32) (show x_31.toInt = (i.toInt) + (1) by omega))
    refine b_if_eq (pc := 1041) (tgt := 1048) hx hb rfl  dL_law_1041 (by decide) (fun c_33 => ?_) (fun c_33 => ?_)
    ·
      refine lv_iconst (pc := 1048) (v := 0) hx hb dL_law_1048 (by decide) ?_
      have hP : va_P D gcl (wM cB cC cI cJ v ++ wX cB cC cI cJ w_26) H := va_P.swap (a := []) (b := wX cB cC cI cJ w_26) (c := wM cB cC cI cJ v) hP
      have hD : va_D (fun q : Nat => s.heap.size ≤ q) (wM cB cC cI cJ v ++ wX cB cC cI cJ w_26) := va_D.swap (a := []) (b := wX cB cC cI cJ w_26) (c := wM cB cC cI cJ v) hD
      refine cc_1049 C0 hK hF v hfM hl (0 : Int32) (by rw [tI_0]; decide) hP hD hS (fun r_34 w_35 H locs hf_36 ho_37 he_38 he_39 hP hD hS => ?_)
      have rr_34 := n_rng r_34
      refine lv_pop (pc := 1052) hx hb dL_law_1052 rfl ?_
      refine lv_goto (pc := 1053) (tgt := 1519) hx hb dL_law_1053 (by decide) ?_
      exact kk w_26 w_35 H locs ls hf_27 hf_36 (te_cut heq he_30 he_39 (by omega) (by omega)) ho_28 ho_37 (va_P.swap (a := []) (b := wM cB cC cI cJ w_35) (c := wX cB cC cI cJ w_26) hP) (va_D.swap (a := []) (b := wM cB cC cI cJ w_35) (c := wX cB cC cI cJ w_26) hD) hS hl
    ·
      refine lv_iconst (pc := 1044) (v := 1) hx hb dL_law_1044 (by decide) ?_
      refine lv_goto (pc := 1045) (tgt := 1049) hx hb dL_law_1045 (by decide) ?_
      have hP : va_P D gcl (wM cB cC cI cJ v ++ wX cB cC cI cJ w_26) H := va_P.swap (a := []) (b := wX cB cC cI cJ w_26) (c := wM cB cC cI cJ v) hP
      have hD : va_D (fun q : Nat => s.heap.size ≤ q) (wM cB cC cI cJ v ++ wX cB cC cI cJ w_26) := va_D.swap (a := []) (b := wX cB cC cI cJ w_26) (c := wM cB cC cI cJ v) hD
      refine cc_1049 C0 hK hF v hfM hl (1 : Int32) (by rw [tI_1]; decide) hP hD hS (fun r_40 w_41 H locs hf_42 ho_43 he_44 he_45 hP hD hS => ?_)
      have rr_40 := n_rng r_40
      refine lv_pop (pc := 1052) hx hb dL_law_1052 rfl ?_
      refine lv_goto (pc := 1053) (tgt := 1519) hx hb dL_law_1053 (by decide) ?_
      exact kk w_26 w_41 H locs ls hf_27 hf_42 (te_cut heq he_30 he_45 (by omega) (by omega)) ho_28 ho_43 (va_P.swap (a := []) (b := wM cB cC cI cJ w_41) (c := wX cB cC cI cJ w_26) hP) (va_D.swap (a := []) (b := wM cB cC cI cJ w_41) (c := wX cB cC cI cJ w_26) hD) hS hl
set_option maxHeartbeats 8000000 in
set_option maxRecDepth 100000 in
theorem lo_28 {p : Program} {l : Launch} {e : Env} {s : State} {m : MethodId} {below : List Frame} {meth : Method} {c : Code} {D : va_G} {cB cC cI cJ : ClassId} {b L : Nat} {xs : Nat → Int32} {adK adV : Nat → Nat} (C0 : lw_At p s m meth c b L xs) (hLN : L ≤ 3072) (hK : va_K D gcl [(cB, .byte), (cC, .char), (cI, .int), (cJ, .long)] s) (hF : sF adK adV (fun q : Nat => s.heap.size ≤ q) s s.heap) (o1 o2 : Nat) (i : Int32) (hi0 : 0 ≤ i.toInt) (hi1 : i.toInt + 6 ≤ (L : Int)) (u v : gEx) (hfX : fX u) (hfM : fM v) (heq : tEq (u.2.1 4) (u.2.2.2.1 7).toInt (v.2.1 0) (v.2.2.2.1 0).toInt) (hu0 : u.1 0 = o1) (hv0 : v.1 0 = o2) (H : Heap) (locs : List Loc) (ls : Array Slot) (hP : va_P D gcl (wX cB cC cI cJ u ++ wM cB cC cI cJ v) H) (hD : va_D (fun q : Nat => s.heap.size ≤ q) (wX cB cC cI cJ u ++ wM cB cC cI cJ v)) (hS : va_S (fun q : Nat => s.heap.size ≤ q) s.heap H locs) (hl : lv_has ls 4 [(3, .int i), (2, .ref o2), (1, .ref o1), (0, .ref b)])
    (kk : ∀ (u v : gEx) (H : Heap) (locs : List Loc) (ls : Array Slot), fX u → fM v → tEq (u.2.1 4) (u.2.2.2.1 7).toInt (v.2.1 0) (v.2.2.2.1 0).toInt → u.1 0 = o1 → v.1 0 = o2 → va_P D gcl (wX cB cC cI cJ u ++ wM cB cC cI cJ v) H → va_D (fun q : Nat => s.heap.size ≤ q) (wX cB cC cI cJ u ++ wM cB cC cI cJ v) → va_S (fun q : Nat => s.heap.size ≤ q) s.heap H locs → lv_has ls 4 [(3, .int i), (2, .ref o2), (1, .ref o1), (0, .ref b)] → W p l e room_1 s m #[Value.ref b] below meth c H locs 126 15724 (lw_Z below #[Value.ref b] s) (F0 m 1519 ls [])) : W p l e room_1 s m #[Value.ref b] below meth c H locs 126 15724 (lw_Z below #[Value.ref b] s) (F0 m 1056 ls []) := by
  subst hu0
  subst hv0
  have hlen := heq.1
  obtain ⟨hx, hb, hr, hml, hown, hts0, hX, hbl, hlocks, hgv⟩ := id C0
  have hts := g_tbl hts0
  have hbA : ¬ (fun q : Nat => s.heap.size ≤ q) b := Nat.not_le.mpr hbl
  refine lv_aload_n (pc := 1056) hx hb dL_law_1056 rfl (lv_at hl 2 rfl) ?_
  refine lv_aload_n (pc := 1057) hx hb dL_law_1057 rfl (lv_at hl 3 rfl) ?_
  refine lv_iload_n (pc := 1058) hx hb dL_law_1058 rfl (lv_at hl 0 rfl) ?_
  refine lv_iconst (pc := 1059) (v := 1) hx hb dL_law_1059 (by decide) ?_
  refine b_iadd (pc := 1060) hx hb rfl tI_1 (by omega) (by omega) dL_law_1060 (fun x_1 ex_1 => ?_)
  refine va_sld (pc := 1061) hx hb hX hbl hbA hS (n_in rfl (by omega) (by omega)) dL_law_1061 ?_
  refine lv_topi (fun x_2 ex_2 => ?_)
  have rx_2 := n_rng x_2
  have tx_2 := congrArg Int32.toInt (e_ld (f := xs) (show x_2 = xs (x_1.toInt).toNat from ex_2) (show x_1.toInt = (i.toInt) + (1) by omega))
  refine b_if_eq (pc := 1062) (tgt := 1069) hx hb rfl  dL_law_1062 (by decide) (fun c_3 => ?_) (fun c_3 => ?_)
  ·
    refine lv_iconst (pc := 1069) (v := 0) hx hb dL_law_1069 (by decide) ?_
    refine cc_1070 C0 hK hF u hfX hl (0 : Int32) (by rw [tI_0]; decide) hP hD hS (fun r_4 w_5 H locs hf_6 ho_7 he_8 he_9 hP hD hS => ?_)
    have rr_4 := n_rngL r_4
    refine lv_pop2_2 (pc := 1073) hx hb dL_law_1073 rfl ?_
    refine lv_aload_n (pc := 1074) hx hb dL_law_1074 rfl (lv_at hl 1 rfl) ?_
    refine lv_aload_n (pc := 1075) hx hb dL_law_1075 rfl (lv_at hl 3 rfl) ?_
    refine lv_iload_n (pc := 1076) hx hb dL_law_1076 rfl (lv_at hl 0 rfl) ?_
    refine lv_iconst (pc := 1077) (v := 1) hx hb dL_law_1077 (by decide) ?_
    refine b_iadd (pc := 1078) hx hb rfl tI_1 (by omega) (by omega) dL_law_1078 (fun x_10 ex_10 => ?_)
    refine va_sld (pc := 1079) hx hb hX hbl hbA hS (n_in rfl (by omega) (by omega)) dL_law_1079 ?_
    refine lv_topi (fun x_11 ex_11 => ?_)
    have rx_11 := n_rng x_11
    have tx_11 := congrArg Int32.toInt (e_ld (f := xs) (show x_11 = xs (x_10.toInt).toNat from ex_11) (show x_10.toInt = (i.toInt) + (1) by omega))
    refine b_if_eq (pc := 1080) (tgt := 1087) hx hb rfl  dL_law_1080 (by decide) (fun c_12 => ?_) (fun c_12 => ?_)
    ·
      refine lv_iconst (pc := 1087) (v := 0) hx hb dL_law_1087 (by decide) ?_
      have hP : va_P D gcl (wM cB cC cI cJ v ++ wX cB cC cI cJ w_5) H := va_P.swap (a := []) (b := wX cB cC cI cJ w_5) (c := wM cB cC cI cJ v) hP
      have hD : va_D (fun q : Nat => s.heap.size ≤ q) (wM cB cC cI cJ v ++ wX cB cC cI cJ w_5) := va_D.swap (a := []) (b := wX cB cC cI cJ w_5) (c := wM cB cC cI cJ v) hD
      refine cc_1088 C0 hK hF v hfM hl (0 : Int32) (by rw [tI_0]; decide) hP hD hS (fun r_13 w_14 H locs hf_15 ho_16 he_17 he_18 hP hD hS => ?_)
      have rr_13 := n_rngL r_13
      refine lv_pop2_2 (pc := 1091) hx hb dL_law_1091 rfl ?_
      refine lv_goto (pc := 1092) (tgt := 1519) hx hb dL_law_1092 (by decide) ?_
      exact kk w_5 w_14 H locs ls hf_6 hf_15 (te_cut heq he_9 he_18 (by omega) (by omega)) ho_7 ho_16 (va_P.swap (a := []) (b := wM cB cC cI cJ w_14) (c := wX cB cC cI cJ w_5) hP) (va_D.swap (a := []) (b := wM cB cC cI cJ w_14) (c := wX cB cC cI cJ w_5) hD) hS hl
    ·
      refine lv_iconst (pc := 1083) (v := 1) hx hb dL_law_1083 (by decide) ?_
      refine lv_goto (pc := 1084) (tgt := 1088) hx hb dL_law_1084 (by decide) ?_
      have hP : va_P D gcl (wM cB cC cI cJ v ++ wX cB cC cI cJ w_5) H := va_P.swap (a := []) (b := wX cB cC cI cJ w_5) (c := wM cB cC cI cJ v) hP
      have hD : va_D (fun q : Nat => s.heap.size ≤ q) (wM cB cC cI cJ v ++ wX cB cC cI cJ w_5) := va_D.swap (a := []) (b := wX cB cC cI cJ w_5) (c := wM cB cC cI cJ v) hD
      refine cc_1088 C0 hK hF v hfM hl (1 : Int32) (by rw [tI_1]; decide) hP hD hS (fun r_19 w_20 H locs hf_21 ho_22 he_23 he_24 hP hD hS => ?_)
      have rr_19 := n_rngL r_19
      refine lv_pop2_2 (pc := 1091) hx hb dL_law_1091 rfl ?_
      refine lv_goto (pc := 1092) (tgt := 1519) hx hb dL_law_1092 (by decide) ?_
      exact kk w_5 w_20 H locs ls hf_6 hf_21 (te_cut heq he_9 he_24 (by omega) (by omega)) ho_7 ho_22 (va_P.swap (a := []) (b := wM cB cC cI cJ w_20) (c := wX cB cC cI cJ w_5) hP) (va_D.swap (a := []) (b := wM cB cC cI cJ w_20) (c := wX cB cC cI cJ w_5) hD) hS hl
  ·
    refine lv_iconst (pc := 1065) (v := 1) hx hb dL_law_1065 (by decide) ?_
    refine lv_goto (pc := 1066) (tgt := 1070) hx hb dL_law_1066 (by decide) ?_
    refine cc_1070 C0 hK hF u hfX hl (1 : Int32) (by rw [tI_1]; decide) hP hD hS (fun r_25 w_26 H locs hf_27 ho_28 he_29 he_30 hP hD hS => ?_)
    have rr_25 := n_rngL r_25
    refine lv_pop2_2 (pc := 1073) hx hb dL_law_1073 rfl ?_
    refine lv_aload_n (pc := 1074) hx hb dL_law_1074 rfl (lv_at hl 1 rfl) ?_
    refine lv_aload_n (pc := 1075) hx hb dL_law_1075 rfl (lv_at hl 3 rfl) ?_
    refine lv_iload_n (pc := 1076) hx hb dL_law_1076 rfl (lv_at hl 0 rfl) ?_
    refine lv_iconst (pc := 1077) (v := 1) hx hb dL_law_1077 (by decide) ?_
    refine b_iadd (pc := 1078) hx hb rfl tI_1 (by omega) (by omega) dL_law_1078 (fun x_31 ex_31 => ?_)
    refine va_sld (pc := 1079) hx hb hX hbl hbA hS (n_in rfl (by omega) (by omega)) dL_law_1079 ?_
    refine lv_topi (fun x_32 ex_32 => ?_)
    have rx_32 := n_rng x_32
    have tx_32 := congrArg Int32.toInt (e_ld (f := xs) (show x_32 = xs (x_31.toInt).toNat from ex_32) (show x_31.toInt = (i.toInt) + (1) by omega))
    refine b_if_eq (pc := 1080) (tgt := 1087) hx hb rfl  dL_law_1080 (by decide) (fun c_33 => ?_) (fun c_33 => ?_)
    ·
      refine lv_iconst (pc := 1087) (v := 0) hx hb dL_law_1087 (by decide) ?_
      have hP : va_P D gcl (wM cB cC cI cJ v ++ wX cB cC cI cJ w_26) H := va_P.swap (a := []) (b := wX cB cC cI cJ w_26) (c := wM cB cC cI cJ v) hP
      have hD : va_D (fun q : Nat => s.heap.size ≤ q) (wM cB cC cI cJ v ++ wX cB cC cI cJ w_26) := va_D.swap (a := []) (b := wX cB cC cI cJ w_26) (c := wM cB cC cI cJ v) hD
      refine cc_1088 C0 hK hF v hfM hl (0 : Int32) (by rw [tI_0]; decide) hP hD hS (fun r_34 w_35 H locs hf_36 ho_37 he_38 he_39 hP hD hS => ?_)
      have rr_34 := n_rngL r_34
      refine lv_pop2_2 (pc := 1091) hx hb dL_law_1091 rfl ?_
      refine lv_goto (pc := 1092) (tgt := 1519) hx hb dL_law_1092 (by decide) ?_
      exact kk w_26 w_35 H locs ls hf_27 hf_36 (te_cut heq he_30 he_39 (by omega) (by omega)) ho_28 ho_37 (va_P.swap (a := []) (b := wM cB cC cI cJ w_35) (c := wX cB cC cI cJ w_26) hP) (va_D.swap (a := []) (b := wM cB cC cI cJ w_35) (c := wX cB cC cI cJ w_26) hD) hS hl
    ·
      refine lv_iconst (pc := 1083) (v := 1) hx hb dL_law_1083 (by decide) ?_
      refine lv_goto (pc := 1084) (tgt := 1088) hx hb dL_law_1084 (by decide) ?_
      have hP : va_P D gcl (wM cB cC cI cJ v ++ wX cB cC cI cJ w_26) H := va_P.swap (a := []) (b := wX cB cC cI cJ w_26) (c := wM cB cC cI cJ v) hP
      have hD : va_D (fun q : Nat => s.heap.size ≤ q) (wM cB cC cI cJ v ++ wX cB cC cI cJ w_26) := va_D.swap (a := []) (b := wX cB cC cI cJ w_26) (c := wM cB cC cI cJ v) hD
      refine cc_1088 C0 hK hF v hfM hl (1 : Int32) (by rw [tI_1]; decide) hP hD hS (fun r_40 w_41 H locs hf_42 ho_43 he_44 he_45 hP hD hS => ?_)
      have rr_40 := n_rngL r_40
      refine lv_pop2_2 (pc := 1091) hx hb dL_law_1091 rfl ?_
      refine lv_goto (pc := 1092) (tgt := 1519) hx hb dL_law_1092 (by decide) ?_
      exact kk w_26 w_41 H locs ls hf_27 hf_42 (te_cut heq he_30 he_45 (by omega) (by omega)) ho_28 ho_43 (va_P.swap (a := []) (b := wM cB cC cI cJ w_41) (c := wX cB cC cI cJ w_26) hP) (va_D.swap (a := []) (b := wM cB cC cI cJ w_41) (c := wX cB cC cI cJ w_26) hD) hS hl
set_option maxHeartbeats 8000000 in
set_option maxRecDepth 100000 in
theorem lo_29 {p : Program} {l : Launch} {e : Env} {s : State} {m : MethodId} {below : List Frame} {meth : Method} {c : Code} {D : va_G} {cB cC cI cJ : ClassId} {b L : Nat} {xs : Nat → Int32} {adK adV : Nat → Nat} (C0 : lw_At p s m meth c b L xs) (hLN : L ≤ 3072) (hK : va_K D gcl [(cB, .byte), (cC, .char), (cI, .int), (cJ, .long)] s) (hF : sF adK adV (fun q : Nat => s.heap.size ≤ q) s s.heap) (o1 o2 : Nat) (i : Int32) (hi0 : 0 ≤ i.toInt) (hi1 : i.toInt + 6 ≤ (L : Int)) (u v : gEx) (hfX : fX u) (hfM : fM v) (heq : tEq (u.2.1 4) (u.2.2.2.1 7).toInt (v.2.1 0) (v.2.2.2.1 0).toInt) (hu0 : u.1 0 = o1) (hv0 : v.1 0 = o2) (H : Heap) (locs : List Loc) (ls : Array Slot) (hP : va_P D gcl (wX cB cC cI cJ u ++ wM cB cC cI cJ v) H) (hD : va_D (fun q : Nat => s.heap.size ≤ q) (wX cB cC cI cJ u ++ wM cB cC cI cJ v)) (hS : va_S (fun q : Nat => s.heap.size ≤ q) s.heap H locs) (hl : lv_has ls 4 [(3, .int i), (2, .ref o2), (1, .ref o1), (0, .ref b)])
    (kk : ∀ (u v : gEx) (H : Heap) (locs : List Loc) (ls : Array Slot), fX u → fM v → tEq (u.2.1 4) (u.2.2.2.1 7).toInt (v.2.1 0) (v.2.2.2.1 0).toInt → u.1 0 = o1 → v.1 0 = o2 → va_P D gcl (wX cB cC cI cJ u ++ wM cB cC cI cJ v) H → va_D (fun q : Nat => s.heap.size ≤ q) (wX cB cC cI cJ u ++ wM cB cC cI cJ v) → va_S (fun q : Nat => s.heap.size ≤ q) s.heap H locs → lv_has ls 4 [(3, .int i), (2, .ref o2), (1, .ref o1), (0, .ref b)] → W p l e room_1 s m #[Value.ref b] below meth c H locs 126 15724 (lw_Z below #[Value.ref b] s) (F0 m 1519 ls [])) : W p l e room_1 s m #[Value.ref b] below meth c H locs 126 15724 (lw_Z below #[Value.ref b] s) (F0 m 1095 ls []) := by
  subst hu0
  subst hv0
  have hlen := heq.1
  obtain ⟨hx, hb, hr, hml, hown, hts0, hX, hbl, hlocks, hgv⟩ := id C0
  have hts := g_tbl hts0
  have hbA : ¬ (fun q : Nat => s.heap.size ≤ q) b := Nat.not_le.mpr hbl
  refine lv_aload_n (pc := 1095) hx hb dL_law_1095 rfl (lv_at hl 2 rfl) ?_
  refine lv_aload_n (pc := 1096) hx hb dL_law_1096 rfl (lv_at hl 3 rfl) ?_
  refine lv_iload_n (pc := 1097) hx hb dL_law_1097 rfl (lv_at hl 0 rfl) ?_
  refine lv_iconst (pc := 1098) (v := 1) hx hb dL_law_1098 (by decide) ?_
  refine b_iadd (pc := 1099) hx hb rfl tI_1 (by omega) (by omega) dL_law_1099 (fun x_1 ex_1 => ?_)
  refine va_sld (pc := 1100) hx hb hX hbl hbA hS (n_in rfl (by omega) (by omega)) dL_law_1100 ?_
  refine lv_topi (fun x_2 ex_2 => ?_)
  have rx_2 := n_rng x_2
  have tx_2 := congrArg Int32.toInt (e_ld (f := xs) (show x_2 = xs (x_1.toInt).toNat from ex_2) (show x_1.toInt = (i.toInt) + (1) by omega))
  refine lv_aload_n (pc := 1101) hx hb dL_law_1101 rfl (lv_at hl 3 rfl) ?_
  refine lv_iload_n (pc := 1102) hx hb dL_law_1102 rfl (lv_at hl 0 rfl) ?_
  refine lv_iconst (pc := 1103) (v := 2) hx hb dL_law_1103 (by decide) ?_
  refine b_iadd (pc := 1104) hx hb rfl tI_2 (by omega) (by omega) dL_law_1104 (fun x_3 ex_3 => ?_)
  refine va_sld (pc := 1105) hx hb hX hbl hbA hS (n_in rfl (by omega) (by omega)) dL_law_1105 ?_
  refine lv_topi (fun x_4 ex_4 => ?_)
  have rx_4 := n_rng x_4
  have tx_4 := congrArg Int32.toInt (e_ld (f := xs) (show x_4 = xs (x_3.toInt).toNat from ex_4) (show x_3.toInt = (i.toInt) + (2) by omega))
  refine lv_aload_n (pc := 1106) hx hb dL_law_1106 rfl (lv_at hl 3 rfl) ?_
  refine lv_iload_n (pc := 1107) hx hb dL_law_1107 rfl (lv_at hl 0 rfl) ?_
  refine lv_iconst (pc := 1108) (v := 3) hx hb dL_law_1108 (by decide) ?_
  refine b_iadd (pc := 1109) hx hb rfl tI_3 (by omega) (by omega) dL_law_1109 (fun x_5 ex_5 => ?_)
  refine va_sld (pc := 1110) hx hb hX hbl hbA hS (n_in rfl (by omega) (by omega)) dL_law_1110 ?_
  refine lv_topi (fun x_6 ex_6 => ?_)
  have rx_6 := n_rng x_6
  have tx_6 := congrArg Int32.toInt (e_ld (f := xs) (show x_6 = xs (x_5.toInt).toNat from ex_6) (show x_5.toInt = (i.toInt) + (3) by omega))
  refine cc_1111 C0 hK hF u hfX hl x_2 x_4 x_6 hP hD hS (fun r_7 w_8 H locs hf_9 ho_10 he_11 he_12 hP hD hS => ?_)
  have rr_7 := n_rngL r_7
  refine lv_pop2_2 (pc := 1114) hx hb dL_law_1114 rfl ?_
  refine lv_aload_n (pc := 1115) hx hb dL_law_1115 rfl (lv_at hl 1 rfl) ?_
  refine lv_aload_n (pc := 1116) hx hb dL_law_1116 rfl (lv_at hl 3 rfl) ?_
  refine lv_iload_n (pc := 1117) hx hb dL_law_1117 rfl (lv_at hl 0 rfl) ?_
  refine lv_iconst (pc := 1118) (v := 1) hx hb dL_law_1118 (by decide) ?_
  refine b_iadd (pc := 1119) hx hb rfl tI_1 (by omega) (by omega) dL_law_1119 (fun x_13 ex_13 => ?_)
  refine va_sld (pc := 1120) hx hb hX hbl hbA hS (n_in rfl (by omega) (by omega)) dL_law_1120 ?_
  refine lv_topi (fun x_14 ex_14 => ?_)
  have rx_14 := n_rng x_14
  have tx_14 := congrArg Int32.toInt (e_ld (f := xs) (show x_14 = xs (x_13.toInt).toNat from ex_14) (show x_13.toInt = (i.toInt) + (1) by omega))
  refine lv_aload_n (pc := 1121) hx hb dL_law_1121 rfl (lv_at hl 3 rfl) ?_
  refine lv_iload_n (pc := 1122) hx hb dL_law_1122 rfl (lv_at hl 0 rfl) ?_
  refine lv_iconst (pc := 1123) (v := 2) hx hb dL_law_1123 (by decide) ?_
  refine b_iadd (pc := 1124) hx hb rfl tI_2 (by omega) (by omega) dL_law_1124 (fun x_15 ex_15 => ?_)
  refine va_sld (pc := 1125) hx hb hX hbl hbA hS (n_in rfl (by omega) (by omega)) dL_law_1125 ?_
  refine lv_topi (fun x_16 ex_16 => ?_)
  have rx_16 := n_rng x_16
  have tx_16 := congrArg Int32.toInt (e_ld (f := xs) (show x_16 = xs (x_15.toInt).toNat from ex_16) (show x_15.toInt = (i.toInt) + (2) by omega))
  refine lv_aload_n (pc := 1126) hx hb dL_law_1126 rfl (lv_at hl 3 rfl) ?_
  refine lv_iload_n (pc := 1127) hx hb dL_law_1127 rfl (lv_at hl 0 rfl) ?_
  refine lv_iconst (pc := 1128) (v := 3) hx hb dL_law_1128 (by decide) ?_
  refine b_iadd (pc := 1129) hx hb rfl tI_3 (by omega) (by omega) dL_law_1129 (fun x_17 ex_17 => ?_)
  refine va_sld (pc := 1130) hx hb hX hbl hbA hS (n_in rfl (by omega) (by omega)) dL_law_1130 ?_
  refine lv_topi (fun x_18 ex_18 => ?_)
  have rx_18 := n_rng x_18
  have tx_18 := congrArg Int32.toInt (e_ld (f := xs) (show x_18 = xs (x_17.toInt).toNat from ex_18) (show x_17.toInt = (i.toInt) + (3) by omega))
  have hP : va_P D gcl (wM cB cC cI cJ v ++ wX cB cC cI cJ w_8) H := va_P.swap (a := []) (b := wX cB cC cI cJ w_8) (c := wM cB cC cI cJ v) hP
  have hD : va_D (fun q : Nat => s.heap.size ≤ q) (wM cB cC cI cJ v ++ wX cB cC cI cJ w_8) := va_D.swap (a := []) (b := wX cB cC cI cJ w_8) (c := wM cB cC cI cJ v) hD
  refine cc_1131 C0 hK hF v hfM hl x_14 x_16 x_18 hP hD hS (fun r_19 w_20 H locs hf_21 ho_22 he_23 he_24 hP hD hS => ?_)
  have rr_19 := n_rngL r_19
  refine lv_pop2_2 (pc := 1134) hx hb dL_law_1134 rfl ?_
  refine lv_goto (pc := 1135) (tgt := 1519) hx hb dL_law_1135 (by decide) ?_
  exact kk w_8 w_20 H locs ls hf_9 hf_21 (te_cut heq he_12 he_24 (by omega) (by omega)) ho_10 ho_22 (va_P.swap (a := []) (b := wM cB cC cI cJ w_20) (c := wX cB cC cI cJ w_8) hP) (va_D.swap (a := []) (b := wM cB cC cI cJ w_20) (c := wX cB cC cI cJ w_8) hD) hS hl
set_option maxHeartbeats 8000000 in
set_option maxRecDepth 100000 in
theorem lo_30 {p : Program} {l : Launch} {e : Env} {s : State} {m : MethodId} {below : List Frame} {meth : Method} {c : Code} {D : va_G} {cB cC cI cJ : ClassId} {b L : Nat} {xs : Nat → Int32} {adK adV : Nat → Nat} (C0 : lw_At p s m meth c b L xs) (hLN : L ≤ 3072) (hK : va_K D gcl [(cB, .byte), (cC, .char), (cI, .int), (cJ, .long)] s) (hF : sF adK adV (fun q : Nat => s.heap.size ≤ q) s s.heap) (o1 o2 : Nat) (i : Int32) (hi0 : 0 ≤ i.toInt) (hi1 : i.toInt + 6 ≤ (L : Int)) (u v : gEx) (hfX : fX u) (hfM : fM v) (heq : tEq (u.2.1 4) (u.2.2.2.1 7).toInt (v.2.1 0) (v.2.2.2.1 0).toInt) (hu0 : u.1 0 = o1) (hv0 : v.1 0 = o2) (H : Heap) (locs : List Loc) (ls : Array Slot) (hP : va_P D gcl (wX cB cC cI cJ u ++ wM cB cC cI cJ v) H) (hD : va_D (fun q : Nat => s.heap.size ≤ q) (wX cB cC cI cJ u ++ wM cB cC cI cJ v)) (hS : va_S (fun q : Nat => s.heap.size ≤ q) s.heap H locs) (hl : lv_has ls 4 [(3, .int i), (2, .ref o2), (1, .ref o1), (0, .ref b)])
    (kk : ∀ (u v : gEx) (H : Heap) (locs : List Loc) (ls : Array Slot), fX u → fM v → tEq (u.2.1 4) (u.2.2.2.1 7).toInt (v.2.1 0) (v.2.2.2.1 0).toInt → u.1 0 = o1 → v.1 0 = o2 → va_P D gcl (wX cB cC cI cJ u ++ wM cB cC cI cJ v) H → va_D (fun q : Nat => s.heap.size ≤ q) (wX cB cC cI cJ u ++ wM cB cC cI cJ v) → va_S (fun q : Nat => s.heap.size ≤ q) s.heap H locs → lv_has ls 4 [(3, .int i), (2, .ref o2), (1, .ref o1), (0, .ref b)] → W p l e room_1 s m #[Value.ref b] below meth c H locs 126 15724 (lw_Z below #[Value.ref b] s) (F0 m 1519 ls [])) : W p l e room_1 s m #[Value.ref b] below meth c H locs 126 15724 (lw_Z below #[Value.ref b] s) (F0 m 1138 ls []) := by
  subst hu0
  subst hv0
  have hlen := heq.1
  obtain ⟨hx, hb, hr, hml, hown, hts0, hX, hbl, hlocks, hgv⟩ := id C0
  have hts := g_tbl hts0
  have hbA : ¬ (fun q : Nat => s.heap.size ≤ q) b := Nat.not_le.mpr hbl
  refine lv_aload_n (pc := 1138) hx hb dL_law_1138 rfl (lv_at hl 2 rfl) ?_
  refine lv_aload_n (pc := 1139) hx hb dL_law_1139 rfl (lv_at hl 3 rfl) ?_
  refine lv_iload_n (pc := 1140) hx hb dL_law_1140 rfl (lv_at hl 0 rfl) ?_
  refine lv_iconst (pc := 1141) (v := 1) hx hb dL_law_1141 (by decide) ?_
  refine b_iadd (pc := 1142) hx hb rfl tI_1 (by omega) (by omega) dL_law_1142 (fun x_1 ex_1 => ?_)
  refine va_sld (pc := 1143) hx hb hX hbl hbA hS (n_in rfl (by omega) (by omega)) dL_law_1143 ?_
  refine lv_topi (fun x_2 ex_2 => ?_)
  have rx_2 := n_rng x_2
  have tx_2 := congrArg Int32.toInt (e_ld (f := xs) (show x_2 = xs (x_1.toInt).toNat from ex_2) (show x_1.toInt = (i.toInt) + (1) by omega))
  refine cc_1144 C0 hK hF u hfX hl x_2 hP hD hS (fun r_3 w_4 H locs hf_5 ho_6 he_7 he_8 hP hD hS => ?_)
  have rr_3 := n_rngL r_3
  refine lv_pop2_2 (pc := 1147) hx hb dL_law_1147 rfl ?_
  refine lv_aload_n (pc := 1148) hx hb dL_law_1148 rfl (lv_at hl 1 rfl) ?_
  refine lv_aload_n (pc := 1149) hx hb dL_law_1149 rfl (lv_at hl 3 rfl) ?_
  refine lv_iload_n (pc := 1150) hx hb dL_law_1150 rfl (lv_at hl 0 rfl) ?_
  refine lv_iconst (pc := 1151) (v := 1) hx hb dL_law_1151 (by decide) ?_
  refine b_iadd (pc := 1152) hx hb rfl tI_1 (by omega) (by omega) dL_law_1152 (fun x_9 ex_9 => ?_)
  refine va_sld (pc := 1153) hx hb hX hbl hbA hS (n_in rfl (by omega) (by omega)) dL_law_1153 ?_
  refine lv_topi (fun x_10 ex_10 => ?_)
  have rx_10 := n_rng x_10
  have tx_10 := congrArg Int32.toInt (e_ld (f := xs) (show x_10 = xs (x_9.toInt).toNat from ex_10) (show x_9.toInt = (i.toInt) + (1) by omega))
  have hP : va_P D gcl (wM cB cC cI cJ v ++ wX cB cC cI cJ w_4) H := va_P.swap (a := []) (b := wX cB cC cI cJ w_4) (c := wM cB cC cI cJ v) hP
  have hD : va_D (fun q : Nat => s.heap.size ≤ q) (wM cB cC cI cJ v ++ wX cB cC cI cJ w_4) := va_D.swap (a := []) (b := wX cB cC cI cJ w_4) (c := wM cB cC cI cJ v) hD
  refine cc_1154 C0 hK hF v hfM hl x_10 hP hD hS (fun r_11 w_12 H locs hf_13 ho_14 he_15 he_16 hP hD hS => ?_)
  have rr_11 := n_rngL r_11
  refine lv_pop2_2 (pc := 1157) hx hb dL_law_1157 rfl ?_
  refine lv_goto (pc := 1158) (tgt := 1519) hx hb dL_law_1158 (by decide) ?_
  exact kk w_4 w_12 H locs ls hf_5 hf_13 (te_cut heq he_8 he_16 (by omega) (by omega)) ho_6 ho_14 (va_P.swap (a := []) (b := wM cB cC cI cJ w_12) (c := wX cB cC cI cJ w_4) hP) (va_D.swap (a := []) (b := wM cB cC cI cJ w_12) (c := wX cB cC cI cJ w_4) hD) hS hl
set_option maxHeartbeats 8000000 in
set_option maxRecDepth 100000 in
theorem lo_31 {p : Program} {l : Launch} {e : Env} {s : State} {m : MethodId} {below : List Frame} {meth : Method} {c : Code} {D : va_G} {cB cC cI cJ : ClassId} {b L : Nat} {xs : Nat → Int32} {adK adV : Nat → Nat} (C0 : lw_At p s m meth c b L xs) (hLN : L ≤ 3072) (hK : va_K D gcl [(cB, .byte), (cC, .char), (cI, .int), (cJ, .long)] s) (hF : sF adK adV (fun q : Nat => s.heap.size ≤ q) s s.heap) (o1 o2 : Nat) (i : Int32) (hi0 : 0 ≤ i.toInt) (hi1 : i.toInt + 6 ≤ (L : Int)) (u v : gEx) (hfX : fX u) (hfM : fM v) (heq : tEq (u.2.1 4) (u.2.2.2.1 7).toInt (v.2.1 0) (v.2.2.2.1 0).toInt) (hu0 : u.1 0 = o1) (hv0 : v.1 0 = o2) (H : Heap) (locs : List Loc) (ls : Array Slot) (hP : va_P D gcl (wX cB cC cI cJ u ++ wM cB cC cI cJ v) H) (hD : va_D (fun q : Nat => s.heap.size ≤ q) (wX cB cC cI cJ u ++ wM cB cC cI cJ v)) (hS : va_S (fun q : Nat => s.heap.size ≤ q) s.heap H locs) (hl : lv_has ls 4 [(3, .int i), (2, .ref o2), (1, .ref o1), (0, .ref b)])
    (kk : ∀ (u v : gEx) (H : Heap) (locs : List Loc) (ls : Array Slot), fX u → fM v → tEq (u.2.1 4) (u.2.2.2.1 7).toInt (v.2.1 0) (v.2.2.2.1 0).toInt → u.1 0 = o1 → v.1 0 = o2 → va_P D gcl (wX cB cC cI cJ u ++ wM cB cC cI cJ v) H → va_D (fun q : Nat => s.heap.size ≤ q) (wX cB cC cI cJ u ++ wM cB cC cI cJ v) → va_S (fun q : Nat => s.heap.size ≤ q) s.heap H locs → lv_has ls 4 [(3, .int i), (2, .ref o2), (1, .ref o1), (0, .ref b)] → W p l e room_1 s m #[Value.ref b] below meth c H locs 126 15724 (lw_Z below #[Value.ref b] s) (F0 m 1519 ls [])) : W p l e room_1 s m #[Value.ref b] below meth c H locs 126 15724 (lw_Z below #[Value.ref b] s) (F0 m 1161 ls []) := by
  subst hu0
  subst hv0
  have hlen := heq.1
  obtain ⟨hx, hb, hr, hml, hown, hts0, hX, hbl, hlocks, hgv⟩ := id C0
  have hts := g_tbl hts0
  have hbA : ¬ (fun q : Nat => s.heap.size ≤ q) b := Nat.not_le.mpr hbl
  refine lv_aload_n (pc := 1161) hx hb dL_law_1161 rfl (lv_at hl 2 rfl) ?_
  refine lv_aload_n (pc := 1162) hx hb dL_law_1162 rfl (lv_at hl 3 rfl) ?_
  refine lv_iload_n (pc := 1163) hx hb dL_law_1163 rfl (lv_at hl 0 rfl) ?_
  refine lv_iconst (pc := 1164) (v := 1) hx hb dL_law_1164 (by decide) ?_
  refine b_iadd (pc := 1165) hx hb rfl tI_1 (by omega) (by omega) dL_law_1165 (fun x_1 ex_1 => ?_)
  refine va_sld (pc := 1166) hx hb hX hbl hbA hS (n_in rfl (by omega) (by omega)) dL_law_1166 ?_
  refine lv_topi (fun x_2 ex_2 => ?_)
  have rx_2 := n_rng x_2
  have tx_2 := congrArg Int32.toInt (e_ld (f := xs) (show x_2 = xs (x_1.toInt).toNat from ex_2) (show x_1.toInt = (i.toInt) + (1) by omega))
  refine lv_aload_n (pc := 1167) hx hb dL_law_1167 rfl (lv_at hl 3 rfl) ?_
  refine lv_iload_n (pc := 1168) hx hb dL_law_1168 rfl (lv_at hl 0 rfl) ?_
  refine lv_iconst (pc := 1169) (v := 2) hx hb dL_law_1169 (by decide) ?_
  refine b_iadd (pc := 1170) hx hb rfl tI_2 (by omega) (by omega) dL_law_1170 (fun x_3 ex_3 => ?_)
  refine va_sld (pc := 1171) hx hb hX hbl hbA hS (n_in rfl (by omega) (by omega)) dL_law_1171 ?_
  refine lv_topi (fun x_4 ex_4 => ?_)
  have rx_4 := n_rng x_4
  have tx_4 := congrArg Int32.toInt (e_ld (f := xs) (show x_4 = xs (x_3.toInt).toNat from ex_4) (show x_3.toInt = (i.toInt) + (2) by omega))
  refine cc_1172 C0 hK hF u hfX hl x_2 x_4 hP hD hS (fun r_5 w_6 H locs hf_7 ho_8 he_9 he_10 hP hD hS => ?_)
  have rr_5 := n_rng r_5
  refine lv_pop (pc := 1175) hx hb dL_law_1175 rfl ?_
  refine lv_aload_n (pc := 1176) hx hb dL_law_1176 rfl (lv_at hl 1 rfl) ?_
  refine lv_aload_n (pc := 1177) hx hb dL_law_1177 rfl (lv_at hl 3 rfl) ?_
  refine lv_iload_n (pc := 1178) hx hb dL_law_1178 rfl (lv_at hl 0 rfl) ?_
  refine lv_iconst (pc := 1179) (v := 1) hx hb dL_law_1179 (by decide) ?_
  refine b_iadd (pc := 1180) hx hb rfl tI_1 (by omega) (by omega) dL_law_1180 (fun x_11 ex_11 => ?_)
  refine va_sld (pc := 1181) hx hb hX hbl hbA hS (n_in rfl (by omega) (by omega)) dL_law_1181 ?_
  refine lv_topi (fun x_12 ex_12 => ?_)
  have rx_12 := n_rng x_12
  have tx_12 := congrArg Int32.toInt (e_ld (f := xs) (show x_12 = xs (x_11.toInt).toNat from ex_12) (show x_11.toInt = (i.toInt) + (1) by omega))
  refine lv_aload_n (pc := 1182) hx hb dL_law_1182 rfl (lv_at hl 3 rfl) ?_
  refine lv_iload_n (pc := 1183) hx hb dL_law_1183 rfl (lv_at hl 0 rfl) ?_
  refine lv_iconst (pc := 1184) (v := 2) hx hb dL_law_1184 (by decide) ?_
  refine b_iadd (pc := 1185) hx hb rfl tI_2 (by omega) (by omega) dL_law_1185 (fun x_13 ex_13 => ?_)
  refine va_sld (pc := 1186) hx hb hX hbl hbA hS (n_in rfl (by omega) (by omega)) dL_law_1186 ?_
  refine lv_topi (fun x_14 ex_14 => ?_)
  have rx_14 := n_rng x_14
  have tx_14 := congrArg Int32.toInt (e_ld (f := xs) (show x_14 = xs (x_13.toInt).toNat from ex_14) (show x_13.toInt = (i.toInt) + (2) by omega))
  have hP : va_P D gcl (wM cB cC cI cJ v ++ wX cB cC cI cJ w_6) H := va_P.swap (a := []) (b := wX cB cC cI cJ w_6) (c := wM cB cC cI cJ v) hP
  have hD : va_D (fun q : Nat => s.heap.size ≤ q) (wM cB cC cI cJ v ++ wX cB cC cI cJ w_6) := va_D.swap (a := []) (b := wX cB cC cI cJ w_6) (c := wM cB cC cI cJ v) hD
  refine cc_1187 C0 hK hF v hfM hl x_12 x_14 hP hD hS (fun r_15 w_16 H locs hf_17 ho_18 he_19 he_20 hP hD hS => ?_)
  have rr_15 := n_rng r_15
  refine lv_pop (pc := 1190) hx hb dL_law_1190 rfl ?_
  refine lv_goto (pc := 1191) (tgt := 1519) hx hb dL_law_1191 (by decide) ?_
  exact kk w_6 w_16 H locs ls hf_7 hf_17 (te_cut heq he_10 he_20 (by omega) (by omega)) ho_8 ho_18 (va_P.swap (a := []) (b := wM cB cC cI cJ w_16) (c := wX cB cC cI cJ w_6) hP) (va_D.swap (a := []) (b := wM cB cC cI cJ w_16) (c := wX cB cC cI cJ w_6) hD) hS hl
set_option maxHeartbeats 8000000 in
set_option maxRecDepth 100000 in
theorem lo_32 {p : Program} {l : Launch} {e : Env} {s : State} {m : MethodId} {below : List Frame} {meth : Method} {c : Code} {D : va_G} {cB cC cI cJ : ClassId} {b L : Nat} {xs : Nat → Int32} {adK adV : Nat → Nat} (C0 : lw_At p s m meth c b L xs) (hLN : L ≤ 3072) (hK : va_K D gcl [(cB, .byte), (cC, .char), (cI, .int), (cJ, .long)] s) (hF : sF adK adV (fun q : Nat => s.heap.size ≤ q) s s.heap) (o1 o2 : Nat) (i : Int32) (hi0 : 0 ≤ i.toInt) (hi1 : i.toInt + 6 ≤ (L : Int)) (u v : gEx) (hfX : fX u) (hfM : fM v) (heq : tEq (u.2.1 4) (u.2.2.2.1 7).toInt (v.2.1 0) (v.2.2.2.1 0).toInt) (hu0 : u.1 0 = o1) (hv0 : v.1 0 = o2) (H : Heap) (locs : List Loc) (ls : Array Slot) (hP : va_P D gcl (wX cB cC cI cJ u ++ wM cB cC cI cJ v) H) (hD : va_D (fun q : Nat => s.heap.size ≤ q) (wX cB cC cI cJ u ++ wM cB cC cI cJ v)) (hS : va_S (fun q : Nat => s.heap.size ≤ q) s.heap H locs) (hl : lv_has ls 4 [(3, .int i), (2, .ref o2), (1, .ref o1), (0, .ref b)])
    (kk : ∀ (u v : gEx) (H : Heap) (locs : List Loc) (ls : Array Slot), fX u → fM v → tEq (u.2.1 4) (u.2.2.2.1 7).toInt (v.2.1 0) (v.2.2.2.1 0).toInt → u.1 0 = o1 → v.1 0 = o2 → va_P D gcl (wX cB cC cI cJ u ++ wM cB cC cI cJ v) H → va_D (fun q : Nat => s.heap.size ≤ q) (wX cB cC cI cJ u ++ wM cB cC cI cJ v) → va_S (fun q : Nat => s.heap.size ≤ q) s.heap H locs → lv_has ls 4 [(3, .int i), (2, .ref o2), (1, .ref o1), (0, .ref b)] → W p l e room_1 s m #[Value.ref b] below meth c H locs 126 15724 (lw_Z below #[Value.ref b] s) (F0 m 1519 ls [])) : W p l e room_1 s m #[Value.ref b] below meth c H locs 126 15724 (lw_Z below #[Value.ref b] s) (F0 m 1194 ls []) := by
  subst hu0
  subst hv0
  have hlen := heq.1
  obtain ⟨hx, hb, hr, hml, hown, hts0, hX, hbl, hlocks, hgv⟩ := id C0
  have hts := g_tbl hts0
  have hbA : ¬ (fun q : Nat => s.heap.size ≤ q) b := Nat.not_le.mpr hbl
  refine lv_aload_n (pc := 1194) hx hb dL_law_1194 rfl (lv_at hl 2 rfl) ?_
  refine lv_aload_n (pc := 1195) hx hb dL_law_1195 rfl (lv_at hl 3 rfl) ?_
  refine lv_iload_n (pc := 1196) hx hb dL_law_1196 rfl (lv_at hl 0 rfl) ?_
  refine lv_iconst (pc := 1197) (v := 1) hx hb dL_law_1197 (by decide) ?_
  refine b_iadd (pc := 1198) hx hb rfl tI_1 (by omega) (by omega) dL_law_1198 (fun x_1 ex_1 => ?_)
  refine va_sld (pc := 1199) hx hb hX hbl hbA hS (n_in rfl (by omega) (by omega)) dL_law_1199 ?_
  refine lv_topi (fun x_2 ex_2 => ?_)
  have rx_2 := n_rng x_2
  have tx_2 := congrArg Int32.toInt (e_ld (f := xs) (show x_2 = xs (x_1.toInt).toNat from ex_2) (show x_1.toInt = (i.toInt) + (1) by omega))
  refine cc_1200 C0 hK hF u hfX hl x_2 hP hD hS (fun r_3 w_4 H locs hf_5 ho_6 he_7 he_8 hP hD hS => ?_)
  have rr_3 := n_rngL r_3
  refine lv_pop2_2 (pc := 1203) hx hb dL_law_1203 rfl ?_
  refine lv_aload_n (pc := 1204) hx hb dL_law_1204 rfl (lv_at hl 1 rfl) ?_
  refine lv_aload_n (pc := 1205) hx hb dL_law_1205 rfl (lv_at hl 3 rfl) ?_
  refine lv_iload_n (pc := 1206) hx hb dL_law_1206 rfl (lv_at hl 0 rfl) ?_
  refine lv_iconst (pc := 1207) (v := 1) hx hb dL_law_1207 (by decide) ?_
  refine b_iadd (pc := 1208) hx hb rfl tI_1 (by omega) (by omega) dL_law_1208 (fun x_9 ex_9 => ?_)
  refine va_sld (pc := 1209) hx hb hX hbl hbA hS (n_in rfl (by omega) (by omega)) dL_law_1209 ?_
  refine lv_topi (fun x_10 ex_10 => ?_)
  have rx_10 := n_rng x_10
  have tx_10 := congrArg Int32.toInt (e_ld (f := xs) (show x_10 = xs (x_9.toInt).toNat from ex_10) (show x_9.toInt = (i.toInt) + (1) by omega))
  have hP : va_P D gcl (wM cB cC cI cJ v ++ wX cB cC cI cJ w_4) H := va_P.swap (a := []) (b := wX cB cC cI cJ w_4) (c := wM cB cC cI cJ v) hP
  have hD : va_D (fun q : Nat => s.heap.size ≤ q) (wM cB cC cI cJ v ++ wX cB cC cI cJ w_4) := va_D.swap (a := []) (b := wX cB cC cI cJ w_4) (c := wM cB cC cI cJ v) hD
  refine cc_1210 C0 hK hF v hfM hl x_10 hP hD hS (fun r_11 w_12 H locs hf_13 ho_14 he_15 he_16 hP hD hS => ?_)
  have rr_11 := n_rngL r_11
  refine lv_pop2_2 (pc := 1213) hx hb dL_law_1213 rfl ?_
  refine lv_goto (pc := 1214) (tgt := 1519) hx hb dL_law_1214 (by decide) ?_
  exact kk w_4 w_12 H locs ls hf_5 hf_13 (te_cut heq he_8 he_16 (by omega) (by omega)) ho_6 ho_14 (va_P.swap (a := []) (b := wM cB cC cI cJ w_12) (c := wX cB cC cI cJ w_4) hP) (va_D.swap (a := []) (b := wM cB cC cI cJ w_12) (c := wX cB cC cI cJ w_4) hD) hS hl
