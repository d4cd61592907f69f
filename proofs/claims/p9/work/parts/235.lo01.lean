set_option maxHeartbeats 8000000 in
set_option maxRecDepth 100000 in
theorem lo_7 {p : Program} {l : Launch} {e : Env} {s : State} {m : MethodId} {below : List Frame} {meth : Method} {c : Code} {D : va_G} {cB cC cI cJ : ClassId} {b L : Nat} {xs : Nat → Int32} {adK adV : Nat → Nat} (C0 : lw_At p s m meth c b L xs) (hLN : L ≤ 3072) (hK : va_K D gcl [(cB, .byte), (cC, .char), (cI, .int), (cJ, .long)] s) (hF : sF adK adV (fun q : Nat => s.heap.size ≤ q) s s.heap) (o1 o2 : Nat) (i : Int32) (hi0 : 0 ≤ i.toInt) (hi1 : i.toInt + 6 ≤ (L : Int)) (u v : gEx) (hfX : fX u) (hfM : fM v) (heq : tEq (u.2.1 4) (u.2.2.2.1 7).toInt (v.2.1 0) (v.2.2.2.1 0).toInt ∧ ((u.2.2.2.1 5).toInt = (v.2.2.2.1 6).toInt ∧ (u.2.2.2.1 6).toInt = (v.2.2.2.1 7).toInt ∧ (u.2.2.2.1 15).toInt = (v.2.2.2.1 8).toInt ∧ (u.2.2.2.1 16).toInt = (v.2.2.2.1 9).toInt ∧ (u.2.2.2.1 17).toInt = (v.2.2.2.1 10).toInt ∧ (u.2.2.2.1 18).toInt = (v.2.2.2.1 11).toInt ∧ (u.2.2.2.1 19).toInt = (v.2.2.2.1 12).toInt ∧ (u.2.2.2.1 43).toInt = ((v.2.1 21) 0).toInt ∧ (u.2.2.2.1 24).toInt = (v.2.2.2.1 21).toInt ∧ (u.2.2.2.1 25).toInt = (v.2.2.2.1 22).toInt ∧ (u.2.2.2.1 26).toInt = (v.2.2.2.1 20).toInt) ∧ plE (u.2.1 31) (u.2.1 15) (u.2.2.2.1 20).toInt (v.2.1 17) (v.2.1 18) (v.2.2.2.1 13).toInt (u.2.2.2.1 19).toInt (u.2.2.2.1 16).toInt (u.2.2.2.1 17).toInt) (hu0 : u.1 0 = o1) (hv0 : v.1 0 = o2) (H : Heap) (locs : List Loc) (ls : Array Slot) (hP : va_P D gcl (wX cB cC cI cJ u ++ wM cB cC cI cJ v) H) (hD : va_D (fun q : Nat => s.heap.size ≤ q) (wX cB cC cI cJ u ++ wM cB cC cI cJ v)) (hS : va_S (fun q : Nat => s.heap.size ≤ q) s.heap H locs) (hl : lv_has ls 4 [(3, .int i), (2, .ref o2), (1, .ref o1), (0, .ref b)])
    (kk : ∀ (u v : gEx) (H : Heap) (locs : List Loc) (ls : Array Slot), fX u → fM v → tEq (u.2.1 4) (u.2.2.2.1 7).toInt (v.2.1 0) (v.2.2.2.1 0).toInt ∧ ((u.2.2.2.1 5).toInt = (v.2.2.2.1 6).toInt ∧ (u.2.2.2.1 6).toInt = (v.2.2.2.1 7).toInt ∧ (u.2.2.2.1 15).toInt = (v.2.2.2.1 8).toInt ∧ (u.2.2.2.1 16).toInt = (v.2.2.2.1 9).toInt ∧ (u.2.2.2.1 17).toInt = (v.2.2.2.1 10).toInt ∧ (u.2.2.2.1 18).toInt = (v.2.2.2.1 11).toInt ∧ (u.2.2.2.1 19).toInt = (v.2.2.2.1 12).toInt ∧ (u.2.2.2.1 43).toInt = ((v.2.1 21) 0).toInt ∧ (u.2.2.2.1 24).toInt = (v.2.2.2.1 21).toInt ∧ (u.2.2.2.1 25).toInt = (v.2.2.2.1 22).toInt ∧ (u.2.2.2.1 26).toInt = (v.2.2.2.1 20).toInt) ∧ plE (u.2.1 31) (u.2.1 15) (u.2.2.2.1 20).toInt (v.2.1 17) (v.2.1 18) (v.2.2.2.1 13).toInt (u.2.2.2.1 19).toInt (u.2.2.2.1 16).toInt (u.2.2.2.1 17).toInt → u.1 0 = o1 → v.1 0 = o2 → va_P D gcl (wX cB cC cI cJ u ++ wM cB cC cI cJ v) H → va_D (fun q : Nat => s.heap.size ≤ q) (wX cB cC cI cJ u ++ wM cB cC cI cJ v) → va_S (fun q : Nat => s.heap.size ≤ q) s.heap H locs → lv_has ls 4 [(3, .int i), (2, .ref o2), (1, .ref o1), (0, .ref b)] → W p l e room_1 s m #[Value.ref b] below meth c H locs 126 15724 (lw_Z below #[Value.ref b] s) (F0 m 1519 ls [])) : W p l e room_1 s m #[Value.ref b] below meth c H locs 126 15724 (lw_Z below #[Value.ref b] s) (F0 m 491 ls []) := by
  subst hu0
  subst hv0
  have hlen := heq.1.1
  have hreg := heq.2.1
  obtain ⟨hx, hb, hr, hml, hown, hts0, hX, hbl, hlocks, hgv⟩ := id C0
  have hts := g_tbl hts0
  have hbA : ¬ (fun q : Nat => s.heap.size ≤ q) b := Nat.not_le.mpr hbl
  refine lv_aload_n (pc := 491) hx hb dL_law_491 rfl (lv_at hl 2 rfl) ?_
  refine cc_492 C0 hK hF u hfX hl  hP hD hS (fun r_1 w_2 H locs hf_3 ho_4 he_5 he_6 he_7 he_8 he_9 he_10 he_11 hP hD hS => ?_)
  have rr_1 := n_rng r_1
  refine lv_aload_n (pc := 495) hx hb dL_law_495 rfl (lv_at hl 1 rfl) ?_
  have hP : va_P D gcl (wM cB cC cI cJ v ++ wX cB cC cI cJ w_2) H := va_P.swap (a := []) (b := wX cB cC cI cJ w_2) (c := wM cB cC cI cJ v) hP
  have hD : va_D (fun q : Nat => s.heap.size ≤ q) (wM cB cC cI cJ v ++ wX cB cC cI cJ w_2) := va_D.swap (a := []) (b := wX cB cC cI cJ w_2) (c := wM cB cC cI cJ v) hD
  refine cc_496 C0 hK hF v hfM hl r_1 hP hD hS (fun r_12 w_13 H locs hf_14 ho_15 he_16 he_17 he_18 he_19 he_20 he_21 he_22 hP hD hS => ?_)
  have rr_12 := n_rng r_12
  refine b_icmp_eq (pc := 499) (tgt := 1519) hx hb rfl rfl  dL_law_499 (by decide) (fun c_23 => ?_) (fun c_23 => ?_)
  ·
    exact kk w_2 w_13 H locs ls hf_3 hf_14 ⟨te_cut heq.1 he_6 he_17 (by omega) (by omega), by omega, plE_keep heq.2.2 he_8 he_19 (by omega) (by omega) (by omega)⟩ ho_4 ho_15 (va_P.swap (a := []) (b := wM cB cC cI cJ w_13) (c := wX cB cC cI cJ w_2) hP) (va_D.swap (a := []) (b := wM cB cC cI cJ w_13) (c := wX cB cC cI cJ w_2) hD) hS hl
  ·
    refine lv_iconst (pc := 502) (v := 0) hx hb dL_law_502 (by decide) ?_
    exact False.elim (by omega)
set_option maxHeartbeats 8000000 in
set_option maxRecDepth 100000 in
theorem lo_8 {p : Program} {l : Launch} {e : Env} {s : State} {m : MethodId} {below : List Frame} {meth : Method} {c : Code} {D : va_G} {cB cC cI cJ : ClassId} {b L : Nat} {xs : Nat → Int32} {adK adV : Nat → Nat} (C0 : lw_At p s m meth c b L xs) (hLN : L ≤ 3072) (hK : va_K D gcl [(cB, .byte), (cC, .char), (cI, .int), (cJ, .long)] s) (hF : sF adK adV (fun q : Nat => s.heap.size ≤ q) s s.heap) (o1 o2 : Nat) (i : Int32) (hi0 : 0 ≤ i.toInt) (hi1 : i.toInt + 6 ≤ (L : Int)) (u v : gEx) (hfX : fX u) (hfM : fM v) (heq : tEq (u.2.1 4) (u.2.2.2.1 7).toInt (v.2.1 0) (v.2.2.2.1 0).toInt ∧ ((u.2.2.2.1 5).toInt = (v.2.2.2.1 6).toInt ∧ (u.2.2.2.1 6).toInt = (v.2.2.2.1 7).toInt ∧ (u.2.2.2.1 15).toInt = (v.2.2.2.1 8).toInt ∧ (u.2.2.2.1 16).toInt = (v.2.2.2.1 9).toInt ∧ (u.2.2.2.1 17).toInt = (v.2.2.2.1 10).toInt ∧ (u.2.2.2.1 18).toInt = (v.2.2.2.1 11).toInt ∧ (u.2.2.2.1 19).toInt = (v.2.2.2.1 12).toInt ∧ (u.2.2.2.1 43).toInt = ((v.2.1 21) 0).toInt ∧ (u.2.2.2.1 24).toInt = (v.2.2.2.1 21).toInt ∧ (u.2.2.2.1 25).toInt = (v.2.2.2.1 22).toInt ∧ (u.2.2.2.1 26).toInt = (v.2.2.2.1 20).toInt) ∧ plE (u.2.1 31) (u.2.1 15) (u.2.2.2.1 20).toInt (v.2.1 17) (v.2.1 18) (v.2.2.2.1 13).toInt (u.2.2.2.1 19).toInt (u.2.2.2.1 16).toInt (u.2.2.2.1 17).toInt) (hu0 : u.1 0 = o1) (hv0 : v.1 0 = o2) (H : Heap) (locs : List Loc) (ls : Array Slot) (hP : va_P D gcl (wX cB cC cI cJ u ++ wM cB cC cI cJ v) H) (hD : va_D (fun q : Nat => s.heap.size ≤ q) (wX cB cC cI cJ u ++ wM cB cC cI cJ v)) (hS : va_S (fun q : Nat => s.heap.size ≤ q) s.heap H locs) (hl : lv_has ls 4 [(3, .int i), (2, .ref o2), (1, .ref o1), (0, .ref b)])
    (kk : ∀ (u v : gEx) (H : Heap) (locs : List Loc) (ls : Array Slot), fX u → fM v → tEq (u.2.1 4) (u.2.2.2.1 7).toInt (v.2.1 0) (v.2.2.2.1 0).toInt ∧ ((u.2.2.2.1 5).toInt = (v.2.2.2.1 6).toInt ∧ (u.2.2.2.1 6).toInt = (v.2.2.2.1 7).toInt ∧ (u.2.2.2.1 15).toInt = (v.2.2.2.1 8).toInt ∧ (u.2.2.2.1 16).toInt = (v.2.2.2.1 9).toInt ∧ (u.2.2.2.1 17).toInt = (v.2.2.2.1 10).toInt ∧ (u.2.2.2.1 18).toInt = (v.2.2.2.1 11).toInt ∧ (u.2.2.2.1 19).toInt = (v.2.2.2.1 12).toInt ∧ (u.2.2.2.1 43).toInt = ((v.2.1 21) 0).toInt ∧ (u.2.2.2.1 24).toInt = (v.2.2.2.1 21).toInt ∧ (u.2.2.2.1 25).toInt = (v.2.2.2.1 22).toInt ∧ (u.2.2.2.1 26).toInt = (v.2.2.2.1 20).toInt) ∧ plE (u.2.1 31) (u.2.1 15) (u.2.2.2.1 20).toInt (v.2.1 17) (v.2.1 18) (v.2.2.2.1 13).toInt (u.2.2.2.1 19).toInt (u.2.2.2.1 16).toInt (u.2.2.2.1 17).toInt → u.1 0 = o1 → v.1 0 = o2 → va_P D gcl (wX cB cC cI cJ u ++ wM cB cC cI cJ v) H → va_D (fun q : Nat => s.heap.size ≤ q) (wX cB cC cI cJ u ++ wM cB cC cI cJ v) → va_S (fun q : Nat => s.heap.size ≤ q) s.heap H locs → lv_has ls 4 [(3, .int i), (2, .ref o2), (1, .ref o1), (0, .ref b)] → W p l e room_1 s m #[Value.ref b] below meth c H locs 126 15724 (lw_Z below #[Value.ref b] s) (F0 m 1519 ls [])) : W p l e room_1 s m #[Value.ref b] below meth c H locs 126 15724 (lw_Z below #[Value.ref b] s) (F0 m 504 ls []) := by
  subst hu0
  subst hv0
  have hlen := heq.1.1
  have hreg := heq.2.1
  obtain ⟨hx, hb, hr, hml, hown, hts0, hX, hbl, hlocks, hgv⟩ := id C0
  have hts := g_tbl hts0
  have hbA : ¬ (fun q : Nat => s.heap.size ≤ q) b := Nat.not_le.mpr hbl
  refine lv_aload_n (pc := 504) hx hb dL_law_504 rfl (lv_at hl 2 rfl) ?_
  refine lv_aload_n (pc := 505) hx hb dL_law_505 rfl (lv_at hl 3 rfl) ?_
  refine lv_iload_n (pc := 506) hx hb dL_law_506 rfl (lv_at hl 0 rfl) ?_
  refine lv_iconst (pc := 507) (v := 1) hx hb dL_law_507 (by decide) ?_
  refine b_iadd (pc := 508) hx hb rfl tI_1 (by omega) (by omega) dL_law_508 (fun x_1 ex_1 => ?_)
  refine va_sld (pc := 509) hx hb hX hbl hbA hS (n_in rfl (by omega) (by omega)) dL_law_509 ?_
  refine lv_topi (fun x_2 ex_2 => ?_)
  have rx_2 := n_rng x_2
  have tx_2 := congrArg Int32.toInt (e_ld (f := xs) (show x_2 = xs (x_1.toInt).toNat from ex_2) (show x_1.toInt = (i.toInt) + (1) by omega))
  refine cc_510 C0 hK hF u hfX hl x_2 hP hD hS (fun r_3 w_4 H locs hf_5 ho_6 he_7 he_8 he_9 he_10 he_11 hP hD hS => ?_)
  have rr_3 := n_rng r_3
  refine lv_pop (pc := 513) hx hb dL_law_513 rfl ?_
  refine lv_aload_n (pc := 514) hx hb dL_law_514 rfl (lv_at hl 1 rfl) ?_
  refine lv_aload_n (pc := 515) hx hb dL_law_515 rfl (lv_at hl 3 rfl) ?_
  refine lv_iload_n (pc := 516) hx hb dL_law_516 rfl (lv_at hl 0 rfl) ?_
  refine lv_iconst (pc := 517) (v := 1) hx hb dL_law_517 (by decide) ?_
  refine b_iadd (pc := 518) hx hb rfl tI_1 (by omega) (by omega) dL_law_518 (fun x_12 ex_12 => ?_)
  refine va_sld (pc := 519) hx hb hX hbl hbA hS (n_in rfl (by omega) (by omega)) dL_law_519 ?_
  refine lv_topi (fun x_13 ex_13 => ?_)
  have rx_13 := n_rng x_13
  have tx_13 := congrArg Int32.toInt (e_ld (f := xs) (show x_13 = xs (x_12.toInt).toNat from ex_13) (show x_12.toInt = (i.toInt) + (1) by omega))
  have hP : va_P D gcl (wM cB cC cI cJ v ++ wX cB cC cI cJ w_4) H := va_P.swap (a := []) (b := wX cB cC cI cJ w_4) (c := wM cB cC cI cJ v) hP
  have hD : va_D (fun q : Nat => s.heap.size ≤ q) (wM cB cC cI cJ v ++ wX cB cC cI cJ w_4) := va_D.swap (a := []) (b := wX cB cC cI cJ w_4) (c := wM cB cC cI cJ v) hD
  refine cc_520 C0 hK hF v hfM hl x_13 hP hD hS (fun r_14 w_15 H locs hf_16 ho_17 he_18 he_19 he_20 he_21 he_22 hP hD hS => ?_)
  have rr_14 := n_rng r_14
  refine lv_pop (pc := 523) hx hb dL_law_523 rfl ?_
  refine lv_goto (pc := 524) (tgt := 1519) hx hb dL_law_524 (by decide) ?_
  exact kk w_4 w_15 H locs ls hf_5 hf_16 ⟨te_cut heq.1 he_8 he_19 (by omega) (by omega), by omega, plE_keep heq.2.2 he_10 he_21 (by omega) (by omega) (by omega)⟩ ho_6 ho_17 (va_P.swap (a := []) (b := wM cB cC cI cJ w_15) (c := wX cB cC cI cJ w_4) hP) (va_D.swap (a := []) (b := wM cB cC cI cJ w_15) (c := wX cB cC cI cJ w_4) hD) hS hl
set_option maxHeartbeats 8000000 in
set_option maxRecDepth 100000 in
theorem lo_9 {p : Program} {l : Launch} {e : Env} {s : State} {m : MethodId} {below : List Frame} {meth : Method} {c : Code} {D : va_G} {cB cC cI cJ : ClassId} {b L : Nat} {xs : Nat → Int32} {adK adV : Nat → Nat} (C0 : lw_At p s m meth c b L xs) (hLN : L ≤ 3072) (hK : va_K D gcl [(cB, .byte), (cC, .char), (cI, .int), (cJ, .long)] s) (hF : sF adK adV (fun q : Nat => s.heap.size ≤ q) s s.heap) (o1 o2 : Nat) (i : Int32) (hi0 : 0 ≤ i.toInt) (hi1 : i.toInt + 6 ≤ (L : Int)) (u v : gEx) (hfX : fX u) (hfM : fM v) (heq : tEq (u.2.1 4) (u.2.2.2.1 7).toInt (v.2.1 0) (v.2.2.2.1 0).toInt ∧ ((u.2.2.2.1 5).toInt = (v.2.2.2.1 6).toInt ∧ (u.2.2.2.1 6).toInt = (v.2.2.2.1 7).toInt ∧ (u.2.2.2.1 15).toInt = (v.2.2.2.1 8).toInt ∧ (u.2.2.2.1 16).toInt = (v.2.2.2.1 9).toInt ∧ (u.2.2.2.1 17).toInt = (v.2.2.2.1 10).toInt ∧ (u.2.2.2.1 18).toInt = (v.2.2.2.1 11).toInt ∧ (u.2.2.2.1 19).toInt = (v.2.2.2.1 12).toInt ∧ (u.2.2.2.1 43).toInt = ((v.2.1 21) 0).toInt ∧ (u.2.2.2.1 24).toInt = (v.2.2.2.1 21).toInt ∧ (u.2.2.2.1 25).toInt = (v.2.2.2.1 22).toInt ∧ (u.2.2.2.1 26).toInt = (v.2.2.2.1 20).toInt) ∧ plE (u.2.1 31) (u.2.1 15) (u.2.2.2.1 20).toInt (v.2.1 17) (v.2.1 18) (v.2.2.2.1 13).toInt (u.2.2.2.1 19).toInt (u.2.2.2.1 16).toInt (u.2.2.2.1 17).toInt) (hu0 : u.1 0 = o1) (hv0 : v.1 0 = o2) (H : Heap) (locs : List Loc) (ls : Array Slot) (hP : va_P D gcl (wX cB cC cI cJ u ++ wM cB cC cI cJ v) H) (hD : va_D (fun q : Nat => s.heap.size ≤ q) (wX cB cC cI cJ u ++ wM cB cC cI cJ v)) (hS : va_S (fun q : Nat => s.heap.size ≤ q) s.heap H locs) (hl : lv_has ls 4 [(3, .int i), (2, .ref o2), (1, .ref o1), (0, .ref b)])
    (kk : ∀ (u v : gEx) (H : Heap) (locs : List Loc) (ls : Array Slot), fX u → fM v → tEq (u.2.1 4) (u.2.2.2.1 7).toInt (v.2.1 0) (v.2.2.2.1 0).toInt ∧ ((u.2.2.2.1 5).toInt = (v.2.2.2.1 6).toInt ∧ (u.2.2.2.1 6).toInt = (v.2.2.2.1 7).toInt ∧ (u.2.2.2.1 15).toInt = (v.2.2.2.1 8).toInt ∧ (u.2.2.2.1 16).toInt = (v.2.2.2.1 9).toInt ∧ (u.2.2.2.1 17).toInt = (v.2.2.2.1 10).toInt ∧ (u.2.2.2.1 18).toInt = (v.2.2.2.1 11).toInt ∧ (u.2.2.2.1 19).toInt = (v.2.2.2.1 12).toInt ∧ (u.2.2.2.1 43).toInt = ((v.2.1 21) 0).toInt ∧ (u.2.2.2.1 24).toInt = (v.2.2.2.1 21).toInt ∧ (u.2.2.2.1 25).toInt = (v.2.2.2.1 22).toInt ∧ (u.2.2.2.1 26).toInt = (v.2.2.2.1 20).toInt) ∧ plE (u.2.1 31) (u.2.1 15) (u.2.2.2.1 20).toInt (v.2.1 17) (v.2.1 18) (v.2.2.2.1 13).toInt (u.2.2.2.1 19).toInt (u.2.2.2.1 16).toInt (u.2.2.2.1 17).toInt → u.1 0 = o1 → v.1 0 = o2 → va_P D gcl (wX cB cC cI cJ u ++ wM cB cC cI cJ v) H → va_D (fun q : Nat => s.heap.size ≤ q) (wX cB cC cI cJ u ++ wM cB cC cI cJ v) → va_S (fun q : Nat => s.heap.size ≤ q) s.heap H locs → lv_has ls 4 [(3, .int i), (2, .ref o2), (1, .ref o1), (0, .ref b)] → W p l e room_1 s m #[Value.ref b] below meth c H locs 126 15724 (lw_Z below #[Value.ref b] s) (F0 m 1519 ls [])) : W p l e room_1 s m #[Value.ref b] below meth c H locs 126 15724 (lw_Z below #[Value.ref b] s) (F0 m 527 ls []) := by
  subst hu0
  subst hv0
  have hlen := heq.1.1
  have hreg := heq.2.1
  obtain ⟨hx, hb, hr, hml, hown, hts0, hX, hbl, hlocks, hgv⟩ := id C0
  have hts := g_tbl hts0
  have hbA : ¬ (fun q : Nat => s.heap.size ≤ q) b := Nat.not_le.mpr hbl
  refine lv_aload_n (pc := 527) hx hb dL_law_527 rfl (lv_at hl 2 rfl) ?_
  refine cc_528 C0 hK hF u hfX hl  hP hD hS (fun r_1 w_2 H locs hf_3 ho_4 he_5 he_6 he_7 he_8 he_9 hP hD hS => ?_)
  have rr_1 := n_rng r_1
  refine lv_pop (pc := 531) hx hb dL_law_531 rfl ?_
  refine lv_aload_n (pc := 532) hx hb dL_law_532 rfl (lv_at hl 1 rfl) ?_
  have hP : va_P D gcl (wM cB cC cI cJ v ++ wX cB cC cI cJ w_2) H := va_P.swap (a := []) (b := wX cB cC cI cJ w_2) (c := wM cB cC cI cJ v) hP
  have hD : va_D (fun q : Nat => s.heap.size ≤ q) (wM cB cC cI cJ v ++ wX cB cC cI cJ w_2) := va_D.swap (a := []) (b := wX cB cC cI cJ w_2) (c := wM cB cC cI cJ v) hD
  refine cc_533 C0 hK hF v hfM hl  hP hD hS (fun r_10 w_11 H locs hf_12 ho_13 he_14 he_15 he_16 he_17 he_18 hP hD hS => ?_)
  have rr_10 := n_rng r_10
  refine lv_pop (pc := 536) hx hb dL_law_536 rfl ?_
  refine lv_goto (pc := 537) (tgt := 1519) hx hb dL_law_537 (by decide) ?_
  exact kk w_2 w_11 H locs ls hf_3 hf_12 ⟨te_cut heq.1 he_6 he_15 (by omega) (by omega), by omega, plE_keep heq.2.2 he_8 he_17 (by omega) (by omega) (by omega)⟩ ho_4 ho_13 (va_P.swap (a := []) (b := wM cB cC cI cJ w_11) (c := wX cB cC cI cJ w_2) hP) (va_D.swap (a := []) (b := wM cB cC cI cJ w_11) (c := wX cB cC cI cJ w_2) hD) hS hl
set_option maxHeartbeats 8000000 in
set_option maxRecDepth 100000 in
theorem lo_10 {p : Program} {l : Launch} {e : Env} {s : State} {m : MethodId} {below : List Frame} {meth : Method} {c : Code} {D : va_G} {cB cC cI cJ : ClassId} {b L : Nat} {xs : Nat → Int32} {adK adV : Nat → Nat} (C0 : lw_At p s m meth c b L xs) (hLN : L ≤ 3072) (hK : va_K D gcl [(cB, .byte), (cC, .char), (cI, .int), (cJ, .long)] s) (hF : sF adK adV (fun q : Nat => s.heap.size ≤ q) s s.heap) (o1 o2 : Nat) (i : Int32) (hi0 : 0 ≤ i.toInt) (hi1 : i.toInt + 6 ≤ (L : Int)) (u v : gEx) (hfX : fX u) (hfM : fM v) (heq : tEq (u.2.1 4) (u.2.2.2.1 7).toInt (v.2.1 0) (v.2.2.2.1 0).toInt ∧ ((u.2.2.2.1 5).toInt = (v.2.2.2.1 6).toInt ∧ (u.2.2.2.1 6).toInt = (v.2.2.2.1 7).toInt ∧ (u.2.2.2.1 15).toInt = (v.2.2.2.1 8).toInt ∧ (u.2.2.2.1 16).toInt = (v.2.2.2.1 9).toInt ∧ (u.2.2.2.1 17).toInt = (v.2.2.2.1 10).toInt ∧ (u.2.2.2.1 18).toInt = (v.2.2.2.1 11).toInt ∧ (u.2.2.2.1 19).toInt = (v.2.2.2.1 12).toInt ∧ (u.2.2.2.1 43).toInt = ((v.2.1 21) 0).toInt ∧ (u.2.2.2.1 24).toInt = (v.2.2.2.1 21).toInt ∧ (u.2.2.2.1 25).toInt = (v.2.2.2.1 22).toInt ∧ (u.2.2.2.1 26).toInt = (v.2.2.2.1 20).toInt) ∧ plE (u.2.1 31) (u.2.1 15) (u.2.2.2.1 20).toInt (v.2.1 17) (v.2.1 18) (v.2.2.2.1 13).toInt (u.2.2.2.1 19).toInt (u.2.2.2.1 16).toInt (u.2.2.2.1 17).toInt) (hu0 : u.1 0 = o1) (hv0 : v.1 0 = o2) (H : Heap) (locs : List Loc) (ls : Array Slot) (hP : va_P D gcl (wX cB cC cI cJ u ++ wM cB cC cI cJ v) H) (hD : va_D (fun q : Nat => s.heap.size ≤ q) (wX cB cC cI cJ u ++ wM cB cC cI cJ v)) (hS : va_S (fun q : Nat => s.heap.size ≤ q) s.heap H locs) (hl : lv_has ls 4 [(3, .int i), (2, .ref o2), (1, .ref o1), (0, .ref b)])
    (kk : ∀ (u v : gEx) (H : Heap) (locs : List Loc) (ls : Array Slot), fX u → fM v → tEq (u.2.1 4) (u.2.2.2.1 7).toInt (v.2.1 0) (v.2.2.2.1 0).toInt ∧ ((u.2.2.2.1 5).toInt = (v.2.2.2.1 6).toInt ∧ (u.2.2.2.1 6).toInt = (v.2.2.2.1 7).toInt ∧ (u.2.2.2.1 15).toInt = (v.2.2.2.1 8).toInt ∧ (u.2.2.2.1 16).toInt = (v.2.2.2.1 9).toInt ∧ (u.2.2.2.1 17).toInt = (v.2.2.2.1 10).toInt ∧ (u.2.2.2.1 18).toInt = (v.2.2.2.1 11).toInt ∧ (u.2.2.2.1 19).toInt = (v.2.2.2.1 12).toInt ∧ (u.2.2.2.1 43).toInt = ((v.2.1 21) 0).toInt ∧ (u.2.2.2.1 24).toInt = (v.2.2.2.1 21).toInt ∧ (u.2.2.2.1 25).toInt = (v.2.2.2.1 22).toInt ∧ (u.2.2.2.1 26).toInt = (v.2.2.2.1 20).toInt) ∧ plE (u.2.1 31) (u.2.1 15) (u.2.2.2.1 20).toInt (v.2.1 17) (v.2.1 18) (v.2.2.2.1 13).toInt (u.2.2.2.1 19).toInt (u.2.2.2.1 16).toInt (u.2.2.2.1 17).toInt → u.1 0 = o1 → v.1 0 = o2 → va_P D gcl (wX cB cC cI cJ u ++ wM cB cC cI cJ v) H → va_D (fun q : Nat => s.heap.size ≤ q) (wX cB cC cI cJ u ++ wM cB cC cI cJ v) → va_S (fun q : Nat => s.heap.size ≤ q) s.heap H locs → lv_has ls 4 [(3, .int i), (2, .ref o2), (1, .ref o1), (0, .ref b)] → W p l e room_1 s m #[Value.ref b] below meth c H locs 126 15724 (lw_Z below #[Value.ref b] s) (F0 m 1519 ls [])) : W p l e room_1 s m #[Value.ref b] below meth c H locs 126 15724 (lw_Z below #[Value.ref b] s) (F0 m 540 ls []) := by
  subst hu0
  subst hv0
  have hlen := heq.1.1
  have hreg := heq.2.1
  obtain ⟨hx, hb, hr, hml, hown, hts0, hX, hbl, hlocks, hgv⟩ := id C0
  have hts := g_tbl hts0
  have hbA : ¬ (fun q : Nat => s.heap.size ≤ q) b := Nat.not_le.mpr hbl
  refine lv_aload_n (pc := 540) hx hb dL_law_540 rfl (lv_at hl 2 rfl) ?_
  refine cc_541 C0 hK hF u hfX hl  hP hD hS (fun r_1 w_2 H locs hf_3 ho_4 he_5 he_6 he_7 he_8 he_9 hP hD hS => ?_)
  have rr_1 := n_rngL r_1
  refine lv_pop2_2 (pc := 544) hx hb dL_law_544 rfl ?_
  refine lv_aload_n (pc := 545) hx hb dL_law_545 rfl (lv_at hl 1 rfl) ?_
  have hP : va_P D gcl (wM cB cC cI cJ v ++ wX cB cC cI cJ w_2) H := va_P.swap (a := []) (b := wX cB cC cI cJ w_2) (c := wM cB cC cI cJ v) hP
  have hD : va_D (fun q : Nat => s.heap.size ≤ q) (wM cB cC cI cJ v ++ wX cB cC cI cJ w_2) := va_D.swap (a := []) (b := wX cB cC cI cJ w_2) (c := wM cB cC cI cJ v) hD
  refine cc_546 C0 hK hF v hfM hl  hP hD hS (fun r_10 w_11 H locs hf_12 ho_13 he_14 he_15 he_16 he_17 he_18 hP hD hS => ?_)
  have rr_10 := n_rngL r_10
  refine lv_pop2_2 (pc := 549) hx hb dL_law_549 rfl ?_
  refine lv_goto (pc := 550) (tgt := 1519) hx hb dL_law_550 (by decide) ?_
  exact kk w_2 w_11 H locs ls hf_3 hf_12 ⟨te_cut heq.1 he_6 he_15 (by omega) (by omega), by omega, plE_keep heq.2.2 he_8 he_17 (by omega) (by omega) (by omega)⟩ ho_4 ho_13 (va_P.swap (a := []) (b := wM cB cC cI cJ w_11) (c := wX cB cC cI cJ w_2) hP) (va_D.swap (a := []) (b := wM cB cC cI cJ w_11) (c := wX cB cC cI cJ w_2) hD) hS hl
set_option maxHeartbeats 8000000 in
set_option maxRecDepth 100000 in
theorem lo_11 {p : Program} {l : Launch} {e : Env} {s : State} {m : MethodId} {below : List Frame} {meth : Method} {c : Code} {D : va_G} {cB cC cI cJ : ClassId} {b L : Nat} {xs : Nat → Int32} {adK adV : Nat → Nat} (C0 : lw_At p s m meth c b L xs) (hLN : L ≤ 3072) (hK : va_K D gcl [(cB, .byte), (cC, .char), (cI, .int), (cJ, .long)] s) (hF : sF adK adV (fun q : Nat => s.heap.size ≤ q) s s.heap) (o1 o2 : Nat) (i : Int32) (hi0 : 0 ≤ i.toInt) (hi1 : i.toInt + 6 ≤ (L : Int)) (u v : gEx) (hfX : fX u) (hfM : fM v) (heq : tEq (u.2.1 4) (u.2.2.2.1 7).toInt (v.2.1 0) (v.2.2.2.1 0).toInt ∧ ((u.2.2.2.1 5).toInt = (v.2.2.2.1 6).toInt ∧ (u.2.2.2.1 6).toInt = (v.2.2.2.1 7).toInt ∧ (u.2.2.2.1 15).toInt = (v.2.2.2.1 8).toInt ∧ (u.2.2.2.1 16).toInt = (v.2.2.2.1 9).toInt ∧ (u.2.2.2.1 17).toInt = (v.2.2.2.1 10).toInt ∧ (u.2.2.2.1 18).toInt = (v.2.2.2.1 11).toInt ∧ (u.2.2.2.1 19).toInt = (v.2.2.2.1 12).toInt ∧ (u.2.2.2.1 43).toInt = ((v.2.1 21) 0).toInt ∧ (u.2.2.2.1 24).toInt = (v.2.2.2.1 21).toInt ∧ (u.2.2.2.1 25).toInt = (v.2.2.2.1 22).toInt ∧ (u.2.2.2.1 26).toInt = (v.2.2.2.1 20).toInt) ∧ plE (u.2.1 31) (u.2.1 15) (u.2.2.2.1 20).toInt (v.2.1 17) (v.2.1 18) (v.2.2.2.1 13).toInt (u.2.2.2.1 19).toInt (u.2.2.2.1 16).toInt (u.2.2.2.1 17).toInt) (hu0 : u.1 0 = o1) (hv0 : v.1 0 = o2) (H : Heap) (locs : List Loc) (ls : Array Slot) (hP : va_P D gcl (wX cB cC cI cJ u ++ wM cB cC cI cJ v) H) (hD : va_D (fun q : Nat => s.heap.size ≤ q) (wX cB cC cI cJ u ++ wM cB cC cI cJ v)) (hS : va_S (fun q : Nat => s.heap.size ≤ q) s.heap H locs) (hl : lv_has ls 4 [(3, .int i), (2, .ref o2), (1, .ref o1), (0, .ref b)])
    (kk : ∀ (u v : gEx) (H : Heap) (locs : List Loc) (ls : Array Slot), fX u → fM v → tEq (u.2.1 4) (u.2.2.2.1 7).toInt (v.2.1 0) (v.2.2.2.1 0).toInt ∧ ((u.2.2.2.1 5).toInt = (v.2.2.2.1 6).toInt ∧ (u.2.2.2.1 6).toInt = (v.2.2.2.1 7).toInt ∧ (u.2.2.2.1 15).toInt = (v.2.2.2.1 8).toInt ∧ (u.2.2.2.1 16).toInt = (v.2.2.2.1 9).toInt ∧ (u.2.2.2.1 17).toInt = (v.2.2.2.1 10).toInt ∧ (u.2.2.2.1 18).toInt = (v.2.2.2.1 11).toInt ∧ (u.2.2.2.1 19).toInt = (v.2.2.2.1 12).toInt ∧ (u.2.2.2.1 43).toInt = ((v.2.1 21) 0).toInt ∧ (u.2.2.2.1 24).toInt = (v.2.2.2.1 21).toInt ∧ (u.2.2.2.1 25).toInt = (v.2.2.2.1 22).toInt ∧ (u.2.2.2.1 26).toInt = (v.2.2.2.1 20).toInt) ∧ plE (u.2.1 31) (u.2.1 15) (u.2.2.2.1 20).toInt (v.2.1 17) (v.2.1 18) (v.2.2.2.1 13).toInt (u.2.2.2.1 19).toInt (u.2.2.2.1 16).toInt (u.2.2.2.1 17).toInt → u.1 0 = o1 → v.1 0 = o2 → va_P D gcl (wX cB cC cI cJ u ++ wM cB cC cI cJ v) H → va_D (fun q : Nat => s.heap.size ≤ q) (wX cB cC cI cJ u ++ wM cB cC cI cJ v) → va_S (fun q : Nat => s.heap.size ≤ q) s.heap H locs → lv_has ls 4 [(3, .int i), (2, .ref o2), (1, .ref o1), (0, .ref b)] → W p l e room_1 s m #[Value.ref b] below meth c H locs 126 15724 (lw_Z below #[Value.ref b] s) (F0 m 1519 ls [])) : W p l e room_1 s m #[Value.ref b] below meth c H locs 126 15724 (lw_Z below #[Value.ref b] s) (F0 m 553 ls []) := by
  subst hu0
  subst hv0
  have hlen := heq.1.1
  have hreg := heq.2.1
  obtain ⟨hx, hb, hr, hml, hown, hts0, hX, hbl, hlocks, hgv⟩ := id C0
  have hts := g_tbl hts0
  have hbA : ¬ (fun q : Nat => s.heap.size ≤ q) b := Nat.not_le.mpr hbl
  refine lv_aload_n (pc := 553) hx hb dL_law_553 rfl (lv_at hl 2 rfl) ?_
  refine lv_aload_n (pc := 554) hx hb dL_law_554 rfl (lv_at hl 3 rfl) ?_
  refine lv_iload_n (pc := 555) hx hb dL_law_555 rfl (lv_at hl 0 rfl) ?_
  refine lv_iconst (pc := 556) (v := 1) hx hb dL_law_556 (by decide) ?_
  refine b_iadd (pc := 557) hx hb rfl tI_1 (by omega) (by omega) dL_law_557 (fun x_1 ex_1 => ?_)
  refine va_sld (pc := 558) hx hb hX hbl hbA hS (n_in rfl (by omega) (by omega)) dL_law_558 ?_
  refine lv_topi (fun x_2 ex_2 => ?_)
  have rx_2 := n_rng x_2
  have tx_2 := congrArg Int32.toInt (e_ld (f := xs) (show x_2 = xs (x_1.toInt).toNat from ex_2) (show x_1.toInt = (i.toInt) + (1) by omega))
  refine lv_aload_n (pc := 559) hx hb dL_law_559 rfl (lv_at hl 3 rfl) ?_
  refine lv_iload_n (pc := 560) hx hb dL_law_560 rfl (lv_at hl 0 rfl) ?_
  refine lv_iconst (pc := 561) (v := 2) hx hb dL_law_561 (by decide) ?_
  refine b_iadd (pc := 562) hx hb rfl tI_2 (by omega) (by omega) dL_law_562 (fun x_3 ex_3 => ?_)
  refine va_sld (pc := 563) hx hb hX hbl hbA hS (n_in rfl (by omega) (by omega)) dL_law_563 ?_
  refine lv_topi (fun x_4 ex_4 => ?_)
  have rx_4 := n_rng x_4
  have tx_4 := congrArg Int32.toInt (e_ld (f := xs) (show x_4 = xs (x_3.toInt).toNat from ex_4) (show x_3.toInt = (i.toInt) + (2) by omega))
  refine cc_564 C0 hK hF u hfX hl x_2 x_4 hP hD hS (fun r_5 w_6 H locs hf_7 ho_8 he_9 he_10 he_11 he_12 he_13 hP hD hS => ?_)
  have rr_5 := n_rng r_5
  refine lv_pop (pc := 567) hx hb dL_law_567 rfl ?_
  refine lv_aload_n (pc := 568) hx hb dL_law_568 rfl (lv_at hl 1 rfl) ?_
  refine lv_aload_n (pc := 569) hx hb dL_law_569 rfl (lv_at hl 3 rfl) ?_
  refine lv_iload_n (pc := 570) hx hb dL_law_570 rfl (lv_at hl 0 rfl) ?_
  refine lv_iconst (pc := 571) (v := 1) hx hb dL_law_571 (by decide) ?_
  refine b_iadd (pc := 572) hx hb rfl tI_1 (by omega) (by omega) dL_law_572 (fun x_14 ex_14 => ?_)
  refine va_sld (pc := 573) hx hb hX hbl hbA hS (n_in rfl (by omega) (by omega)) dL_law_573 ?_
  refine lv_topi (fun x_15 ex_15 => ?_)
  have rx_15 := n_rng x_15
  have tx_15 := congrArg Int32.toInt (e_ld (f := xs) (show x_15 = xs (x_14.toInt).toNat from ex_15) (show x_14.toInt = (i.toInt) + (1) by omega))
  refine lv_aload_n (pc := 574) hx hb dL_law_574 rfl (lv_at hl 3 rfl) ?_
  refine lv_iload_n (pc := 575) hx hb dL_law_575 rfl (lv_at hl 0 rfl) ?_
  refine lv_iconst (pc := 576) (v := 2) hx hb dL_law_576 (by decide) ?_
  refine b_iadd (pc := 577) hx hb rfl tI_2 (by omega) (by omega) dL_law_577 (fun x_16 ex_16 => ?_)
  refine va_sld (pc := 578) hx hb hX hbl hbA hS (n_in rfl (by omega) (by omega)) dL_law_578 ?_
  refine lv_topi (fun x_17 ex_17 => ?_)
  have rx_17 := n_rng x_17
  have tx_17 := congrArg Int32.toInt (e_ld (f := xs) (show x_17 = xs (x_16.toInt).toNat from ex_17) (show x_16.toInt = (i.toInt) + (2) by omega))
  have hP : va_P D gcl (wM cB cC cI cJ v ++ wX cB cC cI cJ w_6) H := va_P.swap (a := []) (b := wX cB cC cI cJ w_6) (c := wM cB cC cI cJ v) hP
  have hD : va_D (fun q : Nat => s.heap.size ≤ q) (wM cB cC cI cJ v ++ wX cB cC cI cJ w_6) := va_D.swap (a := []) (b := wX cB cC cI cJ w_6) (c := wM cB cC cI cJ v) hD
  refine cc_579 C0 hK hF v hfM hl x_15 x_17 hP hD hS (fun r_18 w_19 H locs hf_20 ho_21 he_22 he_23 he_24 he_25 he_26 hP hD hS => ?_)
  have rr_18 := n_rng r_18
  refine lv_pop (pc := 582) hx hb dL_law_582 rfl ?_
  refine lv_goto (pc := 583) (tgt := 1519) hx hb dL_law_583 (by decide) ?_
  exact kk w_6 w_19 H locs ls hf_7 hf_20 ⟨te_cut heq.1 he_10 he_23 (by omega) (by omega), by omega, plE_keep heq.2.2 he_12 he_25 (by omega) (by omega) (by omega)⟩ ho_8 ho_21 (va_P.swap (a := []) (b := wM cB cC cI cJ w_19) (c := wX cB cC cI cJ w_6) hP) (va_D.swap (a := []) (b := wM cB cC cI cJ w_19) (c := wX cB cC cI cJ w_6) hD) hS hl
set_option maxHeartbeats 8000000 in
set_option maxRecDepth 100000 in
theorem lo_12 {p : Program} {l : Launch} {e : Env} {s : State} {m : MethodId} {below : List Frame} {meth : Method} {c : Code} {D : va_G} {cB cC cI cJ : ClassId} {b L : Nat} {xs : Nat → Int32} {adK adV : Nat → Nat} (C0 : lw_At p s m meth c b L xs) (hLN : L ≤ 3072) (hK : va_K D gcl [(cB, .byte), (cC, .char), (cI, .int), (cJ, .long)] s) (hF : sF adK adV (fun q : Nat => s.heap.size ≤ q) s s.heap) (o1 o2 : Nat) (i : Int32) (hi0 : 0 ≤ i.toInt) (hi1 : i.toInt + 6 ≤ (L : Int)) (u v : gEx) (hfX : fX u) (hfM : fM v) (heq : tEq (u.2.1 4) (u.2.2.2.1 7).toInt (v.2.1 0) (v.2.2.2.1 0).toInt ∧ ((u.2.2.2.1 5).toInt = (v.2.2.2.1 6).toInt ∧ (u.2.2.2.1 6).toInt = (v.2.2.2.1 7).toInt ∧ (u.2.2.2.1 15).toInt = (v.2.2.2.1 8).toInt ∧ (u.2.2.2.1 16).toInt = (v.2.2.2.1 9).toInt ∧ (u.2.2.2.1 17).toInt = (v.2.2.2.1 10).toInt ∧ (u.2.2.2.1 18).toInt = (v.2.2.2.1 11).toInt ∧ (u.2.2.2.1 19).toInt = (v.2.2.2.1 12).toInt ∧ (u.2.2.2.1 43).toInt = ((v.2.1 21) 0).toInt ∧ (u.2.2.2.1 24).toInt = (v.2.2.2.1 21).toInt ∧ (u.2.2.2.1 25).toInt = (v.2.2.2.1 22).toInt ∧ (u.2.2.2.1 26).toInt = (v.2.2.2.1 20).toInt) ∧ plE (u.2.1 31) (u.2.1 15) (u.2.2.2.1 20).toInt (v.2.1 17) (v.2.1 18) (v.2.2.2.1 13).toInt (u.2.2.2.1 19).toInt (u.2.2.2.1 16).toInt (u.2.2.2.1 17).toInt) (hu0 : u.1 0 = o1) (hv0 : v.1 0 = o2) (H : Heap) (locs : List Loc) (ls : Array Slot) (hP : va_P D gcl (wX cB cC cI cJ u ++ wM cB cC cI cJ v) H) (hD : va_D (fun q : Nat => s.heap.size ≤ q) (wX cB cC cI cJ u ++ wM cB cC cI cJ v)) (hS : va_S (fun q : Nat => s.heap.size ≤ q) s.heap H locs) (hl : lv_has ls 4 [(3, .int i), (2, .ref o2), (1, .ref o1), (0, .ref b)])
    (kk : ∀ (u v : gEx) (H : Heap) (locs : List Loc) (ls : Array Slot), fX u → fM v → tEq (u.2.1 4) (u.2.2.2.1 7).toInt (v.2.1 0) (v.2.2.2.1 0).toInt ∧ ((u.2.2.2.1 5).toInt = (v.2.2.2.1 6).toInt ∧ (u.2.2.2.1 6).toInt = (v.2.2.2.1 7).toInt ∧ (u.2.2.2.1 15).toInt = (v.2.2.2.1 8).toInt ∧ (u.2.2.2.1 16).toInt = (v.2.2.2.1 9).toInt ∧ (u.2.2.2.1 17).toInt = (v.2.2.2.1 10).toInt ∧ (u.2.2.2.1 18).toInt = (v.2.2.2.1 11).toInt ∧ (u.2.2.2.1 19).toInt = (v.2.2.2.1 12).toInt ∧ (u.2.2.2.1 43).toInt = ((v.2.1 21) 0).toInt ∧ (u.2.2.2.1 24).toInt = (v.2.2.2.1 21).toInt ∧ (u.2.2.2.1 25).toInt = (v.2.2.2.1 22).toInt ∧ (u.2.2.2.1 26).toInt = (v.2.2.2.1 20).toInt) ∧ plE (u.2.1 31) (u.2.1 15) (u.2.2.2.1 20).toInt (v.2.1 17) (v.2.1 18) (v.2.2.2.1 13).toInt (u.2.2.2.1 19).toInt (u.2.2.2.1 16).toInt (u.2.2.2.1 17).toInt → u.1 0 = o1 → v.1 0 = o2 → va_P D gcl (wX cB cC cI cJ u ++ wM cB cC cI cJ v) H → va_D (fun q : Nat => s.heap.size ≤ q) (wX cB cC cI cJ u ++ wM cB cC cI cJ v) → va_S (fun q : Nat => s.heap.size ≤ q) s.heap H locs → lv_has ls 4 [(3, .int i), (2, .ref o2), (1, .ref o1), (0, .ref b)] → W p l e room_1 s m #[Value.ref b] below meth c H locs 126 15724 (lw_Z below #[Value.ref b] s) (F0 m 1519 ls [])) : W p l e room_1 s m #[Value.ref b] below meth c H locs 126 15724 (lw_Z below #[Value.ref b] s) (F0 m 586 ls []) := by
  subst hu0
  subst hv0
  have hlen := heq.1.1
  have hreg := heq.2.1
  obtain ⟨hx, hb, hr, hml, hown, hts0, hX, hbl, hlocks, hgv⟩ := id C0
  have hts := g_tbl hts0
  have hbA : ¬ (fun q : Nat => s.heap.size ≤ q) b := Nat.not_le.mpr hbl
  refine lv_aload_n (pc := 586) hx hb dL_law_586 rfl (lv_at hl 2 rfl) ?_
  refine lv_aload_n (pc := 587) hx hb dL_law_587 rfl (lv_at hl 3 rfl) ?_
  refine lv_iload_n (pc := 588) hx hb dL_law_588 rfl (lv_at hl 0 rfl) ?_
  refine lv_iconst (pc := 589) (v := 1) hx hb dL_law_589 (by decide) ?_
  refine b_iadd (pc := 590) hx hb rfl tI_1 (by omega) (by omega) dL_law_590 (fun x_1 ex_1 => ?_)
  refine va_sld (pc := 591) hx hb hX hbl hbA hS (n_in rfl (by omega) (by omega)) dL_law_591 ?_
  refine lv_topi (fun x_2 ex_2 => ?_)
  have rx_2 := n_rng x_2
  have tx_2 := congrArg Int32.toInt (e_ld (f := xs) (show x_2 = xs (x_1.toInt).toNat from ex_2) (show x_1.toInt = (i.toInt) + (1) by omega))
  refine lv_aload_n (pc := 592) hx hb dL_law_592 rfl (lv_at hl 3 rfl) ?_
  refine lv_iload_n (pc := 593) hx hb dL_law_593 rfl (lv_at hl 0 rfl) ?_
  refine lv_iconst (pc := 594) (v := 2) hx hb dL_law_594 (by decide) ?_
  refine b_iadd (pc := 595) hx hb rfl tI_2 (by omega) (by omega) dL_law_595 (fun x_3 ex_3 => ?_)
  refine va_sld (pc := 596) hx hb hX hbl hbA hS (n_in rfl (by omega) (by omega)) dL_law_596 ?_
  refine lv_topi (fun x_4 ex_4 => ?_)
  have rx_4 := n_rng x_4
  have tx_4 := congrArg Int32.toInt (e_ld (f := xs) (show x_4 = xs (x_3.toInt).toNat from ex_4) (show x_3.toInt = (i.toInt) + (2) by omega))
  refine cc_597 C0 hK hF u hfX hl x_2 x_4 hP hD hS (fun r_5 w_6 H locs hf_7 ho_8 he_9 he_10 he_11 he_12 he_13 hP hD hS => ?_)
  have rr_5 := n_rng r_5
  refine lv_pop (pc := 600) hx hb dL_law_600 rfl ?_
  refine lv_aload_n (pc := 601) hx hb dL_law_601 rfl (lv_at hl 1 rfl) ?_
  refine lv_aload_n (pc := 602) hx hb dL_law_602 rfl (lv_at hl 3 rfl) ?_
  refine lv_iload_n (pc := 603) hx hb dL_law_603 rfl (lv_at hl 0 rfl) ?_
  refine lv_iconst (pc := 604) (v := 1) hx hb dL_law_604 (by decide) ?_
  refine b_iadd (pc := 605) hx hb rfl tI_1 (by omega) (by omega) dL_law_605 (fun x_14 ex_14 => ?_)
  refine va_sld (pc := 606) hx hb hX hbl hbA hS (n_in rfl (by omega) (by omega)) dL_law_606 ?_
  refine lv_topi (fun x_15 ex_15 => ?_)
  have rx_15 := n_rng x_15
  have tx_15 := congrArg Int32.toInt (e_ld (f := xs) (show x_15 = xs (x_14.toInt).toNat from ex_15) (show x_14.toInt = (i.toInt) + (1) by omega))
  refine lv_aload_n (pc := 607) hx hb dL_law_607 rfl (lv_at hl 3 rfl) ?_
  refine lv_iload_n (pc := 608) hx hb dL_law_608 rfl (lv_at hl 0 rfl) ?_
  refine lv_iconst (pc := 609) (v := 2) hx hb dL_law_609 (by decide) ?_
  refine b_iadd (pc := 610) hx hb rfl tI_2 (by omega) (by omega) dL_law_610 (fun x_16 ex_16 => ?_)
  refine va_sld (pc := 611) hx hb hX hbl hbA hS (n_in rfl (by omega) (by omega)) dL_law_611 ?_
  refine lv_topi (fun x_17 ex_17 => ?_)
  have rx_17 := n_rng x_17
  have tx_17 := congrArg Int32.toInt (e_ld (f := xs) (show x_17 = xs (x_16.toInt).toNat from ex_17) (show x_16.toInt = (i.toInt) + (2) by omega))
  have hP : va_P D gcl (wM cB cC cI cJ v ++ wX cB cC cI cJ w_6) H := va_P.swap (a := []) (b := wX cB cC cI cJ w_6) (c := wM cB cC cI cJ v) hP
  have hD : va_D (fun q : Nat => s.heap.size ≤ q) (wM cB cC cI cJ v ++ wX cB cC cI cJ w_6) := va_D.swap (a := []) (b := wX cB cC cI cJ w_6) (c := wM cB cC cI cJ v) hD
  refine cc_612 C0 hK hF v hfM hl x_15 x_17 hP hD hS (fun r_18 w_19 H locs hf_20 ho_21 he_22 he_23 he_24 he_25 he_26 hP hD hS => ?_)
  have rr_18 := n_rng r_18
  refine lv_pop (pc := 615) hx hb dL_law_615 rfl ?_
  refine lv_goto (pc := 616) (tgt := 1519) hx hb dL_law_616 (by decide) ?_
  exact kk w_6 w_19 H locs ls hf_7 hf_20 ⟨te_cut heq.1 he_10 he_23 (by omega) (by omega), by omega, plE_keep heq.2.2 he_12 he_25 (by omega) (by omega) (by omega)⟩ ho_8 ho_21 (va_P.swap (a := []) (b := wM cB cC cI cJ w_19) (c := wX cB cC cI cJ w_6) hP) (va_D.swap (a := []) (b := wM cB cC cI cJ w_19) (c := wX cB cC cI cJ w_6) hD) hS hl
set_option maxHeartbeats 8000000 in
set_option maxRecDepth 100000 in
theorem lo_13 {p : Program} {l : Launch} {e : Env} {s : State} {m : MethodId} {below : List Frame} {meth : Method} {c : Code} {D : va_G} {cB cC cI cJ : ClassId} {b L : Nat} {xs : Nat → Int32} {adK adV : Nat → Nat} (C0 : lw_At p s m meth c b L xs) (hLN : L ≤ 3072) (hK : va_K D gcl [(cB, .byte), (cC, .char), (cI, .int), (cJ, .long)] s) (hF : sF adK adV (fun q : Nat => s.heap.size ≤ q) s s.heap) (o1 o2 : Nat) (i : Int32) (hi0 : 0 ≤ i.toInt) (hi1 : i.toInt + 6 ≤ (L : Int)) (u v : gEx) (hfX : fX u) (hfM : fM v) (heq : tEq (u.2.1 4) (u.2.2.2.1 7).toInt (v.2.1 0) (v.2.2.2.1 0).toInt ∧ ((u.2.2.2.1 5).toInt = (v.2.2.2.1 6).toInt ∧ (u.2.2.2.1 6).toInt = (v.2.2.2.1 7).toInt ∧ (u.2.2.2.1 15).toInt = (v.2.2.2.1 8).toInt ∧ (u.2.2.2.1 16).toInt = (v.2.2.2.1 9).toInt ∧ (u.2.2.2.1 17).toInt = (v.2.2.2.1 10).toInt ∧ (u.2.2.2.1 18).toInt = (v.2.2.2.1 11).toInt ∧ (u.2.2.2.1 19).toInt = (v.2.2.2.1 12).toInt ∧ (u.2.2.2.1 43).toInt = ((v.2.1 21) 0).toInt ∧ (u.2.2.2.1 24).toInt = (v.2.2.2.1 21).toInt ∧ (u.2.2.2.1 25).toInt = (v.2.2.2.1 22).toInt ∧ (u.2.2.2.1 26).toInt = (v.2.2.2.1 20).toInt) ∧ plE (u.2.1 31) (u.2.1 15) (u.2.2.2.1 20).toInt (v.2.1 17) (v.2.1 18) (v.2.2.2.1 13).toInt (u.2.2.2.1 19).toInt (u.2.2.2.1 16).toInt (u.2.2.2.1 17).toInt) (hu0 : u.1 0 = o1) (hv0 : v.1 0 = o2) (H : Heap) (locs : List Loc) (ls : Array Slot) (hP : va_P D gcl (wX cB cC cI cJ u ++ wM cB cC cI cJ v) H) (hD : va_D (fun q : Nat => s.heap.size ≤ q) (wX cB cC cI cJ u ++ wM cB cC cI cJ v)) (hS : va_S (fun q : Nat => s.heap.size ≤ q) s.heap H locs) (hl : lv_has ls 4 [(3, .int i), (2, .ref o2), (1, .ref o1), (0, .ref b)])
    (kk : ∀ (u v : gEx) (H : Heap) (locs : List Loc) (ls : Array Slot), fX u → fM v → tEq (u.2.1 4) (u.2.2.2.1 7).toInt (v.2.1 0) (v.2.2.2.1 0).toInt ∧ ((u.2.2.2.1 5).toInt = (v.2.2.2.1 6).toInt ∧ (u.2.2.2.1 6).toInt = (v.2.2.2.1 7).toInt ∧ (u.2.2.2.1 15).toInt = (v.2.2.2.1 8).toInt ∧ (u.2.2.2.1 16).toInt = (v.2.2.2.1 9).toInt ∧ (u.2.2.2.1 17).toInt = (v.2.2.2.1 10).toInt ∧ (u.2.2.2.1 18).toInt = (v.2.2.2.1 11).toInt ∧ (u.2.2.2.1 19).toInt = (v.2.2.2.1 12).toInt ∧ (u.2.2.2.1 43).toInt = ((v.2.1 21) 0).toInt ∧ (u.2.2.2.1 24).toInt = (v.2.2.2.1 21).toInt ∧ (u.2.2.2.1 25).toInt = (v.2.2.2.1 22).toInt ∧ (u.2.2.2.1 26).toInt = (v.2.2.2.1 20).toInt) ∧ plE (u.2.1 31) (u.2.1 15) (u.2.2.2.1 20).toInt (v.2.1 17) (v.2.1 18) (v.2.2.2.1 13).toInt (u.2.2.2.1 19).toInt (u.2.2.2.1 16).toInt (u.2.2.2.1 17).toInt → u.1 0 = o1 → v.1 0 = o2 → va_P D gcl (wX cB cC cI cJ u ++ wM cB cC cI cJ v) H → va_D (fun q : Nat => s.heap.size ≤ q) (wX cB cC cI cJ u ++ wM cB cC cI cJ v) → va_S (fun q : Nat => s.heap.size ≤ q) s.heap H locs → lv_has ls 4 [(3, .int i), (2, .ref o2), (1, .ref o1), (0, .ref b)] → W p l e room_1 s m #[Value.ref b] below meth c H locs 126 15724 (lw_Z below #[Value.ref b] s) (F0 m 1519 ls [])) : W p l e room_1 s m #[Value.ref b] below meth c H locs 126 15724 (lw_Z below #[Value.ref b] s) (F0 m 619 ls []) := by
  subst hu0
  subst hv0
  have hlen := heq.1.1
  have hreg := heq.2.1
  obtain ⟨hx, hb, hr, hml, hown, hts0, hX, hbl, hlocks, hgv⟩ := id C0
  have hts := g_tbl hts0
  have hbA : ¬ (fun q : Nat => s.heap.size ≤ q) b := Nat.not_le.mpr hbl
  refine lv_aload_n (pc := 619) hx hb dL_law_619 rfl (lv_at hl 2 rfl) ?_
  refine lv_aload_n (pc := 620) hx hb dL_law_620 rfl (lv_at hl 3 rfl) ?_
  refine lv_iload_n (pc := 621) hx hb dL_law_621 rfl (lv_at hl 0 rfl) ?_
  refine lv_iconst (pc := 622) (v := 1) hx hb dL_law_622 (by decide) ?_
  refine b_iadd (pc := 623) hx hb rfl tI_1 (by omega) (by omega) dL_law_623 (fun x_1 ex_1 => ?_)
  refine va_sld (pc := 624) hx hb hX hbl hbA hS (n_in rfl (by omega) (by omega)) dL_law_624 ?_
  refine lv_topi (fun x_2 ex_2 => ?_)
  have rx_2 := n_rng x_2
  have tx_2 := congrArg Int32.toInt (e_ld (f := xs) (show x_2 = xs (x_1.toInt).toNat from ex_2) (show x_1.toInt = (i.toInt) + (1) by omega))
  refine cc_625 C0 hK hF u hfX hl x_2 hP hD hS (fun r_3 w_4 H locs hf_5 ho_6 he_7 he_8 he_9 he_10 he_11 hP hD hS => ?_)
  have rr_3 := n_rngL r_3
  refine lv_pop2_2 (pc := 628) hx hb dL_law_628 rfl ?_
  refine lv_aload_n (pc := 629) hx hb dL_law_629 rfl (lv_at hl 1 rfl) ?_
  refine lv_aload_n (pc := 630) hx hb dL_law_630 rfl (lv_at hl 3 rfl) ?_
  refine lv_iload_n (pc := 631) hx hb dL_law_631 rfl (lv_at hl 0 rfl) ?_
  refine lv_iconst (pc := 632) (v := 1) hx hb dL_law_632 (by decide) ?_
  refine b_iadd (pc := 633) hx hb rfl tI_1 (by omega) (by omega) dL_law_633 (fun x_12 ex_12 => ?_)
  refine va_sld (pc := 634) hx hb hX hbl hbA hS (n_in rfl (by omega) (by omega)) dL_law_634 ?_
  refine lv_topi (fun x_13 ex_13 => ?_)
  have rx_13 := n_rng x_13
  have tx_13 := congrArg Int32.toInt (e_ld (f := xs) (show x_13 = xs (x_12.toInt).toNat from ex_13) (show x_12.toInt = (i.toInt) + (1) by omega))
  have hP : va_P D gcl (wM cB cC cI cJ v ++ wX cB cC cI cJ w_4) H := va_P.swap (a := []) (b := wX cB cC cI cJ w_4) (c := wM cB cC cI cJ v) hP
  have hD : va_D (fun q : Nat => s.heap.size ≤ q) (wM cB cC cI cJ v ++ wX cB cC cI cJ w_4) := va_D.swap (a := []) (b := wX cB cC cI cJ w_4) (c := wM cB cC cI cJ v) hD
  refine cc_635 C0 hK hF v hfM hl x_13 hP hD hS (fun r_14 w_15 H locs hf_16 ho_17 he_18 he_19 he_20 he_21 he_22 hP hD hS => ?_)
  have rr_14 := n_rngL r_14
  refine lv_pop2_2 (pc := 638) hx hb dL_law_638 rfl ?_
  refine lv_goto (pc := 639) (tgt := 1519) hx hb dL_law_639 (by decide) ?_
  exact kk w_4 w_15 H locs ls hf_5 hf_16 ⟨te_cut heq.1 he_8 he_19 (by omega) (by omega), by omega, plE_keep heq.2.2 he_10 he_21 (by omega) (by omega) (by omega)⟩ ho_6 ho_17 (va_P.swap (a := []) (b := wM cB cC cI cJ w_15) (c := wX cB cC cI cJ w_4) hP) (va_D.swap (a := []) (b := wM cB cC cI cJ w_15) (c := wX cB cC cI cJ w_4) hD) hS hl
set_option maxHeartbeats 8000000 in
set_option maxRecDepth 100000 in
theorem lo_14 {p : Program} {l : Launch} {e : Env} {s : State} {m : MethodId} {below : List Frame} {meth : Method} {c : Code} {D : va_G} {cB cC cI cJ : ClassId} {b L : Nat} {xs : Nat → Int32} {adK adV : Nat → Nat} (C0 : lw_At p s m meth c b L xs) (hLN : L ≤ 3072) (hK : va_K D gcl [(cB, .byte), (cC, .char), (cI, .int), (cJ, .long)] s) (hF : sF adK adV (fun q : Nat => s.heap.size ≤ q) s s.heap) (o1 o2 : Nat) (i : Int32) (hi0 : 0 ≤ i.toInt) (hi1 : i.toInt + 6 ≤ (L : Int)) (u v : gEx) (hfX : fX u) (hfM : fM v) (heq : tEq (u.2.1 4) (u.2.2.2.1 7).toInt (v.2.1 0) (v.2.2.2.1 0).toInt ∧ ((u.2.2.2.1 5).toInt = (v.2.2.2.1 6).toInt ∧ (u.2.2.2.1 6).toInt = (v.2.2.2.1 7).toInt ∧ (u.2.2.2.1 15).toInt = (v.2.2.2.1 8).toInt ∧ (u.2.2.2.1 16).toInt = (v.2.2.2.1 9).toInt ∧ (u.2.2.2.1 17).toInt = (v.2.2.2.1 10).toInt ∧ (u.2.2.2.1 18).toInt = (v.2.2.2.1 11).toInt ∧ (u.2.2.2.1 19).toInt = (v.2.2.2.1 12).toInt ∧ (u.2.2.2.1 43).toInt = ((v.2.1 21) 0).toInt ∧ (u.2.2.2.1 24).toInt = (v.2.2.2.1 21).toInt ∧ (u.2.2.2.1 25).toInt = (v.2.2.2.1 22).toInt ∧ (u.2.2.2.1 26).toInt = (v.2.2.2.1 20).toInt) ∧ plE (u.2.1 31) (u.2.1 15) (u.2.2.2.1 20).toInt (v.2.1 17) (v.2.1 18) (v.2.2.2.1 13).toInt (u.2.2.2.1 19).toInt (u.2.2.2.1 16).toInt (u.2.2.2.1 17).toInt) (hu0 : u.1 0 = o1) (hv0 : v.1 0 = o2) (H : Heap) (locs : List Loc) (ls : Array Slot) (hP : va_P D gcl (wX cB cC cI cJ u ++ wM cB cC cI cJ v) H) (hD : va_D (fun q : Nat => s.heap.size ≤ q) (wX cB cC cI cJ u ++ wM cB cC cI cJ v)) (hS : va_S (fun q : Nat => s.heap.size ≤ q) s.heap H locs) (hl : lv_has ls 4 [(3, .int i), (2, .ref o2), (1, .ref o1), (0, .ref b)])
    (kk : ∀ (u v : gEx) (H : Heap) (locs : List Loc) (ls : Array Slot), fX u → fM v → tEq (u.2.1 4) (u.2.2.2.1 7).toInt (v.2.1 0) (v.2.2.2.1 0).toInt ∧ ((u.2.2.2.1 5).toInt = (v.2.2.2.1 6).toInt ∧ (u.2.2.2.1 6).toInt = (v.2.2.2.1 7).toInt ∧ (u.2.2.2.1 15).toInt = (v.2.2.2.1 8).toInt ∧ (u.2.2.2.1 16).toInt = (v.2.2.2.1 9).toInt ∧ (u.2.2.2.1 17).toInt = (v.2.2.2.1 10).toInt ∧ (u.2.2.2.1 18).toInt = (v.2.2.2.1 11).toInt ∧ (u.2.2.2.1 19).toInt = (v.2.2.2.1 12).toInt ∧ (u.2.2.2.1 43).toInt = ((v.2.1 21) 0).toInt ∧ (u.2.2.2.1 24).toInt = (v.2.2.2.1 21).toInt ∧ (u.2.2.2.1 25).toInt = (v.2.2.2.1 22).toInt ∧ (u.2.2.2.1 26).toInt = (v.2.2.2.1 20).toInt) ∧ plE (u.2.1 31) (u.2.1 15) (u.2.2.2.1 20).toInt (v.2.1 17) (v.2.1 18) (v.2.2.2.1 13).toInt (u.2.2.2.1 19).toInt (u.2.2.2.1 16).toInt (u.2.2.2.1 17).toInt → u.1 0 = o1 → v.1 0 = o2 → va_P D gcl (wX cB cC cI cJ u ++ wM cB cC cI cJ v) H → va_D (fun q : Nat => s.heap.size ≤ q) (wX cB cC cI cJ u ++ wM cB cC cI cJ v) → va_S (fun q : Nat => s.heap.size ≤ q) s.heap H locs → lv_has ls 4 [(3, .int i), (2, .ref o2), (1, .ref o1), (0, .ref b)] → W p l e room_1 s m #[Value.ref b] below meth c H locs 126 15724 (lw_Z below #[Value.ref b] s) (F0 m 1519 ls [])) : W p l e room_1 s m #[Value.ref b] below meth c H locs 126 15724 (lw_Z below #[Value.ref b] s) (F0 m 642 ls []) := by
  subst hu0
  subst hv0
  have hlen := heq.1.1
  have hreg := heq.2.1
  obtain ⟨hx, hb, hr, hml, hown, hts0, hX, hbl, hlocks, hgv⟩ := id C0
  have hts := g_tbl hts0
  have hbA : ¬ (fun q : Nat => s.heap.size ≤ q) b := Nat.not_le.mpr hbl
  refine lv_aload_n (pc := 642) hx hb dL_law_642 rfl (lv_at hl 2 rfl) ?_
  refine lv_aload_n (pc := 643) hx hb dL_law_643 rfl (lv_at hl 3 rfl) ?_
  refine lv_iload_n (pc := 644) hx hb dL_law_644 rfl (lv_at hl 0 rfl) ?_
  refine lv_iconst (pc := 645) (v := 1) hx hb dL_law_645 (by decide) ?_
  refine b_iadd (pc := 646) hx hb rfl tI_1 (by omega) (by omega) dL_law_646 (fun x_1 ex_1 => ?_)
  refine va_sld (pc := 647) hx hb hX hbl hbA hS (n_in rfl (by omega) (by omega)) dL_law_647 ?_
  refine lv_topi (fun x_2 ex_2 => ?_)
  have rx_2 := n_rng x_2
  have tx_2 := congrArg Int32.toInt (e_ld (f := xs) (show x_2 = xs (x_1.toInt).toNat from ex_2) (show x_1.toInt = (i.toInt) + (1) by omega))
  refine b_i2l (pc := 648) hx hb rfl dL_law_648 (fun y_3 ey_3 => ?_)
  have ry_3 := n_rng x_2
  refine lv_bipush (pc := 649) (v := 32) hx hb dL_law_649 (by decide) ?_
  refine lv_lshl (pc := 651) hx hb dL_law_651 rfl ?_
  refine lv_topl (fun y_4 _ => ?_)
  have ry_4 := n_rngL y_4
  refine lv_aload_n (pc := 652) hx hb dL_law_652 rfl (lv_at hl 3 rfl) ?_
  refine lv_iload_n (pc := 653) hx hb dL_law_653 rfl (lv_at hl 0 rfl) ?_
  refine lv_iconst (pc := 654) (v := 2) hx hb dL_law_654 (by decide) ?_
  refine b_iadd (pc := 655) hx hb rfl tI_2 (by omega) (by omega) dL_law_655 (fun x_5 ex_5 => ?_)
  refine va_sld (pc := 656) hx hb hX hbl hbA hS (n_in rfl (by omega) (by omega)) dL_law_656 ?_
  refine lv_topi (fun x_6 ex_6 => ?_)
  have rx_6 := n_rng x_6
  have tx_6 := congrArg Int32.toInt (e_ld (f := xs) (show x_6 = xs (x_5.toInt).toNat from ex_6) (show x_5.toInt = (i.toInt) + (2) by omega))
  refine b_i2l (pc := 657) hx hb rfl dL_law_657 (fun y_7 ey_7 => ?_)
  have ry_7 := n_rng x_6
  refine lv_ldc2 (pc := 658) hx hb hown (hts _ tw_2109) dL_law_658 ?_
  refine lv_land (pc := 661) hx hb dL_law_661 ?_
  refine lv_topl (fun y_8 _ => ?_)
  have ry_8 := n_rngL y_8
  refine lv_lor (pc := 662) hx hb dL_law_662 ?_
  refine lv_topl (fun y_9 _ => ?_)
  have ry_9 := n_rngL y_9
  refine cc_663 C0 hK hF u hfX hl y_9 hP hD hS (fun r_10 w_11 H locs hf_12 ho_13 he_14 he_15 he_16 he_17 he_18 hP hD hS => ?_)
  have rr_10 := n_rng r_10
  refine lv_pop (pc := 666) hx hb dL_law_666 rfl ?_
  refine lv_aload_n (pc := 667) hx hb dL_law_667 rfl (lv_at hl 1 rfl) ?_
  refine lv_aload_n (pc := 668) hx hb dL_law_668 rfl (lv_at hl 3 rfl) ?_
  refine lv_iload_n (pc := 669) hx hb dL_law_669 rfl (lv_at hl 0 rfl) ?_
  refine lv_iconst (pc := 670) (v := 1) hx hb dL_law_670 (by decide) ?_
  refine b_iadd (pc := 671) hx hb rfl tI_1 (by omega) (by omega) dL_law_671 (fun x_19 ex_19 => ?_)
  refine va_sld (pc := 672) hx hb hX hbl hbA hS (n_in rfl (by omega) (by omega)) dL_law_672 ?_
  refine lv_topi (fun x_20 ex_20 => ?_)
  have rx_20 := n_rng x_20
  have tx_20 := congrArg Int32.toInt (e_ld (f := xs) (show x_20 = xs (x_19.toInt).toNat from ex_20) (show x_19.toInt = (i.toInt) + (1) by omega))
  refine b_i2l (pc := 673) hx hb rfl dL_law_673 (fun y_21 ey_21 => ?_)
  have ry_21 := n_rng x_20
  refine lv_bipush (pc := 674) (v := 32) hx hb dL_law_674 (by decide) ?_
  refine lv_lshl (pc := 676) hx hb dL_law_676 rfl ?_
  refine lv_topl (fun y_22 _ => ?_)
  have ry_22 := n_rngL y_22
  refine lv_aload_n (pc := 677) hx hb dL_law_677 rfl (lv_at hl 3 rfl) ?_
  refine lv_iload_n (pc := 678) hx hb dL_law_678 rfl (lv_at hl 0 rfl) ?_
  refine lv_iconst (pc := 679) (v := 2) hx hb dL_law_679 (by decide) ?_
  refine b_iadd (pc := 680) hx hb rfl tI_2 (by omega) (by omega) dL_law_680 (fun x_23 ex_23 => ?_)
  refine va_sld (pc := 681) hx hb hX hbl hbA hS (n_in rfl (by omega) (by omega)) dL_law_681 ?_
  refine lv_topi (fun x_24 ex_24 => ?_)
  have rx_24 := n_rng x_24
  have tx_24 := congrArg Int32.toInt (e_ld (f := xs) (show x_24 = xs (x_23.toInt).toNat from ex_24) (show x_23.toInt = (i.toInt) + (2) by omega))
  refine b_i2l (pc := 682) hx hb rfl dL_law_682 (fun y_25 ey_25 => ?_)
  have ry_25 := n_rng x_24
  refine lv_ldc2 (pc := 683) hx hb hown (hts _ tw_2109) dL_law_683 ?_
  refine lv_land (pc := 686) hx hb dL_law_686 ?_
  refine lv_topl (fun y_26 _ => ?_)
  have ry_26 := n_rngL y_26
  refine lv_lor (pc := 687) hx hb dL_law_687 ?_
  refine lv_topl (fun y_27 _ => ?_)
  have ry_27 := n_rngL y_27
  have hP : va_P D gcl (wM cB cC cI cJ v ++ wX cB cC cI cJ w_11) H := va_P.swap (a := []) (b := wX cB cC cI cJ w_11) (c := wM cB cC cI cJ v) hP
  have hD : va_D (fun q : Nat => s.heap.size ≤ q) (wM cB cC cI cJ v ++ wX cB cC cI cJ w_11) := va_D.swap (a := []) (b := wX cB cC cI cJ w_11) (c := wM cB cC cI cJ v) hD
  refine cc_688 C0 hK hF v hfM hl y_27 hP hD hS (fun r_28 w_29 H locs hf_30 ho_31 he_32 he_33 he_34 he_35 he_36 hP hD hS => ?_)
  have rr_28 := n_rng r_28
  refine lv_pop (pc := 691) hx hb dL_law_691 rfl ?_
  refine lv_goto (pc := 692) (tgt := 1519) hx hb dL_law_692 (by decide) ?_
  exact kk w_11 w_29 H locs ls hf_12 hf_30 ⟨te_cut heq.1 he_15 he_33 (by omega) (by omega), by omega, plE_keep heq.2.2 he_17 he_35 (by omega) (by omega) (by omega)⟩ ho_13 ho_31 (va_P.swap (a := []) (b := wM cB cC cI cJ w_29) (c := wX cB cC cI cJ w_11) hP) (va_D.swap (a := []) (b := wM cB cC cI cJ w_29) (c := wX cB cC cI cJ w_11) hD) hS hl
set_option maxHeartbeats 8000000 in
set_option maxRecDepth 100000 in
theorem lo_15 {p : Program} {l : Launch} {e : Env} {s : State} {m : MethodId} {below : List Frame} {meth : Method} {c : Code} {D : va_G} {cB cC cI cJ : ClassId} {b L : Nat} {xs : Nat → Int32} {adK adV : Nat → Nat} (C0 : lw_At p s m meth c b L xs) (hLN : L ≤ 3072) (hK : va_K D gcl [(cB, .byte), (cC, .char), (cI, .int), (cJ, .long)] s) (hF : sF adK adV (fun q : Nat => s.heap.size ≤ q) s s.heap) (o1 o2 : Nat) (i : Int32) (hi0 : 0 ≤ i.toInt) (hi1 : i.toInt + 6 ≤ (L : Int)) (u v : gEx) (hfX : fX u) (hfM : fM v) (heq : tEq (u.2.1 4) (u.2.2.2.1 7).toInt (v.2.1 0) (v.2.2.2.1 0).toInt ∧ ((u.2.2.2.1 5).toInt = (v.2.2.2.1 6).toInt ∧ (u.2.2.2.1 6).toInt = (v.2.2.2.1 7).toInt ∧ (u.2.2.2.1 15).toInt = (v.2.2.2.1 8).toInt ∧ (u.2.2.2.1 16).toInt = (v.2.2.2.1 9).toInt ∧ (u.2.2.2.1 17).toInt = (v.2.2.2.1 10).toInt ∧ (u.2.2.2.1 18).toInt = (v.2.2.2.1 11).toInt ∧ (u.2.2.2.1 19).toInt = (v.2.2.2.1 12).toInt ∧ (u.2.2.2.1 43).toInt = ((v.2.1 21) 0).toInt ∧ (u.2.2.2.1 24).toInt = (v.2.2.2.1 21).toInt ∧ (u.2.2.2.1 25).toInt = (v.2.2.2.1 22).toInt ∧ (u.2.2.2.1 26).toInt = (v.2.2.2.1 20).toInt) ∧ plE (u.2.1 31) (u.2.1 15) (u.2.2.2.1 20).toInt (v.2.1 17) (v.2.1 18) (v.2.2.2.1 13).toInt (u.2.2.2.1 19).toInt (u.2.2.2.1 16).toInt (u.2.2.2.1 17).toInt) (hu0 : u.1 0 = o1) (hv0 : v.1 0 = o2) (H : Heap) (locs : List Loc) (ls : Array Slot) (hP : va_P D gcl (wX cB cC cI cJ u ++ wM cB cC cI cJ v) H) (hD : va_D (fun q : Nat => s.heap.size ≤ q) (wX cB cC cI cJ u ++ wM cB cC cI cJ v)) (hS : va_S (fun q : Nat => s.heap.size ≤ q) s.heap H locs) (hl : lv_has ls 4 [(3, .int i), (2, .ref o2), (1, .ref o1), (0, .ref b)])
    (kk : ∀ (u v : gEx) (H : Heap) (locs : List Loc) (ls : Array Slot), fX u → fM v → tEq (u.2.1 4) (u.2.2.2.1 7).toInt (v.2.1 0) (v.2.2.2.1 0).toInt ∧ ((u.2.2.2.1 5).toInt = (v.2.2.2.1 6).toInt ∧ (u.2.2.2.1 6).toInt = (v.2.2.2.1 7).toInt ∧ (u.2.2.2.1 15).toInt = (v.2.2.2.1 8).toInt ∧ (u.2.2.2.1 16).toInt = (v.2.2.2.1 9).toInt ∧ (u.2.2.2.1 17).toInt = (v.2.2.2.1 10).toInt ∧ (u.2.2.2.1 18).toInt = (v.2.2.2.1 11).toInt ∧ (u.2.2.2.1 19).toInt = (v.2.2.2.1 12).toInt ∧ (u.2.2.2.1 43).toInt = ((v.2.1 21) 0).toInt ∧ (u.2.2.2.1 24).toInt = (v.2.2.2.1 21).toInt ∧ (u.2.2.2.1 25).toInt = (v.2.2.2.1 22).toInt ∧ (u.2.2.2.1 26).toInt = (v.2.2.2.1 20).toInt) ∧ plE (u.2.1 31) (u.2.1 15) (u.2.2.2.1 20).toInt (v.2.1 17) (v.2.1 18) (v.2.2.2.1 13).toInt (u.2.2.2.1 19).toInt (u.2.2.2.1 16).toInt (u.2.2.2.1 17).toInt → u.1 0 = o1 → v.1 0 = o2 → va_P D gcl (wX cB cC cI cJ u ++ wM cB cC cI cJ v) H → va_D (fun q : Nat => s.heap.size ≤ q) (wX cB cC cI cJ u ++ wM cB cC cI cJ v) → va_S (fun q : Nat => s.heap.size ≤ q) s.heap H locs → lv_has ls 4 [(3, .int i), (2, .ref o2), (1, .ref o1), (0, .ref b)] → W p l e room_1 s m #[Value.ref b] below meth c H locs 126 15724 (lw_Z below #[Value.ref b] s) (F0 m 1519 ls [])) : W p l e room_1 s m #[Value.ref b] below meth c H locs 126 15724 (lw_Z below #[Value.ref b] s) (F0 m 695 ls []) := by
  subst hu0
  subst hv0
  have hlen := heq.1.1
  have hreg := heq.2.1
  obtain ⟨hx, hb, hr, hml, hown, hts0, hX, hbl, hlocks, hgv⟩ := id C0
  have hts := g_tbl hts0
  have hbA : ¬ (fun q : Nat => s.heap.size ≤ q) b := Nat.not_le.mpr hbl
  refine lv_aload_n (pc := 695) hx hb dL_law_695 rfl (lv_at hl 2 rfl) ?_
  refine lv_aload_n (pc := 696) hx hb dL_law_696 rfl (lv_at hl 3 rfl) ?_
  refine lv_iload_n (pc := 697) hx hb dL_law_697 rfl (lv_at hl 0 rfl) ?_
  refine lv_iconst (pc := 698) (v := 1) hx hb dL_law_698 (by decide) ?_
  refine b_iadd (pc := 699) hx hb rfl tI_1 (by omega) (by omega) dL_law_699 (fun x_1 ex_1 => ?_)
  refine va_sld (pc := 700) hx hb hX hbl hbA hS (n_in rfl (by omega) (by omega)) dL_law_700 ?_
  refine lv_topi (fun x_2 ex_2 => ?_)
  have rx_2 := n_rng x_2
  have tx_2 := congrArg Int32.toInt (e_ld (f := xs) (show x_2 = xs (x_1.toInt).toNat from ex_2) (show x_1.toInt = (i.toInt) + (1) by omega))
  refine cc_701 C0 hK hF u hfX hl x_2 hP hD hS (fun r_3 w_4 H locs hf_5 ho_6 he_7 he_8 he_9 he_10 he_11 hP hD hS => ?_)
  have rr_3 := n_rng r_3
  refine lv_pop (pc := 704) hx hb dL_law_704 rfl ?_
  refine lv_aload_n (pc := 705) hx hb dL_law_705 rfl (lv_at hl 1 rfl) ?_
  refine lv_aload_n (pc := 706) hx hb dL_law_706 rfl (lv_at hl 3 rfl) ?_
  refine lv_iload_n (pc := 707) hx hb dL_law_707 rfl (lv_at hl 0 rfl) ?_
  refine lv_iconst (pc := 708) (v := 1) hx hb dL_law_708 (by decide) ?_
  refine b_iadd (pc := 709) hx hb rfl tI_1 (by omega) (by omega) dL_law_709 (fun x_12 ex_12 => ?_)
  refine va_sld (pc := 710) hx hb hX hbl hbA hS (n_in rfl (by omega) (by omega)) dL_law_710 ?_
  refine lv_topi (fun x_13 ex_13 => ?_)
  have rx_13 := n_rng x_13
  have tx_13 := congrArg Int32.toInt (e_ld (f := xs) (show x_13 = xs (x_12.toInt).toNat from ex_13) (show x_12.toInt = (i.toInt) + (1) by omega))
  have hP : va_P D gcl (wM cB cC cI cJ v ++ wX cB cC cI cJ w_4) H := va_P.swap (a := []) (b := wX cB cC cI cJ w_4) (c := wM cB cC cI cJ v) hP
  have hD : va_D (fun q : Nat => s.heap.size ≤ q) (wM cB cC cI cJ v ++ wX cB cC cI cJ w_4) := va_D.swap (a := []) (b := wX cB cC cI cJ w_4) (c := wM cB cC cI cJ v) hD
  refine cc_711 C0 hK hF v hfM hl x_13 hP hD hS (fun r_14 w_15 H locs hf_16 ho_17 he_18 he_19 he_20 he_21 he_22 hP hD hS => ?_)
  have rr_14 := n_rng r_14
  refine lv_pop (pc := 714) hx hb dL_law_714 rfl ?_
  refine lv_goto (pc := 715) (tgt := 1519) hx hb dL_law_715 (by decide) ?_
  exact kk w_4 w_15 H locs ls hf_5 hf_16 ⟨te_cut heq.1 he_8 he_19 (by omega) (by omega), by omega, plE_keep heq.2.2 he_10 he_21 (by omega) (by omega) (by omega)⟩ ho_6 ho_17 (va_P.swap (a := []) (b := wM cB cC cI cJ w_15) (c := wX cB cC cI cJ w_4) hP) (va_D.swap (a := []) (b := wM cB cC cI cJ w_15) (c := wX cB cC cI cJ w_4) hD) hS hl
set_option maxHeartbeats 8000000 in
set_option maxRecDepth 100000 in
theorem lo_16 {p : Program} {l : Launch} {e : Env} {s : State} {m : MethodId} {below : List Frame} {meth : Method} {c : Code} {D : va_G} {cB cC cI cJ : ClassId} {b L : Nat} {xs : Nat → Int32} {adK adV : Nat → Nat} (C0 : lw_At p s m meth c b L xs) (hLN : L ≤ 3072) (hK : va_K D gcl [(cB, .byte), (cC, .char), (cI, .int), (cJ, .long)] s) (hF : sF adK adV (fun q : Nat => s.heap.size ≤ q) s s.heap) (o1 o2 : Nat) (i : Int32) (hi0 : 0 ≤ i.toInt) (hi1 : i.toInt + 6 ≤ (L : Int)) (u v : gEx) (hfX : fX u) (hfM : fM v) (heq : tEq (u.2.1 4) (u.2.2.2.1 7).toInt (v.2.1 0) (v.2.2.2.1 0).toInt ∧ ((u.2.2.2.1 5).toInt = (v.2.2.2.1 6).toInt ∧ (u.2.2.2.1 6).toInt = (v.2.2.2.1 7).toInt ∧ (u.2.2.2.1 15).toInt = (v.2.2.2.1 8).toInt ∧ (u.2.2.2.1 16).toInt = (v.2.2.2.1 9).toInt ∧ (u.2.2.2.1 17).toInt = (v.2.2.2.1 10).toInt ∧ (u.2.2.2.1 18).toInt = (v.2.2.2.1 11).toInt ∧ (u.2.2.2.1 19).toInt = (v.2.2.2.1 12).toInt ∧ (u.2.2.2.1 43).toInt = ((v.2.1 21) 0).toInt ∧ (u.2.2.2.1 24).toInt = (v.2.2.2.1 21).toInt ∧ (u.2.2.2.1 25).toInt = (v.2.2.2.1 22).toInt ∧ (u.2.2.2.1 26).toInt = (v.2.2.2.1 20).toInt) ∧ plE (u.2.1 31) (u.2.1 15) (u.2.2.2.1 20).toInt (v.2.1 17) (v.2.1 18) (v.2.2.2.1 13).toInt (u.2.2.2.1 19).toInt (u.2.2.2.1 16).toInt (u.2.2.2.1 17).toInt) (hu0 : u.1 0 = o1) (hv0 : v.1 0 = o2) (H : Heap) (locs : List Loc) (ls : Array Slot) (hP : va_P D gcl (wX cB cC cI cJ u ++ wM cB cC cI cJ v) H) (hD : va_D (fun q : Nat => s.heap.size ≤ q) (wX cB cC cI cJ u ++ wM cB cC cI cJ v)) (hS : va_S (fun q : Nat => s.heap.size ≤ q) s.heap H locs) (hl : lv_has ls 4 [(3, .int i), (2, .ref o2), (1, .ref o1), (0, .ref b)])
    (kk : ∀ (u v : gEx) (H : Heap) (locs : List Loc) (ls : Array Slot), fX u → fM v → tEq (u.2.1 4) (u.2.2.2.1 7).toInt (v.2.1 0) (v.2.2.2.1 0).toInt ∧ ((u.2.2.2.1 5).toInt = (v.2.2.2.1 6).toInt ∧ (u.2.2.2.1 6).toInt = (v.2.2.2.1 7).toInt ∧ (u.2.2.2.1 15).toInt = (v.2.2.2.1 8).toInt ∧ (u.2.2.2.1 16).toInt = (v.2.2.2.1 9).toInt ∧ (u.2.2.2.1 17).toInt = (v.2.2.2.1 10).toInt ∧ (u.2.2.2.1 18).toInt = (v.2.2.2.1 11).toInt ∧ (u.2.2.2.1 19).toInt = (v.2.2.2.1 12).toInt ∧ (u.2.2.2.1 43).toInt = ((v.2.1 21) 0).toInt ∧ (u.2.2.2.1 24).toInt = (v.2.2.2.1 21).toInt ∧ (u.2.2.2.1 25).toInt = (v.2.2.2.1 22).toInt ∧ (u.2.2.2.1 26).toInt = (v.2.2.2.1 20).toInt) ∧ plE (u.2.1 31) (u.2.1 15) (u.2.2.2.1 20).toInt (v.2.1 17) (v.2.1 18) (v.2.2.2.1 13).toInt (u.2.2.2.1 19).toInt (u.2.2.2.1 16).toInt (u.2.2.2.1 17).toInt → u.1 0 = o1 → v.1 0 = o2 → va_P D gcl (wX cB cC cI cJ u ++ wM cB cC cI cJ v) H → va_D (fun q : Nat => s.heap.size ≤ q) (wX cB cC cI cJ u ++ wM cB cC cI cJ v) → va_S (fun q : Nat => s.heap.size ≤ q) s.heap H locs → lv_has ls 4 [(3, .int i), (2, .ref o2), (1, .ref o1), (0, .ref b)] → W p l e room_1 s m #[Value.ref b] below meth c H locs 126 15724 (lw_Z below #[Value.ref b] s) (F0 m 1519 ls [])) : W p l e room_1 s m #[Value.ref b] below meth c H locs 126 15724 (lw_Z below #[Value.ref b] s) (F0 m 718 ls []) := by
  subst hu0
  subst hv0
  have hlen := heq.1.1
  have hreg := heq.2.1
  obtain ⟨hx, hb, hr, hml, hown, hts0, hX, hbl, hlocks, hgv⟩ := id C0
  have hts := g_tbl hts0
  have hbA : ¬ (fun q : Nat => s.heap.size ≤ q) b := Nat.not_le.mpr hbl
  refine lv_aload_n (pc := 718) hx hb dL_law_718 rfl (lv_at hl 2 rfl) ?_
  refine lv_aload_n (pc := 719) hx hb dL_law_719 rfl (lv_at hl 3 rfl) ?_
  refine lv_iload_n (pc := 720) hx hb dL_law_720 rfl (lv_at hl 0 rfl) ?_
  refine lv_iconst (pc := 721) (v := 1) hx hb dL_law_721 (by decide) ?_
  refine b_iadd (pc := 722) hx hb rfl tI_1 (by omega) (by omega) dL_law_722 (fun x_1 ex_1 => ?_)
  refine va_sld (pc := 723) hx hb hX hbl hbA hS (n_in rfl (by omega) (by omega)) dL_law_723 ?_
  refine lv_topi (fun x_2 ex_2 => ?_)
  have rx_2 := n_rng x_2
  have tx_2 := congrArg Int32.toInt (e_ld (f := xs) (show x_2 = xs (x_1.toInt).toNat from ex_2) (show x_1.toInt = (i.toInt) + (1) by omega))
  refine cc_724 C0 hK hF u hfX hl x_2 hP hD hS (fun r_3 w_4 H locs hf_5 ho_6 he_7 he_8 he_9 he_10 he_11 hP hD hS => ?_)
  have rr_3 := n_rng r_3
  refine lv_pop (pc := 727) hx hb dL_law_727 rfl ?_
  refine lv_aload_n (pc := 728) hx hb dL_law_728 rfl (lv_at hl 1 rfl) ?_
  refine lv_aload_n (pc := 729) hx hb dL_law_729 rfl (lv_at hl 3 rfl) ?_
  refine lv_iload_n (pc := 730) hx hb dL_law_730 rfl (lv_at hl 0 rfl) ?_
  refine lv_iconst (pc := 731) (v := 1) hx hb dL_law_731 (by decide) ?_
  refine b_iadd (pc := 732) hx hb rfl tI_1 (by omega) (by omega) dL_law_732 (fun x_12 ex_12 => ?_)
  refine va_sld (pc := 733) hx hb hX hbl hbA hS (n_in rfl (by omega) (by omega)) dL_law_733 ?_
  refine lv_topi (fun x_13 ex_13 => ?_)
  have rx_13 := n_rng x_13
  have tx_13 := congrArg Int32.toInt (e_ld (f := xs) (show x_13 = xs (x_12.toInt).toNat from ex_13) (show x_12.toInt = (i.toInt) + (1) by omega))
  have hP : va_P D gcl (wM cB cC cI cJ v ++ wX cB cC cI cJ w_4) H := va_P.swap (a := []) (b := wX cB cC cI cJ w_4) (c := wM cB cC cI cJ v) hP
  have hD : va_D (fun q : Nat => s.heap.size ≤ q) (wM cB cC cI cJ v ++ wX cB cC cI cJ w_4) := va_D.swap (a := []) (b := wX cB cC cI cJ w_4) (c := wM cB cC cI cJ v) hD
  refine cc_734 C0 hK hF v hfM hl x_13 hP hD hS (fun r_14 w_15 H locs hf_16 ho_17 he_18 he_19 he_20 he_21 he_22 hP hD hS => ?_)
  have rr_14 := n_rng r_14
  refine lv_pop (pc := 737) hx hb dL_law_737 rfl ?_
  refine lv_goto (pc := 738) (tgt := 1519) hx hb dL_law_738 (by decide) ?_
  exact kk w_4 w_15 H locs ls hf_5 hf_16 ⟨te_cut heq.1 he_8 he_19 (by omega) (by omega), by omega, plE_keep heq.2.2 he_10 he_21 (by omega) (by omega) (by omega)⟩ ho_6 ho_17 (va_P.swap (a := []) (b := wM cB cC cI cJ w_15) (c := wX cB cC cI cJ w_4) hP) (va_D.swap (a := []) (b := wM cB cC cI cJ w_15) (c := wX cB cC cI cJ w_4) hD) hS hl
set_option maxHeartbeats 8000000 in
set_option maxRecDepth 100000 in
theorem lo_17 {p : Program} {l : Launch} {e : Env} {s : State} {m : MethodId} {below : List Frame} {meth : Method} {c : Code} {D : va_G} {cB cC cI cJ : ClassId} {b L : Nat} {xs : Nat → Int32} {adK adV : Nat → Nat} (C0 : lw_At p s m meth c b L xs) (hLN : L ≤ 3072) (hK : va_K D gcl [(cB, .byte), (cC, .char), (cI, .int), (cJ, .long)] s) (hF : sF adK adV (fun q : Nat => s.heap.size ≤ q) s s.heap) (o1 o2 : Nat) (i : Int32) (hi0 : 0 ≤ i.toInt) (hi1 : i.toInt + 6 ≤ (L : Int)) (u v : gEx) (hfX : fX u) (hfM : fM v) (heq : tEq (u.2.1 4) (u.2.2.2.1 7).toInt (v.2.1 0) (v.2.2.2.1 0).toInt ∧ ((u.2.2.2.1 5).toInt = (v.2.2.2.1 6).toInt ∧ (u.2.2.2.1 6).toInt = (v.2.2.2.1 7).toInt ∧ (u.2.2.2.1 15).toInt = (v.2.2.2.1 8).toInt ∧ (u.2.2.2.1 16).toInt = (v.2.2.2.1 9).toInt ∧ (u.2.2.2.1 17).toInt = (v.2.2.2.1 10).toInt ∧ (u.2.2.2.1 18).toInt = (v.2.2.2.1 11).toInt ∧ (u.2.2.2.1 19).toInt = (v.2.2.2.1 12).toInt ∧ (u.2.2.2.1 43).toInt = ((v.2.1 21) 0).toInt ∧ (u.2.2.2.1 24).toInt = (v.2.2.2.1 21).toInt ∧ (u.2.2.2.1 25).toInt = (v.2.2.2.1 22).toInt ∧ (u.2.2.2.1 26).toInt = (v.2.2.2.1 20).toInt) ∧ plE (u.2.1 31) (u.2.1 15) (u.2.2.2.1 20).toInt (v.2.1 17) (v.2.1 18) (v.2.2.2.1 13).toInt (u.2.2.2.1 19).toInt (u.2.2.2.1 16).toInt (u.2.2.2.1 17).toInt) (hu0 : u.1 0 = o1) (hv0 : v.1 0 = o2) (H : Heap) (locs : List Loc) (ls : Array Slot) (hP : va_P D gcl (wX cB cC cI cJ u ++ wM cB cC cI cJ v) H) (hD : va_D (fun q : Nat => s.heap.size ≤ q) (wX cB cC cI cJ u ++ wM cB cC cI cJ v)) (hS : va_S (fun q : Nat => s.heap.size ≤ q) s.heap H locs) (hl : lv_has ls 4 [(3, .int i), (2, .ref o2), (1, .ref o1), (0, .ref b)])
    (kk : ∀ (u v : gEx) (H : Heap) (locs : List Loc) (ls : Array Slot), fX u → fM v → tEq (u.2.1 4) (u.2.2.2.1 7).toInt (v.2.1 0) (v.2.2.2.1 0).toInt ∧ ((u.2.2.2.1 5).toInt = (v.2.2.2.1 6).toInt ∧ (u.2.2.2.1 6).toInt = (v.2.2.2.1 7).toInt ∧ (u.2.2.2.1 15).toInt = (v.2.2.2.1 8).toInt ∧ (u.2.2.2.1 16).toInt = (v.2.2.2.1 9).toInt ∧ (u.2.2.2.1 17).toInt = (v.2.2.2.1 10).toInt ∧ (u.2.2.2.1 18).toInt = (v.2.2.2.1 11).toInt ∧ (u.2.2.2.1 19).toInt = (v.2.2.2.1 12).toInt ∧ (u.2.2.2.1 43).toInt = ((v.2.1 21) 0).toInt ∧ (u.2.2.2.1 24).toInt = (v.2.2.2.1 21).toInt ∧ (u.2.2.2.1 25).toInt = (v.2.2.2.1 22).toInt ∧ (u.2.2.2.1 26).toInt = (v.2.2.2.1 20).toInt) ∧ plE (u.2.1 31) (u.2.1 15) (u.2.2.2.1 20).toInt (v.2.1 17) (v.2.1 18) (v.2.2.2.1 13).toInt (u.2.2.2.1 19).toInt (u.2.2.2.1 16).toInt (u.2.2.2.1 17).toInt → u.1 0 = o1 → v.1 0 = o2 → va_P D gcl (wX cB cC cI cJ u ++ wM cB cC cI cJ v) H → va_D (fun q : Nat => s.heap.size ≤ q) (wX cB cC cI cJ u ++ wM cB cC cI cJ v) → va_S (fun q : Nat => s.heap.size ≤ q) s.heap H locs → lv_has ls 4 [(3, .int i), (2, .ref o2), (1, .ref o1), (0, .ref b)] → W p l e room_1 s m #[Value.ref b] below meth c H locs 126 15724 (lw_Z below #[Value.ref b] s) (F0 m 1519 ls [])) : W p l e room_1 s m #[Value.ref b] below meth c H locs 126 15724 (lw_Z below #[Value.ref b] s) (F0 m 741 ls []) := by
  subst hu0
  subst hv0
  have hlen := heq.1.1
  have hreg := heq.2.1
  obtain ⟨hx, hb, hr, hml, hown, hts0, hX, hbl, hlocks, hgv⟩ := id C0
  have hts := g_tbl hts0
  have hbA : ¬ (fun q : Nat => s.heap.size ≤ q) b := Nat.not_le.mpr hbl
  refine lv_aload_n (pc := 741) hx hb dL_law_741 rfl (lv_at hl 2 rfl) ?_
  refine cc_742 C0 hK hF u hfX hl  hP hD hS (fun r_1 w_2 H locs hf_3 ho_4 he_5 he_6 he_7 he_8 he_9 hP hD hS => ?_)
  have rr_1 := n_rngL r_1
  refine lv_pop2_2 (pc := 745) hx hb dL_law_745 rfl ?_
  refine lv_aload_n (pc := 746) hx hb dL_law_746 rfl (lv_at hl 1 rfl) ?_
  have hP : va_P D gcl (wM cB cC cI cJ v ++ wX cB cC cI cJ w_2) H := va_P.swap (a := []) (b := wX cB cC cI cJ w_2) (c := wM cB cC cI cJ v) hP
  have hD : va_D (fun q : Nat => s.heap.size ≤ q) (wM cB cC cI cJ v ++ wX cB cC cI cJ w_2) := va_D.swap (a := []) (b := wX cB cC cI cJ w_2) (c := wM cB cC cI cJ v) hD
  refine cc_747 C0 hK hF v hfM hl  hP hD hS (fun r_10 w_11 H locs hf_12 ho_13 he_14 he_15 he_16 he_17 he_18 hP hD hS => ?_)
  have rr_10 := n_rngL r_10
  refine lv_pop2_2 (pc := 750) hx hb dL_law_750 rfl ?_
  refine lv_goto (pc := 751) (tgt := 1519) hx hb dL_law_751 (by decide) ?_
  exact kk w_2 w_11 H locs ls hf_3 hf_12 ⟨te_cut heq.1 he_6 he_15 (by omega) (by omega), by omega, plE_keep heq.2.2 he_8 he_17 (by omega) (by omega) (by omega)⟩ ho_4 ho_13 (va_P.swap (a := []) (b := wM cB cC cI cJ w_11) (c := wX cB cC cI cJ w_2) hP) (va_D.swap (a := []) (b := wM cB cC cI cJ w_11) (c := wX cB cC cI cJ w_2) hD) hS hl
