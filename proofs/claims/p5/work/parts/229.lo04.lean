set_option maxHeartbeats 8000000 in
set_option maxRecDepth 100000 in
theorem lo_40 {p : Program} {l : Launch} {e : Env} {s : State} {m : MethodId} {below : List Frame} {meth : Method} {c : Code} {D : va_G} {cB cC cI cJ : ClassId} {b L : Nat} {xs : Nat → Int32} {adK adV : Nat → Nat} (C0 : lw_At p s m meth c b L xs) (hLN : L ≤ 3072) (hK : va_K D gcl [(cB, .byte), (cC, .char), (cI, .int), (cJ, .long)] s) (hF : sF adK adV (fun q : Nat => s.heap.size ≤ q) s s.heap) (o1 o2 : Nat) (i : Int32) (hi0 : 0 ≤ i.toInt) (hi1 : i.toInt + 6 ≤ (L : Int)) (u v : gEx) (hfX : fX u) (hfM : fM v) (heq : tEq (u.2.1 4) (u.2.2.2.1 7).toInt (v.2.1 0) (v.2.2.2.1 0).toInt ∧ ((u.2.2.2.1 5).toInt = (v.2.2.2.1 6).toInt ∧ (u.2.2.2.1 6).toInt = (v.2.2.2.1 7).toInt ∧ (u.2.2.2.1 15).toInt = (v.2.2.2.1 8).toInt ∧ (u.2.2.2.1 16).toInt = (v.2.2.2.1 9).toInt ∧ (u.2.2.2.1 17).toInt = (v.2.2.2.1 10).toInt ∧ (u.2.2.2.1 18).toInt = (v.2.2.2.1 11).toInt ∧ (u.2.2.2.1 19).toInt = (v.2.2.2.1 12).toInt)) (hu0 : u.1 0 = o1) (hv0 : v.1 0 = o2) (H : Heap) (locs : List Loc) (ls : Array Slot) (hP : va_P D gcl (wX cB cC cI cJ u ++ wM cB cC cI cJ v) H) (hD : va_D (fun q : Nat => s.heap.size ≤ q) (wX cB cC cI cJ u ++ wM cB cC cI cJ v)) (hS : va_S (fun q : Nat => s.heap.size ≤ q) s.heap H locs) (hl : lv_has ls 4 [(3, .int i), (2, .ref o2), (1, .ref o1), (0, .ref b)])
    (kk : ∀ (u v : gEx) (H : Heap) (locs : List Loc) (ls : Array Slot), fX u → fM v → tEq (u.2.1 4) (u.2.2.2.1 7).toInt (v.2.1 0) (v.2.2.2.1 0).toInt ∧ ((u.2.2.2.1 5).toInt = (v.2.2.2.1 6).toInt ∧ (u.2.2.2.1 6).toInt = (v.2.2.2.1 7).toInt ∧ (u.2.2.2.1 15).toInt = (v.2.2.2.1 8).toInt ∧ (u.2.2.2.1 16).toInt = (v.2.2.2.1 9).toInt ∧ (u.2.2.2.1 17).toInt = (v.2.2.2.1 10).toInt ∧ (u.2.2.2.1 18).toInt = (v.2.2.2.1 11).toInt ∧ (u.2.2.2.1 19).toInt = (v.2.2.2.1 12).toInt) → u.1 0 = o1 → v.1 0 = o2 → va_P D gcl (wX cB cC cI cJ u ++ wM cB cC cI cJ v) H → va_D (fun q : Nat => s.heap.size ≤ q) (wX cB cC cI cJ u ++ wM cB cC cI cJ v) → va_S (fun q : Nat => s.heap.size ≤ q) s.heap H locs → lv_has ls 4 [(3, .int i), (2, .ref o2), (1, .ref o1), (0, .ref b)] → W p l e room_1 s m #[Value.ref b] below meth c H locs 126 15724 (lw_Z below #[Value.ref b] s) (F0 m 1519 ls [])) : W p l e room_1 s m #[Value.ref b] below meth c H locs 126 15724 (lw_Z below #[Value.ref b] s) (F0 m 1384 ls []) := by
  subst hu0
  subst hv0
  have hlen := heq.1.1
  have hreg := heq.2
  obtain ⟨hx, hb, hr, hml, hown, hts0, hX, hbl, hlocks, hgv⟩ := id C0
  have hts := g_tbl hts0
  have hbA : ¬ (fun q : Nat => s.heap.size ≤ q) b := Nat.not_le.mpr hbl
  refine lv_aload_n (pc := 1384) hx hb dL_law_1384 rfl (lv_at hl 2 rfl) ?_
  refine lv_aload_n (pc := 1385) hx hb dL_law_1385 rfl (lv_at hl 3 rfl) ?_
  refine lv_iload_n (pc := 1386) hx hb dL_law_1386 rfl (lv_at hl 0 rfl) ?_
  refine lv_iconst (pc := 1387) (v := 1) hx hb dL_law_1387 (by decide) ?_
  refine b_iadd (pc := 1388) hx hb rfl tI_1 (by omega) (by omega) dL_law_1388 (fun x_1 ex_1 => ?_)
  refine va_sld (pc := 1389) hx hb hX hbl hbA hS (n_in rfl (by omega) (by omega)) dL_law_1389 ?_
  refine lv_topi (fun x_2 ex_2 => ?_)
  have rx_2 := n_rng x_2
  have tx_2 := congrArg Int32.toInt (e_ld (f := xs) (show x_2 = xs (x_1.toInt).toNat from ex_2) (show x_1.toInt = (i.toInt) + (1) by omega))
  refine cc_1390 C0 hK hF u hfX hl x_2 hP hD hS (fun r_3 w_4 H locs hf_5 ho_6 he_7 he_8 he_9 hP hD hS => ?_)
  have rr_3 := n_rng r_3
  refine lv_pop (pc := 1393) hx hb dL_law_1393 rfl ?_
  refine lv_aload_n (pc := 1394) hx hb dL_law_1394 rfl (lv_at hl 1 rfl) ?_
  refine lv_aload_n (pc := 1395) hx hb dL_law_1395 rfl (lv_at hl 3 rfl) ?_
  refine lv_iload_n (pc := 1396) hx hb dL_law_1396 rfl (lv_at hl 0 rfl) ?_
  refine lv_iconst (pc := 1397) (v := 1) hx hb dL_law_1397 (by decide) ?_
  refine b_iadd (pc := 1398) hx hb rfl tI_1 (by omega) (by omega) dL_law_1398 (fun x_10 ex_10 => ?_)
  refine va_sld (pc := 1399) hx hb hX hbl hbA hS (n_in rfl (by omega) (by omega)) dL_law_1399 ?_
  refine lv_topi (fun x_11 ex_11 => ?_)
  have rx_11 := n_rng x_11
  have tx_11 := congrArg Int32.toInt (e_ld (f := xs) (show x_11 = xs (x_10.toInt).toNat from ex_11) (show x_10.toInt = (i.toInt) + (1) by omega))
  have hP : va_P D gcl (wM cB cC cI cJ v ++ wX cB cC cI cJ w_4) H := va_P.swap (a := []) (b := wX cB cC cI cJ w_4) (c := wM cB cC cI cJ v) hP
  have hD : va_D (fun q : Nat => s.heap.size ≤ q) (wM cB cC cI cJ v ++ wX cB cC cI cJ w_4) := va_D.swap (a := []) (b := wX cB cC cI cJ w_4) (c := wM cB cC cI cJ v) hD
  refine cc_1400 C0 hK hF v hfM hl x_11 hP hD hS (fun r_12 w_13 H locs hf_14 ho_15 he_16 he_17 he_18 hP hD hS => ?_)
  have rr_12 := n_rng r_12
  refine lv_pop (pc := 1403) hx hb dL_law_1403 rfl ?_
  refine lv_goto (pc := 1404) (tgt := 1519) hx hb dL_law_1404 (by decide) ?_
  exact kk w_4 w_13 H locs ls hf_5 hf_14 ⟨te_cut heq.1 he_8 he_17 (by omega) (by omega), by omega⟩ ho_6 ho_15 (va_P.swap (a := []) (b := wM cB cC cI cJ w_13) (c := wX cB cC cI cJ w_4) hP) (va_D.swap (a := []) (b := wM cB cC cI cJ w_13) (c := wX cB cC cI cJ w_4) hD) hS hl
set_option maxHeartbeats 8000000 in
set_option maxRecDepth 100000 in
theorem lo_41 {p : Program} {l : Launch} {e : Env} {s : State} {m : MethodId} {below : List Frame} {meth : Method} {c : Code} {D : va_G} {cB cC cI cJ : ClassId} {b L : Nat} {xs : Nat → Int32} {adK adV : Nat → Nat} (C0 : lw_At p s m meth c b L xs) (hLN : L ≤ 3072) (hK : va_K D gcl [(cB, .byte), (cC, .char), (cI, .int), (cJ, .long)] s) (hF : sF adK adV (fun q : Nat => s.heap.size ≤ q) s s.heap) (o1 o2 : Nat) (i : Int32) (hi0 : 0 ≤ i.toInt) (hi1 : i.toInt + 6 ≤ (L : Int)) (u v : gEx) (hfX : fX u) (hfM : fM v) (heq : tEq (u.2.1 4) (u.2.2.2.1 7).toInt (v.2.1 0) (v.2.2.2.1 0).toInt ∧ ((u.2.2.2.1 5).toInt = (v.2.2.2.1 6).toInt ∧ (u.2.2.2.1 6).toInt = (v.2.2.2.1 7).toInt ∧ (u.2.2.2.1 15).toInt = (v.2.2.2.1 8).toInt ∧ (u.2.2.2.1 16).toInt = (v.2.2.2.1 9).toInt ∧ (u.2.2.2.1 17).toInt = (v.2.2.2.1 10).toInt ∧ (u.2.2.2.1 18).toInt = (v.2.2.2.1 11).toInt ∧ (u.2.2.2.1 19).toInt = (v.2.2.2.1 12).toInt)) (hu0 : u.1 0 = o1) (hv0 : v.1 0 = o2) (H : Heap) (locs : List Loc) (ls : Array Slot) (hP : va_P D gcl (wX cB cC cI cJ u ++ wM cB cC cI cJ v) H) (hD : va_D (fun q : Nat => s.heap.size ≤ q) (wX cB cC cI cJ u ++ wM cB cC cI cJ v)) (hS : va_S (fun q : Nat => s.heap.size ≤ q) s.heap H locs) (hl : lv_has ls 4 [(3, .int i), (2, .ref o2), (1, .ref o1), (0, .ref b)])
    (kk : ∀ (u v : gEx) (H : Heap) (locs : List Loc) (ls : Array Slot), fX u → fM v → tEq (u.2.1 4) (u.2.2.2.1 7).toInt (v.2.1 0) (v.2.2.2.1 0).toInt ∧ ((u.2.2.2.1 5).toInt = (v.2.2.2.1 6).toInt ∧ (u.2.2.2.1 6).toInt = (v.2.2.2.1 7).toInt ∧ (u.2.2.2.1 15).toInt = (v.2.2.2.1 8).toInt ∧ (u.2.2.2.1 16).toInt = (v.2.2.2.1 9).toInt ∧ (u.2.2.2.1 17).toInt = (v.2.2.2.1 10).toInt ∧ (u.2.2.2.1 18).toInt = (v.2.2.2.1 11).toInt ∧ (u.2.2.2.1 19).toInt = (v.2.2.2.1 12).toInt) → u.1 0 = o1 → v.1 0 = o2 → va_P D gcl (wX cB cC cI cJ u ++ wM cB cC cI cJ v) H → va_D (fun q : Nat => s.heap.size ≤ q) (wX cB cC cI cJ u ++ wM cB cC cI cJ v) → va_S (fun q : Nat => s.heap.size ≤ q) s.heap H locs → lv_has ls 4 [(3, .int i), (2, .ref o2), (1, .ref o1), (0, .ref b)] → W p l e room_1 s m #[Value.ref b] below meth c H locs 126 15724 (lw_Z below #[Value.ref b] s) (F0 m 1519 ls [])) : W p l e room_1 s m #[Value.ref b] below meth c H locs 126 15724 (lw_Z below #[Value.ref b] s) (F0 m 1407 ls []) := by
  subst hu0
  subst hv0
  have hlen := heq.1.1
  have hreg := heq.2
  obtain ⟨hx, hb, hr, hml, hown, hts0, hX, hbl, hlocks, hgv⟩ := id C0
  have hts := g_tbl hts0
  have hbA : ¬ (fun q : Nat => s.heap.size ≤ q) b := Nat.not_le.mpr hbl
  refine lv_aload_n (pc := 1407) hx hb dL_law_1407 rfl (lv_at hl 2 rfl) ?_
  refine lv_aload_n (pc := 1408) hx hb dL_law_1408 rfl (lv_at hl 3 rfl) ?_
  refine lv_iload_n (pc := 1409) hx hb dL_law_1409 rfl (lv_at hl 0 rfl) ?_
  refine lv_iconst (pc := 1410) (v := 1) hx hb dL_law_1410 (by decide) ?_
  refine b_iadd (pc := 1411) hx hb rfl tI_1 (by omega) (by omega) dL_law_1411 (fun x_1 ex_1 => ?_)
  refine va_sld (pc := 1412) hx hb hX hbl hbA hS (n_in rfl (by omega) (by omega)) dL_law_1412 ?_
  refine lv_topi (fun x_2 ex_2 => ?_)
  have rx_2 := n_rng x_2
  have tx_2 := congrArg Int32.toInt (e_ld (f := xs) (show x_2 = xs (x_1.toInt).toNat from ex_2) (show x_1.toInt = (i.toInt) + (1) by omega))
  refine lv_aload_n (pc := 1413) hx hb dL_law_1413 rfl (lv_at hl 3 rfl) ?_
  refine lv_iload_n (pc := 1414) hx hb dL_law_1414 rfl (lv_at hl 0 rfl) ?_
  refine lv_iconst (pc := 1415) (v := 2) hx hb dL_law_1415 (by decide) ?_
  refine b_iadd (pc := 1416) hx hb rfl tI_2 (by omega) (by omega) dL_law_1416 (fun x_3 ex_3 => ?_)
  refine va_sld (pc := 1417) hx hb hX hbl hbA hS (n_in rfl (by omega) (by omega)) dL_law_1417 ?_
  refine lv_topi (fun x_4 ex_4 => ?_)
  have rx_4 := n_rng x_4
  have tx_4 := congrArg Int32.toInt (e_ld (f := xs) (show x_4 = xs (x_3.toInt).toNat from ex_4) (show x_3.toInt = (i.toInt) + (2) by omega))
  refine b_i2l (pc := 1418) hx hb rfl dL_law_1418 (fun y_5 ey_5 => ?_)
  have ry_5 := n_rng x_4
  refine lv_bipush (pc := 1419) (v := 32) hx hb dL_law_1419 (by decide) ?_
  refine lv_lshl (pc := 1421) hx hb dL_law_1421 rfl ?_
  refine lv_topl (fun y_6 _ => ?_)
  have ry_6 := n_rngL y_6
  refine lv_aload_n (pc := 1422) hx hb dL_law_1422 rfl (lv_at hl 3 rfl) ?_
  refine lv_iload_n (pc := 1423) hx hb dL_law_1423 rfl (lv_at hl 0 rfl) ?_
  refine lv_iconst (pc := 1424) (v := 3) hx hb dL_law_1424 (by decide) ?_
  refine b_iadd (pc := 1425) hx hb rfl tI_3 (by omega) (by omega) dL_law_1425 (fun x_7 ex_7 => ?_)
  refine va_sld (pc := 1426) hx hb hX hbl hbA hS (n_in rfl (by omega) (by omega)) dL_law_1426 ?_
  refine lv_topi (fun x_8 ex_8 => ?_)
  have rx_8 := n_rng x_8
  have tx_8 := congrArg Int32.toInt (e_ld (f := xs) (show x_8 = xs (x_7.toInt).toNat from ex_8) (show x_7.toInt = (i.toInt) + (3) by omega))
  refine b_i2l (pc := 1427) hx hb rfl dL_law_1427 (fun y_9 ey_9 => ?_)
  have ry_9 := n_rng x_8
  refine lv_ldc2 (pc := 1428) hx hb hown (hts _ tw_2109) dL_law_1428 ?_
  refine lv_land (pc := 1431) hx hb dL_law_1431 ?_
  refine lv_topl (fun y_10 _ => ?_)
  have ry_10 := n_rngL y_10
  refine lv_lor (pc := 1432) hx hb dL_law_1432 ?_
  refine lv_topl (fun y_11 _ => ?_)
  have ry_11 := n_rngL y_11
  refine cc_1433 C0 hK hF u hfX hl x_2 y_11 hP hD hS (fun r_12 w_13 H locs hf_14 ho_15 he_16 he_17 he_18 hP hD hS => ?_)
  have rr_12 := n_rng r_12
  refine lv_pop (pc := 1436) hx hb dL_law_1436 rfl ?_
  refine lv_aload_n (pc := 1437) hx hb dL_law_1437 rfl (lv_at hl 1 rfl) ?_
  refine lv_aload_n (pc := 1438) hx hb dL_law_1438 rfl (lv_at hl 3 rfl) ?_
  refine lv_iload_n (pc := 1439) hx hb dL_law_1439 rfl (lv_at hl 0 rfl) ?_
  refine lv_iconst (pc := 1440) (v := 1) hx hb dL_law_1440 (by decide) ?_
  refine b_iadd (pc := 1441) hx hb rfl tI_1 (by omega) (by omega) dL_law_1441 (fun x_19 ex_19 => ?_)
  refine va_sld (pc := 1442) hx hb hX hbl hbA hS (n_in rfl (by omega) (by omega)) dL_law_1442 ?_
  refine lv_topi (fun x_20 ex_20 => ?_)
  have rx_20 := n_rng x_20
  have tx_20 := congrArg Int32.toInt (e_ld (f := xs) (show x_20 = xs (x_19.toInt).toNat from ex_20) (show x_19.toInt = (i.toInt) + (1) by omega))
  refine lv_aload_n (pc := 1443) hx hb dL_law_1443 rfl (lv_at hl 3 rfl) ?_
  refine lv_iload_n (pc := 1444) hx hb dL_law_1444 rfl (lv_at hl 0 rfl) ?_
  refine lv_iconst (pc := 1445) (v := 2) hx hb dL_law_1445 (by decide) ?_
  refine b_iadd (pc := 1446) hx hb rfl tI_2 (by omega) (by omega) dL_law_1446 (fun x_21 ex_21 => ?_)
  refine va_sld (pc := 1447) hx hb hX hbl hbA hS (n_in rfl (by omega) (by omega)) dL_law_1447 ?_
  refine lv_topi (fun x_22 ex_22 => ?_)
  have rx_22 := n_rng x_22
  have tx_22 := congrArg Int32.toInt (e_ld (f := xs) (show x_22 = xs (x_21.toInt).toNat from ex_22) (show x_21.toInt = (i.toInt) + (2) by omega))
  refine b_i2l (pc := 1448) hx hb rfl dL_law_1448 (fun y_23 ey_23 => ?_)
  have ry_23 := n_rng x_22
  refine lv_bipush (pc := 1449) (v := 32) hx hb dL_law_1449 (by decide) ?_
  refine lv_lshl (pc := 1451) hx hb dL_law_1451 rfl ?_
  refine lv_topl (fun y_24 _ => ?_)
  have ry_24 := n_rngL y_24
  refine lv_aload_n (pc := 1452) hx hb dL_law_1452 rfl (lv_at hl 3 rfl) ?_
  refine lv_iload_n (pc := 1453) hx hb dL_law_1453 rfl (lv_at hl 0 rfl) ?_
  refine lv_iconst (pc := 1454) (v := 3) hx hb dL_law_1454 (by decide) ?_
  refine b_iadd (pc := 1455) hx hb rfl tI_3 (by omega) (by omega) dL_law_1455 (fun x_25 ex_25 => ?_)
  refine va_sld (pc := 1456) hx hb hX hbl hbA hS (n_in rfl (by omega) (by omega)) dL_law_1456 ?_
  refine lv_topi (fun x_26 ex_26 => ?_)
  have rx_26 := n_rng x_26
  have tx_26 := congrArg Int32.toInt (e_ld (f := xs) (show x_26 = xs (x_25.toInt).toNat from ex_26) (show x_25.toInt = (i.toInt) + (3) by omega))
  refine b_i2l (pc := 1457) hx hb rfl dL_law_1457 (fun y_27 ey_27 => ?_)
  have ry_27 := n_rng x_26
  refine lv_ldc2 (pc := 1458) hx hb hown (hts _ tw_2109) dL_law_1458 ?_
  refine lv_land (pc := 1461) hx hb dL_law_1461 ?_
  refine lv_topl (fun y_28 _ => ?_)
  have ry_28 := n_rngL y_28
  refine lv_lor (pc := 1462) hx hb dL_law_1462 ?_
  refine lv_topl (fun y_29 _ => ?_)
  have ry_29 := n_rngL y_29
  have hP : va_P D gcl (wM cB cC cI cJ v ++ wX cB cC cI cJ w_13) H := va_P.swap (a := []) (b := wX cB cC cI cJ w_13) (c := wM cB cC cI cJ v) hP
  have hD : va_D (fun q : Nat => s.heap.size ≤ q) (wM cB cC cI cJ v ++ wX cB cC cI cJ w_13) := va_D.swap (a := []) (b := wX cB cC cI cJ w_13) (c := wM cB cC cI cJ v) hD
  refine cc_1463 C0 hK hF v hfM hl x_20 y_29 hP hD hS (fun r_30 w_31 H locs hf_32 ho_33 he_34 he_35 he_36 hP hD hS => ?_)
  have rr_30 := n_rng r_30
  refine lv_pop (pc := 1466) hx hb dL_law_1466 rfl ?_
  refine lv_goto (pc := 1467) (tgt := 1519) hx hb dL_law_1467 (by decide) ?_
  exact kk w_13 w_31 H locs ls hf_14 hf_32 ⟨te_cut heq.1 he_17 he_35 (by omega) (by omega), by omega⟩ ho_15 ho_33 (va_P.swap (a := []) (b := wM cB cC cI cJ w_31) (c := wX cB cC cI cJ w_13) hP) (va_D.swap (a := []) (b := wM cB cC cI cJ w_31) (c := wX cB cC cI cJ w_13) hD) hS hl
set_option maxHeartbeats 8000000 in
set_option maxRecDepth 100000 in
theorem lo_42 {p : Program} {l : Launch} {e : Env} {s : State} {m : MethodId} {below : List Frame} {meth : Method} {c : Code} {D : va_G} {cB cC cI cJ : ClassId} {b L : Nat} {xs : Nat → Int32} {adK adV : Nat → Nat} (C0 : lw_At p s m meth c b L xs) (hLN : L ≤ 3072) (hK : va_K D gcl [(cB, .byte), (cC, .char), (cI, .int), (cJ, .long)] s) (hF : sF adK adV (fun q : Nat => s.heap.size ≤ q) s s.heap) (o1 o2 : Nat) (i : Int32) (hi0 : 0 ≤ i.toInt) (hi1 : i.toInt + 6 ≤ (L : Int)) (u v : gEx) (hfX : fX u) (hfM : fM v) (heq : tEq (u.2.1 4) (u.2.2.2.1 7).toInt (v.2.1 0) (v.2.2.2.1 0).toInt ∧ ((u.2.2.2.1 5).toInt = (v.2.2.2.1 6).toInt ∧ (u.2.2.2.1 6).toInt = (v.2.2.2.1 7).toInt ∧ (u.2.2.2.1 15).toInt = (v.2.2.2.1 8).toInt ∧ (u.2.2.2.1 16).toInt = (v.2.2.2.1 9).toInt ∧ (u.2.2.2.1 17).toInt = (v.2.2.2.1 10).toInt ∧ (u.2.2.2.1 18).toInt = (v.2.2.2.1 11).toInt ∧ (u.2.2.2.1 19).toInt = (v.2.2.2.1 12).toInt)) (hu0 : u.1 0 = o1) (hv0 : v.1 0 = o2) (H : Heap) (locs : List Loc) (ls : Array Slot) (hP : va_P D gcl (wX cB cC cI cJ u ++ wM cB cC cI cJ v) H) (hD : va_D (fun q : Nat => s.heap.size ≤ q) (wX cB cC cI cJ u ++ wM cB cC cI cJ v)) (hS : va_S (fun q : Nat => s.heap.size ≤ q) s.heap H locs) (hl : lv_has ls 4 [(3, .int i), (2, .ref o2), (1, .ref o1), (0, .ref b)])
    (kk : ∀ (u v : gEx) (H : Heap) (locs : List Loc) (ls : Array Slot), fX u → fM v → tEq (u.2.1 4) (u.2.2.2.1 7).toInt (v.2.1 0) (v.2.2.2.1 0).toInt ∧ ((u.2.2.2.1 5).toInt = (v.2.2.2.1 6).toInt ∧ (u.2.2.2.1 6).toInt = (v.2.2.2.1 7).toInt ∧ (u.2.2.2.1 15).toInt = (v.2.2.2.1 8).toInt ∧ (u.2.2.2.1 16).toInt = (v.2.2.2.1 9).toInt ∧ (u.2.2.2.1 17).toInt = (v.2.2.2.1 10).toInt ∧ (u.2.2.2.1 18).toInt = (v.2.2.2.1 11).toInt ∧ (u.2.2.2.1 19).toInt = (v.2.2.2.1 12).toInt) → u.1 0 = o1 → v.1 0 = o2 → va_P D gcl (wX cB cC cI cJ u ++ wM cB cC cI cJ v) H → va_D (fun q : Nat => s.heap.size ≤ q) (wX cB cC cI cJ u ++ wM cB cC cI cJ v) → va_S (fun q : Nat => s.heap.size ≤ q) s.heap H locs → lv_has ls 4 [(3, .int i), (2, .ref o2), (1, .ref o1), (0, .ref b)] → W p l e room_1 s m #[Value.ref b] below meth c H locs 126 15724 (lw_Z below #[Value.ref b] s) (F0 m 1519 ls [])) : W p l e room_1 s m #[Value.ref b] below meth c H locs 126 15724 (lw_Z below #[Value.ref b] s) (F0 m 1470 ls []) := by
  subst hu0
  subst hv0
  have hlen := heq.1.1
  have hreg := heq.2
  obtain ⟨hx, hb, hr, hml, hown, hts0, hX, hbl, hlocks, hgv⟩ := id C0
  have hts := g_tbl hts0
  have hbA : ¬ (fun q : Nat => s.heap.size ≤ q) b := Nat.not_le.mpr hbl
  refine lv_aload_n (pc := 1470) hx hb dL_law_1470 rfl (lv_at hl 2 rfl) ?_
  refine cc_1471 C0 hK hF u hfX hl  hP hD hS (fun r_1 w_2 H locs hf_3 ho_4 he_5 he_6 he_7 hP hD hS => ?_)
  have rr_1 := n_rng r_1
  refine lv_pop (pc := 1474) hx hb dL_law_1474 rfl ?_
  refine lv_aload_n (pc := 1475) hx hb dL_law_1475 rfl (lv_at hl 1 rfl) ?_
  have hP : va_P D gcl (wM cB cC cI cJ v ++ wX cB cC cI cJ w_2) H := va_P.swap (a := []) (b := wX cB cC cI cJ w_2) (c := wM cB cC cI cJ v) hP
  have hD : va_D (fun q : Nat => s.heap.size ≤ q) (wM cB cC cI cJ v ++ wX cB cC cI cJ w_2) := va_D.swap (a := []) (b := wX cB cC cI cJ w_2) (c := wM cB cC cI cJ v) hD
  refine cc_1476 C0 hK hF v hfM hl  hP hD hS (fun r_8 w_9 H locs hf_10 ho_11 he_12 he_13 he_14 hP hD hS => ?_)
  have rr_8 := n_rng r_8
  refine lv_pop (pc := 1479) hx hb dL_law_1479 rfl ?_
  refine lv_goto (pc := 1480) (tgt := 1519) hx hb dL_law_1480 (by decide) ?_
  exact kk w_2 w_9 H locs ls hf_3 hf_10 ⟨te_cut heq.1 he_6 he_13 (by omega) (by omega), by omega⟩ ho_4 ho_11 (va_P.swap (a := []) (b := wM cB cC cI cJ w_9) (c := wX cB cC cI cJ w_2) hP) (va_D.swap (a := []) (b := wM cB cC cI cJ w_9) (c := wX cB cC cI cJ w_2) hD) hS hl
set_option maxHeartbeats 8000000 in
set_option maxRecDepth 100000 in
theorem lo_43 {p : Program} {l : Launch} {e : Env} {s : State} {m : MethodId} {below : List Frame} {meth : Method} {c : Code} {D : va_G} {cB cC cI cJ : ClassId} {b L : Nat} {xs : Nat → Int32} {adK adV : Nat → Nat} (C0 : lw_At p s m meth c b L xs) (hLN : L ≤ 3072) (hK : va_K D gcl [(cB, .byte), (cC, .char), (cI, .int), (cJ, .long)] s) (hF : sF adK adV (fun q : Nat => s.heap.size ≤ q) s s.heap) (o1 o2 : Nat) (i : Int32) (hi0 : 0 ≤ i.toInt) (hi1 : i.toInt + 6 ≤ (L : Int)) (u v : gEx) (hfX : fX u) (hfM : fM v) (heq : tEq (u.2.1 4) (u.2.2.2.1 7).toInt (v.2.1 0) (v.2.2.2.1 0).toInt ∧ ((u.2.2.2.1 5).toInt = (v.2.2.2.1 6).toInt ∧ (u.2.2.2.1 6).toInt = (v.2.2.2.1 7).toInt ∧ (u.2.2.2.1 15).toInt = (v.2.2.2.1 8).toInt ∧ (u.2.2.2.1 16).toInt = (v.2.2.2.1 9).toInt ∧ (u.2.2.2.1 17).toInt = (v.2.2.2.1 10).toInt ∧ (u.2.2.2.1 18).toInt = (v.2.2.2.1 11).toInt ∧ (u.2.2.2.1 19).toInt = (v.2.2.2.1 12).toInt)) (hu0 : u.1 0 = o1) (hv0 : v.1 0 = o2) (H : Heap) (locs : List Loc) (ls : Array Slot) (hP : va_P D gcl (wX cB cC cI cJ u ++ wM cB cC cI cJ v) H) (hD : va_D (fun q : Nat => s.heap.size ≤ q) (wX cB cC cI cJ u ++ wM cB cC cI cJ v)) (hS : va_S (fun q : Nat => s.heap.size ≤ q) s.heap H locs) (hl : lv_has ls 4 [(3, .int i), (2, .ref o2), (1, .ref o1), (0, .ref b)])
    (kk : ∀ (u v : gEx) (H : Heap) (locs : List Loc) (ls : Array Slot), fX u → fM v → tEq (u.2.1 4) (u.2.2.2.1 7).toInt (v.2.1 0) (v.2.2.2.1 0).toInt ∧ ((u.2.2.2.1 5).toInt = (v.2.2.2.1 6).toInt ∧ (u.2.2.2.1 6).toInt = (v.2.2.2.1 7).toInt ∧ (u.2.2.2.1 15).toInt = (v.2.2.2.1 8).toInt ∧ (u.2.2.2.1 16).toInt = (v.2.2.2.1 9).toInt ∧ (u.2.2.2.1 17).toInt = (v.2.2.2.1 10).toInt ∧ (u.2.2.2.1 18).toInt = (v.2.2.2.1 11).toInt ∧ (u.2.2.2.1 19).toInt = (v.2.2.2.1 12).toInt) → u.1 0 = o1 → v.1 0 = o2 → va_P D gcl (wX cB cC cI cJ u ++ wM cB cC cI cJ v) H → va_D (fun q : Nat => s.heap.size ≤ q) (wX cB cC cI cJ u ++ wM cB cC cI cJ v) → va_S (fun q : Nat => s.heap.size ≤ q) s.heap H locs → lv_has ls 4 [(3, .int i), (2, .ref o2), (1, .ref o1), (0, .ref b)] → W p l e room_1 s m #[Value.ref b] below meth c H locs 126 15724 (lw_Z below #[Value.ref b] s) (F0 m 1519 ls [])) : W p l e room_1 s m #[Value.ref b] below meth c H locs 126 15724 (lw_Z below #[Value.ref b] s) (F0 m 1483 ls []) := by
  subst hu0
  subst hv0
  have hlen := heq.1.1
  have hreg := heq.2
  obtain ⟨hx, hb, hr, hml, hown, hts0, hX, hbl, hlocks, hgv⟩ := id C0
  have hts := g_tbl hts0
  have hbA : ¬ (fun q : Nat => s.heap.size ≤ q) b := Nat.not_le.mpr hbl
  refine lv_aload_n (pc := 1483) hx hb dL_law_1483 rfl (lv_at hl 2 rfl) ?_
  refine lv_aload_n (pc := 1484) hx hb dL_law_1484 rfl (lv_at hl 3 rfl) ?_
  refine lv_iload_n (pc := 1485) hx hb dL_law_1485 rfl (lv_at hl 0 rfl) ?_
  refine lv_iconst (pc := 1486) (v := 1) hx hb dL_law_1486 (by decide) ?_
  refine b_iadd (pc := 1487) hx hb rfl tI_1 (by omega) (by omega) dL_law_1487 (fun x_1 ex_1 => ?_)
  refine va_sld (pc := 1488) hx hb hX hbl hbA hS (n_in rfl (by omega) (by omega)) dL_law_1488 ?_
  refine lv_topi (fun x_2 ex_2 => ?_)
  have rx_2 := n_rng x_2
  have tx_2 := congrArg Int32.toInt (e_ld (f := xs) (show x_2 = xs (x_1.toInt).toNat from ex_2) (show x_1.toInt = (i.toInt) + (1) by omega))
  refine cc_1489 C0 hK hF u hfX hl x_2 hP hD hS (fun r_3 w_4 H locs hf_5 ho_6 he_7 he_8 he_9 hP hD hS => ?_)
  have rr_3 := n_rng r_3
  refine lv_pop (pc := 1492) hx hb dL_law_1492 rfl ?_
  refine lv_aload_n (pc := 1493) hx hb dL_law_1493 rfl (lv_at hl 1 rfl) ?_
  refine lv_aload_n (pc := 1494) hx hb dL_law_1494 rfl (lv_at hl 3 rfl) ?_
  refine lv_iload_n (pc := 1495) hx hb dL_law_1495 rfl (lv_at hl 0 rfl) ?_
  refine lv_iconst (pc := 1496) (v := 1) hx hb dL_law_1496 (by decide) ?_
  refine b_iadd (pc := 1497) hx hb rfl tI_1 (by omega) (by omega) dL_law_1497 (fun x_10 ex_10 => ?_)
  refine va_sld (pc := 1498) hx hb hX hbl hbA hS (n_in rfl (by omega) (by omega)) dL_law_1498 ?_
  refine lv_topi (fun x_11 ex_11 => ?_)
  have rx_11 := n_rng x_11
  have tx_11 := congrArg Int32.toInt (e_ld (f := xs) (show x_11 = xs (x_10.toInt).toNat from ex_11) (show x_10.toInt = (i.toInt) + (1) by omega))
  have hP : va_P D gcl (wM cB cC cI cJ v ++ wX cB cC cI cJ w_4) H := va_P.swap (a := []) (b := wX cB cC cI cJ w_4) (c := wM cB cC cI cJ v) hP
  have hD : va_D (fun q : Nat => s.heap.size ≤ q) (wM cB cC cI cJ v ++ wX cB cC cI cJ w_4) := va_D.swap (a := []) (b := wX cB cC cI cJ w_4) (c := wM cB cC cI cJ v) hD
  refine cc_1499 C0 hK hF v hfM hl x_11 hP hD hS (fun r_12 w_13 H locs hf_14 ho_15 he_16 he_17 he_18 hP hD hS => ?_)
  have rr_12 := n_rng r_12
  refine lv_pop (pc := 1502) hx hb dL_law_1502 rfl ?_
  refine lv_goto (pc := 1503) (tgt := 1519) hx hb dL_law_1503 (by decide) ?_
  exact kk w_4 w_13 H locs ls hf_5 hf_14 ⟨te_cut heq.1 he_8 he_17 (by omega) (by omega), by omega⟩ ho_6 ho_15 (va_P.swap (a := []) (b := wM cB cC cI cJ w_13) (c := wX cB cC cI cJ w_4) hP) (va_D.swap (a := []) (b := wM cB cC cI cJ w_13) (c := wX cB cC cI cJ w_4) hD) hS hl
set_option maxHeartbeats 8000000 in
set_option maxRecDepth 100000 in
theorem lo_44 {p : Program} {l : Launch} {e : Env} {s : State} {m : MethodId} {below : List Frame} {meth : Method} {c : Code} {D : va_G} {cB cC cI cJ : ClassId} {b L : Nat} {xs : Nat → Int32} {adK adV : Nat → Nat} (C0 : lw_At p s m meth c b L xs) (hLN : L ≤ 3072) (hK : va_K D gcl [(cB, .byte), (cC, .char), (cI, .int), (cJ, .long)] s) (hF : sF adK adV (fun q : Nat => s.heap.size ≤ q) s s.heap) (o1 o2 : Nat) (i : Int32) (hi0 : 0 ≤ i.toInt) (hi1 : i.toInt + 6 ≤ (L : Int)) (u v : gEx) (hfX : fX u) (hfM : fM v) (heq : tEq (u.2.1 4) (u.2.2.2.1 7).toInt (v.2.1 0) (v.2.2.2.1 0).toInt ∧ ((u.2.2.2.1 5).toInt = (v.2.2.2.1 6).toInt ∧ (u.2.2.2.1 6).toInt = (v.2.2.2.1 7).toInt ∧ (u.2.2.2.1 15).toInt = (v.2.2.2.1 8).toInt ∧ (u.2.2.2.1 16).toInt = (v.2.2.2.1 9).toInt ∧ (u.2.2.2.1 17).toInt = (v.2.2.2.1 10).toInt ∧ (u.2.2.2.1 18).toInt = (v.2.2.2.1 11).toInt ∧ (u.2.2.2.1 19).toInt = (v.2.2.2.1 12).toInt)) (hu0 : u.1 0 = o1) (hv0 : v.1 0 = o2) (H : Heap) (locs : List Loc) (ls : Array Slot) (hP : va_P D gcl (wX cB cC cI cJ u ++ wM cB cC cI cJ v) H) (hD : va_D (fun q : Nat => s.heap.size ≤ q) (wX cB cC cI cJ u ++ wM cB cC cI cJ v)) (hS : va_S (fun q : Nat => s.heap.size ≤ q) s.heap H locs) (hl : lv_has ls 4 [(3, .int i), (2, .ref o2), (1, .ref o1), (0, .ref b)])
    (kk : ∀ (u v : gEx) (H : Heap) (locs : List Loc) (ls : Array Slot), fX u → fM v → tEq (u.2.1 4) (u.2.2.2.1 7).toInt (v.2.1 0) (v.2.2.2.1 0).toInt ∧ ((u.2.2.2.1 5).toInt = (v.2.2.2.1 6).toInt ∧ (u.2.2.2.1 6).toInt = (v.2.2.2.1 7).toInt ∧ (u.2.2.2.1 15).toInt = (v.2.2.2.1 8).toInt ∧ (u.2.2.2.1 16).toInt = (v.2.2.2.1 9).toInt ∧ (u.2.2.2.1 17).toInt = (v.2.2.2.1 10).toInt ∧ (u.2.2.2.1 18).toInt = (v.2.2.2.1 11).toInt ∧ (u.2.2.2.1 19).toInt = (v.2.2.2.1 12).toInt) → u.1 0 = o1 → v.1 0 = o2 → va_P D gcl (wX cB cC cI cJ u ++ wM cB cC cI cJ v) H → va_D (fun q : Nat => s.heap.size ≤ q) (wX cB cC cI cJ u ++ wM cB cC cI cJ v) → va_S (fun q : Nat => s.heap.size ≤ q) s.heap H locs → lv_has ls 4 [(3, .int i), (2, .ref o2), (1, .ref o1), (0, .ref b)] → W p l e room_1 s m #[Value.ref b] below meth c H locs 126 15724 (lw_Z below #[Value.ref b] s) (F0 m 1519 ls [])) : W p l e room_1 s m #[Value.ref b] below meth c H locs 126 15724 (lw_Z below #[Value.ref b] s) (F0 m 1506 ls []) := by
  subst hu0
  subst hv0
  have hlen := heq.1.1
  have hreg := heq.2
  obtain ⟨hx, hb, hr, hml, hown, hts0, hX, hbl, hlocks, hgv⟩ := id C0
  have hts := g_tbl hts0
  have hbA : ¬ (fun q : Nat => s.heap.size ≤ q) b := Nat.not_le.mpr hbl
  refine lv_aload_n (pc := 1506) hx hb dL_law_1506 rfl (lv_at hl 2 rfl) ?_
  refine cc_1507 C0 hK hF u hfX hl  hP hD hS (fun r_1 w_2 H locs hf_3 ho_4 he_5 he_6 he_7 hP hD hS => ?_)
  have rr_1 := n_rng r_1
  refine lv_pop (pc := 1510) hx hb dL_law_1510 rfl ?_
  refine lv_aload_n (pc := 1511) hx hb dL_law_1511 rfl (lv_at hl 1 rfl) ?_
  have hP : va_P D gcl (wM cB cC cI cJ v ++ wX cB cC cI cJ w_2) H := va_P.swap (a := []) (b := wX cB cC cI cJ w_2) (c := wM cB cC cI cJ v) hP
  have hD : va_D (fun q : Nat => s.heap.size ≤ q) (wM cB cC cI cJ v ++ wX cB cC cI cJ w_2) := va_D.swap (a := []) (b := wX cB cC cI cJ w_2) (c := wM cB cC cI cJ v) hD
  refine cc_1512 C0 hK hF v hfM hl  hP hD hS (fun r_8 w_9 H locs hf_10 ho_11 he_12 he_13 he_14 hP hD hS => ?_)
  have rr_8 := n_rng r_8
  refine lv_pop (pc := 1515) hx hb dL_law_1515 rfl ?_
  refine lv_goto (pc := 1516) (tgt := 1519) hx hb dL_law_1516 (by decide) ?_
  exact kk w_2 w_9 H locs ls hf_3 hf_10 ⟨te_cut heq.1 he_6 he_13 (by omega) (by omega), by omega⟩ ho_4 ho_11 (va_P.swap (a := []) (b := wM cB cC cI cJ w_9) (c := wX cB cC cI cJ w_2) hP) (va_D.swap (a := []) (b := wM cB cC cI cJ w_9) (c := wX cB cC cI cJ w_2) hD) hS hl
