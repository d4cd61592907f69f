set_option maxHeartbeats 8000000 in
set_option maxRecDepth 100000 in
theorem law_loop {p : Program} {l : Launch} {e : Env} {s : State} {m : MethodId} {below : List Frame} {meth : Method} {c : Code} {D : va_G} {cB cC cI cJ : ClassId} {b L : Nat} {xs : Nat → Int32} {adK adV : Nat → Nat} (C0 : lw_At p s m meth c b L xs) (hLN : L ≤ 3072) (hK : va_K D gcl [(cB, .byte), (cC, .char), (cI, .int), (cJ, .long)] s) (hF : sF adK adV (fun q : Nat => s.heap.size ≤ q) s s.heap) (o1 o2 : Nat) : ∀ (n : Nat) (i : Int32) (u v : gEx) (H : Heap) (locs : List Loc) (ls : Array Slot), 0 ≤ i.toInt → i.toInt ≤ 3078 → fX u → fM v → tEq (u.2.1 4) (u.2.2.2.1 7).toInt (v.2.1 0) (v.2.2.2.1 0).toInt ∧ ((u.2.2.2.1 5).toInt = (v.2.2.2.1 6).toInt ∧ (u.2.2.2.1 6).toInt = (v.2.2.2.1 7).toInt ∧ (u.2.2.2.1 15).toInt = (v.2.2.2.1 8).toInt ∧ (u.2.2.2.1 16).toInt = (v.2.2.2.1 9).toInt ∧ (u.2.2.2.1 17).toInt = (v.2.2.2.1 10).toInt ∧ (u.2.2.2.1 18).toInt = (v.2.2.2.1 11).toInt ∧ (u.2.2.2.1 19).toInt = (v.2.2.2.1 12).toInt ∧ (u.2.2.2.1 43).toInt = ((v.2.1 21) 0).toInt ∧ (u.2.2.2.1 24).toInt = (v.2.2.2.1 21).toInt ∧ (u.2.2.2.1 25).toInt = (v.2.2.2.1 22).toInt ∧ (u.2.2.2.1 26).toInt = (v.2.2.2.1 20).toInt) ∧ plE (u.2.1 31) (u.2.1 15) (u.2.2.2.1 20).toInt (v.2.1 17) (v.2.1 18) (v.2.2.2.1 13).toInt (u.2.2.2.1 19).toInt (u.2.2.2.1 16).toInt (u.2.2.2.1 17).toInt → u.1 0 = o1 → v.1 0 = o2 → ((L : Int) + 7 - i.toInt).toNat < n → va_P D gcl (wX cB cC cI cJ u ++ wM cB cC cI cJ v) H → va_D (fun q : Nat => s.heap.size ≤ q) (wX cB cC cI cJ u ++ wM cB cC cI cJ v) → va_S (fun q : Nat => s.heap.size ≤ q) s.heap H locs → lv_has ls 4 [(3, .int i), (2, .ref o2), (1, .ref o1), (0, .ref b)] → W p l e room_1 s m #[Value.ref b] below meth c H locs 126 15724 (lw_Z below #[Value.ref b] s) (F0 m 18 ls []) := by
  intro n
  induction n with
  | zero => intro i u v H locs ls _ _ _ _ _ _ _ h; exact absurd h (Nat.not_lt_zero _)
  | succ n ih =>
    intro i u v H locs ls hi0 hi9 hfX hfM heq hu0 hv0 hmu hP hD hS hl
    obtain ⟨hx, hb, hr, hml, hown, hts0, hX, hbl, hlocks, hgv⟩ := id C0
    have hbA : ¬ (fun q : Nat => s.heap.size ≤ q) b := Nat.not_le.mpr hbl
    have hLi : (Int32.ofNat L).toInt = (L : Int) := by
      first
        | exact Int32.toInt_ofNat_of_lt (by omega)
        | (rw [Int32.toInt_ofNat']; exact Int.bmod_eq_of_le (by omega) (by omega))
    refine lv_iload_n (pc := 18) hx hb dL_law_18 rfl (lv_at hl 0 rfl) ?_
    refine lv_aload_n (pc := 19) hx hb dL_law_19 rfl (lv_at hl 3 rfl) ?_
    refine va_slen (pc := 20) hx hb hX hbl hbA hS dL_law_20 ?_
    refine lv_bipush (pc := 21) (v := 6) hx hb dL_law_21 (by decide) ?_
    refine b_isub (pc := 23) hx hb hLi tI_6 (by omega) (by omega) dL_law_23 (fun z ez => ?_)
    refine b_icmp_gt (pc := 24) (tgt := 1525) hx hb rfl rfl dL_law_24 (by decide) (fun c1 => ?_) (fun c1 => ?_)
    · refine lv_iconst (pc := 1525) (v := 1) hx hb dL_law_1525 (by decide) ?_
      refine va_forget (fun q hq => hS.2.2 q hq) ?_
      refine W.widen (k := 600000) (n := 7302250) (Nat.le_of_ble_eq_true rfl) (Nat.le_of_ble_eq_true rfl) ?_
      exact lw_ret hx hb hr hlocks dL_law_1526
    · have hi1 : i.toInt + 6 ≤ (L : Int) := by omega
      have kk : ∀ (u v : gEx) (H : Heap) (locs : List Loc) (ls : Array Slot), fX u → fM v → tEq (u.2.1 4) (u.2.2.2.1 7).toInt (v.2.1 0) (v.2.2.2.1 0).toInt ∧ ((u.2.2.2.1 5).toInt = (v.2.2.2.1 6).toInt ∧ (u.2.2.2.1 6).toInt = (v.2.2.2.1 7).toInt ∧ (u.2.2.2.1 15).toInt = (v.2.2.2.1 8).toInt ∧ (u.2.2.2.1 16).toInt = (v.2.2.2.1 9).toInt ∧ (u.2.2.2.1 17).toInt = (v.2.2.2.1 10).toInt ∧ (u.2.2.2.1 18).toInt = (v.2.2.2.1 11).toInt ∧ (u.2.2.2.1 19).toInt = (v.2.2.2.1 12).toInt ∧ (u.2.2.2.1 43).toInt = ((v.2.1 21) 0).toInt ∧ (u.2.2.2.1 24).toInt = (v.2.2.2.1 21).toInt ∧ (u.2.2.2.1 25).toInt = (v.2.2.2.1 22).toInt ∧ (u.2.2.2.1 26).toInt = (v.2.2.2.1 20).toInt) ∧ plE (u.2.1 31) (u.2.1 15) (u.2.2.2.1 20).toInt (v.2.1 17) (v.2.1 18) (v.2.2.2.1 13).toInt (u.2.2.2.1 19).toInt (u.2.2.2.1 16).toInt (u.2.2.2.1 17).toInt → u.1 0 = o1 → v.1 0 = o2 → va_P D gcl (wX cB cC cI cJ u ++ wM cB cC cI cJ v) H → va_D (fun q : Nat => s.heap.size ≤ q) (wX cB cC cI cJ u ++ wM cB cC cI cJ v) → va_S (fun q : Nat => s.heap.size ≤ q) s.heap H locs → lv_has ls 4 [(3, .int i), (2, .ref o2), (1, .ref o1), (0, .ref b)] → W p l e room_1 s m #[Value.ref b] below meth c H locs 126 15724 (lw_Z below #[Value.ref b] s) (F0 m 1519 ls []) := by
        intro u v H locs ls hfX hfM heq hu0 hv0 hP hD hS hl
        refine b_iinc (pc := 1519) hx hb dL_law_1519 hl (k := 0) rfl rfl tI_6 (by omega) (by omega) (by decide) (fun j ej ls hl => ?_)
        have hl : lv_has ls 4 [(3, .int j), (2, .ref o2), (1, .ref o1), (0, .ref b)] := hl
        refine lv_goto (pc := 1522) (tgt := 18) hx hb dL_law_1522 (by decide) ?_
        exact ih j u v H locs ls (by omega) (by omega) hfX hfM heq hu0 hv0 (by omega) hP hD hS hl
      refine lv_aload_n (pc := 27) hx hb dL_law_27 rfl (lv_at hl 3 rfl) ?_
      refine lv_iload_n (pc := 28) hx hb dL_law_28 rfl (lv_at hl 0 rfl) ?_
      refine va_sld (pc := 29) hx hb hX hbl hbA hS (n_in rfl (by omega) (by omega)) dL_law_29 ?_
      refine lv_bipush (pc := 30) (v := 63) hx hb dL_law_30 (by decide) ?_
      refine lv_iand (pc := 32) hx hb dL_law_32 ?_
      refine lv_topi (fun z2 ez2 => ?_)
      clear ez2
      by_cases h0 : z2 = 0
      · subst h0
        refine lv_tableIn (pc := 33) (off := 195) (tgt := 228) hx hb dL_law_33 (by decide +kernel) (by decide +kernel) (by decide +kernel) (by decide) ?_
        exact lo_0 C0 hLN hK hF o1 o2 i hi0 hi1 u v hfX hfM heq hu0 hv0 H locs ls hP hD hS hl kk
      by_cases h1 : z2 = 1
      · subst h1
        refine lv_tableIn (pc := 33) (off := 258) (tgt := 291) hx hb dL_law_33 (by decide +kernel) (by decide +kernel) (by decide +kernel) (by decide) ?_
        exact lo_1 C0 hLN hK hF o1 o2 i hi0 hi1 u v hfX hfM heq hu0 hv0 H locs ls hP hD hS hl kk
      by_cases h2 : z2 = 2
      · subst h2
        refine lv_tableIn (pc := 33) (off := 281) (tgt := 314) hx hb dL_law_33 (by decide +kernel) (by decide +kernel) (by decide +kernel) (by decide) ?_
        exact lo_2 C0 hLN hK hF o1 o2 i hi0 hi1 u v hfX hfM heq hu0 hv0 H locs ls hP hD hS hl kk
      by_cases h3 : z2 = 3
      · subst h3
        refine lv_tableIn (pc := 33) (off := 294) (tgt := 327) hx hb dL_law_33 (by decide +kernel) (by decide +kernel) (by decide +kernel) (by decide) ?_
        exact lo_3 C0 hLN hK hF o1 o2 i hi0 hi1 u v hfX hfM heq hu0 hv0 H locs ls hP hD hS hl kk
      by_cases h4 : z2 = 4
      · subst h4
        refine lv_tableIn (pc := 33) (off := 317) (tgt := 350) hx hb dL_law_33 (by decide +kernel) (by decide +kernel) (by decide +kernel) (by decide) ?_
        exact lo_4 C0 hLN hK hF o1 o2 i hi0 hi1 u v hfX hfM heq hu0 hv0 H locs ls hP hD hS hl kk
      by_cases h5 : z2 = 5
      · subst h5
        refine lv_tableIn (pc := 33) (off := 340) (tgt := 373) hx hb dL_law_33 (by decide +kernel) (by decide +kernel) (by decide +kernel) (by decide) ?_
        exact lo_5 C0 hLN hK hF o1 o2 i hi0 hi1 u v hfX hfM heq hu0 hv0 H locs ls hP hD hS hl kk
      by_cases h6 : z2 = 6
      · subst h6
        refine lv_tableIn (pc := 33) (off := 399) (tgt := 432) hx hb dL_law_33 (by decide +kernel) (by decide +kernel) (by decide +kernel) (by decide) ?_
        exact lo_6 C0 hLN hK hF o1 o2 i hi0 hi1 u v hfX hfM heq hu0 hv0 H locs ls hP hD hS hl kk
      by_cases h7 : z2 = 7
      · subst h7
        refine lv_tableIn (pc := 33) (off := 458) (tgt := 491) hx hb dL_law_33 (by decide +kernel) (by decide +kernel) (by decide +kernel) (by decide) ?_
        exact lo_7 C0 hLN hK hF o1 o2 i hi0 hi1 u v hfX hfM heq hu0 hv0 H locs ls hP hD hS hl kk
      by_cases h8 : z2 = 8
      · subst h8
        refine lv_tableIn (pc := 33) (off := 471) (tgt := 504) hx hb dL_law_33 (by decide +kernel) (by decide +kernel) (by decide +kernel) (by decide) ?_
        exact lo_8 C0 hLN hK hF o1 o2 i hi0 hi1 u v hfX hfM heq hu0 hv0 H locs ls hP hD hS hl kk
      by_cases h9 : z2 = 9
      · subst h9
        refine lv_tableIn (pc := 33) (off := 494) (tgt := 527) hx hb dL_law_33 (by decide +kernel) (by decide +kernel) (by decide +kernel) (by decide) ?_
        exact lo_9 C0 hLN hK hF o1 o2 i hi0 hi1 u v hfX hfM heq hu0 hv0 H locs ls hP hD hS hl kk
      by_cases h10 : z2 = 10
      · subst h10
        refine lv_tableIn (pc := 33) (off := 507) (tgt := 540) hx hb dL_law_33 (by decide +kernel) (by decide +kernel) (by decide +kernel) (by decide) ?_
        exact lo_10 C0 hLN hK hF o1 o2 i hi0 hi1 u v hfX hfM heq hu0 hv0 H locs ls hP hD hS hl kk
      by_cases h11 : z2 = 11
      · subst h11
        refine lv_tableIn (pc := 33) (off := 520) (tgt := 553) hx hb dL_law_33 (by decide +kernel) (by decide +kernel) (by decide +kernel) (by decide) ?_
        exact lo_11 C0 hLN hK hF o1 o2 i hi0 hi1 u v hfX hfM heq hu0 hv0 H locs ls hP hD hS hl kk
      by_cases h12 : z2 = 12
      · subst h12
        refine lv_tableIn (pc := 33) (off := 553) (tgt := 586) hx hb dL_law_33 (by decide +kernel) (by decide +kernel) (by decide +kernel) (by decide) ?_
        exact lo_12 C0 hLN hK hF o1 o2 i hi0 hi1 u v hfX hfM heq hu0 hv0 H locs ls hP hD hS hl kk
      by_cases h13 : z2 = 13
      · subst h13
        refine lv_tableIn (pc := 33) (off := 586) (tgt := 619) hx hb dL_law_33 (by decide +kernel) (by decide +kernel) (by decide +kernel) (by decide) ?_
        exact lo_13 C0 hLN hK hF o1 o2 i hi0 hi1 u v hfX hfM heq hu0 hv0 H locs ls hP hD hS hl kk
      by_cases h14 : z2 = 14
      · subst h14
        refine lv_tableIn (pc := 33) (off := 609) (tgt := 642) hx hb dL_law_33 (by decide +kernel) (by decide +kernel) (by decide +kernel) (by decide) ?_
        exact lo_14 C0 hLN hK hF o1 o2 i hi0 hi1 u v hfX hfM heq hu0 hv0 H locs ls hP hD hS hl kk
      by_cases h15 : z2 = 15
      · subst h15
        refine lv_tableIn (pc := 33) (off := 662) (tgt := 695) hx hb dL_law_33 (by decide +kernel) (by decide +kernel) (by decide +kernel) (by decide) ?_
        exact lo_15 C0 hLN hK hF o1 o2 i hi0 hi1 u v hfX hfM heq hu0 hv0 H locs ls hP hD hS hl kk
      by_cases h16 : z2 = 16
      · subst h16
        refine lv_tableIn (pc := 33) (off := 685) (tgt := 718) hx hb dL_law_33 (by decide +kernel) (by decide +kernel) (by decide +kernel) (by decide) ?_
        exact lo_16 C0 hLN hK hF o1 o2 i hi0 hi1 u v hfX hfM heq hu0 hv0 H locs ls hP hD hS hl kk
      by_cases h17 : z2 = 17
      · subst h17
        refine lv_tableIn (pc := 33) (off := 708) (tgt := 741) hx hb dL_law_33 (by decide +kernel) (by decide +kernel) (by decide +kernel) (by decide) ?_
        exact lo_17 C0 hLN hK hF o1 o2 i hi0 hi1 u v hfX hfM heq hu0 hv0 H locs ls hP hD hS hl kk
      by_cases h18 : z2 = 18
      · subst h18
        refine lv_tableIn (pc := 33) (off := 721) (tgt := 754) hx hb dL_law_33 (by decide +kernel) (by decide +kernel) (by decide +kernel) (by decide) ?_
        exact lo_18 C0 hLN hK hF o1 o2 i hi0 hi1 u v hfX hfM heq hu0 hv0 H locs ls hP hD hS hl kk
      by_cases h19 : z2 = 19
      · subst h19
        refine lv_tableIn (pc := 33) (off := 754) (tgt := 787) hx hb dL_law_33 (by decide +kernel) (by decide +kernel) (by decide +kernel) (by decide) ?_
        exact lo_19 C0 hLN hK hF o1 o2 i hi0 hi1 u v hfX hfM heq hu0 hv0 H locs ls hP hD hS hl kk
      by_cases h20 : z2 = 20
      · subst h20
        refine lv_tableIn (pc := 33) (off := 787) (tgt := 820) hx hb dL_law_33 (by decide +kernel) (by decide +kernel) (by decide +kernel) (by decide) ?_
        exact lo_20 C0 hLN hK hF o1 o2 i hi0 hi1 u v hfX hfM heq hu0 hv0 H locs ls hP hD hS hl kk
      by_cases h21 : z2 = 21
      · subst h21
        refine lv_tableIn (pc := 33) (off := 810) (tgt := 843) hx hb dL_law_33 (by decide +kernel) (by decide +kernel) (by decide +kernel) (by decide) ?_
        exact lo_21 C0 hLN hK hF o1 o2 i hi0 hi1 u v hfX hfM heq hu0 hv0 H locs ls hP hD hS hl kk
      by_cases h22 : z2 = 22
      · subst h22
        refine lv_tableIn (pc := 33) (off := 833) (tgt := 866) hx hb dL_law_33 (by decide +kernel) (by decide +kernel) (by decide +kernel) (by decide) ?_
        exact lo_22 C0 hLN hK hF o1 o2 i hi0 hi1 u v hfX hfM heq hu0 hv0 H locs ls hP hD hS hl kk
      by_cases h23 : z2 = 23
      · subst h23
        refine lv_tableIn (pc := 33) (off := 846) (tgt := 879) hx hb dL_law_33 (by decide +kernel) (by decide +kernel) (by decide +kernel) (by decide) ?_
        exact lo_23 C0 hLN hK hF o1 o2 i hi0 hi1 u v hfX hfM heq hu0 hv0 H locs ls hP hD hS hl kk
      by_cases h24 : z2 = 24
      · subst h24
        refine lv_tableIn (pc := 33) (off := 859) (tgt := 892) hx hb dL_law_33 (by decide +kernel) (by decide +kernel) (by decide +kernel) (by decide) ?_
        exact lo_24 C0 hLN hK hF o1 o2 i hi0 hi1 u v hfX hfM heq hu0 hv0 H locs ls hP hD hS hl kk
      by_cases h25 : z2 = 25
      · subst h25
        refine lv_tableIn (pc := 33) (off := 892) (tgt := 925) hx hb dL_law_33 (by decide +kernel) (by decide +kernel) (by decide +kernel) (by decide) ?_
        exact lo_25 C0 hLN hK hF o1 o2 i hi0 hi1 u v hfX hfM heq hu0 hv0 H locs ls hP hD hS hl kk
      by_cases h26 : z2 = 26
      · subst h26
        refine lv_tableIn (pc := 33) (off := 925) (tgt := 958) hx hb dL_law_33 (by decide +kernel) (by decide +kernel) (by decide +kernel) (by decide) ?_
        exact lo_26 C0 hLN hK hF o1 o2 i hi0 hi1 u v hfX hfM heq hu0 hv0 H locs ls hP hD hS hl kk
      by_cases h27 : z2 = 27
      · subst h27
        refine lv_tableIn (pc := 33) (off := 984) (tgt := 1017) hx hb dL_law_33 (by decide +kernel) (by decide +kernel) (by decide +kernel) (by decide) ?_
        exact lo_27 C0 hLN hK hF o1 o2 i hi0 hi1 u v hfX hfM heq hu0 hv0 H locs ls hP hD hS hl kk
      by_cases h28 : z2 = 28
      · subst h28
        refine lv_tableIn (pc := 33) (off := 1023) (tgt := 1056) hx hb dL_law_33 (by decide +kernel) (by decide +kernel) (by decide +kernel) (by decide) ?_
        exact lo_28 C0 hLN hK hF o1 o2 i hi0 hi1 u v hfX hfM heq hu0 hv0 H locs ls hP hD hS hl kk
      by_cases h29 : z2 = 29
      · subst h29
        refine lv_tableIn (pc := 33) (off := 1062) (tgt := 1095) hx hb dL_law_33 (by decide +kernel) (by decide +kernel) (by decide +kernel) (by decide) ?_
        exact lo_29 C0 hLN hK hF o1 o2 i hi0 hi1 u v hfX hfM heq hu0 hv0 H locs ls hP hD hS hl kk
      by_cases h30 : z2 = 30
      · subst h30
        refine lv_tableIn (pc := 33) (off := 1105) (tgt := 1138) hx hb dL_law_33 (by decide +kernel) (by decide +kernel) (by decide +kernel) (by decide) ?_
        exact lo_30 C0 hLN hK hF o1 o2 i hi0 hi1 u v hfX hfM heq hu0 hv0 H locs ls hP hD hS hl kk
      by_cases h31 : z2 = 31
      · subst h31
        refine lv_tableIn (pc := 33) (off := 1128) (tgt := 1161) hx hb dL_law_33 (by decide +kernel) (by decide +kernel) (by decide +kernel) (by decide) ?_
        exact lo_31 C0 hLN hK hF o1 o2 i hi0 hi1 u v hfX hfM heq hu0 hv0 H locs ls hP hD hS hl kk
      by_cases h32 : z2 = 32
      · subst h32
        refine lv_tableIn (pc := 33) (off := 1161) (tgt := 1194) hx hb dL_law_33 (by decide +kernel) (by decide +kernel) (by decide +kernel) (by decide) ?_
        exact lo_32 C0 hLN hK hF o1 o2 i hi0 hi1 u v hfX hfM heq hu0 hv0 H locs ls hP hD hS hl kk
      by_cases h33 : z2 = 33
      · subst h33
        refine lv_tableIn (pc := 33) (off := 1184) (tgt := 1217) hx hb dL_law_33 (by decide +kernel) (by decide +kernel) (by decide +kernel) (by decide) ?_
        exact lo_33 C0 hLN hK hF o1 o2 i hi0 hi1 u v hfX hfM heq hu0 hv0 H locs ls hP hD hS hl kk
      by_cases h34 : z2 = 34
      · subst h34
        refine lv_tableIn (pc := 33) (off := 1197) (tgt := 1230) hx hb dL_law_33 (by decide +kernel) (by decide +kernel) (by decide +kernel) (by decide) ?_
        exact lo_34 C0 hLN hK hF o1 o2 i hi0 hi1 u v hfX hfM heq hu0 hv0 H locs ls hP hD hS hl kk
      by_cases h35 : z2 = 35
      · subst h35
        refine lv_tableIn (pc := 33) (off := 1220) (tgt := 1253) hx hb dL_law_33 (by decide +kernel) (by decide +kernel) (by decide +kernel) (by decide) ?_
        exact lo_35 C0 hLN hK hF o1 o2 i hi0 hi1 u v hfX hfM heq hu0 hv0 H locs ls hP hD hS hl kk
      by_cases h36 : z2 = 36
      · subst h36
        refine lv_tableIn (pc := 33) (off := 1243) (tgt := 1276) hx hb dL_law_33 (by decide +kernel) (by decide +kernel) (by decide +kernel) (by decide) ?_
        exact lo_36 C0 hLN hK hF o1 o2 i hi0 hi1 u v hfX hfM heq hu0 hv0 H locs ls hP hD hS hl kk
      by_cases h37 : z2 = 37
      · subst h37
        refine lv_tableIn (pc := 33) (off := 1276) (tgt := 1309) hx hb dL_law_33 (by decide +kernel) (by decide +kernel) (by decide +kernel) (by decide) ?_
        exact lo_37 C0 hLN hK hF o1 o2 i hi0 hi1 u v hfX hfM heq hu0 hv0 H locs ls hP hD hS hl kk
      by_cases h38 : z2 = 38
      · subst h38
        refine lv_tableIn (pc := 33) (off := 1315) (tgt := 1348) hx hb dL_law_33 (by decide +kernel) (by decide +kernel) (by decide +kernel) (by decide) ?_
        exact lo_38 C0 hLN hK hF o1 o2 i hi0 hi1 u v hfX hfM heq hu0 hv0 H locs ls hP hD hS hl kk
      by_cases h39 : z2 = 39
      · subst h39
        refine lv_tableIn (pc := 33) (off := 1328) (tgt := 1361) hx hb dL_law_33 (by decide +kernel) (by decide +kernel) (by decide +kernel) (by decide) ?_
        exact lo_39 C0 hLN hK hF o1 o2 i hi0 hi1 u v hfX hfM heq hu0 hv0 H locs ls hP hD hS hl kk
      by_cases h40 : z2 = 40
      · subst h40
        refine lv_tableIn (pc := 33) (off := 1351) (tgt := 1384) hx hb dL_law_33 (by decide +kernel) (by decide +kernel) (by decide +kernel) (by decide) ?_
        exact lo_40 C0 hLN hK hF o1 o2 i hi0 hi1 u v hfX hfM heq hu0 hv0 H locs ls hP hD hS hl kk
      by_cases h41 : z2 = 41
      · subst h41
        refine lv_tableIn (pc := 33) (off := 1374) (tgt := 1407) hx hb dL_law_33 (by decide +kernel) (by decide +kernel) (by decide +kernel) (by decide) ?_
        exact lo_41 C0 hLN hK hF o1 o2 i hi0 hi1 u v hfX hfM heq hu0 hv0 H locs ls hP hD hS hl kk
      by_cases h42 : z2 = 42
      · subst h42
        refine lv_tableIn (pc := 33) (off := 1437) (tgt := 1470) hx hb dL_law_33 (by decide +kernel) (by decide +kernel) (by decide +kernel) (by decide) ?_
        exact lo_42 C0 hLN hK hF o1 o2 i hi0 hi1 u v hfX hfM heq hu0 hv0 H locs ls hP hD hS hl kk
      by_cases h43 : z2 = 43
      · subst h43
        refine lv_tableIn (pc := 33) (off := 1450) (tgt := 1483) hx hb dL_law_33 (by decide +kernel) (by decide +kernel) (by decide +kernel) (by decide) ?_
        exact lo_43 C0 hLN hK hF o1 o2 i hi0 hi1 u v hfX hfM heq hu0 hv0 H locs ls hP hD hS hl kk
      by_cases h44 : z2 = 44
      · subst h44
        refine lv_tableIn (pc := 33) (off := 1473) (tgt := 1506) hx hb dL_law_33 (by decide +kernel) (by decide +kernel) (by decide +kernel) (by decide) ?_
        exact lo_44 C0 hLN hK hF o1 o2 i hi0 hi1 u v hfX hfM heq hu0 hv0 H locs ls hP hD hS hl kk
      have ho : z2.toInt < 0 ∨ 44 < z2.toInt := by (have t0 := lv_neT h0 (show (0 : Int32).toInt = 0 by decide +kernel); have t1 := lv_neT h1 (show (1 : Int32).toInt = 1 by decide +kernel); have t2 := lv_neT h2 (show (2 : Int32).toInt = 2 by decide +kernel); have t3 := lv_neT h3 (show (3 : Int32).toInt = 3 by decide +kernel); have t4 := lv_neT h4 (show (4 : Int32).toInt = 4 by decide +kernel); have t5 := lv_neT h5 (show (5 : Int32).toInt = 5 by decide +kernel); have t6 := lv_neT h6 (show (6 : Int32).toInt = 6 by decide +kernel); have t7 := lv_neT h7 (show (7 : Int32).toInt = 7 by decide +kernel); have t8 := lv_neT h8 (show (8 : Int32).toInt = 8 by decide +kernel); have t9 := lv_neT h9 (show (9 : Int32).toInt = 9 by decide +kernel); have t10 := lv_neT h10 (show (10 : Int32).toInt = 10 by decide +kernel); have t11 := lv_neT h11 (show (11 : Int32).toInt = 11 by decide +kernel); have t12 := lv_neT h12 (show (12 : Int32).toInt = 12 by decide +kernel); have t13 := lv_neT h13 (show (13 : Int32).toInt = 13 by decide +kernel); have t14 := lv_neT h14 (show (14 : Int32).toInt = 14 by decide +kernel); have t15 := lv_neT h15 (show (15 : Int32).toInt = 15 by decide +kernel); have t16 := lv_neT h16 (show (16 : Int32).toInt = 16 by decide +kernel); have t17 := lv_neT h17 (show (17 : Int32).toInt = 17 by decide +kernel); have t18 := lv_neT h18 (show (18 : Int32).toInt = 18 by decide +kernel); have t19 := lv_neT h19 (show (19 : Int32).toInt = 19 by decide +kernel); have t20 := lv_neT h20 (show (20 : Int32).toInt = 20 by decide +kernel); have t21 := lv_neT h21 (show (21 : Int32).toInt = 21 by decide +kernel); have t22 := lv_neT h22 (show (22 : Int32).toInt = 22 by decide +kernel); have t23 := lv_neT h23 (show (23 : Int32).toInt = 23 by decide +kernel); have t24 := lv_neT h24 (show (24 : Int32).toInt = 24 by decide +kernel); have t25 := lv_neT h25 (show (25 : Int32).toInt = 25 by decide +kernel); have t26 := lv_neT h26 (show (26 : Int32).toInt = 26 by decide +kernel); have t27 := lv_neT h27 (show (27 : Int32).toInt = 27 by decide +kernel); have t28 := lv_neT h28 (show (28 : Int32).toInt = 28 by decide +kernel); have t29 := lv_neT h29 (show (29 : Int32).toInt = 29 by decide +kernel); have t30 := lv_neT h30 (show (30 : Int32).toInt = 30 by decide +kernel); have t31 := lv_neT h31 (show (31 : Int32).toInt = 31 by decide +kernel); have t32 := lv_neT h32 (show (32 : Int32).toInt = 32 by decide +kernel); have t33 := lv_neT h33 (show (33 : Int32).toInt = 33 by decide +kernel); have t34 := lv_neT h34 (show (34 : Int32).toInt = 34 by decide +kernel); have t35 := lv_neT h35 (show (35 : Int32).toInt = 35 by decide +kernel); have t36 := lv_neT h36 (show (36 : Int32).toInt = 36 by decide +kernel); have t37 := lv_neT h37 (show (37 : Int32).toInt = 37 by decide +kernel); have t38 := lv_neT h38 (show (38 : Int32).toInt = 38 by decide +kernel); have t39 := lv_neT h39 (show (39 : Int32).toInt = 39 by decide +kernel); have t40 := lv_neT h40 (show (40 : Int32).toInt = 40 by decide +kernel); have t41 := lv_neT h41 (show (41 : Int32).toInt = 41 by decide +kernel); have t42 := lv_neT h42 (show (42 : Int32).toInt = 42 by decide +kernel); have t43 := lv_neT h43 (show (43 : Int32).toInt = 43 by decide +kernel); have t44 := lv_neT h44 (show (44 : Int32).toInt = 44 by decide +kernel); omega)
      refine lv_tableOut (pc := 33) (tgt := 1519) hx hb dL_law_33 ho (by decide) ?_
      exact kk u v H locs ls hfX hfM heq hu0 hv0 hP hD hS hl
