set_option maxHeartbeats 8000000 in
set_option maxRecDepth 100000 in
theorem lo_0 {p : Program} {l : Launch} {e : Env} {s : State} {m : MethodId} {below : List Frame} {meth : Method} {c : Code} {D : va_G} {cB cC cI cJ : ClassId} {b L : Nat} {xs : Nat → Int32} {adK adV : Nat → Nat} (C0 : lw_At p s m meth c b L xs) (hLN : L ≤ 3072) (hK : va_K D gcl [(cB, .byte), (cC, .char), (cI, .int), (cJ, .long)] s) (hF : sF adK adV (fun q : Nat => s.heap.size ≤ q) s s.heap) (o1 o2 : Nat) (i : Int32) (hi0 : 0 ≤ i.toInt) (hi1 : i.toInt + 6 ≤ (L : Int)) (u v : gEx) (hfX : fX u) (hfM : fM v) (heq : tEq (u.2.1 4) (u.2.2.2.1 7).toInt (v.2.1 0) (v.2.2.2.1 0).toInt ∧ ((u.2.2.2.1 5).toInt = (v.2.2.2.1 6).toInt ∧ (u.2.2.2.1 6).toInt = (v.2.2.2.1 7).toInt ∧ (u.2.2.2.1 15).toInt = (v.2.2.2.1 8).toInt ∧ (u.2.2.2.1 16).toInt = (v.2.2.2.1 9).toInt ∧ (u.2.2.2.1 17).toInt = (v.2.2.2.1 10).toInt ∧ (u.2.2.2.1 18).toInt = (v.2.2.2.1 11).toInt ∧ (u.2.2.2.1 19).toInt = (v.2.2.2.1 12).toInt ∧ (u.2.2.2.1 43).toInt = ((v.2.1 21) 0).toInt ∧ (u.2.2.2.1 24).toInt = (v.2.2.2.1 21).toInt ∧ (u.2.2.2.1 25).toInt = (v.2.2.2.1 22).toInt ∧ (u.2.2.2.1 26).toInt = (v.2.2.2.1 20).toInt) ∧ plE (u.2.1 31) (u.2.1 15) (u.2.2.2.1 20).toInt (v.2.1 17) (v.2.1 18) (v.2.2.2.1 13).toInt (u.2.2.2.1 19).toInt (u.2.2.2.1 16).toInt (u.2.2.2.1 17).toInt) (hu0 : u.1 0 = o1) (hv0 : v.1 0 = o2) (H : Heap) (locs : List Loc) (ls : Array Slot) (hP : va_P D gcl (wX cB cC cI cJ u ++ wM cB cC cI cJ v) H) (hD : va_D (fun q : Nat => s.heap.size ≤ q) (wX cB cC cI cJ u ++ wM cB cC cI cJ v)) (hS : va_S (fun q : Nat => s.heap.size ≤ q) s.heap H locs) (hl : lv_has ls 4 [(3, .int i), (2, .ref o2), (1, .ref o1), (0, .ref b)])
    (kk : ∀ (u v : gEx) (H : Heap) (locs : List Loc) (ls : Array Slot), fX u → fM v → tEq (u.2.1 4) (u.2.2.2.1 7).toInt (v.2.1 0) (v.2.2.2.1 0).toInt ∧ ((u.2.2.2.1 5).toInt = (v.2.2.2.1 6).toInt ∧ (u.2.2.2.1 6).toInt = (v.2.2.2.1 7).toInt ∧ (u.2.2.2.1 15).toInt = (v.2.2.2.1 8).toInt ∧ (u.2.2.2.1 16).toInt = (v.2.2.2.1 9).toInt ∧ (u.2.2.2.1 17).toInt = (v.2.2.2.1 10).toInt ∧ (u.2.2.2.1 18).toInt = (v.2.2.2.1 11).toInt ∧ (u.2.2.2.1 19).toInt = (v.2.2.2.1 12).toInt ∧ (u.2.2.2.1 43).toInt = ((v.2.1 21) 0).toInt ∧ (u.2.2.2.1 24).toInt = (v.2.2.2.1 21).toInt ∧ (u.2.2.2.1 25).toInt = (v.2.2.2.1 22).toInt ∧ (u.2.2.2.1 26).toInt = (v.2.2.2.1 20).toInt) ∧ plE (u.2.1 31) (u.2.1 15) (u.2.2.2.1 20).toInt (v.2.1 17) (v.2.1 18) (v.2.2.2.1 13).toInt (u.2.2.2.1 19).toInt (u.2.2.2.1 16).toInt (u.2.2.2.1 17).toInt → u.1 0 = o1 → v.1 0 = o2 → va_P D gcl (wX cB cC cI cJ u ++ wM cB cC cI cJ v) H → va_D (fun q : Nat => s.heap.size ≤ q) (wX cB cC cI cJ u ++ wM cB cC cI cJ v) → va_S (fun q : Nat => s.heap.size ≤ q) s.heap H locs → lv_has ls 4 [(3, .int i), (2, .ref o2), (1, .ref o1), (0, .ref b)] → W p l e room_1 s m #[Value.ref b] below meth c H locs 126 15724 (lw_Z below #[Value.ref b] s) (F0 m 1519 ls [])) : W p l e room_1 s m #[Value.ref b] below meth c H locs 126 15724 (lw_Z below #[Value.ref b] s) (F0 m 228 ls []) := by
  subst hu0
  subst hv0
  have hlen := heq.1.1
  have hreg := heq.2.1
  obtain ⟨hx, hb, hr, hml, hown, hts0, hX, hbl, hlocks, hgv⟩ := id C0
  have hts := g_tbl hts0
  have hbA : ¬ (fun q : Nat => s.heap.size ≤ q) b := Nat.not_le.mpr hbl
  refine lv_aload_n (pc := 228) hx hb dL_law_228 rfl (lv_at hl 2 rfl) ?_
  refine lv_aload_n (pc := 229) hx hb dL_law_229 rfl (lv_at hl 3 rfl) ?_
  refine lv_iload_n (pc := 230) hx hb dL_law_230 rfl (lv_at hl 0 rfl) ?_
  refine lv_iconst (pc := 231) (v := 1) hx hb dL_law_231 (by decide) ?_
  refine b_iadd (pc := 232) hx hb rfl tI_1 (by omega) (by omega) dL_law_232 (fun x_1 ex_1 => ?_)
  refine va_sld (pc := 233) hx hb hX hbl hbA hS (n_in rfl (by omega) (by omega)) dL_law_233 ?_
  refine lv_topi (fun x_2 ex_2 => ?_)
  have rx_2 := n_rng x_2
  have tx_2 := congrArg Int32.toInt (e_ld (f := xs) (show x_2 = xs (x_1.toInt).toNat from ex_2) (show x_1.toInt = (i.toInt) + (1) by omega))
  refine lv_aload_n (pc := 234) hx hb dL_law_234 rfl (lv_at hl 3 rfl) ?_
  refine lv_iload_n (pc := 235) hx hb dL_law_235 rfl (lv_at hl 0 rfl) ?_
  refine lv_iconst (pc := 236) (v := 2) hx hb dL_law_236 (by decide) ?_
  as_aux_lemma =>
    refine b_iadd (pc := 237) hx hb rfl tI_2 (by omega) (by omega) dL_law_237 (fun x_3 ex_3 => ?_)
    refine va_sld (pc := 238) hx hb hX hbl hbA hS (n_in rfl (by omega) (by omega)) dL_law_238 ?_
    refine lv_topi (fun x_4 ex_4 => ?_)
    have rx_4 := n_rng x_4
    have tx_4 := congrArg Int32.toInt (e_ld (f := xs) (show x_4 = xs (x_3.toInt).toNat from ex_4) (show x_3.toInt = (i.toInt) + (2) by omega))
    refine lv_aload_n (pc := 239) hx hb dL_law_239 rfl (lv_at hl 3 rfl) ?_
    refine lv_iload_n (pc := 240) hx hb dL_law_240 rfl (lv_at hl 0 rfl) ?_
    refine lv_iconst (pc := 241) (v := 3) hx hb dL_law_241 (by decide) ?_
    refine b_iadd (pc := 242) hx hb rfl tI_3 (by omega) (by omega) dL_law_242 (fun x_5 ex_5 => ?_)
    refine va_sld (pc := 243) hx hb hX hbl hbA hS (n_in rfl (by omega) (by omega)) dL_law_243 ?_
    refine lv_topi (fun x_6 ex_6 => ?_)
    have rx_6 := n_rng x_6
    have tx_6 := congrArg Int32.toInt (e_ld (f := xs) (show x_6 = xs (x_5.toInt).toNat from ex_6) (show x_5.toInt = (i.toInt) + (3) by omega))
    refine lv_aload_n (pc := 244) hx hb dL_law_244 rfl (lv_at hl 3 rfl) ?_
    as_aux_lemma =>
      refine lv_iload_n (pc := 245) hx hb dL_law_245 rfl (lv_at hl 0 rfl) ?_
      refine lv_iconst (pc := 246) (v := 4) hx hb dL_law_246 (by decide) ?_
      refine b_iadd (pc := 247) hx hb rfl tI_4 (by omega) (by omega) dL_law_247 (fun x_7 ex_7 => ?_)
      refine va_sld (pc := 248) hx hb hX hbl hbA hS (n_in rfl (by omega) (by omega)) dL_law_248 ?_
      refine lv_topi (fun x_8 ex_8 => ?_)
      have rx_8 := n_rng x_8
      have tx_8 := congrArg Int32.toInt (e_ld (f := xs) (show x_8 = xs (x_7.toInt).toNat from ex_8) (show x_7.toInt = (i.toInt) + (4) by omega))
      refine lv_aload_n (pc := 249) hx hb dL_law_249 rfl (lv_at hl 3 rfl) ?_
      refine lv_iload_n (pc := 250) hx hb dL_law_250 rfl (lv_at hl 0 rfl) ?_
      refine lv_iconst (pc := 251) (v := 5) hx hb dL_law_251 (by decide) ?_
      refine b_iadd (pc := 252) hx hb rfl tI_5 (by omega) (by omega) dL_law_252 (fun x_9 ex_9 => ?_)
      refine va_sld (pc := 253) hx hb hX hbl hbA hS (n_in rfl (by omega) (by omega)) dL_law_253 ?_
      as_aux_lemma =>
        refine lv_topi (fun x_10 ex_10 => ?_)
        have rx_10 := n_rng x_10
        have tx_10 := congrArg Int32.toInt (e_ld (f := xs) (show x_10 = xs (x_9.toInt).toNat from ex_10) (show x_9.toInt = (i.toInt) + (5) by omega))
        refine cc_254 C0 hK hF u hfX hl x_2 x_4 x_6 x_8 x_10 hP hD hS (fun r_11 w_12 H locs hf_13 ho_14 he_15 he_16 he_17 he_18 he_19 hP hD hS => ?_)
        have rr_11 := n_rng r_11
        refine lv_pop (pc := 257) hx hb dL_law_257 rfl ?_
        refine lv_aload_n (pc := 258) hx hb dL_law_258 rfl (lv_at hl 1 rfl) ?_
        refine lv_aload_n (pc := 259) hx hb dL_law_259 rfl (lv_at hl 3 rfl) ?_
        refine lv_iload_n (pc := 260) hx hb dL_law_260 rfl (lv_at hl 0 rfl) ?_
        refine lv_iconst (pc := 261) (v := 1) hx hb dL_law_261 (by decide) ?_
        refine b_iadd (pc := 262) hx hb rfl tI_1 (by omega) (by omega) dL_law_262 (fun x_20 ex_20 => ?_)
        refine va_sld (pc := 263) hx hb hX hbl hbA hS (n_in rfl (by omega) (by omega)) dL_law_263 ?_
        refine lv_topi (fun x_21 ex_21 => ?_)
        have rx_21 := n_rng x_21
        have tx_21 := congrArg Int32.toInt (e_ld (f := xs) (show x_21 = xs (x_20.toInt).toNat from ex_21) (show x_20.toInt = (i.toInt) + (1) by omega))
        as_aux_lemma =>
          refine lv_aload_n (pc := 264) hx hb dL_law_264 rfl (lv_at hl 3 rfl) ?_
          refine lv_iload_n (pc := 265) hx hb dL_law_265 rfl (lv_at hl 0 rfl) ?_
          refine lv_iconst (pc := 266) (v := 2) hx hb dL_law_266 (by decide) ?_
          refine b_iadd (pc := 267) hx hb rfl tI_2 (by omega) (by omega) dL_law_267 (fun x_22 ex_22 => ?_)
          refine va_sld (pc := 268) hx hb hX hbl hbA hS (n_in rfl (by omega) (by omega)) dL_law_268 ?_
          refine lv_topi (fun x_23 ex_23 => ?_)
          have rx_23 := n_rng x_23
          have tx_23 := congrArg Int32.toInt (e_ld (f := xs) (show x_23 = xs (x_22.toInt).toNat from ex_23) (show x_22.toInt = (i.toInt) + (2) by omega))
          refine lv_aload_n (pc := 269) hx hb dL_law_269 rfl (lv_at hl 3 rfl) ?_
          refine lv_iload_n (pc := 270) hx hb dL_law_270 rfl (lv_at hl 0 rfl) ?_
          refine lv_iconst (pc := 271) (v := 3) hx hb dL_law_271 (by decide) ?_
          refine b_iadd (pc := 272) hx hb rfl tI_3 (by omega) (by omega) dL_law_272 (fun x_24 ex_24 => ?_)
          as_aux_lemma =>
            refine va_sld (pc := 273) hx hb hX hbl hbA hS (n_in rfl (by omega) (by omega)) dL_law_273 ?_
            refine lv_topi (fun x_25 ex_25 => ?_)
            have rx_25 := n_rng x_25
            have tx_25 := congrArg Int32.toInt (e_ld (f := xs) (show x_25 = xs (x_24.toInt).toNat from ex_25) (show x_24.toInt = (i.toInt) + (3) by omega))
            refine lv_aload_n (pc := 274) hx hb dL_law_274 rfl (lv_at hl 3 rfl) ?_
            refine lv_iload_n (pc := 275) hx hb dL_law_275 rfl (lv_at hl 0 rfl) ?_
            refine lv_iconst (pc := 276) (v := 4) hx hb dL_law_276 (by decide) ?_
            refine b_iadd (pc := 277) hx hb rfl tI_4 (by omega) (by omega) dL_law_277 (fun x_26 ex_26 => ?_)
            refine va_sld (pc := 278) hx hb hX hbl hbA hS (n_in rfl (by omega) (by omega)) dL_law_278 ?_
            refine lv_topi (fun x_27 ex_27 => ?_)
            have rx_27 := n_rng x_27
            have tx_27 := congrArg Int32.toInt (e_ld (f := xs) (show x_27 = xs (x_26.toInt).toNat from ex_27) (show x_26.toInt = (i.toInt) + (4) by omega))
            refine lv_aload_n (pc := 279) hx hb dL_law_279 rfl (lv_at hl 3 rfl) ?_
            refine lv_iload_n (pc := 280) hx hb dL_law_280 rfl (lv_at hl 0 rfl) ?_
            as_aux_lemma =>
              refine lv_iconst (pc := 281) (v := 5) hx hb dL_law_281 (by decide) ?_
              refine b_iadd (pc := 282) hx hb rfl tI_5 (by omega) (by omega) dL_law_282 (fun x_28 ex_28 => ?_)
              refine va_sld (pc := 283) hx hb hX hbl hbA hS (n_in rfl (by omega) (by omega)) dL_law_283 ?_
              refine lv_topi (fun x_29 ex_29 => ?_)
              have rx_29 := n_rng x_29
              have tx_29 := congrArg Int32.toInt (e_ld (f := xs) (show x_29 = xs (x_28.toInt).toNat from ex_29) (show x_28.toInt = (i.toInt) + (5) by omega))
              have hP : va_P D gcl (wM cB cC cI cJ v ++ wX cB cC cI cJ w_12) H := va_P.swap (a := []) (b := wX cB cC cI cJ w_12) (c := wM cB cC cI cJ v) hP
              have hD : va_D (fun q : Nat => s.heap.size ≤ q) (wM cB cC cI cJ v ++ wX cB cC cI cJ w_12) := va_D.swap (a := []) (b := wX cB cC cI cJ w_12) (c := wM cB cC cI cJ v) hD
              refine cc_284 C0 hK hF v hfM hl x_21 x_23 x_25 x_27 x_29 hP hD hS (fun r_30 w_31 H locs hf_32 ho_33 he_34 he_35 he_36 he_37 he_38 hP hD hS => ?_)
              have rr_30 := n_rng r_30
              refine lv_pop (pc := 287) hx hb dL_law_287 rfl ?_
              refine lv_goto (pc := 288) (tgt := 1519) hx hb dL_law_288 (by decide) ?_
              have ea0 : x_21 = x_2 := Int32.toInt_inj.mp (by omega)
              rw [ea0] at he_35
              have ea1 : x_23 = x_4 := Int32.toInt_inj.mp (by omega)
              rw [ea1] at he_35
              have ea2 : x_25 = x_6 := Int32.toInt_inj.mp (by omega)
              rw [ea2] at he_35
              have ea3 : x_27 = x_8 := Int32.toInt_inj.mp (by omega)
              rw [ea3] at he_35
              have ea4 : x_29 = x_10 := Int32.toInt_inj.mp (by omega)
              rw [ea4] at he_35
              exact kk w_12 w_31 H locs ls hf_13 hf_32 ⟨te_feed heq.1 he_16 he_35 (by omega) (by omega), by omega, plE_keep heq.2.2 he_18 he_37 (by omega) (by omega) (by omega)⟩ ho_14 ho_33 (va_P.swap (a := []) (b := wM cB cC cI cJ w_31) (c := wX cB cC cI cJ w_12) hP) (va_D.swap (a := []) (b := wM cB cC cI cJ w_31) (c := wX cB cC cI cJ w_12) hD) hS hl
set_option maxHeartbeats 8000000 in
set_option maxRecDepth 100000 in
theorem lo_1 {p : Program} {l : Launch} {e : Env} {s : State} {m : MethodId} {below : List Frame} {meth : Method} {c : Code} {D : va_G} {cB cC cI cJ : ClassId} {b L : Nat} {xs : Nat → Int32} {adK adV : Nat → Nat} (C0 : lw_At p s m meth c b L xs) (hLN : L ≤ 3072) (hK : va_K D gcl [(cB, .byte), (cC, .char), (cI, .int), (cJ, .long)] s) (hF : sF adK adV (fun q : Nat => s.heap.size ≤ q) s s.heap) (o1 o2 : Nat) (i : Int32) (hi0 : 0 ≤ i.toInt) (hi1 : i.toInt + 6 ≤ (L : Int)) (u v : gEx) (hfX : fX u) (hfM : fM v) (heq : tEq (u.2.1 4) (u.2.2.2.1 7).toInt (v.2.1 0) (v.2.2.2.1 0).toInt ∧ ((u.2.2.2.1 5).toInt = (v.2.2.2.1 6).toInt ∧ (u.2.2.2.1 6).toInt = (v.2.2.2.1 7).toInt ∧ (u.2.2.2.1 15).toInt = (v.2.2.2.1 8).toInt ∧ (u.2.2.2.1 16).toInt = (v.2.2.2.1 9).toInt ∧ (u.2.2.2.1 17).toInt = (v.2.2.2.1 10).toInt ∧ (u.2.2.2.1 18).toInt = (v.2.2.2.1 11).toInt ∧ (u.2.2.2.1 19).toInt = (v.2.2.2.1 12).toInt ∧ (u.2.2.2.1 43).toInt = ((v.2.1 21) 0).toInt ∧ (u.2.2.2.1 24).toInt = (v.2.2.2.1 21).toInt ∧ (u.2.2.2.1 25).toInt = (v.2.2.2.1 22).toInt ∧ (u.2.2.2.1 26).toInt = (v.2.2.2.1 20).toInt) ∧ plE (u.2.1 31) (u.2.1 15) (u.2.2.2.1 20).toInt (v.2.1 17) (v.2.1 18) (v.2.2.2.1 13).toInt (u.2.2.2.1 19).toInt (u.2.2.2.1 16).toInt (u.2.2.2.1 17).toInt) (hu0 : u.1 0 = o1) (hv0 : v.1 0 = o2) (H : Heap) (locs : List Loc) (ls : Array Slot) (hP : va_P D gcl (wX cB cC cI cJ u ++ wM cB cC cI cJ v) H) (hD : va_D (fun q : Nat => s.heap.size ≤ q) (wX cB cC cI cJ u ++ wM cB cC cI cJ v)) (hS : va_S (fun q : Nat => s.heap.size ≤ q) s.heap H locs) (hl : lv_has ls 4 [(3, .int i), (2, .ref o2), (1, .ref o1), (0, .ref b)])
    (kk : ∀ (u v : gEx) (H : Heap) (locs : List Loc) (ls : Array Slot), fX u → fM v → tEq (u.2.1 4) (u.2.2.2.1 7).toInt (v.2.1 0) (v.2.2.2.1 0).toInt ∧ ((u.2.2.2.1 5).toInt = (v.2.2.2.1 6).toInt ∧ (u.2.2.2.1 6).toInt = (v.2.2.2.1 7).toInt ∧ (u.2.2.2.1 15).toInt = (v.2.2.2.1 8).toInt ∧ (u.2.2.2.1 16).toInt = (v.2.2.2.1 9).toInt ∧ (u.2.2.2.1 17).toInt = (v.2.2.2.1 10).toInt ∧ (u.2.2.2.1 18).toInt = (v.2.2.2.1 11).toInt ∧ (u.2.2.2.1 19).toInt = (v.2.2.2.1 12).toInt ∧ (u.2.2.2.1 43).toInt = ((v.2.1 21) 0).toInt ∧ (u.2.2.2.1 24).toInt = (v.2.2.2.1 21).toInt ∧ (u.2.2.2.1 25).toInt = (v.2.2.2.1 22).toInt ∧ (u.2.2.2.1 26).toInt = (v.2.2.2.1 20).toInt) ∧ plE (u.2.1 31) (u.2.1 15) (u.2.2.2.1 20).toInt (v.2.1 17) (v.2.1 18) (v.2.2.2.1 13).toInt (u.2.2.2.1 19).toInt (u.2.2.2.1 16).toInt (u.2.2.2.1 17).toInt → u.1 0 = o1 → v.1 0 = o2 → va_P D gcl (wX cB cC cI cJ u ++ wM cB cC cI cJ v) H → va_D (fun q : Nat => s.heap.size ≤ q) (wX cB cC cI cJ u ++ wM cB cC cI cJ v) → va_S (fun q : Nat => s.heap.size ≤ q) s.heap H locs → lv_has ls 4 [(3, .int i), (2, .ref o2), (1, .ref o1), (0, .ref b)] → W p l e room_1 s m #[Value.ref b] below meth c H locs 126 15724 (lw_Z below #[Value.ref b] s) (F0 m 1519 ls [])) : W p l e room_1 s m #[Value.ref b] below meth c H locs 126 15724 (lw_Z below #[Value.ref b] s) (F0 m 291 ls []) := by
  subst hu0
  subst hv0
  have hlen := heq.1.1
  have hreg := heq.2.1
  obtain ⟨hx, hb, hr, hml, hown, hts0, hX, hbl, hlocks, hgv⟩ := id C0
  have hts := g_tbl hts0
  have hbA : ¬ (fun q : Nat => s.heap.size ≤ q) b := Nat.not_le.mpr hbl
  refine lv_aload_n (pc := 291) hx hb dL_law_291 rfl (lv_at hl 2 rfl) ?_
  refine lv_aload_n (pc := 292) hx hb dL_law_292 rfl (lv_at hl 3 rfl) ?_
  refine lv_iload_n (pc := 293) hx hb dL_law_293 rfl (lv_at hl 0 rfl) ?_
  refine lv_iconst (pc := 294) (v := 1) hx hb dL_law_294 (by decide) ?_
  refine b_iadd (pc := 295) hx hb rfl tI_1 (by omega) (by omega) dL_law_295 (fun x_1 ex_1 => ?_)
  refine va_sld (pc := 296) hx hb hX hbl hbA hS (n_in rfl (by omega) (by omega)) dL_law_296 ?_
  refine lv_topi (fun x_2 ex_2 => ?_)
  have rx_2 := n_rng x_2
  have tx_2 := congrArg Int32.toInt (e_ld (f := xs) (show x_2 = xs (x_1.toInt).toNat from ex_2) (show x_1.toInt = (i.toInt) + (1) by omega))
  refine cc_297 C0 hK hF u hfX hl x_2 hP hD hS (fun r_3 w_4 H locs hf_5 ho_6 he_7 he_8 he_9 he_10 he_11 hP hD hS => ?_)
  have rr_3 := n_rng r_3
  refine lv_pop (pc := 300) hx hb dL_law_300 rfl ?_
  refine lv_aload_n (pc := 301) hx hb dL_law_301 rfl (lv_at hl 1 rfl) ?_
  refine lv_aload_n (pc := 302) hx hb dL_law_302 rfl (lv_at hl 3 rfl) ?_
  refine lv_iload_n (pc := 303) hx hb dL_law_303 rfl (lv_at hl 0 rfl) ?_
  refine lv_iconst (pc := 304) (v := 1) hx hb dL_law_304 (by decide) ?_
  refine b_iadd (pc := 305) hx hb rfl tI_1 (by omega) (by omega) dL_law_305 (fun x_12 ex_12 => ?_)
  refine va_sld (pc := 306) hx hb hX hbl hbA hS (n_in rfl (by omega) (by omega)) dL_law_306 ?_
  refine lv_topi (fun x_13 ex_13 => ?_)
  have rx_13 := n_rng x_13
  have tx_13 := congrArg Int32.toInt (e_ld (f := xs) (show x_13 = xs (x_12.toInt).toNat from ex_13) (show x_12.toInt = (i.toInt) + (1) by omega))
  have hP : va_P D gcl (wM cB cC cI cJ v ++ wX cB cC cI cJ w_4) H := va_P.swap (a := []) (b := wX cB cC cI cJ w_4) (c := wM cB cC cI cJ v) hP
  have hD : va_D (fun q : Nat => s.heap.size ≤ q) (wM cB cC cI cJ v ++ wX cB cC cI cJ w_4) := va_D.swap (a := []) (b := wX cB cC cI cJ w_4) (c := wM cB cC cI cJ v) hD
  refine cc_307 C0 hK hF v hfM hl x_13 hP hD hS (fun r_14 w_15 H locs hf_16 ho_17 he_18 he_19 he_20 he_21 he_22 hP hD hS => ?_)
  have rr_14 := n_rng r_14
  refine lv_pop (pc := 310) hx hb dL_law_310 rfl ?_
  refine lv_goto (pc := 311) (tgt := 1519) hx hb dL_law_311 (by decide) ?_
  exact kk w_4 w_15 H locs ls hf_5 hf_16 ⟨te_cut heq.1 he_8 he_19 (by omega) (by omega), by omega, plE_keep heq.2.2 he_10 he_21 (by omega) (by omega) (by omega)⟩ ho_6 ho_17 (va_P.swap (a := []) (b := wM cB cC cI cJ w_15) (c := wX cB cC cI cJ w_4) hP) (va_D.swap (a := []) (b := wM cB cC cI cJ w_15) (c := wX cB cC cI cJ w_4) hD) hS hl
set_option maxHeartbeats 8000000 in
set_option maxRecDepth 100000 in
theorem lo_2 {p : Program} {l : Launch} {e : Env} {s : State} {m : MethodId} {below : List Frame} {meth : Method} {c : Code} {D : va_G} {cB cC cI cJ : ClassId} {b L : Nat} {xs : Nat → Int32} {adK adV : Nat → Nat} (C0 : lw_At p s m meth c b L xs) (hLN : L ≤ 3072) (hK : va_K D gcl [(cB, .byte), (cC, .char), (cI, .int), (cJ, .long)] s) (hF : sF adK adV (fun q : Nat => s.heap.size ≤ q) s s.heap) (o1 o2 : Nat) (i : Int32) (hi0 : 0 ≤ i.toInt) (hi1 : i.toInt + 6 ≤ (L : Int)) (u v : gEx) (hfX : fX u) (hfM : fM v) (heq : tEq (u.2.1 4) (u.2.2.2.1 7).toInt (v.2.1 0) (v.2.2.2.1 0).toInt ∧ ((u.2.2.2.1 5).toInt = (v.2.2.2.1 6).toInt ∧ (u.2.2.2.1 6).toInt = (v.2.2.2.1 7).toInt ∧ (u.2.2.2.1 15).toInt = (v.2.2.2.1 8).toInt ∧ (u.2.2.2.1 16).toInt = (v.2.2.2.1 9).toInt ∧ (u.2.2.2.1 17).toInt = (v.2.2.2.1 10).toInt ∧ (u.2.2.2.1 18).toInt = (v.2.2.2.1 11).toInt ∧ (u.2.2.2.1 19).toInt = (v.2.2.2.1 12).toInt ∧ (u.2.2.2.1 43).toInt = ((v.2.1 21) 0).toInt ∧ (u.2.2.2.1 24).toInt = (v.2.2.2.1 21).toInt ∧ (u.2.2.2.1 25).toInt = (v.2.2.2.1 22).toInt ∧ (u.2.2.2.1 26).toInt = (v.2.2.2.1 20).toInt) ∧ plE (u.2.1 31) (u.2.1 15) (u.2.2.2.1 20).toInt (v.2.1 17) (v.2.1 18) (v.2.2.2.1 13).toInt (u.2.2.2.1 19).toInt (u.2.2.2.1 16).toInt (u.2.2.2.1 17).toInt) (hu0 : u.1 0 = o1) (hv0 : v.1 0 = o2) (H : Heap) (locs : List Loc) (ls : Array Slot) (hP : va_P D gcl (wX cB cC cI cJ u ++ wM cB cC cI cJ v) H) (hD : va_D (fun q : Nat => s.heap.size ≤ q) (wX cB cC cI cJ u ++ wM cB cC cI cJ v)) (hS : va_S (fun q : Nat => s.heap.size ≤ q) s.heap H locs) (hl : lv_has ls 4 [(3, .int i), (2, .ref o2), (1, .ref o1), (0, .ref b)])
    (kk : ∀ (u v : gEx) (H : Heap) (locs : List Loc) (ls : Array Slot), fX u → fM v → tEq (u.2.1 4) (u.2.2.2.1 7).toInt (v.2.1 0) (v.2.2.2.1 0).toInt ∧ ((u.2.2.2.1 5).toInt = (v.2.2.2.1 6).toInt ∧ (u.2.2.2.1 6).toInt = (v.2.2.2.1 7).toInt ∧ (u.2.2.2.1 15).toInt = (v.2.2.2.1 8).toInt ∧ (u.2.2.2.1 16).toInt = (v.2.2.2.1 9).toInt ∧ (u.2.2.2.1 17).toInt = (v.2.2.2.1 10).toInt ∧ (u.2.2.2.1 18).toInt = (v.2.2.2.1 11).toInt ∧ (u.2.2.2.1 19).toInt = (v.2.2.2.1 12).toInt ∧ (u.2.2.2.1 43).toInt = ((v.2.1 21) 0).toInt ∧ (u.2.2.2.1 24).toInt = (v.2.2.2.1 21).toInt ∧ (u.2.2.2.1 25).toInt = (v.2.2.2.1 22).toInt ∧ (u.2.2.2.1 26).toInt = (v.2.2.2.1 20).toInt) ∧ plE (u.2.1 31) (u.2.1 15) (u.2.2.2.1 20).toInt (v.2.1 17) (v.2.1 18) (v.2.2.2.1 13).toInt (u.2.2.2.1 19).toInt (u.2.2.2.1 16).toInt (u.2.2.2.1 17).toInt → u.1 0 = o1 → v.1 0 = o2 → va_P D gcl (wX cB cC cI cJ u ++ wM cB cC cI cJ v) H → va_D (fun q : Nat => s.heap.size ≤ q) (wX cB cC cI cJ u ++ wM cB cC cI cJ v) → va_S (fun q : Nat => s.heap.size ≤ q) s.heap H locs → lv_has ls 4 [(3, .int i), (2, .ref o2), (1, .ref o1), (0, .ref b)] → W p l e room_1 s m #[Value.ref b] below meth c H locs 126 15724 (lw_Z below #[Value.ref b] s) (F0 m 1519 ls [])) : W p l e room_1 s m #[Value.ref b] below meth c H locs 126 15724 (lw_Z below #[Value.ref b] s) (F0 m 314 ls []) := by
  subst hu0
  subst hv0
  have hlen := heq.1.1
  have hreg := heq.2.1
  obtain ⟨hx, hb, hr, hml, hown, hts0, hX, hbl, hlocks, hgv⟩ := id C0
  have hts := g_tbl hts0
  have hbA : ¬ (fun q : Nat => s.heap.size ≤ q) b := Nat.not_le.mpr hbl
  refine lv_aload_n (pc := 314) hx hb dL_law_314 rfl (lv_at hl 2 rfl) ?_
  refine cc_315 C0 hK hF u hfX hl  hP hD hS (fun r_1 w_2 H locs hf_3 ho_4 he_5 he_6 he_7 he_8 he_9 hP hD hS => ?_)
  have rr_1 := n_rng r_1
  refine lv_pop (pc := 318) hx hb dL_law_318 rfl ?_
  refine lv_aload_n (pc := 319) hx hb dL_law_319 rfl (lv_at hl 1 rfl) ?_
  have hP : va_P D gcl (wM cB cC cI cJ v ++ wX cB cC cI cJ w_2) H := va_P.swap (a := []) (b := wX cB cC cI cJ w_2) (c := wM cB cC cI cJ v) hP
  have hD : va_D (fun q : Nat => s.heap.size ≤ q) (wM cB cC cI cJ v ++ wX cB cC cI cJ w_2) := va_D.swap (a := []) (b := wX cB cC cI cJ w_2) (c := wM cB cC cI cJ v) hD
  refine cc_320 C0 hK hF v hfM hl  hP hD hS (fun r_10 w_11 H locs hf_12 ho_13 he_14 he_15 he_16 he_17 he_18 hP hD hS => ?_)
  have rr_10 := n_rng r_10
  have e9 : taub (u.2.1 4) (u.2.2.2.1 7).toInt = tau (v.2.1 0) (v.2.2.2.1 0).toInt := funext heq.1.2
  rw [← e9] at he_16 he_17
  have hq9 := hs_eq he_7 he_16 (by omega)
  have hl9 := hz_eq he_9 he_18 hq9.1 (by omega) (by omega) (by omega)
  refine lv_pop (pc := 323) hx hb dL_law_323 rfl ?_
  refine lv_goto (pc := 324) (tgt := 1519) hx hb dL_law_324 (by decide) ?_
  have b9x19 := pX_17 (u := u) hfX
  have b9x16 := pX_14 (u := u) hfX
  exact kk w_2 w_11 H locs ls hf_3 hf_12 ⟨te_cut heq.1 he_6 he_15 (by omega) (by omega), by omega, plE_house heq.2.2 he_8.1 he_8.2 he_17 (by omega) (by omega) (by omega) (fun h => ⟨(he_7.2 h).2.2.2.2.2.2.1, (he_7.2 h).2.2.2.1, (he_7.2 h).2.2.2.2.1⟩) (by omega)⟩ ho_4 ho_13 (va_P.swap (a := []) (b := wM cB cC cI cJ w_11) (c := wX cB cC cI cJ w_2) hP) (va_D.swap (a := []) (b := wM cB cC cI cJ w_11) (c := wX cB cC cI cJ w_2) hD) hS hl
set_option maxHeartbeats 8000000 in
set_option maxRecDepth 100000 in
theorem lo_3 {p : Program} {l : Launch} {e : Env} {s : State} {m : MethodId} {below : List Frame} {meth : Method} {c : Code} {D : va_G} {cB cC cI cJ : ClassId} {b L : Nat} {xs : Nat → Int32} {adK adV : Nat → Nat} (C0 : lw_At p s m meth c b L xs) (hLN : L ≤ 3072) (hK : va_K D gcl [(cB, .byte), (cC, .char), (cI, .int), (cJ, .long)] s) (hF : sF adK adV (fun q : Nat => s.heap.size ≤ q) s s.heap) (o1 o2 : Nat) (i : Int32) (hi0 : 0 ≤ i.toInt) (hi1 : i.toInt + 6 ≤ (L : Int)) (u v : gEx) (hfX : fX u) (hfM : fM v) (heq : tEq (u.2.1 4) (u.2.2.2.1 7).toInt (v.2.1 0) (v.2.2.2.1 0).toInt ∧ ((u.2.2.2.1 5).toInt = (v.2.2.2.1 6).toInt ∧ (u.2.2.2.1 6).toInt = (v.2.2.2.1 7).toInt ∧ (u.2.2.2.1 15).toInt = (v.2.2.2.1 8).toInt ∧ (u.2.2.2.1 16).toInt = (v.2.2.2.1 9).toInt ∧ (u.2.2.2.1 17).toInt = (v.2.2.2.1 10).toInt ∧ (u.2.2.2.1 18).toInt = (v.2.2.2.1 11).toInt ∧ (u.2.2.2.1 19).toInt = (v.2.2.2.1 12).toInt ∧ (u.2.2.2.1 43).toInt = ((v.2.1 21) 0).toInt ∧ (u.2.2.2.1 24).toInt = (v.2.2.2.1 21).toInt ∧ (u.2.2.2.1 25).toInt = (v.2.2.2.1 22).toInt ∧ (u.2.2.2.1 26).toInt = (v.2.2.2.1 20).toInt) ∧ plE (u.2.1 31) (u.2.1 15) (u.2.2.2.1 20).toInt (v.2.1 17) (v.2.1 18) (v.2.2.2.1 13).toInt (u.2.2.2.1 19).toInt (u.2.2.2.1 16).toInt (u.2.2.2.1 17).toInt) (hu0 : u.1 0 = o1) (hv0 : v.1 0 = o2) (H : Heap) (locs : List Loc) (ls : Array Slot) (hP : va_P D gcl (wX cB cC cI cJ u ++ wM cB cC cI cJ v) H) (hD : va_D (fun q : Nat => s.heap.size ≤ q) (wX cB cC cI cJ u ++ wM cB cC cI cJ v)) (hS : va_S (fun q : Nat => s.heap.size ≤ q) s.heap H locs) (hl : lv_has ls 4 [(3, .int i), (2, .ref o2), (1, .ref o1), (0, .ref b)])
    (kk : ∀ (u v : gEx) (H : Heap) (locs : List Loc) (ls : Array Slot), fX u → fM v → tEq (u.2.1 4) (u.2.2.2.1 7).toInt (v.2.1 0) (v.2.2.2.1 0).toInt ∧ ((u.2.2.2.1 5).toInt = (v.2.2.2.1 6).toInt ∧ (u.2.2.2.1 6).toInt = (v.2.2.2.1 7).toInt ∧ (u.2.2.2.1 15).toInt = (v.2.2.2.1 8).toInt ∧ (u.2.2.2.1 16).toInt = (v.2.2.2.1 9).toInt ∧ (u.2.2.2.1 17).toInt = (v.2.2.2.1 10).toInt ∧ (u.2.2.2.1 18).toInt = (v.2.2.2.1 11).toInt ∧ (u.2.2.2.1 19).toInt = (v.2.2.2.1 12).toInt ∧ (u.2.2.2.1 43).toInt = ((v.2.1 21) 0).toInt ∧ (u.2.2.2.1 24).toInt = (v.2.2.2.1 21).toInt ∧ (u.2.2.2.1 25).toInt = (v.2.2.2.1 22).toInt ∧ (u.2.2.2.1 26).toInt = (v.2.2.2.1 20).toInt) ∧ plE (u.2.1 31) (u.2.1 15) (u.2.2.2.1 20).toInt (v.2.1 17) (v.2.1 18) (v.2.2.2.1 13).toInt (u.2.2.2.1 19).toInt (u.2.2.2.1 16).toInt (u.2.2.2.1 17).toInt → u.1 0 = o1 → v.1 0 = o2 → va_P D gcl (wX cB cC cI cJ u ++ wM cB cC cI cJ v) H → va_D (fun q : Nat => s.heap.size ≤ q) (wX cB cC cI cJ u ++ wM cB cC cI cJ v) → va_S (fun q : Nat => s.heap.size ≤ q) s.heap H locs → lv_has ls 4 [(3, .int i), (2, .ref o2), (1, .ref o1), (0, .ref b)] → W p l e room_1 s m #[Value.ref b] below meth c H locs 126 15724 (lw_Z below #[Value.ref b] s) (F0 m 1519 ls [])) : W p l e room_1 s m #[Value.ref b] below meth c H locs 126 15724 (lw_Z below #[Value.ref b] s) (F0 m 327 ls []) := by
  subst hu0
  subst hv0
  have hlen := heq.1.1
  have hreg := heq.2.1
  obtain ⟨hx, hb, hr, hml, hown, hts0, hX, hbl, hlocks, hgv⟩ := id C0
  have hts := g_tbl hts0
  have hbA : ¬ (fun q : Nat => s.heap.size ≤ q) b := Nat.not_le.mpr hbl
  refine lv_aload_n (pc := 327) hx hb dL_law_327 rfl (lv_at hl 2 rfl) ?_
  refine lv_aload_n (pc := 328) hx hb dL_law_328 rfl (lv_at hl 3 rfl) ?_
  refine lv_iload_n (pc := 329) hx hb dL_law_329 rfl (lv_at hl 0 rfl) ?_
  refine lv_iconst (pc := 330) (v := 1) hx hb dL_law_330 (by decide) ?_
  refine b_iadd (pc := 331) hx hb rfl tI_1 (by omega) (by omega) dL_law_331 (fun x_1 ex_1 => ?_)
  refine va_sld (pc := 332) hx hb hX hbl hbA hS (n_in rfl (by omega) (by omega)) dL_law_332 ?_
  refine lv_topi (fun x_2 ex_2 => ?_)
  have rx_2 := n_rng x_2
  have tx_2 := congrArg Int32.toInt (e_ld (f := xs) (show x_2 = xs (x_1.toInt).toNat from ex_2) (show x_1.toInt = (i.toInt) + (1) by omega))
  refine cc_333 C0 hK hF u hfX hl x_2 hP hD hS (fun r_3 w_4 H locs hf_5 ho_6 he_7 he_8 he_9 he_10 he_11 hP hD hS => ?_)
  have rr_3 := n_rng r_3
  refine lv_pop (pc := 336) hx hb dL_law_336 rfl ?_
  refine lv_aload_n (pc := 337) hx hb dL_law_337 rfl (lv_at hl 1 rfl) ?_
  refine lv_aload_n (pc := 338) hx hb dL_law_338 rfl (lv_at hl 3 rfl) ?_
  refine lv_iload_n (pc := 339) hx hb dL_law_339 rfl (lv_at hl 0 rfl) ?_
  refine lv_iconst (pc := 340) (v := 1) hx hb dL_law_340 (by decide) ?_
  refine b_iadd (pc := 341) hx hb rfl tI_1 (by omega) (by omega) dL_law_341 (fun x_12 ex_12 => ?_)
  refine va_sld (pc := 342) hx hb hX hbl hbA hS (n_in rfl (by omega) (by omega)) dL_law_342 ?_
  refine lv_topi (fun x_13 ex_13 => ?_)
  have rx_13 := n_rng x_13
  have tx_13 := congrArg Int32.toInt (e_ld (f := xs) (show x_13 = xs (x_12.toInt).toNat from ex_13) (show x_12.toInt = (i.toInt) + (1) by omega))
  have hP : va_P D gcl (wM cB cC cI cJ v ++ wX cB cC cI cJ w_4) H := va_P.swap (a := []) (b := wX cB cC cI cJ w_4) (c := wM cB cC cI cJ v) hP
  have hD : va_D (fun q : Nat => s.heap.size ≤ q) (wM cB cC cI cJ v ++ wX cB cC cI cJ w_4) := va_D.swap (a := []) (b := wX cB cC cI cJ w_4) (c := wM cB cC cI cJ v) hD
  refine cc_343 C0 hK hF v hfM hl x_13 hP hD hS (fun r_14 w_15 H locs hf_16 ho_17 he_18 he_19 he_20 he_21 he_22 hP hD hS => ?_)
  have rr_14 := n_rng r_14
  refine lv_pop (pc := 346) hx hb dL_law_346 rfl ?_
  refine lv_goto (pc := 347) (tgt := 1519) hx hb dL_law_347 (by decide) ?_
  exact kk w_4 w_15 H locs ls hf_5 hf_16 ⟨te_cut heq.1 he_8 he_19 (by omega) (by omega), by omega, plE_keep heq.2.2 he_10 he_21 (by omega) (by omega) (by omega)⟩ ho_6 ho_17 (va_P.swap (a := []) (b := wM cB cC cI cJ w_15) (c := wX cB cC cI cJ w_4) hP) (va_D.swap (a := []) (b := wM cB cC cI cJ w_15) (c := wX cB cC cI cJ w_4) hD) hS hl
set_option maxHeartbeats 8000000 in
set_option maxRecDepth 100000 in
theorem lo_4 {p : Program} {l : Launch} {e : Env} {s : State} {m : MethodId} {below : List Frame} {meth : Method} {c : Code} {D : va_G} {cB cC cI cJ : ClassId} {b L : Nat} {xs : Nat → Int32} {adK adV : Nat → Nat} (C0 : lw_At p s m meth c b L xs) (hLN : L ≤ 3072) (hK : va_K D gcl [(cB, .byte), (cC, .char), (cI, .int), (cJ, .long)] s) (hF : sF adK adV (fun q : Nat => s.heap.size ≤ q) s s.heap) (o1 o2 : Nat) (i : Int32) (hi0 : 0 ≤ i.toInt) (hi1 : i.toInt + 6 ≤ (L : Int)) (u v : gEx) (hfX : fX u) (hfM : fM v) (heq : tEq (u.2.1 4) (u.2.2.2.1 7).toInt (v.2.1 0) (v.2.2.2.1 0).toInt ∧ ((u.2.2.2.1 5).toInt = (v.2.2.2.1 6).toInt ∧ (u.2.2.2.1 6).toInt = (v.2.2.2.1 7).toInt ∧ (u.2.2.2.1 15).toInt = (v.2.2.2.1 8).toInt ∧ (u.2.2.2.1 16).toInt = (v.2.2.2.1 9).toInt ∧ (u.2.2.2.1 17).toInt = (v.2.2.2.1 10).toInt ∧ (u.2.2.2.1 18).toInt = (v.2.2.2.1 11).toInt ∧ (u.2.2.2.1 19).toInt = (v.2.2.2.1 12).toInt ∧ (u.2.2.2.1 43).toInt = ((v.2.1 21) 0).toInt ∧ (u.2.2.2.1 24).toInt = (v.2.2.2.1 21).toInt ∧ (u.2.2.2.1 25).toInt = (v.2.2.2.1 22).toInt ∧ (u.2.2.2.1 26).toInt = (v.2.2.2.1 20).toInt) ∧ plE (u.2.1 31) (u.2.1 15) (u.2.2.2.1 20).toInt (v.2.1 17) (v.2.1 18) (v.2.2.2.1 13).toInt (u.2.2.2.1 19).toInt (u.2.2.2.1 16).toInt (u.2.2.2.1 17).toInt) (hu0 : u.1 0 = o1) (hv0 : v.1 0 = o2) (H : Heap) (locs : List Loc) (ls : Array Slot) (hP : va_P D gcl (wX cB cC cI cJ u ++ wM cB cC cI cJ v) H) (hD : va_D (fun q : Nat => s.heap.size ≤ q) (wX cB cC cI cJ u ++ wM cB cC cI cJ v)) (hS : va_S (fun q : Nat => s.heap.size ≤ q) s.heap H locs) (hl : lv_has ls 4 [(3, .int i), (2, .ref o2), (1, .ref o1), (0, .ref b)])
    (kk : ∀ (u v : gEx) (H : Heap) (locs : List Loc) (ls : Array Slot), fX u → fM v → tEq (u.2.1 4) (u.2.2.2.1 7).toInt (v.2.1 0) (v.2.2.2.1 0).toInt ∧ ((u.2.2.2.1 5).toInt = (v.2.2.2.1 6).toInt ∧ (u.2.2.2.1 6).toInt = (v.2.2.2.1 7).toInt ∧ (u.2.2.2.1 15).toInt = (v.2.2.2.1 8).toInt ∧ (u.2.2.2.1 16).toInt = (v.2.2.2.1 9).toInt ∧ (u.2.2.2.1 17).toInt = (v.2.2.2.1 10).toInt ∧ (u.2.2.2.1 18).toInt = (v.2.2.2.1 11).toInt ∧ (u.2.2.2.1 19).toInt = (v.2.2.2.1 12).toInt ∧ (u.2.2.2.1 43).toInt = ((v.2.1 21) 0).toInt ∧ (u.2.2.2.1 24).toInt = (v.2.2.2.1 21).toInt ∧ (u.2.2.2.1 25).toInt = (v.2.2.2.1 22).toInt ∧ (u.2.2.2.1 26).toInt = (v.2.2.2.1 20).toInt) ∧ plE (u.2.1 31) (u.2.1 15) (u.2.2.2.1 20).toInt (v.2.1 17) (v.2.1 18) (v.2.2.2.1 13).toInt (u.2.2.2.1 19).toInt (u.2.2.2.1 16).toInt (u.2.2.2.1 17).toInt → u.1 0 = o1 → v.1 0 = o2 → va_P D gcl (wX cB cC cI cJ u ++ wM cB cC cI cJ v) H → va_D (fun q : Nat => s.heap.size ≤ q) (wX cB cC cI cJ u ++ wM cB cC cI cJ v) → va_S (fun q : Nat => s.heap.size ≤ q) s.heap H locs → lv_has ls 4 [(3, .int i), (2, .ref o2), (1, .ref o1), (0, .ref b)] → W p l e room_1 s m #[Value.ref b] below meth c H locs 126 15724 (lw_Z below #[Value.ref b] s) (F0 m 1519 ls [])) : W p l e room_1 s m #[Value.ref b] below meth c H locs 126 15724 (lw_Z below #[Value.ref b] s) (F0 m 350 ls []) := by
  subst hu0
  subst hv0
  have hlen := heq.1.1
  have hreg := heq.2.1
  obtain ⟨hx, hb, hr, hml, hown, hts0, hX, hbl, hlocks, hgv⟩ := id C0
  have hts := g_tbl hts0
  have hbA : ¬ (fun q : Nat => s.heap.size ≤ q) b := Nat.not_le.mpr hbl
  refine lv_aload_n (pc := 350) hx hb dL_law_350 rfl (lv_at hl 2 rfl) ?_
  refine lv_aload_n (pc := 351) hx hb dL_law_351 rfl (lv_at hl 3 rfl) ?_
  refine lv_iload_n (pc := 352) hx hb dL_law_352 rfl (lv_at hl 0 rfl) ?_
  refine lv_iconst (pc := 353) (v := 1) hx hb dL_law_353 (by decide) ?_
  refine b_iadd (pc := 354) hx hb rfl tI_1 (by omega) (by omega) dL_law_354 (fun x_1 ex_1 => ?_)
  refine va_sld (pc := 355) hx hb hX hbl hbA hS (n_in rfl (by omega) (by omega)) dL_law_355 ?_
  refine lv_topi (fun x_2 ex_2 => ?_)
  have rx_2 := n_rng x_2
  have tx_2 := congrArg Int32.toInt (e_ld (f := xs) (show x_2 = xs (x_1.toInt).toNat from ex_2) (show x_1.toInt = (i.toInt) + (1) by omega))
  refine cc_356 C0 hK hF u hfX hl x_2 hP hD hS (fun r_3 w_4 H locs hf_5 ho_6 he_7 he_8 he_9 he_10 he_11 hP hD hS => ?_)
  have rr_3 := n_rng r_3
  refine lv_pop (pc := 359) hx hb dL_law_359 rfl ?_
  refine lv_aload_n (pc := 360) hx hb dL_law_360 rfl (lv_at hl 1 rfl) ?_
  refine lv_aload_n (pc := 361) hx hb dL_law_361 rfl (lv_at hl 3 rfl) ?_
  refine lv_iload_n (pc := 362) hx hb dL_law_362 rfl (lv_at hl 0 rfl) ?_
  refine lv_iconst (pc := 363) (v := 1) hx hb dL_law_363 (by decide) ?_
  refine b_iadd (pc := 364) hx hb rfl tI_1 (by omega) (by omega) dL_law_364 (fun x_12 ex_12 => ?_)
  refine va_sld (pc := 365) hx hb hX hbl hbA hS (n_in rfl (by omega) (by omega)) dL_law_365 ?_
  refine lv_topi (fun x_13 ex_13 => ?_)
  have rx_13 := n_rng x_13
  have tx_13 := congrArg Int32.toInt (e_ld (f := xs) (show x_13 = xs (x_12.toInt).toNat from ex_13) (show x_12.toInt = (i.toInt) + (1) by omega))
  have hP : va_P D gcl (wM cB cC cI cJ v ++ wX cB cC cI cJ w_4) H := va_P.swap (a := []) (b := wX cB cC cI cJ w_4) (c := wM cB cC cI cJ v) hP
  have hD : va_D (fun q : Nat => s.heap.size ≤ q) (wM cB cC cI cJ v ++ wX cB cC cI cJ w_4) := va_D.swap (a := []) (b := wX cB cC cI cJ w_4) (c := wM cB cC cI cJ v) hD
  refine cc_366 C0 hK hF v hfM hl x_13 hP hD hS (fun r_14 w_15 H locs hf_16 ho_17 he_18 he_19 he_20 he_21 he_22 hP hD hS => ?_)
  have rr_14 := n_rng r_14
  refine lv_pop (pc := 369) hx hb dL_law_369 rfl ?_
  refine lv_goto (pc := 370) (tgt := 1519) hx hb dL_law_370 (by decide) ?_
  exact kk w_4 w_15 H locs ls hf_5 hf_16 ⟨te_cut heq.1 he_8 he_19 (by omega) (by omega), by omega, plE_keep heq.2.2 he_10 he_21 (by omega) (by omega) (by omega)⟩ ho_6 ho_17 (va_P.swap (a := []) (b := wM cB cC cI cJ w_15) (c := wX cB cC cI cJ w_4) hP) (va_D.swap (a := []) (b := wM cB cC cI cJ w_15) (c := wX cB cC cI cJ w_4) hD) hS hl
set_option maxHeartbeats 8000000 in
set_option maxRecDepth 100000 in
theorem lo_5 {p : Program} {l : Launch} {e : Env} {s : State} {m : MethodId} {below : List Frame} {meth : Method} {c : Code} {D : va_G} {cB cC cI cJ : ClassId} {b L : Nat} {xs : Nat → Int32} {adK adV : Nat → Nat} (C0 : lw_At p s m meth c b L xs) (hLN : L ≤ 3072) (hK : va_K D gcl [(cB, .byte), (cC, .char), (cI, .int), (cJ, .long)] s) (hF : sF adK adV (fun q : Nat => s.heap.size ≤ q) s s.heap) (o1 o2 : Nat) (i : Int32) (hi0 : 0 ≤ i.toInt) (hi1 : i.toInt + 6 ≤ (L : Int)) (u v : gEx) (hfX : fX u) (hfM : fM v) (heq : tEq (u.2.1 4) (u.2.2.2.1 7).toInt (v.2.1 0) (v.2.2.2.1 0).toInt ∧ ((u.2.2.2.1 5).toInt = (v.2.2.2.1 6).toInt ∧ (u.2.2.2.1 6).toInt = (v.2.2.2.1 7).toInt ∧ (u.2.2.2.1 15).toInt = (v.2.2.2.1 8).toInt ∧ (u.2.2.2.1 16).toInt = (v.2.2.2.1 9).toInt ∧ (u.2.2.2.1 17).toInt = (v.2.2.2.1 10).toInt ∧ (u.2.2.2.1 18).toInt = (v.2.2.2.1 11).toInt ∧ (u.2.2.2.1 19).toInt = (v.2.2.2.1 12).toInt ∧ (u.2.2.2.1 43).toInt = ((v.2.1 21) 0).toInt ∧ (u.2.2.2.1 24).toInt = (v.2.2.2.1 21).toInt ∧ (u.2.2.2.1 25).toInt = (v.2.2.2.1 22).toInt ∧ (u.2.2.2.1 26).toInt = (v.2.2.2.1 20).toInt) ∧ plE (u.2.1 31) (u.2.1 15) (u.2.2.2.1 20).toInt (v.2.1 17) (v.2.1 18) (v.2.2.2.1 13).toInt (u.2.2.2.1 19).toInt (u.2.2.2.1 16).toInt (u.2.2.2.1 17).toInt) (hu0 : u.1 0 = o1) (hv0 : v.1 0 = o2) (H : Heap) (locs : List Loc) (ls : Array Slot) (hP : va_P D gcl (wX cB cC cI cJ u ++ wM cB cC cI cJ v) H) (hD : va_D (fun q : Nat => s.heap.size ≤ q) (wX cB cC cI cJ u ++ wM cB cC cI cJ v)) (hS : va_S (fun q : Nat => s.heap.size ≤ q) s.heap H locs) (hl : lv_has ls 4 [(3, .int i), (2, .ref o2), (1, .ref o1), (0, .ref b)])
    (kk : ∀ (u v : gEx) (H : Heap) (locs : List Loc) (ls : Array Slot), fX u → fM v → tEq (u.2.1 4) (u.2.2.2.1 7).toInt (v.2.1 0) (v.2.2.2.1 0).toInt ∧ ((u.2.2.2.1 5).toInt = (v.2.2.2.1 6).toInt ∧ (u.2.2.2.1 6).toInt = (v.2.2.2.1 7).toInt ∧ (u.2.2.2.1 15).toInt = (v.2.2.2.1 8).toInt ∧ (u.2.2.2.1 16).toInt = (v.2.2.2.1 9).toInt ∧ (u.2.2.2.1 17).toInt = (v.2.2.2.1 10).toInt ∧ (u.2.2.2.1 18).toInt = (v.2.2.2.1 11).toInt ∧ (u.2.2.2.1 19).toInt = (v.2.2.2.1 12).toInt ∧ (u.2.2.2.1 43).toInt = ((v.2.1 21) 0).toInt ∧ (u.2.2.2.1 24).toInt = (v.2.2.2.1 21).toInt ∧ (u.2.2.2.1 25).toInt = (v.2.2.2.1 22).toInt ∧ (u.2.2.2.1 26).toInt = (v.2.2.2.1 20).toInt) ∧ plE (u.2.1 31) (u.2.1 15) (u.2.2.2.1 20).toInt (v.2.1 17) (v.2.1 18) (v.2.2.2.1 13).toInt (u.2.2.2.1 19).toInt (u.2.2.2.1 16).toInt (u.2.2.2.1 17).toInt → u.1 0 = o1 → v.1 0 = o2 → va_P D gcl (wX cB cC cI cJ u ++ wM cB cC cI cJ v) H → va_D (fun q : Nat => s.heap.size ≤ q) (wX cB cC cI cJ u ++ wM cB cC cI cJ v) → va_S (fun q : Nat => s.heap.size ≤ q) s.heap H locs → lv_has ls 4 [(3, .int i), (2, .ref o2), (1, .ref o1), (0, .ref b)] → W p l e room_1 s m #[Value.ref b] below meth c H locs 126 15724 (lw_Z below #[Value.ref b] s) (F0 m 1519 ls [])) : W p l e room_1 s m #[Value.ref b] below meth c H locs 126 15724 (lw_Z below #[Value.ref b] s) (F0 m 373 ls []) := by
  subst hu0
  subst hv0
  have hlen := heq.1.1
  have hreg := heq.2.1
  obtain ⟨hx, hb, hr, hml, hown, hts0, hX, hbl, hlocks, hgv⟩ := id C0
  have hts := g_tbl hts0
  have hbA : ¬ (fun q : Nat => s.heap.size ≤ q) b := Nat.not_le.mpr hbl
  refine lv_aload_n (pc := 373) hx hb dL_law_373 rfl (lv_at hl 2 rfl) ?_
  refine lv_aload_n (pc := 374) hx hb dL_law_374 rfl (lv_at hl 3 rfl) ?_
  refine lv_iload_n (pc := 375) hx hb dL_law_375 rfl (lv_at hl 0 rfl) ?_
  refine lv_iconst (pc := 376) (v := 1) hx hb dL_law_376 (by decide) ?_
  refine b_iadd (pc := 377) hx hb rfl tI_1 (by omega) (by omega) dL_law_377 (fun x_1 ex_1 => ?_)
  refine va_sld (pc := 378) hx hb hX hbl hbA hS (n_in rfl (by omega) (by omega)) dL_law_378 ?_
  refine lv_topi (fun x_2 ex_2 => ?_)
  have rx_2 := n_rng x_2
  have tx_2 := congrArg Int32.toInt (e_ld (f := xs) (show x_2 = xs (x_1.toInt).toNat from ex_2) (show x_1.toInt = (i.toInt) + (1) by omega))
  refine lv_aload_n (pc := 379) hx hb dL_law_379 rfl (lv_at hl 3 rfl) ?_
  refine lv_iload_n (pc := 380) hx hb dL_law_380 rfl (lv_at hl 0 rfl) ?_
  refine lv_iconst (pc := 381) (v := 2) hx hb dL_law_381 (by decide) ?_
  as_aux_lemma =>
    refine b_iadd (pc := 382) hx hb rfl tI_2 (by omega) (by omega) dL_law_382 (fun x_3 ex_3 => ?_)
    refine va_sld (pc := 383) hx hb hX hbl hbA hS (n_in rfl (by omega) (by omega)) dL_law_383 ?_
    refine lv_topi (fun x_4 ex_4 => ?_)
    have rx_4 := n_rng x_4
    have tx_4 := congrArg Int32.toInt (e_ld (f := xs) (show x_4 = xs (x_3.toInt).toNat from ex_4) (show x_3.toInt = (i.toInt) + (2) by omega))
    refine lv_aload_n (pc := 384) hx hb dL_law_384 rfl (lv_at hl 3 rfl) ?_
    refine lv_iload_n (pc := 385) hx hb dL_law_385 rfl (lv_at hl 0 rfl) ?_
    refine lv_iconst (pc := 386) (v := 3) hx hb dL_law_386 (by decide) ?_
    refine b_iadd (pc := 387) hx hb rfl tI_3 (by omega) (by omega) dL_law_387 (fun x_5 ex_5 => ?_)
    refine va_sld (pc := 388) hx hb hX hbl hbA hS (n_in rfl (by omega) (by omega)) dL_law_388 ?_
    refine lv_topi (fun x_6 ex_6 => ?_)
    have rx_6 := n_rng x_6
    have tx_6 := congrArg Int32.toInt (e_ld (f := xs) (show x_6 = xs (x_5.toInt).toNat from ex_6) (show x_5.toInt = (i.toInt) + (3) by omega))
    refine b_if_eq (pc := 389) (tgt := 396) hx hb rfl  dL_law_389 (by decide) (fun c_7 => ?_) (fun c_7 => ?_)
    ·
      as_aux_lemma =>
        refine lv_iconst (pc := 396) (v := 0) hx hb dL_law_396 (by decide) ?_
        refine cc_397 C0 hK hF u hfX hl x_2 x_4 (0 : Int32) (by rw [tI_0]; decide) hP hD hS (fun r_8 w_9 H locs hf_10 ho_11 he_12 he_13 he_14 he_15 he_16 he_17 hP hD hS => ?_)
        have rr_8 := n_rng r_8
        refine lv_aload_n (pc := 400) hx hb dL_law_400 rfl (lv_at hl 1 rfl) ?_
        refine lv_aload_n (pc := 401) hx hb dL_law_401 rfl (lv_at hl 3 rfl) ?_
        refine lv_iload_n (pc := 402) hx hb dL_law_402 rfl (lv_at hl 0 rfl) ?_
        refine lv_iconst (pc := 403) (v := 1) hx hb dL_law_403 (by decide) ?_
        refine b_iadd (pc := 404) hx hb rfl tI_1 (by omega) (by omega) dL_law_404 (fun x_18 ex_18 => ?_)
        refine va_sld (pc := 405) hx hb hX hbl hbA hS (n_in rfl (by omega) (by omega)) dL_law_405 ?_
        refine lv_topi (fun x_19 ex_19 => ?_)
        have rx_19 := n_rng x_19
        have tx_19 := congrArg Int32.toInt (e_ld (f := xs) (show x_19 = xs (x_18.toInt).toNat from ex_19) (show x_18.toInt = (i.toInt) + (1) by omega))
        refine lv_aload_n (pc := 406) hx hb dL_law_406 rfl (lv_at hl 3 rfl) ?_
        as_aux_lemma =>
          refine lv_iload_n (pc := 407) hx hb dL_law_407 rfl (lv_at hl 0 rfl) ?_
          refine lv_iconst (pc := 408) (v := 2) hx hb dL_law_408 (by decide) ?_
          refine b_iadd (pc := 409) hx hb rfl tI_2 (by omega) (by omega) dL_law_409 (fun x_20 ex_20 => ?_)
          refine va_sld (pc := 410) hx hb hX hbl hbA hS (n_in rfl (by omega) (by omega)) dL_law_410 ?_
          refine lv_topi (fun x_21 ex_21 => ?_)
          have rx_21 := n_rng x_21
          have tx_21 := congrArg Int32.toInt (e_ld (f := xs) (show x_21 = xs (x_20.toInt).toNat from ex_21) (show x_20.toInt = (i.toInt) + (2) by omega))
          refine lv_aload_n (pc := 411) hx hb dL_law_411 rfl (lv_at hl 3 rfl) ?_
          refine lv_iload_n (pc := 412) hx hb dL_law_412 rfl (lv_at hl 0 rfl) ?_
          refine lv_iconst (pc := 413) (v := 3) hx hb dL_law_413 (by decide) ?_
          refine b_iadd (pc := 414) hx hb rfl tI_3 (by omega) (by omega) dL_law_414 (fun x_22 ex_22 => ?_)
          refine va_sld (pc := 415) hx hb hX hbl hbA hS (n_in rfl (by omega) (by omega)) dL_law_415 ?_
          as_aux_lemma =>
            refine lv_topi (fun x_23 ex_23 => ?_)
            have rx_23 := n_rng x_23
            have tx_23 := congrArg Int32.toInt (e_ld (f := xs) (show x_23 = xs (x_22.toInt).toNat from ex_23) (show x_22.toInt = (i.toInt) + (3) by omega))
            refine b_if_eq (pc := 416) (tgt := 423) hx hb rfl  dL_law_416 (by decide) (fun c_24 => ?_) (fun c_24 => ?_)
            ·
              as_aux_lemma =>
                refine lv_iconst (pc := 423) (v := 0) hx hb dL_law_423 (by decide) ?_
                have hP : va_P D gcl (wM cB cC cI cJ v ++ wX cB cC cI cJ w_9) H := va_P.swap (a := []) (b := wX cB cC cI cJ w_9) (c := wM cB cC cI cJ v) hP
                have hD : va_D (fun q : Nat => s.heap.size ≤ q) (wM cB cC cI cJ v ++ wX cB cC cI cJ w_9) := va_D.swap (a := []) (b := wX cB cC cI cJ w_9) (c := wM cB cC cI cJ v) hD
                refine cc_424 C0 hK hF v hfM hl x_19 x_21 (0 : Int32) r_8 (by rw [tI_0]; decide) hP hD hS (fun r_25 w_26 H locs hf_27 ho_28 he_29 he_30 he_31 he_32 he_33 he_34 hP hD hS => ?_)
                have rr_25 := n_rng r_25
                have b9oXx16 := (pX_14 (u := u) hfX)
                have b9oXx17 := (pX_15 (u := u) hfX)
                have b9oMx9 := (pM_7 (u := v) hfM)
                have b9oMx10 := (pM_8 (u := v) hfM)
                have b9oMx21 := (pM_17 (u := v) hfM)
                have b9oMx22 := (pM_18 (u := v) hfM)
                have b9oMx20 := (pM_16 (u := v) hfM)
                have b9ose := (pX_58 (u := u) hfX)
                have b9ohr_a0_0 := (pM_24 (u := v) hfM)
                have b9ohr_a0_1 := (pM_25 (u := v) hfM)
                have b9ohr_a0_2 := (pM_26 (u := v) hfM)
                have t90 := tI_0
                have t91 := tI_1
                have ea0 : x_19 = x_2 := Int32.toInt_inj.mp (by omega)
                rw [ea0] at he_34
                have ea1 : x_21 = x_4 := Int32.toInt_inj.mp (by omega)
                rw [ea1] at he_34
                have hq9 : r_8.toInt = r_25.toInt := tb_eq heq.2.2 (pX_57 (u := u) hfX) (pM_39 (u := v) hfM) he_17 he_34 (by omega) (by omega) (by omega) (by omega) (by omega) (by omega) (by omega) (by omega)
                refine b_icmp_eq (pc := 427) (tgt := 1519) hx hb rfl rfl  dL_law_427 (by decide) (fun c_35 => ?_) (fun c_35 => ?_)
                ·
                  as_aux_lemma =>
                    exact kk w_9 w_26 H locs ls hf_10 hf_27 ⟨te_cut heq.1 he_13 he_30 (by omega) (by omega), by omega, plE_keep heq.2.2 he_15 he_32 (by omega) (by omega) (by omega)⟩ ho_11 ho_28 (va_P.swap (a := []) (b := wM cB cC cI cJ w_26) (c := wX cB cC cI cJ w_9) hP) (va_D.swap (a := []) (b := wM cB cC cI cJ w_26) (c := wX cB cC cI cJ w_9) hD) hS hl
                ·
                  as_aux_lemma =>
                    refine lv_iconst (pc := 430) (v := 0) hx hb dL_law_430 (by decide) ?_
                    exact False.elim (by omega)
            ·
              as_aux_lemma =>
                refine lv_iconst (pc := 419) (v := 1) hx hb dL_law_419 (by decide) ?_
                refine lv_goto (pc := 420) (tgt := 424) hx hb dL_law_420 (by decide) ?_
                have hP : va_P D gcl (wM cB cC cI cJ v ++ wX cB cC cI cJ w_9) H := va_P.swap (a := []) (b := wX cB cC cI cJ w_9) (c := wM cB cC cI cJ v) hP
                have hD : va_D (fun q : Nat => s.heap.size ≤ q) (wM cB cC cI cJ v ++ wX cB cC cI cJ w_9) := va_D.swap (a := []) (b := wX cB cC cI cJ w_9) (c := wM cB cC cI cJ v) hD
                refine cc_424 C0 hK hF v hfM hl x_19 x_21 (1 : Int32) r_8 (by rw [tI_1]; decide) hP hD hS (fun r_36 w_37 H locs hf_38 ho_39 he_40 he_41 he_42 he_43 he_44 he_45 hP hD hS => ?_)
                have rr_36 := n_rng r_36
                have b9oXx16 := (pX_14 (u := u) hfX)
                have b9oXx17 := (pX_15 (u := u) hfX)
                have b9oMx9 := (pM_7 (u := v) hfM)
                have b9oMx10 := (pM_8 (u := v) hfM)
                have b9oMx21 := (pM_17 (u := v) hfM)
                have b9oMx22 := (pM_18 (u := v) hfM)
                have b9oMx20 := (pM_16 (u := v) hfM)
                have b9ose := (pX_58 (u := u) hfX)
                have b9ohr_a0_0 := (pM_24 (u := v) hfM)
                have b9ohr_a0_1 := (pM_25 (u := v) hfM)
                have b9ohr_a0_2 := (pM_26 (u := v) hfM)
                have t90 := tI_0
                have t91 := tI_1
                have ea0 : x_19 = x_2 := Int32.toInt_inj.mp (by omega)
                rw [ea0] at he_45
                have ea1 : x_21 = x_4 := Int32.toInt_inj.mp (by omega)
                rw [ea1] at he_45
                have hq9 : r_8.toInt = r_36.toInt := tb_eq heq.2.2 (pX_57 (u := u) hfX) (pM_39 (u := v) hfM) he_17 he_45 (by omega) (by omega) (by omega) (by omega) (by omega) (by omega) (by omega) (by omega)
                refine b_icmp_eq (pc := 427) (tgt := 1519) hx hb rfl rfl  dL_law_427 (by decide) (fun c_46 => ?_) (fun c_46 => ?_)
                ·
                  as_aux_lemma =>
                    exact kk w_9 w_37 H locs ls hf_10 hf_38 ⟨te_cut heq.1 he_13 he_41 (by omega) (by omega), by omega, plE_keep heq.2.2 he_15 he_43 (by omega) (by omega) (by omega)⟩ ho_11 ho_39 (va_P.swap (a := []) (b := wM cB cC cI cJ w_37) (c := wX cB cC cI cJ w_9) hP) (va_D.swap (a := []) (b := wM cB cC cI cJ w_37) (c := wX cB cC cI cJ w_9) hD) hS hl
                ·
                  as_aux_lemma =>
                    refine lv_iconst (pc := 430) (v := 0) hx hb dL_law_430 (by decide) ?_
                    exact False.elim (by omega)
    ·
      as_aux_lemma =>
        refine lv_iconst (pc := 392) (v := 1) hx hb dL_law_392 (by decide) ?_
        refine lv_goto (pc := 393) (tgt := 397) hx hb dL_law_393 (by decide) ?_
        refine cc_397 C0 hK hF u hfX hl x_2 x_4 (1 : Int32) (by rw [tI_1]; decide) hP hD hS (fun r_47 w_48 H locs hf_49 ho_50 he_51 he_52 he_53 he_54 he_55 he_56 hP hD hS => ?_)
        have rr_47 := n_rng r_47
        refine lv_aload_n (pc := 400) hx hb dL_law_400 rfl (lv_at hl 1 rfl) ?_
        refine lv_aload_n (pc := 401) hx hb dL_law_401 rfl (lv_at hl 3 rfl) ?_
        refine lv_iload_n (pc := 402) hx hb dL_law_402 rfl (lv_at hl 0 rfl) ?_
        refine lv_iconst (pc := 403) (v := 1) hx hb dL_law_403 (by decide) ?_
        refine b_iadd (pc := 404) hx hb rfl tI_1 (by omega) (by omega) dL_law_404 (fun x_57 ex_57 => ?_)
        refine va_sld (pc := 405) hx hb hX hbl hbA hS (n_in rfl (by omega) (by omega)) dL_law_405 ?_
        refine lv_topi (fun x_58 ex_58 => ?_)
        have rx_58 := n_rng x_58
        have tx_58 := congrArg Int32.toInt (e_ld (f := xs) (show x_58 = xs (x_57.toInt).toNat from ex_58) (show x_57.toInt = (i.toInt) + (1) by omega))
        as_aux_lemma =>
          refine lv_aload_n (pc := 406) hx hb dL_law_406 rfl (lv_at hl 3 rfl) ?_
          refine lv_iload_n (pc := 407) hx hb dL_law_407 rfl (lv_at hl 0 rfl) ?_
          refine lv_iconst (pc := 408) (v := 2) hx hb dL_law_408 (by decide) ?_
          refine b_iadd (pc := 409) hx hb rfl tI_2 (by omega) (by omega) dL_law_409 (fun x_59 ex_59 => ?_)
          refine va_sld (pc := 410) hx hb hX hbl hbA hS (n_in rfl (by omega) (by omega)) dL_law_410 ?_
          refine lv_topi (fun x_60 ex_60 => ?_)
          have rx_60 := n_rng x_60
          have tx_60 := congrArg Int32.toInt (e_ld (f := xs) (show x_60 = xs (x_59.toInt).toNat from ex_60) (show x_59.toInt = (i.toInt) + (2) by omega))
          refine lv_aload_n (pc := 411) hx hb dL_law_411 rfl (lv_at hl 3 rfl) ?_
          refine lv_iload_n (pc := 412) hx hb dL_law_412 rfl (lv_at hl 0 rfl) ?_
          refine lv_iconst (pc := 413) (v := 3) hx hb dL_law_413 (by decide) ?_
          refine b_iadd (pc := 414) hx hb rfl tI_3 (by omega) (by omega) dL_law_414 (fun x_61 ex_61 => ?_)
          as_aux_lemma =>
            refine va_sld (pc := 415) hx hb hX hbl hbA hS (n_in rfl (by omega) (by omega)) dL_law_415 ?_
            refine lv_topi (fun x_62 ex_62 => ?_)
            have rx_62 := n_rng x_62
            have tx_62 := congrArg Int32.toInt (e_ld (f := xs) (show x_62 = xs (x_61.toInt).toNat from ex_62) (show x_61.toInt = (i.toInt) + (3) by omega))
            refine b_if_eq (pc := 416) (tgt := 423) hx hb rfl  dL_law_416 (by decide) (fun c_63 => ?_) (fun c_63 => ?_)
            ·
              as_aux_lemma =>
                refine lv_iconst (pc := 423) (v := 0) hx hb dL_law_423 (by decide) ?_
                have hP : va_P D gcl (wM cB cC cI cJ v ++ wX cB cC cI cJ w_48) H := va_P.swap (a := []) (b := wX cB cC cI cJ w_48) (c := wM cB cC cI cJ v) hP
                have hD : va_D (fun q : Nat => s.heap.size ≤ q) (wM cB cC cI cJ v ++ wX cB cC cI cJ w_48) := va_D.swap (a := []) (b := wX cB cC cI cJ w_48) (c := wM cB cC cI cJ v) hD
                refine cc_424 C0 hK hF v hfM hl x_58 x_60 (0 : Int32) r_47 (by rw [tI_0]; decide) hP hD hS (fun r_64 w_65 H locs hf_66 ho_67 he_68 he_69 he_70 he_71 he_72 he_73 hP hD hS => ?_)
                have rr_64 := n_rng r_64
                have b9oXx16 := (pX_14 (u := u) hfX)
                have b9oXx17 := (pX_15 (u := u) hfX)
                have b9oMx9 := (pM_7 (u := v) hfM)
                have b9oMx10 := (pM_8 (u := v) hfM)
                have b9oMx21 := (pM_17 (u := v) hfM)
                have b9oMx22 := (pM_18 (u := v) hfM)
                have b9oMx20 := (pM_16 (u := v) hfM)
                have b9ose := (pX_58 (u := u) hfX)
                have b9ohr_a0_0 := (pM_24 (u := v) hfM)
                have b9ohr_a0_1 := (pM_25 (u := v) hfM)
                have b9ohr_a0_2 := (pM_26 (u := v) hfM)
                have t90 := tI_0
                have t91 := tI_1
                have ea0 : x_58 = x_2 := Int32.toInt_inj.mp (by omega)
                rw [ea0] at he_73
                have ea1 : x_60 = x_4 := Int32.toInt_inj.mp (by omega)
                rw [ea1] at he_73
                have hq9 : r_47.toInt = r_64.toInt := tb_eq heq.2.2 (pX_57 (u := u) hfX) (pM_39 (u := v) hfM) he_56 he_73 (by omega) (by omega) (by omega) (by omega) (by omega) (by omega) (by omega) (by omega)
                refine b_icmp_eq (pc := 427) (tgt := 1519) hx hb rfl rfl  dL_law_427 (by decide) (fun c_74 => ?_) (fun c_74 => ?_)
                ·
                  as_aux_lemma =>
                    exact kk w_48 w_65 H locs ls hf_49 hf_66 ⟨te_cut heq.1 he_52 he_69 (by omega) (by omega), by omega, plE_keep heq.2.2 he_54 he_71 (by omega) (by omega) (by omega)⟩ ho_50 ho_67 (va_P.swap (a := []) (b := wM cB cC cI cJ w_65) (c := wX cB cC cI cJ w_48) hP) (va_D.swap (a := []) (b := wM cB cC cI cJ w_65) (c := wX cB cC cI cJ w_48) hD) hS hl
                ·
                  as_aux_lemma =>
                    refine lv_iconst (pc := 430) (v := 0) hx hb dL_law_430 (by decide) ?_
                    exact False.elim (by omega)
            ·
              as_aux_lemma =>
                refine lv_iconst (pc := 419) (v := 1) hx hb dL_law_419 (by decide) ?_
                refine lv_goto (pc := 420) (tgt := 424) hx hb dL_law_420 (by decide) ?_
                have hP : va_P D gcl (wM cB cC cI cJ v ++ wX cB cC cI cJ w_48) H := va_P.swap (a := []) (b := wX cB cC cI cJ w_48) (c := wM cB cC cI cJ v) hP
                have hD : va_D (fun q : Nat => s.heap.size ≤ q) (wM cB cC cI cJ v ++ wX cB cC cI cJ w_48) := va_D.swap (a := []) (b := wX cB cC cI cJ w_48) (c := wM cB cC cI cJ v) hD
                refine cc_424 C0 hK hF v hfM hl x_58 x_60 (1 : Int32) r_47 (by rw [tI_1]; decide) hP hD hS (fun r_75 w_76 H locs hf_77 ho_78 he_79 he_80 he_81 he_82 he_83 he_84 hP hD hS => ?_)
                have rr_75 := n_rng r_75
                have b9oXx16 := (pX_14 (u := u) hfX)
                have b9oXx17 := (pX_15 (u := u) hfX)
                have b9oMx9 := (pM_7 (u := v) hfM)
                have b9oMx10 := (pM_8 (u := v) hfM)
                have b9oMx21 := (pM_17 (u := v) hfM)
                have b9oMx22 := (pM_18 (u := v) hfM)
                have b9oMx20 := (pM_16 (u := v) hfM)
                have b9ose := (pX_58 (u := u) hfX)
                have b9ohr_a0_0 := (pM_24 (u := v) hfM)
                have b9ohr_a0_1 := (pM_25 (u := v) hfM)
                have b9ohr_a0_2 := (pM_26 (u := v) hfM)
                have t90 := tI_0
                have t91 := tI_1
                have ea0 : x_58 = x_2 := Int32.toInt_inj.mp (by omega)
                rw [ea0] at he_84
                have ea1 : x_60 = x_4 := Int32.toInt_inj.mp (by omega)
                rw [ea1] at he_84
                have hq9 : r_47.toInt = r_75.toInt := tb_eq heq.2.2 (pX_57 (u := u) hfX) (pM_39 (u := v) hfM) he_56 he_84 (by omega) (by omega) (by omega) (by omega) (by omega) (by omega) (by omega) (by omega)
                refine b_icmp_eq (pc := 427) (tgt := 1519) hx hb rfl rfl  dL_law_427 (by decide) (fun c_85 => ?_) (fun c_85 => ?_)
                ·
                  as_aux_lemma =>
                    exact kk w_48 w_76 H locs ls hf_49 hf_77 ⟨te_cut heq.1 he_52 he_80 (by omega) (by omega), by omega, plE_keep heq.2.2 he_54 he_82 (by omega) (by omega) (by omega)⟩ ho_50 ho_78 (va_P.swap (a := []) (b := wM cB cC cI cJ w_76) (c := wX cB cC cI cJ w_48) hP) (va_D.swap (a := []) (b := wM cB cC cI cJ w_76) (c := wX cB cC cI cJ w_48) hD) hS hl
                ·
                  as_aux_lemma =>
                    refine lv_iconst (pc := 430) (v := 0) hx hb dL_law_430 (by decide) ?_
                    exact False.elim (by omega)
set_option maxHeartbeats 8000000 in
set_option maxRecDepth 100000 in
theorem lo_6 {p : Program} {l : Launch} {e : Env} {s : State} {m : MethodId} {below : List Frame} {meth : Method} {c : Code} {D : va_G} {cB cC cI cJ : ClassId} {b L : Nat} {xs : Nat → Int32} {adK adV : Nat → Nat} (C0 : lw_At p s m meth c b L xs) (hLN : L ≤ 3072) (hK : va_K D gcl [(cB, .byte), (cC, .char), (cI, .int), (cJ, .long)] s) (hF : sF adK adV (fun q : Nat => s.heap.size ≤ q) s s.heap) (o1 o2 : Nat) (i : Int32) (hi0 : 0 ≤ i.toInt) (hi1 : i.toInt + 6 ≤ (L : Int)) (u v : gEx) (hfX : fX u) (hfM : fM v) (heq : tEq (u.2.1 4) (u.2.2.2.1 7).toInt (v.2.1 0) (v.2.2.2.1 0).toInt ∧ ((u.2.2.2.1 5).toInt = (v.2.2.2.1 6).toInt ∧ (u.2.2.2.1 6).toInt = (v.2.2.2.1 7).toInt ∧ (u.2.2.2.1 15).toInt = (v.2.2.2.1 8).toInt ∧ (u.2.2.2.1 16).toInt = (v.2.2.2.1 9).toInt ∧ (u.2.2.2.1 17).toInt = (v.2.2.2.1 10).toInt ∧ (u.2.2.2.1 18).toInt = (v.2.2.2.1 11).toInt ∧ (u.2.2.2.1 19).toInt = (v.2.2.2.1 12).toInt ∧ (u.2.2.2.1 43).toInt = ((v.2.1 21) 0).toInt ∧ (u.2.2.2.1 24).toInt = (v.2.2.2.1 21).toInt ∧ (u.2.2.2.1 25).toInt = (v.2.2.2.1 22).toInt ∧ (u.2.2.2.1 26).toInt = (v.2.2.2.1 20).toInt) ∧ plE (u.2.1 31) (u.2.1 15) (u.2.2.2.1 20).toInt (v.2.1 17) (v.2.1 18) (v.2.2.2.1 13).toInt (u.2.2.2.1 19).toInt (u.2.2.2.1 16).toInt (u.2.2.2.1 17).toInt) (hu0 : u.1 0 = o1) (hv0 : v.1 0 = o2) (H : Heap) (locs : List Loc) (ls : Array Slot) (hP : va_P D gcl (wX cB cC cI cJ u ++ wM cB cC cI cJ v) H) (hD : va_D (fun q : Nat => s.heap.size ≤ q) (wX cB cC cI cJ u ++ wM cB cC cI cJ v)) (hS : va_S (fun q : Nat => s.heap.size ≤ q) s.heap H locs) (hl : lv_has ls 4 [(3, .int i), (2, .ref o2), (1, .ref o1), (0, .ref b)])
    (kk : ∀ (u v : gEx) (H : Heap) (locs : List Loc) (ls : Array Slot), fX u → fM v → tEq (u.2.1 4) (u.2.2.2.1 7).toInt (v.2.1 0) (v.2.2.2.1 0).toInt ∧ ((u.2.2.2.1 5).toInt = (v.2.2.2.1 6).toInt ∧ (u.2.2.2.1 6).toInt = (v.2.2.2.1 7).toInt ∧ (u.2.2.2.1 15).toInt = (v.2.2.2.1 8).toInt ∧ (u.2.2.2.1 16).toInt = (v.2.2.2.1 9).toInt ∧ (u.2.2.2.1 17).toInt = (v.2.2.2.1 10).toInt ∧ (u.2.2.2.1 18).toInt = (v.2.2.2.1 11).toInt ∧ (u.2.2.2.1 19).toInt = (v.2.2.2.1 12).toInt ∧ (u.2.2.2.1 43).toInt = ((v.2.1 21) 0).toInt ∧ (u.2.2.2.1 24).toInt = (v.2.2.2.1 21).toInt ∧ (u.2.2.2.1 25).toInt = (v.2.2.2.1 22).toInt ∧ (u.2.2.2.1 26).toInt = (v.2.2.2.1 20).toInt) ∧ plE (u.2.1 31) (u.2.1 15) (u.2.2.2.1 20).toInt (v.2.1 17) (v.2.1 18) (v.2.2.2.1 13).toInt (u.2.2.2.1 19).toInt (u.2.2.2.1 16).toInt (u.2.2.2.1 17).toInt → u.1 0 = o1 → v.1 0 = o2 → va_P D gcl (wX cB cC cI cJ u ++ wM cB cC cI cJ v) H → va_D (fun q : Nat => s.heap.size ≤ q) (wX cB cC cI cJ u ++ wM cB cC cI cJ v) → va_S (fun q : Nat => s.heap.size ≤ q) s.heap H locs → lv_has ls 4 [(3, .int i), (2, .ref o2), (1, .ref o1), (0, .ref b)] → W p l e room_1 s m #[Value.ref b] below meth c H locs 126 15724 (lw_Z below #[Value.ref b] s) (F0 m 1519 ls [])) : W p l e room_1 s m #[Value.ref b] below meth c H locs 126 15724 (lw_Z below #[Value.ref b] s) (F0 m 432 ls []) := by
  subst hu0
  subst hv0
  have hlen := heq.1.1
  have hreg := heq.2.1
  obtain ⟨hx, hb, hr, hml, hown, hts0, hX, hbl, hlocks, hgv⟩ := id C0
  have hts := g_tbl hts0
  have hbA : ¬ (fun q : Nat => s.heap.size ≤ q) b := Nat.not_le.mpr hbl
  refine lv_aload_n (pc := 432) hx hb dL_law_432 rfl (lv_at hl 2 rfl) ?_
  refine lv_aload_n (pc := 433) hx hb dL_law_433 rfl (lv_at hl 3 rfl) ?_
  refine lv_iload_n (pc := 434) hx hb dL_law_434 rfl (lv_at hl 0 rfl) ?_
  refine lv_iconst (pc := 435) (v := 1) hx hb dL_law_435 (by decide) ?_
  refine b_iadd (pc := 436) hx hb rfl tI_1 (by omega) (by omega) dL_law_436 (fun x_1 ex_1 => ?_)
  refine va_sld (pc := 437) hx hb hX hbl hbA hS (n_in rfl (by omega) (by omega)) dL_law_437 ?_
  refine lv_topi (fun x_2 ex_2 => ?_)
  have rx_2 := n_rng x_2
  have tx_2 := congrArg Int32.toInt (e_ld (f := xs) (show x_2 = xs (x_1.toInt).toNat from ex_2) (show x_1.toInt = (i.toInt) + (1) by omega))
  refine lv_aload_n (pc := 438) hx hb dL_law_438 rfl (lv_at hl 3 rfl) ?_
  refine lv_iload_n (pc := 439) hx hb dL_law_439 rfl (lv_at hl 0 rfl) ?_
  refine lv_iconst (pc := 440) (v := 2) hx hb dL_law_440 (by decide) ?_
  as_aux_lemma =>
    refine b_iadd (pc := 441) hx hb rfl tI_2 (by omega) (by omega) dL_law_441 (fun x_3 ex_3 => ?_)
    refine va_sld (pc := 442) hx hb hX hbl hbA hS (n_in rfl (by omega) (by omega)) dL_law_442 ?_
    refine lv_topi (fun x_4 ex_4 => ?_)
    have rx_4 := n_rng x_4
    have tx_4 := congrArg Int32.toInt (e_ld (f := xs) (show x_4 = xs (x_3.toInt).toNat from ex_4) (show x_3.toInt = (i.toInt) + (2) by omega))
    refine lv_aload_n (pc := 443) hx hb dL_law_443 rfl (lv_at hl 3 rfl) ?_
    refine lv_iload_n (pc := 444) hx hb dL_law_444 rfl (lv_at hl 0 rfl) ?_
    refine lv_iconst (pc := 445) (v := 3) hx hb dL_law_445 (by decide) ?_
    refine b_iadd (pc := 446) hx hb rfl tI_3 (by omega) (by omega) dL_law_446 (fun x_5 ex_5 => ?_)
    refine va_sld (pc := 447) hx hb hX hbl hbA hS (n_in rfl (by omega) (by omega)) dL_law_447 ?_
    refine lv_topi (fun x_6 ex_6 => ?_)
    have rx_6 := n_rng x_6
    have tx_6 := congrArg Int32.toInt (e_ld (f := xs) (show x_6 = xs (x_5.toInt).toNat from ex_6) (show x_5.toInt = (i.toInt) + (3) by omega))
    refine b_if_eq (pc := 448) (tgt := 455) hx hb rfl  dL_law_448 (by decide) (fun c_7 => ?_) (fun c_7 => ?_)
    ·
      as_aux_lemma =>
        refine lv_iconst (pc := 455) (v := 0) hx hb dL_law_455 (by decide) ?_
        refine cc_456 C0 hK hF u hfX hl x_2 x_4 (0 : Int32) (by rw [tI_0]; decide) hP hD hS (fun r_8 w_9 H locs hf_10 ho_11 he_12 he_13 he_14 he_15 he_16 hP hD hS => ?_)
        have rr_8 := n_rng r_8
        refine lv_pop (pc := 459) hx hb dL_law_459 rfl ?_
        refine lv_aload_n (pc := 460) hx hb dL_law_460 rfl (lv_at hl 1 rfl) ?_
        refine lv_aload_n (pc := 461) hx hb dL_law_461 rfl (lv_at hl 3 rfl) ?_
        refine lv_iload_n (pc := 462) hx hb dL_law_462 rfl (lv_at hl 0 rfl) ?_
        refine lv_iconst (pc := 463) (v := 1) hx hb dL_law_463 (by decide) ?_
        refine b_iadd (pc := 464) hx hb rfl tI_1 (by omega) (by omega) dL_law_464 (fun x_17 ex_17 => ?_)
        refine va_sld (pc := 465) hx hb hX hbl hbA hS (n_in rfl (by omega) (by omega)) dL_law_465 ?_
        refine lv_topi (fun x_18 ex_18 => ?_)
        have rx_18 := n_rng x_18
        have tx_18 := congrArg Int32.toInt (e_ld (f := xs) (show x_18 = xs (x_17.toInt).toNat from ex_18) (show x_17.toInt = (i.toInt) + (1) by omega))
        as_aux_lemma =>
          refine lv_aload_n (pc := 466) hx hb dL_law_466 rfl (lv_at hl 3 rfl) ?_
          refine lv_iload_n (pc := 467) hx hb dL_law_467 rfl (lv_at hl 0 rfl) ?_
          refine lv_iconst (pc := 468) (v := 2) hx hb dL_law_468 (by decide) ?_
          refine b_iadd (pc := 469) hx hb rfl tI_2 (by omega) (by omega) dL_law_469 (fun x_19 ex_19 => ?_)
          refine va_sld (pc := 470) hx hb hX hbl hbA hS (n_in rfl (by omega) (by omega)) dL_law_470 ?_
          refine lv_topi (fun x_20 ex_20 => ?_)
          have rx_20 := n_rng x_20
          have tx_20 := congrArg Int32.toInt (e_ld (f := xs) (show x_20 = xs (x_19.toInt).toNat from ex_20) (show x_19.toInt = (i.toInt) + (2) by omega))
          refine lv_aload_n (pc := 471) hx hb dL_law_471 rfl (lv_at hl 3 rfl) ?_
          refine lv_iload_n (pc := 472) hx hb dL_law_472 rfl (lv_at hl 0 rfl) ?_
          refine lv_iconst (pc := 473) (v := 3) hx hb dL_law_473 (by decide) ?_
          refine b_iadd (pc := 474) hx hb rfl tI_3 (by omega) (by omega) dL_law_474 (fun x_21 ex_21 => ?_)
          as_aux_lemma =>
            refine va_sld (pc := 475) hx hb hX hbl hbA hS (n_in rfl (by omega) (by omega)) dL_law_475 ?_
            refine lv_topi (fun x_22 ex_22 => ?_)
            have rx_22 := n_rng x_22
            have tx_22 := congrArg Int32.toInt (e_ld (f := xs) (show x_22 = xs (x_21.toInt).toNat from ex_22) (show x_21.toInt = (i.toInt) + (3) by omega))
            refine b_if_eq (pc := 476) (tgt := 483) hx hb rfl  dL_law_476 (by decide) (fun c_23 => ?_) (fun c_23 => ?_)
            ·
              as_aux_lemma =>
                refine lv_iconst (pc := 483) (v := 0) hx hb dL_law_483 (by decide) ?_
                have hP : va_P D gcl (wM cB cC cI cJ v ++ wX cB cC cI cJ w_9) H := va_P.swap (a := []) (b := wX cB cC cI cJ w_9) (c := wM cB cC cI cJ v) hP
                have hD : va_D (fun q : Nat => s.heap.size ≤ q) (wM cB cC cI cJ v ++ wX cB cC cI cJ w_9) := va_D.swap (a := []) (b := wX cB cC cI cJ w_9) (c := wM cB cC cI cJ v) hD
                refine cc_484 C0 hK hF v hfM hl x_18 x_20 (0 : Int32) (by rw [tI_0]; decide) hP hD hS (fun r_24 w_25 H locs hf_26 ho_27 he_28 he_29 he_30 he_31 he_32 hP hD hS => ?_)
                have rr_24 := n_rng r_24
                refine lv_pop (pc := 487) hx hb dL_law_487 rfl ?_
                refine lv_goto (pc := 488) (tgt := 1519) hx hb dL_law_488 (by decide) ?_
                exact kk w_9 w_25 H locs ls hf_10 hf_26 ⟨te_cut heq.1 he_13 he_29 (by omega) (by omega), by omega, plE_keep heq.2.2 he_15 he_31 (by omega) (by omega) (by omega)⟩ ho_11 ho_27 (va_P.swap (a := []) (b := wM cB cC cI cJ w_25) (c := wX cB cC cI cJ w_9) hP) (va_D.swap (a := []) (b := wM cB cC cI cJ w_25) (c := wX cB cC cI cJ w_9) hD) hS hl
            ·
              as_aux_lemma =>
                refine lv_iconst (pc := 479) (v := 1) hx hb dL_law_479 (by decide) ?_
                refine lv_goto (pc := 480) (tgt := 484) hx hb dL_law_480 (by decide) ?_
                have hP : va_P D gcl (wM cB cC cI cJ v ++ wX cB cC cI cJ w_9) H := va_P.swap (a := []) (b := wX cB cC cI cJ w_9) (c := wM cB cC cI cJ v) hP
                have hD : va_D (fun q : Nat => s.heap.size ≤ q) (wM cB cC cI cJ v ++ wX cB cC cI cJ w_9) := va_D.swap (a := []) (b := wX cB cC cI cJ w_9) (c := wM cB cC cI cJ v) hD
                refine cc_484 C0 hK hF v hfM hl x_18 x_20 (1 : Int32) (by rw [tI_1]; decide) hP hD hS (fun r_33 w_34 H locs hf_35 ho_36 he_37 he_38 he_39 he_40 he_41 hP hD hS => ?_)
                have rr_33 := n_rng r_33
                refine lv_pop (pc := 487) hx hb dL_law_487 rfl ?_
                refine lv_goto (pc := 488) (tgt := 1519) hx hb dL_law_488 (by decide) ?_
                exact kk w_9 w_34 H locs ls hf_10 hf_35 ⟨te_cut heq.1 he_13 he_38 (by omega) (by omega), by omega, plE_keep heq.2.2 he_15 he_40 (by omega) (by omega) (by omega)⟩ ho_11 ho_36 (va_P.swap (a := []) (b := wM cB cC cI cJ w_34) (c := wX cB cC cI cJ w_9) hP) (va_D.swap (a := []) (b := wM cB cC cI cJ w_34) (c := wX cB cC cI cJ w_9) hD) hS hl
    ·
      as_aux_lemma =>
        refine lv_iconst (pc := 451) (v := 1) hx hb dL_law_451 (by decide) ?_
        refine lv_goto (pc := 452) (tgt := 456) hx hb dL_law_452 (by decide) ?_
        refine cc_456 C0 hK hF u hfX hl x_2 x_4 (1 : Int32) (by rw [tI_1]; decide) hP hD hS (fun r_42 w_43 H locs hf_44 ho_45 he_46 he_47 he_48 he_49 he_50 hP hD hS => ?_)
        have rr_42 := n_rng r_42
        refine lv_pop (pc := 459) hx hb dL_law_459 rfl ?_
        refine lv_aload_n (pc := 460) hx hb dL_law_460 rfl (lv_at hl 1 rfl) ?_
        refine lv_aload_n (pc := 461) hx hb dL_law_461 rfl (lv_at hl 3 rfl) ?_
        refine lv_iload_n (pc := 462) hx hb dL_law_462 rfl (lv_at hl 0 rfl) ?_
        refine lv_iconst (pc := 463) (v := 1) hx hb dL_law_463 (by decide) ?_
        refine b_iadd (pc := 464) hx hb rfl tI_1 (by omega) (by omega) dL_law_464 (fun x_51 ex_51 => ?_)
        refine va_sld (pc := 465) hx hb hX hbl hbA hS (n_in rfl (by omega) (by omega)) dL_law_465 ?_
        as_aux_lemma =>
          refine lv_topi (fun x_52 ex_52 => ?_)
          have rx_52 := n_rng x_52
          have tx_52 := congrArg Int32.toInt (e_ld (f := xs) (show x_52 = xs (x_51.toInt).toNat from ex_52) (show x_51.toInt = (i.toInt) + (1) by omega))
          refine lv_aload_n (pc := 466) hx hb dL_law_466 rfl (lv_at hl 3 rfl) ?_
          refine lv_iload_n (pc := 467) hx hb dL_law_467 rfl (lv_at hl 0 rfl) ?_
          refine lv_iconst (pc := 468) (v := 2) hx hb dL_law_468 (by decide) ?_
          refine b_iadd (pc := 469) hx hb rfl tI_2 (by omega) (by omega) dL_law_469 (fun x_53 ex_53 => ?_)
          refine va_sld (pc := 470) hx hb hX hbl hbA hS (n_in rfl (by omega) (by omega)) dL_law_470 ?_
          refine lv_topi (fun x_54 ex_54 => ?_)
          have rx_54 := n_rng x_54
          have tx_54 := congrArg Int32.toInt (e_ld (f := xs) (show x_54 = xs (x_53.toInt).toNat from ex_54) (show x_53.toInt = (i.toInt) + (2) by omega))
          refine lv_aload_n (pc := 471) hx hb dL_law_471 rfl (lv_at hl 3 rfl) ?_
          refine lv_iload_n (pc := 472) hx hb dL_law_472 rfl (lv_at hl 0 rfl) ?_
          refine lv_iconst (pc := 473) (v := 3) hx hb dL_law_473 (by decide) ?_
          as_aux_lemma =>
            refine b_iadd (pc := 474) hx hb rfl tI_3 (by omega) (by omega) dL_law_474 (fun x_55 ex_55 => ?_)
            refine va_sld (pc := 475) hx hb hX hbl hbA hS (n_in rfl (by omega) (by omega)) dL_law_475 ?_
            refine lv_topi (fun x_56 ex_56 => ?_)
            have rx_56 := n_rng x_56
            have tx_56 := congrArg Int32.toInt (e_ld (f := xs) (show x_56 = xs (x_55.toInt).toNat from ex_56) (show x_55.toInt = (i.toInt) + (3) by omega))
            refine b_if_eq (pc := 476) (tgt := 483) hx hb rfl  dL_law_476 (by decide) (fun c_57 => ?_) (fun c_57 => ?_)
            ·
              as_aux_lemma =>
                refine lv_iconst (pc := 483) (v := 0) hx hb dL_law_483 (by decide) ?_
                have hP : va_P D gcl (wM cB cC cI cJ v ++ wX cB cC cI cJ w_43) H := va_P.swap (a := []) (b := wX cB cC cI cJ w_43) (c := wM cB cC cI cJ v) hP
                have hD : va_D (fun q : Nat => s.heap.size ≤ q) (wM cB cC cI cJ v ++ wX cB cC cI cJ w_43) := va_D.swap (a := []) (b := wX cB cC cI cJ w_43) (c := wM cB cC cI cJ v) hD
                refine cc_484 C0 hK hF v hfM hl x_52 x_54 (0 : Int32) (by rw [tI_0]; decide) hP hD hS (fun r_58 w_59 H locs hf_60 ho_61 he_62 he_63 he_64 he_65 he_66 hP hD hS => ?_)
                have rr_58 := n_rng r_58
                refine lv_pop (pc := 487) hx hb dL_law_487 rfl ?_
                refine lv_goto (pc := 488) (tgt := 1519) hx hb dL_law_488 (by decide) ?_
                exact kk w_43 w_59 H locs ls hf_44 hf_60 ⟨te_cut heq.1 he_47 he_63 (by omega) (by omega), by omega, plE_keep heq.2.2 he_49 he_65 (by omega) (by omega) (by omega)⟩ ho_45 ho_61 (va_P.swap (a := []) (b := wM cB cC cI cJ w_59) (c := wX cB cC cI cJ w_43) hP) (va_D.swap (a := []) (b := wM cB cC cI cJ w_59) (c := wX cB cC cI cJ w_43) hD) hS hl
            ·
              as_aux_lemma =>
                refine lv_iconst (pc := 479) (v := 1) hx hb dL_law_479 (by decide) ?_
                refine lv_goto (pc := 480) (tgt := 484) hx hb dL_law_480 (by decide) ?_
                have hP : va_P D gcl (wM cB cC cI cJ v ++ wX cB cC cI cJ w_43) H := va_P.swap (a := []) (b := wX cB cC cI cJ w_43) (c := wM cB cC cI cJ v) hP
                have hD : va_D (fun q : Nat => s.heap.size ≤ q) (wM cB cC cI cJ v ++ wX cB cC cI cJ w_43) := va_D.swap (a := []) (b := wX cB cC cI cJ w_43) (c := wM cB cC cI cJ v) hD
                refine cc_484 C0 hK hF v hfM hl x_52 x_54 (1 : Int32) (by rw [tI_1]; decide) hP hD hS (fun r_67 w_68 H locs hf_69 ho_70 he_71 he_72 he_73 he_74 he_75 hP hD hS => ?_)
                have rr_67 := n_rng r_67
                refine lv_pop (pc := 487) hx hb dL_law_487 rfl ?_
                refine lv_goto (pc := 488) (tgt := 1519) hx hb dL_law_488 (by decide) ?_
                exact kk w_43 w_68 H locs ls hf_44 hf_69 ⟨te_cut heq.1 he_47 he_72 (by omega) (by omega), by omega, plE_keep heq.2.2 he_49 he_74 (by omega) (by omega) (by omega)⟩ ho_45 ho_70 (va_P.swap (a := []) (b := wM cB cC cI cJ w_68) (c := wX cB cC cI cJ w_43) hP) (va_D.swap (a := []) (b := wM cB cC cI cJ w_68) (c := wX cB cC cI cJ w_43) hD) hS hl
set_option maxHeartbeats 8000000 in
set_option maxRecDepth 100000 in
theorem lo_7 {p : Program} {l : Launch} {e : Env} {s : State} {m : MethodId} {below : List Frame} {meth : Method} {c : Code} {D : va_G} {cB cC cI cJ : ClassId} {b L : Nat} {xs : Nat → Int32} {adK adV : Nat → Nat} (C0 : lw_At p s m meth c b L xs) (hLN : L ≤ 3072) (hK : va_K D gcl [(cB, .byte), (cC, .char), (cI, .int), (cJ, .long)] s) (hF : sF adK adV (fun q : Nat => s.heap.size ≤ q) s s.heap) (o1 o2 : Nat) (i : Int32) (hi0 : 0 ≤ i.toInt) (hi1 : i.toInt + 6 ≤ (L : Int)) (u v : gEx) (hfX : fX u) (hfM : fM v) (heq : tEq (u.2.1 4) (u.2.2.2.1 7).toInt (v.2.1 0) (v.2.2.2.1 0).toInt ∧ ((u.2.2.2.1 5).toInt = (v.2.2.2.1 6).toInt ∧ (u.2.2.2.1 6).toInt = (v.2.2.2.1 7).toInt ∧ (u.2.2.2.1 15).toInt = (v.2.2.2.1 8).toInt ∧ (u.2.2.2.1 16).toInt = (v.2.2.2.1 9).toInt ∧ (u.2.2.2.1 17).toInt = (v.2.2.2.1 10).toInt ∧ (u.2.2.2.1 18).toInt = (v.2.2.2.1 11).toInt ∧ (u.2.2.2.1 19).toInt = (v.2.2.2.1 12).toInt ∧ (u.2.2.2.1 43).toInt = ((v.2.1 21) 0).toInt ∧ (u.2.2.2.1 24).toInt = (v.2.2.2.1 21).toInt ∧ (u.2.2.2.1 25).toInt = (v.2.2.2.1 22).toInt ∧ (u.2.2.2.1 26).toInt = (v.2.2.2.1 20).toInt) ∧ plE (u.2.1 31) (u.2.1 15) (u.2.2.2.1 20).toInt (v.2.1 17) (v.2.1 18) (v.2.2.2.1 13).toInt (u.2.2.2.1 19).toInt (u.2.2.2.1 16).toInt (u.2.2.2.1 17).toInt) (hu0 : u.1 0 = o1) (hv0 : v.1 0 = o2) (H : Heap) (locs : List Loc) (ls : Array Slot) (hP : va_P D gcl (wX cB cC cI cJ u ++ wM cB cC cI cJ v) H) (hD : va_D (fun q : Nat => s.heap.size ≤ q) (wX cB cC cI cJ u ++ wM cB cC cI cJ v)) (hS : va_S (fun q : Nat => s.heap.size ≤ q) s.heap H locs) (hl : lv_has ls 4 [(3, .int i), (2, .ref o2), (1, .ref o1), (0, .ref b)])
    (kk : ∀ (u v : gEx) (H : Heap) (locs : List Loc) (ls : Array Slot), fX u → fM v → tEq (u.2.1 4) (u.2.2.2.1 7).toInt (v.2.1 0) (v.2.2.2.1 0).toInt ∧ ((u.2.2.2.1 5).toInt = (v.2.2.2.1 6).toInt ∧ (u.2.2.2.1 6).toInt = (v.2.2.2.1 7).toInt ∧ (u.2.2.2.1 15).toInt = (v.2.2.2.1 8).toInt ∧ (u.2.2.2.1 16).toInt = (v.2.2.2.1 9).toInt ∧ (u.2.2.2.1 17).toInt = (v.2.2.2.1 10).toInt ∧ (u.2.2.2.1 18).toInt = (v.2.2.2.1 11).toInt ∧ (u.2.2.2.1 19).toInt = (v.2.2.2.1 12).toInt ∧ (u.2.2.2.1 43).toInt = ((v.2.1 21) 0).toInt ∧ (u.2.2.2.1 24).toInt = (v.2.2.2.1 21).toInt ∧ (u.2.2.2.1 25).toInt = (v.2.2.2.1 22).toInt ∧ (u.2.2.2.1 26).toInt = (v.2.2.2.1 20).toInt) ∧ plE (u.2.1 31) (u.2.1 15) (u.2.2.2.1 20).toInt (v.2.1 17) (v.2.1 18) (v.2.2.2.1 13).toInt (u.2.2.2.1 19).toInt (u.2.2.2.1 16).toInt (u.2.2.2.1 17).toInt → u.1 0 = o1 → v.1 0 = o2 → va_P D gcl (wX cB cC cI cJ u ++ wM cB cC cI cJ v) H → va_D (fun q : Nat => s.heap.size ≤ q) (wX cB cC cI cJ u ++ wM cB cC cI cJ v) → va_S (fun q : Nat => s.heap.size ≤ q) s.heap H locs → lv_has ls 4 [(3, .int i), (2, .ref o2), (1, .ref o1), (0, .ref b)] → W p l e room_1 s m #[Value.ref b] below meth c H locs 126 15724 (lw_Z below #[Value.ref b] s) (F0 m 1519 ls [])) : W p l e room_1 s m #[Value.ref b] below meth c H locs 126 15724 (lw_Z below #[Value.ref b] s) (F0 m 491 ls []) := by
  subst hu0
  subst hv0
  have hlen := heq.1.1
  have hreg := heq.2.1
  obtain ⟨hx, hb, hr, hml, hown, hts0, hX, hbl, hlocks, hgv⟩ := id C0
  have hts := g_tbl hts0
  have hbA : ¬ (fun q : Nat => s.heap.size ≤ q) b := Nat.not_le.mpr hbl
  refine lv_aload_n (pc := 491) hx hb dL_law_491 rfl (lv_at hl 2 rfl) ?_
  refine cc_492 C0 hK hF u hfX hl  hP hD hS (fun r_1 w_2 H locs hf_3 ho_4 he_5 he_6 he_7 he_8 he_9 hP hD hS => ?_)
  have rr_1 := n_rng r_1
  refine lv_pop (pc := 495) hx hb dL_law_495 rfl ?_
  refine lv_aload_n (pc := 496) hx hb dL_law_496 rfl (lv_at hl 1 rfl) ?_
  have hP : va_P D gcl (wM cB cC cI cJ v ++ wX cB cC cI cJ w_2) H := va_P.swap (a := []) (b := wX cB cC cI cJ w_2) (c := wM cB cC cI cJ v) hP
  have hD : va_D (fun q : Nat => s.heap.size ≤ q) (wM cB cC cI cJ v ++ wX cB cC cI cJ w_2) := va_D.swap (a := []) (b := wX cB cC cI cJ w_2) (c := wM cB cC cI cJ v) hD
  refine cc_497 C0 hK hF v hfM hl  hP hD hS (fun r_10 w_11 H locs hf_12 ho_13 he_14 he_15 he_16 he_17 he_18 hP hD hS => ?_)
  have rr_10 := n_rng r_10
  refine lv_pop (pc := 500) hx hb dL_law_500 rfl ?_
  refine lv_goto (pc := 501) (tgt := 1519) hx hb dL_law_501 (by decide) ?_
  exact kk w_2 w_11 H locs ls hf_3 hf_12 ⟨te_cut heq.1 he_6 he_15 (by omega) (by omega), by omega, plE_keep heq.2.2 he_8 he_17 (by omega) (by omega) (by omega)⟩ ho_4 ho_13 (va_P.swap (a := []) (b := wM cB cC cI cJ w_11) (c := wX cB cC cI cJ w_2) hP) (va_D.swap (a := []) (b := wM cB cC cI cJ w_11) (c := wX cB cC cI cJ w_2) hD) hS hl
set_option maxHeartbeats 8000000 in
set_option maxRecDepth 100000 in
theorem lo_8 {p : Program} {l : Launch} {e : Env} {s : State} {m : MethodId} {below : List Frame} {meth : Method} {c : Code} {D : va_G} {cB cC cI cJ : ClassId} {b L : Nat} {xs : Nat → Int32} {adK adV : Nat → Nat} (C0 : lw_At p s m meth c b L xs) (hLN : L ≤ 3072) (hK : va_K D gcl [(cB, .byte), (cC, .char), (cI, .int), (cJ, .long)] s) (hF : sF adK adV (fun q : Nat => s.heap.size ≤ q) s s.heap) (o1 o2 : Nat) (i : Int32) (hi0 : 0 ≤ i.toInt) (hi1 : i.toInt + 6 ≤ (L : Int)) (u v : gEx) (hfX : fX u) (hfM : fM v) (heq : tEq (u.2.1 4) (u.2.2.2.1 7).toInt (v.2.1 0) (v.2.2.2.1 0).toInt ∧ ((u.2.2.2.1 5).toInt = (v.2.2.2.1 6).toInt ∧ (u.2.2.2.1 6).toInt = (v.2.2.2.1 7).toInt ∧ (u.2.2.2.1 15).toInt = (v.2.2.2.1 8).toInt ∧ (u.2.2.2.1 16).toInt = (v.2.2.2.1 9).toInt ∧ (u.2.2.2.1 17).toInt = (v.2.2.2.1 10).toInt ∧ (u.2.2.2.1 18).toInt = (v.2.2.2.1 11).toInt ∧ (u.2.2.2.1 19).toInt = (v.2.2.2.1 12).toInt ∧ (u.2.2.2.1 43).toInt = ((v.2.1 21) 0).toInt ∧ (u.2.2.2.1 24).toInt = (v.2.2.2.1 21).toInt ∧ (u.2.2.2.1 25).toInt = (v.2.2.2.1 22).toInt ∧ (u.2.2.2.1 26).toInt = (v.2.2.2.1 20).toInt) ∧ plE (u.2.1 31) (u.2.1 15) (u.2.2.2.1 20).toInt (v.2.1 17) (v.2.1 18) (v.2.2.2.1 13).toInt (u.2.2.2.1 19).toInt (u.2.2.2.1 16).toInt (u.2.2.2.1 17).toInt) (hu0 : u.1 0 = o1) (hv0 : v.1 0 = o2) (H : Heap) (locs : List Loc) (ls : Array Slot) (hP : va_P D gcl (wX cB cC cI cJ u ++ wM cB cC cI cJ v) H) (hD : va_D (fun q : Nat => s.heap.size ≤ q) (wX cB cC cI cJ u ++ wM cB cC cI cJ v)) (hS : va_S (fun q : Nat => s.heap.size ≤ q) s.heap H locs) (hl : lv_has ls 4 [(3, .int i), (2, .ref o2), (1, .ref o1), (0, .ref b)])
    (kk : ∀ (u v : gEx) (H : Heap) (locs : List Loc) (ls : Array Slot), fX u → fM v → tEq (u.2.1 4) (u.2.2.2.1 7).toInt (v.2.1 0) (v.2.2.2.1 0).toInt ∧ ((u.2.2.2.1 5).toInt = (v.2.2.2.1 6).toInt ∧ (u.2.2.2.1 6).toInt = (v.2.2.2.1 7).toInt ∧ (u.2.2.2.1 15).toInt = (v.2.2.2.1 8).toInt ∧ (u.2.2.2.1 16).toInt = (v.2.2.2.1 9).toInt ∧ (u.2.2.2.1 17).toInt = (v.2.2.2.1 10).toInt ∧ (u.2.2.2.1 18).toInt = (v.2.2.2.1 11).toInt ∧ (u.2.2.2.1 19).toInt = (v.2.2.2.1 12).toInt ∧ (u.2.2.2.1 43).toInt = ((v.2.1 21) 0).toInt ∧ (u.2.2.2.1 24).toInt = (v.2.2.2.1 21).toInt ∧ (u.2.2.2.1 25).toInt = (v.2.2.2.1 22).toInt ∧ (u.2.2.2.1 26).toInt = (v.2.2.2.1 20).toInt) ∧ plE (u.2.1 31) (u.2.1 15) (u.2.2.2.1 20).toInt (v.2.1 17) (v.2.1 18) (v.2.2.2.1 13).toInt (u.2.2.2.1 19).toInt (u.2.2.2.1 16).toInt (u.2.2.2.1 17).toInt → u.1 0 = o1 → v.1 0 = o2 → va_P D gcl (wX cB cC cI cJ u ++ wM cB cC cI cJ v) H → va_D (fun q : Nat => s.heap.size ≤ q) (wX cB cC cI cJ u ++ wM cB cC cI cJ v) → va_S (fun q : Nat => s.heap.size ≤ q) s.heap H locs → lv_has ls 4 [(3, .int i), (2, .ref o2), (1, .ref o1), (0, .ref b)] → W p l e room_1 s m #[Value.ref b] below meth c H locs 126 15724 (lw_Z below #[Value.ref b] s) (F0 m 1519 ls [])) : W p l e room_1 s m #[Value.ref b] below meth c H locs 126 15724 (lw_Z below #[Value.ref b] s) (F0 m 504 ls []) := by
  subst hu0
  subst hv0
  have hlen := heq.1.1
  have hreg := heq.2.1
  obtain ⟨hx, hb, hr, hml, hown, hts0, hX, hbl, hlocks, hgv⟩ := id C0
  have hts := g_tbl hts0
  have hbA : ¬ (fun q : Nat => s.heap.size ≤ q) b := Nat.not_le.mpr hbl
  refine lv_aload_n (pc := 504) hx hb dL_law_504 rfl (lv_at hl 2 rfl) ?_
  refine lv_aload_n (pc := 505) hx hb dL_law_505 rfl (lv_at hl 3 rfl) ?_
  refine lv_iload_n (pc := 506) hx hb dL_law_506 rfl (lv_at hl 0 rfl) ?_
  refine lv_iconst (pc := 507) (v := 1) hx hb dL_law_507 (by decide) ?_
  refine b_iadd (pc := 508) hx hb rfl tI_1 (by omega) (by omega) dL_law_508 (fun x_1 ex_1 => ?_)
  refine va_sld (pc := 509) hx hb hX hbl hbA hS (n_in rfl (by omega) (by omega)) dL_law_509 ?_
  refine lv_topi (fun x_2 ex_2 => ?_)
  have rx_2 := n_rng x_2
  have tx_2 := congrArg Int32.toInt (e_ld (f := xs) (show x_2 = xs (x_1.toInt).toNat from ex_2) (show x_1.toInt = (i.toInt) + (1) by omega))
  refine cc_510 C0 hK hF u hfX hl x_2 hP hD hS (fun r_3 w_4 H locs hf_5 ho_6 he_7 he_8 he_9 he_10 he_11 hP hD hS => ?_)
  have rr_3 := n_rng r_3
  refine lv_pop (pc := 513) hx hb dL_law_513 rfl ?_
  refine lv_aload_n (pc := 514) hx hb dL_law_514 rfl (lv_at hl 1 rfl) ?_
  refine lv_aload_n (pc := 515) hx hb dL_law_515 rfl (lv_at hl 3 rfl) ?_
  refine lv_iload_n (pc := 516) hx hb dL_law_516 rfl (lv_at hl 0 rfl) ?_
  refine lv_iconst (pc := 517) (v := 1) hx hb dL_law_517 (by decide) ?_
  refine b_iadd (pc := 518) hx hb rfl tI_1 (by omega) (by omega) dL_law_518 (fun x_12 ex_12 => ?_)
  refine va_sld (pc := 519) hx hb hX hbl hbA hS (n_in rfl (by omega) (by omega)) dL_law_519 ?_
  refine lv_topi (fun x_13 ex_13 => ?_)
  have rx_13 := n_rng x_13
  have tx_13 := congrArg Int32.toInt (e_ld (f := xs) (show x_13 = xs (x_12.toInt).toNat from ex_13) (show x_12.toInt = (i.toInt) + (1) by omega))
  have hP : va_P D gcl (wM cB cC cI cJ v ++ wX cB cC cI cJ w_4) H := va_P.swap (a := []) (b := wX cB cC cI cJ w_4) (c := wM cB cC cI cJ v) hP
  have hD : va_D (fun q : Nat => s.heap.size ≤ q) (wM cB cC cI cJ v ++ wX cB cC cI cJ w_4) := va_D.swap (a := []) (b := wX cB cC cI cJ w_4) (c := wM cB cC cI cJ v) hD
  refine cc_520 C0 hK hF v hfM hl x_13 hP hD hS (fun r_14 w_15 H locs hf_16 ho_17 he_18 he_19 he_20 he_21 he_22 hP hD hS => ?_)
  have rr_14 := n_rng r_14
  refine lv_pop (pc := 523) hx hb dL_law_523 rfl ?_
  refine lv_goto (pc := 524) (tgt := 1519) hx hb dL_law_524 (by decide) ?_
  exact kk w_4 w_15 H locs ls hf_5 hf_16 ⟨te_cut heq.1 he_8 he_19 (by omega) (by omega), by omega, plE_keep heq.2.2 he_10 he_21 (by omega) (by omega) (by omega)⟩ ho_6 ho_17 (va_P.swap (a := []) (b := wM cB cC cI cJ w_15) (c := wX cB cC cI cJ w_4) hP) (va_D.swap (a := []) (b := wM cB cC cI cJ w_15) (c := wX cB cC cI cJ w_4) hD) hS hl
set_option maxHeartbeats 8000000 in
set_option maxRecDepth 100000 in
theorem lo_9 {p : Program} {l : Launch} {e : Env} {s : State} {m : MethodId} {below : List Frame} {meth : Method} {c : Code} {D : va_G} {cB cC cI cJ : ClassId} {b L : Nat} {xs : Nat → Int32} {adK adV : Nat → Nat} (C0 : lw_At p s m meth c b L xs) (hLN : L ≤ 3072) (hK : va_K D gcl [(cB, .byte), (cC, .char), (cI, .int), (cJ, .long)] s) (hF : sF adK adV (fun q : Nat => s.heap.size ≤ q) s s.heap) (o1 o2 : Nat) (i : Int32) (hi0 : 0 ≤ i.toInt) (hi1 : i.toInt + 6 ≤ (L : Int)) (u v : gEx) (hfX : fX u) (hfM : fM v) (heq : tEq (u.2.1 4) (u.2.2.2.1 7).toInt (v.2.1 0) (v.2.2.2.1 0).toInt ∧ ((u.2.2.2.1 5).toInt = (v.2.2.2.1 6).toInt ∧ (u.2.2.2.1 6).toInt = (v.2.2.2.1 7).toInt ∧ (u.2.2.2.1 15).toInt = (v.2.2.2.1 8).toInt ∧ (u.2.2.2.1 16).toInt = (v.2.2.2.1 9).toInt ∧ (u.2.2.2.1 17).toInt = (v.2.2.2.1 10).toInt ∧ (u.2.2.2.1 18).toInt = (v.2.2.2.1 11).toInt ∧ (u.2.2.2.1 19).toInt = (v.2.2.2.1 12).toInt ∧ (u.2.2.2.1 43).toInt = ((v.2.1 21) 0).toInt ∧ (u.2.2.2.1 24).toInt = (v.2.2.2.1 21).toInt ∧ (u.2.2.2.1 25).toInt = (v.2.2.2.1 22).toInt ∧ (u.2.2.2.1 26).toInt = (v.2.2.2.1 20).toInt) ∧ plE (u.2.1 31) (u.2.1 15) (u.2.2.2.1 20).toInt (v.2.1 17) (v.2.1 18) (v.2.2.2.1 13).toInt (u.2.2.2.1 19).toInt (u.2.2.2.1 16).toInt (u.2.2.2.1 17).toInt) (hu0 : u.1 0 = o1) (hv0 : v.1 0 = o2) (H : Heap) (locs : List Loc) (ls : Array Slot) (hP : va_P D gcl (wX cB cC cI cJ u ++ wM cB cC cI cJ v) H) (hD : va_D (fun q : Nat => s.heap.size ≤ q) (wX cB cC cI cJ u ++ wM cB cC cI cJ v)) (hS : va_S (fun q : Nat => s.heap.size ≤ q) s.heap H locs) (hl : lv_has ls 4 [(3, .int i), (2, .ref o2), (1, .ref o1), (0, .ref b)])
    (kk : ∀ (u v : gEx) (H : Heap) (locs : List Loc) (ls : Array Slot), fX u → fM v → tEq (u.2.1 4) (u.2.2.2.1 7).toInt (v.2.1 0) (v.2.2.2.1 0).toInt ∧ ((u.2.2.2.1 5).toInt = (v.2.2.2.1 6).toInt ∧ (u.2.2.2.1 6).toInt = (v.2.2.2.1 7).toInt ∧ (u.2.2.2.1 15).toInt = (v.2.2.2.1 8).toInt ∧ (u.2.2.2.1 16).toInt = (v.2.2.2.1 9).toInt ∧ (u.2.2.2.1 17).toInt = (v.2.2.2.1 10).toInt ∧ (u.2.2.2.1 18).toInt = (v.2.2.2.1 11).toInt ∧ (u.2.2.2.1 19).toInt = (v.2.2.2.1 12).toInt ∧ (u.2.2.2.1 43).toInt = ((v.2.1 21) 0).toInt ∧ (u.2.2.2.1 24).toInt = (v.2.2.2.1 21).toInt ∧ (u.2.2.2.1 25).toInt = (v.2.2.2.1 22).toInt ∧ (u.2.2.2.1 26).toInt = (v.2.2.2.1 20).toInt) ∧ plE (u.2.1 31) (u.2.1 15) (u.2.2.2.1 20).toInt (v.2.1 17) (v.2.1 18) (v.2.2.2.1 13).toInt (u.2.2.2.1 19).toInt (u.2.2.2.1 16).toInt (u.2.2.2.1 17).toInt → u.1 0 = o1 → v.1 0 = o2 → va_P D gcl (wX cB cC cI cJ u ++ wM cB cC cI cJ v) H → va_D (fun q : Nat => s.heap.size ≤ q) (wX cB cC cI cJ u ++ wM cB cC cI cJ v) → va_S (fun q : Nat => s.heap.size ≤ q) s.heap H locs → lv_has ls 4 [(3, .int i), (2, .ref o2), (1, .ref o1), (0, .ref b)] → W p l e room_1 s m #[Value.ref b] below meth c H locs 126 15724 (lw_Z below #[Value.ref b] s) (F0 m 1519 ls [])) : W p l e room_1 s m #[Value.ref b] below meth c H locs 126 15724 (lw_Z below #[Value.ref b] s) (F0 m 527 ls []) := by
  subst hu0
  subst hv0
  have hlen := heq.1.1
  have hreg := heq.2.1
  obtain ⟨hx, hb, hr, hml, hown, hts0, hX, hbl, hlocks, hgv⟩ := id C0
  have hts := g_tbl hts0
  have hbA : ¬ (fun q : Nat => s.heap.size ≤ q) b := Nat.not_le.mpr hbl
  refine lv_aload_n (pc := 527) hx hb dL_law_527 rfl (lv_at hl 2 rfl) ?_
  refine cc_528 C0 hK hF u hfX hl  hP hD hS (fun r_1 w_2 H locs hf_3 ho_4 he_5 he_6 he_7 he_8 he_9 hP hD hS => ?_)
  have rr_1 := n_rng r_1
  refine lv_pop (pc := 531) hx hb dL_law_531 rfl ?_
  refine lv_aload_n (pc := 532) hx hb dL_law_532 rfl (lv_at hl 1 rfl) ?_
  have hP : va_P D gcl (wM cB cC cI cJ v ++ wX cB cC cI cJ w_2) H := va_P.swap (a := []) (b := wX cB cC cI cJ w_2) (c := wM cB cC cI cJ v) hP
  have hD : va_D (fun q : Nat => s.heap.size ≤ q) (wM cB cC cI cJ v ++ wX cB cC cI cJ w_2) := va_D.swap (a := []) (b := wX cB cC cI cJ w_2) (c := wM cB cC cI cJ v) hD
  refine cc_533 C0 hK hF v hfM hl  hP hD hS (fun r_10 w_11 H locs hf_12 ho_13 he_14 he_15 he_16 he_17 he_18 hP hD hS => ?_)
  have rr_10 := n_rng r_10
  refine lv_pop (pc := 536) hx hb dL_law_536 rfl ?_
  refine lv_goto (pc := 537) (tgt := 1519) hx hb dL_law_537 (by decide) ?_
  exact kk w_2 w_11 H locs ls hf_3 hf_12 ⟨te_cut heq.1 he_6 he_15 (by omega) (by omega), by omega, plE_keep heq.2.2 he_8 he_17 (by omega) (by omega) (by omega)⟩ ho_4 ho_13 (va_P.swap (a := []) (b := wM cB cC cI cJ w_11) (c := wX cB cC cI cJ w_2) hP) (va_D.swap (a := []) (b := wM cB cC cI cJ w_11) (c := wX cB cC cI cJ w_2) hD) hS hl
set_option maxHeartbeats 8000000 in
set_option maxRecDepth 100000 in
theorem lo_10 {p : Program} {l : Launch} {e : Env} {s : State} {m : MethodId} {below : List Frame} {meth : Method} {c : Code} {D : va_G} {cB cC cI cJ : ClassId} {b L : Nat} {xs : Nat → Int32} {adK adV : Nat → Nat} (C0 : lw_At p s m meth c b L xs) (hLN : L ≤ 3072) (hK : va_K D gcl [(cB, .byte), (cC, .char), (cI, .int), (cJ, .long)] s) (hF : sF adK adV (fun q : Nat => s.heap.size ≤ q) s s.heap) (o1 o2 : Nat) (i : Int32) (hi0 : 0 ≤ i.toInt) (hi1 : i.toInt + 6 ≤ (L : Int)) (u v : gEx) (hfX : fX u) (hfM : fM v) (heq : tEq (u.2.1 4) (u.2.2.2.1 7).toInt (v.2.1 0) (v.2.2.2.1 0).toInt ∧ ((u.2.2.2.1 5).toInt = (v.2.2.2.1 6).toInt ∧ (u.2.2.2.1 6).toInt = (v.2.2.2.1 7).toInt ∧ (u.2.2.2.1 15).toInt = (v.2.2.2.1 8).toInt ∧ (u.2.2.2.1 16).toInt = (v.2.2.2.1 9).toInt ∧ (u.2.2.2.1 17).toInt = (v.2.2.2.1 10).toInt ∧ (u.2.2.2.1 18).toInt = (v.2.2.2.1 11).toInt ∧ (u.2.2.2.1 19).toInt = (v.2.2.2.1 12).toInt ∧ (u.2.2.2.1 43).toInt = ((v.2.1 21) 0).toInt ∧ (u.2.2.2.1 24).toInt = (v.2.2.2.1 21).toInt ∧ (u.2.2.2.1 25).toInt = (v.2.2.2.1 22).toInt ∧ (u.2.2.2.1 26).toInt = (v.2.2.2.1 20).toInt) ∧ plE (u.2.1 31) (u.2.1 15) (u.2.2.2.1 20).toInt (v.2.1 17) (v.2.1 18) (v.2.2.2.1 13).toInt (u.2.2.2.1 19).toInt (u.2.2.2.1 16).toInt (u.2.2.2.1 17).toInt) (hu0 : u.1 0 = o1) (hv0 : v.1 0 = o2) (H : Heap) (locs : List Loc) (ls : Array Slot) (hP : va_P D gcl (wX cB cC cI cJ u ++ wM cB cC cI cJ v) H) (hD : va_D (fun q : Nat => s.heap.size ≤ q) (wX cB cC cI cJ u ++ wM cB cC cI cJ v)) (hS : va_S (fun q : Nat => s.heap.size ≤ q) s.heap H locs) (hl : lv_has ls 4 [(3, .int i), (2, .ref o2), (1, .ref o1), (0, .ref b)])
    (kk : ∀ (u v : gEx) (H : Heap) (locs : List Loc) (ls : Array Slot), fX u → fM v → tEq (u.2.1 4) (u.2.2.2.1 7).toInt (v.2.1 0) (v.2.2.2.1 0).toInt ∧ ((u.2.2.2.1 5).toInt = (v.2.2.2.1 6).toInt ∧ (u.2.2.2.1 6).toInt = (v.2.2.2.1 7).toInt ∧ (u.2.2.2.1 15).toInt = (v.2.2.2.1 8).toInt ∧ (u.2.2.2.1 16).toInt = (v.2.2.2.1 9).toInt ∧ (u.2.2.2.1 17).toInt = (v.2.2.2.1 10).toInt ∧ (u.2.2.2.1 18).toInt = (v.2.2.2.1 11).toInt ∧ (u.2.2.2.1 19).toInt = (v.2.2.2.1 12).toInt ∧ (u.2.2.2.1 43).toInt = ((v.2.1 21) 0).toInt ∧ (u.2.2.2.1 24).toInt = (v.2.2.2.1 21).toInt ∧ (u.2.2.2.1 25).toInt = (v.2.2.2.1 22).toInt ∧ (u.2.2.2.1 26).toInt = (v.2.2.2.1 20).toInt) ∧ plE (u.2.1 31) (u.2.1 15) (u.2.2.2.1 20).toInt (v.2.1 17) (v.2.1 18) (v.2.2.2.1 13).toInt (u.2.2.2.1 19).toInt (u.2.2.2.1 16).toInt (u.2.2.2.1 17).toInt → u.1 0 = o1 → v.1 0 = o2 → va_P D gcl (wX cB cC cI cJ u ++ wM cB cC cI cJ v) H → va_D (fun q : Nat => s.heap.size ≤ q) (wX cB cC cI cJ u ++ wM cB cC cI cJ v) → va_S (fun q : Nat => s.heap.size ≤ q) s.heap H locs → lv_has ls 4 [(3, .int i), (2, .ref o2), (1, .ref o1), (0, .ref b)] → W p l e room_1 s m #[Value.ref b] below meth c H locs 126 15724 (lw_Z below #[Value.ref b] s) (F0 m 1519 ls [])) : W p l e room_1 s m #[Value.ref b] below meth c H locs 126 15724 (lw_Z below #[Value.ref b] s) (F0 m 540 ls []) := by
  subst hu0
  subst hv0
  have hlen := heq.1.1
  have hreg := heq.2.1
  obtain ⟨hx, hb, hr, hml, hown, hts0, hX, hbl, hlocks, hgv⟩ := id C0
  have hts := g_tbl hts0
  have hbA : ¬ (fun q : Nat => s.heap.size ≤ q) b := Nat.not_le.mpr hbl
  refine lv_aload_n (pc := 540) hx hb dL_law_540 rfl (lv_at hl 2 rfl) ?_
  refine cc_541 C0 hK hF u hfX hl  hP hD hS (fun r_1 w_2 H locs hf_3 ho_4 he_5 he_6 he_7 he_8 he_9 hP hD hS => ?_)
  have rr_1 := n_rngL r_1
  refine lv_pop2_2 (pc := 544) hx hb dL_law_544 rfl ?_
  refine lv_aload_n (pc := 545) hx hb dL_law_545 rfl (lv_at hl 1 rfl) ?_
  have hP : va_P D gcl (wM cB cC cI cJ v ++ wX cB cC cI cJ w_2) H := va_P.swap (a := []) (b := wX cB cC cI cJ w_2) (c := wM cB cC cI cJ v) hP
  have hD : va_D (fun q : Nat => s.heap.size ≤ q) (wM cB cC cI cJ v ++ wX cB cC cI cJ w_2) := va_D.swap (a := []) (b := wX cB cC cI cJ w_2) (c := wM cB cC cI cJ v) hD
  refine cc_546 C0 hK hF v hfM hl  hP hD hS (fun r_10 w_11 H locs hf_12 ho_13 he_14 he_15 he_16 he_17 he_18 hP hD hS => ?_)
  have rr_10 := n_rngL r_10
  refine lv_pop2_2 (pc := 549) hx hb dL_law_549 rfl ?_
  refine lv_goto (pc := 550) (tgt := 1519) hx hb dL_law_550 (by decide) ?_
  exact kk w_2 w_11 H locs ls hf_3 hf_12 ⟨te_cut heq.1 he_6 he_15 (by omega) (by omega), by omega, plE_keep heq.2.2 he_8 he_17 (by omega) (by omega) (by omega)⟩ ho_4 ho_13 (va_P.swap (a := []) (b := wM cB cC cI cJ w_11) (c := wX cB cC cI cJ w_2) hP) (va_D.swap (a := []) (b := wM cB cC cI cJ w_11) (c := wX cB cC cI cJ w_2) hD) hS hl
set_option maxHeartbeats 8000000 in
set_option maxRecDepth 100000 in
theorem lo_11 {p : Program} {l : Launch} {e : Env} {s : State} {m : MethodId} {below : List Frame} {meth : Method} {c : Code} {D : va_G} {cB cC cI cJ : ClassId} {b L : Nat} {xs : Nat → Int32} {adK adV : Nat → Nat} (C0 : lw_At p s m meth c b L xs) (hLN : L ≤ 3072) (hK : va_K D gcl [(cB, .byte), (cC, .char), (cI, .int), (cJ, .long)] s) (hF : sF adK adV (fun q : Nat => s.heap.size ≤ q) s s.heap) (o1 o2 : Nat) (i : Int32) (hi0 : 0 ≤ i.toInt) (hi1 : i.toInt + 6 ≤ (L : Int)) (u v : gEx) (hfX : fX u) (hfM : fM v) (heq : tEq (u.2.1 4) (u.2.2.2.1 7).toInt (v.2.1 0) (v.2.2.2.1 0).toInt ∧ ((u.2.2.2.1 5).toInt = (v.2.2.2.1 6).toInt ∧ (u.2.2.2.1 6).toInt = (v.2.2.2.1 7).toInt ∧ (u.2.2.2.1 15).toInt = (v.2.2.2.1 8).toInt ∧ (u.2.2.2.1 16).toInt = (v.2.2.2.1 9).toInt ∧ (u.2.2.2.1 17).toInt = (v.2.2.2.1 10).toInt ∧ (u.2.2.2.1 18).toInt = (v.2.2.2.1 11).toInt ∧ (u.2.2.2.1 19).toInt = (v.2.2.2.1 12).toInt ∧ (u.2.2.2.1 43).toInt = ((v.2.1 21) 0).toInt ∧ (u.2.2.2.1 24).toInt = (v.2.2.2.1 21).toInt ∧ (u.2.2.2.1 25).toInt = (v.2.2.2.1 22).toInt ∧ (u.2.2.2.1 26).toInt = (v.2.2.2.1 20).toInt) ∧ plE (u.2.1 31) (u.2.1 15) (u.2.2.2.1 20).toInt (v.2.1 17) (v.2.1 18) (v.2.2.2.1 13).toInt (u.2.2.2.1 19).toInt (u.2.2.2.1 16).toInt (u.2.2.2.1 17).toInt) (hu0 : u.1 0 = o1) (hv0 : v.1 0 = o2) (H : Heap) (locs : List Loc) (ls : Array Slot) (hP : va_P D gcl (wX cB cC cI cJ u ++ wM cB cC cI cJ v) H) (hD : va_D (fun q : Nat => s.heap.size ≤ q) (wX cB cC cI cJ u ++ wM cB cC cI cJ v)) (hS : va_S (fun q : Nat => s.heap.size ≤ q) s.heap H locs) (hl : lv_has ls 4 [(3, .int i), (2, .ref o2), (1, .ref o1), (0, .ref b)])
    (kk : ∀ (u v : gEx) (H : Heap) (locs : List Loc) (ls : Array Slot), fX u → fM v → tEq (u.2.1 4) (u.2.2.2.1 7).toInt (v.2.1 0) (v.2.2.2.1 0).toInt ∧ ((u.2.2.2.1 5).toInt = (v.2.2.2.1 6).toInt ∧ (u.2.2.2.1 6).toInt = (v.2.2.2.1 7).toInt ∧ (u.2.2.2.1 15).toInt = (v.2.2.2.1 8).toInt ∧ (u.2.2.2.1 16).toInt = (v.2.2.2.1 9).toInt ∧ (u.2.2.2.1 17).toInt = (v.2.2.2.1 10).toInt ∧ (u.2.2.2.1 18).toInt = (v.2.2.2.1 11).toInt ∧ (u.2.2.2.1 19).toInt = (v.2.2.2.1 12).toInt ∧ (u.2.2.2.1 43).toInt = ((v.2.1 21) 0).toInt ∧ (u.2.2.2.1 24).toInt = (v.2.2.2.1 21).toInt ∧ (u.2.2.2.1 25).toInt = (v.2.2.2.1 22).toInt ∧ (u.2.2.2.1 26).toInt = (v.2.2.2.1 20).toInt) ∧ plE (u.2.1 31) (u.2.1 15) (u.2.2.2.1 20).toInt (v.2.1 17) (v.2.1 18) (v.2.2.2.1 13).toInt (u.2.2.2.1 19).toInt (u.2.2.2.1 16).toInt (u.2.2.2.1 17).toInt → u.1 0 = o1 → v.1 0 = o2 → va_P D gcl (wX cB cC cI cJ u ++ wM cB cC cI cJ v) H → va_D (fun q : Nat => s.heap.size ≤ q) (wX cB cC cI cJ u ++ wM cB cC cI cJ v) → va_S (fun q : Nat => s.heap.size ≤ q) s.heap H locs → lv_has ls 4 [(3, .int i), (2, .ref o2), (1, .ref o1), (0, .ref b)] → W p l e room_1 s m #[Value.ref b] below meth c H locs 126 15724 (lw_Z below #[Value.ref b] s) (F0 m 1519 ls [])) : W p l e room_1 s m #[Value.ref b] below meth c H locs 126 15724 (lw_Z below #[Value.ref b] s) (F0 m 553 ls []) := by
  subst hu0
  subst hv0
  have hlen := heq.1.1
  have hreg := heq.2.1
  obtain ⟨hx, hb, hr, hml, hown, hts0, hX, hbl, hlocks, hgv⟩ := id C0
  have hts := g_tbl hts0
  have hbA : ¬ (fun q : Nat => s.heap.size ≤ q) b := Nat.not_le.mpr hbl
  refine lv_aload_n (pc := 553) hx hb dL_law_553 rfl (lv_at hl 2 rfl) ?_
  refine lv_aload_n (pc := 554) hx hb dL_law_554 rfl (lv_at hl 3 rfl) ?_
  refine lv_iload_n (pc := 555) hx hb dL_law_555 rfl (lv_at hl 0 rfl) ?_
  refine lv_iconst (pc := 556) (v := 1) hx hb dL_law_556 (by decide) ?_
  refine b_iadd (pc := 557) hx hb rfl tI_1 (by omega) (by omega) dL_law_557 (fun x_1 ex_1 => ?_)
  refine va_sld (pc := 558) hx hb hX hbl hbA hS (n_in rfl (by omega) (by omega)) dL_law_558 ?_
  refine lv_topi (fun x_2 ex_2 => ?_)
  have rx_2 := n_rng x_2
  have tx_2 := congrArg Int32.toInt (e_ld (f := xs) (show x_2 = xs (x_1.toInt).toNat from ex_2) (show x_1.toInt = (i.toInt) + (1) by omega))
  refine lv_aload_n (pc := 559) hx hb dL_law_559 rfl (lv_at hl 3 rfl) ?_
  refine lv_iload_n (pc := 560) hx hb dL_law_560 rfl (lv_at hl 0 rfl) ?_
  refine lv_iconst (pc := 561) (v := 2) hx hb dL_law_561 (by decide) ?_
  as_aux_lemma =>
    refine b_iadd (pc := 562) hx hb rfl tI_2 (by omega) (by omega) dL_law_562 (fun x_3 ex_3 => ?_)
    refine va_sld (pc := 563) hx hb hX hbl hbA hS (n_in rfl (by omega) (by omega)) dL_law_563 ?_
    refine lv_topi (fun x_4 ex_4 => ?_)
    have rx_4 := n_rng x_4
    have tx_4 := congrArg Int32.toInt (e_ld (f := xs) (show x_4 = xs (x_3.toInt).toNat from ex_4) (show x_3.toInt = (i.toInt) + (2) by omega))
    refine cc_564 C0 hK hF u hfX hl x_2 x_4 hP hD hS (fun r_5 w_6 H locs hf_7 ho_8 he_9 he_10 he_11 he_12 he_13 hP hD hS => ?_)
    have rr_5 := n_rng r_5
    refine lv_pop (pc := 567) hx hb dL_law_567 rfl ?_
    refine lv_aload_n (pc := 568) hx hb dL_law_568 rfl (lv_at hl 1 rfl) ?_
    refine lv_aload_n (pc := 569) hx hb dL_law_569 rfl (lv_at hl 3 rfl) ?_
    refine lv_iload_n (pc := 570) hx hb dL_law_570 rfl (lv_at hl 0 rfl) ?_
    refine lv_iconst (pc := 571) (v := 1) hx hb dL_law_571 (by decide) ?_
    refine b_iadd (pc := 572) hx hb rfl tI_1 (by omega) (by omega) dL_law_572 (fun x_14 ex_14 => ?_)
    as_aux_lemma =>
      refine va_sld (pc := 573) hx hb hX hbl hbA hS (n_in rfl (by omega) (by omega)) dL_law_573 ?_
      refine lv_topi (fun x_15 ex_15 => ?_)
      have rx_15 := n_rng x_15
      have tx_15 := congrArg Int32.toInt (e_ld (f := xs) (show x_15 = xs (x_14.toInt).toNat from ex_15) (show x_14.toInt = (i.toInt) + (1) by omega))
      refine lv_aload_n (pc := 574) hx hb dL_law_574 rfl (lv_at hl 3 rfl) ?_
      refine lv_iload_n (pc := 575) hx hb dL_law_575 rfl (lv_at hl 0 rfl) ?_
      refine lv_iconst (pc := 576) (v := 2) hx hb dL_law_576 (by decide) ?_
      refine b_iadd (pc := 577) hx hb rfl tI_2 (by omega) (by omega) dL_law_577 (fun x_16 ex_16 => ?_)
      refine va_sld (pc := 578) hx hb hX hbl hbA hS (n_in rfl (by omega) (by omega)) dL_law_578 ?_
      refine lv_topi (fun x_17 ex_17 => ?_)
      have rx_17 := n_rng x_17
      have tx_17 := congrArg Int32.toInt (e_ld (f := xs) (show x_17 = xs (x_16.toInt).toNat from ex_17) (show x_16.toInt = (i.toInt) + (2) by omega))
      have hP : va_P D gcl (wM cB cC cI cJ v ++ wX cB cC cI cJ w_6) H := va_P.swap (a := []) (b := wX cB cC cI cJ w_6) (c := wM cB cC cI cJ v) hP
      have hD : va_D (fun q : Nat => s.heap.size ≤ q) (wM cB cC cI cJ v ++ wX cB cC cI cJ w_6) := va_D.swap (a := []) (b := wX cB cC cI cJ w_6) (c := wM cB cC cI cJ v) hD
      refine cc_579 C0 hK hF v hfM hl x_15 x_17 hP hD hS (fun r_18 w_19 H locs hf_20 ho_21 he_22 he_23 he_24 he_25 he_26 hP hD hS => ?_)
      have rr_18 := n_rng r_18
      refine lv_pop (pc := 582) hx hb dL_law_582 rfl ?_
      as_aux_lemma =>
        refine lv_goto (pc := 583) (tgt := 1519) hx hb dL_law_583 (by decide) ?_
        exact kk w_6 w_19 H locs ls hf_7 hf_20 ⟨te_cut heq.1 he_10 he_23 (by omega) (by omega), by omega, plE_keep heq.2.2 he_12 he_25 (by omega) (by omega) (by omega)⟩ ho_8 ho_21 (va_P.swap (a := []) (b := wM cB cC cI cJ w_19) (c := wX cB cC cI cJ w_6) hP) (va_D.swap (a := []) (b := wM cB cC cI cJ w_19) (c := wX cB cC cI cJ w_6) hD) hS hl
set_option maxHeartbeats 8000000 in
set_option maxRecDepth 100000 in
theorem lo_12 {p : Program} {l : Launch} {e : Env} {s : State} {m : MethodId} {below : List Frame} {meth : Method} {c : Code} {D : va_G} {cB cC cI cJ : ClassId} {b L : Nat} {xs : Nat → Int32} {adK adV : Nat → Nat} (C0 : lw_At p s m meth c b L xs) (hLN : L ≤ 3072) (hK : va_K D gcl [(cB, .byte), (cC, .char), (cI, .int), (cJ, .long)] s) (hF : sF adK adV (fun q : Nat => s.heap.size ≤ q) s s.heap) (o1 o2 : Nat) (i : Int32) (hi0 : 0 ≤ i.toInt) (hi1 : i.toInt + 6 ≤ (L : Int)) (u v : gEx) (hfX : fX u) (hfM : fM v) (heq : tEq (u.2.1 4) (u.2.2.2.1 7).toInt (v.2.1 0) (v.2.2.2.1 0).toInt ∧ ((u.2.2.2.1 5).toInt = (v.2.2.2.1 6).toInt ∧ (u.2.2.2.1 6).toInt = (v.2.2.2.1 7).toInt ∧ (u.2.2.2.1 15).toInt = (v.2.2.2.1 8).toInt ∧ (u.2.2.2.1 16).toInt = (v.2.2.2.1 9).toInt ∧ (u.2.2.2.1 17).toInt = (v.2.2.2.1 10).toInt ∧ (u.2.2.2.1 18).toInt = (v.2.2.2.1 11).toInt ∧ (u.2.2.2.1 19).toInt = (v.2.2.2.1 12).toInt ∧ (u.2.2.2.1 43).toInt = ((v.2.1 21) 0).toInt ∧ (u.2.2.2.1 24).toInt = (v.2.2.2.1 21).toInt ∧ (u.2.2.2.1 25).toInt = (v.2.2.2.1 22).toInt ∧ (u.2.2.2.1 26).toInt = (v.2.2.2.1 20).toInt) ∧ plE (u.2.1 31) (u.2.1 15) (u.2.2.2.1 20).toInt (v.2.1 17) (v.2.1 18) (v.2.2.2.1 13).toInt (u.2.2.2.1 19).toInt (u.2.2.2.1 16).toInt (u.2.2.2.1 17).toInt) (hu0 : u.1 0 = o1) (hv0 : v.1 0 = o2) (H : Heap) (locs : List Loc) (ls : Array Slot) (hP : va_P D gcl (wX cB cC cI cJ u ++ wM cB cC cI cJ v) H) (hD : va_D (fun q : Nat => s.heap.size ≤ q) (wX cB cC cI cJ u ++ wM cB cC cI cJ v)) (hS : va_S (fun q : Nat => s.heap.size ≤ q) s.heap H locs) (hl : lv_has ls 4 [(3, .int i), (2, .ref o2), (1, .ref o1), (0, .ref b)])
    (kk : ∀ (u v : gEx) (H : Heap) (locs : List Loc) (ls : Array Slot), fX u → fM v → tEq (u.2.1 4) (u.2.2.2.1 7).toInt (v.2.1 0) (v.2.2.2.1 0).toInt ∧ ((u.2.2.2.1 5).toInt = (v.2.2.2.1 6).toInt ∧ (u.2.2.2.1 6).toInt = (v.2.2.2.1 7).toInt ∧ (u.2.2.2.1 15).toInt = (v.2.2.2.1 8).toInt ∧ (u.2.2.2.1 16).toInt = (v.2.2.2.1 9).toInt ∧ (u.2.2.2.1 17).toInt = (v.2.2.2.1 10).toInt ∧ (u.2.2.2.1 18).toInt = (v.2.2.2.1 11).toInt ∧ (u.2.2.2.1 19).toInt = (v.2.2.2.1 12).toInt ∧ (u.2.2.2.1 43).toInt = ((v.2.1 21) 0).toInt ∧ (u.2.2.2.1 24).toInt = (v.2.2.2.1 21).toInt ∧ (u.2.2.2.1 25).toInt = (v.2.2.2.1 22).toInt ∧ (u.2.2.2.1 26).toInt = (v.2.2.2.1 20).toInt) ∧ plE (u.2.1 31) (u.2.1 15) (u.2.2.2.1 20).toInt (v.2.1 17) (v.2.1 18) (v.2.2.2.1 13).toInt (u.2.2.2.1 19).toInt (u.2.2.2.1 16).toInt (u.2.2.2.1 17).toInt → u.1 0 = o1 → v.1 0 = o2 → va_P D gcl (wX cB cC cI cJ u ++ wM cB cC cI cJ v) H → va_D (fun q : Nat => s.heap.size ≤ q) (wX cB cC cI cJ u ++ wM cB cC cI cJ v) → va_S (fun q : Nat => s.heap.size ≤ q) s.heap H locs → lv_has ls 4 [(3, .int i), (2, .ref o2), (1, .ref o1), (0, .ref b)] → W p l e room_1 s m #[Value.ref b] below meth c H locs 126 15724 (lw_Z below #[Value.ref b] s) (F0 m 1519 ls [])) : W p l e room_1 s m #[Value.ref b] below meth c H locs 126 15724 (lw_Z below #[Value.ref b] s) (F0 m 586 ls []) := by
  subst hu0
  subst hv0
  have hlen := heq.1.1
  have hreg := heq.2.1
  obtain ⟨hx, hb, hr, hml, hown, hts0, hX, hbl, hlocks, hgv⟩ := id C0
  have hts := g_tbl hts0
  have hbA : ¬ (fun q : Nat => s.heap.size ≤ q) b := Nat.not_le.mpr hbl
  refine lv_aload_n (pc := 586) hx hb dL_law_586 rfl (lv_at hl 2 rfl) ?_
  refine lv_aload_n (pc := 587) hx hb dL_law_587 rfl (lv_at hl 3 rfl) ?_
  refine lv_iload_n (pc := 588) hx hb dL_law_588 rfl (lv_at hl 0 rfl) ?_
  refine lv_iconst (pc := 589) (v := 1) hx hb dL_law_589 (by decide) ?_
  refine b_iadd (pc := 590) hx hb rfl tI_1 (by omega) (by omega) dL_law_590 (fun x_1 ex_1 => ?_)
  refine va_sld (pc := 591) hx hb hX hbl hbA hS (n_in rfl (by omega) (by omega)) dL_law_591 ?_
  refine lv_topi (fun x_2 ex_2 => ?_)
  have rx_2 := n_rng x_2
  have tx_2 := congrArg Int32.toInt (e_ld (f := xs) (show x_2 = xs (x_1.toInt).toNat from ex_2) (show x_1.toInt = (i.toInt) + (1) by omega))
  refine lv_aload_n (pc := 592) hx hb dL_law_592 rfl (lv_at hl 3 rfl) ?_
  refine lv_iload_n (pc := 593) hx hb dL_law_593 rfl (lv_at hl 0 rfl) ?_
  refine lv_iconst (pc := 594) (v := 2) hx hb dL_law_594 (by decide) ?_
  as_aux_lemma =>
    refine b_iadd (pc := 595) hx hb rfl tI_2 (by omega) (by omega) dL_law_595 (fun x_3 ex_3 => ?_)
    refine va_sld (pc := 596) hx hb hX hbl hbA hS (n_in rfl (by omega) (by omega)) dL_law_596 ?_
    refine lv_topi (fun x_4 ex_4 => ?_)
    have rx_4 := n_rng x_4
    have tx_4 := congrArg Int32.toInt (e_ld (f := xs) (show x_4 = xs (x_3.toInt).toNat from ex_4) (show x_3.toInt = (i.toInt) + (2) by omega))
    refine cc_597 C0 hK hF u hfX hl x_2 x_4 hP hD hS (fun r_5 w_6 H locs hf_7 ho_8 he_9 he_10 he_11 he_12 he_13 hP hD hS => ?_)
    have rr_5 := n_rng r_5
    refine lv_pop (pc := 600) hx hb dL_law_600 rfl ?_
    refine lv_aload_n (pc := 601) hx hb dL_law_601 rfl (lv_at hl 1 rfl) ?_
    refine lv_aload_n (pc := 602) hx hb dL_law_602 rfl (lv_at hl 3 rfl) ?_
    refine lv_iload_n (pc := 603) hx hb dL_law_603 rfl (lv_at hl 0 rfl) ?_
    refine lv_iconst (pc := 604) (v := 1) hx hb dL_law_604 (by decide) ?_
    refine b_iadd (pc := 605) hx hb rfl tI_1 (by omega) (by omega) dL_law_605 (fun x_14 ex_14 => ?_)
    as_aux_lemma =>
      refine va_sld (pc := 606) hx hb hX hbl hbA hS (n_in rfl (by omega) (by omega)) dL_law_606 ?_
      refine lv_topi (fun x_15 ex_15 => ?_)
      have rx_15 := n_rng x_15
      have tx_15 := congrArg Int32.toInt (e_ld (f := xs) (show x_15 = xs (x_14.toInt).toNat from ex_15) (show x_14.toInt = (i.toInt) + (1) by omega))
      refine lv_aload_n (pc := 607) hx hb dL_law_607 rfl (lv_at hl 3 rfl) ?_
      refine lv_iload_n (pc := 608) hx hb dL_law_608 rfl (lv_at hl 0 rfl) ?_
      refine lv_iconst (pc := 609) (v := 2) hx hb dL_law_609 (by decide) ?_
      refine b_iadd (pc := 610) hx hb rfl tI_2 (by omega) (by omega) dL_law_610 (fun x_16 ex_16 => ?_)
      refine va_sld (pc := 611) hx hb hX hbl hbA hS (n_in rfl (by omega) (by omega)) dL_law_611 ?_
      refine lv_topi (fun x_17 ex_17 => ?_)
      have rx_17 := n_rng x_17
      have tx_17 := congrArg Int32.toInt (e_ld (f := xs) (show x_17 = xs (x_16.toInt).toNat from ex_17) (show x_16.toInt = (i.toInt) + (2) by omega))
      have hP : va_P D gcl (wM cB cC cI cJ v ++ wX cB cC cI cJ w_6) H := va_P.swap (a := []) (b := wX cB cC cI cJ w_6) (c := wM cB cC cI cJ v) hP
      have hD : va_D (fun q : Nat => s.heap.size ≤ q) (wM cB cC cI cJ v ++ wX cB cC cI cJ w_6) := va_D.swap (a := []) (b := wX cB cC cI cJ w_6) (c := wM cB cC cI cJ v) hD
      refine cc_612 C0 hK hF v hfM hl x_15 x_17 hP hD hS (fun r_18 w_19 H locs hf_20 ho_21 he_22 he_23 he_24 he_25 he_26 hP hD hS => ?_)
      have rr_18 := n_rng r_18
      refine lv_pop (pc := 615) hx hb dL_law_615 rfl ?_
      as_aux_lemma =>
        refine lv_goto (pc := 616) (tgt := 1519) hx hb dL_law_616 (by decide) ?_
        exact kk w_6 w_19 H locs ls hf_7 hf_20 ⟨te_cut heq.1 he_10 he_23 (by omega) (by omega), by omega, plE_keep heq.2.2 he_12 he_25 (by omega) (by omega) (by omega)⟩ ho_8 ho_21 (va_P.swap (a := []) (b := wM cB cC cI cJ w_19) (c := wX cB cC cI cJ w_6) hP) (va_D.swap (a := []) (b := wM cB cC cI cJ w_19) (c := wX cB cC cI cJ w_6) hD) hS hl
set_option maxHeartbeats 8000000 in
set_option maxRecDepth 100000 in
theorem lo_13 {p : Program} {l : Launch} {e : Env} {s : State} {m : MethodId} {below : List Frame} {meth : Method} {c : Code} {D : va_G} {cB cC cI cJ : ClassId} {b L : Nat} {xs : Nat → Int32} {adK adV : Nat → Nat} (C0 : lw_At p s m meth c b L xs) (hLN : L ≤ 3072) (hK : va_K D gcl [(cB, .byte), (cC, .char), (cI, .int), (cJ, .long)] s) (hF : sF adK adV (fun q : Nat => s.heap.size ≤ q) s s.heap) (o1 o2 : Nat) (i : Int32) (hi0 : 0 ≤ i.toInt) (hi1 : i.toInt + 6 ≤ (L : Int)) (u v : gEx) (hfX : fX u) (hfM : fM v) (heq : tEq (u.2.1 4) (u.2.2.2.1 7).toInt (v.2.1 0) (v.2.2.2.1 0).toInt ∧ ((u.2.2.2.1 5).toInt = (v.2.2.2.1 6).toInt ∧ (u.2.2.2.1 6).toInt = (v.2.2.2.1 7).toInt ∧ (u.2.2.2.1 15).toInt = (v.2.2.2.1 8).toInt ∧ (u.2.2.2.1 16).toInt = (v.2.2.2.1 9).toInt ∧ (u.2.2.2.1 17).toInt = (v.2.2.2.1 10).toInt ∧ (u.2.2.2.1 18).toInt = (v.2.2.2.1 11).toInt ∧ (u.2.2.2.1 19).toInt = (v.2.2.2.1 12).toInt ∧ (u.2.2.2.1 43).toInt = ((v.2.1 21) 0).toInt ∧ (u.2.2.2.1 24).toInt = (v.2.2.2.1 21).toInt ∧ (u.2.2.2.1 25).toInt = (v.2.2.2.1 22).toInt ∧ (u.2.2.2.1 26).toInt = (v.2.2.2.1 20).toInt) ∧ plE (u.2.1 31) (u.2.1 15) (u.2.2.2.1 20).toInt (v.2.1 17) (v.2.1 18) (v.2.2.2.1 13).toInt (u.2.2.2.1 19).toInt (u.2.2.2.1 16).toInt (u.2.2.2.1 17).toInt) (hu0 : u.1 0 = o1) (hv0 : v.1 0 = o2) (H : Heap) (locs : List Loc) (ls : Array Slot) (hP : va_P D gcl (wX cB cC cI cJ u ++ wM cB cC cI cJ v) H) (hD : va_D (fun q : Nat => s.heap.size ≤ q) (wX cB cC cI cJ u ++ wM cB cC cI cJ v)) (hS : va_S (fun q : Nat => s.heap.size ≤ q) s.heap H locs) (hl : lv_has ls 4 [(3, .int i), (2, .ref o2), (1, .ref o1), (0, .ref b)])
    (kk : ∀ (u v : gEx) (H : Heap) (locs : List Loc) (ls : Array Slot), fX u → fM v → tEq (u.2.1 4) (u.2.2.2.1 7).toInt (v.2.1 0) (v.2.2.2.1 0).toInt ∧ ((u.2.2.2.1 5).toInt = (v.2.2.2.1 6).toInt ∧ (u.2.2.2.1 6).toInt = (v.2.2.2.1 7).toInt ∧ (u.2.2.2.1 15).toInt = (v.2.2.2.1 8).toInt ∧ (u.2.2.2.1 16).toInt = (v.2.2.2.1 9).toInt ∧ (u.2.2.2.1 17).toInt = (v.2.2.2.1 10).toInt ∧ (u.2.2.2.1 18).toInt = (v.2.2.2.1 11).toInt ∧ (u.2.2.2.1 19).toInt = (v.2.2.2.1 12).toInt ∧ (u.2.2.2.1 43).toInt = ((v.2.1 21) 0).toInt ∧ (u.2.2.2.1 24).toInt = (v.2.2.2.1 21).toInt ∧ (u.2.2.2.1 25).toInt = (v.2.2.2.1 22).toInt ∧ (u.2.2.2.1 26).toInt = (v.2.2.2.1 20).toInt) ∧ plE (u.2.1 31) (u.2.1 15) (u.2.2.2.1 20).toInt (v.2.1 17) (v.2.1 18) (v.2.2.2.1 13).toInt (u.2.2.2.1 19).toInt (u.2.2.2.1 16).toInt (u.2.2.2.1 17).toInt → u.1 0 = o1 → v.1 0 = o2 → va_P D gcl (wX cB cC cI cJ u ++ wM cB cC cI cJ v) H → va_D (fun q : Nat => s.heap.size ≤ q) (wX cB cC cI cJ u ++ wM cB cC cI cJ v) → va_S (fun q : Nat => s.heap.size ≤ q) s.heap H locs → lv_has ls 4 [(3, .int i), (2, .ref o2), (1, .ref o1), (0, .ref b)] → W p l e room_1 s m #[Value.ref b] below meth c H locs 126 15724 (lw_Z below #[Value.ref b] s) (F0 m 1519 ls [])) : W p l e room_1 s m #[Value.ref b] below meth c H locs 126 15724 (lw_Z below #[Value.ref b] s) (F0 m 619 ls []) := by
  subst hu0
  subst hv0
  have hlen := heq.1.1
  have hreg := heq.2.1
  obtain ⟨hx, hb, hr, hml, hown, hts0, hX, hbl, hlocks, hgv⟩ := id C0
  have hts := g_tbl hts0
  have hbA : ¬ (fun q : Nat => s.heap.size ≤ q) b := Nat.not_le.mpr hbl
  refine lv_aload_n (pc := 619) hx hb dL_law_619 rfl (lv_at hl 2 rfl) ?_
  refine lv_aload_n (pc := 620) hx hb dL_law_620 rfl (lv_at hl 3 rfl) ?_
  refine lv_iload_n (pc := 621) hx hb dL_law_621 rfl (lv_at hl 0 rfl) ?_
  refine lv_iconst (pc := 622) (v := 1) hx hb dL_law_622 (by decide) ?_
  refine b_iadd (pc := 623) hx hb rfl tI_1 (by omega) (by omega) dL_law_623 (fun x_1 ex_1 => ?_)
  refine va_sld (pc := 624) hx hb hX hbl hbA hS (n_in rfl (by omega) (by omega)) dL_law_624 ?_
  refine lv_topi (fun x_2 ex_2 => ?_)
  have rx_2 := n_rng x_2
  have tx_2 := congrArg Int32.toInt (e_ld (f := xs) (show x_2 = xs (x_1.toInt).toNat from ex_2) (show x_1.toInt = (i.toInt) + (1) by omega))
  refine cc_625 C0 hK hF u hfX hl x_2 hP hD hS (fun r_3 w_4 H locs hf_5 ho_6 he_7 he_8 he_9 he_10 he_11 hP hD hS => ?_)
  have rr_3 := n_rngL r_3
  refine lv_pop2_2 (pc := 628) hx hb dL_law_628 rfl ?_
  refine lv_aload_n (pc := 629) hx hb dL_law_629 rfl (lv_at hl 1 rfl) ?_
  refine lv_aload_n (pc := 630) hx hb dL_law_630 rfl (lv_at hl 3 rfl) ?_
  refine lv_iload_n (pc := 631) hx hb dL_law_631 rfl (lv_at hl 0 rfl) ?_
  refine lv_iconst (pc := 632) (v := 1) hx hb dL_law_632 (by decide) ?_
  refine b_iadd (pc := 633) hx hb rfl tI_1 (by omega) (by omega) dL_law_633 (fun x_12 ex_12 => ?_)
  refine va_sld (pc := 634) hx hb hX hbl hbA hS (n_in rfl (by omega) (by omega)) dL_law_634 ?_
  refine lv_topi (fun x_13 ex_13 => ?_)
  have rx_13 := n_rng x_13
  have tx_13 := congrArg Int32.toInt (e_ld (f := xs) (show x_13 = xs (x_12.toInt).toNat from ex_13) (show x_12.toInt = (i.toInt) + (1) by omega))
  have hP : va_P D gcl (wM cB cC cI cJ v ++ wX cB cC cI cJ w_4) H := va_P.swap (a := []) (b := wX cB cC cI cJ w_4) (c := wM cB cC cI cJ v) hP
  have hD : va_D (fun q : Nat => s.heap.size ≤ q) (wM cB cC cI cJ v ++ wX cB cC cI cJ w_4) := va_D.swap (a := []) (b := wX cB cC cI cJ w_4) (c := wM cB cC cI cJ v) hD
  refine cc_635 C0 hK hF v hfM hl x_13 hP hD hS (fun r_14 w_15 H locs hf_16 ho_17 he_18 he_19 he_20 he_21 he_22 hP hD hS => ?_)
  have rr_14 := n_rngL r_14
  refine lv_pop2_2 (pc := 638) hx hb dL_law_638 rfl ?_
  refine lv_goto (pc := 639) (tgt := 1519) hx hb dL_law_639 (by decide) ?_
  exact kk w_4 w_15 H locs ls hf_5 hf_16 ⟨te_cut heq.1 he_8 he_19 (by omega) (by omega), by omega, plE_keep heq.2.2 he_10 he_21 (by omega) (by omega) (by omega)⟩ ho_6 ho_17 (va_P.swap (a := []) (b := wM cB cC cI cJ w_15) (c := wX cB cC cI cJ w_4) hP) (va_D.swap (a := []) (b := wM cB cC cI cJ w_15) (c := wX cB cC cI cJ w_4) hD) hS hl
set_option maxHeartbeats 8000000 in
set_option maxRecDepth 100000 in
theorem lo_14 {p : Program} {l : Launch} {e : Env} {s : State} {m : MethodId} {below : List Frame} {meth : Method} {c : Code} {D : va_G} {cB cC cI cJ : ClassId} {b L : Nat} {xs : Nat → Int32} {adK adV : Nat → Nat} (C0 : lw_At p s m meth c b L xs) (hLN : L ≤ 3072) (hK : va_K D gcl [(cB, .byte), (cC, .char), (cI, .int), (cJ, .long)] s) (hF : sF adK adV (fun q : Nat => s.heap.size ≤ q) s s.heap) (o1 o2 : Nat) (i : Int32) (hi0 : 0 ≤ i.toInt) (hi1 : i.toInt + 6 ≤ (L : Int)) (u v : gEx) (hfX : fX u) (hfM : fM v) (heq : tEq (u.2.1 4) (u.2.2.2.1 7).toInt (v.2.1 0) (v.2.2.2.1 0).toInt ∧ ((u.2.2.2.1 5).toInt = (v.2.2.2.1 6).toInt ∧ (u.2.2.2.1 6).toInt = (v.2.2.2.1 7).toInt ∧ (u.2.2.2.1 15).toInt = (v.2.2.2.1 8).toInt ∧ (u.2.2.2.1 16).toInt = (v.2.2.2.1 9).toInt ∧ (u.2.2.2.1 17).toInt = (v.2.2.2.1 10).toInt ∧ (u.2.2.2.1 18).toInt = (v.2.2.2.1 11).toInt ∧ (u.2.2.2.1 19).toInt = (v.2.2.2.1 12).toInt ∧ (u.2.2.2.1 43).toInt = ((v.2.1 21) 0).toInt ∧ (u.2.2.2.1 24).toInt = (v.2.2.2.1 21).toInt ∧ (u.2.2.2.1 25).toInt = (v.2.2.2.1 22).toInt ∧ (u.2.2.2.1 26).toInt = (v.2.2.2.1 20).toInt) ∧ plE (u.2.1 31) (u.2.1 15) (u.2.2.2.1 20).toInt (v.2.1 17) (v.2.1 18) (v.2.2.2.1 13).toInt (u.2.2.2.1 19).toInt (u.2.2.2.1 16).toInt (u.2.2.2.1 17).toInt) (hu0 : u.1 0 = o1) (hv0 : v.1 0 = o2) (H : Heap) (locs : List Loc) (ls : Array Slot) (hP : va_P D gcl (wX cB cC cI cJ u ++ wM cB cC cI cJ v) H) (hD : va_D (fun q : Nat => s.heap.size ≤ q) (wX cB cC cI cJ u ++ wM cB cC cI cJ v)) (hS : va_S (fun q : Nat => s.heap.size ≤ q) s.heap H locs) (hl : lv_has ls 4 [(3, .int i), (2, .ref o2), (1, .ref o1), (0, .ref b)])
    (kk : ∀ (u v : gEx) (H : Heap) (locs : List Loc) (ls : Array Slot), fX u → fM v → tEq (u.2.1 4) (u.2.2.2.1 7).toInt (v.2.1 0) (v.2.2.2.1 0).toInt ∧ ((u.2.2.2.1 5).toInt = (v.2.2.2.1 6).toInt ∧ (u.2.2.2.1 6).toInt = (v.2.2.2.1 7).toInt ∧ (u.2.2.2.1 15).toInt = (v.2.2.2.1 8).toInt ∧ (u.2.2.2.1 16).toInt = (v.2.2.2.1 9).toInt ∧ (u.2.2.2.1 17).toInt = (v.2.2.2.1 10).toInt ∧ (u.2.2.2.1 18).toInt = (v.2.2.2.1 11).toInt ∧ (u.2.2.2.1 19).toInt = (v.2.2.2.1 12).toInt ∧ (u.2.2.2.1 43).toInt = ((v.2.1 21) 0).toInt ∧ (u.2.2.2.1 24).toInt = (v.2.2.2.1 21).toInt ∧ (u.2.2.2.1 25).toInt = (v.2.2.2.1 22).toInt ∧ (u.2.2.2.1 26).toInt = (v.2.2.2.1 20).toInt) ∧ plE (u.2.1 31) (u.2.1 15) (u.2.2.2.1 20).toInt (v.2.1 17) (v.2.1 18) (v.2.2.2.1 13).toInt (u.2.2.2.1 19).toInt (u.2.2.2.1 16).toInt (u.2.2.2.1 17).toInt → u.1 0 = o1 → v.1 0 = o2 → va_P D gcl (wX cB cC cI cJ u ++ wM cB cC cI cJ v) H → va_D (fun q : Nat => s.heap.size ≤ q) (wX cB cC cI cJ u ++ wM cB cC cI cJ v) → va_S (fun q : Nat => s.heap.size ≤ q) s.heap H locs → lv_has ls 4 [(3, .int i), (2, .ref o2), (1, .ref o1), (0, .ref b)] → W p l e room_1 s m #[Value.ref b] below meth c H locs 126 15724 (lw_Z below #[Value.ref b] s) (F0 m 1519 ls [])) : W p l e room_1 s m #[Value.ref b] below meth c H locs 126 15724 (lw_Z below #[Value.ref b] s) (F0 m 642 ls []) := by
  subst hu0
  subst hv0
  have hlen := heq.1.1
  have hreg := heq.2.1
  obtain ⟨hx, hb, hr, hml, hown, hts0, hX, hbl, hlocks, hgv⟩ := id C0
  have hts := g_tbl hts0
  have hbA : ¬ (fun q : Nat => s.heap.size ≤ q) b := Nat.not_le.mpr hbl
  refine lv_aload_n (pc := 642) hx hb dL_law_642 rfl (lv_at hl 2 rfl) ?_
  refine lv_aload_n (pc := 643) hx hb dL_law_643 rfl (lv_at hl 3 rfl) ?_
  refine lv_iload_n (pc := 644) hx hb dL_law_644 rfl (lv_at hl 0 rfl) ?_
  refine lv_iconst (pc := 645) (v := 1) hx hb dL_law_645 (by decide) ?_
  refine b_iadd (pc := 646) hx hb rfl tI_1 (by omega) (by omega) dL_law_646 (fun x_1 ex_1 => ?_)
  refine va_sld (pc := 647) hx hb hX hbl hbA hS (n_in rfl (by omega) (by omega)) dL_law_647 ?_
  refine lv_topi (fun x_2 ex_2 => ?_)
  have rx_2 := n_rng x_2
  have tx_2 := congrArg Int32.toInt (e_ld (f := xs) (show x_2 = xs (x_1.toInt).toNat from ex_2) (show x_1.toInt = (i.toInt) + (1) by omega))
  refine b_i2l (pc := 648) hx hb rfl dL_law_648 (fun y_3 ey_3 => ?_)
  have ry_3 := n_rng x_2
  refine lv_bipush (pc := 649) (v := 32) hx hb dL_law_649 (by decide) ?_
  refine lv_lshl (pc := 651) hx hb dL_law_651 rfl ?_
  as_aux_lemma =>
    refine lv_topl (fun y_4 _ => ?_)
    have ry_4 := n_rngL y_4
    refine lv_aload_n (pc := 652) hx hb dL_law_652 rfl (lv_at hl 3 rfl) ?_
    refine lv_iload_n (pc := 653) hx hb dL_law_653 rfl (lv_at hl 0 rfl) ?_
    refine lv_iconst (pc := 654) (v := 2) hx hb dL_law_654 (by decide) ?_
    refine b_iadd (pc := 655) hx hb rfl tI_2 (by omega) (by omega) dL_law_655 (fun x_5 ex_5 => ?_)
    refine va_sld (pc := 656) hx hb hX hbl hbA hS (n_in rfl (by omega) (by omega)) dL_law_656 ?_
    refine lv_topi (fun x_6 ex_6 => ?_)
    have rx_6 := n_rng x_6
    have tx_6 := congrArg Int32.toInt (e_ld (f := xs) (show x_6 = xs (x_5.toInt).toNat from ex_6) (show x_5.toInt = (i.toInt) + (2) by omega))
    refine b_i2l (pc := 657) hx hb rfl dL_law_657 (fun y_7 ey_7 => ?_)
    have ry_7 := n_rng x_6
    refine lv_ldc2 (pc := 658) hx hb hown (hts _ tw_2109) dL_law_658 ?_
    refine lv_land (pc := 661) hx hb dL_law_661 ?_
    as_aux_lemma =>
      refine lv_topl (fun y_8 _ => ?_)
      have ry_8 := n_rngL y_8
      refine lv_lor (pc := 662) hx hb dL_law_662 ?_
      refine lv_topl (fun y_9 _ => ?_)
      have ry_9 := n_rngL y_9
      refine cc_663 C0 hK hF u hfX hl y_9 hP hD hS (fun r_10 w_11 H locs hf_12 ho_13 he_14 he_15 he_16 he_17 he_18 hP hD hS => ?_)
      have rr_10 := n_rng r_10
      refine lv_pop (pc := 666) hx hb dL_law_666 rfl ?_
      refine lv_aload_n (pc := 667) hx hb dL_law_667 rfl (lv_at hl 1 rfl) ?_
      refine lv_aload_n (pc := 668) hx hb dL_law_668 rfl (lv_at hl 3 rfl) ?_
      refine lv_iload_n (pc := 669) hx hb dL_law_669 rfl (lv_at hl 0 rfl) ?_
      refine lv_iconst (pc := 670) (v := 1) hx hb dL_law_670 (by decide) ?_
      refine b_iadd (pc := 671) hx hb rfl tI_1 (by omega) (by omega) dL_law_671 (fun x_19 ex_19 => ?_)
      as_aux_lemma =>
        refine va_sld (pc := 672) hx hb hX hbl hbA hS (n_in rfl (by omega) (by omega)) dL_law_672 ?_
        refine lv_topi (fun x_20 ex_20 => ?_)
        have rx_20 := n_rng x_20
        have tx_20 := congrArg Int32.toInt (e_ld (f := xs) (show x_20 = xs (x_19.toInt).toNat from ex_20) (show x_19.toInt = (i.toInt) + (1) by omega))
        refine b_i2l (pc := 673) hx hb rfl dL_law_673 (fun y_21 ey_21 => ?_)
        have ry_21 := n_rng x_20
        refine lv_bipush (pc := 674) (v := 32) hx hb dL_law_674 (by decide) ?_
        refine lv_lshl (pc := 676) hx hb dL_law_676 rfl ?_
        refine lv_topl (fun y_22 _ => ?_)
        have ry_22 := n_rngL y_22
        refine lv_aload_n (pc := 677) hx hb dL_law_677 rfl (lv_at hl 3 rfl) ?_
        refine lv_iload_n (pc := 678) hx hb dL_law_678 rfl (lv_at hl 0 rfl) ?_
        refine lv_iconst (pc := 679) (v := 2) hx hb dL_law_679 (by decide) ?_
        refine b_iadd (pc := 680) hx hb rfl tI_2 (by omega) (by omega) dL_law_680 (fun x_23 ex_23 => ?_)
        as_aux_lemma =>
          refine va_sld (pc := 681) hx hb hX hbl hbA hS (n_in rfl (by omega) (by omega)) dL_law_681 ?_
          refine lv_topi (fun x_24 ex_24 => ?_)
          have rx_24 := n_rng x_24
          have tx_24 := congrArg Int32.toInt (e_ld (f := xs) (show x_24 = xs (x_23.toInt).toNat from ex_24) (show x_23.toInt = (i.toInt) + (2) by omega))
          refine b_i2l (pc := 682) hx hb rfl dL_law_682 (fun y_25 ey_25 => ?_)
          have ry_25 := n_rng x_24
          refine lv_ldc2 (pc := 683) hx hb hown (hts _ tw_2109) dL_law_683 ?_
          refine lv_land (pc := 686) hx hb dL_law_686 ?_
          refine lv_topl (fun y_26 _ => ?_)
          have ry_26 := n_rngL y_26
          refine lv_lor (pc := 687) hx hb dL_law_687 ?_
          refine lv_topl (fun y_27 _ => ?_)
          have ry_27 := n_rngL y_27
          have hP : va_P D gcl (wM cB cC cI cJ v ++ wX cB cC cI cJ w_11) H := va_P.swap (a := []) (b := wX cB cC cI cJ w_11) (c := wM cB cC cI cJ v) hP
          have hD : va_D (fun q : Nat => s.heap.size ≤ q) (wM cB cC cI cJ v ++ wX cB cC cI cJ w_11) := va_D.swap (a := []) (b := wX cB cC cI cJ w_11) (c := wM cB cC cI cJ v) hD
          refine cc_688 C0 hK hF v hfM hl y_27 hP hD hS (fun r_28 w_29 H locs hf_30 ho_31 he_32 he_33 he_34 he_35 he_36 hP hD hS => ?_)
          have rr_28 := n_rng r_28
          refine lv_pop (pc := 691) hx hb dL_law_691 rfl ?_
          as_aux_lemma =>
            refine lv_goto (pc := 692) (tgt := 1519) hx hb dL_law_692 (by decide) ?_
            exact kk w_11 w_29 H locs ls hf_12 hf_30 ⟨te_cut heq.1 he_15 he_33 (by omega) (by omega), by omega, plE_keep heq.2.2 he_17 he_35 (by omega) (by omega) (by omega)⟩ ho_13 ho_31 (va_P.swap (a := []) (b := wM cB cC cI cJ w_29) (c := wX cB cC cI cJ w_11) hP) (va_D.swap (a := []) (b := wM cB cC cI cJ w_29) (c := wX cB cC cI cJ w_11) hD) hS hl
set_option maxHeartbeats 8000000 in
set_option maxRecDepth 100000 in
theorem lo_15 {p : Program} {l : Launch} {e : Env} {s : State} {m : MethodId} {below : List Frame} {meth : Method} {c : Code} {D : va_G} {cB cC cI cJ : ClassId} {b L : Nat} {xs : Nat → Int32} {adK adV : Nat → Nat} (C0 : lw_At p s m meth c b L xs) (hLN : L ≤ 3072) (hK : va_K D gcl [(cB, .byte), (cC, .char), (cI, .int), (cJ, .long)] s) (hF : sF adK adV (fun q : Nat => s.heap.size ≤ q) s s.heap) (o1 o2 : Nat) (i : Int32) (hi0 : 0 ≤ i.toInt) (hi1 : i.toInt + 6 ≤ (L : Int)) (u v : gEx) (hfX : fX u) (hfM : fM v) (heq : tEq (u.2.1 4) (u.2.2.2.1 7).toInt (v.2.1 0) (v.2.2.2.1 0).toInt ∧ ((u.2.2.2.1 5).toInt = (v.2.2.2.1 6).toInt ∧ (u.2.2.2.1 6).toInt = (v.2.2.2.1 7).toInt ∧ (u.2.2.2.1 15).toInt = (v.2.2.2.1 8).toInt ∧ (u.2.2.2.1 16).toInt = (v.2.2.2.1 9).toInt ∧ (u.2.2.2.1 17).toInt = (v.2.2.2.1 10).toInt ∧ (u.2.2.2.1 18).toInt = (v.2.2.2.1 11).toInt ∧ (u.2.2.2.1 19).toInt = (v.2.2.2.1 12).toInt ∧ (u.2.2.2.1 43).toInt = ((v.2.1 21) 0).toInt ∧ (u.2.2.2.1 24).toInt = (v.2.2.2.1 21).toInt ∧ (u.2.2.2.1 25).toInt = (v.2.2.2.1 22).toInt ∧ (u.2.2.2.1 26).toInt = (v.2.2.2.1 20).toInt) ∧ plE (u.2.1 31) (u.2.1 15) (u.2.2.2.1 20).toInt (v.2.1 17) (v.2.1 18) (v.2.2.2.1 13).toInt (u.2.2.2.1 19).toInt (u.2.2.2.1 16).toInt (u.2.2.2.1 17).toInt) (hu0 : u.1 0 = o1) (hv0 : v.1 0 = o2) (H : Heap) (locs : List Loc) (ls : Array Slot) (hP : va_P D gcl (wX cB cC cI cJ u ++ wM cB cC cI cJ v) H) (hD : va_D (fun q : Nat => s.heap.size ≤ q) (wX cB cC cI cJ u ++ wM cB cC cI cJ v)) (hS : va_S (fun q : Nat => s.heap.size ≤ q) s.heap H locs) (hl : lv_has ls 4 [(3, .int i), (2, .ref o2), (1, .ref o1), (0, .ref b)])
    (kk : ∀ (u v : gEx) (H : Heap) (locs : List Loc) (ls : Array Slot), fX u → fM v → tEq (u.2.1 4) (u.2.2.2.1 7).toInt (v.2.1 0) (v.2.2.2.1 0).toInt ∧ ((u.2.2.2.1 5).toInt = (v.2.2.2.1 6).toInt ∧ (u.2.2.2.1 6).toInt = (v.2.2.2.1 7).toInt ∧ (u.2.2.2.1 15).toInt = (v.2.2.2.1 8).toInt ∧ (u.2.2.2.1 16).toInt = (v.2.2.2.1 9).toInt ∧ (u.2.2.2.1 17).toInt = (v.2.2.2.1 10).toInt ∧ (u.2.2.2.1 18).toInt = (v.2.2.2.1 11).toInt ∧ (u.2.2.2.1 19).toInt = (v.2.2.2.1 12).toInt ∧ (u.2.2.2.1 43).toInt = ((v.2.1 21) 0).toInt ∧ (u.2.2.2.1 24).toInt = (v.2.2.2.1 21).toInt ∧ (u.2.2.2.1 25).toInt = (v.2.2.2.1 22).toInt ∧ (u.2.2.2.1 26).toInt = (v.2.2.2.1 20).toInt) ∧ plE (u.2.1 31) (u.2.1 15) (u.2.2.2.1 20).toInt (v.2.1 17) (v.2.1 18) (v.2.2.2.1 13).toInt (u.2.2.2.1 19).toInt (u.2.2.2.1 16).toInt (u.2.2.2.1 17).toInt → u.1 0 = o1 → v.1 0 = o2 → va_P D gcl (wX cB cC cI cJ u ++ wM cB cC cI cJ v) H → va_D (fun q : Nat => s.heap.size ≤ q) (wX cB cC cI cJ u ++ wM cB cC cI cJ v) → va_S (fun q : Nat => s.heap.size ≤ q) s.heap H locs → lv_has ls 4 [(3, .int i), (2, .ref o2), (1, .ref o1), (0, .ref b)] → W p l e room_1 s m #[Value.ref b] below meth c H locs 126 15724 (lw_Z below #[Value.ref b] s) (F0 m 1519 ls [])) : W p l e room_1 s m #[Value.ref b] below meth c H locs 126 15724 (lw_Z below #[Value.ref b] s) (F0 m 695 ls []) := by
  subst hu0
  subst hv0
  have hlen := heq.1.1
  have hreg := heq.2.1
  obtain ⟨hx, hb, hr, hml, hown, hts0, hX, hbl, hlocks, hgv⟩ := id C0
  have hts := g_tbl hts0
  have hbA : ¬ (fun q : Nat => s.heap.size ≤ q) b := Nat.not_le.mpr hbl
  refine lv_aload_n (pc := 695) hx hb dL_law_695 rfl (lv_at hl 2 rfl) ?_
  refine lv_aload_n (pc := 696) hx hb dL_law_696 rfl (lv_at hl 3 rfl) ?_
  refine lv_iload_n (pc := 697) hx hb dL_law_697 rfl (lv_at hl 0 rfl) ?_
  refine lv_iconst (pc := 698) (v := 1) hx hb dL_law_698 (by decide) ?_
  refine b_iadd (pc := 699) hx hb rfl tI_1 (by omega) (by omega) dL_law_699 (fun x_1 ex_1 => ?_)
  refine va_sld (pc := 700) hx hb hX hbl hbA hS (n_in rfl (by omega) (by omega)) dL_law_700 ?_
  refine lv_topi (fun x_2 ex_2 => ?_)
  have rx_2 := n_rng x_2
  have tx_2 := congrArg Int32.toInt (e_ld (f := xs) (show x_2 = xs (x_1.toInt).toNat from ex_2) (show x_1.toInt = (i.toInt) + (1) by omega))
  refine cc_701 C0 hK hF u hfX hl x_2 hP hD hS (fun r_3 w_4 H locs hf_5 ho_6 he_7 he_8 he_9 he_10 he_11 hP hD hS => ?_)
  have rr_3 := n_rng r_3
  refine lv_pop (pc := 704) hx hb dL_law_704 rfl ?_
  refine lv_aload_n (pc := 705) hx hb dL_law_705 rfl (lv_at hl 1 rfl) ?_
  refine lv_aload_n (pc := 706) hx hb dL_law_706 rfl (lv_at hl 3 rfl) ?_
  refine lv_iload_n (pc := 707) hx hb dL_law_707 rfl (lv_at hl 0 rfl) ?_
  refine lv_iconst (pc := 708) (v := 1) hx hb dL_law_708 (by decide) ?_
  refine b_iadd (pc := 709) hx hb rfl tI_1 (by omega) (by omega) dL_law_709 (fun x_12 ex_12 => ?_)
  refine va_sld (pc := 710) hx hb hX hbl hbA hS (n_in rfl (by omega) (by omega)) dL_law_710 ?_
  refine lv_topi (fun x_13 ex_13 => ?_)
  have rx_13 := n_rng x_13
  have tx_13 := congrArg Int32.toInt (e_ld (f := xs) (show x_13 = xs (x_12.toInt).toNat from ex_13) (show x_12.toInt = (i.toInt) + (1) by omega))
  have hP : va_P D gcl (wM cB cC cI cJ v ++ wX cB cC cI cJ w_4) H := va_P.swap (a := []) (b := wX cB cC cI cJ w_4) (c := wM cB cC cI cJ v) hP
  have hD : va_D (fun q : Nat => s.heap.size ≤ q) (wM cB cC cI cJ v ++ wX cB cC cI cJ w_4) := va_D.swap (a := []) (b := wX cB cC cI cJ w_4) (c := wM cB cC cI cJ v) hD
  refine cc_711 C0 hK hF v hfM hl x_13 hP hD hS (fun r_14 w_15 H locs hf_16 ho_17 he_18 he_19 he_20 he_21 he_22 hP hD hS => ?_)
  have rr_14 := n_rng r_14
  refine lv_pop (pc := 714) hx hb dL_law_714 rfl ?_
  refine lv_goto (pc := 715) (tgt := 1519) hx hb dL_law_715 (by decide) ?_
  exact kk w_4 w_15 H locs ls hf_5 hf_16 ⟨te_cut heq.1 he_8 he_19 (by omega) (by omega), by omega, plE_keep heq.2.2 he_10 he_21 (by omega) (by omega) (by omega)⟩ ho_6 ho_17 (va_P.swap (a := []) (b := wM cB cC cI cJ w_15) (c := wX cB cC cI cJ w_4) hP) (va_D.swap (a := []) (b := wM cB cC cI cJ w_15) (c := wX cB cC cI cJ w_4) hD) hS hl
set_option maxHeartbeats 8000000 in
set_option maxRecDepth 100000 in
theorem lo_16 {p : Program} {l : Launch} {e : Env} {s : State} {m : MethodId} {below : List Frame} {meth : Method} {c : Code} {D : va_G} {cB cC cI cJ : ClassId} {b L : Nat} {xs : Nat → Int32} {adK adV : Nat → Nat} (C0 : lw_At p s m meth c b L xs) (hLN : L ≤ 3072) (hK : va_K D gcl [(cB, .byte), (cC, .char), (cI, .int), (cJ, .long)] s) (hF : sF adK adV (fun q : Nat => s.heap.size ≤ q) s s.heap) (o1 o2 : Nat) (i : Int32) (hi0 : 0 ≤ i.toInt) (hi1 : i.toInt + 6 ≤ (L : Int)) (u v : gEx) (hfX : fX u) (hfM : fM v) (heq : tEq (u.2.1 4) (u.2.2.2.1 7).toInt (v.2.1 0) (v.2.2.2.1 0).toInt ∧ ((u.2.2.2.1 5).toInt = (v.2.2.2.1 6).toInt ∧ (u.2.2.2.1 6).toInt = (v.2.2.2.1 7).toInt ∧ (u.2.2.2.1 15).toInt = (v.2.2.2.1 8).toInt ∧ (u.2.2.2.1 16).toInt = (v.2.2.2.1 9).toInt ∧ (u.2.2.2.1 17).toInt = (v.2.2.2.1 10).toInt ∧ (u.2.2.2.1 18).toInt = (v.2.2.2.1 11).toInt ∧ (u.2.2.2.1 19).toInt = (v.2.2.2.1 12).toInt ∧ (u.2.2.2.1 43).toInt = ((v.2.1 21) 0).toInt ∧ (u.2.2.2.1 24).toInt = (v.2.2.2.1 21).toInt ∧ (u.2.2.2.1 25).toInt = (v.2.2.2.1 22).toInt ∧ (u.2.2.2.1 26).toInt = (v.2.2.2.1 20).toInt) ∧ plE (u.2.1 31) (u.2.1 15) (u.2.2.2.1 20).toInt (v.2.1 17) (v.2.1 18) (v.2.2.2.1 13).toInt (u.2.2.2.1 19).toInt (u.2.2.2.1 16).toInt (u.2.2.2.1 17).toInt) (hu0 : u.1 0 = o1) (hv0 : v.1 0 = o2) (H : Heap) (locs : List Loc) (ls : Array Slot) (hP : va_P D gcl (wX cB cC cI cJ u ++ wM cB cC cI cJ v) H) (hD : va_D (fun q : Nat => s.heap.size ≤ q) (wX cB cC cI cJ u ++ wM cB cC cI cJ v)) (hS : va_S (fun q : Nat => s.heap.size ≤ q) s.heap H locs) (hl : lv_has ls 4 [(3, .int i), (2, .ref o2), (1, .ref o1), (0, .ref b)])
    (kk : ∀ (u v : gEx) (H : Heap) (locs : List Loc) (ls : Array Slot), fX u → fM v → tEq (u.2.1 4) (u.2.2.2.1 7).toInt (v.2.1 0) (v.2.2.2.1 0).toInt ∧ ((u.2.2.2.1 5).toInt = (v.2.2.2.1 6).toInt ∧ (u.2.2.2.1 6).toInt = (v.2.2.2.1 7).toInt ∧ (u.2.2.2.1 15).toInt = (v.2.2.2.1 8).toInt ∧ (u.2.2.2.1 16).toInt = (v.2.2.2.1 9).toInt ∧ (u.2.2.2.1 17).toInt = (v.2.2.2.1 10).toInt ∧ (u.2.2.2.1 18).toInt = (v.2.2.2.1 11).toInt ∧ (u.2.2.2.1 19).toInt = (v.2.2.2.1 12).toInt ∧ (u.2.2.2.1 43).toInt = ((v.2.1 21) 0).toInt ∧ (u.2.2.2.1 24).toInt = (v.2.2.2.1 21).toInt ∧ (u.2.2.2.1 25).toInt = (v.2.2.2.1 22).toInt ∧ (u.2.2.2.1 26).toInt = (v.2.2.2.1 20).toInt) ∧ plE (u.2.1 31) (u.2.1 15) (u.2.2.2.1 20).toInt (v.2.1 17) (v.2.1 18) (v.2.2.2.1 13).toInt (u.2.2.2.1 19).toInt (u.2.2.2.1 16).toInt (u.2.2.2.1 17).toInt → u.1 0 = o1 → v.1 0 = o2 → va_P D gcl (wX cB cC cI cJ u ++ wM cB cC cI cJ v) H → va_D (fun q : Nat => s.heap.size ≤ q) (wX cB cC cI cJ u ++ wM cB cC cI cJ v) → va_S (fun q : Nat => s.heap.size ≤ q) s.heap H locs → lv_has ls 4 [(3, .int i), (2, .ref o2), (1, .ref o1), (0, .ref b)] → W p l e room_1 s m #[Value.ref b] below meth c H locs 126 15724 (lw_Z below #[Value.ref b] s) (F0 m 1519 ls [])) : W p l e room_1 s m #[Value.ref b] below meth c H locs 126 15724 (lw_Z below #[Value.ref b] s) (F0 m 718 ls []) := by
  subst hu0
  subst hv0
  have hlen := heq.1.1
  have hreg := heq.2.1
  obtain ⟨hx, hb, hr, hml, hown, hts0, hX, hbl, hlocks, hgv⟩ := id C0
  have hts := g_tbl hts0
  have hbA : ¬ (fun q : Nat => s.heap.size ≤ q) b := Nat.not_le.mpr hbl
  refine lv_aload_n (pc := 718) hx hb dL_law_718 rfl (lv_at hl 2 rfl) ?_
  refine lv_aload_n (pc := 719) hx hb dL_law_719 rfl (lv_at hl 3 rfl) ?_
  refine lv_iload_n (pc := 720) hx hb dL_law_720 rfl (lv_at hl 0 rfl) ?_
  refine lv_iconst (pc := 721) (v := 1) hx hb dL_law_721 (by decide) ?_
  refine b_iadd (pc := 722) hx hb rfl tI_1 (by omega) (by omega) dL_law_722 (fun x_1 ex_1 => ?_)
  refine va_sld (pc := 723) hx hb hX hbl hbA hS (n_in rfl (by omega) (by omega)) dL_law_723 ?_
  refine lv_topi (fun x_2 ex_2 => ?_)
  have rx_2 := n_rng x_2
  have tx_2 := congrArg Int32.toInt (e_ld (f := xs) (show x_2 = xs (x_1.toInt).toNat from ex_2) (show x_1.toInt = (i.toInt) + (1) by omega))
  refine cc_724 C0 hK hF u hfX hl x_2 hP hD hS (fun r_3 w_4 H locs hf_5 ho_6 he_7 he_8 he_9 he_10 he_11 hP hD hS => ?_)
  have rr_3 := n_rng r_3
  refine lv_pop (pc := 727) hx hb dL_law_727 rfl ?_
  refine lv_aload_n (pc := 728) hx hb dL_law_728 rfl (lv_at hl 1 rfl) ?_
  refine lv_aload_n (pc := 729) hx hb dL_law_729 rfl (lv_at hl 3 rfl) ?_
  refine lv_iload_n (pc := 730) hx hb dL_law_730 rfl (lv_at hl 0 rfl) ?_
  refine lv_iconst (pc := 731) (v := 1) hx hb dL_law_731 (by decide) ?_
  refine b_iadd (pc := 732) hx hb rfl tI_1 (by omega) (by omega) dL_law_732 (fun x_12 ex_12 => ?_)
  refine va_sld (pc := 733) hx hb hX hbl hbA hS (n_in rfl (by omega) (by omega)) dL_law_733 ?_
  refine lv_topi (fun x_13 ex_13 => ?_)
  have rx_13 := n_rng x_13
  have tx_13 := congrArg Int32.toInt (e_ld (f := xs) (show x_13 = xs (x_12.toInt).toNat from ex_13) (show x_12.toInt = (i.toInt) + (1) by omega))
  have hP : va_P D gcl (wM cB cC cI cJ v ++ wX cB cC cI cJ w_4) H := va_P.swap (a := []) (b := wX cB cC cI cJ w_4) (c := wM cB cC cI cJ v) hP
  have hD : va_D (fun q : Nat => s.heap.size ≤ q) (wM cB cC cI cJ v ++ wX cB cC cI cJ w_4) := va_D.swap (a := []) (b := wX cB cC cI cJ w_4) (c := wM cB cC cI cJ v) hD
  refine cc_734 C0 hK hF v hfM hl x_13 hP hD hS (fun r_14 w_15 H locs hf_16 ho_17 he_18 he_19 he_20 he_21 he_22 hP hD hS => ?_)
  have rr_14 := n_rng r_14
  refine lv_pop (pc := 737) hx hb dL_law_737 rfl ?_
  refine lv_goto (pc := 738) (tgt := 1519) hx hb dL_law_738 (by decide) ?_
  exact kk w_4 w_15 H locs ls hf_5 hf_16 ⟨te_cut heq.1 he_8 he_19 (by omega) (by omega), by omega, plE_keep heq.2.2 he_10 he_21 (by omega) (by omega) (by omega)⟩ ho_6 ho_17 (va_P.swap (a := []) (b := wM cB cC cI cJ w_15) (c := wX cB cC cI cJ w_4) hP) (va_D.swap (a := []) (b := wM cB cC cI cJ w_15) (c := wX cB cC cI cJ w_4) hD) hS hl
set_option maxHeartbeats 8000000 in
set_option maxRecDepth 100000 in
theorem lo_17 {p : Program} {l : Launch} {e : Env} {s : State} {m : MethodId} {below : List Frame} {meth : Method} {c : Code} {D : va_G} {cB cC cI cJ : ClassId} {b L : Nat} {xs : Nat → Int32} {adK adV : Nat → Nat} (C0 : lw_At p s m meth c b L xs) (hLN : L ≤ 3072) (hK : va_K D gcl [(cB, .byte), (cC, .char), (cI, .int), (cJ, .long)] s) (hF : sF adK adV (fun q : Nat => s.heap.size ≤ q) s s.heap) (o1 o2 : Nat) (i : Int32) (hi0 : 0 ≤ i.toInt) (hi1 : i.toInt + 6 ≤ (L : Int)) (u v : gEx) (hfX : fX u) (hfM : fM v) (heq : tEq (u.2.1 4) (u.2.2.2.1 7).toInt (v.2.1 0) (v.2.2.2.1 0).toInt ∧ ((u.2.2.2.1 5).toInt = (v.2.2.2.1 6).toInt ∧ (u.2.2.2.1 6).toInt = (v.2.2.2.1 7).toInt ∧ (u.2.2.2.1 15).toInt = (v.2.2.2.1 8).toInt ∧ (u.2.2.2.1 16).toInt = (v.2.2.2.1 9).toInt ∧ (u.2.2.2.1 17).toInt = (v.2.2.2.1 10).toInt ∧ (u.2.2.2.1 18).toInt = (v.2.2.2.1 11).toInt ∧ (u.2.2.2.1 19).toInt = (v.2.2.2.1 12).toInt ∧ (u.2.2.2.1 43).toInt = ((v.2.1 21) 0).toInt ∧ (u.2.2.2.1 24).toInt = (v.2.2.2.1 21).toInt ∧ (u.2.2.2.1 25).toInt = (v.2.2.2.1 22).toInt ∧ (u.2.2.2.1 26).toInt = (v.2.2.2.1 20).toInt) ∧ plE (u.2.1 31) (u.2.1 15) (u.2.2.2.1 20).toInt (v.2.1 17) (v.2.1 18) (v.2.2.2.1 13).toInt (u.2.2.2.1 19).toInt (u.2.2.2.1 16).toInt (u.2.2.2.1 17).toInt) (hu0 : u.1 0 = o1) (hv0 : v.1 0 = o2) (H : Heap) (locs : List Loc) (ls : Array Slot) (hP : va_P D gcl (wX cB cC cI cJ u ++ wM cB cC cI cJ v) H) (hD : va_D (fun q : Nat => s.heap.size ≤ q) (wX cB cC cI cJ u ++ wM cB cC cI cJ v)) (hS : va_S (fun q : Nat => s.heap.size ≤ q) s.heap H locs) (hl : lv_has ls 4 [(3, .int i), (2, .ref o2), (1, .ref o1), (0, .ref b)])
    (kk : ∀ (u v : gEx) (H : Heap) (locs : List Loc) (ls : Array Slot), fX u → fM v → tEq (u.2.1 4) (u.2.2.2.1 7).toInt (v.2.1 0) (v.2.2.2.1 0).toInt ∧ ((u.2.2.2.1 5).toInt = (v.2.2.2.1 6).toInt ∧ (u.2.2.2.1 6).toInt = (v.2.2.2.1 7).toInt ∧ (u.2.2.2.1 15).toInt = (v.2.2.2.1 8).toInt ∧ (u.2.2.2.1 16).toInt = (v.2.2.2.1 9).toInt ∧ (u.2.2.2.1 17).toInt = (v.2.2.2.1 10).toInt ∧ (u.2.2.2.1 18).toInt = (v.2.2.2.1 11).toInt ∧ (u.2.2.2.1 19).toInt = (v.2.2.2.1 12).toInt ∧ (u.2.2.2.1 43).toInt = ((v.2.1 21) 0).toInt ∧ (u.2.2.2.1 24).toInt = (v.2.2.2.1 21).toInt ∧ (u.2.2.2.1 25).toInt = (v.2.2.2.1 22).toInt ∧ (u.2.2.2.1 26).toInt = (v.2.2.2.1 20).toInt) ∧ plE (u.2.1 31) (u.2.1 15) (u.2.2.2.1 20).toInt (v.2.1 17) (v.2.1 18) (v.2.2.2.1 13).toInt (u.2.2.2.1 19).toInt (u.2.2.2.1 16).toInt (u.2.2.2.1 17).toInt → u.1 0 = o1 → v.1 0 = o2 → va_P D gcl (wX cB cC cI cJ u ++ wM cB cC cI cJ v) H → va_D (fun q : Nat => s.heap.size ≤ q) (wX cB cC cI cJ u ++ wM cB cC cI cJ v) → va_S (fun q : Nat => s.heap.size ≤ q) s.heap H locs → lv_has ls 4 [(3, .int i), (2, .ref o2), (1, .ref o1), (0, .ref b)] → W p l e room_1 s m #[Value.ref b] below meth c H locs 126 15724 (lw_Z below #[Value.ref b] s) (F0 m 1519 ls [])) : W p l e room_1 s m #[Value.ref b] below meth c H locs 126 15724 (lw_Z below #[Value.ref b] s) (F0 m 741 ls []) := by
  subst hu0
  subst hv0
  have hlen := heq.1.1
  have hreg := heq.2.1
  obtain ⟨hx, hb, hr, hml, hown, hts0, hX, hbl, hlocks, hgv⟩ := id C0
  have hts := g_tbl hts0
  have hbA : ¬ (fun q : Nat => s.heap.size ≤ q) b := Nat.not_le.mpr hbl
  refine lv_aload_n (pc := 741) hx hb dL_law_741 rfl (lv_at hl 2 rfl) ?_
  refine cc_742 C0 hK hF u hfX hl  hP hD hS (fun r_1 w_2 H locs hf_3 ho_4 he_5 he_6 he_7 he_8 he_9 hP hD hS => ?_)
  have rr_1 := n_rngL r_1
  refine lv_pop2_2 (pc := 745) hx hb dL_law_745 rfl ?_
  refine lv_aload_n (pc := 746) hx hb dL_law_746 rfl (lv_at hl 1 rfl) ?_
  have hP : va_P D gcl (wM cB cC cI cJ v ++ wX cB cC cI cJ w_2) H := va_P.swap (a := []) (b := wX cB cC cI cJ w_2) (c := wM cB cC cI cJ v) hP
  have hD : va_D (fun q : Nat => s.heap.size ≤ q) (wM cB cC cI cJ v ++ wX cB cC cI cJ w_2) := va_D.swap (a := []) (b := wX cB cC cI cJ w_2) (c := wM cB cC cI cJ v) hD
  refine cc_747 C0 hK hF v hfM hl  hP hD hS (fun r_10 w_11 H locs hf_12 ho_13 he_14 he_15 he_16 he_17 he_18 hP hD hS => ?_)
  have rr_10 := n_rngL r_10
  refine lv_pop2_2 (pc := 750) hx hb dL_law_750 rfl ?_
  refine lv_goto (pc := 751) (tgt := 1519) hx hb dL_law_751 (by decide) ?_
  exact kk w_2 w_11 H locs ls hf_3 hf_12 ⟨te_cut heq.1 he_6 he_15 (by omega) (by omega), by omega, plE_keep heq.2.2 he_8 he_17 (by omega) (by omega) (by omega)⟩ ho_4 ho_13 (va_P.swap (a := []) (b := wM cB cC cI cJ w_11) (c := wX cB cC cI cJ w_2) hP) (va_D.swap (a := []) (b := wM cB cC cI cJ w_11) (c := wX cB cC cI cJ w_2) hD) hS hl
set_option maxHeartbeats 8000000 in
set_option maxRecDepth 100000 in
theorem lo_18 {p : Program} {l : Launch} {e : Env} {s : State} {m : MethodId} {below : List Frame} {meth : Method} {c : Code} {D : va_G} {cB cC cI cJ : ClassId} {b L : Nat} {xs : Nat → Int32} {adK adV : Nat → Nat} (C0 : lw_At p s m meth c b L xs) (hLN : L ≤ 3072) (hK : va_K D gcl [(cB, .byte), (cC, .char), (cI, .int), (cJ, .long)] s) (hF : sF adK adV (fun q : Nat => s.heap.size ≤ q) s s.heap) (o1 o2 : Nat) (i : Int32) (hi0 : 0 ≤ i.toInt) (hi1 : i.toInt + 6 ≤ (L : Int)) (u v : gEx) (hfX : fX u) (hfM : fM v) (heq : tEq (u.2.1 4) (u.2.2.2.1 7).toInt (v.2.1 0) (v.2.2.2.1 0).toInt ∧ ((u.2.2.2.1 5).toInt = (v.2.2.2.1 6).toInt ∧ (u.2.2.2.1 6).toInt = (v.2.2.2.1 7).toInt ∧ (u.2.2.2.1 15).toInt = (v.2.2.2.1 8).toInt ∧ (u.2.2.2.1 16).toInt = (v.2.2.2.1 9).toInt ∧ (u.2.2.2.1 17).toInt = (v.2.2.2.1 10).toInt ∧ (u.2.2.2.1 18).toInt = (v.2.2.2.1 11).toInt ∧ (u.2.2.2.1 19).toInt = (v.2.2.2.1 12).toInt ∧ (u.2.2.2.1 43).toInt = ((v.2.1 21) 0).toInt ∧ (u.2.2.2.1 24).toInt = (v.2.2.2.1 21).toInt ∧ (u.2.2.2.1 25).toInt = (v.2.2.2.1 22).toInt ∧ (u.2.2.2.1 26).toInt = (v.2.2.2.1 20).toInt) ∧ plE (u.2.1 31) (u.2.1 15) (u.2.2.2.1 20).toInt (v.2.1 17) (v.2.1 18) (v.2.2.2.1 13).toInt (u.2.2.2.1 19).toInt (u.2.2.2.1 16).toInt (u.2.2.2.1 17).toInt) (hu0 : u.1 0 = o1) (hv0 : v.1 0 = o2) (H : Heap) (locs : List Loc) (ls : Array Slot) (hP : va_P D gcl (wX cB cC cI cJ u ++ wM cB cC cI cJ v) H) (hD : va_D (fun q : Nat => s.heap.size ≤ q) (wX cB cC cI cJ u ++ wM cB cC cI cJ v)) (hS : va_S (fun q : Nat => s.heap.size ≤ q) s.heap H locs) (hl : lv_has ls 4 [(3, .int i), (2, .ref o2), (1, .ref o1), (0, .ref b)])
    (kk : ∀ (u v : gEx) (H : Heap) (locs : List Loc) (ls : Array Slot), fX u → fM v → tEq (u.2.1 4) (u.2.2.2.1 7).toInt (v.2.1 0) (v.2.2.2.1 0).toInt ∧ ((u.2.2.2.1 5).toInt = (v.2.2.2.1 6).toInt ∧ (u.2.2.2.1 6).toInt = (v.2.2.2.1 7).toInt ∧ (u.2.2.2.1 15).toInt = (v.2.2.2.1 8).toInt ∧ (u.2.2.2.1 16).toInt = (v.2.2.2.1 9).toInt ∧ (u.2.2.2.1 17).toInt = (v.2.2.2.1 10).toInt ∧ (u.2.2.2.1 18).toInt = (v.2.2.2.1 11).toInt ∧ (u.2.2.2.1 19).toInt = (v.2.2.2.1 12).toInt ∧ (u.2.2.2.1 43).toInt = ((v.2.1 21) 0).toInt ∧ (u.2.2.2.1 24).toInt = (v.2.2.2.1 21).toInt ∧ (u.2.2.2.1 25).toInt = (v.2.2.2.1 22).toInt ∧ (u.2.2.2.1 26).toInt = (v.2.2.2.1 20).toInt) ∧ plE (u.2.1 31) (u.2.1 15) (u.2.2.2.1 20).toInt (v.2.1 17) (v.2.1 18) (v.2.2.2.1 13).toInt (u.2.2.2.1 19).toInt (u.2.2.2.1 16).toInt (u.2.2.2.1 17).toInt → u.1 0 = o1 → v.1 0 = o2 → va_P D gcl (wX cB cC cI cJ u ++ wM cB cC cI cJ v) H → va_D (fun q : Nat => s.heap.size ≤ q) (wX cB cC cI cJ u ++ wM cB cC cI cJ v) → va_S (fun q : Nat => s.heap.size ≤ q) s.heap H locs → lv_has ls 4 [(3, .int i), (2, .ref o2), (1, .ref o1), (0, .ref b)] → W p l e room_1 s m #[Value.ref b] below meth c H locs 126 15724 (lw_Z below #[Value.ref b] s) (F0 m 1519 ls [])) : W p l e room_1 s m #[Value.ref b] below meth c H locs 126 15724 (lw_Z below #[Value.ref b] s) (F0 m 754 ls []) := by
  subst hu0
  subst hv0
  have hlen := heq.1.1
  have hreg := heq.2.1
  obtain ⟨hx, hb, hr, hml, hown, hts0, hX, hbl, hlocks, hgv⟩ := id C0
  have hts := g_tbl hts0
  have hbA : ¬ (fun q : Nat => s.heap.size ≤ q) b := Nat.not_le.mpr hbl
  refine lv_aload_n (pc := 754) hx hb dL_law_754 rfl (lv_at hl 2 rfl) ?_
  refine lv_aload_n (pc := 755) hx hb dL_law_755 rfl (lv_at hl 3 rfl) ?_
  refine lv_iload_n (pc := 756) hx hb dL_law_756 rfl (lv_at hl 0 rfl) ?_
  refine lv_iconst (pc := 757) (v := 1) hx hb dL_law_757 (by decide) ?_
  refine b_iadd (pc := 758) hx hb rfl tI_1 (by omega) (by omega) dL_law_758 (fun x_1 ex_1 => ?_)
  refine va_sld (pc := 759) hx hb hX hbl hbA hS (n_in rfl (by omega) (by omega)) dL_law_759 ?_
  refine lv_topi (fun x_2 ex_2 => ?_)
  have rx_2 := n_rng x_2
  have tx_2 := congrArg Int32.toInt (e_ld (f := xs) (show x_2 = xs (x_1.toInt).toNat from ex_2) (show x_1.toInt = (i.toInt) + (1) by omega))
  refine lv_aload_n (pc := 760) hx hb dL_law_760 rfl (lv_at hl 3 rfl) ?_
  refine lv_iload_n (pc := 761) hx hb dL_law_761 rfl (lv_at hl 0 rfl) ?_
  refine lv_iconst (pc := 762) (v := 2) hx hb dL_law_762 (by decide) ?_
  as_aux_lemma =>
    refine b_iadd (pc := 763) hx hb rfl tI_2 (by omega) (by omega) dL_law_763 (fun x_3 ex_3 => ?_)
    refine va_sld (pc := 764) hx hb hX hbl hbA hS (n_in rfl (by omega) (by omega)) dL_law_764 ?_
    refine lv_topi (fun x_4 ex_4 => ?_)
    have rx_4 := n_rng x_4
    have tx_4 := congrArg Int32.toInt (e_ld (f := xs) (show x_4 = xs (x_3.toInt).toNat from ex_4) (show x_3.toInt = (i.toInt) + (2) by omega))
    refine cc_765 C0 hK hF u hfX hl x_2 x_4 hP hD hS (fun r_5 w_6 H locs hf_7 ho_8 he_9 he_10 he_11 he_12 he_13 hP hD hS => ?_)
    have rr_5 := n_rngL r_5
    refine lv_pop2_2 (pc := 768) hx hb dL_law_768 rfl ?_
    refine lv_aload_n (pc := 769) hx hb dL_law_769 rfl (lv_at hl 1 rfl) ?_
    refine lv_aload_n (pc := 770) hx hb dL_law_770 rfl (lv_at hl 3 rfl) ?_
    refine lv_iload_n (pc := 771) hx hb dL_law_771 rfl (lv_at hl 0 rfl) ?_
    refine lv_iconst (pc := 772) (v := 1) hx hb dL_law_772 (by decide) ?_
    refine b_iadd (pc := 773) hx hb rfl tI_1 (by omega) (by omega) dL_law_773 (fun x_14 ex_14 => ?_)
    as_aux_lemma =>
      refine va_sld (pc := 774) hx hb hX hbl hbA hS (n_in rfl (by omega) (by omega)) dL_law_774 ?_
      refine lv_topi (fun x_15 ex_15 => ?_)
      have rx_15 := n_rng x_15
      have tx_15 := congrArg Int32.toInt (e_ld (f := xs) (show x_15 = xs (x_14.toInt).toNat from ex_15) (show x_14.toInt = (i.toInt) + (1) by omega))
      refine lv_aload_n (pc := 775) hx hb dL_law_775 rfl (lv_at hl 3 rfl) ?_
      refine lv_iload_n (pc := 776) hx hb dL_law_776 rfl (lv_at hl 0 rfl) ?_
      refine lv_iconst (pc := 777) (v := 2) hx hb dL_law_777 (by decide) ?_
      refine b_iadd (pc := 778) hx hb rfl tI_2 (by omega) (by omega) dL_law_778 (fun x_16 ex_16 => ?_)
      refine va_sld (pc := 779) hx hb hX hbl hbA hS (n_in rfl (by omega) (by omega)) dL_law_779 ?_
      refine lv_topi (fun x_17 ex_17 => ?_)
      have rx_17 := n_rng x_17
      have tx_17 := congrArg Int32.toInt (e_ld (f := xs) (show x_17 = xs (x_16.toInt).toNat from ex_17) (show x_16.toInt = (i.toInt) + (2) by omega))
      have hP : va_P D gcl (wM cB cC cI cJ v ++ wX cB cC cI cJ w_6) H := va_P.swap (a := []) (b := wX cB cC cI cJ w_6) (c := wM cB cC cI cJ v) hP
      have hD : va_D (fun q : Nat => s.heap.size ≤ q) (wM cB cC cI cJ v ++ wX cB cC cI cJ w_6) := va_D.swap (a := []) (b := wX cB cC cI cJ w_6) (c := wM cB cC cI cJ v) hD
      refine cc_780 C0 hK hF v hfM hl x_15 x_17 hP hD hS (fun r_18 w_19 H locs hf_20 ho_21 he_22 he_23 he_24 he_25 he_26 hP hD hS => ?_)
      have rr_18 := n_rngL r_18
      refine lv_pop2_2 (pc := 783) hx hb dL_law_783 rfl ?_
      as_aux_lemma =>
        refine lv_goto (pc := 784) (tgt := 1519) hx hb dL_law_784 (by decide) ?_
        exact kk w_6 w_19 H locs ls hf_7 hf_20 ⟨te_cut heq.1 he_10 he_23 (by omega) (by omega), by omega, plE_keep heq.2.2 he_12 he_25 (by omega) (by omega) (by omega)⟩ ho_8 ho_21 (va_P.swap (a := []) (b := wM cB cC cI cJ w_19) (c := wX cB cC cI cJ w_6) hP) (va_D.swap (a := []) (b := wM cB cC cI cJ w_19) (c := wX cB cC cI cJ w_6) hD) hS hl
set_option maxHeartbeats 8000000 in
set_option maxRecDepth 100000 in
theorem lo_19 {p : Program} {l : Launch} {e : Env} {s : State} {m : MethodId} {below : List Frame} {meth : Method} {c : Code} {D : va_G} {cB cC cI cJ : ClassId} {b L : Nat} {xs : Nat → Int32} {adK adV : Nat → Nat} (C0 : lw_At p s m meth c b L xs) (hLN : L ≤ 3072) (hK : va_K D gcl [(cB, .byte), (cC, .char), (cI, .int), (cJ, .long)] s) (hF : sF adK adV (fun q : Nat => s.heap.size ≤ q) s s.heap) (o1 o2 : Nat) (i : Int32) (hi0 : 0 ≤ i.toInt) (hi1 : i.toInt + 6 ≤ (L : Int)) (u v : gEx) (hfX : fX u) (hfM : fM v) (heq : tEq (u.2.1 4) (u.2.2.2.1 7).toInt (v.2.1 0) (v.2.2.2.1 0).toInt ∧ ((u.2.2.2.1 5).toInt = (v.2.2.2.1 6).toInt ∧ (u.2.2.2.1 6).toInt = (v.2.2.2.1 7).toInt ∧ (u.2.2.2.1 15).toInt = (v.2.2.2.1 8).toInt ∧ (u.2.2.2.1 16).toInt = (v.2.2.2.1 9).toInt ∧ (u.2.2.2.1 17).toInt = (v.2.2.2.1 10).toInt ∧ (u.2.2.2.1 18).toInt = (v.2.2.2.1 11).toInt ∧ (u.2.2.2.1 19).toInt = (v.2.2.2.1 12).toInt ∧ (u.2.2.2.1 43).toInt = ((v.2.1 21) 0).toInt ∧ (u.2.2.2.1 24).toInt = (v.2.2.2.1 21).toInt ∧ (u.2.2.2.1 25).toInt = (v.2.2.2.1 22).toInt ∧ (u.2.2.2.1 26).toInt = (v.2.2.2.1 20).toInt) ∧ plE (u.2.1 31) (u.2.1 15) (u.2.2.2.1 20).toInt (v.2.1 17) (v.2.1 18) (v.2.2.2.1 13).toInt (u.2.2.2.1 19).toInt (u.2.2.2.1 16).toInt (u.2.2.2.1 17).toInt) (hu0 : u.1 0 = o1) (hv0 : v.1 0 = o2) (H : Heap) (locs : List Loc) (ls : Array Slot) (hP : va_P D gcl (wX cB cC cI cJ u ++ wM cB cC cI cJ v) H) (hD : va_D (fun q : Nat => s.heap.size ≤ q) (wX cB cC cI cJ u ++ wM cB cC cI cJ v)) (hS : va_S (fun q : Nat => s.heap.size ≤ q) s.heap H locs) (hl : lv_has ls 4 [(3, .int i), (2, .ref o2), (1, .ref o1), (0, .ref b)])
    (kk : ∀ (u v : gEx) (H : Heap) (locs : List Loc) (ls : Array Slot), fX u → fM v → tEq (u.2.1 4) (u.2.2.2.1 7).toInt (v.2.1 0) (v.2.2.2.1 0).toInt ∧ ((u.2.2.2.1 5).toInt = (v.2.2.2.1 6).toInt ∧ (u.2.2.2.1 6).toInt = (v.2.2.2.1 7).toInt ∧ (u.2.2.2.1 15).toInt = (v.2.2.2.1 8).toInt ∧ (u.2.2.2.1 16).toInt = (v.2.2.2.1 9).toInt ∧ (u.2.2.2.1 17).toInt = (v.2.2.2.1 10).toInt ∧ (u.2.2.2.1 18).toInt = (v.2.2.2.1 11).toInt ∧ (u.2.2.2.1 19).toInt = (v.2.2.2.1 12).toInt ∧ (u.2.2.2.1 43).toInt = ((v.2.1 21) 0).toInt ∧ (u.2.2.2.1 24).toInt = (v.2.2.2.1 21).toInt ∧ (u.2.2.2.1 25).toInt = (v.2.2.2.1 22).toInt ∧ (u.2.2.2.1 26).toInt = (v.2.2.2.1 20).toInt) ∧ plE (u.2.1 31) (u.2.1 15) (u.2.2.2.1 20).toInt (v.2.1 17) (v.2.1 18) (v.2.2.2.1 13).toInt (u.2.2.2.1 19).toInt (u.2.2.2.1 16).toInt (u.2.2.2.1 17).toInt → u.1 0 = o1 → v.1 0 = o2 → va_P D gcl (wX cB cC cI cJ u ++ wM cB cC cI cJ v) H → va_D (fun q : Nat => s.heap.size ≤ q) (wX cB cC cI cJ u ++ wM cB cC cI cJ v) → va_S (fun q : Nat => s.heap.size ≤ q) s.heap H locs → lv_has ls 4 [(3, .int i), (2, .ref o2), (1, .ref o1), (0, .ref b)] → W p l e room_1 s m #[Value.ref b] below meth c H locs 126 15724 (lw_Z below #[Value.ref b] s) (F0 m 1519 ls [])) : W p l e room_1 s m #[Value.ref b] below meth c H locs 126 15724 (lw_Z below #[Value.ref b] s) (F0 m 787 ls []) := by
  subst hu0
  subst hv0
  have hlen := heq.1.1
  have hreg := heq.2.1
  obtain ⟨hx, hb, hr, hml, hown, hts0, hX, hbl, hlocks, hgv⟩ := id C0
  have hts := g_tbl hts0
  have hbA : ¬ (fun q : Nat => s.heap.size ≤ q) b := Nat.not_le.mpr hbl
  refine lv_aload_n (pc := 787) hx hb dL_law_787 rfl (lv_at hl 2 rfl) ?_
  refine lv_aload_n (pc := 788) hx hb dL_law_788 rfl (lv_at hl 3 rfl) ?_
  refine lv_iload_n (pc := 789) hx hb dL_law_789 rfl (lv_at hl 0 rfl) ?_
  refine lv_iconst (pc := 790) (v := 1) hx hb dL_law_790 (by decide) ?_
  refine b_iadd (pc := 791) hx hb rfl tI_1 (by omega) (by omega) dL_law_791 (fun x_1 ex_1 => ?_)
  refine va_sld (pc := 792) hx hb hX hbl hbA hS (n_in rfl (by omega) (by omega)) dL_law_792 ?_
  refine lv_topi (fun x_2 ex_2 => ?_)
  have rx_2 := n_rng x_2
  have tx_2 := congrArg Int32.toInt (e_ld (f := xs) (show x_2 = xs (x_1.toInt).toNat from ex_2) (show x_1.toInt = (i.toInt) + (1) by omega))
  refine lv_aload_n (pc := 793) hx hb dL_law_793 rfl (lv_at hl 3 rfl) ?_
  refine lv_iload_n (pc := 794) hx hb dL_law_794 rfl (lv_at hl 0 rfl) ?_
  refine lv_iconst (pc := 795) (v := 2) hx hb dL_law_795 (by decide) ?_
  as_aux_lemma =>
    refine b_iadd (pc := 796) hx hb rfl tI_2 (by omega) (by omega) dL_law_796 (fun x_3 ex_3 => ?_)
    refine va_sld (pc := 797) hx hb hX hbl hbA hS (n_in rfl (by omega) (by omega)) dL_law_797 ?_
    refine lv_topi (fun x_4 ex_4 => ?_)
    have rx_4 := n_rng x_4
    have tx_4 := congrArg Int32.toInt (e_ld (f := xs) (show x_4 = xs (x_3.toInt).toNat from ex_4) (show x_3.toInt = (i.toInt) + (2) by omega))
    refine cc_798 C0 hK hF u hfX hl x_2 x_4 hP hD hS (fun r_5 w_6 H locs hf_7 ho_8 he_9 he_10 he_11 he_12 he_13 hP hD hS => ?_)
    have rr_5 := n_rng r_5
    refine lv_pop (pc := 801) hx hb dL_law_801 rfl ?_
    refine lv_aload_n (pc := 802) hx hb dL_law_802 rfl (lv_at hl 1 rfl) ?_
    refine lv_aload_n (pc := 803) hx hb dL_law_803 rfl (lv_at hl 3 rfl) ?_
    refine lv_iload_n (pc := 804) hx hb dL_law_804 rfl (lv_at hl 0 rfl) ?_
    refine lv_iconst (pc := 805) (v := 1) hx hb dL_law_805 (by decide) ?_
    refine b_iadd (pc := 806) hx hb rfl tI_1 (by omega) (by omega) dL_law_806 (fun x_14 ex_14 => ?_)
    as_aux_lemma =>
      refine va_sld (pc := 807) hx hb hX hbl hbA hS (n_in rfl (by omega) (by omega)) dL_law_807 ?_
      refine lv_topi (fun x_15 ex_15 => ?_)
      have rx_15 := n_rng x_15
      have tx_15 := congrArg Int32.toInt (e_ld (f := xs) (show x_15 = xs (x_14.toInt).toNat from ex_15) (show x_14.toInt = (i.toInt) + (1) by omega))
      refine lv_aload_n (pc := 808) hx hb dL_law_808 rfl (lv_at hl 3 rfl) ?_
      refine lv_iload_n (pc := 809) hx hb dL_law_809 rfl (lv_at hl 0 rfl) ?_
      refine lv_iconst (pc := 810) (v := 2) hx hb dL_law_810 (by decide) ?_
      refine b_iadd (pc := 811) hx hb rfl tI_2 (by omega) (by omega) dL_law_811 (fun x_16 ex_16 => ?_)
      refine va_sld (pc := 812) hx hb hX hbl hbA hS (n_in rfl (by omega) (by omega)) dL_law_812 ?_
      refine lv_topi (fun x_17 ex_17 => ?_)
      have rx_17 := n_rng x_17
      have tx_17 := congrArg Int32.toInt (e_ld (f := xs) (show x_17 = xs (x_16.toInt).toNat from ex_17) (show x_16.toInt = (i.toInt) + (2) by omega))
      have hP : va_P D gcl (wM cB cC cI cJ v ++ wX cB cC cI cJ w_6) H := va_P.swap (a := []) (b := wX cB cC cI cJ w_6) (c := wM cB cC cI cJ v) hP
      have hD : va_D (fun q : Nat => s.heap.size ≤ q) (wM cB cC cI cJ v ++ wX cB cC cI cJ w_6) := va_D.swap (a := []) (b := wX cB cC cI cJ w_6) (c := wM cB cC cI cJ v) hD
      refine cc_813 C0 hK hF v hfM hl x_15 x_17 hP hD hS (fun r_18 w_19 H locs hf_20 ho_21 he_22 he_23 he_24 he_25 he_26 hP hD hS => ?_)
      have rr_18 := n_rng r_18
      refine lv_pop (pc := 816) hx hb dL_law_816 rfl ?_
      as_aux_lemma =>
        refine lv_goto (pc := 817) (tgt := 1519) hx hb dL_law_817 (by decide) ?_
        exact kk w_6 w_19 H locs ls hf_7 hf_20 ⟨te_cut heq.1 he_10 he_23 (by omega) (by omega), by omega, plE_keep heq.2.2 he_12 he_25 (by omega) (by omega) (by omega)⟩ ho_8 ho_21 (va_P.swap (a := []) (b := wM cB cC cI cJ w_19) (c := wX cB cC cI cJ w_6) hP) (va_D.swap (a := []) (b := wM cB cC cI cJ w_19) (c := wX cB cC cI cJ w_6) hD) hS hl
set_option maxHeartbeats 8000000 in
set_option maxRecDepth 100000 in
theorem lo_20 {p : Program} {l : Launch} {e : Env} {s : State} {m : MethodId} {below : List Frame} {meth : Method} {c : Code} {D : va_G} {cB cC cI cJ : ClassId} {b L : Nat} {xs : Nat → Int32} {adK adV : Nat → Nat} (C0 : lw_At p s m meth c b L xs) (hLN : L ≤ 3072) (hK : va_K D gcl [(cB, .byte), (cC, .char), (cI, .int), (cJ, .long)] s) (hF : sF adK adV (fun q : Nat => s.heap.size ≤ q) s s.heap) (o1 o2 : Nat) (i : Int32) (hi0 : 0 ≤ i.toInt) (hi1 : i.toInt + 6 ≤ (L : Int)) (u v : gEx) (hfX : fX u) (hfM : fM v) (heq : tEq (u.2.1 4) (u.2.2.2.1 7).toInt (v.2.1 0) (v.2.2.2.1 0).toInt ∧ ((u.2.2.2.1 5).toInt = (v.2.2.2.1 6).toInt ∧ (u.2.2.2.1 6).toInt = (v.2.2.2.1 7).toInt ∧ (u.2.2.2.1 15).toInt = (v.2.2.2.1 8).toInt ∧ (u.2.2.2.1 16).toInt = (v.2.2.2.1 9).toInt ∧ (u.2.2.2.1 17).toInt = (v.2.2.2.1 10).toInt ∧ (u.2.2.2.1 18).toInt = (v.2.2.2.1 11).toInt ∧ (u.2.2.2.1 19).toInt = (v.2.2.2.1 12).toInt ∧ (u.2.2.2.1 43).toInt = ((v.2.1 21) 0).toInt ∧ (u.2.2.2.1 24).toInt = (v.2.2.2.1 21).toInt ∧ (u.2.2.2.1 25).toInt = (v.2.2.2.1 22).toInt ∧ (u.2.2.2.1 26).toInt = (v.2.2.2.1 20).toInt) ∧ plE (u.2.1 31) (u.2.1 15) (u.2.2.2.1 20).toInt (v.2.1 17) (v.2.1 18) (v.2.2.2.1 13).toInt (u.2.2.2.1 19).toInt (u.2.2.2.1 16).toInt (u.2.2.2.1 17).toInt) (hu0 : u.1 0 = o1) (hv0 : v.1 0 = o2) (H : Heap) (locs : List Loc) (ls : Array Slot) (hP : va_P D gcl (wX cB cC cI cJ u ++ wM cB cC cI cJ v) H) (hD : va_D (fun q : Nat => s.heap.size ≤ q) (wX cB cC cI cJ u ++ wM cB cC cI cJ v)) (hS : va_S (fun q : Nat => s.heap.size ≤ q) s.heap H locs) (hl : lv_has ls 4 [(3, .int i), (2, .ref o2), (1, .ref o1), (0, .ref b)])
    (kk : ∀ (u v : gEx) (H : Heap) (locs : List Loc) (ls : Array Slot), fX u → fM v → tEq (u.2.1 4) (u.2.2.2.1 7).toInt (v.2.1 0) (v.2.2.2.1 0).toInt ∧ ((u.2.2.2.1 5).toInt = (v.2.2.2.1 6).toInt ∧ (u.2.2.2.1 6).toInt = (v.2.2.2.1 7).toInt ∧ (u.2.2.2.1 15).toInt = (v.2.2.2.1 8).toInt ∧ (u.2.2.2.1 16).toInt = (v.2.2.2.1 9).toInt ∧ (u.2.2.2.1 17).toInt = (v.2.2.2.1 10).toInt ∧ (u.2.2.2.1 18).toInt = (v.2.2.2.1 11).toInt ∧ (u.2.2.2.1 19).toInt = (v.2.2.2.1 12).toInt ∧ (u.2.2.2.1 43).toInt = ((v.2.1 21) 0).toInt ∧ (u.2.2.2.1 24).toInt = (v.2.2.2.1 21).toInt ∧ (u.2.2.2.1 25).toInt = (v.2.2.2.1 22).toInt ∧ (u.2.2.2.1 26).toInt = (v.2.2.2.1 20).toInt) ∧ plE (u.2.1 31) (u.2.1 15) (u.2.2.2.1 20).toInt (v.2.1 17) (v.2.1 18) (v.2.2.2.1 13).toInt (u.2.2.2.1 19).toInt (u.2.2.2.1 16).toInt (u.2.2.2.1 17).toInt → u.1 0 = o1 → v.1 0 = o2 → va_P D gcl (wX cB cC cI cJ u ++ wM cB cC cI cJ v) H → va_D (fun q : Nat => s.heap.size ≤ q) (wX cB cC cI cJ u ++ wM cB cC cI cJ v) → va_S (fun q : Nat => s.heap.size ≤ q) s.heap H locs → lv_has ls 4 [(3, .int i), (2, .ref o2), (1, .ref o1), (0, .ref b)] → W p l e room_1 s m #[Value.ref b] below meth c H locs 126 15724 (lw_Z below #[Value.ref b] s) (F0 m 1519 ls [])) : W p l e room_1 s m #[Value.ref b] below meth c H locs 126 15724 (lw_Z below #[Value.ref b] s) (F0 m 820 ls []) := by
  subst hu0
  subst hv0
  have hlen := heq.1.1
  have hreg := heq.2.1
  obtain ⟨hx, hb, hr, hml, hown, hts0, hX, hbl, hlocks, hgv⟩ := id C0
  have hts := g_tbl hts0
  have hbA : ¬ (fun q : Nat => s.heap.size ≤ q) b := Nat.not_le.mpr hbl
  refine lv_aload_n (pc := 820) hx hb dL_law_820 rfl (lv_at hl 2 rfl) ?_
  refine lv_aload_n (pc := 821) hx hb dL_law_821 rfl (lv_at hl 3 rfl) ?_
  refine lv_iload_n (pc := 822) hx hb dL_law_822 rfl (lv_at hl 0 rfl) ?_
  refine lv_iconst (pc := 823) (v := 1) hx hb dL_law_823 (by decide) ?_
  refine b_iadd (pc := 824) hx hb rfl tI_1 (by omega) (by omega) dL_law_824 (fun x_1 ex_1 => ?_)
  refine va_sld (pc := 825) hx hb hX hbl hbA hS (n_in rfl (by omega) (by omega)) dL_law_825 ?_
  refine lv_topi (fun x_2 ex_2 => ?_)
  have rx_2 := n_rng x_2
  have tx_2 := congrArg Int32.toInt (e_ld (f := xs) (show x_2 = xs (x_1.toInt).toNat from ex_2) (show x_1.toInt = (i.toInt) + (1) by omega))
  refine cc_826 C0 hK hF u hfX hl x_2 hP hD hS (fun r_3 w_4 H locs hf_5 ho_6 he_7 he_8 he_9 he_10 he_11 hP hD hS => ?_)
  have rr_3 := n_rngL r_3
  refine lv_pop2_2 (pc := 829) hx hb dL_law_829 rfl ?_
  refine lv_aload_n (pc := 830) hx hb dL_law_830 rfl (lv_at hl 1 rfl) ?_
  refine lv_aload_n (pc := 831) hx hb dL_law_831 rfl (lv_at hl 3 rfl) ?_
  refine lv_iload_n (pc := 832) hx hb dL_law_832 rfl (lv_at hl 0 rfl) ?_
  refine lv_iconst (pc := 833) (v := 1) hx hb dL_law_833 (by decide) ?_
  refine b_iadd (pc := 834) hx hb rfl tI_1 (by omega) (by omega) dL_law_834 (fun x_12 ex_12 => ?_)
  refine va_sld (pc := 835) hx hb hX hbl hbA hS (n_in rfl (by omega) (by omega)) dL_law_835 ?_
  refine lv_topi (fun x_13 ex_13 => ?_)
  have rx_13 := n_rng x_13
  have tx_13 := congrArg Int32.toInt (e_ld (f := xs) (show x_13 = xs (x_12.toInt).toNat from ex_13) (show x_12.toInt = (i.toInt) + (1) by omega))
  have hP : va_P D gcl (wM cB cC cI cJ v ++ wX cB cC cI cJ w_4) H := va_P.swap (a := []) (b := wX cB cC cI cJ w_4) (c := wM cB cC cI cJ v) hP
  have hD : va_D (fun q : Nat => s.heap.size ≤ q) (wM cB cC cI cJ v ++ wX cB cC cI cJ w_4) := va_D.swap (a := []) (b := wX cB cC cI cJ w_4) (c := wM cB cC cI cJ v) hD
  refine cc_836 C0 hK hF v hfM hl x_13 hP hD hS (fun r_14 w_15 H locs hf_16 ho_17 he_18 he_19 he_20 he_21 he_22 hP hD hS => ?_)
  have rr_14 := n_rngL r_14
  refine lv_pop2_2 (pc := 839) hx hb dL_law_839 rfl ?_
  refine lv_goto (pc := 840) (tgt := 1519) hx hb dL_law_840 (by decide) ?_
  exact kk w_4 w_15 H locs ls hf_5 hf_16 ⟨te_cut heq.1 he_8 he_19 (by omega) (by omega), by omega, plE_keep heq.2.2 he_10 he_21 (by omega) (by omega) (by omega)⟩ ho_6 ho_17 (va_P.swap (a := []) (b := wM cB cC cI cJ w_15) (c := wX cB cC cI cJ w_4) hP) (va_D.swap (a := []) (b := wM cB cC cI cJ w_15) (c := wX cB cC cI cJ w_4) hD) hS hl
set_option maxHeartbeats 8000000 in
set_option maxRecDepth 100000 in
theorem lo_21 {p : Program} {l : Launch} {e : Env} {s : State} {m : MethodId} {below : List Frame} {meth : Method} {c : Code} {D : va_G} {cB cC cI cJ : ClassId} {b L : Nat} {xs : Nat → Int32} {adK adV : Nat → Nat} (C0 : lw_At p s m meth c b L xs) (hLN : L ≤ 3072) (hK : va_K D gcl [(cB, .byte), (cC, .char), (cI, .int), (cJ, .long)] s) (hF : sF adK adV (fun q : Nat => s.heap.size ≤ q) s s.heap) (o1 o2 : Nat) (i : Int32) (hi0 : 0 ≤ i.toInt) (hi1 : i.toInt + 6 ≤ (L : Int)) (u v : gEx) (hfX : fX u) (hfM : fM v) (heq : tEq (u.2.1 4) (u.2.2.2.1 7).toInt (v.2.1 0) (v.2.2.2.1 0).toInt ∧ ((u.2.2.2.1 5).toInt = (v.2.2.2.1 6).toInt ∧ (u.2.2.2.1 6).toInt = (v.2.2.2.1 7).toInt ∧ (u.2.2.2.1 15).toInt = (v.2.2.2.1 8).toInt ∧ (u.2.2.2.1 16).toInt = (v.2.2.2.1 9).toInt ∧ (u.2.2.2.1 17).toInt = (v.2.2.2.1 10).toInt ∧ (u.2.2.2.1 18).toInt = (v.2.2.2.1 11).toInt ∧ (u.2.2.2.1 19).toInt = (v.2.2.2.1 12).toInt ∧ (u.2.2.2.1 43).toInt = ((v.2.1 21) 0).toInt ∧ (u.2.2.2.1 24).toInt = (v.2.2.2.1 21).toInt ∧ (u.2.2.2.1 25).toInt = (v.2.2.2.1 22).toInt ∧ (u.2.2.2.1 26).toInt = (v.2.2.2.1 20).toInt) ∧ plE (u.2.1 31) (u.2.1 15) (u.2.2.2.1 20).toInt (v.2.1 17) (v.2.1 18) (v.2.2.2.1 13).toInt (u.2.2.2.1 19).toInt (u.2.2.2.1 16).toInt (u.2.2.2.1 17).toInt) (hu0 : u.1 0 = o1) (hv0 : v.1 0 = o2) (H : Heap) (locs : List Loc) (ls : Array Slot) (hP : va_P D gcl (wX cB cC cI cJ u ++ wM cB cC cI cJ v) H) (hD : va_D (fun q : Nat => s.heap.size ≤ q) (wX cB cC cI cJ u ++ wM cB cC cI cJ v)) (hS : va_S (fun q : Nat => s.heap.size ≤ q) s.heap H locs) (hl : lv_has ls 4 [(3, .int i), (2, .ref o2), (1, .ref o1), (0, .ref b)])
    (kk : ∀ (u v : gEx) (H : Heap) (locs : List Loc) (ls : Array Slot), fX u → fM v → tEq (u.2.1 4) (u.2.2.2.1 7).toInt (v.2.1 0) (v.2.2.2.1 0).toInt ∧ ((u.2.2.2.1 5).toInt = (v.2.2.2.1 6).toInt ∧ (u.2.2.2.1 6).toInt = (v.2.2.2.1 7).toInt ∧ (u.2.2.2.1 15).toInt = (v.2.2.2.1 8).toInt ∧ (u.2.2.2.1 16).toInt = (v.2.2.2.1 9).toInt ∧ (u.2.2.2.1 17).toInt = (v.2.2.2.1 10).toInt ∧ (u.2.2.2.1 18).toInt = (v.2.2.2.1 11).toInt ∧ (u.2.2.2.1 19).toInt = (v.2.2.2.1 12).toInt ∧ (u.2.2.2.1 43).toInt = ((v.2.1 21) 0).toInt ∧ (u.2.2.2.1 24).toInt = (v.2.2.2.1 21).toInt ∧ (u.2.2.2.1 25).toInt = (v.2.2.2.1 22).toInt ∧ (u.2.2.2.1 26).toInt = (v.2.2.2.1 20).toInt) ∧ plE (u.2.1 31) (u.2.1 15) (u.2.2.2.1 20).toInt (v.2.1 17) (v.2.1 18) (v.2.2.2.1 13).toInt (u.2.2.2.1 19).toInt (u.2.2.2.1 16).toInt (u.2.2.2.1 17).toInt → u.1 0 = o1 → v.1 0 = o2 → va_P D gcl (wX cB cC cI cJ u ++ wM cB cC cI cJ v) H → va_D (fun q : Nat => s.heap.size ≤ q) (wX cB cC cI cJ u ++ wM cB cC cI cJ v) → va_S (fun q : Nat => s.heap.size ≤ q) s.heap H locs → lv_has ls 4 [(3, .int i), (2, .ref o2), (1, .ref o1), (0, .ref b)] → W p l e room_1 s m #[Value.ref b] below meth c H locs 126 15724 (lw_Z below #[Value.ref b] s) (F0 m 1519 ls [])) : W p l e room_1 s m #[Value.ref b] below meth c H locs 126 15724 (lw_Z below #[Value.ref b] s) (F0 m 843 ls []) := by
  subst hu0
  subst hv0
  have hlen := heq.1.1
  have hreg := heq.2.1
  obtain ⟨hx, hb, hr, hml, hown, hts0, hX, hbl, hlocks, hgv⟩ := id C0
  have hts := g_tbl hts0
  have hbA : ¬ (fun q : Nat => s.heap.size ≤ q) b := Nat.not_le.mpr hbl
  refine lv_aload_n (pc := 843) hx hb dL_law_843 rfl (lv_at hl 2 rfl) ?_
  refine lv_aload_n (pc := 844) hx hb dL_law_844 rfl (lv_at hl 3 rfl) ?_
  refine lv_iload_n (pc := 845) hx hb dL_law_845 rfl (lv_at hl 0 rfl) ?_
  refine lv_iconst (pc := 846) (v := 1) hx hb dL_law_846 (by decide) ?_
  refine b_iadd (pc := 847) hx hb rfl tI_1 (by omega) (by omega) dL_law_847 (fun x_1 ex_1 => ?_)
  refine va_sld (pc := 848) hx hb hX hbl hbA hS (n_in rfl (by omega) (by omega)) dL_law_848 ?_
  refine lv_topi (fun x_2 ex_2 => ?_)
  have rx_2 := n_rng x_2
  have tx_2 := congrArg Int32.toInt (e_ld (f := xs) (show x_2 = xs (x_1.toInt).toNat from ex_2) (show x_1.toInt = (i.toInt) + (1) by omega))
  refine cc_849 C0 hK hF u hfX hl x_2 hP hD hS (fun r_3 w_4 H locs hf_5 ho_6 he_7 he_8 he_9 he_10 he_11 hP hD hS => ?_)
  have rr_3 := n_rng r_3
  refine lv_pop (pc := 852) hx hb dL_law_852 rfl ?_
  refine lv_aload_n (pc := 853) hx hb dL_law_853 rfl (lv_at hl 1 rfl) ?_
  as_aux_lemma =>
    refine lv_aload_n (pc := 854) hx hb dL_law_854 rfl (lv_at hl 3 rfl) ?_
    refine lv_iload_n (pc := 855) hx hb dL_law_855 rfl (lv_at hl 0 rfl) ?_
    refine lv_iconst (pc := 856) (v := 1) hx hb dL_law_856 (by decide) ?_
    refine b_iadd (pc := 857) hx hb rfl tI_1 (by omega) (by omega) dL_law_857 (fun x_12 ex_12 => ?_)
    refine va_sld (pc := 858) hx hb hX hbl hbA hS (n_in rfl (by omega) (by omega)) dL_law_858 ?_
    refine lv_topi (fun x_13 ex_13 => ?_)
    have rx_13 := n_rng x_13
    have tx_13 := congrArg Int32.toInt (e_ld (f := xs) (show x_13 = xs (x_12.toInt).toNat from ex_13) (show x_12.toInt = (i.toInt) + (1) by omega))
    have hP : va_P D gcl (wM cB cC cI cJ v ++ wX cB cC cI cJ w_4) H := va_P.swap (a := []) (b := wX cB cC cI cJ w_4) (c := wM cB cC cI cJ v) hP
    have hD : va_D (fun q : Nat => s.heap.size ≤ q) (wM cB cC cI cJ v ++ wX cB cC cI cJ w_4) := va_D.swap (a := []) (b := wX cB cC cI cJ w_4) (c := wM cB cC cI cJ v) hD
    refine cc_859 C0 hK hF v hfM hl x_13 hP hD hS (fun r_14 w_15 H locs hf_16 ho_17 he_18 he_19 he_20 he_21 he_22 hP hD hS => ?_)
    have rr_14 := n_rng r_14
    have b9nXx16 := (pX_14 (u := w_4) hf_5)
    have b9nXx17 := (pX_15 (u := w_4) hf_5)
    have b9nMx9 := (pM_7 (u := w_15) hf_16)
    have b9nMx10 := (pM_8 (u := w_15) hf_16)
    have b9nMx21 := (pM_17 (u := w_15) hf_16)
    have b9nMx22 := (pM_18 (u := w_15) hf_16)
    have b9nMx20 := (pM_16 (u := w_15) hf_16)
    have b9nse := (pX_58 (u := w_4) hf_5)
    have b9nhr_a0_0 := (pM_24 (u := w_15) hf_16)
    have b9nhr_a0_1 := (pM_25 (u := w_15) hf_16)
    have b9nhr_a0_2 := (pM_26 (u := w_15) hf_16)
    have pk9 : plE (w_4.2.1 31) (w_4.2.1 15) (w_4.2.2.2.1 20).toInt (w_15.2.1 17) (w_15.2.1 18) (w_15.2.2.2.1 13).toInt (w_4.2.2.2.1 19).toInt (w_4.2.2.2.1 16).toInt (w_4.2.2.2.1 17).toInt := plE_keep heq.2.2 he_10 he_21 (by omega) (by omega) (by omega)
    have hl9 := ld_eq pk9 (pX_57 (u := w_4) hf_5) (pM_39 (u := w_15) hf_16) (by omega) (by omega) (by omega) (by omega) (by omega) he_11 he_22 (by omega) (by omega) (by omega) (by omega)
    refine lv_pop (pc := 862) hx hb dL_law_862 rfl ?_
    refine lv_goto (pc := 863) (tgt := 1519) hx hb dL_law_863 (by decide) ?_
    exact kk w_4 w_15 H locs ls hf_5 hf_16 ⟨te_cut heq.1 he_8 he_19 (by omega) (by omega), by omega, plE_keep heq.2.2 he_10 he_21 (by omega) (by omega) (by omega)⟩ ho_6 ho_17 (va_P.swap (a := []) (b := wM cB cC cI cJ w_15) (c := wX cB cC cI cJ w_4) hP) (va_D.swap (a := []) (b := wM cB cC cI cJ w_15) (c := wX cB cC cI cJ w_4) hD) hS hl
set_option maxHeartbeats 8000000 in
set_option maxRecDepth 100000 in
theorem lo_22 {p : Program} {l : Launch} {e : Env} {s : State} {m : MethodId} {below : List Frame} {meth : Method} {c : Code} {D : va_G} {cB cC cI cJ : ClassId} {b L : Nat} {xs : Nat → Int32} {adK adV : Nat → Nat} (C0 : lw_At p s m meth c b L xs) (hLN : L ≤ 3072) (hK : va_K D gcl [(cB, .byte), (cC, .char), (cI, .int), (cJ, .long)] s) (hF : sF adK adV (fun q : Nat => s.heap.size ≤ q) s s.heap) (o1 o2 : Nat) (i : Int32) (hi0 : 0 ≤ i.toInt) (hi1 : i.toInt + 6 ≤ (L : Int)) (u v : gEx) (hfX : fX u) (hfM : fM v) (heq : tEq (u.2.1 4) (u.2.2.2.1 7).toInt (v.2.1 0) (v.2.2.2.1 0).toInt ∧ ((u.2.2.2.1 5).toInt = (v.2.2.2.1 6).toInt ∧ (u.2.2.2.1 6).toInt = (v.2.2.2.1 7).toInt ∧ (u.2.2.2.1 15).toInt = (v.2.2.2.1 8).toInt ∧ (u.2.2.2.1 16).toInt = (v.2.2.2.1 9).toInt ∧ (u.2.2.2.1 17).toInt = (v.2.2.2.1 10).toInt ∧ (u.2.2.2.1 18).toInt = (v.2.2.2.1 11).toInt ∧ (u.2.2.2.1 19).toInt = (v.2.2.2.1 12).toInt ∧ (u.2.2.2.1 43).toInt = ((v.2.1 21) 0).toInt ∧ (u.2.2.2.1 24).toInt = (v.2.2.2.1 21).toInt ∧ (u.2.2.2.1 25).toInt = (v.2.2.2.1 22).toInt ∧ (u.2.2.2.1 26).toInt = (v.2.2.2.1 20).toInt) ∧ plE (u.2.1 31) (u.2.1 15) (u.2.2.2.1 20).toInt (v.2.1 17) (v.2.1 18) (v.2.2.2.1 13).toInt (u.2.2.2.1 19).toInt (u.2.2.2.1 16).toInt (u.2.2.2.1 17).toInt) (hu0 : u.1 0 = o1) (hv0 : v.1 0 = o2) (H : Heap) (locs : List Loc) (ls : Array Slot) (hP : va_P D gcl (wX cB cC cI cJ u ++ wM cB cC cI cJ v) H) (hD : va_D (fun q : Nat => s.heap.size ≤ q) (wX cB cC cI cJ u ++ wM cB cC cI cJ v)) (hS : va_S (fun q : Nat => s.heap.size ≤ q) s.heap H locs) (hl : lv_has ls 4 [(3, .int i), (2, .ref o2), (1, .ref o1), (0, .ref b)])
    (kk : ∀ (u v : gEx) (H : Heap) (locs : List Loc) (ls : Array Slot), fX u → fM v → tEq (u.2.1 4) (u.2.2.2.1 7).toInt (v.2.1 0) (v.2.2.2.1 0).toInt ∧ ((u.2.2.2.1 5).toInt = (v.2.2.2.1 6).toInt ∧ (u.2.2.2.1 6).toInt = (v.2.2.2.1 7).toInt ∧ (u.2.2.2.1 15).toInt = (v.2.2.2.1 8).toInt ∧ (u.2.2.2.1 16).toInt = (v.2.2.2.1 9).toInt ∧ (u.2.2.2.1 17).toInt = (v.2.2.2.1 10).toInt ∧ (u.2.2.2.1 18).toInt = (v.2.2.2.1 11).toInt ∧ (u.2.2.2.1 19).toInt = (v.2.2.2.1 12).toInt ∧ (u.2.2.2.1 43).toInt = ((v.2.1 21) 0).toInt ∧ (u.2.2.2.1 24).toInt = (v.2.2.2.1 21).toInt ∧ (u.2.2.2.1 25).toInt = (v.2.2.2.1 22).toInt ∧ (u.2.2.2.1 26).toInt = (v.2.2.2.1 20).toInt) ∧ plE (u.2.1 31) (u.2.1 15) (u.2.2.2.1 20).toInt (v.2.1 17) (v.2.1 18) (v.2.2.2.1 13).toInt (u.2.2.2.1 19).toInt (u.2.2.2.1 16).toInt (u.2.2.2.1 17).toInt → u.1 0 = o1 → v.1 0 = o2 → va_P D gcl (wX cB cC cI cJ u ++ wM cB cC cI cJ v) H → va_D (fun q : Nat => s.heap.size ≤ q) (wX cB cC cI cJ u ++ wM cB cC cI cJ v) → va_S (fun q : Nat => s.heap.size ≤ q) s.heap H locs → lv_has ls 4 [(3, .int i), (2, .ref o2), (1, .ref o1), (0, .ref b)] → W p l e room_1 s m #[Value.ref b] below meth c H locs 126 15724 (lw_Z below #[Value.ref b] s) (F0 m 1519 ls [])) : W p l e room_1 s m #[Value.ref b] below meth c H locs 126 15724 (lw_Z below #[Value.ref b] s) (F0 m 866 ls []) := by
  subst hu0
  subst hv0
  have hlen := heq.1.1
  have hreg := heq.2.1
  obtain ⟨hx, hb, hr, hml, hown, hts0, hX, hbl, hlocks, hgv⟩ := id C0
  have hts := g_tbl hts0
  have hbA : ¬ (fun q : Nat => s.heap.size ≤ q) b := Nat.not_le.mpr hbl
  refine lv_aload_n (pc := 866) hx hb dL_law_866 rfl (lv_at hl 2 rfl) ?_
  refine cc_867 C0 hK hF u hfX hl  hP hD hS (fun r_1 w_2 H locs hf_3 ho_4 he_5 he_6 he_7 he_8 he_9 hP hD hS => ?_)
  have rr_1 := n_rng r_1
  refine lv_pop (pc := 870) hx hb dL_law_870 rfl ?_
  refine lv_aload_n (pc := 871) hx hb dL_law_871 rfl (lv_at hl 1 rfl) ?_
  have hP : va_P D gcl (wM cB cC cI cJ v ++ wX cB cC cI cJ w_2) H := va_P.swap (a := []) (b := wX cB cC cI cJ w_2) (c := wM cB cC cI cJ v) hP
  have hD : va_D (fun q : Nat => s.heap.size ≤ q) (wM cB cC cI cJ v ++ wX cB cC cI cJ w_2) := va_D.swap (a := []) (b := wX cB cC cI cJ w_2) (c := wM cB cC cI cJ v) hD
  refine cc_872 C0 hK hF v hfM hl  hP hD hS (fun r_10 w_11 H locs hf_12 ho_13 he_14 he_15 he_16 he_17 he_18 hP hD hS => ?_)
  have rr_10 := n_rng r_10
  have hl9 := un_eq he_9 he_18 (by omega) (by omega) (by omega)
  refine lv_pop (pc := 875) hx hb dL_law_875 rfl ?_
  refine lv_goto (pc := 876) (tgt := 1519) hx hb dL_law_876 (by decide) ?_
  exact kk w_2 w_11 H locs ls hf_3 hf_12 ⟨te_cut heq.1 he_6 he_15 (by omega) (by omega), by omega, plE_keep heq.2.2 he_8 he_17 (by omega) (by omega) (by omega)⟩ ho_4 ho_13 (va_P.swap (a := []) (b := wM cB cC cI cJ w_11) (c := wX cB cC cI cJ w_2) hP) (va_D.swap (a := []) (b := wM cB cC cI cJ w_11) (c := wX cB cC cI cJ w_2) hD) hS hl
set_option maxHeartbeats 8000000 in
set_option maxRecDepth 100000 in
theorem lo_23 {p : Program} {l : Launch} {e : Env} {s : State} {m : MethodId} {below : List Frame} {meth : Method} {c : Code} {D : va_G} {cB cC cI cJ : ClassId} {b L : Nat} {xs : Nat → Int32} {adK adV : Nat → Nat} (C0 : lw_At p s m meth c b L xs) (hLN : L ≤ 3072) (hK : va_K D gcl [(cB, .byte), (cC, .char), (cI, .int), (cJ, .long)] s) (hF : sF adK adV (fun q : Nat => s.heap.size ≤ q) s s.heap) (o1 o2 : Nat) (i : Int32) (hi0 : 0 ≤ i.toInt) (hi1 : i.toInt + 6 ≤ (L : Int)) (u v : gEx) (hfX : fX u) (hfM : fM v) (heq : tEq (u.2.1 4) (u.2.2.2.1 7).toInt (v.2.1 0) (v.2.2.2.1 0).toInt ∧ ((u.2.2.2.1 5).toInt = (v.2.2.2.1 6).toInt ∧ (u.2.2.2.1 6).toInt = (v.2.2.2.1 7).toInt ∧ (u.2.2.2.1 15).toInt = (v.2.2.2.1 8).toInt ∧ (u.2.2.2.1 16).toInt = (v.2.2.2.1 9).toInt ∧ (u.2.2.2.1 17).toInt = (v.2.2.2.1 10).toInt ∧ (u.2.2.2.1 18).toInt = (v.2.2.2.1 11).toInt ∧ (u.2.2.2.1 19).toInt = (v.2.2.2.1 12).toInt ∧ (u.2.2.2.1 43).toInt = ((v.2.1 21) 0).toInt ∧ (u.2.2.2.1 24).toInt = (v.2.2.2.1 21).toInt ∧ (u.2.2.2.1 25).toInt = (v.2.2.2.1 22).toInt ∧ (u.2.2.2.1 26).toInt = (v.2.2.2.1 20).toInt) ∧ plE (u.2.1 31) (u.2.1 15) (u.2.2.2.1 20).toInt (v.2.1 17) (v.2.1 18) (v.2.2.2.1 13).toInt (u.2.2.2.1 19).toInt (u.2.2.2.1 16).toInt (u.2.2.2.1 17).toInt) (hu0 : u.1 0 = o1) (hv0 : v.1 0 = o2) (H : Heap) (locs : List Loc) (ls : Array Slot) (hP : va_P D gcl (wX cB cC cI cJ u ++ wM cB cC cI cJ v) H) (hD : va_D (fun q : Nat => s.heap.size ≤ q) (wX cB cC cI cJ u ++ wM cB cC cI cJ v)) (hS : va_S (fun q : Nat => s.heap.size ≤ q) s.heap H locs) (hl : lv_has ls 4 [(3, .int i), (2, .ref o2), (1, .ref o1), (0, .ref b)])
    (kk : ∀ (u v : gEx) (H : Heap) (locs : List Loc) (ls : Array Slot), fX u → fM v → tEq (u.2.1 4) (u.2.2.2.1 7).toInt (v.2.1 0) (v.2.2.2.1 0).toInt ∧ ((u.2.2.2.1 5).toInt = (v.2.2.2.1 6).toInt ∧ (u.2.2.2.1 6).toInt = (v.2.2.2.1 7).toInt ∧ (u.2.2.2.1 15).toInt = (v.2.2.2.1 8).toInt ∧ (u.2.2.2.1 16).toInt = (v.2.2.2.1 9).toInt ∧ (u.2.2.2.1 17).toInt = (v.2.2.2.1 10).toInt ∧ (u.2.2.2.1 18).toInt = (v.2.2.2.1 11).toInt ∧ (u.2.2.2.1 19).toInt = (v.2.2.2.1 12).toInt ∧ (u.2.2.2.1 43).toInt = ((v.2.1 21) 0).toInt ∧ (u.2.2.2.1 24).toInt = (v.2.2.2.1 21).toInt ∧ (u.2.2.2.1 25).toInt = (v.2.2.2.1 22).toInt ∧ (u.2.2.2.1 26).toInt = (v.2.2.2.1 20).toInt) ∧ plE (u.2.1 31) (u.2.1 15) (u.2.2.2.1 20).toInt (v.2.1 17) (v.2.1 18) (v.2.2.2.1 13).toInt (u.2.2.2.1 19).toInt (u.2.2.2.1 16).toInt (u.2.2.2.1 17).toInt → u.1 0 = o1 → v.1 0 = o2 → va_P D gcl (wX cB cC cI cJ u ++ wM cB cC cI cJ v) H → va_D (fun q : Nat => s.heap.size ≤ q) (wX cB cC cI cJ u ++ wM cB cC cI cJ v) → va_S (fun q : Nat => s.heap.size ≤ q) s.heap H locs → lv_has ls 4 [(3, .int i), (2, .ref o2), (1, .ref o1), (0, .ref b)] → W p l e room_1 s m #[Value.ref b] below meth c H locs 126 15724 (lw_Z below #[Value.ref b] s) (F0 m 1519 ls [])) : W p l e room_1 s m #[Value.ref b] below meth c H locs 126 15724 (lw_Z below #[Value.ref b] s) (F0 m 879 ls []) := by
  subst hu0
  subst hv0
  have hlen := heq.1.1
  have hreg := heq.2.1
  obtain ⟨hx, hb, hr, hml, hown, hts0, hX, hbl, hlocks, hgv⟩ := id C0
  have hts := g_tbl hts0
  have hbA : ¬ (fun q : Nat => s.heap.size ≤ q) b := Nat.not_le.mpr hbl
  refine lv_aload_n (pc := 879) hx hb dL_law_879 rfl (lv_at hl 2 rfl) ?_
  refine cc_880 C0 hK hF u hfX hl  hP hD hS (fun r_1 w_2 H locs hf_3 ho_4 he_5 he_6 he_7 he_8 he_9 hP hD hS => ?_)
  have rr_1 := n_rng r_1
  refine lv_pop (pc := 883) hx hb dL_law_883 rfl ?_
  refine lv_aload_n (pc := 884) hx hb dL_law_884 rfl (lv_at hl 1 rfl) ?_
  have hP : va_P D gcl (wM cB cC cI cJ v ++ wX cB cC cI cJ w_2) H := va_P.swap (a := []) (b := wX cB cC cI cJ w_2) (c := wM cB cC cI cJ v) hP
  have hD : va_D (fun q : Nat => s.heap.size ≤ q) (wM cB cC cI cJ v ++ wX cB cC cI cJ w_2) := va_D.swap (a := []) (b := wX cB cC cI cJ w_2) (c := wM cB cC cI cJ v) hD
  refine cc_885 C0 hK hF v hfM hl  hP hD hS (fun r_10 w_11 H locs hf_12 ho_13 he_14 he_15 he_16 he_17 he_18 hP hD hS => ?_)
  have rr_10 := n_rng r_10
  have hl9 := re_eq he_9 he_18 (by omega) (by omega) (by omega)
  refine lv_pop (pc := 888) hx hb dL_law_888 rfl ?_
  refine lv_goto (pc := 889) (tgt := 1519) hx hb dL_law_889 (by decide) ?_
  exact kk w_2 w_11 H locs ls hf_3 hf_12 ⟨te_cut heq.1 he_6 he_15 (by omega) (by omega), by omega, plE_keep heq.2.2 he_8 he_17 (by omega) (by omega) (by omega)⟩ ho_4 ho_13 (va_P.swap (a := []) (b := wM cB cC cI cJ w_11) (c := wX cB cC cI cJ w_2) hP) (va_D.swap (a := []) (b := wM cB cC cI cJ w_11) (c := wX cB cC cI cJ w_2) hD) hS hl
set_option maxHeartbeats 8000000 in
set_option maxRecDepth 100000 in
theorem lo_24 {p : Program} {l : Launch} {e : Env} {s : State} {m : MethodId} {below : List Frame} {meth : Method} {c : Code} {D : va_G} {cB cC cI cJ : ClassId} {b L : Nat} {xs : Nat → Int32} {adK adV : Nat → Nat} (C0 : lw_At p s m meth c b L xs) (hLN : L ≤ 3072) (hK : va_K D gcl [(cB, .byte), (cC, .char), (cI, .int), (cJ, .long)] s) (hF : sF adK adV (fun q : Nat => s.heap.size ≤ q) s s.heap) (o1 o2 : Nat) (i : Int32) (hi0 : 0 ≤ i.toInt) (hi1 : i.toInt + 6 ≤ (L : Int)) (u v : gEx) (hfX : fX u) (hfM : fM v) (heq : tEq (u.2.1 4) (u.2.2.2.1 7).toInt (v.2.1 0) (v.2.2.2.1 0).toInt ∧ ((u.2.2.2.1 5).toInt = (v.2.2.2.1 6).toInt ∧ (u.2.2.2.1 6).toInt = (v.2.2.2.1 7).toInt ∧ (u.2.2.2.1 15).toInt = (v.2.2.2.1 8).toInt ∧ (u.2.2.2.1 16).toInt = (v.2.2.2.1 9).toInt ∧ (u.2.2.2.1 17).toInt = (v.2.2.2.1 10).toInt ∧ (u.2.2.2.1 18).toInt = (v.2.2.2.1 11).toInt ∧ (u.2.2.2.1 19).toInt = (v.2.2.2.1 12).toInt ∧ (u.2.2.2.1 43).toInt = ((v.2.1 21) 0).toInt ∧ (u.2.2.2.1 24).toInt = (v.2.2.2.1 21).toInt ∧ (u.2.2.2.1 25).toInt = (v.2.2.2.1 22).toInt ∧ (u.2.2.2.1 26).toInt = (v.2.2.2.1 20).toInt) ∧ plE (u.2.1 31) (u.2.1 15) (u.2.2.2.1 20).toInt (v.2.1 17) (v.2.1 18) (v.2.2.2.1 13).toInt (u.2.2.2.1 19).toInt (u.2.2.2.1 16).toInt (u.2.2.2.1 17).toInt) (hu0 : u.1 0 = o1) (hv0 : v.1 0 = o2) (H : Heap) (locs : List Loc) (ls : Array Slot) (hP : va_P D gcl (wX cB cC cI cJ u ++ wM cB cC cI cJ v) H) (hD : va_D (fun q : Nat => s.heap.size ≤ q) (wX cB cC cI cJ u ++ wM cB cC cI cJ v)) (hS : va_S (fun q : Nat => s.heap.size ≤ q) s.heap H locs) (hl : lv_has ls 4 [(3, .int i), (2, .ref o2), (1, .ref o1), (0, .ref b)])
    (kk : ∀ (u v : gEx) (H : Heap) (locs : List Loc) (ls : Array Slot), fX u → fM v → tEq (u.2.1 4) (u.2.2.2.1 7).toInt (v.2.1 0) (v.2.2.2.1 0).toInt ∧ ((u.2.2.2.1 5).toInt = (v.2.2.2.1 6).toInt ∧ (u.2.2.2.1 6).toInt = (v.2.2.2.1 7).toInt ∧ (u.2.2.2.1 15).toInt = (v.2.2.2.1 8).toInt ∧ (u.2.2.2.1 16).toInt = (v.2.2.2.1 9).toInt ∧ (u.2.2.2.1 17).toInt = (v.2.2.2.1 10).toInt ∧ (u.2.2.2.1 18).toInt = (v.2.2.2.1 11).toInt ∧ (u.2.2.2.1 19).toInt = (v.2.2.2.1 12).toInt ∧ (u.2.2.2.1 43).toInt = ((v.2.1 21) 0).toInt ∧ (u.2.2.2.1 24).toInt = (v.2.2.2.1 21).toInt ∧ (u.2.2.2.1 25).toInt = (v.2.2.2.1 22).toInt ∧ (u.2.2.2.1 26).toInt = (v.2.2.2.1 20).toInt) ∧ plE (u.2.1 31) (u.2.1 15) (u.2.2.2.1 20).toInt (v.2.1 17) (v.2.1 18) (v.2.2.2.1 13).toInt (u.2.2.2.1 19).toInt (u.2.2.2.1 16).toInt (u.2.2.2.1 17).toInt → u.1 0 = o1 → v.1 0 = o2 → va_P D gcl (wX cB cC cI cJ u ++ wM cB cC cI cJ v) H → va_D (fun q : Nat => s.heap.size ≤ q) (wX cB cC cI cJ u ++ wM cB cC cI cJ v) → va_S (fun q : Nat => s.heap.size ≤ q) s.heap H locs → lv_has ls 4 [(3, .int i), (2, .ref o2), (1, .ref o1), (0, .ref b)] → W p l e room_1 s m #[Value.ref b] below meth c H locs 126 15724 (lw_Z below #[Value.ref b] s) (F0 m 1519 ls [])) : W p l e room_1 s m #[Value.ref b] below meth c H locs 126 15724 (lw_Z below #[Value.ref b] s) (F0 m 892 ls []) := by
  subst hu0
  subst hv0
  have hlen := heq.1.1
  have hreg := heq.2.1
  obtain ⟨hx, hb, hr, hml, hown, hts0, hX, hbl, hlocks, hgv⟩ := id C0
  have hts := g_tbl hts0
  have hbA : ¬ (fun q : Nat => s.heap.size ≤ q) b := Nat.not_le.mpr hbl
  refine lv_aload_n (pc := 892) hx hb dL_law_892 rfl (lv_at hl 2 rfl) ?_
  refine lv_aload_n (pc := 893) hx hb dL_law_893 rfl (lv_at hl 3 rfl) ?_
  refine lv_iload_n (pc := 894) hx hb dL_law_894 rfl (lv_at hl 0 rfl) ?_
  refine lv_iconst (pc := 895) (v := 1) hx hb dL_law_895 (by decide) ?_
  refine b_iadd (pc := 896) hx hb rfl tI_1 (by omega) (by omega) dL_law_896 (fun x_1 ex_1 => ?_)
  refine va_sld (pc := 897) hx hb hX hbl hbA hS (n_in rfl (by omega) (by omega)) dL_law_897 ?_
  refine lv_topi (fun x_2 ex_2 => ?_)
  have rx_2 := n_rng x_2
  have tx_2 := congrArg Int32.toInt (e_ld (f := xs) (show x_2 = xs (x_1.toInt).toNat from ex_2) (show x_1.toInt = (i.toInt) + (1) by omega))
  refine lv_aload_n (pc := 898) hx hb dL_law_898 rfl (lv_at hl 3 rfl) ?_
  refine lv_iload_n (pc := 899) hx hb dL_law_899 rfl (lv_at hl 0 rfl) ?_
  refine lv_iconst (pc := 900) (v := 2) hx hb dL_law_900 (by decide) ?_
  as_aux_lemma =>
    refine b_iadd (pc := 901) hx hb rfl tI_2 (by omega) (by omega) dL_law_901 (fun x_3 ex_3 => ?_)
    refine va_sld (pc := 902) hx hb hX hbl hbA hS (n_in rfl (by omega) (by omega)) dL_law_902 ?_
    refine lv_topi (fun x_4 ex_4 => ?_)
    have rx_4 := n_rng x_4
    have tx_4 := congrArg Int32.toInt (e_ld (f := xs) (show x_4 = xs (x_3.toInt).toNat from ex_4) (show x_3.toInt = (i.toInt) + (2) by omega))
    refine cc_903 C0 hK hF u hfX hl x_2 x_4 hP hD hS (fun r_5 w_6 H locs hf_7 ho_8 he_9 he_10 he_11 he_12 he_13 hP hD hS => ?_)
    have rr_5 := n_rngL r_5
    refine lv_pop2_2 (pc := 906) hx hb dL_law_906 rfl ?_
    refine lv_aload_n (pc := 907) hx hb dL_law_907 rfl (lv_at hl 1 rfl) ?_
    refine lv_aload_n (pc := 908) hx hb dL_law_908 rfl (lv_at hl 3 rfl) ?_
    refine lv_iload_n (pc := 909) hx hb dL_law_909 rfl (lv_at hl 0 rfl) ?_
    refine lv_iconst (pc := 910) (v := 1) hx hb dL_law_910 (by decide) ?_
    refine b_iadd (pc := 911) hx hb rfl tI_1 (by omega) (by omega) dL_law_911 (fun x_14 ex_14 => ?_)
    as_aux_lemma =>
      refine va_sld (pc := 912) hx hb hX hbl hbA hS (n_in rfl (by omega) (by omega)) dL_law_912 ?_
      refine lv_topi (fun x_15 ex_15 => ?_)
      have rx_15 := n_rng x_15
      have tx_15 := congrArg Int32.toInt (e_ld (f := xs) (show x_15 = xs (x_14.toInt).toNat from ex_15) (show x_14.toInt = (i.toInt) + (1) by omega))
      refine lv_aload_n (pc := 913) hx hb dL_law_913 rfl (lv_at hl 3 rfl) ?_
      refine lv_iload_n (pc := 914) hx hb dL_law_914 rfl (lv_at hl 0 rfl) ?_
      refine lv_iconst (pc := 915) (v := 2) hx hb dL_law_915 (by decide) ?_
      refine b_iadd (pc := 916) hx hb rfl tI_2 (by omega) (by omega) dL_law_916 (fun x_16 ex_16 => ?_)
      refine va_sld (pc := 917) hx hb hX hbl hbA hS (n_in rfl (by omega) (by omega)) dL_law_917 ?_
      refine lv_topi (fun x_17 ex_17 => ?_)
      have rx_17 := n_rng x_17
      have tx_17 := congrArg Int32.toInt (e_ld (f := xs) (show x_17 = xs (x_16.toInt).toNat from ex_17) (show x_16.toInt = (i.toInt) + (2) by omega))
      have hP : va_P D gcl (wM cB cC cI cJ v ++ wX cB cC cI cJ w_6) H := va_P.swap (a := []) (b := wX cB cC cI cJ w_6) (c := wM cB cC cI cJ v) hP
      have hD : va_D (fun q : Nat => s.heap.size ≤ q) (wM cB cC cI cJ v ++ wX cB cC cI cJ w_6) := va_D.swap (a := []) (b := wX cB cC cI cJ w_6) (c := wM cB cC cI cJ v) hD
      refine cc_918 C0 hK hF v hfM hl x_15 x_17 hP hD hS (fun r_18 w_19 H locs hf_20 ho_21 he_22 he_23 he_24 he_25 he_26 hP hD hS => ?_)
      have rr_18 := n_rngL r_18
      refine lv_pop2_2 (pc := 921) hx hb dL_law_921 rfl ?_
      as_aux_lemma =>
        refine lv_goto (pc := 922) (tgt := 1519) hx hb dL_law_922 (by decide) ?_
        exact kk w_6 w_19 H locs ls hf_7 hf_20 ⟨te_cut heq.1 he_10 he_23 (by omega) (by omega), by omega, plE_keep heq.2.2 he_12 he_25 (by omega) (by omega) (by omega)⟩ ho_8 ho_21 (va_P.swap (a := []) (b := wM cB cC cI cJ w_19) (c := wX cB cC cI cJ w_6) hP) (va_D.swap (a := []) (b := wM cB cC cI cJ w_19) (c := wX cB cC cI cJ w_6) hD) hS hl
set_option maxHeartbeats 8000000 in
set_option maxRecDepth 100000 in
theorem lo_25 {p : Program} {l : Launch} {e : Env} {s : State} {m : MethodId} {below : List Frame} {meth : Method} {c : Code} {D : va_G} {cB cC cI cJ : ClassId} {b L : Nat} {xs : Nat → Int32} {adK adV : Nat → Nat} (C0 : lw_At p s m meth c b L xs) (hLN : L ≤ 3072) (hK : va_K D gcl [(cB, .byte), (cC, .char), (cI, .int), (cJ, .long)] s) (hF : sF adK adV (fun q : Nat => s.heap.size ≤ q) s s.heap) (o1 o2 : Nat) (i : Int32) (hi0 : 0 ≤ i.toInt) (hi1 : i.toInt + 6 ≤ (L : Int)) (u v : gEx) (hfX : fX u) (hfM : fM v) (heq : tEq (u.2.1 4) (u.2.2.2.1 7).toInt (v.2.1 0) (v.2.2.2.1 0).toInt ∧ ((u.2.2.2.1 5).toInt = (v.2.2.2.1 6).toInt ∧ (u.2.2.2.1 6).toInt = (v.2.2.2.1 7).toInt ∧ (u.2.2.2.1 15).toInt = (v.2.2.2.1 8).toInt ∧ (u.2.2.2.1 16).toInt = (v.2.2.2.1 9).toInt ∧ (u.2.2.2.1 17).toInt = (v.2.2.2.1 10).toInt ∧ (u.2.2.2.1 18).toInt = (v.2.2.2.1 11).toInt ∧ (u.2.2.2.1 19).toInt = (v.2.2.2.1 12).toInt ∧ (u.2.2.2.1 43).toInt = ((v.2.1 21) 0).toInt ∧ (u.2.2.2.1 24).toInt = (v.2.2.2.1 21).toInt ∧ (u.2.2.2.1 25).toInt = (v.2.2.2.1 22).toInt ∧ (u.2.2.2.1 26).toInt = (v.2.2.2.1 20).toInt) ∧ plE (u.2.1 31) (u.2.1 15) (u.2.2.2.1 20).toInt (v.2.1 17) (v.2.1 18) (v.2.2.2.1 13).toInt (u.2.2.2.1 19).toInt (u.2.2.2.1 16).toInt (u.2.2.2.1 17).toInt) (hu0 : u.1 0 = o1) (hv0 : v.1 0 = o2) (H : Heap) (locs : List Loc) (ls : Array Slot) (hP : va_P D gcl (wX cB cC cI cJ u ++ wM cB cC cI cJ v) H) (hD : va_D (fun q : Nat => s.heap.size ≤ q) (wX cB cC cI cJ u ++ wM cB cC cI cJ v)) (hS : va_S (fun q : Nat => s.heap.size ≤ q) s.heap H locs) (hl : lv_has ls 4 [(3, .int i), (2, .ref o2), (1, .ref o1), (0, .ref b)])
    (kk : ∀ (u v : gEx) (H : Heap) (locs : List Loc) (ls : Array Slot), fX u → fM v → tEq (u.2.1 4) (u.2.2.2.1 7).toInt (v.2.1 0) (v.2.2.2.1 0).toInt ∧ ((u.2.2.2.1 5).toInt = (v.2.2.2.1 6).toInt ∧ (u.2.2.2.1 6).toInt = (v.2.2.2.1 7).toInt ∧ (u.2.2.2.1 15).toInt = (v.2.2.2.1 8).toInt ∧ (u.2.2.2.1 16).toInt = (v.2.2.2.1 9).toInt ∧ (u.2.2.2.1 17).toInt = (v.2.2.2.1 10).toInt ∧ (u.2.2.2.1 18).toInt = (v.2.2.2.1 11).toInt ∧ (u.2.2.2.1 19).toInt = (v.2.2.2.1 12).toInt ∧ (u.2.2.2.1 43).toInt = ((v.2.1 21) 0).toInt ∧ (u.2.2.2.1 24).toInt = (v.2.2.2.1 21).toInt ∧ (u.2.2.2.1 25).toInt = (v.2.2.2.1 22).toInt ∧ (u.2.2.2.1 26).toInt = (v.2.2.2.1 20).toInt) ∧ plE (u.2.1 31) (u.2.1 15) (u.2.2.2.1 20).toInt (v.2.1 17) (v.2.1 18) (v.2.2.2.1 13).toInt (u.2.2.2.1 19).toInt (u.2.2.2.1 16).toInt (u.2.2.2.1 17).toInt → u.1 0 = o1 → v.1 0 = o2 → va_P D gcl (wX cB cC cI cJ u ++ wM cB cC cI cJ v) H → va_D (fun q : Nat => s.heap.size ≤ q) (wX cB cC cI cJ u ++ wM cB cC cI cJ v) → va_S (fun q : Nat => s.heap.size ≤ q) s.heap H locs → lv_has ls 4 [(3, .int i), (2, .ref o2), (1, .ref o1), (0, .ref b)] → W p l e room_1 s m #[Value.ref b] below meth c H locs 126 15724 (lw_Z below #[Value.ref b] s) (F0 m 1519 ls [])) : W p l e room_1 s m #[Value.ref b] below meth c H locs 126 15724 (lw_Z below #[Value.ref b] s) (F0 m 925 ls []) := by
  subst hu0
  subst hv0
  have hlen := heq.1.1
  have hreg := heq.2.1
  obtain ⟨hx, hb, hr, hml, hown, hts0, hX, hbl, hlocks, hgv⟩ := id C0
  have hts := g_tbl hts0
  have hbA : ¬ (fun q : Nat => s.heap.size ≤ q) b := Nat.not_le.mpr hbl
  refine lv_aload_n (pc := 925) hx hb dL_law_925 rfl (lv_at hl 2 rfl) ?_
  refine lv_aload_n (pc := 926) hx hb dL_law_926 rfl (lv_at hl 3 rfl) ?_
  refine lv_iload_n (pc := 927) hx hb dL_law_927 rfl (lv_at hl 0 rfl) ?_
  refine lv_iconst (pc := 928) (v := 1) hx hb dL_law_928 (by decide) ?_
  refine b_iadd (pc := 929) hx hb rfl tI_1 (by omega) (by omega) dL_law_929 (fun x_1 ex_1 => ?_)
  refine va_sld (pc := 930) hx hb hX hbl hbA hS (n_in rfl (by omega) (by omega)) dL_law_930 ?_
  refine lv_topi (fun x_2 ex_2 => ?_)
  have rx_2 := n_rng x_2
  have tx_2 := congrArg Int32.toInt (e_ld (f := xs) (show x_2 = xs (x_1.toInt).toNat from ex_2) (show x_1.toInt = (i.toInt) + (1) by omega))
  refine lv_aload_n (pc := 931) hx hb dL_law_931 rfl (lv_at hl 3 rfl) ?_
  refine lv_iload_n (pc := 932) hx hb dL_law_932 rfl (lv_at hl 0 rfl) ?_
  refine lv_iconst (pc := 933) (v := 2) hx hb dL_law_933 (by decide) ?_
  as_aux_lemma =>
    refine b_iadd (pc := 934) hx hb rfl tI_2 (by omega) (by omega) dL_law_934 (fun x_3 ex_3 => ?_)
    refine va_sld (pc := 935) hx hb hX hbl hbA hS (n_in rfl (by omega) (by omega)) dL_law_935 ?_
    refine lv_topi (fun x_4 ex_4 => ?_)
    have rx_4 := n_rng x_4
    have tx_4 := congrArg Int32.toInt (e_ld (f := xs) (show x_4 = xs (x_3.toInt).toNat from ex_4) (show x_3.toInt = (i.toInt) + (2) by omega))
    refine cc_936 C0 hK hF u hfX hl x_2 x_4 hP hD hS (fun r_5 w_6 H locs hf_7 ho_8 he_9 he_10 he_11 he_12 he_13 hP hD hS => ?_)
    have rr_5 := n_rng r_5
    refine lv_pop (pc := 939) hx hb dL_law_939 rfl ?_
    refine lv_aload_n (pc := 940) hx hb dL_law_940 rfl (lv_at hl 1 rfl) ?_
    refine lv_aload_n (pc := 941) hx hb dL_law_941 rfl (lv_at hl 3 rfl) ?_
    refine lv_iload_n (pc := 942) hx hb dL_law_942 rfl (lv_at hl 0 rfl) ?_
    refine lv_iconst (pc := 943) (v := 1) hx hb dL_law_943 (by decide) ?_
    refine b_iadd (pc := 944) hx hb rfl tI_1 (by omega) (by omega) dL_law_944 (fun x_14 ex_14 => ?_)
    as_aux_lemma =>
      refine va_sld (pc := 945) hx hb hX hbl hbA hS (n_in rfl (by omega) (by omega)) dL_law_945 ?_
      refine lv_topi (fun x_15 ex_15 => ?_)
      have rx_15 := n_rng x_15
      have tx_15 := congrArg Int32.toInt (e_ld (f := xs) (show x_15 = xs (x_14.toInt).toNat from ex_15) (show x_14.toInt = (i.toInt) + (1) by omega))
      refine lv_aload_n (pc := 946) hx hb dL_law_946 rfl (lv_at hl 3 rfl) ?_
      refine lv_iload_n (pc := 947) hx hb dL_law_947 rfl (lv_at hl 0 rfl) ?_
      refine lv_iconst (pc := 948) (v := 2) hx hb dL_law_948 (by decide) ?_
      refine b_iadd (pc := 949) hx hb rfl tI_2 (by omega) (by omega) dL_law_949 (fun x_16 ex_16 => ?_)
      refine va_sld (pc := 950) hx hb hX hbl hbA hS (n_in rfl (by omega) (by omega)) dL_law_950 ?_
      refine lv_topi (fun x_17 ex_17 => ?_)
      have rx_17 := n_rng x_17
      have tx_17 := congrArg Int32.toInt (e_ld (f := xs) (show x_17 = xs (x_16.toInt).toNat from ex_17) (show x_16.toInt = (i.toInt) + (2) by omega))
      have hP : va_P D gcl (wM cB cC cI cJ v ++ wX cB cC cI cJ w_6) H := va_P.swap (a := []) (b := wX cB cC cI cJ w_6) (c := wM cB cC cI cJ v) hP
      have hD : va_D (fun q : Nat => s.heap.size ≤ q) (wM cB cC cI cJ v ++ wX cB cC cI cJ w_6) := va_D.swap (a := []) (b := wX cB cC cI cJ w_6) (c := wM cB cC cI cJ v) hD
      refine cc_951 C0 hK hF v hfM hl x_15 x_17 hP hD hS (fun r_18 w_19 H locs hf_20 ho_21 he_22 he_23 he_24 he_25 he_26 hP hD hS => ?_)
      have rr_18 := n_rng r_18
      refine lv_pop (pc := 954) hx hb dL_law_954 rfl ?_
      as_aux_lemma =>
        refine lv_goto (pc := 955) (tgt := 1519) hx hb dL_law_955 (by decide) ?_
        exact kk w_6 w_19 H locs ls hf_7 hf_20 ⟨te_cut heq.1 he_10 he_23 (by omega) (by omega), by omega, plE_keep heq.2.2 he_12 he_25 (by omega) (by omega) (by omega)⟩ ho_8 ho_21 (va_P.swap (a := []) (b := wM cB cC cI cJ w_19) (c := wX cB cC cI cJ w_6) hP) (va_D.swap (a := []) (b := wM cB cC cI cJ w_19) (c := wX cB cC cI cJ w_6) hD) hS hl
set_option maxHeartbeats 8000000 in
set_option maxRecDepth 100000 in
theorem lo_26 {p : Program} {l : Launch} {e : Env} {s : State} {m : MethodId} {below : List Frame} {meth : Method} {c : Code} {D : va_G} {cB cC cI cJ : ClassId} {b L : Nat} {xs : Nat → Int32} {adK adV : Nat → Nat} (C0 : lw_At p s m meth c b L xs) (hLN : L ≤ 3072) (hK : va_K D gcl [(cB, .byte), (cC, .char), (cI, .int), (cJ, .long)] s) (hF : sF adK adV (fun q : Nat => s.heap.size ≤ q) s s.heap) (o1 o2 : Nat) (i : Int32) (hi0 : 0 ≤ i.toInt) (hi1 : i.toInt + 6 ≤ (L : Int)) (u v : gEx) (hfX : fX u) (hfM : fM v) (heq : tEq (u.2.1 4) (u.2.2.2.1 7).toInt (v.2.1 0) (v.2.2.2.1 0).toInt ∧ ((u.2.2.2.1 5).toInt = (v.2.2.2.1 6).toInt ∧ (u.2.2.2.1 6).toInt = (v.2.2.2.1 7).toInt ∧ (u.2.2.2.1 15).toInt = (v.2.2.2.1 8).toInt ∧ (u.2.2.2.1 16).toInt = (v.2.2.2.1 9).toInt ∧ (u.2.2.2.1 17).toInt = (v.2.2.2.1 10).toInt ∧ (u.2.2.2.1 18).toInt = (v.2.2.2.1 11).toInt ∧ (u.2.2.2.1 19).toInt = (v.2.2.2.1 12).toInt ∧ (u.2.2.2.1 43).toInt = ((v.2.1 21) 0).toInt ∧ (u.2.2.2.1 24).toInt = (v.2.2.2.1 21).toInt ∧ (u.2.2.2.1 25).toInt = (v.2.2.2.1 22).toInt ∧ (u.2.2.2.1 26).toInt = (v.2.2.2.1 20).toInt) ∧ plE (u.2.1 31) (u.2.1 15) (u.2.2.2.1 20).toInt (v.2.1 17) (v.2.1 18) (v.2.2.2.1 13).toInt (u.2.2.2.1 19).toInt (u.2.2.2.1 16).toInt (u.2.2.2.1 17).toInt) (hu0 : u.1 0 = o1) (hv0 : v.1 0 = o2) (H : Heap) (locs : List Loc) (ls : Array Slot) (hP : va_P D gcl (wX cB cC cI cJ u ++ wM cB cC cI cJ v) H) (hD : va_D (fun q : Nat => s.heap.size ≤ q) (wX cB cC cI cJ u ++ wM cB cC cI cJ v)) (hS : va_S (fun q : Nat => s.heap.size ≤ q) s.heap H locs) (hl : lv_has ls 4 [(3, .int i), (2, .ref o2), (1, .ref o1), (0, .ref b)])
    (kk : ∀ (u v : gEx) (H : Heap) (locs : List Loc) (ls : Array Slot), fX u → fM v → tEq (u.2.1 4) (u.2.2.2.1 7).toInt (v.2.1 0) (v.2.2.2.1 0).toInt ∧ ((u.2.2.2.1 5).toInt = (v.2.2.2.1 6).toInt ∧ (u.2.2.2.1 6).toInt = (v.2.2.2.1 7).toInt ∧ (u.2.2.2.1 15).toInt = (v.2.2.2.1 8).toInt ∧ (u.2.2.2.1 16).toInt = (v.2.2.2.1 9).toInt ∧ (u.2.2.2.1 17).toInt = (v.2.2.2.1 10).toInt ∧ (u.2.2.2.1 18).toInt = (v.2.2.2.1 11).toInt ∧ (u.2.2.2.1 19).toInt = (v.2.2.2.1 12).toInt ∧ (u.2.2.2.1 43).toInt = ((v.2.1 21) 0).toInt ∧ (u.2.2.2.1 24).toInt = (v.2.2.2.1 21).toInt ∧ (u.2.2.2.1 25).toInt = (v.2.2.2.1 22).toInt ∧ (u.2.2.2.1 26).toInt = (v.2.2.2.1 20).toInt) ∧ plE (u.2.1 31) (u.2.1 15) (u.2.2.2.1 20).toInt (v.2.1 17) (v.2.1 18) (v.2.2.2.1 13).toInt (u.2.2.2.1 19).toInt (u.2.2.2.1 16).toInt (u.2.2.2.1 17).toInt → u.1 0 = o1 → v.1 0 = o2 → va_P D gcl (wX cB cC cI cJ u ++ wM cB cC cI cJ v) H → va_D (fun q : Nat => s.heap.size ≤ q) (wX cB cC cI cJ u ++ wM cB cC cI cJ v) → va_S (fun q : Nat => s.heap.size ≤ q) s.heap H locs → lv_has ls 4 [(3, .int i), (2, .ref o2), (1, .ref o1), (0, .ref b)] → W p l e room_1 s m #[Value.ref b] below meth c H locs 126 15724 (lw_Z below #[Value.ref b] s) (F0 m 1519 ls [])) : W p l e room_1 s m #[Value.ref b] below meth c H locs 126 15724 (lw_Z below #[Value.ref b] s) (F0 m 958 ls []) := by
  subst hu0
  subst hv0
  have hlen := heq.1.1
  have hreg := heq.2.1
  obtain ⟨hx, hb, hr, hml, hown, hts0, hX, hbl, hlocks, hgv⟩ := id C0
  have hts := g_tbl hts0
  have hbA : ¬ (fun q : Nat => s.heap.size ≤ q) b := Nat.not_le.mpr hbl
  refine lv_aload_n (pc := 958) hx hb dL_law_958 rfl (lv_at hl 2 rfl) ?_
  refine lv_aload_n (pc := 959) hx hb dL_law_959 rfl (lv_at hl 3 rfl) ?_
  refine lv_iload_n (pc := 960) hx hb dL_law_960 rfl (lv_at hl 0 rfl) ?_
  refine lv_iconst (pc := 961) (v := 1) hx hb dL_law_961 (by decide) ?_
  refine b_iadd (pc := 962) hx hb rfl tI_1 (by omega) (by omega) dL_law_962 (fun x_1 ex_1 => ?_)
  refine va_sld (pc := 963) hx hb hX hbl hbA hS (n_in rfl (by omega) (by omega)) dL_law_963 ?_
  refine lv_topi (fun x_2 ex_2 => ?_)
  have rx_2 := n_rng x_2
  have tx_2 := congrArg Int32.toInt (e_ld (f := xs) (show x_2 = xs (x_1.toInt).toNat from ex_2) (show x_1.toInt = (i.toInt) + (1) by omega))
  refine lv_aload_n (pc := 964) hx hb dL_law_964 rfl (lv_at hl 3 rfl) ?_
  refine lv_iload_n (pc := 965) hx hb dL_law_965 rfl (lv_at hl 0 rfl) ?_
  refine lv_iconst (pc := 966) (v := 2) hx hb dL_law_966 (by decide) ?_
  as_aux_lemma =>
    refine b_iadd (pc := 967) hx hb rfl tI_2 (by omega) (by omega) dL_law_967 (fun x_3 ex_3 => ?_)
    refine va_sld (pc := 968) hx hb hX hbl hbA hS (n_in rfl (by omega) (by omega)) dL_law_968 ?_
    refine lv_topi (fun x_4 ex_4 => ?_)
    have rx_4 := n_rng x_4
    have tx_4 := congrArg Int32.toInt (e_ld (f := xs) (show x_4 = xs (x_3.toInt).toNat from ex_4) (show x_3.toInt = (i.toInt) + (2) by omega))
    refine lv_aload_n (pc := 969) hx hb dL_law_969 rfl (lv_at hl 3 rfl) ?_
    refine lv_iload_n (pc := 970) hx hb dL_law_970 rfl (lv_at hl 0 rfl) ?_
    refine lv_iconst (pc := 971) (v := 3) hx hb dL_law_971 (by decide) ?_
    refine b_iadd (pc := 972) hx hb rfl tI_3 (by omega) (by omega) dL_law_972 (fun x_5 ex_5 => ?_)
    refine va_sld (pc := 973) hx hb hX hbl hbA hS (n_in rfl (by omega) (by omega)) dL_law_973 ?_
    refine lv_topi (fun x_6 ex_6 => ?_)
    have rx_6 := n_rng x_6
    have tx_6 := congrArg Int32.toInt (e_ld (f := xs) (show x_6 = xs (x_5.toInt).toNat from ex_6) (show x_5.toInt = (i.toInt) + (3) by omega))
    refine b_if_eq (pc := 974) (tgt := 981) hx hb rfl  dL_law_974 (by decide) (fun c_7 => ?_) (fun c_7 => ?_)
    ·
      as_aux_lemma =>
        refine lv_iconst (pc := 981) (v := 0) hx hb dL_law_981 (by decide) ?_
        refine cc_982 C0 hK hF u hfX hl x_2 x_4 (0 : Int32) (by rw [tI_0]; decide) hP hD hS (fun r_8 w_9 H locs hf_10 ho_11 he_12 he_13 he_14 he_15 he_16 hP hD hS => ?_)
        have rr_8 := n_rng r_8
        refine lv_pop (pc := 985) hx hb dL_law_985 rfl ?_
        refine lv_aload_n (pc := 986) hx hb dL_law_986 rfl (lv_at hl 1 rfl) ?_
        refine lv_aload_n (pc := 987) hx hb dL_law_987 rfl (lv_at hl 3 rfl) ?_
        refine lv_iload_n (pc := 988) hx hb dL_law_988 rfl (lv_at hl 0 rfl) ?_
        refine lv_iconst (pc := 989) (v := 1) hx hb dL_law_989 (by decide) ?_
        refine b_iadd (pc := 990) hx hb rfl tI_1 (by omega) (by omega) dL_law_990 (fun x_17 ex_17 => ?_)
        refine va_sld (pc := 991) hx hb hX hbl hbA hS (n_in rfl (by omega) (by omega)) dL_law_991 ?_
        refine lv_topi (fun x_18 ex_18 => ?_)
        have rx_18 := n_rng x_18
        have tx_18 := congrArg Int32.toInt (e_ld (f := xs) (show x_18 = xs (x_17.toInt).toNat from ex_18) (show x_17.toInt = (i.toInt) + (1) by omega))
        as_aux_lemma =>
          refine lv_aload_n (pc := 992) hx hb dL_law_992 rfl (lv_at hl 3 rfl) ?_
          refine lv_iload_n (pc := 993) hx hb dL_law_993 rfl (lv_at hl 0 rfl) ?_
          refine lv_iconst (pc := 994) (v := 2) hx hb dL_law_994 (by decide) ?_
          refine b_iadd (pc := 995) hx hb rfl tI_2 (by omega) (by omega) dL_law_995 (fun x_19 ex_19 => ?_)
          refine va_sld (pc := 996) hx hb hX hbl hbA hS (n_in rfl (by omega) (by omega)) dL_law_996 ?_
          refine lv_topi (fun x_20 ex_20 => ?_)
          have rx_20 := n_rng x_20
          have tx_20 := congrArg Int32.toInt (e_ld (f := xs) (show x_20 = xs (x_19.toInt).toNat from ex_20) (show x_19.toInt = (i.toInt) + (2) by omega))
          refine lv_aload_n (pc := 997) hx hb dL_law_997 rfl (lv_at hl 3 rfl) ?_
          refine lv_iload_n (pc := 998) hx hb dL_law_998 rfl (lv_at hl 0 rfl) ?_
          refine lv_iconst (pc := 999) (v := 3) hx hb dL_law_999 (by decide) ?_
          refine b_iadd (pc := 1000) hx hb rfl tI_3 (by omega) (by omega) dL_law_1000 (fun x_21 ex_21 => ?_)
          as_aux_lemma =>
            refine va_sld (pc := 1001) hx hb hX hbl hbA hS (n_in rfl (by omega) (by omega)) dL_law_1001 ?_
            refine lv_topi (fun x_22 ex_22 => ?_)
            have rx_22 := n_rng x_22
            have tx_22 := congrArg Int32.toInt (e_ld (f := xs) (show x_22 = xs (x_21.toInt).toNat from ex_22) (show x_21.toInt = (i.toInt) + (3) by omega))
            refine b_if_eq (pc := 1002) (tgt := 1009) hx hb rfl  dL_law_1002 (by decide) (fun c_23 => ?_) (fun c_23 => ?_)
            ·
              as_aux_lemma =>
                refine lv_iconst (pc := 1009) (v := 0) hx hb dL_law_1009 (by decide) ?_
                have hP : va_P D gcl (wM cB cC cI cJ v ++ wX cB cC cI cJ w_9) H := va_P.swap (a := []) (b := wX cB cC cI cJ w_9) (c := wM cB cC cI cJ v) hP
                have hD : va_D (fun q : Nat => s.heap.size ≤ q) (wM cB cC cI cJ v ++ wX cB cC cI cJ w_9) := va_D.swap (a := []) (b := wX cB cC cI cJ w_9) (c := wM cB cC cI cJ v) hD
                refine cc_1010 C0 hK hF v hfM hl x_18 x_20 (0 : Int32) (by rw [tI_0]; decide) hP hD hS (fun r_24 w_25 H locs hf_26 ho_27 he_28 he_29 he_30 he_31 he_32 hP hD hS => ?_)
                have rr_24 := n_rng r_24
                refine lv_pop (pc := 1013) hx hb dL_law_1013 rfl ?_
                refine lv_goto (pc := 1014) (tgt := 1519) hx hb dL_law_1014 (by decide) ?_
                exact kk w_9 w_25 H locs ls hf_10 hf_26 ⟨te_cut heq.1 he_13 he_29 (by omega) (by omega), by omega, plE_keep heq.2.2 he_15 he_31 (by omega) (by omega) (by omega)⟩ ho_11 ho_27 (va_P.swap (a := []) (b := wM cB cC cI cJ w_25) (c := wX cB cC cI cJ w_9) hP) (va_D.swap (a := []) (b := wM cB cC cI cJ w_25) (c := wX cB cC cI cJ w_9) hD) hS hl
            ·
              as_aux_lemma =>
                refine lv_iconst (pc := 1005) (v := 1) hx hb dL_law_1005 (by decide) ?_
                refine lv_goto (pc := 1006) (tgt := 1010) hx hb dL_law_1006 (by decide) ?_
                have hP : va_P D gcl (wM cB cC cI cJ v ++ wX cB cC cI cJ w_9) H := va_P.swap (a := []) (b := wX cB cC cI cJ w_9) (c := wM cB cC cI cJ v) hP
                have hD : va_D (fun q : Nat => s.heap.size ≤ q) (wM cB cC cI cJ v ++ wX cB cC cI cJ w_9) := va_D.swap (a := []) (b := wX cB cC cI cJ w_9) (c := wM cB cC cI cJ v) hD
                refine cc_1010 C0 hK hF v hfM hl x_18 x_20 (1 : Int32) (by rw [tI_1]; decide) hP hD hS (fun r_33 w_34 H locs hf_35 ho_36 he_37 he_38 he_39 he_40 he_41 hP hD hS => ?_)
                have rr_33 := n_rng r_33
                refine lv_pop (pc := 1013) hx hb dL_law_1013 rfl ?_
                refine lv_goto (pc := 1014) (tgt := 1519) hx hb dL_law_1014 (by decide) ?_
                exact kk w_9 w_34 H locs ls hf_10 hf_35 ⟨te_cut heq.1 he_13 he_38 (by omega) (by omega), by omega, plE_keep heq.2.2 he_15 he_40 (by omega) (by omega) (by omega)⟩ ho_11 ho_36 (va_P.swap (a := []) (b := wM cB cC cI cJ w_34) (c := wX cB cC cI cJ w_9) hP) (va_D.swap (a := []) (b := wM cB cC cI cJ w_34) (c := wX cB cC cI cJ w_9) hD) hS hl
    ·
      as_aux_lemma =>
        refine lv_iconst (pc := 977) (v := 1) hx hb dL_law_977 (by decide) ?_
        refine lv_goto (pc := 978) (tgt := 982) hx hb dL_law_978 (by decide) ?_
        refine cc_982 C0 hK hF u hfX hl x_2 x_4 (1 : Int32) (by rw [tI_1]; decide) hP hD hS (fun r_42 w_43 H locs hf_44 ho_45 he_46 he_47 he_48 he_49 he_50 hP hD hS => ?_)
        have rr_42 := n_rng r_42
        refine lv_pop (pc := 985) hx hb dL_law_985 rfl ?_
        refine lv_aload_n (pc := 986) hx hb dL_law_986 rfl (lv_at hl 1 rfl) ?_
        refine lv_aload_n (pc := 987) hx hb dL_law_987 rfl (lv_at hl 3 rfl) ?_
        refine lv_iload_n (pc := 988) hx hb dL_law_988 rfl (lv_at hl 0 rfl) ?_
        refine lv_iconst (pc := 989) (v := 1) hx hb dL_law_989 (by decide) ?_
        refine b_iadd (pc := 990) hx hb rfl tI_1 (by omega) (by omega) dL_law_990 (fun x_51 ex_51 => ?_)
        refine va_sld (pc := 991) hx hb hX hbl hbA hS (n_in rfl (by omega) (by omega)) dL_law_991 ?_
        as_aux_lemma =>
          refine lv_topi (fun x_52 ex_52 => ?_)
          have rx_52 := n_rng x_52
          have tx_52 := congrArg Int32.toInt (e_ld (f := xs) (show x_52 = xs (x_51.toInt).toNat from ex_52) (show x_51.toInt = (i.toInt) + (1) by omega))
          refine lv_aload_n (pc := 992) hx hb dL_law_992 rfl (lv_at hl 3 rfl) ?_
          refine lv_iload_n (pc := 993) hx hb dL_law_993 rfl (lv_at hl 0 rfl) ?_
          refine lv_iconst (pc := 994) (v := 2) hx hb dL_law_994 (by decide) ?_
          refine b_iadd (pc := 995) hx hb rfl tI_2 (by omega) (by omega) dL_law_995 (fun x_53 ex_53 => ?_)
          refine va_sld (pc := 996) hx hb hX hbl hbA hS (n_in rfl (by omega) (by omega)) dL_law_996 ?_
          refine lv_topi (fun x_54 ex_54 => ?_)
          have rx_54 := n_rng x_54
          have tx_54 := congrArg Int32.toInt (e_ld (f := xs) (show x_54 = xs (x_53.toInt).toNat from ex_54) (show x_53.toInt = (i.toInt) + (2) by omega))
          refine lv_aload_n (pc := 997) hx hb dL_law_997 rfl (lv_at hl 3 rfl) ?_
          refine lv_iload_n (pc := 998) hx hb dL_law_998 rfl (lv_at hl 0 rfl) ?_
          refine lv_iconst (pc := 999) (v := 3) hx hb dL_law_999 (by decide) ?_
          as_aux_lemma =>
            refine b_iadd (pc := 1000) hx hb rfl tI_3 (by omega) (by omega) dL_law_1000 (fun x_55 ex_55 => ?_)
            refine va_sld (pc := 1001) hx hb hX hbl hbA hS (n_in rfl (by omega) (by omega)) dL_law_1001 ?_
            refine lv_topi (fun x_56 ex_56 => ?_)
            have rx_56 := n_rng x_56
            have tx_56 := congrArg Int32.toInt (e_ld (f := xs) (show x_56 = xs (x_55.toInt).toNat from ex_56) (show x_55.toInt = (i.toInt) + (3) by omega))
            refine b_if_eq (pc := 1002) (tgt := 1009) hx hb rfl  dL_law_1002 (by decide) (fun c_57 => ?_) (fun c_57 => ?_)
            ·
              as_aux_lemma =>
                refine lv_iconst (pc := 1009) (v := 0) hx hb dL_law_1009 (by decide) ?_
                have hP : va_P D gcl (wM cB cC cI cJ v ++ wX cB cC cI cJ w_43) H := va_P.swap (a := []) (b := wX cB cC cI cJ w_43) (c := wM cB cC cI cJ v) hP
                have hD : va_D (fun q : Nat => s.heap.size ≤ q) (wM cB cC cI cJ v ++ wX cB cC cI cJ w_43) := va_D.swap (a := []) (b := wX cB cC cI cJ w_43) (c := wM cB cC cI cJ v) hD
                refine cc_1010 C0 hK hF v hfM hl x_52 x_54 (0 : Int32) (by rw [tI_0]; decide) hP hD hS (fun r_58 w_59 H locs hf_60 ho_61 he_62 he_63 he_64 he_65 he_66 hP hD hS => ?_)
                have rr_58 := n_rng r_58
                refine lv_pop (pc := 1013) hx hb dL_law_1013 rfl ?_
                refine lv_goto (pc := 1014) (tgt := 1519) hx hb dL_law_1014 (by decide) ?_
                exact kk w_43 w_59 H locs ls hf_44 hf_60 ⟨te_cut heq.1 he_47 he_63 (by omega) (by omega), by omega, plE_keep heq.2.2 he_49 he_65 (by omega) (by omega) (by omega)⟩ ho_45 ho_61 (va_P.swap (a := []) (b := wM cB cC cI cJ w_59) (c := wX cB cC cI cJ w_43) hP) (va_D.swap (a := []) (b := wM cB cC cI cJ w_59) (c := wX cB cC cI cJ w_43) hD) hS hl
            ·
              as_aux_lemma =>
                refine lv_iconst (pc := 1005) (v := 1) hx hb dL_law_1005 (by decide) ?_
                refine lv_goto (pc := 1006) (tgt := 1010) hx hb dL_law_1006 (by decide) ?_
                have hP : va_P D gcl (wM cB cC cI cJ v ++ wX cB cC cI cJ w_43) H := va_P.swap (a := []) (b := wX cB cC cI cJ w_43) (c := wM cB cC cI cJ v) hP
                have hD : va_D (fun q : Nat => s.heap.size ≤ q) (wM cB cC cI cJ v ++ wX cB cC cI cJ w_43) := va_D.swap (a := []) (b := wX cB cC cI cJ w_43) (c := wM cB cC cI cJ v) hD
                refine cc_1010 C0 hK hF v hfM hl x_52 x_54 (1 : Int32) (by rw [tI_1]; decide) hP hD hS (fun r_67 w_68 H locs hf_69 ho_70 he_71 he_72 he_73 he_74 he_75 hP hD hS => ?_)
                have rr_67 := n_rng r_67
                refine lv_pop (pc := 1013) hx hb dL_law_1013 rfl ?_
                refine lv_goto (pc := 1014) (tgt := 1519) hx hb dL_law_1014 (by decide) ?_
                exact kk w_43 w_68 H locs ls hf_44 hf_69 ⟨te_cut heq.1 he_47 he_72 (by omega) (by omega), by omega, plE_keep heq.2.2 he_49 he_74 (by omega) (by omega) (by omega)⟩ ho_45 ho_70 (va_P.swap (a := []) (b := wM cB cC cI cJ w_68) (c := wX cB cC cI cJ w_43) hP) (va_D.swap (a := []) (b := wM cB cC cI cJ w_68) (c := wX cB cC cI cJ w_43) hD) hS hl
set_option maxHeartbeats 8000000 in
set_option maxRecDepth 100000 in
theorem lo_27 {p : Program} {l : Launch} {e : Env} {s : State} {m : MethodId} {below : List Frame} {meth : Method} {c : Code} {D : va_G} {cB cC cI cJ : ClassId} {b L : Nat} {xs : Nat → Int32} {adK adV : Nat → Nat} (C0 : lw_At p s m meth c b L xs) (hLN : L ≤ 3072) (hK : va_K D gcl [(cB, .byte), (cC, .char), (cI, .int), (cJ, .long)] s) (hF : sF adK adV (fun q : Nat => s.heap.size ≤ q) s s.heap) (o1 o2 : Nat) (i : Int32) (hi0 : 0 ≤ i.toInt) (hi1 : i.toInt + 6 ≤ (L : Int)) (u v : gEx) (hfX : fX u) (hfM : fM v) (heq : tEq (u.2.1 4) (u.2.2.2.1 7).toInt (v.2.1 0) (v.2.2.2.1 0).toInt ∧ ((u.2.2.2.1 5).toInt = (v.2.2.2.1 6).toInt ∧ (u.2.2.2.1 6).toInt = (v.2.2.2.1 7).toInt ∧ (u.2.2.2.1 15).toInt = (v.2.2.2.1 8).toInt ∧ (u.2.2.2.1 16).toInt = (v.2.2.2.1 9).toInt ∧ (u.2.2.2.1 17).toInt = (v.2.2.2.1 10).toInt ∧ (u.2.2.2.1 18).toInt = (v.2.2.2.1 11).toInt ∧ (u.2.2.2.1 19).toInt = (v.2.2.2.1 12).toInt ∧ (u.2.2.2.1 43).toInt = ((v.2.1 21) 0).toInt ∧ (u.2.2.2.1 24).toInt = (v.2.2.2.1 21).toInt ∧ (u.2.2.2.1 25).toInt = (v.2.2.2.1 22).toInt ∧ (u.2.2.2.1 26).toInt = (v.2.2.2.1 20).toInt) ∧ plE (u.2.1 31) (u.2.1 15) (u.2.2.2.1 20).toInt (v.2.1 17) (v.2.1 18) (v.2.2.2.1 13).toInt (u.2.2.2.1 19).toInt (u.2.2.2.1 16).toInt (u.2.2.2.1 17).toInt) (hu0 : u.1 0 = o1) (hv0 : v.1 0 = o2) (H : Heap) (locs : List Loc) (ls : Array Slot) (hP : va_P D gcl (wX cB cC cI cJ u ++ wM cB cC cI cJ v) H) (hD : va_D (fun q : Nat => s.heap.size ≤ q) (wX cB cC cI cJ u ++ wM cB cC cI cJ v)) (hS : va_S (fun q : Nat => s.heap.size ≤ q) s.heap H locs) (hl : lv_has ls 4 [(3, .int i), (2, .ref o2), (1, .ref o1), (0, .ref b)])
    (kk : ∀ (u v : gEx) (H : Heap) (locs : List Loc) (ls : Array Slot), fX u → fM v → tEq (u.2.1 4) (u.2.2.2.1 7).toInt (v.2.1 0) (v.2.2.2.1 0).toInt ∧ ((u.2.2.2.1 5).toInt = (v.2.2.2.1 6).toInt ∧ (u.2.2.2.1 6).toInt = (v.2.2.2.1 7).toInt ∧ (u.2.2.2.1 15).toInt = (v.2.2.2.1 8).toInt ∧ (u.2.2.2.1 16).toInt = (v.2.2.2.1 9).toInt ∧ (u.2.2.2.1 17).toInt = (v.2.2.2.1 10).toInt ∧ (u.2.2.2.1 18).toInt = (v.2.2.2.1 11).toInt ∧ (u.2.2.2.1 19).toInt = (v.2.2.2.1 12).toInt ∧ (u.2.2.2.1 43).toInt = ((v.2.1 21) 0).toInt ∧ (u.2.2.2.1 24).toInt = (v.2.2.2.1 21).toInt ∧ (u.2.2.2.1 25).toInt = (v.2.2.2.1 22).toInt ∧ (u.2.2.2.1 26).toInt = (v.2.2.2.1 20).toInt) ∧ plE (u.2.1 31) (u.2.1 15) (u.2.2.2.1 20).toInt (v.2.1 17) (v.2.1 18) (v.2.2.2.1 13).toInt (u.2.2.2.1 19).toInt (u.2.2.2.1 16).toInt (u.2.2.2.1 17).toInt → u.1 0 = o1 → v.1 0 = o2 → va_P D gcl (wX cB cC cI cJ u ++ wM cB cC cI cJ v) H → va_D (fun q : Nat => s.heap.size ≤ q) (wX cB cC cI cJ u ++ wM cB cC cI cJ v) → va_S (fun q : Nat => s.heap.size ≤ q) s.heap H locs → lv_has ls 4 [(3, .int i), (2, .ref o2), (1, .ref o1), (0, .ref b)] → W p l e room_1 s m #[Value.ref b] below meth c H locs 126 15724 (lw_Z below #[Value.ref b] s) (F0 m 1519 ls [])) : W p l e room_1 s m #[Value.ref b] below meth c H locs 126 15724 (lw_Z below #[Value.ref b] s) (F0 m 1017 ls []) := by
  subst hu0
  subst hv0
  have hlen := heq.1.1
  have hreg := heq.2.1
  obtain ⟨hx, hb, hr, hml, hown, hts0, hX, hbl, hlocks, hgv⟩ := id C0
  have hts := g_tbl hts0
  have hbA : ¬ (fun q : Nat => s.heap.size ≤ q) b := Nat.not_le.mpr hbl
  refine lv_aload_n (pc := 1017) hx hb dL_law_1017 rfl (lv_at hl 2 rfl) ?_
  refine lv_aload_n (pc := 1018) hx hb dL_law_1018 rfl (lv_at hl 3 rfl) ?_
  refine lv_iload_n (pc := 1019) hx hb dL_law_1019 rfl (lv_at hl 0 rfl) ?_
  refine lv_iconst (pc := 1020) (v := 1) hx hb dL_law_1020 (by decide) ?_
  refine b_iadd (pc := 1021) hx hb rfl tI_1 (by omega) (by omega) dL_law_1021 (fun x_1 ex_1 => ?_)
  refine va_sld (pc := 1022) hx hb hX hbl hbA hS (n_in rfl (by omega) (by omega)) dL_law_1022 ?_
  refine lv_topi (fun x_2 ex_2 => ?_)
  have rx_2 := n_rng x_2
  have tx_2 := congrArg Int32.toInt (e_ld (f := xs) (show x_2 = xs (x_1.toInt).toNat from ex_2) (show x_1.toInt = (i.toInt) + (1) by omega))
  refine b_if_eq (pc := 1023) (tgt := 1030) hx hb rfl  dL_law_1023 (by decide) (fun c_3 => ?_) (fun c_3 => ?_)
  ·
    as_aux_lemma =>
      refine lv_iconst (pc := 1030) (v := 0) hx hb dL_law_1030 (by decide) ?_
      refine cc_1031 C0 hK hF u hfX hl (0 : Int32) (by rw [tI_0]; decide) hP hD hS (fun r_4 w_5 H locs hf_6 ho_7 he_8 he_9 he_10 he_11 he_12 hP hD hS => ?_)
      have rr_4 := n_rng r_4
      refine lv_pop (pc := 1034) hx hb dL_law_1034 rfl ?_
      refine lv_aload_n (pc := 1035) hx hb dL_law_1035 rfl (lv_at hl 1 rfl) ?_
      refine lv_aload_n (pc := 1036) hx hb dL_law_1036 rfl (lv_at hl 3 rfl) ?_
      refine lv_iload_n (pc := 1037) hx hb dL_law_1037 rfl (lv_at hl 0 rfl) ?_
      refine lv_iconst (pc := 1038) (v := 1) hx hb dL_law_1038 (by decide) ?_
      refine b_iadd (pc := 1039) hx hb rfl tI_1 (by omega) (by omega) dL_law_1039 (fun x_13 ex_13 => ?_)
      refine va_sld (pc := 1040) hx hb hX hbl hbA hS (n_in rfl (by omega) (by omega)) dL_law_1040 ?_
      refine lv_topi (fun x_14 ex_14 => ?_)
      have rx_14 := n_rng x_14
      have tx_14 := congrArg Int32.toInt (e_ld (f := xs) (show x_14 = xs (x_13.toInt).toNat from ex_14) (show x_13.toInt = (i.toInt) + (1) by omega))
      as_aux_lemma =>
        refine b_if_eq (pc := 1041) (tgt := 1048) hx hb rfl  dL_law_1041 (by decide) (fun c_15 => ?_) (fun c_15 => ?_)
        ·
          as_aux_lemma =>
            refine lv_iconst (pc := 1048) (v := 0) hx hb dL_law_1048 (by decide) ?_
            have hP : va_P D gcl (wM cB cC cI cJ v ++ wX cB cC cI cJ w_5) H := va_P.swap (a := []) (b := wX cB cC cI cJ w_5) (c := wM cB cC cI cJ v) hP
            have hD : va_D (fun q : Nat => s.heap.size ≤ q) (wM cB cC cI cJ v ++ wX cB cC cI cJ w_5) := va_D.swap (a := []) (b := wX cB cC cI cJ w_5) (c := wM cB cC cI cJ v) hD
            refine cc_1049 C0 hK hF v hfM hl (0 : Int32) (by rw [tI_0]; decide) hP hD hS (fun r_16 w_17 H locs hf_18 ho_19 he_20 he_21 he_22 he_23 he_24 hP hD hS => ?_)
            have rr_16 := n_rng r_16
            refine lv_pop (pc := 1052) hx hb dL_law_1052 rfl ?_
            refine lv_goto (pc := 1053) (tgt := 1519) hx hb dL_law_1053 (by decide) ?_
            exact kk w_5 w_17 H locs ls hf_6 hf_18 ⟨te_cut heq.1 he_9 he_21 (by omega) (by omega), by omega, plE_keep heq.2.2 he_11 he_23 (by omega) (by omega) (by omega)⟩ ho_7 ho_19 (va_P.swap (a := []) (b := wM cB cC cI cJ w_17) (c := wX cB cC cI cJ w_5) hP) (va_D.swap (a := []) (b := wM cB cC cI cJ w_17) (c := wX cB cC cI cJ w_5) hD) hS hl
        ·
          as_aux_lemma =>
            refine lv_iconst (pc := 1044) (v := 1) hx hb dL_law_1044 (by decide) ?_
            refine lv_goto (pc := 1045) (tgt := 1049) hx hb dL_law_1045 (by decide) ?_
            have hP : va_P D gcl (wM cB cC cI cJ v ++ wX cB cC cI cJ w_5) H := va_P.swap (a := []) (b := wX cB cC cI cJ w_5) (c := wM cB cC cI cJ v) hP
            have hD : va_D (fun q : Nat => s.heap.size ≤ q) (wM cB cC cI cJ v ++ wX cB cC cI cJ w_5) := va_D.swap (a := []) (b := wX cB cC cI cJ w_5) (c := wM cB cC cI cJ v) hD
            refine cc_1049 C0 hK hF v hfM hl (1 : Int32) (by rw [tI_1]; decide) hP hD hS (fun r_25 w_26 H locs hf_27 ho_28 he_29 he_30 he_31 he_32 he_33 hP hD hS => ?_)
            have rr_25 := n_rng r_25
            refine lv_pop (pc := 1052) hx hb dL_law_1052 rfl ?_
            refine lv_goto (pc := 1053) (tgt := 1519) hx hb dL_law_1053 (by decide) ?_
            exact kk w_5 w_26 H locs ls hf_6 hf_27 ⟨te_cut heq.1 he_9 he_30 (by omega) (by omega), by omega, plE_keep heq.2.2 he_11 he_32 (by omega) (by omega) (by omega)⟩ ho_7 ho_28 (va_P.swap (a := []) (b := wM cB cC cI cJ w_26) (c := wX cB cC cI cJ w_5) hP) (va_D.swap (a := []) (b := wM cB cC cI cJ w_26) (c := wX cB cC cI cJ w_5) hD) hS hl
  ·
    as_aux_lemma =>
      refine lv_iconst (pc := 1026) (v := 1) hx hb dL_law_1026 (by decide) ?_
      refine lv_goto (pc := 1027) (tgt := 1031) hx hb dL_law_1027 (by decide) ?_
      refine cc_1031 C0 hK hF u hfX hl (1 : Int32) (by rw [tI_1]; decide) hP hD hS (fun r_34 w_35 H locs hf_36 ho_37 he_38 he_39 he_40 he_41 he_42 hP hD hS => ?_)
      have rr_34 := n_rng r_34
      refine lv_pop (pc := 1034) hx hb dL_law_1034 rfl ?_
      refine lv_aload_n (pc := 1035) hx hb dL_law_1035 rfl (lv_at hl 1 rfl) ?_
      refine lv_aload_n (pc := 1036) hx hb dL_law_1036 rfl (lv_at hl 3 rfl) ?_
      refine lv_iload_n (pc := 1037) hx hb dL_law_1037 rfl (lv_at hl 0 rfl) ?_
      refine lv_iconst (pc := 1038) (v := 1) hx hb dL_law_1038 (by decide) ?_
      refine b_iadd (pc := 1039) hx hb rfl tI_1 (by omega) (by omega) dL_law_1039 (fun x_43 ex_43 => ?_)
      refine va_sld (pc := 1040) hx hb hX hbl hbA hS (n_in rfl (by omega) (by omega)) dL_law_1040 ?_
      as_aux_lemma =>
        refine lv_topi (fun x_44 ex_44 => ?_)
        have rx_44 := n_rng x_44
        have tx_44 := congrArg Int32.toInt (e_ld (f := xs) (show x_44 = xs (x_43.toInt).toNat from ex_44) (show x_43.toInt = (i.toInt) + (1) by omega))
        refine b_if_eq (pc := 1041) (tgt := 1048) hx hb rfl  dL_law_1041 (by decide) (fun c_45 => ?_) (fun c_45 => ?_)
        ·
          as_aux_lemma =>
            refine lv_iconst (pc := 1048) (v := 0) hx hb dL_law_1048 (by decide) ?_
            have hP : va_P D gcl (wM cB cC cI cJ v ++ wX cB cC cI cJ w_35) H := va_P.swap (a := []) (b := wX cB cC cI cJ w_35) (c := wM cB cC cI cJ v) hP
            have hD : va_D (fun q : Nat => s.heap.size ≤ q) (wM cB cC cI cJ v ++ wX cB cC cI cJ w_35) := va_D.swap (a := []) (b := wX cB cC cI cJ w_35) (c := wM cB cC cI cJ v) hD
            refine cc_1049 C0 hK hF v hfM hl (0 : Int32) (by rw [tI_0]; decide) hP hD hS (fun r_46 w_47 H locs hf_48 ho_49 he_50 he_51 he_52 he_53 he_54 hP hD hS => ?_)
            have rr_46 := n_rng r_46
            refine lv_pop (pc := 1052) hx hb dL_law_1052 rfl ?_
            refine lv_goto (pc := 1053) (tgt := 1519) hx hb dL_law_1053 (by decide) ?_
            exact kk w_35 w_47 H locs ls hf_36 hf_48 ⟨te_cut heq.1 he_39 he_51 (by omega) (by omega), by omega, plE_keep heq.2.2 he_41 he_53 (by omega) (by omega) (by omega)⟩ ho_37 ho_49 (va_P.swap (a := []) (b := wM cB cC cI cJ w_47) (c := wX cB cC cI cJ w_35) hP) (va_D.swap (a := []) (b := wM cB cC cI cJ w_47) (c := wX cB cC cI cJ w_35) hD) hS hl
        ·
          as_aux_lemma =>
            refine lv_iconst (pc := 1044) (v := 1) hx hb dL_law_1044 (by decide) ?_
            refine lv_goto (pc := 1045) (tgt := 1049) hx hb dL_law_1045 (by decide) ?_
            have hP : va_P D gcl (wM cB cC cI cJ v ++ wX cB cC cI cJ w_35) H := va_P.swap (a := []) (b := wX cB cC cI cJ w_35) (c := wM cB cC cI cJ v) hP
            have hD : va_D (fun q : Nat => s.heap.size ≤ q) (wM cB cC cI cJ v ++ wX cB cC cI cJ w_35) := va_D.swap (a := []) (b := wX cB cC cI cJ w_35) (c := wM cB cC cI cJ v) hD
            refine cc_1049 C0 hK hF v hfM hl (1 : Int32) (by rw [tI_1]; decide) hP hD hS (fun r_55 w_56 H locs hf_57 ho_58 he_59 he_60 he_61 he_62 he_63 hP hD hS => ?_)
            have rr_55 := n_rng r_55
            refine lv_pop (pc := 1052) hx hb dL_law_1052 rfl ?_
            refine lv_goto (pc := 1053) (tgt := 1519) hx hb dL_law_1053 (by decide) ?_
            exact kk w_35 w_56 H locs ls hf_36 hf_57 ⟨te_cut heq.1 he_39 he_60 (by omega) (by omega), by omega, plE_keep heq.2.2 he_41 he_62 (by omega) (by omega) (by omega)⟩ ho_37 ho_58 (va_P.swap (a := []) (b := wM cB cC cI cJ w_56) (c := wX cB cC cI cJ w_35) hP) (va_D.swap (a := []) (b := wM cB cC cI cJ w_56) (c := wX cB cC cI cJ w_35) hD) hS hl
set_option maxHeartbeats 8000000 in
set_option maxRecDepth 100000 in
theorem lo_28 {p : Program} {l : Launch} {e : Env} {s : State} {m : MethodId} {below : List Frame} {meth : Method} {c : Code} {D : va_G} {cB cC cI cJ : ClassId} {b L : Nat} {xs : Nat → Int32} {adK adV : Nat → Nat} (C0 : lw_At p s m meth c b L xs) (hLN : L ≤ 3072) (hK : va_K D gcl [(cB, .byte), (cC, .char), (cI, .int), (cJ, .long)] s) (hF : sF adK adV (fun q : Nat => s.heap.size ≤ q) s s.heap) (o1 o2 : Nat) (i : Int32) (hi0 : 0 ≤ i.toInt) (hi1 : i.toInt + 6 ≤ (L : Int)) (u v : gEx) (hfX : fX u) (hfM : fM v) (heq : tEq (u.2.1 4) (u.2.2.2.1 7).toInt (v.2.1 0) (v.2.2.2.1 0).toInt ∧ ((u.2.2.2.1 5).toInt = (v.2.2.2.1 6).toInt ∧ (u.2.2.2.1 6).toInt = (v.2.2.2.1 7).toInt ∧ (u.2.2.2.1 15).toInt = (v.2.2.2.1 8).toInt ∧ (u.2.2.2.1 16).toInt = (v.2.2.2.1 9).toInt ∧ (u.2.2.2.1 17).toInt = (v.2.2.2.1 10).toInt ∧ (u.2.2.2.1 18).toInt = (v.2.2.2.1 11).toInt ∧ (u.2.2.2.1 19).toInt = (v.2.2.2.1 12).toInt ∧ (u.2.2.2.1 43).toInt = ((v.2.1 21) 0).toInt ∧ (u.2.2.2.1 24).toInt = (v.2.2.2.1 21).toInt ∧ (u.2.2.2.1 25).toInt = (v.2.2.2.1 22).toInt ∧ (u.2.2.2.1 26).toInt = (v.2.2.2.1 20).toInt) ∧ plE (u.2.1 31) (u.2.1 15) (u.2.2.2.1 20).toInt (v.2.1 17) (v.2.1 18) (v.2.2.2.1 13).toInt (u.2.2.2.1 19).toInt (u.2.2.2.1 16).toInt (u.2.2.2.1 17).toInt) (hu0 : u.1 0 = o1) (hv0 : v.1 0 = o2) (H : Heap) (locs : List Loc) (ls : Array Slot) (hP : va_P D gcl (wX cB cC cI cJ u ++ wM cB cC cI cJ v) H) (hD : va_D (fun q : Nat => s.heap.size ≤ q) (wX cB cC cI cJ u ++ wM cB cC cI cJ v)) (hS : va_S (fun q : Nat => s.heap.size ≤ q) s.heap H locs) (hl : lv_has ls 4 [(3, .int i), (2, .ref o2), (1, .ref o1), (0, .ref b)])
    (kk : ∀ (u v : gEx) (H : Heap) (locs : List Loc) (ls : Array Slot), fX u → fM v → tEq (u.2.1 4) (u.2.2.2.1 7).toInt (v.2.1 0) (v.2.2.2.1 0).toInt ∧ ((u.2.2.2.1 5).toInt = (v.2.2.2.1 6).toInt ∧ (u.2.2.2.1 6).toInt = (v.2.2.2.1 7).toInt ∧ (u.2.2.2.1 15).toInt = (v.2.2.2.1 8).toInt ∧ (u.2.2.2.1 16).toInt = (v.2.2.2.1 9).toInt ∧ (u.2.2.2.1 17).toInt = (v.2.2.2.1 10).toInt ∧ (u.2.2.2.1 18).toInt = (v.2.2.2.1 11).toInt ∧ (u.2.2.2.1 19).toInt = (v.2.2.2.1 12).toInt ∧ (u.2.2.2.1 43).toInt = ((v.2.1 21) 0).toInt ∧ (u.2.2.2.1 24).toInt = (v.2.2.2.1 21).toInt ∧ (u.2.2.2.1 25).toInt = (v.2.2.2.1 22).toInt ∧ (u.2.2.2.1 26).toInt = (v.2.2.2.1 20).toInt) ∧ plE (u.2.1 31) (u.2.1 15) (u.2.2.2.1 20).toInt (v.2.1 17) (v.2.1 18) (v.2.2.2.1 13).toInt (u.2.2.2.1 19).toInt (u.2.2.2.1 16).toInt (u.2.2.2.1 17).toInt → u.1 0 = o1 → v.1 0 = o2 → va_P D gcl (wX cB cC cI cJ u ++ wM cB cC cI cJ v) H → va_D (fun q : Nat => s.heap.size ≤ q) (wX cB cC cI cJ u ++ wM cB cC cI cJ v) → va_S (fun q : Nat => s.heap.size ≤ q) s.heap H locs → lv_has ls 4 [(3, .int i), (2, .ref o2), (1, .ref o1), (0, .ref b)] → W p l e room_1 s m #[Value.ref b] below meth c H locs 126 15724 (lw_Z below #[Value.ref b] s) (F0 m 1519 ls [])) : W p l e room_1 s m #[Value.ref b] below meth c H locs 126 15724 (lw_Z below #[Value.ref b] s) (F0 m 1056 ls []) := by
  subst hu0
  subst hv0
  have hlen := heq.1.1
  have hreg := heq.2.1
  obtain ⟨hx, hb, hr, hml, hown, hts0, hX, hbl, hlocks, hgv⟩ := id C0
  have hts := g_tbl hts0
  have hbA : ¬ (fun q : Nat => s.heap.size ≤ q) b := Nat.not_le.mpr hbl
  refine lv_aload_n (pc := 1056) hx hb dL_law_1056 rfl (lv_at hl 2 rfl) ?_
  refine lv_aload_n (pc := 1057) hx hb dL_law_1057 rfl (lv_at hl 3 rfl) ?_
  refine lv_iload_n (pc := 1058) hx hb dL_law_1058 rfl (lv_at hl 0 rfl) ?_
  refine lv_iconst (pc := 1059) (v := 1) hx hb dL_law_1059 (by decide) ?_
  refine b_iadd (pc := 1060) hx hb rfl tI_1 (by omega) (by omega) dL_law_1060 (fun x_1 ex_1 => ?_)
  refine va_sld (pc := 1061) hx hb hX hbl hbA hS (n_in rfl (by omega) (by omega)) dL_law_1061 ?_
  refine lv_topi (fun x_2 ex_2 => ?_)
  have rx_2 := n_rng x_2
  have tx_2 := congrArg Int32.toInt (e_ld (f := xs) (show x_2 = xs (x_1.toInt).toNat from ex_2) (show x_1.toInt = (i.toInt) + (1) by omega))
  refine b_if_eq (pc := 1062) (tgt := 1069) hx hb rfl  dL_law_1062 (by decide) (fun c_3 => ?_) (fun c_3 => ?_)
  ·
    as_aux_lemma =>
      refine lv_iconst (pc := 1069) (v := 0) hx hb dL_law_1069 (by decide) ?_
      refine cc_1070 C0 hK hF u hfX hl (0 : Int32) (by rw [tI_0]; decide) hP hD hS (fun r_4 w_5 H locs hf_6 ho_7 he_8 he_9 he_10 he_11 he_12 hP hD hS => ?_)
      have rr_4 := n_rngL r_4
      refine lv_pop2_2 (pc := 1073) hx hb dL_law_1073 rfl ?_
      refine lv_aload_n (pc := 1074) hx hb dL_law_1074 rfl (lv_at hl 1 rfl) ?_
      refine lv_aload_n (pc := 1075) hx hb dL_law_1075 rfl (lv_at hl 3 rfl) ?_
      refine lv_iload_n (pc := 1076) hx hb dL_law_1076 rfl (lv_at hl 0 rfl) ?_
      refine lv_iconst (pc := 1077) (v := 1) hx hb dL_law_1077 (by decide) ?_
      refine b_iadd (pc := 1078) hx hb rfl tI_1 (by omega) (by omega) dL_law_1078 (fun x_13 ex_13 => ?_)
      refine va_sld (pc := 1079) hx hb hX hbl hbA hS (n_in rfl (by omega) (by omega)) dL_law_1079 ?_
      refine lv_topi (fun x_14 ex_14 => ?_)
      have rx_14 := n_rng x_14
      have tx_14 := congrArg Int32.toInt (e_ld (f := xs) (show x_14 = xs (x_13.toInt).toNat from ex_14) (show x_13.toInt = (i.toInt) + (1) by omega))
      as_aux_lemma =>
        refine b_if_eq (pc := 1080) (tgt := 1087) hx hb rfl  dL_law_1080 (by decide) (fun c_15 => ?_) (fun c_15 => ?_)
        ·
          as_aux_lemma =>
            refine lv_iconst (pc := 1087) (v := 0) hx hb dL_law_1087 (by decide) ?_
            have hP : va_P D gcl (wM cB cC cI cJ v ++ wX cB cC cI cJ w_5) H := va_P.swap (a := []) (b := wX cB cC cI cJ w_5) (c := wM cB cC cI cJ v) hP
            have hD : va_D (fun q : Nat => s.heap.size ≤ q) (wM cB cC cI cJ v ++ wX cB cC cI cJ w_5) := va_D.swap (a := []) (b := wX cB cC cI cJ w_5) (c := wM cB cC cI cJ v) hD
            refine cc_1088 C0 hK hF v hfM hl (0 : Int32) (by rw [tI_0]; decide) hP hD hS (fun r_16 w_17 H locs hf_18 ho_19 he_20 he_21 he_22 he_23 he_24 hP hD hS => ?_)
            have rr_16 := n_rngL r_16
            refine lv_pop2_2 (pc := 1091) hx hb dL_law_1091 rfl ?_
            refine lv_goto (pc := 1092) (tgt := 1519) hx hb dL_law_1092 (by decide) ?_
            exact kk w_5 w_17 H locs ls hf_6 hf_18 ⟨te_cut heq.1 he_9 he_21 (by omega) (by omega), by omega, plE_keep heq.2.2 he_11 he_23 (by omega) (by omega) (by omega)⟩ ho_7 ho_19 (va_P.swap (a := []) (b := wM cB cC cI cJ w_17) (c := wX cB cC cI cJ w_5) hP) (va_D.swap (a := []) (b := wM cB cC cI cJ w_17) (c := wX cB cC cI cJ w_5) hD) hS hl
        ·
          as_aux_lemma =>
            refine lv_iconst (pc := 1083) (v := 1) hx hb dL_law_1083 (by decide) ?_
            refine lv_goto (pc := 1084) (tgt := 1088) hx hb dL_law_1084 (by decide) ?_
            have hP : va_P D gcl (wM cB cC cI cJ v ++ wX cB cC cI cJ w_5) H := va_P.swap (a := []) (b := wX cB cC cI cJ w_5) (c := wM cB cC cI cJ v) hP
            have hD : va_D (fun q : Nat => s.heap.size ≤ q) (wM cB cC cI cJ v ++ wX cB cC cI cJ w_5) := va_D.swap (a := []) (b := wX cB cC cI cJ w_5) (c := wM cB cC cI cJ v) hD
            refine cc_1088 C0 hK hF v hfM hl (1 : Int32) (by rw [tI_1]; decide) hP hD hS (fun r_25 w_26 H locs hf_27 ho_28 he_29 he_30 he_31 he_32 he_33 hP hD hS => ?_)
            have rr_25 := n_rngL r_25
            refine lv_pop2_2 (pc := 1091) hx hb dL_law_1091 rfl ?_
            refine lv_goto (pc := 1092) (tgt := 1519) hx hb dL_law_1092 (by decide) ?_
            exact kk w_5 w_26 H locs ls hf_6 hf_27 ⟨te_cut heq.1 he_9 he_30 (by omega) (by omega), by omega, plE_keep heq.2.2 he_11 he_32 (by omega) (by omega) (by omega)⟩ ho_7 ho_28 (va_P.swap (a := []) (b := wM cB cC cI cJ w_26) (c := wX cB cC cI cJ w_5) hP) (va_D.swap (a := []) (b := wM cB cC cI cJ w_26) (c := wX cB cC cI cJ w_5) hD) hS hl
  ·
    as_aux_lemma =>
      refine lv_iconst (pc := 1065) (v := 1) hx hb dL_law_1065 (by decide) ?_
      refine lv_goto (pc := 1066) (tgt := 1070) hx hb dL_law_1066 (by decide) ?_
      refine cc_1070 C0 hK hF u hfX hl (1 : Int32) (by rw [tI_1]; decide) hP hD hS (fun r_34 w_35 H locs hf_36 ho_37 he_38 he_39 he_40 he_41 he_42 hP hD hS => ?_)
      have rr_34 := n_rngL r_34
      refine lv_pop2_2 (pc := 1073) hx hb dL_law_1073 rfl ?_
      refine lv_aload_n (pc := 1074) hx hb dL_law_1074 rfl (lv_at hl 1 rfl) ?_
      refine lv_aload_n (pc := 1075) hx hb dL_law_1075 rfl (lv_at hl 3 rfl) ?_
      refine lv_iload_n (pc := 1076) hx hb dL_law_1076 rfl (lv_at hl 0 rfl) ?_
      refine lv_iconst (pc := 1077) (v := 1) hx hb dL_law_1077 (by decide) ?_
      refine b_iadd (pc := 1078) hx hb rfl tI_1 (by omega) (by omega) dL_law_1078 (fun x_43 ex_43 => ?_)
      refine va_sld (pc := 1079) hx hb hX hbl hbA hS (n_in rfl (by omega) (by omega)) dL_law_1079 ?_
      as_aux_lemma =>
        refine lv_topi (fun x_44 ex_44 => ?_)
        have rx_44 := n_rng x_44
        have tx_44 := congrArg Int32.toInt (e_ld (f := xs) (show x_44 = xs (x_43.toInt).toNat from ex_44) (show x_43.toInt = (i.toInt) + (1) by omega))
        refine b_if_eq (pc := 1080) (tgt := 1087) hx hb rfl  dL_law_1080 (by decide) (fun c_45 => ?_) (fun c_45 => ?_)
        ·
          as_aux_lemma =>
            refine lv_iconst (pc := 1087) (v := 0) hx hb dL_law_1087 (by decide) ?_
            have hP : va_P D gcl (wM cB cC cI cJ v ++ wX cB cC cI cJ w_35) H := va_P.swap (a := []) (b := wX cB cC cI cJ w_35) (c := wM cB cC cI cJ v) hP
            have hD : va_D (fun q : Nat => s.heap.size ≤ q) (wM cB cC cI cJ v ++ wX cB cC cI cJ w_35) := va_D.swap (a := []) (b := wX cB cC cI cJ w_35) (c := wM cB cC cI cJ v) hD
            refine cc_1088 C0 hK hF v hfM hl (0 : Int32) (by rw [tI_0]; decide) hP hD hS (fun r_46 w_47 H locs hf_48 ho_49 he_50 he_51 he_52 he_53 he_54 hP hD hS => ?_)
            have rr_46 := n_rngL r_46
            refine lv_pop2_2 (pc := 1091) hx hb dL_law_1091 rfl ?_
            refine lv_goto (pc := 1092) (tgt := 1519) hx hb dL_law_1092 (by decide) ?_
            exact kk w_35 w_47 H locs ls hf_36 hf_48 ⟨te_cut heq.1 he_39 he_51 (by omega) (by omega), by omega, plE_keep heq.2.2 he_41 he_53 (by omega) (by omega) (by omega)⟩ ho_37 ho_49 (va_P.swap (a := []) (b := wM cB cC cI cJ w_47) (c := wX cB cC cI cJ w_35) hP) (va_D.swap (a := []) (b := wM cB cC cI cJ w_47) (c := wX cB cC cI cJ w_35) hD) hS hl
        ·
          as_aux_lemma =>
            refine lv_iconst (pc := 1083) (v := 1) hx hb dL_law_1083 (by decide) ?_
            refine lv_goto (pc := 1084) (tgt := 1088) hx hb dL_law_1084 (by decide) ?_
            have hP : va_P D gcl (wM cB cC cI cJ v ++ wX cB cC cI cJ w_35) H := va_P.swap (a := []) (b := wX cB cC cI cJ w_35) (c := wM cB cC cI cJ v) hP
            have hD : va_D (fun q : Nat => s.heap.size ≤ q) (wM cB cC cI cJ v ++ wX cB cC cI cJ w_35) := va_D.swap (a := []) (b := wX cB cC cI cJ w_35) (c := wM cB cC cI cJ v) hD
            refine cc_1088 C0 hK hF v hfM hl (1 : Int32) (by rw [tI_1]; decide) hP hD hS (fun r_55 w_56 H locs hf_57 ho_58 he_59 he_60 he_61 he_62 he_63 hP hD hS => ?_)
            have rr_55 := n_rngL r_55
            refine lv_pop2_2 (pc := 1091) hx hb dL_law_1091 rfl ?_
            refine lv_goto (pc := 1092) (tgt := 1519) hx hb dL_law_1092 (by decide) ?_
            exact kk w_35 w_56 H locs ls hf_36 hf_57 ⟨te_cut heq.1 he_39 he_60 (by omega) (by omega), by omega, plE_keep heq.2.2 he_41 he_62 (by omega) (by omega) (by omega)⟩ ho_37 ho_58 (va_P.swap (a := []) (b := wM cB cC cI cJ w_56) (c := wX cB cC cI cJ w_35) hP) (va_D.swap (a := []) (b := wM cB cC cI cJ w_56) (c := wX cB cC cI cJ w_35) hD) hS hl
set_option maxHeartbeats 8000000 in
set_option maxRecDepth 100000 in
theorem lo_29 {p : Program} {l : Launch} {e : Env} {s : State} {m : MethodId} {below : List Frame} {meth : Method} {c : Code} {D : va_G} {cB cC cI cJ : ClassId} {b L : Nat} {xs : Nat → Int32} {adK adV : Nat → Nat} (C0 : lw_At p s m meth c b L xs) (hLN : L ≤ 3072) (hK : va_K D gcl [(cB, .byte), (cC, .char), (cI, .int), (cJ, .long)] s) (hF : sF adK adV (fun q : Nat => s.heap.size ≤ q) s s.heap) (o1 o2 : Nat) (i : Int32) (hi0 : 0 ≤ i.toInt) (hi1 : i.toInt + 6 ≤ (L : Int)) (u v : gEx) (hfX : fX u) (hfM : fM v) (heq : tEq (u.2.1 4) (u.2.2.2.1 7).toInt (v.2.1 0) (v.2.2.2.1 0).toInt ∧ ((u.2.2.2.1 5).toInt = (v.2.2.2.1 6).toInt ∧ (u.2.2.2.1 6).toInt = (v.2.2.2.1 7).toInt ∧ (u.2.2.2.1 15).toInt = (v.2.2.2.1 8).toInt ∧ (u.2.2.2.1 16).toInt = (v.2.2.2.1 9).toInt ∧ (u.2.2.2.1 17).toInt = (v.2.2.2.1 10).toInt ∧ (u.2.2.2.1 18).toInt = (v.2.2.2.1 11).toInt ∧ (u.2.2.2.1 19).toInt = (v.2.2.2.1 12).toInt ∧ (u.2.2.2.1 43).toInt = ((v.2.1 21) 0).toInt ∧ (u.2.2.2.1 24).toInt = (v.2.2.2.1 21).toInt ∧ (u.2.2.2.1 25).toInt = (v.2.2.2.1 22).toInt ∧ (u.2.2.2.1 26).toInt = (v.2.2.2.1 20).toInt) ∧ plE (u.2.1 31) (u.2.1 15) (u.2.2.2.1 20).toInt (v.2.1 17) (v.2.1 18) (v.2.2.2.1 13).toInt (u.2.2.2.1 19).toInt (u.2.2.2.1 16).toInt (u.2.2.2.1 17).toInt) (hu0 : u.1 0 = o1) (hv0 : v.1 0 = o2) (H : Heap) (locs : List Loc) (ls : Array Slot) (hP : va_P D gcl (wX cB cC cI cJ u ++ wM cB cC cI cJ v) H) (hD : va_D (fun q : Nat => s.heap.size ≤ q) (wX cB cC cI cJ u ++ wM cB cC cI cJ v)) (hS : va_S (fun q : Nat => s.heap.size ≤ q) s.heap H locs) (hl : lv_has ls 4 [(3, .int i), (2, .ref o2), (1, .ref o1), (0, .ref b)])
    (kk : ∀ (u v : gEx) (H : Heap) (locs : List Loc) (ls : Array Slot), fX u → fM v → tEq (u.2.1 4) (u.2.2.2.1 7).toInt (v.2.1 0) (v.2.2.2.1 0).toInt ∧ ((u.2.2.2.1 5).toInt = (v.2.2.2.1 6).toInt ∧ (u.2.2.2.1 6).toInt = (v.2.2.2.1 7).toInt ∧ (u.2.2.2.1 15).toInt = (v.2.2.2.1 8).toInt ∧ (u.2.2.2.1 16).toInt = (v.2.2.2.1 9).toInt ∧ (u.2.2.2.1 17).toInt = (v.2.2.2.1 10).toInt ∧ (u.2.2.2.1 18).toInt = (v.2.2.2.1 11).toInt ∧ (u.2.2.2.1 19).toInt = (v.2.2.2.1 12).toInt ∧ (u.2.2.2.1 43).toInt = ((v.2.1 21) 0).toInt ∧ (u.2.2.2.1 24).toInt = (v.2.2.2.1 21).toInt ∧ (u.2.2.2.1 25).toInt = (v.2.2.2.1 22).toInt ∧ (u.2.2.2.1 26).toInt = (v.2.2.2.1 20).toInt) ∧ plE (u.2.1 31) (u.2.1 15) (u.2.2.2.1 20).toInt (v.2.1 17) (v.2.1 18) (v.2.2.2.1 13).toInt (u.2.2.2.1 19).toInt (u.2.2.2.1 16).toInt (u.2.2.2.1 17).toInt → u.1 0 = o1 → v.1 0 = o2 → va_P D gcl (wX cB cC cI cJ u ++ wM cB cC cI cJ v) H → va_D (fun q : Nat => s.heap.size ≤ q) (wX cB cC cI cJ u ++ wM cB cC cI cJ v) → va_S (fun q : Nat => s.heap.size ≤ q) s.heap H locs → lv_has ls 4 [(3, .int i), (2, .ref o2), (1, .ref o1), (0, .ref b)] → W p l e room_1 s m #[Value.ref b] below meth c H locs 126 15724 (lw_Z below #[Value.ref b] s) (F0 m 1519 ls [])) : W p l e room_1 s m #[Value.ref b] below meth c H locs 126 15724 (lw_Z below #[Value.ref b] s) (F0 m 1095 ls []) := by
  subst hu0
  subst hv0
  have hlen := heq.1.1
  have hreg := heq.2.1
  obtain ⟨hx, hb, hr, hml, hown, hts0, hX, hbl, hlocks, hgv⟩ := id C0
  have hts := g_tbl hts0
  have hbA : ¬ (fun q : Nat => s.heap.size ≤ q) b := Nat.not_le.mpr hbl
  refine lv_aload_n (pc := 1095) hx hb dL_law_1095 rfl (lv_at hl 2 rfl) ?_
  refine lv_aload_n (pc := 1096) hx hb dL_law_1096 rfl (lv_at hl 3 rfl) ?_
  refine lv_iload_n (pc := 1097) hx hb dL_law_1097 rfl (lv_at hl 0 rfl) ?_
  refine lv_iconst (pc := 1098) (v := 1) hx hb dL_law_1098 (by decide) ?_
  refine b_iadd (pc := 1099) hx hb rfl tI_1 (by omega) (by omega) dL_law_1099 (fun x_1 ex_1 => ?_)
  refine va_sld (pc := 1100) hx hb hX hbl hbA hS (n_in rfl (by omega) (by omega)) dL_law_1100 ?_
  refine lv_topi (fun x_2 ex_2 => ?_)
  have rx_2 := n_rng x_2
  have tx_2 := congrArg Int32.toInt (e_ld (f := xs) (show x_2 = xs (x_1.toInt).toNat from ex_2) (show x_1.toInt = (i.toInt) + (1) by omega))
  refine lv_aload_n (pc := 1101) hx hb dL_law_1101 rfl (lv_at hl 3 rfl) ?_
  refine lv_iload_n (pc := 1102) hx hb dL_law_1102 rfl (lv_at hl 0 rfl) ?_
  refine lv_iconst (pc := 1103) (v := 2) hx hb dL_law_1103 (by decide) ?_
  as_aux_lemma =>
    refine b_iadd (pc := 1104) hx hb rfl tI_2 (by omega) (by omega) dL_law_1104 (fun x_3 ex_3 => ?_)
    refine va_sld (pc := 1105) hx hb hX hbl hbA hS (n_in rfl (by omega) (by omega)) dL_law_1105 ?_
    refine lv_topi (fun x_4 ex_4 => ?_)
    have rx_4 := n_rng x_4
    have tx_4 := congrArg Int32.toInt (e_ld (f := xs) (show x_4 = xs (x_3.toInt).toNat from ex_4) (show x_3.toInt = (i.toInt) + (2) by omega))
    refine lv_aload_n (pc := 1106) hx hb dL_law_1106 rfl (lv_at hl 3 rfl) ?_
    refine lv_iload_n (pc := 1107) hx hb dL_law_1107 rfl (lv_at hl 0 rfl) ?_
    refine lv_iconst (pc := 1108) (v := 3) hx hb dL_law_1108 (by decide) ?_
    refine b_iadd (pc := 1109) hx hb rfl tI_3 (by omega) (by omega) dL_law_1109 (fun x_5 ex_5 => ?_)
    refine va_sld (pc := 1110) hx hb hX hbl hbA hS (n_in rfl (by omega) (by omega)) dL_law_1110 ?_
    refine lv_topi (fun x_6 ex_6 => ?_)
    have rx_6 := n_rng x_6
    have tx_6 := congrArg Int32.toInt (e_ld (f := xs) (show x_6 = xs (x_5.toInt).toNat from ex_6) (show x_5.toInt = (i.toInt) + (3) by omega))
    refine cc_1111 C0 hK hF u hfX hl x_2 x_4 x_6 hP hD hS (fun r_7 w_8 H locs hf_9 ho_10 he_11 he_12 he_13 he_14 he_15 hP hD hS => ?_)
    have rr_7 := n_rngL r_7
    as_aux_lemma =>
      refine lv_pop2_2 (pc := 1114) hx hb dL_law_1114 rfl ?_
      refine lv_aload_n (pc := 1115) hx hb dL_law_1115 rfl (lv_at hl 1 rfl) ?_
      refine lv_aload_n (pc := 1116) hx hb dL_law_1116 rfl (lv_at hl 3 rfl) ?_
      refine lv_iload_n (pc := 1117) hx hb dL_law_1117 rfl (lv_at hl 0 rfl) ?_
      refine lv_iconst (pc := 1118) (v := 1) hx hb dL_law_1118 (by decide) ?_
      refine b_iadd (pc := 1119) hx hb rfl tI_1 (by omega) (by omega) dL_law_1119 (fun x_16 ex_16 => ?_)
      refine va_sld (pc := 1120) hx hb hX hbl hbA hS (n_in rfl (by omega) (by omega)) dL_law_1120 ?_
      refine lv_topi (fun x_17 ex_17 => ?_)
      have rx_17 := n_rng x_17
      have tx_17 := congrArg Int32.toInt (e_ld (f := xs) (show x_17 = xs (x_16.toInt).toNat from ex_17) (show x_16.toInt = (i.toInt) + (1) by omega))
      refine lv_aload_n (pc := 1121) hx hb dL_law_1121 rfl (lv_at hl 3 rfl) ?_
      refine lv_iload_n (pc := 1122) hx hb dL_law_1122 rfl (lv_at hl 0 rfl) ?_
      as_aux_lemma =>
        refine lv_iconst (pc := 1123) (v := 2) hx hb dL_law_1123 (by decide) ?_
        refine b_iadd (pc := 1124) hx hb rfl tI_2 (by omega) (by omega) dL_law_1124 (fun x_18 ex_18 => ?_)
        refine va_sld (pc := 1125) hx hb hX hbl hbA hS (n_in rfl (by omega) (by omega)) dL_law_1125 ?_
        refine lv_topi (fun x_19 ex_19 => ?_)
        have rx_19 := n_rng x_19
        have tx_19 := congrArg Int32.toInt (e_ld (f := xs) (show x_19 = xs (x_18.toInt).toNat from ex_19) (show x_18.toInt = (i.toInt) + (2) by omega))
        refine lv_aload_n (pc := 1126) hx hb dL_law_1126 rfl (lv_at hl 3 rfl) ?_
        refine lv_iload_n (pc := 1127) hx hb dL_law_1127 rfl (lv_at hl 0 rfl) ?_
        refine lv_iconst (pc := 1128) (v := 3) hx hb dL_law_1128 (by decide) ?_
        refine b_iadd (pc := 1129) hx hb rfl tI_3 (by omega) (by omega) dL_law_1129 (fun x_20 ex_20 => ?_)
        refine va_sld (pc := 1130) hx hb hX hbl hbA hS (n_in rfl (by omega) (by omega)) dL_law_1130 ?_
        refine lv_topi (fun x_21 ex_21 => ?_)
        have rx_21 := n_rng x_21
        have tx_21 := congrArg Int32.toInt (e_ld (f := xs) (show x_21 = xs (x_20.toInt).toNat from ex_21) (show x_20.toInt = (i.toInt) + (3) by omega))
        have hP : va_P D gcl (wM cB cC cI cJ v ++ wX cB cC cI cJ w_8) H := va_P.swap (a := []) (b := wX cB cC cI cJ w_8) (c := wM cB cC cI cJ v) hP
        have hD : va_D (fun q : Nat => s.heap.size ≤ q) (wM cB cC cI cJ v ++ wX cB cC cI cJ w_8) := va_D.swap (a := []) (b := wX cB cC cI cJ w_8) (c := wM cB cC cI cJ v) hD
        as_aux_lemma =>
          refine cc_1131 C0 hK hF v hfM hl x_17 x_19 x_21 hP hD hS (fun r_22 w_23 H locs hf_24 ho_25 he_26 he_27 he_28 he_29 he_30 hP hD hS => ?_)
          have rr_22 := n_rngL r_22
          refine lv_pop2_2 (pc := 1134) hx hb dL_law_1134 rfl ?_
          refine lv_goto (pc := 1135) (tgt := 1519) hx hb dL_law_1135 (by decide) ?_
          exact kk w_8 w_23 H locs ls hf_9 hf_24 ⟨te_cut heq.1 he_12 he_27 (by omega) (by omega), by omega, plE_keep heq.2.2 he_14 he_29 (by omega) (by omega) (by omega)⟩ ho_10 ho_25 (va_P.swap (a := []) (b := wM cB cC cI cJ w_23) (c := wX cB cC cI cJ w_8) hP) (va_D.swap (a := []) (b := wM cB cC cI cJ w_23) (c := wX cB cC cI cJ w_8) hD) hS hl
set_option maxHeartbeats 8000000 in
set_option maxRecDepth 100000 in
theorem lo_30 {p : Program} {l : Launch} {e : Env} {s : State} {m : MethodId} {below : List Frame} {meth : Method} {c : Code} {D : va_G} {cB cC cI cJ : ClassId} {b L : Nat} {xs : Nat → Int32} {adK adV : Nat → Nat} (C0 : lw_At p s m meth c b L xs) (hLN : L ≤ 3072) (hK : va_K D gcl [(cB, .byte), (cC, .char), (cI, .int), (cJ, .long)] s) (hF : sF adK adV (fun q : Nat => s.heap.size ≤ q) s s.heap) (o1 o2 : Nat) (i : Int32) (hi0 : 0 ≤ i.toInt) (hi1 : i.toInt + 6 ≤ (L : Int)) (u v : gEx) (hfX : fX u) (hfM : fM v) (heq : tEq (u.2.1 4) (u.2.2.2.1 7).toInt (v.2.1 0) (v.2.2.2.1 0).toInt ∧ ((u.2.2.2.1 5).toInt = (v.2.2.2.1 6).toInt ∧ (u.2.2.2.1 6).toInt = (v.2.2.2.1 7).toInt ∧ (u.2.2.2.1 15).toInt = (v.2.2.2.1 8).toInt ∧ (u.2.2.2.1 16).toInt = (v.2.2.2.1 9).toInt ∧ (u.2.2.2.1 17).toInt = (v.2.2.2.1 10).toInt ∧ (u.2.2.2.1 18).toInt = (v.2.2.2.1 11).toInt ∧ (u.2.2.2.1 19).toInt = (v.2.2.2.1 12).toInt ∧ (u.2.2.2.1 43).toInt = ((v.2.1 21) 0).toInt ∧ (u.2.2.2.1 24).toInt = (v.2.2.2.1 21).toInt ∧ (u.2.2.2.1 25).toInt = (v.2.2.2.1 22).toInt ∧ (u.2.2.2.1 26).toInt = (v.2.2.2.1 20).toInt) ∧ plE (u.2.1 31) (u.2.1 15) (u.2.2.2.1 20).toInt (v.2.1 17) (v.2.1 18) (v.2.2.2.1 13).toInt (u.2.2.2.1 19).toInt (u.2.2.2.1 16).toInt (u.2.2.2.1 17).toInt) (hu0 : u.1 0 = o1) (hv0 : v.1 0 = o2) (H : Heap) (locs : List Loc) (ls : Array Slot) (hP : va_P D gcl (wX cB cC cI cJ u ++ wM cB cC cI cJ v) H) (hD : va_D (fun q : Nat => s.heap.size ≤ q) (wX cB cC cI cJ u ++ wM cB cC cI cJ v)) (hS : va_S (fun q : Nat => s.heap.size ≤ q) s.heap H locs) (hl : lv_has ls 4 [(3, .int i), (2, .ref o2), (1, .ref o1), (0, .ref b)])
    (kk : ∀ (u v : gEx) (H : Heap) (locs : List Loc) (ls : Array Slot), fX u → fM v → tEq (u.2.1 4) (u.2.2.2.1 7).toInt (v.2.1 0) (v.2.2.2.1 0).toInt ∧ ((u.2.2.2.1 5).toInt = (v.2.2.2.1 6).toInt ∧ (u.2.2.2.1 6).toInt = (v.2.2.2.1 7).toInt ∧ (u.2.2.2.1 15).toInt = (v.2.2.2.1 8).toInt ∧ (u.2.2.2.1 16).toInt = (v.2.2.2.1 9).toInt ∧ (u.2.2.2.1 17).toInt = (v.2.2.2.1 10).toInt ∧ (u.2.2.2.1 18).toInt = (v.2.2.2.1 11).toInt ∧ (u.2.2.2.1 19).toInt = (v.2.2.2.1 12).toInt ∧ (u.2.2.2.1 43).toInt = ((v.2.1 21) 0).toInt ∧ (u.2.2.2.1 24).toInt = (v.2.2.2.1 21).toInt ∧ (u.2.2.2.1 25).toInt = (v.2.2.2.1 22).toInt ∧ (u.2.2.2.1 26).toInt = (v.2.2.2.1 20).toInt) ∧ plE (u.2.1 31) (u.2.1 15) (u.2.2.2.1 20).toInt (v.2.1 17) (v.2.1 18) (v.2.2.2.1 13).toInt (u.2.2.2.1 19).toInt (u.2.2.2.1 16).toInt (u.2.2.2.1 17).toInt → u.1 0 = o1 → v.1 0 = o2 → va_P D gcl (wX cB cC cI cJ u ++ wM cB cC cI cJ v) H → va_D (fun q : Nat => s.heap.size ≤ q) (wX cB cC cI cJ u ++ wM cB cC cI cJ v) → va_S (fun q : Nat => s.heap.size ≤ q) s.heap H locs → lv_has ls 4 [(3, .int i), (2, .ref o2), (1, .ref o1), (0, .ref b)] → W p l e room_1 s m #[Value.ref b] below meth c H locs 126 15724 (lw_Z below #[Value.ref b] s) (F0 m 1519 ls [])) : W p l e room_1 s m #[Value.ref b] below meth c H locs 126 15724 (lw_Z below #[Value.ref b] s) (F0 m 1138 ls []) := by
  subst hu0
  subst hv0
  have hlen := heq.1.1
  have hreg := heq.2.1
  obtain ⟨hx, hb, hr, hml, hown, hts0, hX, hbl, hlocks, hgv⟩ := id C0
  have hts := g_tbl hts0
  have hbA : ¬ (fun q : Nat => s.heap.size ≤ q) b := Nat.not_le.mpr hbl
  refine lv_aload_n (pc := 1138) hx hb dL_law_1138 rfl (lv_at hl 2 rfl) ?_
  refine lv_aload_n (pc := 1139) hx hb dL_law_1139 rfl (lv_at hl 3 rfl) ?_
  refine lv_iload_n (pc := 1140) hx hb dL_law_1140 rfl (lv_at hl 0 rfl) ?_
  refine lv_iconst (pc := 1141) (v := 1) hx hb dL_law_1141 (by decide) ?_
  refine b_iadd (pc := 1142) hx hb rfl tI_1 (by omega) (by omega) dL_law_1142 (fun x_1 ex_1 => ?_)
  refine va_sld (pc := 1143) hx hb hX hbl hbA hS (n_in rfl (by omega) (by omega)) dL_law_1143 ?_
  refine lv_topi (fun x_2 ex_2 => ?_)
  have rx_2 := n_rng x_2
  have tx_2 := congrArg Int32.toInt (e_ld (f := xs) (show x_2 = xs (x_1.toInt).toNat from ex_2) (show x_1.toInt = (i.toInt) + (1) by omega))
  refine cc_1144 C0 hK hF u hfX hl x_2 hP hD hS (fun r_3 w_4 H locs hf_5 ho_6 he_7 he_8 he_9 he_10 he_11 hP hD hS => ?_)
  have rr_3 := n_rngL r_3
  refine lv_pop2_2 (pc := 1147) hx hb dL_law_1147 rfl ?_
  refine lv_aload_n (pc := 1148) hx hb dL_law_1148 rfl (lv_at hl 1 rfl) ?_
  refine lv_aload_n (pc := 1149) hx hb dL_law_1149 rfl (lv_at hl 3 rfl) ?_
  refine lv_iload_n (pc := 1150) hx hb dL_law_1150 rfl (lv_at hl 0 rfl) ?_
  refine lv_iconst (pc := 1151) (v := 1) hx hb dL_law_1151 (by decide) ?_
  refine b_iadd (pc := 1152) hx hb rfl tI_1 (by omega) (by omega) dL_law_1152 (fun x_12 ex_12 => ?_)
  refine va_sld (pc := 1153) hx hb hX hbl hbA hS (n_in rfl (by omega) (by omega)) dL_law_1153 ?_
  refine lv_topi (fun x_13 ex_13 => ?_)
  have rx_13 := n_rng x_13
  have tx_13 := congrArg Int32.toInt (e_ld (f := xs) (show x_13 = xs (x_12.toInt).toNat from ex_13) (show x_12.toInt = (i.toInt) + (1) by omega))
  have hP : va_P D gcl (wM cB cC cI cJ v ++ wX cB cC cI cJ w_4) H := va_P.swap (a := []) (b := wX cB cC cI cJ w_4) (c := wM cB cC cI cJ v) hP
  have hD : va_D (fun q : Nat => s.heap.size ≤ q) (wM cB cC cI cJ v ++ wX cB cC cI cJ w_4) := va_D.swap (a := []) (b := wX cB cC cI cJ w_4) (c := wM cB cC cI cJ v) hD
  refine cc_1154 C0 hK hF v hfM hl x_13 hP hD hS (fun r_14 w_15 H locs hf_16 ho_17 he_18 he_19 he_20 he_21 he_22 hP hD hS => ?_)
  have rr_14 := n_rngL r_14
  refine lv_pop2_2 (pc := 1157) hx hb dL_law_1157 rfl ?_
  refine lv_goto (pc := 1158) (tgt := 1519) hx hb dL_law_1158 (by decide) ?_
  exact kk w_4 w_15 H locs ls hf_5 hf_16 ⟨te_cut heq.1 he_8 he_19 (by omega) (by omega), by omega, plE_keep heq.2.2 he_10 he_21 (by omega) (by omega) (by omega)⟩ ho_6 ho_17 (va_P.swap (a := []) (b := wM cB cC cI cJ w_15) (c := wX cB cC cI cJ w_4) hP) (va_D.swap (a := []) (b := wM cB cC cI cJ w_15) (c := wX cB cC cI cJ w_4) hD) hS hl
set_option maxHeartbeats 8000000 in
set_option maxRecDepth 100000 in
theorem lo_31 {p : Program} {l : Launch} {e : Env} {s : State} {m : MethodId} {below : List Frame} {meth : Method} {c : Code} {D : va_G} {cB cC cI cJ : ClassId} {b L : Nat} {xs : Nat → Int32} {adK adV : Nat → Nat} (C0 : lw_At p s m meth c b L xs) (hLN : L ≤ 3072) (hK : va_K D gcl [(cB, .byte), (cC, .char), (cI, .int), (cJ, .long)] s) (hF : sF adK adV (fun q : Nat => s.heap.size ≤ q) s s.heap) (o1 o2 : Nat) (i : Int32) (hi0 : 0 ≤ i.toInt) (hi1 : i.toInt + 6 ≤ (L : Int)) (u v : gEx) (hfX : fX u) (hfM : fM v) (heq : tEq (u.2.1 4) (u.2.2.2.1 7).toInt (v.2.1 0) (v.2.2.2.1 0).toInt ∧ ((u.2.2.2.1 5).toInt = (v.2.2.2.1 6).toInt ∧ (u.2.2.2.1 6).toInt = (v.2.2.2.1 7).toInt ∧ (u.2.2.2.1 15).toInt = (v.2.2.2.1 8).toInt ∧ (u.2.2.2.1 16).toInt = (v.2.2.2.1 9).toInt ∧ (u.2.2.2.1 17).toInt = (v.2.2.2.1 10).toInt ∧ (u.2.2.2.1 18).toInt = (v.2.2.2.1 11).toInt ∧ (u.2.2.2.1 19).toInt = (v.2.2.2.1 12).toInt ∧ (u.2.2.2.1 43).toInt = ((v.2.1 21) 0).toInt ∧ (u.2.2.2.1 24).toInt = (v.2.2.2.1 21).toInt ∧ (u.2.2.2.1 25).toInt = (v.2.2.2.1 22).toInt ∧ (u.2.2.2.1 26).toInt = (v.2.2.2.1 20).toInt) ∧ plE (u.2.1 31) (u.2.1 15) (u.2.2.2.1 20).toInt (v.2.1 17) (v.2.1 18) (v.2.2.2.1 13).toInt (u.2.2.2.1 19).toInt (u.2.2.2.1 16).toInt (u.2.2.2.1 17).toInt) (hu0 : u.1 0 = o1) (hv0 : v.1 0 = o2) (H : Heap) (locs : List Loc) (ls : Array Slot) (hP : va_P D gcl (wX cB cC cI cJ u ++ wM cB cC cI cJ v) H) (hD : va_D (fun q : Nat => s.heap.size ≤ q) (wX cB cC cI cJ u ++ wM cB cC cI cJ v)) (hS : va_S (fun q : Nat => s.heap.size ≤ q) s.heap H locs) (hl : lv_has ls 4 [(3, .int i), (2, .ref o2), (1, .ref o1), (0, .ref b)])
    (kk : ∀ (u v : gEx) (H : Heap) (locs : List Loc) (ls : Array Slot), fX u → fM v → tEq (u.2.1 4) (u.2.2.2.1 7).toInt (v.2.1 0) (v.2.2.2.1 0).toInt ∧ ((u.2.2.2.1 5).toInt = (v.2.2.2.1 6).toInt ∧ (u.2.2.2.1 6).toInt = (v.2.2.2.1 7).toInt ∧ (u.2.2.2.1 15).toInt = (v.2.2.2.1 8).toInt ∧ (u.2.2.2.1 16).toInt = (v.2.2.2.1 9).toInt ∧ (u.2.2.2.1 17).toInt = (v.2.2.2.1 10).toInt ∧ (u.2.2.2.1 18).toInt = (v.2.2.2.1 11).toInt ∧ (u.2.2.2.1 19).toInt = (v.2.2.2.1 12).toInt ∧ (u.2.2.2.1 43).toInt = ((v.2.1 21) 0).toInt ∧ (u.2.2.2.1 24).toInt = (v.2.2.2.1 21).toInt ∧ (u.2.2.2.1 25).toInt = (v.2.2.2.1 22).toInt ∧ (u.2.2.2.1 26).toInt = (v.2.2.2.1 20).toInt) ∧ plE (u.2.1 31) (u.2.1 15) (u.2.2.2.1 20).toInt (v.2.1 17) (v.2.1 18) (v.2.2.2.1 13).toInt (u.2.2.2.1 19).toInt (u.2.2.2.1 16).toInt (u.2.2.2.1 17).toInt → u.1 0 = o1 → v.1 0 = o2 → va_P D gcl (wX cB cC cI cJ u ++ wM cB cC cI cJ v) H → va_D (fun q : Nat => s.heap.size ≤ q) (wX cB cC cI cJ u ++ wM cB cC cI cJ v) → va_S (fun q : Nat => s.heap.size ≤ q) s.heap H locs → lv_has ls 4 [(3, .int i), (2, .ref o2), (1, .ref o1), (0, .ref b)] → W p l e room_1 s m #[Value.ref b] below meth c H locs 126 15724 (lw_Z below #[Value.ref b] s) (F0 m 1519 ls [])) : W p l e room_1 s m #[Value.ref b] below meth c H locs 126 15724 (lw_Z below #[Value.ref b] s) (F0 m 1161 ls []) := by
  subst hu0
  subst hv0
  have hlen := heq.1.1
  have hreg := heq.2.1
  obtain ⟨hx, hb, hr, hml, hown, hts0, hX, hbl, hlocks, hgv⟩ := id C0
  have hts := g_tbl hts0
  have hbA : ¬ (fun q : Nat => s.heap.size ≤ q) b := Nat.not_le.mpr hbl
  refine lv_aload_n (pc := 1161) hx hb dL_law_1161 rfl (lv_at hl 2 rfl) ?_
  refine lv_aload_n (pc := 1162) hx hb dL_law_1162 rfl (lv_at hl 3 rfl) ?_
  refine lv_iload_n (pc := 1163) hx hb dL_law_1163 rfl (lv_at hl 0 rfl) ?_
  refine lv_iconst (pc := 1164) (v := 1) hx hb dL_law_1164 (by decide) ?_
  refine b_iadd (pc := 1165) hx hb rfl tI_1 (by omega) (by omega) dL_law_1165 (fun x_1 ex_1 => ?_)
  refine va_sld (pc := 1166) hx hb hX hbl hbA hS (n_in rfl (by omega) (by omega)) dL_law_1166 ?_
  refine lv_topi (fun x_2 ex_2 => ?_)
  have rx_2 := n_rng x_2
  have tx_2 := congrArg Int32.toInt (e_ld (f := xs) (show x_2 = xs (x_1.toInt).toNat from ex_2) (show x_1.toInt = (i.toInt) + (1) by omega))
  refine lv_aload_n (pc := 1167) hx hb dL_law_1167 rfl (lv_at hl 3 rfl) ?_
  refine lv_iload_n (pc := 1168) hx hb dL_law_1168 rfl (lv_at hl 0 rfl) ?_
  refine lv_iconst (pc := 1169) (v := 2) hx hb dL_law_1169 (by decide) ?_
  as_aux_lemma =>
    refine b_iadd (pc := 1170) hx hb rfl tI_2 (by omega) (by omega) dL_law_1170 (fun x_3 ex_3 => ?_)
    refine va_sld (pc := 1171) hx hb hX hbl hbA hS (n_in rfl (by omega) (by omega)) dL_law_1171 ?_
    refine lv_topi (fun x_4 ex_4 => ?_)
    have rx_4 := n_rng x_4
    have tx_4 := congrArg Int32.toInt (e_ld (f := xs) (show x_4 = xs (x_3.toInt).toNat from ex_4) (show x_3.toInt = (i.toInt) + (2) by omega))
    refine cc_1172 C0 hK hF u hfX hl x_2 x_4 hP hD hS (fun r_5 w_6 H locs hf_7 ho_8 he_9 he_10 he_11 he_12 he_13 hP hD hS => ?_)
    have rr_5 := n_rng r_5
    refine lv_pop (pc := 1175) hx hb dL_law_1175 rfl ?_
    refine lv_aload_n (pc := 1176) hx hb dL_law_1176 rfl (lv_at hl 1 rfl) ?_
    refine lv_aload_n (pc := 1177) hx hb dL_law_1177 rfl (lv_at hl 3 rfl) ?_
    refine lv_iload_n (pc := 1178) hx hb dL_law_1178 rfl (lv_at hl 0 rfl) ?_
    refine lv_iconst (pc := 1179) (v := 1) hx hb dL_law_1179 (by decide) ?_
    refine b_iadd (pc := 1180) hx hb rfl tI_1 (by omega) (by omega) dL_law_1180 (fun x_14 ex_14 => ?_)
    as_aux_lemma =>
      refine va_sld (pc := 1181) hx hb hX hbl hbA hS (n_in rfl (by omega) (by omega)) dL_law_1181 ?_
      refine lv_topi (fun x_15 ex_15 => ?_)
      have rx_15 := n_rng x_15
      have tx_15 := congrArg Int32.toInt (e_ld (f := xs) (show x_15 = xs (x_14.toInt).toNat from ex_15) (show x_14.toInt = (i.toInt) + (1) by omega))
      refine lv_aload_n (pc := 1182) hx hb dL_law_1182 rfl (lv_at hl 3 rfl) ?_
      refine lv_iload_n (pc := 1183) hx hb dL_law_1183 rfl (lv_at hl 0 rfl) ?_
      refine lv_iconst (pc := 1184) (v := 2) hx hb dL_law_1184 (by decide) ?_
      refine b_iadd (pc := 1185) hx hb rfl tI_2 (by omega) (by omega) dL_law_1185 (fun x_16 ex_16 => ?_)
      refine va_sld (pc := 1186) hx hb hX hbl hbA hS (n_in rfl (by omega) (by omega)) dL_law_1186 ?_
      refine lv_topi (fun x_17 ex_17 => ?_)
      have rx_17 := n_rng x_17
      have tx_17 := congrArg Int32.toInt (e_ld (f := xs) (show x_17 = xs (x_16.toInt).toNat from ex_17) (show x_16.toInt = (i.toInt) + (2) by omega))
      have hP : va_P D gcl (wM cB cC cI cJ v ++ wX cB cC cI cJ w_6) H := va_P.swap (a := []) (b := wX cB cC cI cJ w_6) (c := wM cB cC cI cJ v) hP
      have hD : va_D (fun q : Nat => s.heap.size ≤ q) (wM cB cC cI cJ v ++ wX cB cC cI cJ w_6) := va_D.swap (a := []) (b := wX cB cC cI cJ w_6) (c := wM cB cC cI cJ v) hD
      refine cc_1187 C0 hK hF v hfM hl x_15 x_17 hP hD hS (fun r_18 w_19 H locs hf_20 ho_21 he_22 he_23 he_24 he_25 he_26 hP hD hS => ?_)
      have rr_18 := n_rng r_18
      refine lv_pop (pc := 1190) hx hb dL_law_1190 rfl ?_
      as_aux_lemma =>
        refine lv_goto (pc := 1191) (tgt := 1519) hx hb dL_law_1191 (by decide) ?_
        exact kk w_6 w_19 H locs ls hf_7 hf_20 ⟨te_cut heq.1 he_10 he_23 (by omega) (by omega), by omega, plE_keep heq.2.2 he_12 he_25 (by omega) (by omega) (by omega)⟩ ho_8 ho_21 (va_P.swap (a := []) (b := wM cB cC cI cJ w_19) (c := wX cB cC cI cJ w_6) hP) (va_D.swap (a := []) (b := wM cB cC cI cJ w_19) (c := wX cB cC cI cJ w_6) hD) hS hl
set_option maxHeartbeats 8000000 in
set_option maxRecDepth 100000 in
theorem lo_32 {p : Program} {l : Launch} {e : Env} {s : State} {m : MethodId} {below : List Frame} {meth : Method} {c : Code} {D : va_G} {cB cC cI cJ : ClassId} {b L : Nat} {xs : Nat → Int32} {adK adV : Nat → Nat} (C0 : lw_At p s m meth c b L xs) (hLN : L ≤ 3072) (hK : va_K D gcl [(cB, .byte), (cC, .char), (cI, .int), (cJ, .long)] s) (hF : sF adK adV (fun q : Nat => s.heap.size ≤ q) s s.heap) (o1 o2 : Nat) (i : Int32) (hi0 : 0 ≤ i.toInt) (hi1 : i.toInt + 6 ≤ (L : Int)) (u v : gEx) (hfX : fX u) (hfM : fM v) (heq : tEq (u.2.1 4) (u.2.2.2.1 7).toInt (v.2.1 0) (v.2.2.2.1 0).toInt ∧ ((u.2.2.2.1 5).toInt = (v.2.2.2.1 6).toInt ∧ (u.2.2.2.1 6).toInt = (v.2.2.2.1 7).toInt ∧ (u.2.2.2.1 15).toInt = (v.2.2.2.1 8).toInt ∧ (u.2.2.2.1 16).toInt = (v.2.2.2.1 9).toInt ∧ (u.2.2.2.1 17).toInt = (v.2.2.2.1 10).toInt ∧ (u.2.2.2.1 18).toInt = (v.2.2.2.1 11).toInt ∧ (u.2.2.2.1 19).toInt = (v.2.2.2.1 12).toInt ∧ (u.2.2.2.1 43).toInt = ((v.2.1 21) 0).toInt ∧ (u.2.2.2.1 24).toInt = (v.2.2.2.1 21).toInt ∧ (u.2.2.2.1 25).toInt = (v.2.2.2.1 22).toInt ∧ (u.2.2.2.1 26).toInt = (v.2.2.2.1 20).toInt) ∧ plE (u.2.1 31) (u.2.1 15) (u.2.2.2.1 20).toInt (v.2.1 17) (v.2.1 18) (v.2.2.2.1 13).toInt (u.2.2.2.1 19).toInt (u.2.2.2.1 16).toInt (u.2.2.2.1 17).toInt) (hu0 : u.1 0 = o1) (hv0 : v.1 0 = o2) (H : Heap) (locs : List Loc) (ls : Array Slot) (hP : va_P D gcl (wX cB cC cI cJ u ++ wM cB cC cI cJ v) H) (hD : va_D (fun q : Nat => s.heap.size ≤ q) (wX cB cC cI cJ u ++ wM cB cC cI cJ v)) (hS : va_S (fun q : Nat => s.heap.size ≤ q) s.heap H locs) (hl : lv_has ls 4 [(3, .int i), (2, .ref o2), (1, .ref o1), (0, .ref b)])
    (kk : ∀ (u v : gEx) (H : Heap) (locs : List Loc) (ls : Array Slot), fX u → fM v → tEq (u.2.1 4) (u.2.2.2.1 7).toInt (v.2.1 0) (v.2.2.2.1 0).toInt ∧ ((u.2.2.2.1 5).toInt = (v.2.2.2.1 6).toInt ∧ (u.2.2.2.1 6).toInt = (v.2.2.2.1 7).toInt ∧ (u.2.2.2.1 15).toInt = (v.2.2.2.1 8).toInt ∧ (u.2.2.2.1 16).toInt = (v.2.2.2.1 9).toInt ∧ (u.2.2.2.1 17).toInt = (v.2.2.2.1 10).toInt ∧ (u.2.2.2.1 18).toInt = (v.2.2.2.1 11).toInt ∧ (u.2.2.2.1 19).toInt = (v.2.2.2.1 12).toInt ∧ (u.2.2.2.1 43).toInt = ((v.2.1 21) 0).toInt ∧ (u.2.2.2.1 24).toInt = (v.2.2.2.1 21).toInt ∧ (u.2.2.2.1 25).toInt = (v.2.2.2.1 22).toInt ∧ (u.2.2.2.1 26).toInt = (v.2.2.2.1 20).toInt) ∧ plE (u.2.1 31) (u.2.1 15) (u.2.2.2.1 20).toInt (v.2.1 17) (v.2.1 18) (v.2.2.2.1 13).toInt (u.2.2.2.1 19).toInt (u.2.2.2.1 16).toInt (u.2.2.2.1 17).toInt → u.1 0 = o1 → v.1 0 = o2 → va_P D gcl (wX cB cC cI cJ u ++ wM cB cC cI cJ v) H → va_D (fun q : Nat => s.heap.size ≤ q) (wX cB cC cI cJ u ++ wM cB cC cI cJ v) → va_S (fun q : Nat => s.heap.size ≤ q) s.heap H locs → lv_has ls 4 [(3, .int i), (2, .ref o2), (1, .ref o1), (0, .ref b)] → W p l e room_1 s m #[Value.ref b] below meth c H locs 126 15724 (lw_Z below #[Value.ref b] s) (F0 m 1519 ls [])) : W p l e room_1 s m #[Value.ref b] below meth c H locs 126 15724 (lw_Z below #[Value.ref b] s) (F0 m 1194 ls []) := by
  subst hu0
  subst hv0
  have hlen := heq.1.1
  have hreg := heq.2.1
  obtain ⟨hx, hb, hr, hml, hown, hts0, hX, hbl, hlocks, hgv⟩ := id C0
  have hts := g_tbl hts0
  have hbA : ¬ (fun q : Nat => s.heap.size ≤ q) b := Nat.not_le.mpr hbl
  refine lv_aload_n (pc := 1194) hx hb dL_law_1194 rfl (lv_at hl 2 rfl) ?_
  refine lv_aload_n (pc := 1195) hx hb dL_law_1195 rfl (lv_at hl 3 rfl) ?_
  refine lv_iload_n (pc := 1196) hx hb dL_law_1196 rfl (lv_at hl 0 rfl) ?_
  refine lv_iconst (pc := 1197) (v := 1) hx hb dL_law_1197 (by decide) ?_
  refine b_iadd (pc := 1198) hx hb rfl tI_1 (by omega) (by omega) dL_law_1198 (fun x_1 ex_1 => ?_)
  refine va_sld (pc := 1199) hx hb hX hbl hbA hS (n_in rfl (by omega) (by omega)) dL_law_1199 ?_
  refine lv_topi (fun x_2 ex_2 => ?_)
  have rx_2 := n_rng x_2
  have tx_2 := congrArg Int32.toInt (e_ld (f := xs) (show x_2 = xs (x_1.toInt).toNat from ex_2) (show x_1.toInt = (i.toInt) + (1) by omega))
  refine cc_1200 C0 hK hF u hfX hl x_2 hP hD hS (fun r_3 w_4 H locs hf_5 ho_6 he_7 he_8 he_9 he_10 he_11 hP hD hS => ?_)
  have rr_3 := n_rngL r_3
  refine lv_pop2_2 (pc := 1203) hx hb dL_law_1203 rfl ?_
  refine lv_aload_n (pc := 1204) hx hb dL_law_1204 rfl (lv_at hl 1 rfl) ?_
  refine lv_aload_n (pc := 1205) hx hb dL_law_1205 rfl (lv_at hl 3 rfl) ?_
  refine lv_iload_n (pc := 1206) hx hb dL_law_1206 rfl (lv_at hl 0 rfl) ?_
  refine lv_iconst (pc := 1207) (v := 1) hx hb dL_law_1207 (by decide) ?_
  refine b_iadd (pc := 1208) hx hb rfl tI_1 (by omega) (by omega) dL_law_1208 (fun x_12 ex_12 => ?_)
  refine va_sld (pc := 1209) hx hb hX hbl hbA hS (n_in rfl (by omega) (by omega)) dL_law_1209 ?_
  refine lv_topi (fun x_13 ex_13 => ?_)
  have rx_13 := n_rng x_13
  have tx_13 := congrArg Int32.toInt (e_ld (f := xs) (show x_13 = xs (x_12.toInt).toNat from ex_13) (show x_12.toInt = (i.toInt) + (1) by omega))
  have hP : va_P D gcl (wM cB cC cI cJ v ++ wX cB cC cI cJ w_4) H := va_P.swap (a := []) (b := wX cB cC cI cJ w_4) (c := wM cB cC cI cJ v) hP
  have hD : va_D (fun q : Nat => s.heap.size ≤ q) (wM cB cC cI cJ v ++ wX cB cC cI cJ w_4) := va_D.swap (a := []) (b := wX cB cC cI cJ w_4) (c := wM cB cC cI cJ v) hD
  refine cc_1210 C0 hK hF v hfM hl x_13 hP hD hS (fun r_14 w_15 H locs hf_16 ho_17 he_18 he_19 he_20 he_21 he_22 hP hD hS => ?_)
  have rr_14 := n_rngL r_14
  refine lv_pop2_2 (pc := 1213) hx hb dL_law_1213 rfl ?_
  refine lv_goto (pc := 1214) (tgt := 1519) hx hb dL_law_1214 (by decide) ?_
  exact kk w_4 w_15 H locs ls hf_5 hf_16 ⟨te_cut heq.1 he_8 he_19 (by omega) (by omega), by omega, plE_keep heq.2.2 he_10 he_21 (by omega) (by omega) (by omega)⟩ ho_6 ho_17 (va_P.swap (a := []) (b := wM cB cC cI cJ w_15) (c := wX cB cC cI cJ w_4) hP) (va_D.swap (a := []) (b := wM cB cC cI cJ w_15) (c := wX cB cC cI cJ w_4) hD) hS hl
set_option maxHeartbeats 8000000 in
set_option maxRecDepth 100000 in
theorem lo_33 {p : Program} {l : Launch} {e : Env} {s : State} {m : MethodId} {below : List Frame} {meth : Method} {c : Code} {D : va_G} {cB cC cI cJ : ClassId} {b L : Nat} {xs : Nat → Int32} {adK adV : Nat → Nat} (C0 : lw_At p s m meth c b L xs) (hLN : L ≤ 3072) (hK : va_K D gcl [(cB, .byte), (cC, .char), (cI, .int), (cJ, .long)] s) (hF : sF adK adV (fun q : Nat => s.heap.size ≤ q) s s.heap) (o1 o2 : Nat) (i : Int32) (hi0 : 0 ≤ i.toInt) (hi1 : i.toInt + 6 ≤ (L : Int)) (u v : gEx) (hfX : fX u) (hfM : fM v) (heq : tEq (u.2.1 4) (u.2.2.2.1 7).toInt (v.2.1 0) (v.2.2.2.1 0).toInt ∧ ((u.2.2.2.1 5).toInt = (v.2.2.2.1 6).toInt ∧ (u.2.2.2.1 6).toInt = (v.2.2.2.1 7).toInt ∧ (u.2.2.2.1 15).toInt = (v.2.2.2.1 8).toInt ∧ (u.2.2.2.1 16).toInt = (v.2.2.2.1 9).toInt ∧ (u.2.2.2.1 17).toInt = (v.2.2.2.1 10).toInt ∧ (u.2.2.2.1 18).toInt = (v.2.2.2.1 11).toInt ∧ (u.2.2.2.1 19).toInt = (v.2.2.2.1 12).toInt ∧ (u.2.2.2.1 43).toInt = ((v.2.1 21) 0).toInt ∧ (u.2.2.2.1 24).toInt = (v.2.2.2.1 21).toInt ∧ (u.2.2.2.1 25).toInt = (v.2.2.2.1 22).toInt ∧ (u.2.2.2.1 26).toInt = (v.2.2.2.1 20).toInt) ∧ plE (u.2.1 31) (u.2.1 15) (u.2.2.2.1 20).toInt (v.2.1 17) (v.2.1 18) (v.2.2.2.1 13).toInt (u.2.2.2.1 19).toInt (u.2.2.2.1 16).toInt (u.2.2.2.1 17).toInt) (hu0 : u.1 0 = o1) (hv0 : v.1 0 = o2) (H : Heap) (locs : List Loc) (ls : Array Slot) (hP : va_P D gcl (wX cB cC cI cJ u ++ wM cB cC cI cJ v) H) (hD : va_D (fun q : Nat => s.heap.size ≤ q) (wX cB cC cI cJ u ++ wM cB cC cI cJ v)) (hS : va_S (fun q : Nat => s.heap.size ≤ q) s.heap H locs) (hl : lv_has ls 4 [(3, .int i), (2, .ref o2), (1, .ref o1), (0, .ref b)])
    (kk : ∀ (u v : gEx) (H : Heap) (locs : List Loc) (ls : Array Slot), fX u → fM v → tEq (u.2.1 4) (u.2.2.2.1 7).toInt (v.2.1 0) (v.2.2.2.1 0).toInt ∧ ((u.2.2.2.1 5).toInt = (v.2.2.2.1 6).toInt ∧ (u.2.2.2.1 6).toInt = (v.2.2.2.1 7).toInt ∧ (u.2.2.2.1 15).toInt = (v.2.2.2.1 8).toInt ∧ (u.2.2.2.1 16).toInt = (v.2.2.2.1 9).toInt ∧ (u.2.2.2.1 17).toInt = (v.2.2.2.1 10).toInt ∧ (u.2.2.2.1 18).toInt = (v.2.2.2.1 11).toInt ∧ (u.2.2.2.1 19).toInt = (v.2.2.2.1 12).toInt ∧ (u.2.2.2.1 43).toInt = ((v.2.1 21) 0).toInt ∧ (u.2.2.2.1 24).toInt = (v.2.2.2.1 21).toInt ∧ (u.2.2.2.1 25).toInt = (v.2.2.2.1 22).toInt ∧ (u.2.2.2.1 26).toInt = (v.2.2.2.1 20).toInt) ∧ plE (u.2.1 31) (u.2.1 15) (u.2.2.2.1 20).toInt (v.2.1 17) (v.2.1 18) (v.2.2.2.1 13).toInt (u.2.2.2.1 19).toInt (u.2.2.2.1 16).toInt (u.2.2.2.1 17).toInt → u.1 0 = o1 → v.1 0 = o2 → va_P D gcl (wX cB cC cI cJ u ++ wM cB cC cI cJ v) H → va_D (fun q : Nat => s.heap.size ≤ q) (wX cB cC cI cJ u ++ wM cB cC cI cJ v) → va_S (fun q : Nat => s.heap.size ≤ q) s.heap H locs → lv_has ls 4 [(3, .int i), (2, .ref o2), (1, .ref o1), (0, .ref b)] → W p l e room_1 s m #[Value.ref b] below meth c H locs 126 15724 (lw_Z below #[Value.ref b] s) (F0 m 1519 ls [])) : W p l e room_1 s m #[Value.ref b] below meth c H locs 126 15724 (lw_Z below #[Value.ref b] s) (F0 m 1217 ls []) := by
  subst hu0
  subst hv0
  have hlen := heq.1.1
  have hreg := heq.2.1
  obtain ⟨hx, hb, hr, hml, hown, hts0, hX, hbl, hlocks, hgv⟩ := id C0
  have hts := g_tbl hts0
  have hbA : ¬ (fun q : Nat => s.heap.size ≤ q) b := Nat.not_le.mpr hbl
  refine lv_aload_n (pc := 1217) hx hb dL_law_1217 rfl (lv_at hl 2 rfl) ?_
  refine cc_1218 C0 hK hF u hfX hl  hP hD hS (fun r_1 w_2 H locs hf_3 ho_4 he_5 he_6 he_7 he_8 he_9 hP hD hS => ?_)
  have rr_1 := n_rng r_1
  refine lv_pop (pc := 1221) hx hb dL_law_1221 rfl ?_
  refine lv_aload_n (pc := 1222) hx hb dL_law_1222 rfl (lv_at hl 1 rfl) ?_
  have hP : va_P D gcl (wM cB cC cI cJ v ++ wX cB cC cI cJ w_2) H := va_P.swap (a := []) (b := wX cB cC cI cJ w_2) (c := wM cB cC cI cJ v) hP
  have hD : va_D (fun q : Nat => s.heap.size ≤ q) (wM cB cC cI cJ v ++ wX cB cC cI cJ w_2) := va_D.swap (a := []) (b := wX cB cC cI cJ w_2) (c := wM cB cC cI cJ v) hD
  refine cc_1223 C0 hK hF v hfM hl  hP hD hS (fun r_10 w_11 H locs hf_12 ho_13 he_14 he_15 he_16 he_17 he_18 hP hD hS => ?_)
  have rr_10 := n_rng r_10
  refine lv_pop (pc := 1226) hx hb dL_law_1226 rfl ?_
  refine lv_goto (pc := 1227) (tgt := 1519) hx hb dL_law_1227 (by decide) ?_
  exact kk w_2 w_11 H locs ls hf_3 hf_12 ⟨te_cut heq.1 he_6 he_15 (by omega) (by omega), by omega, plE_keep heq.2.2 he_8 he_17 (by omega) (by omega) (by omega)⟩ ho_4 ho_13 (va_P.swap (a := []) (b := wM cB cC cI cJ w_11) (c := wX cB cC cI cJ w_2) hP) (va_D.swap (a := []) (b := wM cB cC cI cJ w_11) (c := wX cB cC cI cJ w_2) hD) hS hl
set_option maxHeartbeats 8000000 in
set_option maxRecDepth 100000 in
theorem lo_34 {p : Program} {l : Launch} {e : Env} {s : State} {m : MethodId} {below : List Frame} {meth : Method} {c : Code} {D : va_G} {cB cC cI cJ : ClassId} {b L : Nat} {xs : Nat → Int32} {adK adV : Nat → Nat} (C0 : lw_At p s m meth c b L xs) (hLN : L ≤ 3072) (hK : va_K D gcl [(cB, .byte), (cC, .char), (cI, .int), (cJ, .long)] s) (hF : sF adK adV (fun q : Nat => s.heap.size ≤ q) s s.heap) (o1 o2 : Nat) (i : Int32) (hi0 : 0 ≤ i.toInt) (hi1 : i.toInt + 6 ≤ (L : Int)) (u v : gEx) (hfX : fX u) (hfM : fM v) (heq : tEq (u.2.1 4) (u.2.2.2.1 7).toInt (v.2.1 0) (v.2.2.2.1 0).toInt ∧ ((u.2.2.2.1 5).toInt = (v.2.2.2.1 6).toInt ∧ (u.2.2.2.1 6).toInt = (v.2.2.2.1 7).toInt ∧ (u.2.2.2.1 15).toInt = (v.2.2.2.1 8).toInt ∧ (u.2.2.2.1 16).toInt = (v.2.2.2.1 9).toInt ∧ (u.2.2.2.1 17).toInt = (v.2.2.2.1 10).toInt ∧ (u.2.2.2.1 18).toInt = (v.2.2.2.1 11).toInt ∧ (u.2.2.2.1 19).toInt = (v.2.2.2.1 12).toInt ∧ (u.2.2.2.1 43).toInt = ((v.2.1 21) 0).toInt ∧ (u.2.2.2.1 24).toInt = (v.2.2.2.1 21).toInt ∧ (u.2.2.2.1 25).toInt = (v.2.2.2.1 22).toInt ∧ (u.2.2.2.1 26).toInt = (v.2.2.2.1 20).toInt) ∧ plE (u.2.1 31) (u.2.1 15) (u.2.2.2.1 20).toInt (v.2.1 17) (v.2.1 18) (v.2.2.2.1 13).toInt (u.2.2.2.1 19).toInt (u.2.2.2.1 16).toInt (u.2.2.2.1 17).toInt) (hu0 : u.1 0 = o1) (hv0 : v.1 0 = o2) (H : Heap) (locs : List Loc) (ls : Array Slot) (hP : va_P D gcl (wX cB cC cI cJ u ++ wM cB cC cI cJ v) H) (hD : va_D (fun q : Nat => s.heap.size ≤ q) (wX cB cC cI cJ u ++ wM cB cC cI cJ v)) (hS : va_S (fun q : Nat => s.heap.size ≤ q) s.heap H locs) (hl : lv_has ls 4 [(3, .int i), (2, .ref o2), (1, .ref o1), (0, .ref b)])
    (kk : ∀ (u v : gEx) (H : Heap) (locs : List Loc) (ls : Array Slot), fX u → fM v → tEq (u.2.1 4) (u.2.2.2.1 7).toInt (v.2.1 0) (v.2.2.2.1 0).toInt ∧ ((u.2.2.2.1 5).toInt = (v.2.2.2.1 6).toInt ∧ (u.2.2.2.1 6).toInt = (v.2.2.2.1 7).toInt ∧ (u.2.2.2.1 15).toInt = (v.2.2.2.1 8).toInt ∧ (u.2.2.2.1 16).toInt = (v.2.2.2.1 9).toInt ∧ (u.2.2.2.1 17).toInt = (v.2.2.2.1 10).toInt ∧ (u.2.2.2.1 18).toInt = (v.2.2.2.1 11).toInt ∧ (u.2.2.2.1 19).toInt = (v.2.2.2.1 12).toInt ∧ (u.2.2.2.1 43).toInt = ((v.2.1 21) 0).toInt ∧ (u.2.2.2.1 24).toInt = (v.2.2.2.1 21).toInt ∧ (u.2.2.2.1 25).toInt = (v.2.2.2.1 22).toInt ∧ (u.2.2.2.1 26).toInt = (v.2.2.2.1 20).toInt) ∧ plE (u.2.1 31) (u.2.1 15) (u.2.2.2.1 20).toInt (v.2.1 17) (v.2.1 18) (v.2.2.2.1 13).toInt (u.2.2.2.1 19).toInt (u.2.2.2.1 16).toInt (u.2.2.2.1 17).toInt → u.1 0 = o1 → v.1 0 = o2 → va_P D gcl (wX cB cC cI cJ u ++ wM cB cC cI cJ v) H → va_D (fun q : Nat => s.heap.size ≤ q) (wX cB cC cI cJ u ++ wM cB cC cI cJ v) → va_S (fun q : Nat => s.heap.size ≤ q) s.heap H locs → lv_has ls 4 [(3, .int i), (2, .ref o2), (1, .ref o1), (0, .ref b)] → W p l e room_1 s m #[Value.ref b] below meth c H locs 126 15724 (lw_Z below #[Value.ref b] s) (F0 m 1519 ls [])) : W p l e room_1 s m #[Value.ref b] below meth c H locs 126 15724 (lw_Z below #[Value.ref b] s) (F0 m 1230 ls []) := by
  subst hu0
  subst hv0
  have hlen := heq.1.1
  have hreg := heq.2.1
  obtain ⟨hx, hb, hr, hml, hown, hts0, hX, hbl, hlocks, hgv⟩ := id C0
  have hts := g_tbl hts0
  have hbA : ¬ (fun q : Nat => s.heap.size ≤ q) b := Nat.not_le.mpr hbl
  refine lv_aload_n (pc := 1230) hx hb dL_law_1230 rfl (lv_at hl 2 rfl) ?_
  refine lv_aload_n (pc := 1231) hx hb dL_law_1231 rfl (lv_at hl 3 rfl) ?_
  refine lv_iload_n (pc := 1232) hx hb dL_law_1232 rfl (lv_at hl 0 rfl) ?_
  refine lv_iconst (pc := 1233) (v := 1) hx hb dL_law_1233 (by decide) ?_
  refine b_iadd (pc := 1234) hx hb rfl tI_1 (by omega) (by omega) dL_law_1234 (fun x_1 ex_1 => ?_)
  refine va_sld (pc := 1235) hx hb hX hbl hbA hS (n_in rfl (by omega) (by omega)) dL_law_1235 ?_
  refine lv_topi (fun x_2 ex_2 => ?_)
  have rx_2 := n_rng x_2
  have tx_2 := congrArg Int32.toInt (e_ld (f := xs) (show x_2 = xs (x_1.toInt).toNat from ex_2) (show x_1.toInt = (i.toInt) + (1) by omega))
  refine cc_1236 C0 hK hF u hfX hl x_2 hP hD hS (fun r_3 w_4 H locs hf_5 ho_6 he_7 he_8 he_9 he_10 he_11 hP hD hS => ?_)
  have rr_3 := n_rngL r_3
  refine lv_pop2_2 (pc := 1239) hx hb dL_law_1239 rfl ?_
  refine lv_aload_n (pc := 1240) hx hb dL_law_1240 rfl (lv_at hl 1 rfl) ?_
  refine lv_aload_n (pc := 1241) hx hb dL_law_1241 rfl (lv_at hl 3 rfl) ?_
  refine lv_iload_n (pc := 1242) hx hb dL_law_1242 rfl (lv_at hl 0 rfl) ?_
  refine lv_iconst (pc := 1243) (v := 1) hx hb dL_law_1243 (by decide) ?_
  refine b_iadd (pc := 1244) hx hb rfl tI_1 (by omega) (by omega) dL_law_1244 (fun x_12 ex_12 => ?_)
  refine va_sld (pc := 1245) hx hb hX hbl hbA hS (n_in rfl (by omega) (by omega)) dL_law_1245 ?_
  refine lv_topi (fun x_13 ex_13 => ?_)
  have rx_13 := n_rng x_13
  have tx_13 := congrArg Int32.toInt (e_ld (f := xs) (show x_13 = xs (x_12.toInt).toNat from ex_13) (show x_12.toInt = (i.toInt) + (1) by omega))
  have hP : va_P D gcl (wM cB cC cI cJ v ++ wX cB cC cI cJ w_4) H := va_P.swap (a := []) (b := wX cB cC cI cJ w_4) (c := wM cB cC cI cJ v) hP
  have hD : va_D (fun q : Nat => s.heap.size ≤ q) (wM cB cC cI cJ v ++ wX cB cC cI cJ w_4) := va_D.swap (a := []) (b := wX cB cC cI cJ w_4) (c := wM cB cC cI cJ v) hD
  refine cc_1246 C0 hK hF v hfM hl x_13 hP hD hS (fun r_14 w_15 H locs hf_16 ho_17 he_18 he_19 he_20 he_21 he_22 hP hD hS => ?_)
  have rr_14 := n_rngL r_14
  refine lv_pop2_2 (pc := 1249) hx hb dL_law_1249 rfl ?_
  refine lv_goto (pc := 1250) (tgt := 1519) hx hb dL_law_1250 (by decide) ?_
  exact kk w_4 w_15 H locs ls hf_5 hf_16 ⟨te_cut heq.1 he_8 he_19 (by omega) (by omega), by omega, plE_keep heq.2.2 he_10 he_21 (by omega) (by omega) (by omega)⟩ ho_6 ho_17 (va_P.swap (a := []) (b := wM cB cC cI cJ w_15) (c := wX cB cC cI cJ w_4) hP) (va_D.swap (a := []) (b := wM cB cC cI cJ w_15) (c := wX cB cC cI cJ w_4) hD) hS hl
set_option maxHeartbeats 8000000 in
set_option maxRecDepth 100000 in
theorem lo_35 {p : Program} {l : Launch} {e : Env} {s : State} {m : MethodId} {below : List Frame} {meth : Method} {c : Code} {D : va_G} {cB cC cI cJ : ClassId} {b L : Nat} {xs : Nat → Int32} {adK adV : Nat → Nat} (C0 : lw_At p s m meth c b L xs) (hLN : L ≤ 3072) (hK : va_K D gcl [(cB, .byte), (cC, .char), (cI, .int), (cJ, .long)] s) (hF : sF adK adV (fun q : Nat => s.heap.size ≤ q) s s.heap) (o1 o2 : Nat) (i : Int32) (hi0 : 0 ≤ i.toInt) (hi1 : i.toInt + 6 ≤ (L : Int)) (u v : gEx) (hfX : fX u) (hfM : fM v) (heq : tEq (u.2.1 4) (u.2.2.2.1 7).toInt (v.2.1 0) (v.2.2.2.1 0).toInt ∧ ((u.2.2.2.1 5).toInt = (v.2.2.2.1 6).toInt ∧ (u.2.2.2.1 6).toInt = (v.2.2.2.1 7).toInt ∧ (u.2.2.2.1 15).toInt = (v.2.2.2.1 8).toInt ∧ (u.2.2.2.1 16).toInt = (v.2.2.2.1 9).toInt ∧ (u.2.2.2.1 17).toInt = (v.2.2.2.1 10).toInt ∧ (u.2.2.2.1 18).toInt = (v.2.2.2.1 11).toInt ∧ (u.2.2.2.1 19).toInt = (v.2.2.2.1 12).toInt ∧ (u.2.2.2.1 43).toInt = ((v.2.1 21) 0).toInt ∧ (u.2.2.2.1 24).toInt = (v.2.2.2.1 21).toInt ∧ (u.2.2.2.1 25).toInt = (v.2.2.2.1 22).toInt ∧ (u.2.2.2.1 26).toInt = (v.2.2.2.1 20).toInt) ∧ plE (u.2.1 31) (u.2.1 15) (u.2.2.2.1 20).toInt (v.2.1 17) (v.2.1 18) (v.2.2.2.1 13).toInt (u.2.2.2.1 19).toInt (u.2.2.2.1 16).toInt (u.2.2.2.1 17).toInt) (hu0 : u.1 0 = o1) (hv0 : v.1 0 = o2) (H : Heap) (locs : List Loc) (ls : Array Slot) (hP : va_P D gcl (wX cB cC cI cJ u ++ wM cB cC cI cJ v) H) (hD : va_D (fun q : Nat => s.heap.size ≤ q) (wX cB cC cI cJ u ++ wM cB cC cI cJ v)) (hS : va_S (fun q : Nat => s.heap.size ≤ q) s.heap H locs) (hl : lv_has ls 4 [(3, .int i), (2, .ref o2), (1, .ref o1), (0, .ref b)])
    (kk : ∀ (u v : gEx) (H : Heap) (locs : List Loc) (ls : Array Slot), fX u → fM v → tEq (u.2.1 4) (u.2.2.2.1 7).toInt (v.2.1 0) (v.2.2.2.1 0).toInt ∧ ((u.2.2.2.1 5).toInt = (v.2.2.2.1 6).toInt ∧ (u.2.2.2.1 6).toInt = (v.2.2.2.1 7).toInt ∧ (u.2.2.2.1 15).toInt = (v.2.2.2.1 8).toInt ∧ (u.2.2.2.1 16).toInt = (v.2.2.2.1 9).toInt ∧ (u.2.2.2.1 17).toInt = (v.2.2.2.1 10).toInt ∧ (u.2.2.2.1 18).toInt = (v.2.2.2.1 11).toInt ∧ (u.2.2.2.1 19).toInt = (v.2.2.2.1 12).toInt ∧ (u.2.2.2.1 43).toInt = ((v.2.1 21) 0).toInt ∧ (u.2.2.2.1 24).toInt = (v.2.2.2.1 21).toInt ∧ (u.2.2.2.1 25).toInt = (v.2.2.2.1 22).toInt ∧ (u.2.2.2.1 26).toInt = (v.2.2.2.1 20).toInt) ∧ plE (u.2.1 31) (u.2.1 15) (u.2.2.2.1 20).toInt (v.2.1 17) (v.2.1 18) (v.2.2.2.1 13).toInt (u.2.2.2.1 19).toInt (u.2.2.2.1 16).toInt (u.2.2.2.1 17).toInt → u.1 0 = o1 → v.1 0 = o2 → va_P D gcl (wX cB cC cI cJ u ++ wM cB cC cI cJ v) H → va_D (fun q : Nat => s.heap.size ≤ q) (wX cB cC cI cJ u ++ wM cB cC cI cJ v) → va_S (fun q : Nat => s.heap.size ≤ q) s.heap H locs → lv_has ls 4 [(3, .int i), (2, .ref o2), (1, .ref o1), (0, .ref b)] → W p l e room_1 s m #[Value.ref b] below meth c H locs 126 15724 (lw_Z below #[Value.ref b] s) (F0 m 1519 ls [])) : W p l e room_1 s m #[Value.ref b] below meth c H locs 126 15724 (lw_Z below #[Value.ref b] s) (F0 m 1253 ls []) := by
  subst hu0
  subst hv0
  have hlen := heq.1.1
  have hreg := heq.2.1
  obtain ⟨hx, hb, hr, hml, hown, hts0, hX, hbl, hlocks, hgv⟩ := id C0
  have hts := g_tbl hts0
  have hbA : ¬ (fun q : Nat => s.heap.size ≤ q) b := Nat.not_le.mpr hbl
  refine lv_aload_n (pc := 1253) hx hb dL_law_1253 rfl (lv_at hl 2 rfl) ?_
  refine lv_aload_n (pc := 1254) hx hb dL_law_1254 rfl (lv_at hl 3 rfl) ?_
  refine lv_iload_n (pc := 1255) hx hb dL_law_1255 rfl (lv_at hl 0 rfl) ?_
  refine lv_iconst (pc := 1256) (v := 1) hx hb dL_law_1256 (by decide) ?_
  refine b_iadd (pc := 1257) hx hb rfl tI_1 (by omega) (by omega) dL_law_1257 (fun x_1 ex_1 => ?_)
  refine va_sld (pc := 1258) hx hb hX hbl hbA hS (n_in rfl (by omega) (by omega)) dL_law_1258 ?_
  refine lv_topi (fun x_2 ex_2 => ?_)
  have rx_2 := n_rng x_2
  have tx_2 := congrArg Int32.toInt (e_ld (f := xs) (show x_2 = xs (x_1.toInt).toNat from ex_2) (show x_1.toInt = (i.toInt) + (1) by omega))
  refine cc_1259 C0 hK hF u hfX hl x_2 hP hD hS (fun r_3 w_4 H locs hf_5 ho_6 he_7 he_8 he_9 he_10 he_11 hP hD hS => ?_)
  have rr_3 := n_rng r_3
  refine lv_pop (pc := 1262) hx hb dL_law_1262 rfl ?_
  refine lv_aload_n (pc := 1263) hx hb dL_law_1263 rfl (lv_at hl 1 rfl) ?_
  refine lv_aload_n (pc := 1264) hx hb dL_law_1264 rfl (lv_at hl 3 rfl) ?_
  refine lv_iload_n (pc := 1265) hx hb dL_law_1265 rfl (lv_at hl 0 rfl) ?_
  refine lv_iconst (pc := 1266) (v := 1) hx hb dL_law_1266 (by decide) ?_
  refine b_iadd (pc := 1267) hx hb rfl tI_1 (by omega) (by omega) dL_law_1267 (fun x_12 ex_12 => ?_)
  refine va_sld (pc := 1268) hx hb hX hbl hbA hS (n_in rfl (by omega) (by omega)) dL_law_1268 ?_
  refine lv_topi (fun x_13 ex_13 => ?_)
  have rx_13 := n_rng x_13
  have tx_13 := congrArg Int32.toInt (e_ld (f := xs) (show x_13 = xs (x_12.toInt).toNat from ex_13) (show x_12.toInt = (i.toInt) + (1) by omega))
  have hP : va_P D gcl (wM cB cC cI cJ v ++ wX cB cC cI cJ w_4) H := va_P.swap (a := []) (b := wX cB cC cI cJ w_4) (c := wM cB cC cI cJ v) hP
  have hD : va_D (fun q : Nat => s.heap.size ≤ q) (wM cB cC cI cJ v ++ wX cB cC cI cJ w_4) := va_D.swap (a := []) (b := wX cB cC cI cJ w_4) (c := wM cB cC cI cJ v) hD
  refine cc_1269 C0 hK hF v hfM hl x_13 hP hD hS (fun r_14 w_15 H locs hf_16 ho_17 he_18 he_19 he_20 he_21 he_22 hP hD hS => ?_)
  have rr_14 := n_rng r_14
  refine lv_pop (pc := 1272) hx hb dL_law_1272 rfl ?_
  refine lv_goto (pc := 1273) (tgt := 1519) hx hb dL_law_1273 (by decide) ?_
  exact kk w_4 w_15 H locs ls hf_5 hf_16 ⟨te_cut heq.1 he_8 he_19 (by omega) (by omega), by omega, plE_keep heq.2.2 he_10 he_21 (by omega) (by omega) (by omega)⟩ ho_6 ho_17 (va_P.swap (a := []) (b := wM cB cC cI cJ w_15) (c := wX cB cC cI cJ w_4) hP) (va_D.swap (a := []) (b := wM cB cC cI cJ w_15) (c := wX cB cC cI cJ w_4) hD) hS hl
set_option maxHeartbeats 8000000 in
set_option maxRecDepth 100000 in
theorem lo_36 {p : Program} {l : Launch} {e : Env} {s : State} {m : MethodId} {below : List Frame} {meth : Method} {c : Code} {D : va_G} {cB cC cI cJ : ClassId} {b L : Nat} {xs : Nat → Int32} {adK adV : Nat → Nat} (C0 : lw_At p s m meth c b L xs) (hLN : L ≤ 3072) (hK : va_K D gcl [(cB, .byte), (cC, .char), (cI, .int), (cJ, .long)] s) (hF : sF adK adV (fun q : Nat => s.heap.size ≤ q) s s.heap) (o1 o2 : Nat) (i : Int32) (hi0 : 0 ≤ i.toInt) (hi1 : i.toInt + 6 ≤ (L : Int)) (u v : gEx) (hfX : fX u) (hfM : fM v) (heq : tEq (u.2.1 4) (u.2.2.2.1 7).toInt (v.2.1 0) (v.2.2.2.1 0).toInt ∧ ((u.2.2.2.1 5).toInt = (v.2.2.2.1 6).toInt ∧ (u.2.2.2.1 6).toInt = (v.2.2.2.1 7).toInt ∧ (u.2.2.2.1 15).toInt = (v.2.2.2.1 8).toInt ∧ (u.2.2.2.1 16).toInt = (v.2.2.2.1 9).toInt ∧ (u.2.2.2.1 17).toInt = (v.2.2.2.1 10).toInt ∧ (u.2.2.2.1 18).toInt = (v.2.2.2.1 11).toInt ∧ (u.2.2.2.1 19).toInt = (v.2.2.2.1 12).toInt ∧ (u.2.2.2.1 43).toInt = ((v.2.1 21) 0).toInt ∧ (u.2.2.2.1 24).toInt = (v.2.2.2.1 21).toInt ∧ (u.2.2.2.1 25).toInt = (v.2.2.2.1 22).toInt ∧ (u.2.2.2.1 26).toInt = (v.2.2.2.1 20).toInt) ∧ plE (u.2.1 31) (u.2.1 15) (u.2.2.2.1 20).toInt (v.2.1 17) (v.2.1 18) (v.2.2.2.1 13).toInt (u.2.2.2.1 19).toInt (u.2.2.2.1 16).toInt (u.2.2.2.1 17).toInt) (hu0 : u.1 0 = o1) (hv0 : v.1 0 = o2) (H : Heap) (locs : List Loc) (ls : Array Slot) (hP : va_P D gcl (wX cB cC cI cJ u ++ wM cB cC cI cJ v) H) (hD : va_D (fun q : Nat => s.heap.size ≤ q) (wX cB cC cI cJ u ++ wM cB cC cI cJ v)) (hS : va_S (fun q : Nat => s.heap.size ≤ q) s.heap H locs) (hl : lv_has ls 4 [(3, .int i), (2, .ref o2), (1, .ref o1), (0, .ref b)])
    (kk : ∀ (u v : gEx) (H : Heap) (locs : List Loc) (ls : Array Slot), fX u → fM v → tEq (u.2.1 4) (u.2.2.2.1 7).toInt (v.2.1 0) (v.2.2.2.1 0).toInt ∧ ((u.2.2.2.1 5).toInt = (v.2.2.2.1 6).toInt ∧ (u.2.2.2.1 6).toInt = (v.2.2.2.1 7).toInt ∧ (u.2.2.2.1 15).toInt = (v.2.2.2.1 8).toInt ∧ (u.2.2.2.1 16).toInt = (v.2.2.2.1 9).toInt ∧ (u.2.2.2.1 17).toInt = (v.2.2.2.1 10).toInt ∧ (u.2.2.2.1 18).toInt = (v.2.2.2.1 11).toInt ∧ (u.2.2.2.1 19).toInt = (v.2.2.2.1 12).toInt ∧ (u.2.2.2.1 43).toInt = ((v.2.1 21) 0).toInt ∧ (u.2.2.2.1 24).toInt = (v.2.2.2.1 21).toInt ∧ (u.2.2.2.1 25).toInt = (v.2.2.2.1 22).toInt ∧ (u.2.2.2.1 26).toInt = (v.2.2.2.1 20).toInt) ∧ plE (u.2.1 31) (u.2.1 15) (u.2.2.2.1 20).toInt (v.2.1 17) (v.2.1 18) (v.2.2.2.1 13).toInt (u.2.2.2.1 19).toInt (u.2.2.2.1 16).toInt (u.2.2.2.1 17).toInt → u.1 0 = o1 → v.1 0 = o2 → va_P D gcl (wX cB cC cI cJ u ++ wM cB cC cI cJ v) H → va_D (fun q : Nat => s.heap.size ≤ q) (wX cB cC cI cJ u ++ wM cB cC cI cJ v) → va_S (fun q : Nat => s.heap.size ≤ q) s.heap H locs → lv_has ls 4 [(3, .int i), (2, .ref o2), (1, .ref o1), (0, .ref b)] → W p l e room_1 s m #[Value.ref b] below meth c H locs 126 15724 (lw_Z below #[Value.ref b] s) (F0 m 1519 ls [])) : W p l e room_1 s m #[Value.ref b] below meth c H locs 126 15724 (lw_Z below #[Value.ref b] s) (F0 m 1276 ls []) := by
  subst hu0
  subst hv0
  have hlen := heq.1.1
  have hreg := heq.2.1
  obtain ⟨hx, hb, hr, hml, hown, hts0, hX, hbl, hlocks, hgv⟩ := id C0
  have hts := g_tbl hts0
  have hbA : ¬ (fun q : Nat => s.heap.size ≤ q) b := Nat.not_le.mpr hbl
  refine lv_aload_n (pc := 1276) hx hb dL_law_1276 rfl (lv_at hl 2 rfl) ?_
  refine lv_aload_n (pc := 1277) hx hb dL_law_1277 rfl (lv_at hl 3 rfl) ?_
  refine lv_iload_n (pc := 1278) hx hb dL_law_1278 rfl (lv_at hl 0 rfl) ?_
  refine lv_iconst (pc := 1279) (v := 1) hx hb dL_law_1279 (by decide) ?_
  refine b_iadd (pc := 1280) hx hb rfl tI_1 (by omega) (by omega) dL_law_1280 (fun x_1 ex_1 => ?_)
  refine va_sld (pc := 1281) hx hb hX hbl hbA hS (n_in rfl (by omega) (by omega)) dL_law_1281 ?_
  refine lv_topi (fun x_2 ex_2 => ?_)
  have rx_2 := n_rng x_2
  have tx_2 := congrArg Int32.toInt (e_ld (f := xs) (show x_2 = xs (x_1.toInt).toNat from ex_2) (show x_1.toInt = (i.toInt) + (1) by omega))
  refine lv_aload_n (pc := 1282) hx hb dL_law_1282 rfl (lv_at hl 3 rfl) ?_
  refine lv_iload_n (pc := 1283) hx hb dL_law_1283 rfl (lv_at hl 0 rfl) ?_
  refine lv_iconst (pc := 1284) (v := 2) hx hb dL_law_1284 (by decide) ?_
  as_aux_lemma =>
    refine b_iadd (pc := 1285) hx hb rfl tI_2 (by omega) (by omega) dL_law_1285 (fun x_3 ex_3 => ?_)
    refine va_sld (pc := 1286) hx hb hX hbl hbA hS (n_in rfl (by omega) (by omega)) dL_law_1286 ?_
    refine lv_topi (fun x_4 ex_4 => ?_)
    have rx_4 := n_rng x_4
    have tx_4 := congrArg Int32.toInt (e_ld (f := xs) (show x_4 = xs (x_3.toInt).toNat from ex_4) (show x_3.toInt = (i.toInt) + (2) by omega))
    refine cc_1287 C0 hK hF u hfX hl x_2 x_4 hP hD hS (fun r_5 w_6 H locs hf_7 ho_8 he_9 he_10 he_11 he_12 he_13 hP hD hS => ?_)
    have rr_5 := n_rng r_5
    refine lv_pop (pc := 1290) hx hb dL_law_1290 rfl ?_
    refine lv_aload_n (pc := 1291) hx hb dL_law_1291 rfl (lv_at hl 1 rfl) ?_
    refine lv_aload_n (pc := 1292) hx hb dL_law_1292 rfl (lv_at hl 3 rfl) ?_
    refine lv_iload_n (pc := 1293) hx hb dL_law_1293 rfl (lv_at hl 0 rfl) ?_
    refine lv_iconst (pc := 1294) (v := 1) hx hb dL_law_1294 (by decide) ?_
    refine b_iadd (pc := 1295) hx hb rfl tI_1 (by omega) (by omega) dL_law_1295 (fun x_14 ex_14 => ?_)
    as_aux_lemma =>
      refine va_sld (pc := 1296) hx hb hX hbl hbA hS (n_in rfl (by omega) (by omega)) dL_law_1296 ?_
      refine lv_topi (fun x_15 ex_15 => ?_)
      have rx_15 := n_rng x_15
      have tx_15 := congrArg Int32.toInt (e_ld (f := xs) (show x_15 = xs (x_14.toInt).toNat from ex_15) (show x_14.toInt = (i.toInt) + (1) by omega))
      refine lv_aload_n (pc := 1297) hx hb dL_law_1297 rfl (lv_at hl 3 rfl) ?_
      refine lv_iload_n (pc := 1298) hx hb dL_law_1298 rfl (lv_at hl 0 rfl) ?_
      refine lv_iconst (pc := 1299) (v := 2) hx hb dL_law_1299 (by decide) ?_
      refine b_iadd (pc := 1300) hx hb rfl tI_2 (by omega) (by omega) dL_law_1300 (fun x_16 ex_16 => ?_)
      refine va_sld (pc := 1301) hx hb hX hbl hbA hS (n_in rfl (by omega) (by omega)) dL_law_1301 ?_
      refine lv_topi (fun x_17 ex_17 => ?_)
      have rx_17 := n_rng x_17
      have tx_17 := congrArg Int32.toInt (e_ld (f := xs) (show x_17 = xs (x_16.toInt).toNat from ex_17) (show x_16.toInt = (i.toInt) + (2) by omega))
      have hP : va_P D gcl (wM cB cC cI cJ v ++ wX cB cC cI cJ w_6) H := va_P.swap (a := []) (b := wX cB cC cI cJ w_6) (c := wM cB cC cI cJ v) hP
      have hD : va_D (fun q : Nat => s.heap.size ≤ q) (wM cB cC cI cJ v ++ wX cB cC cI cJ w_6) := va_D.swap (a := []) (b := wX cB cC cI cJ w_6) (c := wM cB cC cI cJ v) hD
      refine cc_1302 C0 hK hF v hfM hl x_15 x_17 hP hD hS (fun r_18 w_19 H locs hf_20 ho_21 he_22 he_23 he_24 he_25 he_26 hP hD hS => ?_)
      have rr_18 := n_rng r_18
      refine lv_pop (pc := 1305) hx hb dL_law_1305 rfl ?_
      as_aux_lemma =>
        refine lv_goto (pc := 1306) (tgt := 1519) hx hb dL_law_1306 (by decide) ?_
        exact kk w_6 w_19 H locs ls hf_7 hf_20 ⟨te_cut heq.1 he_10 he_23 (by omega) (by omega), by omega, plE_keep heq.2.2 he_12 he_25 (by omega) (by omega) (by omega)⟩ ho_8 ho_21 (va_P.swap (a := []) (b := wM cB cC cI cJ w_19) (c := wX cB cC cI cJ w_6) hP) (va_D.swap (a := []) (b := wM cB cC cI cJ w_19) (c := wX cB cC cI cJ w_6) hD) hS hl
set_option maxHeartbeats 8000000 in
set_option maxRecDepth 100000 in
theorem lo_37 {p : Program} {l : Launch} {e : Env} {s : State} {m : MethodId} {below : List Frame} {meth : Method} {c : Code} {D : va_G} {cB cC cI cJ : ClassId} {b L : Nat} {xs : Nat → Int32} {adK adV : Nat → Nat} (C0 : lw_At p s m meth c b L xs) (hLN : L ≤ 3072) (hK : va_K D gcl [(cB, .byte), (cC, .char), (cI, .int), (cJ, .long)] s) (hF : sF adK adV (fun q : Nat => s.heap.size ≤ q) s s.heap) (o1 o2 : Nat) (i : Int32) (hi0 : 0 ≤ i.toInt) (hi1 : i.toInt + 6 ≤ (L : Int)) (u v : gEx) (hfX : fX u) (hfM : fM v) (heq : tEq (u.2.1 4) (u.2.2.2.1 7).toInt (v.2.1 0) (v.2.2.2.1 0).toInt ∧ ((u.2.2.2.1 5).toInt = (v.2.2.2.1 6).toInt ∧ (u.2.2.2.1 6).toInt = (v.2.2.2.1 7).toInt ∧ (u.2.2.2.1 15).toInt = (v.2.2.2.1 8).toInt ∧ (u.2.2.2.1 16).toInt = (v.2.2.2.1 9).toInt ∧ (u.2.2.2.1 17).toInt = (v.2.2.2.1 10).toInt ∧ (u.2.2.2.1 18).toInt = (v.2.2.2.1 11).toInt ∧ (u.2.2.2.1 19).toInt = (v.2.2.2.1 12).toInt ∧ (u.2.2.2.1 43).toInt = ((v.2.1 21) 0).toInt ∧ (u.2.2.2.1 24).toInt = (v.2.2.2.1 21).toInt ∧ (u.2.2.2.1 25).toInt = (v.2.2.2.1 22).toInt ∧ (u.2.2.2.1 26).toInt = (v.2.2.2.1 20).toInt) ∧ plE (u.2.1 31) (u.2.1 15) (u.2.2.2.1 20).toInt (v.2.1 17) (v.2.1 18) (v.2.2.2.1 13).toInt (u.2.2.2.1 19).toInt (u.2.2.2.1 16).toInt (u.2.2.2.1 17).toInt) (hu0 : u.1 0 = o1) (hv0 : v.1 0 = o2) (H : Heap) (locs : List Loc) (ls : Array Slot) (hP : va_P D gcl (wX cB cC cI cJ u ++ wM cB cC cI cJ v) H) (hD : va_D (fun q : Nat => s.heap.size ≤ q) (wX cB cC cI cJ u ++ wM cB cC cI cJ v)) (hS : va_S (fun q : Nat => s.heap.size ≤ q) s.heap H locs) (hl : lv_has ls 4 [(3, .int i), (2, .ref o2), (1, .ref o1), (0, .ref b)])
    (kk : ∀ (u v : gEx) (H : Heap) (locs : List Loc) (ls : Array Slot), fX u → fM v → tEq (u.2.1 4) (u.2.2.2.1 7).toInt (v.2.1 0) (v.2.2.2.1 0).toInt ∧ ((u.2.2.2.1 5).toInt = (v.2.2.2.1 6).toInt ∧ (u.2.2.2.1 6).toInt = (v.2.2.2.1 7).toInt ∧ (u.2.2.2.1 15).toInt = (v.2.2.2.1 8).toInt ∧ (u.2.2.2.1 16).toInt = (v.2.2.2.1 9).toInt ∧ (u.2.2.2.1 17).toInt = (v.2.2.2.1 10).toInt ∧ (u.2.2.2.1 18).toInt = (v.2.2.2.1 11).toInt ∧ (u.2.2.2.1 19).toInt = (v.2.2.2.1 12).toInt ∧ (u.2.2.2.1 43).toInt = ((v.2.1 21) 0).toInt ∧ (u.2.2.2.1 24).toInt = (v.2.2.2.1 21).toInt ∧ (u.2.2.2.1 25).toInt = (v.2.2.2.1 22).toInt ∧ (u.2.2.2.1 26).toInt = (v.2.2.2.1 20).toInt) ∧ plE (u.2.1 31) (u.2.1 15) (u.2.2.2.1 20).toInt (v.2.1 17) (v.2.1 18) (v.2.2.2.1 13).toInt (u.2.2.2.1 19).toInt (u.2.2.2.1 16).toInt (u.2.2.2.1 17).toInt → u.1 0 = o1 → v.1 0 = o2 → va_P D gcl (wX cB cC cI cJ u ++ wM cB cC cI cJ v) H → va_D (fun q : Nat => s.heap.size ≤ q) (wX cB cC cI cJ u ++ wM cB cC cI cJ v) → va_S (fun q : Nat => s.heap.size ≤ q) s.heap H locs → lv_has ls 4 [(3, .int i), (2, .ref o2), (1, .ref o1), (0, .ref b)] → W p l e room_1 s m #[Value.ref b] below meth c H locs 126 15724 (lw_Z below #[Value.ref b] s) (F0 m 1519 ls [])) : W p l e room_1 s m #[Value.ref b] below meth c H locs 126 15724 (lw_Z below #[Value.ref b] s) (F0 m 1309 ls []) := by
  subst hu0
  subst hv0
  have hlen := heq.1.1
  have hreg := heq.2.1
  obtain ⟨hx, hb, hr, hml, hown, hts0, hX, hbl, hlocks, hgv⟩ := id C0
  have hts := g_tbl hts0
  have hbA : ¬ (fun q : Nat => s.heap.size ≤ q) b := Nat.not_le.mpr hbl
  refine lv_aload_n (pc := 1309) hx hb dL_law_1309 rfl (lv_at hl 2 rfl) ?_
  refine lv_aload_n (pc := 1310) hx hb dL_law_1310 rfl (lv_at hl 3 rfl) ?_
  refine lv_iload_n (pc := 1311) hx hb dL_law_1311 rfl (lv_at hl 0 rfl) ?_
  refine lv_iconst (pc := 1312) (v := 1) hx hb dL_law_1312 (by decide) ?_
  refine b_iadd (pc := 1313) hx hb rfl tI_1 (by omega) (by omega) dL_law_1313 (fun x_1 ex_1 => ?_)
  refine va_sld (pc := 1314) hx hb hX hbl hbA hS (n_in rfl (by omega) (by omega)) dL_law_1314 ?_
  refine lv_topi (fun x_2 ex_2 => ?_)
  have rx_2 := n_rng x_2
  have tx_2 := congrArg Int32.toInt (e_ld (f := xs) (show x_2 = xs (x_1.toInt).toNat from ex_2) (show x_1.toInt = (i.toInt) + (1) by omega))
  refine b_if_eq (pc := 1315) (tgt := 1322) hx hb rfl  dL_law_1315 (by decide) (fun c_3 => ?_) (fun c_3 => ?_)
  ·
    as_aux_lemma =>
      refine lv_iconst (pc := 1322) (v := 0) hx hb dL_law_1322 (by decide) ?_
      refine cc_1323 C0 hK hF u hfX hl (0 : Int32) (by rw [tI_0]; decide) hP hD hS (fun r_4 w_5 H locs hf_6 ho_7 he_8 he_9 he_10 he_11 he_12 hP hD hS => ?_)
      have rr_4 := n_rngL r_4
      refine lv_pop2_2 (pc := 1326) hx hb dL_law_1326 rfl ?_
      refine lv_aload_n (pc := 1327) hx hb dL_law_1327 rfl (lv_at hl 1 rfl) ?_
      refine lv_aload_n (pc := 1328) hx hb dL_law_1328 rfl (lv_at hl 3 rfl) ?_
      refine lv_iload_n (pc := 1329) hx hb dL_law_1329 rfl (lv_at hl 0 rfl) ?_
      refine lv_iconst (pc := 1330) (v := 1) hx hb dL_law_1330 (by decide) ?_
      refine b_iadd (pc := 1331) hx hb rfl tI_1 (by omega) (by omega) dL_law_1331 (fun x_13 ex_13 => ?_)
      refine va_sld (pc := 1332) hx hb hX hbl hbA hS (n_in rfl (by omega) (by omega)) dL_law_1332 ?_
      refine lv_topi (fun x_14 ex_14 => ?_)
      have rx_14 := n_rng x_14
      have tx_14 := congrArg Int32.toInt (e_ld (f := xs) (show x_14 = xs (x_13.toInt).toNat from ex_14) (show x_13.toInt = (i.toInt) + (1) by omega))
      as_aux_lemma =>
        refine b_if_eq (pc := 1333) (tgt := 1340) hx hb rfl  dL_law_1333 (by decide) (fun c_15 => ?_) (fun c_15 => ?_)
        ·
          as_aux_lemma =>
            refine lv_iconst (pc := 1340) (v := 0) hx hb dL_law_1340 (by decide) ?_
            have hP : va_P D gcl (wM cB cC cI cJ v ++ wX cB cC cI cJ w_5) H := va_P.swap (a := []) (b := wX cB cC cI cJ w_5) (c := wM cB cC cI cJ v) hP
            have hD : va_D (fun q : Nat => s.heap.size ≤ q) (wM cB cC cI cJ v ++ wX cB cC cI cJ w_5) := va_D.swap (a := []) (b := wX cB cC cI cJ w_5) (c := wM cB cC cI cJ v) hD
            refine cc_1341 C0 hK hF v hfM hl (0 : Int32) (by rw [tI_0]; decide) hP hD hS (fun r_16 w_17 H locs hf_18 ho_19 he_20 he_21 he_22 he_23 he_24 hP hD hS => ?_)
            have rr_16 := n_rngL r_16
            refine lv_pop2_2 (pc := 1344) hx hb dL_law_1344 rfl ?_
            refine lv_goto (pc := 1345) (tgt := 1519) hx hb dL_law_1345 (by decide) ?_
            exact kk w_5 w_17 H locs ls hf_6 hf_18 ⟨te_cut heq.1 he_9 he_21 (by omega) (by omega), by omega, plE_keep heq.2.2 he_11 he_23 (by omega) (by omega) (by omega)⟩ ho_7 ho_19 (va_P.swap (a := []) (b := wM cB cC cI cJ w_17) (c := wX cB cC cI cJ w_5) hP) (va_D.swap (a := []) (b := wM cB cC cI cJ w_17) (c := wX cB cC cI cJ w_5) hD) hS hl
        ·
          as_aux_lemma =>
            refine lv_iconst (pc := 1336) (v := 1) hx hb dL_law_1336 (by decide) ?_
            refine lv_goto (pc := 1337) (tgt := 1341) hx hb dL_law_1337 (by decide) ?_
            have hP : va_P D gcl (wM cB cC cI cJ v ++ wX cB cC cI cJ w_5) H := va_P.swap (a := []) (b := wX cB cC cI cJ w_5) (c := wM cB cC cI cJ v) hP
            have hD : va_D (fun q : Nat => s.heap.size ≤ q) (wM cB cC cI cJ v ++ wX cB cC cI cJ w_5) := va_D.swap (a := []) (b := wX cB cC cI cJ w_5) (c := wM cB cC cI cJ v) hD
            refine cc_1341 C0 hK hF v hfM hl (1 : Int32) (by rw [tI_1]; decide) hP hD hS (fun r_25 w_26 H locs hf_27 ho_28 he_29 he_30 he_31 he_32 he_33 hP hD hS => ?_)
            have rr_25 := n_rngL r_25
            refine lv_pop2_2 (pc := 1344) hx hb dL_law_1344 rfl ?_
            refine lv_goto (pc := 1345) (tgt := 1519) hx hb dL_law_1345 (by decide) ?_
            exact kk w_5 w_26 H locs ls hf_6 hf_27 ⟨te_cut heq.1 he_9 he_30 (by omega) (by omega), by omega, plE_keep heq.2.2 he_11 he_32 (by omega) (by omega) (by omega)⟩ ho_7 ho_28 (va_P.swap (a := []) (b := wM cB cC cI cJ w_26) (c := wX cB cC cI cJ w_5) hP) (va_D.swap (a := []) (b := wM cB cC cI cJ w_26) (c := wX cB cC cI cJ w_5) hD) hS hl
  ·
    as_aux_lemma =>
      refine lv_iconst (pc := 1318) (v := 1) hx hb dL_law_1318 (by decide) ?_
      refine lv_goto (pc := 1319) (tgt := 1323) hx hb dL_law_1319 (by decide) ?_
      refine cc_1323 C0 hK hF u hfX hl (1 : Int32) (by rw [tI_1]; decide) hP hD hS (fun r_34 w_35 H locs hf_36 ho_37 he_38 he_39 he_40 he_41 he_42 hP hD hS => ?_)
      have rr_34 := n_rngL r_34
      refine lv_pop2_2 (pc := 1326) hx hb dL_law_1326 rfl ?_
      refine lv_aload_n (pc := 1327) hx hb dL_law_1327 rfl (lv_at hl 1 rfl) ?_
      refine lv_aload_n (pc := 1328) hx hb dL_law_1328 rfl (lv_at hl 3 rfl) ?_
      refine lv_iload_n (pc := 1329) hx hb dL_law_1329 rfl (lv_at hl 0 rfl) ?_
      refine lv_iconst (pc := 1330) (v := 1) hx hb dL_law_1330 (by decide) ?_
      refine b_iadd (pc := 1331) hx hb rfl tI_1 (by omega) (by omega) dL_law_1331 (fun x_43 ex_43 => ?_)
      refine va_sld (pc := 1332) hx hb hX hbl hbA hS (n_in rfl (by omega) (by omega)) dL_law_1332 ?_
      as_aux_lemma =>
        refine lv_topi (fun x_44 ex_44 => ?_)
        have rx_44 := n_rng x_44
        have tx_44 := congrArg Int32.toInt (e_ld (f := xs) (show x_44 = xs (x_43.toInt).toNat from ex_44) (show x_43.toInt = (i.toInt) + (1) by omega))
        refine b_if_eq (pc := 1333) (tgt := 1340) hx hb rfl  dL_law_1333 (by decide) (fun c_45 => ?_) (fun c_45 => ?_)
        ·
          as_aux_lemma =>
            refine lv_iconst (pc := 1340) (v := 0) hx hb dL_law_1340 (by decide) ?_
            have hP : va_P D gcl (wM cB cC cI cJ v ++ wX cB cC cI cJ w_35) H := va_P.swap (a := []) (b := wX cB cC cI cJ w_35) (c := wM cB cC cI cJ v) hP
            have hD : va_D (fun q : Nat => s.heap.size ≤ q) (wM cB cC cI cJ v ++ wX cB cC cI cJ w_35) := va_D.swap (a := []) (b := wX cB cC cI cJ w_35) (c := wM cB cC cI cJ v) hD
            refine cc_1341 C0 hK hF v hfM hl (0 : Int32) (by rw [tI_0]; decide) hP hD hS (fun r_46 w_47 H locs hf_48 ho_49 he_50 he_51 he_52 he_53 he_54 hP hD hS => ?_)
            have rr_46 := n_rngL r_46
            refine lv_pop2_2 (pc := 1344) hx hb dL_law_1344 rfl ?_
            refine lv_goto (pc := 1345) (tgt := 1519) hx hb dL_law_1345 (by decide) ?_
            exact kk w_35 w_47 H locs ls hf_36 hf_48 ⟨te_cut heq.1 he_39 he_51 (by omega) (by omega), by omega, plE_keep heq.2.2 he_41 he_53 (by omega) (by omega) (by omega)⟩ ho_37 ho_49 (va_P.swap (a := []) (b := wM cB cC cI cJ w_47) (c := wX cB cC cI cJ w_35) hP) (va_D.swap (a := []) (b := wM cB cC cI cJ w_47) (c := wX cB cC cI cJ w_35) hD) hS hl
        ·
          as_aux_lemma =>
            refine lv_iconst (pc := 1336) (v := 1) hx hb dL_law_1336 (by decide) ?_
            refine lv_goto (pc := 1337) (tgt := 1341) hx hb dL_law_1337 (by decide) ?_
            have hP : va_P D gcl (wM cB cC cI cJ v ++ wX cB cC cI cJ w_35) H := va_P.swap (a := []) (b := wX cB cC cI cJ w_35) (c := wM cB cC cI cJ v) hP
            have hD : va_D (fun q : Nat => s.heap.size ≤ q) (wM cB cC cI cJ v ++ wX cB cC cI cJ w_35) := va_D.swap (a := []) (b := wX cB cC cI cJ w_35) (c := wM cB cC cI cJ v) hD
            refine cc_1341 C0 hK hF v hfM hl (1 : Int32) (by rw [tI_1]; decide) hP hD hS (fun r_55 w_56 H locs hf_57 ho_58 he_59 he_60 he_61 he_62 he_63 hP hD hS => ?_)
            have rr_55 := n_rngL r_55
            refine lv_pop2_2 (pc := 1344) hx hb dL_law_1344 rfl ?_
            refine lv_goto (pc := 1345) (tgt := 1519) hx hb dL_law_1345 (by decide) ?_
            exact kk w_35 w_56 H locs ls hf_36 hf_57 ⟨te_cut heq.1 he_39 he_60 (by omega) (by omega), by omega, plE_keep heq.2.2 he_41 he_62 (by omega) (by omega) (by omega)⟩ ho_37 ho_58 (va_P.swap (a := []) (b := wM cB cC cI cJ w_56) (c := wX cB cC cI cJ w_35) hP) (va_D.swap (a := []) (b := wM cB cC cI cJ w_56) (c := wX cB cC cI cJ w_35) hD) hS hl
set_option maxHeartbeats 8000000 in
set_option maxRecDepth 100000 in
theorem lo_38 {p : Program} {l : Launch} {e : Env} {s : State} {m : MethodId} {below : List Frame} {meth : Method} {c : Code} {D : va_G} {cB cC cI cJ : ClassId} {b L : Nat} {xs : Nat → Int32} {adK adV : Nat → Nat} (C0 : lw_At p s m meth c b L xs) (hLN : L ≤ 3072) (hK : va_K D gcl [(cB, .byte), (cC, .char), (cI, .int), (cJ, .long)] s) (hF : sF adK adV (fun q : Nat => s.heap.size ≤ q) s s.heap) (o1 o2 : Nat) (i : Int32) (hi0 : 0 ≤ i.toInt) (hi1 : i.toInt + 6 ≤ (L : Int)) (u v : gEx) (hfX : fX u) (hfM : fM v) (heq : tEq (u.2.1 4) (u.2.2.2.1 7).toInt (v.2.1 0) (v.2.2.2.1 0).toInt ∧ ((u.2.2.2.1 5).toInt = (v.2.2.2.1 6).toInt ∧ (u.2.2.2.1 6).toInt = (v.2.2.2.1 7).toInt ∧ (u.2.2.2.1 15).toInt = (v.2.2.2.1 8).toInt ∧ (u.2.2.2.1 16).toInt = (v.2.2.2.1 9).toInt ∧ (u.2.2.2.1 17).toInt = (v.2.2.2.1 10).toInt ∧ (u.2.2.2.1 18).toInt = (v.2.2.2.1 11).toInt ∧ (u.2.2.2.1 19).toInt = (v.2.2.2.1 12).toInt ∧ (u.2.2.2.1 43).toInt = ((v.2.1 21) 0).toInt ∧ (u.2.2.2.1 24).toInt = (v.2.2.2.1 21).toInt ∧ (u.2.2.2.1 25).toInt = (v.2.2.2.1 22).toInt ∧ (u.2.2.2.1 26).toInt = (v.2.2.2.1 20).toInt) ∧ plE (u.2.1 31) (u.2.1 15) (u.2.2.2.1 20).toInt (v.2.1 17) (v.2.1 18) (v.2.2.2.1 13).toInt (u.2.2.2.1 19).toInt (u.2.2.2.1 16).toInt (u.2.2.2.1 17).toInt) (hu0 : u.1 0 = o1) (hv0 : v.1 0 = o2) (H : Heap) (locs : List Loc) (ls : Array Slot) (hP : va_P D gcl (wX cB cC cI cJ u ++ wM cB cC cI cJ v) H) (hD : va_D (fun q : Nat => s.heap.size ≤ q) (wX cB cC cI cJ u ++ wM cB cC cI cJ v)) (hS : va_S (fun q : Nat => s.heap.size ≤ q) s.heap H locs) (hl : lv_has ls 4 [(3, .int i), (2, .ref o2), (1, .ref o1), (0, .ref b)])
    (kk : ∀ (u v : gEx) (H : Heap) (locs : List Loc) (ls : Array Slot), fX u → fM v → tEq (u.2.1 4) (u.2.2.2.1 7).toInt (v.2.1 0) (v.2.2.2.1 0).toInt ∧ ((u.2.2.2.1 5).toInt = (v.2.2.2.1 6).toInt ∧ (u.2.2.2.1 6).toInt = (v.2.2.2.1 7).toInt ∧ (u.2.2.2.1 15).toInt = (v.2.2.2.1 8).toInt ∧ (u.2.2.2.1 16).toInt = (v.2.2.2.1 9).toInt ∧ (u.2.2.2.1 17).toInt = (v.2.2.2.1 10).toInt ∧ (u.2.2.2.1 18).toInt = (v.2.2.2.1 11).toInt ∧ (u.2.2.2.1 19).toInt = (v.2.2.2.1 12).toInt ∧ (u.2.2.2.1 43).toInt = ((v.2.1 21) 0).toInt ∧ (u.2.2.2.1 24).toInt = (v.2.2.2.1 21).toInt ∧ (u.2.2.2.1 25).toInt = (v.2.2.2.1 22).toInt ∧ (u.2.2.2.1 26).toInt = (v.2.2.2.1 20).toInt) ∧ plE (u.2.1 31) (u.2.1 15) (u.2.2.2.1 20).toInt (v.2.1 17) (v.2.1 18) (v.2.2.2.1 13).toInt (u.2.2.2.1 19).toInt (u.2.2.2.1 16).toInt (u.2.2.2.1 17).toInt → u.1 0 = o1 → v.1 0 = o2 → va_P D gcl (wX cB cC cI cJ u ++ wM cB cC cI cJ v) H → va_D (fun q : Nat => s.heap.size ≤ q) (wX cB cC cI cJ u ++ wM cB cC cI cJ v) → va_S (fun q : Nat => s.heap.size ≤ q) s.heap H locs → lv_has ls 4 [(3, .int i), (2, .ref o2), (1, .ref o1), (0, .ref b)] → W p l e room_1 s m #[Value.ref b] below meth c H locs 126 15724 (lw_Z below #[Value.ref b] s) (F0 m 1519 ls [])) : W p l e room_1 s m #[Value.ref b] below meth c H locs 126 15724 (lw_Z below #[Value.ref b] s) (F0 m 1348 ls []) := by
  subst hu0
  subst hv0
  have hlen := heq.1.1
  have hreg := heq.2.1
  obtain ⟨hx, hb, hr, hml, hown, hts0, hX, hbl, hlocks, hgv⟩ := id C0
  have hts := g_tbl hts0
  have hbA : ¬ (fun q : Nat => s.heap.size ≤ q) b := Nat.not_le.mpr hbl
  refine lv_aload_n (pc := 1348) hx hb dL_law_1348 rfl (lv_at hl 2 rfl) ?_
  refine cc_1349 C0 hK hF u hfX hl  hP hD hS (fun r_1 w_2 H locs hf_3 ho_4 he_5 he_6 he_7 he_8 he_9 hP hD hS => ?_)
  have rr_1 := n_rngL r_1
  refine lv_pop2_2 (pc := 1352) hx hb dL_law_1352 rfl ?_
  refine lv_aload_n (pc := 1353) hx hb dL_law_1353 rfl (lv_at hl 1 rfl) ?_
  have hP : va_P D gcl (wM cB cC cI cJ v ++ wX cB cC cI cJ w_2) H := va_P.swap (a := []) (b := wX cB cC cI cJ w_2) (c := wM cB cC cI cJ v) hP
  have hD : va_D (fun q : Nat => s.heap.size ≤ q) (wM cB cC cI cJ v ++ wX cB cC cI cJ w_2) := va_D.swap (a := []) (b := wX cB cC cI cJ w_2) (c := wM cB cC cI cJ v) hD
  refine cc_1354 C0 hK hF v hfM hl  hP hD hS (fun r_10 w_11 H locs hf_12 ho_13 he_14 he_15 he_16 he_17 he_18 hP hD hS => ?_)
  have rr_10 := n_rngL r_10
  refine lv_pop2_2 (pc := 1357) hx hb dL_law_1357 rfl ?_
  refine lv_goto (pc := 1358) (tgt := 1519) hx hb dL_law_1358 (by decide) ?_
  exact kk w_2 w_11 H locs ls hf_3 hf_12 ⟨te_cut heq.1 he_6 he_15 (by omega) (by omega), by omega, plE_keep heq.2.2 he_8 he_17 (by omega) (by omega) (by omega)⟩ ho_4 ho_13 (va_P.swap (a := []) (b := wM cB cC cI cJ w_11) (c := wX cB cC cI cJ w_2) hP) (va_D.swap (a := []) (b := wM cB cC cI cJ w_11) (c := wX cB cC cI cJ w_2) hD) hS hl
set_option maxHeartbeats 8000000 in
set_option maxRecDepth 100000 in
theorem lo_39 {p : Program} {l : Launch} {e : Env} {s : State} {m : MethodId} {below : List Frame} {meth : Method} {c : Code} {D : va_G} {cB cC cI cJ : ClassId} {b L : Nat} {xs : Nat → Int32} {adK adV : Nat → Nat} (C0 : lw_At p s m meth c b L xs) (hLN : L ≤ 3072) (hK : va_K D gcl [(cB, .byte), (cC, .char), (cI, .int), (cJ, .long)] s) (hF : sF adK adV (fun q : Nat => s.heap.size ≤ q) s s.heap) (o1 o2 : Nat) (i : Int32) (hi0 : 0 ≤ i.toInt) (hi1 : i.toInt + 6 ≤ (L : Int)) (u v : gEx) (hfX : fX u) (hfM : fM v) (heq : tEq (u.2.1 4) (u.2.2.2.1 7).toInt (v.2.1 0) (v.2.2.2.1 0).toInt ∧ ((u.2.2.2.1 5).toInt = (v.2.2.2.1 6).toInt ∧ (u.2.2.2.1 6).toInt = (v.2.2.2.1 7).toInt ∧ (u.2.2.2.1 15).toInt = (v.2.2.2.1 8).toInt ∧ (u.2.2.2.1 16).toInt = (v.2.2.2.1 9).toInt ∧ (u.2.2.2.1 17).toInt = (v.2.2.2.1 10).toInt ∧ (u.2.2.2.1 18).toInt = (v.2.2.2.1 11).toInt ∧ (u.2.2.2.1 19).toInt = (v.2.2.2.1 12).toInt ∧ (u.2.2.2.1 43).toInt = ((v.2.1 21) 0).toInt ∧ (u.2.2.2.1 24).toInt = (v.2.2.2.1 21).toInt ∧ (u.2.2.2.1 25).toInt = (v.2.2.2.1 22).toInt ∧ (u.2.2.2.1 26).toInt = (v.2.2.2.1 20).toInt) ∧ plE (u.2.1 31) (u.2.1 15) (u.2.2.2.1 20).toInt (v.2.1 17) (v.2.1 18) (v.2.2.2.1 13).toInt (u.2.2.2.1 19).toInt (u.2.2.2.1 16).toInt (u.2.2.2.1 17).toInt) (hu0 : u.1 0 = o1) (hv0 : v.1 0 = o2) (H : Heap) (locs : List Loc) (ls : Array Slot) (hP : va_P D gcl (wX cB cC cI cJ u ++ wM cB cC cI cJ v) H) (hD : va_D (fun q : Nat => s.heap.size ≤ q) (wX cB cC cI cJ u ++ wM cB cC cI cJ v)) (hS : va_S (fun q : Nat => s.heap.size ≤ q) s.heap H locs) (hl : lv_has ls 4 [(3, .int i), (2, .ref o2), (1, .ref o1), (0, .ref b)])
    (kk : ∀ (u v : gEx) (H : Heap) (locs : List Loc) (ls : Array Slot), fX u → fM v → tEq (u.2.1 4) (u.2.2.2.1 7).toInt (v.2.1 0) (v.2.2.2.1 0).toInt ∧ ((u.2.2.2.1 5).toInt = (v.2.2.2.1 6).toInt ∧ (u.2.2.2.1 6).toInt = (v.2.2.2.1 7).toInt ∧ (u.2.2.2.1 15).toInt = (v.2.2.2.1 8).toInt ∧ (u.2.2.2.1 16).toInt = (v.2.2.2.1 9).toInt ∧ (u.2.2.2.1 17).toInt = (v.2.2.2.1 10).toInt ∧ (u.2.2.2.1 18).toInt = (v.2.2.2.1 11).toInt ∧ (u.2.2.2.1 19).toInt = (v.2.2.2.1 12).toInt ∧ (u.2.2.2.1 43).toInt = ((v.2.1 21) 0).toInt ∧ (u.2.2.2.1 24).toInt = (v.2.2.2.1 21).toInt ∧ (u.2.2.2.1 25).toInt = (v.2.2.2.1 22).toInt ∧ (u.2.2.2.1 26).toInt = (v.2.2.2.1 20).toInt) ∧ plE (u.2.1 31) (u.2.1 15) (u.2.2.2.1 20).toInt (v.2.1 17) (v.2.1 18) (v.2.2.2.1 13).toInt (u.2.2.2.1 19).toInt (u.2.2.2.1 16).toInt (u.2.2.2.1 17).toInt → u.1 0 = o1 → v.1 0 = o2 → va_P D gcl (wX cB cC cI cJ u ++ wM cB cC cI cJ v) H → va_D (fun q : Nat => s.heap.size ≤ q) (wX cB cC cI cJ u ++ wM cB cC cI cJ v) → va_S (fun q : Nat => s.heap.size ≤ q) s.heap H locs → lv_has ls 4 [(3, .int i), (2, .ref o2), (1, .ref o1), (0, .ref b)] → W p l e room_1 s m #[Value.ref b] below meth c H locs 126 15724 (lw_Z below #[Value.ref b] s) (F0 m 1519 ls [])) : W p l e room_1 s m #[Value.ref b] below meth c H locs 126 15724 (lw_Z below #[Value.ref b] s) (F0 m 1361 ls []) := by
  subst hu0
  subst hv0
  have hlen := heq.1.1
  have hreg := heq.2.1
  obtain ⟨hx, hb, hr, hml, hown, hts0, hX, hbl, hlocks, hgv⟩ := id C0
  have hts := g_tbl hts0
  have hbA : ¬ (fun q : Nat => s.heap.size ≤ q) b := Nat.not_le.mpr hbl
  refine lv_aload_n (pc := 1361) hx hb dL_law_1361 rfl (lv_at hl 2 rfl) ?_
  refine lv_aload_n (pc := 1362) hx hb dL_law_1362 rfl (lv_at hl 3 rfl) ?_
  refine lv_iload_n (pc := 1363) hx hb dL_law_1363 rfl (lv_at hl 0 rfl) ?_
  refine lv_iconst (pc := 1364) (v := 1) hx hb dL_law_1364 (by decide) ?_
  refine b_iadd (pc := 1365) hx hb rfl tI_1 (by omega) (by omega) dL_law_1365 (fun x_1 ex_1 => ?_)
  refine va_sld (pc := 1366) hx hb hX hbl hbA hS (n_in rfl (by omega) (by omega)) dL_law_1366 ?_
  refine lv_topi (fun x_2 ex_2 => ?_)
  have rx_2 := n_rng x_2
  have tx_2 := congrArg Int32.toInt (e_ld (f := xs) (show x_2 = xs (x_1.toInt).toNat from ex_2) (show x_1.toInt = (i.toInt) + (1) by omega))
  refine cc_1367 C0 hK hF u hfX hl x_2 hP hD hS (fun r_3 w_4 H locs hf_5 ho_6 he_7 he_8 he_9 he_10 he_11 hP hD hS => ?_)
  have rr_3 := n_rng r_3
  refine lv_pop (pc := 1370) hx hb dL_law_1370 rfl ?_
  refine lv_aload_n (pc := 1371) hx hb dL_law_1371 rfl (lv_at hl 1 rfl) ?_
  refine lv_aload_n (pc := 1372) hx hb dL_law_1372 rfl (lv_at hl 3 rfl) ?_
  refine lv_iload_n (pc := 1373) hx hb dL_law_1373 rfl (lv_at hl 0 rfl) ?_
  refine lv_iconst (pc := 1374) (v := 1) hx hb dL_law_1374 (by decide) ?_
  refine b_iadd (pc := 1375) hx hb rfl tI_1 (by omega) (by omega) dL_law_1375 (fun x_12 ex_12 => ?_)
  refine va_sld (pc := 1376) hx hb hX hbl hbA hS (n_in rfl (by omega) (by omega)) dL_law_1376 ?_
  refine lv_topi (fun x_13 ex_13 => ?_)
  have rx_13 := n_rng x_13
  have tx_13 := congrArg Int32.toInt (e_ld (f := xs) (show x_13 = xs (x_12.toInt).toNat from ex_13) (show x_12.toInt = (i.toInt) + (1) by omega))
  have hP : va_P D gcl (wM cB cC cI cJ v ++ wX cB cC cI cJ w_4) H := va_P.swap (a := []) (b := wX cB cC cI cJ w_4) (c := wM cB cC cI cJ v) hP
  have hD : va_D (fun q : Nat => s.heap.size ≤ q) (wM cB cC cI cJ v ++ wX cB cC cI cJ w_4) := va_D.swap (a := []) (b := wX cB cC cI cJ w_4) (c := wM cB cC cI cJ v) hD
  refine cc_1377 C0 hK hF v hfM hl x_13 hP hD hS (fun r_14 w_15 H locs hf_16 ho_17 he_18 he_19 he_20 he_21 he_22 hP hD hS => ?_)
  have rr_14 := n_rng r_14
  refine lv_pop (pc := 1380) hx hb dL_law_1380 rfl ?_
  refine lv_goto (pc := 1381) (tgt := 1519) hx hb dL_law_1381 (by decide) ?_
  exact kk w_4 w_15 H locs ls hf_5 hf_16 ⟨te_cut heq.1 he_8 he_19 (by omega) (by omega), by omega, plE_keep heq.2.2 he_10 he_21 (by omega) (by omega) (by omega)⟩ ho_6 ho_17 (va_P.swap (a := []) (b := wM cB cC cI cJ w_15) (c := wX cB cC cI cJ w_4) hP) (va_D.swap (a := []) (b := wM cB cC cI cJ w_15) (c := wX cB cC cI cJ w_4) hD) hS hl
set_option maxHeartbeats 8000000 in
set_option maxRecDepth 100000 in
theorem lo_40 {p : Program} {l : Launch} {e : Env} {s : State} {m : MethodId} {below : List Frame} {meth : Method} {c : Code} {D : va_G} {cB cC cI cJ : ClassId} {b L : Nat} {xs : Nat → Int32} {adK adV : Nat → Nat} (C0 : lw_At p s m meth c b L xs) (hLN : L ≤ 3072) (hK : va_K D gcl [(cB, .byte), (cC, .char), (cI, .int), (cJ, .long)] s) (hF : sF adK adV (fun q : Nat => s.heap.size ≤ q) s s.heap) (o1 o2 : Nat) (i : Int32) (hi0 : 0 ≤ i.toInt) (hi1 : i.toInt + 6 ≤ (L : Int)) (u v : gEx) (hfX : fX u) (hfM : fM v) (heq : tEq (u.2.1 4) (u.2.2.2.1 7).toInt (v.2.1 0) (v.2.2.2.1 0).toInt ∧ ((u.2.2.2.1 5).toInt = (v.2.2.2.1 6).toInt ∧ (u.2.2.2.1 6).toInt = (v.2.2.2.1 7).toInt ∧ (u.2.2.2.1 15).toInt = (v.2.2.2.1 8).toInt ∧ (u.2.2.2.1 16).toInt = (v.2.2.2.1 9).toInt ∧ (u.2.2.2.1 17).toInt = (v.2.2.2.1 10).toInt ∧ (u.2.2.2.1 18).toInt = (v.2.2.2.1 11).toInt ∧ (u.2.2.2.1 19).toInt = (v.2.2.2.1 12).toInt ∧ (u.2.2.2.1 43).toInt = ((v.2.1 21) 0).toInt ∧ (u.2.2.2.1 24).toInt = (v.2.2.2.1 21).toInt ∧ (u.2.2.2.1 25).toInt = (v.2.2.2.1 22).toInt ∧ (u.2.2.2.1 26).toInt = (v.2.2.2.1 20).toInt) ∧ plE (u.2.1 31) (u.2.1 15) (u.2.2.2.1 20).toInt (v.2.1 17) (v.2.1 18) (v.2.2.2.1 13).toInt (u.2.2.2.1 19).toInt (u.2.2.2.1 16).toInt (u.2.2.2.1 17).toInt) (hu0 : u.1 0 = o1) (hv0 : v.1 0 = o2) (H : Heap) (locs : List Loc) (ls : Array Slot) (hP : va_P D gcl (wX cB cC cI cJ u ++ wM cB cC cI cJ v) H) (hD : va_D (fun q : Nat => s.heap.size ≤ q) (wX cB cC cI cJ u ++ wM cB cC cI cJ v)) (hS : va_S (fun q : Nat => s.heap.size ≤ q) s.heap H locs) (hl : lv_has ls 4 [(3, .int i), (2, .ref o2), (1, .ref o1), (0, .ref b)])
    (kk : ∀ (u v : gEx) (H : Heap) (locs : List Loc) (ls : Array Slot), fX u → fM v → tEq (u.2.1 4) (u.2.2.2.1 7).toInt (v.2.1 0) (v.2.2.2.1 0).toInt ∧ ((u.2.2.2.1 5).toInt = (v.2.2.2.1 6).toInt ∧ (u.2.2.2.1 6).toInt = (v.2.2.2.1 7).toInt ∧ (u.2.2.2.1 15).toInt = (v.2.2.2.1 8).toInt ∧ (u.2.2.2.1 16).toInt = (v.2.2.2.1 9).toInt ∧ (u.2.2.2.1 17).toInt = (v.2.2.2.1 10).toInt ∧ (u.2.2.2.1 18).toInt = (v.2.2.2.1 11).toInt ∧ (u.2.2.2.1 19).toInt = (v.2.2.2.1 12).toInt ∧ (u.2.2.2.1 43).toInt = ((v.2.1 21) 0).toInt ∧ (u.2.2.2.1 24).toInt = (v.2.2.2.1 21).toInt ∧ (u.2.2.2.1 25).toInt = (v.2.2.2.1 22).toInt ∧ (u.2.2.2.1 26).toInt = (v.2.2.2.1 20).toInt) ∧ plE (u.2.1 31) (u.2.1 15) (u.2.2.2.1 20).toInt (v.2.1 17) (v.2.1 18) (v.2.2.2.1 13).toInt (u.2.2.2.1 19).toInt (u.2.2.2.1 16).toInt (u.2.2.2.1 17).toInt → u.1 0 = o1 → v.1 0 = o2 → va_P D gcl (wX cB cC cI cJ u ++ wM cB cC cI cJ v) H → va_D (fun q : Nat => s.heap.size ≤ q) (wX cB cC cI cJ u ++ wM cB cC cI cJ v) → va_S (fun q : Nat => s.heap.size ≤ q) s.heap H locs → lv_has ls 4 [(3, .int i), (2, .ref o2), (1, .ref o1), (0, .ref b)] → W p l e room_1 s m #[Value.ref b] below meth c H locs 126 15724 (lw_Z below #[Value.ref b] s) (F0 m 1519 ls [])) : W p l e room_1 s m #[Value.ref b] below meth c H locs 126 15724 (lw_Z below #[Value.ref b] s) (F0 m 1384 ls []) := by
  subst hu0
  subst hv0
  have hlen := heq.1.1
  have hreg := heq.2.1
  obtain ⟨hx, hb, hr, hml, hown, hts0, hX, hbl, hlocks, hgv⟩ := id C0
  have hts := g_tbl hts0
  have hbA : ¬ (fun q : Nat => s.heap.size ≤ q) b := Nat.not_le.mpr hbl
  refine lv_aload_n (pc := 1384) hx hb dL_law_1384 rfl (lv_at hl 2 rfl) ?_
  refine lv_aload_n (pc := 1385) hx hb dL_law_1385 rfl (lv_at hl 3 rfl) ?_
  refine lv_iload_n (pc := 1386) hx hb dL_law_1386 rfl (lv_at hl 0 rfl) ?_
  refine lv_iconst (pc := 1387) (v := 1) hx hb dL_law_1387 (by decide) ?_
  refine b_iadd (pc := 1388) hx hb rfl tI_1 (by omega) (by omega) dL_law_1388 (fun x_1 ex_1 => ?_)
  refine va_sld (pc := 1389) hx hb hX hbl hbA hS (n_in rfl (by omega) (by omega)) dL_law_1389 ?_
  refine lv_topi (fun x_2 ex_2 => ?_)
  have rx_2 := n_rng x_2
  have tx_2 := congrArg Int32.toInt (e_ld (f := xs) (show x_2 = xs (x_1.toInt).toNat from ex_2) (show x_1.toInt = (i.toInt) + (1) by omega))
  refine cc_1390 C0 hK hF u hfX hl x_2 hP hD hS (fun r_3 w_4 H locs hf_5 ho_6 he_7 he_8 he_9 he_10 he_11 hP hD hS => ?_)
  have rr_3 := n_rng r_3
  refine lv_pop (pc := 1393) hx hb dL_law_1393 rfl ?_
  refine lv_aload_n (pc := 1394) hx hb dL_law_1394 rfl (lv_at hl 1 rfl) ?_
  refine lv_aload_n (pc := 1395) hx hb dL_law_1395 rfl (lv_at hl 3 rfl) ?_
  refine lv_iload_n (pc := 1396) hx hb dL_law_1396 rfl (lv_at hl 0 rfl) ?_
  refine lv_iconst (pc := 1397) (v := 1) hx hb dL_law_1397 (by decide) ?_
  refine b_iadd (pc := 1398) hx hb rfl tI_1 (by omega) (by omega) dL_law_1398 (fun x_12 ex_12 => ?_)
  refine va_sld (pc := 1399) hx hb hX hbl hbA hS (n_in rfl (by omega) (by omega)) dL_law_1399 ?_
  refine lv_topi (fun x_13 ex_13 => ?_)
  have rx_13 := n_rng x_13
  have tx_13 := congrArg Int32.toInt (e_ld (f := xs) (show x_13 = xs (x_12.toInt).toNat from ex_13) (show x_12.toInt = (i.toInt) + (1) by omega))
  have hP : va_P D gcl (wM cB cC cI cJ v ++ wX cB cC cI cJ w_4) H := va_P.swap (a := []) (b := wX cB cC cI cJ w_4) (c := wM cB cC cI cJ v) hP
  have hD : va_D (fun q : Nat => s.heap.size ≤ q) (wM cB cC cI cJ v ++ wX cB cC cI cJ w_4) := va_D.swap (a := []) (b := wX cB cC cI cJ w_4) (c := wM cB cC cI cJ v) hD
  refine cc_1400 C0 hK hF v hfM hl x_13 hP hD hS (fun r_14 w_15 H locs hf_16 ho_17 he_18 he_19 he_20 he_21 he_22 hP hD hS => ?_)
  have rr_14 := n_rng r_14
  refine lv_pop (pc := 1403) hx hb dL_law_1403 rfl ?_
  refine lv_goto (pc := 1404) (tgt := 1519) hx hb dL_law_1404 (by decide) ?_
  exact kk w_4 w_15 H locs ls hf_5 hf_16 ⟨te_cut heq.1 he_8 he_19 (by omega) (by omega), by omega, plE_keep heq.2.2 he_10 he_21 (by omega) (by omega) (by omega)⟩ ho_6 ho_17 (va_P.swap (a := []) (b := wM cB cC cI cJ w_15) (c := wX cB cC cI cJ w_4) hP) (va_D.swap (a := []) (b := wM cB cC cI cJ w_15) (c := wX cB cC cI cJ w_4) hD) hS hl
set_option maxHeartbeats 8000000 in
set_option maxRecDepth 100000 in
theorem lo_41 {p : Program} {l : Launch} {e : Env} {s : State} {m : MethodId} {below : List Frame} {meth : Method} {c : Code} {D : va_G} {cB cC cI cJ : ClassId} {b L : Nat} {xs : Nat → Int32} {adK adV : Nat → Nat} (C0 : lw_At p s m meth c b L xs) (hLN : L ≤ 3072) (hK : va_K D gcl [(cB, .byte), (cC, .char), (cI, .int), (cJ, .long)] s) (hF : sF adK adV (fun q : Nat => s.heap.size ≤ q) s s.heap) (o1 o2 : Nat) (i : Int32) (hi0 : 0 ≤ i.toInt) (hi1 : i.toInt + 6 ≤ (L : Int)) (u v : gEx) (hfX : fX u) (hfM : fM v) (heq : tEq (u.2.1 4) (u.2.2.2.1 7).toInt (v.2.1 0) (v.2.2.2.1 0).toInt ∧ ((u.2.2.2.1 5).toInt = (v.2.2.2.1 6).toInt ∧ (u.2.2.2.1 6).toInt = (v.2.2.2.1 7).toInt ∧ (u.2.2.2.1 15).toInt = (v.2.2.2.1 8).toInt ∧ (u.2.2.2.1 16).toInt = (v.2.2.2.1 9).toInt ∧ (u.2.2.2.1 17).toInt = (v.2.2.2.1 10).toInt ∧ (u.2.2.2.1 18).toInt = (v.2.2.2.1 11).toInt ∧ (u.2.2.2.1 19).toInt = (v.2.2.2.1 12).toInt ∧ (u.2.2.2.1 43).toInt = ((v.2.1 21) 0).toInt ∧ (u.2.2.2.1 24).toInt = (v.2.2.2.1 21).toInt ∧ (u.2.2.2.1 25).toInt = (v.2.2.2.1 22).toInt ∧ (u.2.2.2.1 26).toInt = (v.2.2.2.1 20).toInt) ∧ plE (u.2.1 31) (u.2.1 15) (u.2.2.2.1 20).toInt (v.2.1 17) (v.2.1 18) (v.2.2.2.1 13).toInt (u.2.2.2.1 19).toInt (u.2.2.2.1 16).toInt (u.2.2.2.1 17).toInt) (hu0 : u.1 0 = o1) (hv0 : v.1 0 = o2) (H : Heap) (locs : List Loc) (ls : Array Slot) (hP : va_P D gcl (wX cB cC cI cJ u ++ wM cB cC cI cJ v) H) (hD : va_D (fun q : Nat => s.heap.size ≤ q) (wX cB cC cI cJ u ++ wM cB cC cI cJ v)) (hS : va_S (fun q : Nat => s.heap.size ≤ q) s.heap H locs) (hl : lv_has ls 4 [(3, .int i), (2, .ref o2), (1, .ref o1), (0, .ref b)])
    (kk : ∀ (u v : gEx) (H : Heap) (locs : List Loc) (ls : Array Slot), fX u → fM v → tEq (u.2.1 4) (u.2.2.2.1 7).toInt (v.2.1 0) (v.2.2.2.1 0).toInt ∧ ((u.2.2.2.1 5).toInt = (v.2.2.2.1 6).toInt ∧ (u.2.2.2.1 6).toInt = (v.2.2.2.1 7).toInt ∧ (u.2.2.2.1 15).toInt = (v.2.2.2.1 8).toInt ∧ (u.2.2.2.1 16).toInt = (v.2.2.2.1 9).toInt ∧ (u.2.2.2.1 17).toInt = (v.2.2.2.1 10).toInt ∧ (u.2.2.2.1 18).toInt = (v.2.2.2.1 11).toInt ∧ (u.2.2.2.1 19).toInt = (v.2.2.2.1 12).toInt ∧ (u.2.2.2.1 43).toInt = ((v.2.1 21) 0).toInt ∧ (u.2.2.2.1 24).toInt = (v.2.2.2.1 21).toInt ∧ (u.2.2.2.1 25).toInt = (v.2.2.2.1 22).toInt ∧ (u.2.2.2.1 26).toInt = (v.2.2.2.1 20).toInt) ∧ plE (u.2.1 31) (u.2.1 15) (u.2.2.2.1 20).toInt (v.2.1 17) (v.2.1 18) (v.2.2.2.1 13).toInt (u.2.2.2.1 19).toInt (u.2.2.2.1 16).toInt (u.2.2.2.1 17).toInt → u.1 0 = o1 → v.1 0 = o2 → va_P D gcl (wX cB cC cI cJ u ++ wM cB cC cI cJ v) H → va_D (fun q : Nat => s.heap.size ≤ q) (wX cB cC cI cJ u ++ wM cB cC cI cJ v) → va_S (fun q : Nat => s.heap.size ≤ q) s.heap H locs → lv_has ls 4 [(3, .int i), (2, .ref o2), (1, .ref o1), (0, .ref b)] → W p l e room_1 s m #[Value.ref b] below meth c H locs 126 15724 (lw_Z below #[Value.ref b] s) (F0 m 1519 ls [])) : W p l e room_1 s m #[Value.ref b] below meth c H locs 126 15724 (lw_Z below #[Value.ref b] s) (F0 m 1407 ls []) := by
  subst hu0
  subst hv0
  have hlen := heq.1.1
  have hreg := heq.2.1
  obtain ⟨hx, hb, hr, hml, hown, hts0, hX, hbl, hlocks, hgv⟩ := id C0
  have hts := g_tbl hts0
  have hbA : ¬ (fun q : Nat => s.heap.size ≤ q) b := Nat.not_le.mpr hbl
  refine lv_aload_n (pc := 1407) hx hb dL_law_1407 rfl (lv_at hl 2 rfl) ?_
  refine lv_aload_n (pc := 1408) hx hb dL_law_1408 rfl (lv_at hl 3 rfl) ?_
  refine lv_iload_n (pc := 1409) hx hb dL_law_1409 rfl (lv_at hl 0 rfl) ?_
  refine lv_iconst (pc := 1410) (v := 1) hx hb dL_law_1410 (by decide) ?_
  refine b_iadd (pc := 1411) hx hb rfl tI_1 (by omega) (by omega) dL_law_1411 (fun x_1 ex_1 => ?_)
  refine va_sld (pc := 1412) hx hb hX hbl hbA hS (n_in rfl (by omega) (by omega)) dL_law_1412 ?_
  refine lv_topi (fun x_2 ex_2 => ?_)
  have rx_2 := n_rng x_2
  have tx_2 := congrArg Int32.toInt (e_ld (f := xs) (show x_2 = xs (x_1.toInt).toNat from ex_2) (show x_1.toInt = (i.toInt) + (1) by omega))
  refine lv_aload_n (pc := 1413) hx hb dL_law_1413 rfl (lv_at hl 3 rfl) ?_
  refine lv_iload_n (pc := 1414) hx hb dL_law_1414 rfl (lv_at hl 0 rfl) ?_
  refine lv_iconst (pc := 1415) (v := 2) hx hb dL_law_1415 (by decide) ?_
  as_aux_lemma =>
    refine b_iadd (pc := 1416) hx hb rfl tI_2 (by omega) (by omega) dL_law_1416 (fun x_3 ex_3 => ?_)
    refine va_sld (pc := 1417) hx hb hX hbl hbA hS (n_in rfl (by omega) (by omega)) dL_law_1417 ?_
    refine lv_topi (fun x_4 ex_4 => ?_)
    have rx_4 := n_rng x_4
    have tx_4 := congrArg Int32.toInt (e_ld (f := xs) (show x_4 = xs (x_3.toInt).toNat from ex_4) (show x_3.toInt = (i.toInt) + (2) by omega))
    refine b_i2l (pc := 1418) hx hb rfl dL_law_1418 (fun y_5 ey_5 => ?_)
    have ry_5 := n_rng x_4
    refine lv_bipush (pc := 1419) (v := 32) hx hb dL_law_1419 (by decide) ?_
    refine lv_lshl (pc := 1421) hx hb dL_law_1421 rfl ?_
    refine lv_topl (fun y_6 _ => ?_)
    have ry_6 := n_rngL y_6
    refine lv_aload_n (pc := 1422) hx hb dL_law_1422 rfl (lv_at hl 3 rfl) ?_
    refine lv_iload_n (pc := 1423) hx hb dL_law_1423 rfl (lv_at hl 0 rfl) ?_
    refine lv_iconst (pc := 1424) (v := 3) hx hb dL_law_1424 (by decide) ?_
    as_aux_lemma =>
      refine b_iadd (pc := 1425) hx hb rfl tI_3 (by omega) (by omega) dL_law_1425 (fun x_7 ex_7 => ?_)
      refine va_sld (pc := 1426) hx hb hX hbl hbA hS (n_in rfl (by omega) (by omega)) dL_law_1426 ?_
      refine lv_topi (fun x_8 ex_8 => ?_)
      have rx_8 := n_rng x_8
      have tx_8 := congrArg Int32.toInt (e_ld (f := xs) (show x_8 = xs (x_7.toInt).toNat from ex_8) (show x_7.toInt = (i.toInt) + (3) by omega))
      refine b_i2l (pc := 1427) hx hb rfl dL_law_1427 (fun y_9 ey_9 => ?_)
      have ry_9 := n_rng x_8
      refine lv_ldc2 (pc := 1428) hx hb hown (hts _ tw_2109) dL_law_1428 ?_
      refine lv_land (pc := 1431) hx hb dL_law_1431 ?_
      refine lv_topl (fun y_10 _ => ?_)
      have ry_10 := n_rngL y_10
      refine lv_lor (pc := 1432) hx hb dL_law_1432 ?_
      refine lv_topl (fun y_11 _ => ?_)
      have ry_11 := n_rngL y_11
      refine cc_1433 C0 hK hF u hfX hl x_2 y_11 hP hD hS (fun r_12 w_13 H locs hf_14 ho_15 he_16 he_17 he_18 he_19 he_20 hP hD hS => ?_)
      have rr_12 := n_rng r_12
      as_aux_lemma =>
        refine lv_pop (pc := 1436) hx hb dL_law_1436 rfl ?_
        refine lv_aload_n (pc := 1437) hx hb dL_law_1437 rfl (lv_at hl 1 rfl) ?_
        refine lv_aload_n (pc := 1438) hx hb dL_law_1438 rfl (lv_at hl 3 rfl) ?_
        refine lv_iload_n (pc := 1439) hx hb dL_law_1439 rfl (lv_at hl 0 rfl) ?_
        refine lv_iconst (pc := 1440) (v := 1) hx hb dL_law_1440 (by decide) ?_
        refine b_iadd (pc := 1441) hx hb rfl tI_1 (by omega) (by omega) dL_law_1441 (fun x_21 ex_21 => ?_)
        refine va_sld (pc := 1442) hx hb hX hbl hbA hS (n_in rfl (by omega) (by omega)) dL_law_1442 ?_
        refine lv_topi (fun x_22 ex_22 => ?_)
        have rx_22 := n_rng x_22
        have tx_22 := congrArg Int32.toInt (e_ld (f := xs) (show x_22 = xs (x_21.toInt).toNat from ex_22) (show x_21.toInt = (i.toInt) + (1) by omega))
        refine lv_aload_n (pc := 1443) hx hb dL_law_1443 rfl (lv_at hl 3 rfl) ?_
        refine lv_iload_n (pc := 1444) hx hb dL_law_1444 rfl (lv_at hl 0 rfl) ?_
        as_aux_lemma =>
          refine lv_iconst (pc := 1445) (v := 2) hx hb dL_law_1445 (by decide) ?_
          refine b_iadd (pc := 1446) hx hb rfl tI_2 (by omega) (by omega) dL_law_1446 (fun x_23 ex_23 => ?_)
          refine va_sld (pc := 1447) hx hb hX hbl hbA hS (n_in rfl (by omega) (by omega)) dL_law_1447 ?_
          refine lv_topi (fun x_24 ex_24 => ?_)
          have rx_24 := n_rng x_24
          have tx_24 := congrArg Int32.toInt (e_ld (f := xs) (show x_24 = xs (x_23.toInt).toNat from ex_24) (show x_23.toInt = (i.toInt) + (2) by omega))
          refine b_i2l (pc := 1448) hx hb rfl dL_law_1448 (fun y_25 ey_25 => ?_)
          have ry_25 := n_rng x_24
          refine lv_bipush (pc := 1449) (v := 32) hx hb dL_law_1449 (by decide) ?_
          refine lv_lshl (pc := 1451) hx hb dL_law_1451 rfl ?_
          refine lv_topl (fun y_26 _ => ?_)
          have ry_26 := n_rngL y_26
          refine lv_aload_n (pc := 1452) hx hb dL_law_1452 rfl (lv_at hl 3 rfl) ?_
          refine lv_iload_n (pc := 1453) hx hb dL_law_1453 rfl (lv_at hl 0 rfl) ?_
          as_aux_lemma =>
            refine lv_iconst (pc := 1454) (v := 3) hx hb dL_law_1454 (by decide) ?_
            refine b_iadd (pc := 1455) hx hb rfl tI_3 (by omega) (by omega) dL_law_1455 (fun x_27 ex_27 => ?_)
            refine va_sld (pc := 1456) hx hb hX hbl hbA hS (n_in rfl (by omega) (by omega)) dL_law_1456 ?_
            refine lv_topi (fun x_28 ex_28 => ?_)
            have rx_28 := n_rng x_28
            have tx_28 := congrArg Int32.toInt (e_ld (f := xs) (show x_28 = xs (x_27.toInt).toNat from ex_28) (show x_27.toInt = (i.toInt) + (3) by omega))
            refine b_i2l (pc := 1457) hx hb rfl dL_law_1457 (fun y_29 ey_29 => ?_)
            have ry_29 := n_rng x_28
            refine lv_ldc2 (pc := 1458) hx hb hown (hts _ tw_2109) dL_law_1458 ?_
            refine lv_land (pc := 1461) hx hb dL_law_1461 ?_
            refine lv_topl (fun y_30 _ => ?_)
            have ry_30 := n_rngL y_30
            refine lv_lor (pc := 1462) hx hb dL_law_1462 ?_
            refine lv_topl (fun y_31 _ => ?_)
            have ry_31 := n_rngL y_31
            have hP : va_P D gcl (wM cB cC cI cJ v ++ wX cB cC cI cJ w_13) H := va_P.swap (a := []) (b := wX cB cC cI cJ w_13) (c := wM cB cC cI cJ v) hP
            have hD : va_D (fun q : Nat => s.heap.size ≤ q) (wM cB cC cI cJ v ++ wX cB cC cI cJ w_13) := va_D.swap (a := []) (b := wX cB cC cI cJ w_13) (c := wM cB cC cI cJ v) hD
            as_aux_lemma =>
              refine cc_1463 C0 hK hF v hfM hl x_22 y_31 hP hD hS (fun r_32 w_33 H locs hf_34 ho_35 he_36 he_37 he_38 he_39 he_40 hP hD hS => ?_)
              have rr_32 := n_rng r_32
              refine lv_pop (pc := 1466) hx hb dL_law_1466 rfl ?_
              refine lv_goto (pc := 1467) (tgt := 1519) hx hb dL_law_1467 (by decide) ?_
              exact kk w_13 w_33 H locs ls hf_14 hf_34 ⟨te_cut heq.1 he_17 he_37 (by omega) (by omega), by omega, plE_keep heq.2.2 he_19 he_39 (by omega) (by omega) (by omega)⟩ ho_15 ho_35 (va_P.swap (a := []) (b := wM cB cC cI cJ w_33) (c := wX cB cC cI cJ w_13) hP) (va_D.swap (a := []) (b := wM cB cC cI cJ w_33) (c := wX cB cC cI cJ w_13) hD) hS hl
set_option maxHeartbeats 8000000 in
set_option maxRecDepth 100000 in
theorem lo_42 {p : Program} {l : Launch} {e : Env} {s : State} {m : MethodId} {below : List Frame} {meth : Method} {c : Code} {D : va_G} {cB cC cI cJ : ClassId} {b L : Nat} {xs : Nat → Int32} {adK adV : Nat → Nat} (C0 : lw_At p s m meth c b L xs) (hLN : L ≤ 3072) (hK : va_K D gcl [(cB, .byte), (cC, .char), (cI, .int), (cJ, .long)] s) (hF : sF adK adV (fun q : Nat => s.heap.size ≤ q) s s.heap) (o1 o2 : Nat) (i : Int32) (hi0 : 0 ≤ i.toInt) (hi1 : i.toInt + 6 ≤ (L : Int)) (u v : gEx) (hfX : fX u) (hfM : fM v) (heq : tEq (u.2.1 4) (u.2.2.2.1 7).toInt (v.2.1 0) (v.2.2.2.1 0).toInt ∧ ((u.2.2.2.1 5).toInt = (v.2.2.2.1 6).toInt ∧ (u.2.2.2.1 6).toInt = (v.2.2.2.1 7).toInt ∧ (u.2.2.2.1 15).toInt = (v.2.2.2.1 8).toInt ∧ (u.2.2.2.1 16).toInt = (v.2.2.2.1 9).toInt ∧ (u.2.2.2.1 17).toInt = (v.2.2.2.1 10).toInt ∧ (u.2.2.2.1 18).toInt = (v.2.2.2.1 11).toInt ∧ (u.2.2.2.1 19).toInt = (v.2.2.2.1 12).toInt ∧ (u.2.2.2.1 43).toInt = ((v.2.1 21) 0).toInt ∧ (u.2.2.2.1 24).toInt = (v.2.2.2.1 21).toInt ∧ (u.2.2.2.1 25).toInt = (v.2.2.2.1 22).toInt ∧ (u.2.2.2.1 26).toInt = (v.2.2.2.1 20).toInt) ∧ plE (u.2.1 31) (u.2.1 15) (u.2.2.2.1 20).toInt (v.2.1 17) (v.2.1 18) (v.2.2.2.1 13).toInt (u.2.2.2.1 19).toInt (u.2.2.2.1 16).toInt (u.2.2.2.1 17).toInt) (hu0 : u.1 0 = o1) (hv0 : v.1 0 = o2) (H : Heap) (locs : List Loc) (ls : Array Slot) (hP : va_P D gcl (wX cB cC cI cJ u ++ wM cB cC cI cJ v) H) (hD : va_D (fun q : Nat => s.heap.size ≤ q) (wX cB cC cI cJ u ++ wM cB cC cI cJ v)) (hS : va_S (fun q : Nat => s.heap.size ≤ q) s.heap H locs) (hl : lv_has ls 4 [(3, .int i), (2, .ref o2), (1, .ref o1), (0, .ref b)])
    (kk : ∀ (u v : gEx) (H : Heap) (locs : List Loc) (ls : Array Slot), fX u → fM v → tEq (u.2.1 4) (u.2.2.2.1 7).toInt (v.2.1 0) (v.2.2.2.1 0).toInt ∧ ((u.2.2.2.1 5).toInt = (v.2.2.2.1 6).toInt ∧ (u.2.2.2.1 6).toInt = (v.2.2.2.1 7).toInt ∧ (u.2.2.2.1 15).toInt = (v.2.2.2.1 8).toInt ∧ (u.2.2.2.1 16).toInt = (v.2.2.2.1 9).toInt ∧ (u.2.2.2.1 17).toInt = (v.2.2.2.1 10).toInt ∧ (u.2.2.2.1 18).toInt = (v.2.2.2.1 11).toInt ∧ (u.2.2.2.1 19).toInt = (v.2.2.2.1 12).toInt ∧ (u.2.2.2.1 43).toInt = ((v.2.1 21) 0).toInt ∧ (u.2.2.2.1 24).toInt = (v.2.2.2.1 21).toInt ∧ (u.2.2.2.1 25).toInt = (v.2.2.2.1 22).toInt ∧ (u.2.2.2.1 26).toInt = (v.2.2.2.1 20).toInt) ∧ plE (u.2.1 31) (u.2.1 15) (u.2.2.2.1 20).toInt (v.2.1 17) (v.2.1 18) (v.2.2.2.1 13).toInt (u.2.2.2.1 19).toInt (u.2.2.2.1 16).toInt (u.2.2.2.1 17).toInt → u.1 0 = o1 → v.1 0 = o2 → va_P D gcl (wX cB cC cI cJ u ++ wM cB cC cI cJ v) H → va_D (fun q : Nat => s.heap.size ≤ q) (wX cB cC cI cJ u ++ wM cB cC cI cJ v) → va_S (fun q : Nat => s.heap.size ≤ q) s.heap H locs → lv_has ls 4 [(3, .int i), (2, .ref o2), (1, .ref o1), (0, .ref b)] → W p l e room_1 s m #[Value.ref b] below meth c H locs 126 15724 (lw_Z below #[Value.ref b] s) (F0 m 1519 ls [])) : W p l e room_1 s m #[Value.ref b] below meth c H locs 126 15724 (lw_Z below #[Value.ref b] s) (F0 m 1470 ls []) := by
  subst hu0
  subst hv0
  have hlen := heq.1.1
  have hreg := heq.2.1
  obtain ⟨hx, hb, hr, hml, hown, hts0, hX, hbl, hlocks, hgv⟩ := id C0
  have hts := g_tbl hts0
  have hbA : ¬ (fun q : Nat => s.heap.size ≤ q) b := Nat.not_le.mpr hbl
  refine lv_aload_n (pc := 1470) hx hb dL_law_1470 rfl (lv_at hl 2 rfl) ?_
  refine cc_1471 C0 hK hF u hfX hl  hP hD hS (fun r_1 w_2 H locs hf_3 ho_4 he_5 he_6 he_7 he_8 he_9 hP hD hS => ?_)
  have rr_1 := n_rng r_1
  refine lv_pop (pc := 1474) hx hb dL_law_1474 rfl ?_
  refine lv_aload_n (pc := 1475) hx hb dL_law_1475 rfl (lv_at hl 1 rfl) ?_
  have hP : va_P D gcl (wM cB cC cI cJ v ++ wX cB cC cI cJ w_2) H := va_P.swap (a := []) (b := wX cB cC cI cJ w_2) (c := wM cB cC cI cJ v) hP
  have hD : va_D (fun q : Nat => s.heap.size ≤ q) (wM cB cC cI cJ v ++ wX cB cC cI cJ w_2) := va_D.swap (a := []) (b := wX cB cC cI cJ w_2) (c := wM cB cC cI cJ v) hD
  refine cc_1476 C0 hK hF v hfM hl  hP hD hS (fun r_10 w_11 H locs hf_12 ho_13 he_14 he_15 he_16 he_17 he_18 hP hD hS => ?_)
  have rr_10 := n_rng r_10
  refine lv_pop (pc := 1479) hx hb dL_law_1479 rfl ?_
  refine lv_goto (pc := 1480) (tgt := 1519) hx hb dL_law_1480 (by decide) ?_
  exact kk w_2 w_11 H locs ls hf_3 hf_12 ⟨te_cut heq.1 he_6 he_15 (by omega) (by omega), by omega, plE_keep heq.2.2 he_8 he_17 (by omega) (by omega) (by omega)⟩ ho_4 ho_13 (va_P.swap (a := []) (b := wM cB cC cI cJ w_11) (c := wX cB cC cI cJ w_2) hP) (va_D.swap (a := []) (b := wM cB cC cI cJ w_11) (c := wX cB cC cI cJ w_2) hD) hS hl
set_option maxHeartbeats 8000000 in
set_option maxRecDepth 100000 in
theorem lo_43 {p : Program} {l : Launch} {e : Env} {s : State} {m : MethodId} {below : List Frame} {meth : Method} {c : Code} {D : va_G} {cB cC cI cJ : ClassId} {b L : Nat} {xs : Nat → Int32} {adK adV : Nat → Nat} (C0 : lw_At p s m meth c b L xs) (hLN : L ≤ 3072) (hK : va_K D gcl [(cB, .byte), (cC, .char), (cI, .int), (cJ, .long)] s) (hF : sF adK adV (fun q : Nat => s.heap.size ≤ q) s s.heap) (o1 o2 : Nat) (i : Int32) (hi0 : 0 ≤ i.toInt) (hi1 : i.toInt + 6 ≤ (L : Int)) (u v : gEx) (hfX : fX u) (hfM : fM v) (heq : tEq (u.2.1 4) (u.2.2.2.1 7).toInt (v.2.1 0) (v.2.2.2.1 0).toInt ∧ ((u.2.2.2.1 5).toInt = (v.2.2.2.1 6).toInt ∧ (u.2.2.2.1 6).toInt = (v.2.2.2.1 7).toInt ∧ (u.2.2.2.1 15).toInt = (v.2.2.2.1 8).toInt ∧ (u.2.2.2.1 16).toInt = (v.2.2.2.1 9).toInt ∧ (u.2.2.2.1 17).toInt = (v.2.2.2.1 10).toInt ∧ (u.2.2.2.1 18).toInt = (v.2.2.2.1 11).toInt ∧ (u.2.2.2.1 19).toInt = (v.2.2.2.1 12).toInt ∧ (u.2.2.2.1 43).toInt = ((v.2.1 21) 0).toInt ∧ (u.2.2.2.1 24).toInt = (v.2.2.2.1 21).toInt ∧ (u.2.2.2.1 25).toInt = (v.2.2.2.1 22).toInt ∧ (u.2.2.2.1 26).toInt = (v.2.2.2.1 20).toInt) ∧ plE (u.2.1 31) (u.2.1 15) (u.2.2.2.1 20).toInt (v.2.1 17) (v.2.1 18) (v.2.2.2.1 13).toInt (u.2.2.2.1 19).toInt (u.2.2.2.1 16).toInt (u.2.2.2.1 17).toInt) (hu0 : u.1 0 = o1) (hv0 : v.1 0 = o2) (H : Heap) (locs : List Loc) (ls : Array Slot) (hP : va_P D gcl (wX cB cC cI cJ u ++ wM cB cC cI cJ v) H) (hD : va_D (fun q : Nat => s.heap.size ≤ q) (wX cB cC cI cJ u ++ wM cB cC cI cJ v)) (hS : va_S (fun q : Nat => s.heap.size ≤ q) s.heap H locs) (hl : lv_has ls 4 [(3, .int i), (2, .ref o2), (1, .ref o1), (0, .ref b)])
    (kk : ∀ (u v : gEx) (H : Heap) (locs : List Loc) (ls : Array Slot), fX u → fM v → tEq (u.2.1 4) (u.2.2.2.1 7).toInt (v.2.1 0) (v.2.2.2.1 0).toInt ∧ ((u.2.2.2.1 5).toInt = (v.2.2.2.1 6).toInt ∧ (u.2.2.2.1 6).toInt = (v.2.2.2.1 7).toInt ∧ (u.2.2.2.1 15).toInt = (v.2.2.2.1 8).toInt ∧ (u.2.2.2.1 16).toInt = (v.2.2.2.1 9).toInt ∧ (u.2.2.2.1 17).toInt = (v.2.2.2.1 10).toInt ∧ (u.2.2.2.1 18).toInt = (v.2.2.2.1 11).toInt ∧ (u.2.2.2.1 19).toInt = (v.2.2.2.1 12).toInt ∧ (u.2.2.2.1 43).toInt = ((v.2.1 21) 0).toInt ∧ (u.2.2.2.1 24).toInt = (v.2.2.2.1 21).toInt ∧ (u.2.2.2.1 25).toInt = (v.2.2.2.1 22).toInt ∧ (u.2.2.2.1 26).toInt = (v.2.2.2.1 20).toInt) ∧ plE (u.2.1 31) (u.2.1 15) (u.2.2.2.1 20).toInt (v.2.1 17) (v.2.1 18) (v.2.2.2.1 13).toInt (u.2.2.2.1 19).toInt (u.2.2.2.1 16).toInt (u.2.2.2.1 17).toInt → u.1 0 = o1 → v.1 0 = o2 → va_P D gcl (wX cB cC cI cJ u ++ wM cB cC cI cJ v) H → va_D (fun q : Nat => s.heap.size ≤ q) (wX cB cC cI cJ u ++ wM cB cC cI cJ v) → va_S (fun q : Nat => s.heap.size ≤ q) s.heap H locs → lv_has ls 4 [(3, .int i), (2, .ref o2), (1, .ref o1), (0, .ref b)] → W p l e room_1 s m #[Value.ref b] below meth c H locs 126 15724 (lw_Z below #[Value.ref b] s) (F0 m 1519 ls [])) : W p l e room_1 s m #[Value.ref b] below meth c H locs 126 15724 (lw_Z below #[Value.ref b] s) (F0 m 1483 ls []) := by
  subst hu0
  subst hv0
  have hlen := heq.1.1
  have hreg := heq.2.1
  obtain ⟨hx, hb, hr, hml, hown, hts0, hX, hbl, hlocks, hgv⟩ := id C0
  have hts := g_tbl hts0
  have hbA : ¬ (fun q : Nat => s.heap.size ≤ q) b := Nat.not_le.mpr hbl
  refine lv_aload_n (pc := 1483) hx hb dL_law_1483 rfl (lv_at hl 2 rfl) ?_
  refine lv_aload_n (pc := 1484) hx hb dL_law_1484 rfl (lv_at hl 3 rfl) ?_
  refine lv_iload_n (pc := 1485) hx hb dL_law_1485 rfl (lv_at hl 0 rfl) ?_
  refine lv_iconst (pc := 1486) (v := 1) hx hb dL_law_1486 (by decide) ?_
  refine b_iadd (pc := 1487) hx hb rfl tI_1 (by omega) (by omega) dL_law_1487 (fun x_1 ex_1 => ?_)
  refine va_sld (pc := 1488) hx hb hX hbl hbA hS (n_in rfl (by omega) (by omega)) dL_law_1488 ?_
  refine lv_topi (fun x_2 ex_2 => ?_)
  have rx_2 := n_rng x_2
  have tx_2 := congrArg Int32.toInt (e_ld (f := xs) (show x_2 = xs (x_1.toInt).toNat from ex_2) (show x_1.toInt = (i.toInt) + (1) by omega))
  refine cc_1489 C0 hK hF u hfX hl x_2 hP hD hS (fun r_3 w_4 H locs hf_5 ho_6 he_7 he_8 he_9 he_10 he_11 hP hD hS => ?_)
  have rr_3 := n_rng r_3
  refine lv_pop (pc := 1492) hx hb dL_law_1492 rfl ?_
  refine lv_aload_n (pc := 1493) hx hb dL_law_1493 rfl (lv_at hl 1 rfl) ?_
  refine lv_aload_n (pc := 1494) hx hb dL_law_1494 rfl (lv_at hl 3 rfl) ?_
  refine lv_iload_n (pc := 1495) hx hb dL_law_1495 rfl (lv_at hl 0 rfl) ?_
  refine lv_iconst (pc := 1496) (v := 1) hx hb dL_law_1496 (by decide) ?_
  refine b_iadd (pc := 1497) hx hb rfl tI_1 (by omega) (by omega) dL_law_1497 (fun x_12 ex_12 => ?_)
  refine va_sld (pc := 1498) hx hb hX hbl hbA hS (n_in rfl (by omega) (by omega)) dL_law_1498 ?_
  refine lv_topi (fun x_13 ex_13 => ?_)
  have rx_13 := n_rng x_13
  have tx_13 := congrArg Int32.toInt (e_ld (f := xs) (show x_13 = xs (x_12.toInt).toNat from ex_13) (show x_12.toInt = (i.toInt) + (1) by omega))
  have hP : va_P D gcl (wM cB cC cI cJ v ++ wX cB cC cI cJ w_4) H := va_P.swap (a := []) (b := wX cB cC cI cJ w_4) (c := wM cB cC cI cJ v) hP
  have hD : va_D (fun q : Nat => s.heap.size ≤ q) (wM cB cC cI cJ v ++ wX cB cC cI cJ w_4) := va_D.swap (a := []) (b := wX cB cC cI cJ w_4) (c := wM cB cC cI cJ v) hD
  refine cc_1499 C0 hK hF v hfM hl x_13 hP hD hS (fun r_14 w_15 H locs hf_16 ho_17 he_18 he_19 he_20 he_21 he_22 hP hD hS => ?_)
  have rr_14 := n_rng r_14
  refine lv_pop (pc := 1502) hx hb dL_law_1502 rfl ?_
  refine lv_goto (pc := 1503) (tgt := 1519) hx hb dL_law_1503 (by decide) ?_
  exact kk w_4 w_15 H locs ls hf_5 hf_16 ⟨te_cut heq.1 he_8 he_19 (by omega) (by omega), by omega, plE_keep heq.2.2 he_10 he_21 (by omega) (by omega) (by omega)⟩ ho_6 ho_17 (va_P.swap (a := []) (b := wM cB cC cI cJ w_15) (c := wX cB cC cI cJ w_4) hP) (va_D.swap (a := []) (b := wM cB cC cI cJ w_15) (c := wX cB cC cI cJ w_4) hD) hS hl
set_option maxHeartbeats 8000000 in
set_option maxRecDepth 100000 in
theorem lo_44 {p : Program} {l : Launch} {e : Env} {s : State} {m : MethodId} {below : List Frame} {meth : Method} {c : Code} {D : va_G} {cB cC cI cJ : ClassId} {b L : Nat} {xs : Nat → Int32} {adK adV : Nat → Nat} (C0 : lw_At p s m meth c b L xs) (hLN : L ≤ 3072) (hK : va_K D gcl [(cB, .byte), (cC, .char), (cI, .int), (cJ, .long)] s) (hF : sF adK adV (fun q : Nat => s.heap.size ≤ q) s s.heap) (o1 o2 : Nat) (i : Int32) (hi0 : 0 ≤ i.toInt) (hi1 : i.toInt + 6 ≤ (L : Int)) (u v : gEx) (hfX : fX u) (hfM : fM v) (heq : tEq (u.2.1 4) (u.2.2.2.1 7).toInt (v.2.1 0) (v.2.2.2.1 0).toInt ∧ ((u.2.2.2.1 5).toInt = (v.2.2.2.1 6).toInt ∧ (u.2.2.2.1 6).toInt = (v.2.2.2.1 7).toInt ∧ (u.2.2.2.1 15).toInt = (v.2.2.2.1 8).toInt ∧ (u.2.2.2.1 16).toInt = (v.2.2.2.1 9).toInt ∧ (u.2.2.2.1 17).toInt = (v.2.2.2.1 10).toInt ∧ (u.2.2.2.1 18).toInt = (v.2.2.2.1 11).toInt ∧ (u.2.2.2.1 19).toInt = (v.2.2.2.1 12).toInt ∧ (u.2.2.2.1 43).toInt = ((v.2.1 21) 0).toInt ∧ (u.2.2.2.1 24).toInt = (v.2.2.2.1 21).toInt ∧ (u.2.2.2.1 25).toInt = (v.2.2.2.1 22).toInt ∧ (u.2.2.2.1 26).toInt = (v.2.2.2.1 20).toInt) ∧ plE (u.2.1 31) (u.2.1 15) (u.2.2.2.1 20).toInt (v.2.1 17) (v.2.1 18) (v.2.2.2.1 13).toInt (u.2.2.2.1 19).toInt (u.2.2.2.1 16).toInt (u.2.2.2.1 17).toInt) (hu0 : u.1 0 = o1) (hv0 : v.1 0 = o2) (H : Heap) (locs : List Loc) (ls : Array Slot) (hP : va_P D gcl (wX cB cC cI cJ u ++ wM cB cC cI cJ v) H) (hD : va_D (fun q : Nat => s.heap.size ≤ q) (wX cB cC cI cJ u ++ wM cB cC cI cJ v)) (hS : va_S (fun q : Nat => s.heap.size ≤ q) s.heap H locs) (hl : lv_has ls 4 [(3, .int i), (2, .ref o2), (1, .ref o1), (0, .ref b)])
    (kk : ∀ (u v : gEx) (H : Heap) (locs : List Loc) (ls : Array Slot), fX u → fM v → tEq (u.2.1 4) (u.2.2.2.1 7).toInt (v.2.1 0) (v.2.2.2.1 0).toInt ∧ ((u.2.2.2.1 5).toInt = (v.2.2.2.1 6).toInt ∧ (u.2.2.2.1 6).toInt = (v.2.2.2.1 7).toInt ∧ (u.2.2.2.1 15).toInt = (v.2.2.2.1 8).toInt ∧ (u.2.2.2.1 16).toInt = (v.2.2.2.1 9).toInt ∧ (u.2.2.2.1 17).toInt = (v.2.2.2.1 10).toInt ∧ (u.2.2.2.1 18).toInt = (v.2.2.2.1 11).toInt ∧ (u.2.2.2.1 19).toInt = (v.2.2.2.1 12).toInt ∧ (u.2.2.2.1 43).toInt = ((v.2.1 21) 0).toInt ∧ (u.2.2.2.1 24).toInt = (v.2.2.2.1 21).toInt ∧ (u.2.2.2.1 25).toInt = (v.2.2.2.1 22).toInt ∧ (u.2.2.2.1 26).toInt = (v.2.2.2.1 20).toInt) ∧ plE (u.2.1 31) (u.2.1 15) (u.2.2.2.1 20).toInt (v.2.1 17) (v.2.1 18) (v.2.2.2.1 13).toInt (u.2.2.2.1 19).toInt (u.2.2.2.1 16).toInt (u.2.2.2.1 17).toInt → u.1 0 = o1 → v.1 0 = o2 → va_P D gcl (wX cB cC cI cJ u ++ wM cB cC cI cJ v) H → va_D (fun q : Nat => s.heap.size ≤ q) (wX cB cC cI cJ u ++ wM cB cC cI cJ v) → va_S (fun q : Nat => s.heap.size ≤ q) s.heap H locs → lv_has ls 4 [(3, .int i), (2, .ref o2), (1, .ref o1), (0, .ref b)] → W p l e room_1 s m #[Value.ref b] below meth c H locs 126 15724 (lw_Z below #[Value.ref b] s) (F0 m 1519 ls [])) : W p l e room_1 s m #[Value.ref b] below meth c H locs 126 15724 (lw_Z below #[Value.ref b] s) (F0 m 1506 ls []) := by
  subst hu0
  subst hv0
  have hlen := heq.1.1
  have hreg := heq.2.1
  obtain ⟨hx, hb, hr, hml, hown, hts0, hX, hbl, hlocks, hgv⟩ := id C0
  have hts := g_tbl hts0
  have hbA : ¬ (fun q : Nat => s.heap.size ≤ q) b := Nat.not_le.mpr hbl
  refine lv_aload_n (pc := 1506) hx hb dL_law_1506 rfl (lv_at hl 2 rfl) ?_
  refine cc_1507 C0 hK hF u hfX hl  hP hD hS (fun r_1 w_2 H locs hf_3 ho_4 he_5 he_6 he_7 he_8 he_9 hP hD hS => ?_)
  have rr_1 := n_rng r_1
  refine lv_pop (pc := 1510) hx hb dL_law_1510 rfl ?_
  refine lv_aload_n (pc := 1511) hx hb dL_law_1511 rfl (lv_at hl 1 rfl) ?_
  have hP : va_P D gcl (wM cB cC cI cJ v ++ wX cB cC cI cJ w_2) H := va_P.swap (a := []) (b := wX cB cC cI cJ w_2) (c := wM cB cC cI cJ v) hP
  have hD : va_D (fun q : Nat => s.heap.size ≤ q) (wM cB cC cI cJ v ++ wX cB cC cI cJ w_2) := va_D.swap (a := []) (b := wX cB cC cI cJ w_2) (c := wM cB cC cI cJ v) hD
  refine cc_1512 C0 hK hF v hfM hl  hP hD hS (fun r_10 w_11 H locs hf_12 ho_13 he_14 he_15 he_16 he_17 he_18 hP hD hS => ?_)
  have rr_10 := n_rng r_10
  have b9oXx16 := (pX_14 (u := u) hfX)
  have b9oXx17 := (pX_15 (u := u) hfX)
  have b9oMx9 := (pM_7 (u := v) hfM)
  have b9oMx10 := (pM_8 (u := v) hfM)
  have b9oMx21 := (pM_17 (u := v) hfM)
  have b9oMx22 := (pM_18 (u := v) hfM)
  have b9oMx20 := (pM_16 (u := v) hfM)
  have b9ose := (pX_58 (u := u) hfX)
  have b9ohr_a0_0 := (pM_24 (u := v) hfM)
  have b9ohr_a0_1 := (pM_25 (u := v) hfM)
  have b9ohr_a0_2 := (pM_26 (u := v) hfM)
  have e9 : taub (u.2.1 4) (u.2.2.2.1 7).toInt = tau (v.2.1 0) (v.2.2.2.1 0).toInt := funext heq.1.2
  rw [← e9] at he_18
  have hl9 := on_eq he_9 he_18 rfl (by omega) (by omega) (chP_eq heq.2.2 (by omega) (by omega) (by omega)) (by omega) (by omega) (by omega)
  refine lv_pop (pc := 1515) hx hb dL_law_1515 rfl ?_
  refine lv_goto (pc := 1516) (tgt := 1519) hx hb dL_law_1516 (by decide) ?_
  exact kk w_2 w_11 H locs ls hf_3 hf_12 ⟨te_cut heq.1 he_6 he_15 (by omega) (by omega), by omega, plE_keep heq.2.2 he_8 he_17 (by omega) (by omega) (by omega)⟩ ho_4 ho_13 (va_P.swap (a := []) (b := wM cB cC cI cJ w_11) (c := wX cB cC cI cJ w_2) hP) (va_D.swap (a := []) (b := wM cB cC cI cJ w_11) (c := wX cB cC cI cJ w_2) hD) hS hl
