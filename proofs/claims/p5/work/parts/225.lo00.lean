set_option maxHeartbeats 8000000 in
set_option maxRecDepth 100000 in
theorem lo_0 {p : Program} {l : Launch} {e : Env} {s : State} {m : MethodId} {below : List Frame} {meth : Method} {c : Code} {D : va_G} {cB cC cI cJ : ClassId} {b L : Nat} {xs : Nat → Int32} {adK adV : Nat → Nat} (C0 : lw_At p s m meth c b L xs) (hLN : L ≤ 3072) (hK : va_K D gcl [(cB, .byte), (cC, .char), (cI, .int), (cJ, .long)] s) (hF : sF adK adV (fun q : Nat => s.heap.size ≤ q) s s.heap) (o1 o2 : Nat) (i : Int32) (hi0 : 0 ≤ i.toInt) (hi1 : i.toInt + 6 ≤ (L : Int)) (u v : gEx) (hfX : fX u) (hfM : fM v) (heq : tEq (u.2.1 4) (u.2.2.2.1 7).toInt (v.2.1 0) (v.2.2.2.1 0).toInt ∧ ((u.2.2.2.1 5).toInt = (v.2.2.2.1 6).toInt ∧ (u.2.2.2.1 6).toInt = (v.2.2.2.1 7).toInt ∧ (u.2.2.2.1 15).toInt = (v.2.2.2.1 8).toInt ∧ (u.2.2.2.1 16).toInt = (v.2.2.2.1 9).toInt ∧ (u.2.2.2.1 17).toInt = (v.2.2.2.1 10).toInt ∧ (u.2.2.2.1 18).toInt = (v.2.2.2.1 11).toInt ∧ (u.2.2.2.1 19).toInt = (v.2.2.2.1 12).toInt)) (hu0 : u.1 0 = o1) (hv0 : v.1 0 = o2) (H : Heap) (locs : List Loc) (ls : Array Slot) (hP : va_P D gcl (wX cB cC cI cJ u ++ wM cB cC cI cJ v) H) (hD : va_D (fun q : Nat => s.heap.size ≤ q) (wX cB cC cI cJ u ++ wM cB cC cI cJ v)) (hS : va_S (fun q : Nat => s.heap.size ≤ q) s.heap H locs) (hl : lv_has ls 4 [(3, .int i), (2, .ref o2), (1, .ref o1), (0, .ref b)])
    (kk : ∀ (u v : gEx) (H : Heap) (locs : List Loc) (ls : Array Slot), fX u → fM v → tEq (u.2.1 4) (u.2.2.2.1 7).toInt (v.2.1 0) (v.2.2.2.1 0).toInt ∧ ((u.2.2.2.1 5).toInt = (v.2.2.2.1 6).toInt ∧ (u.2.2.2.1 6).toInt = (v.2.2.2.1 7).toInt ∧ (u.2.2.2.1 15).toInt = (v.2.2.2.1 8).toInt ∧ (u.2.2.2.1 16).toInt = (v.2.2.2.1 9).toInt ∧ (u.2.2.2.1 17).toInt = (v.2.2.2.1 10).toInt ∧ (u.2.2.2.1 18).toInt = (v.2.2.2.1 11).toInt ∧ (u.2.2.2.1 19).toInt = (v.2.2.2.1 12).toInt) → u.1 0 = o1 → v.1 0 = o2 → va_P D gcl (wX cB cC cI cJ u ++ wM cB cC cI cJ v) H → va_D (fun q : Nat => s.heap.size ≤ q) (wX cB cC cI cJ u ++ wM cB cC cI cJ v) → va_S (fun q : Nat => s.heap.size ≤ q) s.heap H locs → lv_has ls 4 [(3, .int i), (2, .ref o2), (1, .ref o1), (0, .ref b)] → W p l e room_1 s m #[Value.ref b] below meth c H locs 126 15724 (lw_Z below #[Value.ref b] s) (F0 m 1519 ls [])) : W p l e room_1 s m #[Value.ref b] below meth c H locs 126 15724 (lw_Z below #[Value.ref b] s) (F0 m 228 ls []) := by
  subst hu0
  subst hv0
  have hlen := heq.1.1
  have hreg := heq.2
  obtain ⟨hx, hb, hr, hml, hown, hts0, hX, hbl, hlocks, hgv⟩ := id C0
  have hts := g_tbl hts0
  have hbA : ¬ (fun q : Nat => s.heap.size ≤ q) b := Nat.not_le.mpr hbl
  refine lv_aload_n (pc := 228) hx hb dL_law_228 rfl (lv_at hl 2 rfl) ?_
  refine lv_aload_n (pc := 229) hx hb dL_law_229 rfl (lv_at hl 3 rfl) ?_
  refine lv_iload_n (pc := 230) hx hb dL_law_230 rfl (lv_at hl 0 rfl) ?_
  refine lv_iconst (pc := 231) (v := 1) hx hb dL_law_231 (by decide) ?_
  refine b_iadd (pc := 232) hx hb rfl tI_1 (by omega) (by omega) dL_law_232 (fun x_1 ex_1 => ?_)
  refine va_sld (pc := 233) hx hb hX hbl hbA hS (n_in rfl (by omega) (by omega)) dL_law_233 ?_
  refine lv_topi (fun x_2 ex_2 => ?_)
  have rx_2 := n_rng x_2
  have tx_2 := congrArg Int32.toInt (e_ld (f := xs) (show x_2 = xs (x_1.toInt).toNat from ex_2) (show x_1.toInt = (i.toInt) + (1) by omega))
  refine lv_aload_n (pc := 234) hx hb dL_law_234 rfl (lv_at hl 3 rfl) ?_
  refine lv_iload_n (pc := 235) hx hb dL_law_235 rfl (lv_at hl 0 rfl) ?_
  refine lv_iconst (pc := 236) (v := 2) hx hb dL_law_236 (by decide) ?_
  refine b_iadd (pc := 237) hx hb rfl tI_2 (by omega) (by omega) dL_law_237 (fun x_3 ex_3 => ?_)
  refine va_sld (pc := 238) hx hb hX hbl hbA hS (n_in rfl (by omega) (by omega)) dL_law_238 ?_
  refine lv_topi (fun x_4 ex_4 => ?_)
  have rx_4 := n_rng x_4
  have tx_4 := congrArg Int32.toInt (e_ld (f := xs) (show x_4 = xs (x_3.toInt).toNat from ex_4) (show x_3.toInt = (i.toInt) + (2) by omega))
  refine lv_aload_n (pc := 239) hx hb dL_law_239 rfl (lv_at hl 3 rfl) ?_
  refine lv_iload_n (pc := 240) hx hb dL_law_240 rfl (lv_at hl 0 rfl) ?_
  refine lv_iconst (pc := 241) (v := 3) hx hb dL_law_241 (by decide) ?_
  refine b_iadd (pc := 242) hx hb rfl tI_3 (by omega) (by omega) dL_law_242 (fun x_5 ex_5 => ?_)
  refine va_sld (pc := 243) hx hb hX hbl hbA hS (n_in rfl (by omega) (by omega)) dL_law_243 ?_
  refine lv_topi (fun x_6 ex_6 => ?_)
  have rx_6 := n_rng x_6
  have tx_6 := congrArg Int32.toInt (e_ld (f := xs) (show x_6 = xs (x_5.toInt).toNat from ex_6) (show x_5.toInt = (i.toInt) + (3) by omega))
  refine lv_aload_n (pc := 244) hx hb dL_law_244 rfl (lv_at hl 3 rfl) ?_
  refine lv_iload_n (pc := 245) hx hb dL_law_245 rfl (lv_at hl 0 rfl) ?_
  refine lv_iconst (pc := 246) (v := 4) hx hb dL_law_246 (by decide) ?_
  refine b_iadd (pc := 247) hx hb rfl tI_4 (by omega) (by omega) dL_law_247 (fun x_7 ex_7 => ?_)
  refine va_sld (pc := 248) hx hb hX hbl hbA hS (n_in rfl (by omega) (by omega)) dL_law_248 ?_
  refine lv_topi (fun x_8 ex_8 => ?_)
  have rx_8 := n_rng x_8
  have tx_8 := congrArg Int32.toInt (e_ld (f := xs) (show x_8 = xs (x_7.toInt).toNat from ex_8) (show x_7.toInt = (i.toInt) + (4) by omega))
  refine lv_aload_n (pc := 249) hx hb dL_law_249 rfl (lv_at hl 3 rfl) ?_
  refine lv_iload_n (pc := 250) hx hb dL_law_250 rfl (lv_at hl 0 rfl) ?_
  refine lv_iconst (pc := 251) (v := 5) hx hb dL_law_251 (by decide) ?_
  refine b_iadd (pc := 252) hx hb rfl tI_5 (by omega) (by omega) dL_law_252 (fun x_9 ex_9 => ?_)
  refine va_sld (pc := 253) hx hb hX hbl hbA hS (n_in rfl (by omega) (by omega)) dL_law_253 ?_
  refine lv_topi (fun x_10 ex_10 => ?_)
  have rx_10 := n_rng x_10
  have tx_10 := congrArg Int32.toInt (e_ld (f := xs) (show x_10 = xs (x_9.toInt).toNat from ex_10) (show x_9.toInt = (i.toInt) + (5) by omega))
  refine cc_254 C0 hK hF u hfX hl x_2 x_4 x_6 x_8 x_10 hP hD hS (fun r_11 w_12 H locs hf_13 ho_14 he_15 he_16 he_17 hP hD hS => ?_)
  have rr_11 := n_rng r_11
  refine lv_pop (pc := 257) hx hb dL_law_257 rfl ?_
  refine lv_aload_n (pc := 258) hx hb dL_law_258 rfl (lv_at hl 1 rfl) ?_
  refine lv_aload_n (pc := 259) hx hb dL_law_259 rfl (lv_at hl 3 rfl) ?_
  refine lv_iload_n (pc := 260) hx hb dL_law_260 rfl (lv_at hl 0 rfl) ?_
  refine lv_iconst (pc := 261) (v := 1) hx hb dL_law_261 (by decide) ?_
  refine b_iadd (pc := 262) hx hb rfl tI_1 (by omega) (by omega) dL_law_262 (fun x_18 ex_18 => ?_)
  refine va_sld (pc := 263) hx hb hX hbl hbA hS (n_in rfl (by omega) (by omega)) dL_law_263 ?_
  refine lv_topi (fun x_19 ex_19 => ?_)
  have rx_19 := n_rng x_19
  have tx_19 := congrArg Int32.toInt (e_ld (f := xs) (show x_19 = xs (x_18.toInt).toNat from ex_19) (show x_18.toInt = (i.toInt) + (1) by omega))
  refine lv_aload_n (pc := 264) hx hb dL_law_264 rfl (lv_at hl 3 rfl) ?_
  refine lv_iload_n (pc := 265) hx hb dL_law_265 rfl (lv_at hl 0 rfl) ?_
  refine lv_iconst (pc := 266) (v := 2) hx hb dL_law_266 (by decide) ?_
  refine b_iadd (pc := 267) hx hb rfl tI_2 (by omega) (by omega) dL_law_267 (fun x_20 ex_20 => ?_)
  refine va_sld (pc := 268) hx hb hX hbl hbA hS (n_in rfl (by omega) (by omega)) dL_law_268 ?_
  refine lv_topi (fun x_21 ex_21 => ?_)
  have rx_21 := n_rng x_21
  have tx_21 := congrArg Int32.toInt (e_ld (f := xs) (show x_21 = xs (x_20.toInt).toNat from ex_21) (show x_20.toInt = (i.toInt) + (2) by omega))
  refine lv_aload_n (pc := 269) hx hb dL_law_269 rfl (lv_at hl 3 rfl) ?_
  refine lv_iload_n (pc := 270) hx hb dL_law_270 rfl (lv_at hl 0 rfl) ?_
  refine lv_iconst (pc := 271) (v := 3) hx hb dL_law_271 (by decide) ?_
  refine b_iadd (pc := 272) hx hb rfl tI_3 (by omega) (by omega) dL_law_272 (fun x_22 ex_22 => ?_)
  refine va_sld (pc := 273) hx hb hX hbl hbA hS (n_in rfl (by omega) (by omega)) dL_law_273 ?_
  refine lv_topi (fun x_23 ex_23 => ?_)
  have rx_23 := n_rng x_23
  have tx_23 := congrArg Int32.toInt (e_ld (f := xs) (show x_23 = xs (x_22.toInt).toNat from ex_23) (show x_22.toInt = (i.toInt) + (3) by omega))
  refine lv_aload_n (pc := 274) hx hb dL_law_274 rfl (lv_at hl 3 rfl) ?_
  refine lv_iload_n (pc := 275) hx hb dL_law_275 rfl (lv_at hl 0 rfl) ?_
  refine lv_iconst (pc := 276) (v := 4) hx hb dL_law_276 (by decide) ?_
  refine b_iadd (pc := 277) hx hb rfl tI_4 (by omega) (by omega) dL_law_277 (fun x_24 ex_24 => ?_)
  refine va_sld (pc := 278) hx hb hX hbl hbA hS (n_in rfl (by omega) (by omega)) dL_law_278 ?_
  refine lv_topi (fun x_25 ex_25 => ?_)
  have rx_25 := n_rng x_25
  have tx_25 := congrArg Int32.toInt (e_ld (f := xs) (show x_25 = xs (x_24.toInt).toNat from ex_25) (show x_24.toInt = (i.toInt) + (4) by omega))
  refine lv_aload_n (pc := 279) hx hb dL_law_279 rfl (lv_at hl 3 rfl) ?_
  refine lv_iload_n (pc := 280) hx hb dL_law_280 rfl (lv_at hl 0 rfl) ?_
  refine lv_iconst (pc := 281) (v := 5) hx hb dL_law_281 (by decide) ?_
  refine b_iadd (pc := 282) hx hb rfl tI_5 (by omega) (by omega) dL_law_282 (fun x_26 ex_26 => ?_)
  refine va_sld (pc := 283) hx hb hX hbl hbA hS (n_in rfl (by omega) (by omega)) dL_law_283 ?_
  refine lv_topi (fun x_27 ex_27 => ?_)
  have rx_27 := n_rng x_27
  have tx_27 := congrArg Int32.toInt (e_ld (f := xs) (show x_27 = xs (x_26.toInt).toNat from ex_27) (show x_26.toInt = (i.toInt) + (5) by omega))
  have hP : va_P D gcl (wM cB cC cI cJ v ++ wX cB cC cI cJ w_12) H := va_P.swap (a := []) (b := wX cB cC cI cJ w_12) (c := wM cB cC cI cJ v) hP
  have hD : va_D (fun q : Nat => s.heap.size ≤ q) (wM cB cC cI cJ v ++ wX cB cC cI cJ w_12) := va_D.swap (a := []) (b := wX cB cC cI cJ w_12) (c := wM cB cC cI cJ v) hD
  refine cc_284 C0 hK hF v hfM hl x_19 x_21 x_23 x_25 x_27 hP hD hS (fun r_28 w_29 H locs hf_30 ho_31 he_32 he_33 he_34 hP hD hS => ?_)
  have rr_28 := n_rng r_28
  refine lv_pop (pc := 287) hx hb dL_law_287 rfl ?_
  refine lv_goto (pc := 288) (tgt := 1519) hx hb dL_law_288 (by decide) ?_
  have ea0 : x_19 = x_2 := Int32.toInt_inj.mp (by omega)
  rw [ea0] at he_33
  have ea1 : x_21 = x_4 := Int32.toInt_inj.mp (by omega)
  rw [ea1] at he_33
  have ea2 : x_23 = x_6 := Int32.toInt_inj.mp (by omega)
  rw [ea2] at he_33
  have ea3 : x_25 = x_8 := Int32.toInt_inj.mp (by omega)
  rw [ea3] at he_33
  have ea4 : x_27 = x_10 := Int32.toInt_inj.mp (by omega)
  rw [ea4] at he_33
  exact kk w_12 w_29 H locs ls hf_13 hf_30 ⟨te_feed heq.1 he_16 he_33 (by omega) (by omega), by omega⟩ ho_14 ho_31 (va_P.swap (a := []) (b := wM cB cC cI cJ w_29) (c := wX cB cC cI cJ w_12) hP) (va_D.swap (a := []) (b := wM cB cC cI cJ w_29) (c := wX cB cC cI cJ w_12) hD) hS hl
set_option maxHeartbeats 8000000 in
set_option maxRecDepth 100000 in
theorem lo_1 {p : Program} {l : Launch} {e : Env} {s : State} {m : MethodId} {below : List Frame} {meth : Method} {c : Code} {D : va_G} {cB cC cI cJ : ClassId} {b L : Nat} {xs : Nat → Int32} {adK adV : Nat → Nat} (C0 : lw_At p s m meth c b L xs) (hLN : L ≤ 3072) (hK : va_K D gcl [(cB, .byte), (cC, .char), (cI, .int), (cJ, .long)] s) (hF : sF adK adV (fun q : Nat => s.heap.size ≤ q) s s.heap) (o1 o2 : Nat) (i : Int32) (hi0 : 0 ≤ i.toInt) (hi1 : i.toInt + 6 ≤ (L : Int)) (u v : gEx) (hfX : fX u) (hfM : fM v) (heq : tEq (u.2.1 4) (u.2.2.2.1 7).toInt (v.2.1 0) (v.2.2.2.1 0).toInt ∧ ((u.2.2.2.1 5).toInt = (v.2.2.2.1 6).toInt ∧ (u.2.2.2.1 6).toInt = (v.2.2.2.1 7).toInt ∧ (u.2.2.2.1 15).toInt = (v.2.2.2.1 8).toInt ∧ (u.2.2.2.1 16).toInt = (v.2.2.2.1 9).toInt ∧ (u.2.2.2.1 17).toInt = (v.2.2.2.1 10).toInt ∧ (u.2.2.2.1 18).toInt = (v.2.2.2.1 11).toInt ∧ (u.2.2.2.1 19).toInt = (v.2.2.2.1 12).toInt)) (hu0 : u.1 0 = o1) (hv0 : v.1 0 = o2) (H : Heap) (locs : List Loc) (ls : Array Slot) (hP : va_P D gcl (wX cB cC cI cJ u ++ wM cB cC cI cJ v) H) (hD : va_D (fun q : Nat => s.heap.size ≤ q) (wX cB cC cI cJ u ++ wM cB cC cI cJ v)) (hS : va_S (fun q : Nat => s.heap.size ≤ q) s.heap H locs) (hl : lv_has ls 4 [(3, .int i), (2, .ref o2), (1, .ref o1), (0, .ref b)])
    (kk : ∀ (u v : gEx) (H : Heap) (locs : List Loc) (ls : Array Slot), fX u → fM v → tEq (u.2.1 4) (u.2.2.2.1 7).toInt (v.2.1 0) (v.2.2.2.1 0).toInt ∧ ((u.2.2.2.1 5).toInt = (v.2.2.2.1 6).toInt ∧ (u.2.2.2.1 6).toInt = (v.2.2.2.1 7).toInt ∧ (u.2.2.2.1 15).toInt = (v.2.2.2.1 8).toInt ∧ (u.2.2.2.1 16).toInt = (v.2.2.2.1 9).toInt ∧ (u.2.2.2.1 17).toInt = (v.2.2.2.1 10).toInt ∧ (u.2.2.2.1 18).toInt = (v.2.2.2.1 11).toInt ∧ (u.2.2.2.1 19).toInt = (v.2.2.2.1 12).toInt) → u.1 0 = o1 → v.1 0 = o2 → va_P D gcl (wX cB cC cI cJ u ++ wM cB cC cI cJ v) H → va_D (fun q : Nat => s.heap.size ≤ q) (wX cB cC cI cJ u ++ wM cB cC cI cJ v) → va_S (fun q : Nat => s.heap.size ≤ q) s.heap H locs → lv_has ls 4 [(3, .int i), (2, .ref o2), (1, .ref o1), (0, .ref b)] → W p l e room_1 s m #[Value.ref b] below meth c H locs 126 15724 (lw_Z below #[Value.ref b] s) (F0 m 1519 ls [])) : W p l e room_1 s m #[Value.ref b] below meth c H locs 126 15724 (lw_Z below #[Value.ref b] s) (F0 m 291 ls []) := by
  subst hu0
  subst hv0
  have hlen := heq.1.1
  have hreg := heq.2
  obtain ⟨hx, hb, hr, hml, hown, hts0, hX, hbl, hlocks, hgv⟩ := id C0
  have hts := g_tbl hts0
  have hbA : ¬ (fun q : Nat => s.heap.size ≤ q) b := Nat.not_le.mpr hbl
  refine lv_aload_n (pc := 291) hx hb dL_law_291 rfl (lv_at hl 2 rfl) ?_
  refine lv_aload_n (pc := 292) hx hb dL_law_292 rfl (lv_at hl 3 rfl) ?_
  refine lv_iload_n (pc := 293) hx hb dL_law_293 rfl (lv_at hl 0 rfl) ?_
  refine lv_iconst (pc := 294) (v := 1) hx hb dL_law_294 (by decide) ?_
  refine b_iadd (pc := 295) hx hb rfl tI_1 (by omega) (by omega) dL_law_295 (fun x_1 ex_1 => ?_)
  refine va_sld (pc := 296) hx hb hX hbl hbA hS (n_in rfl (by omega) (by omega)) dL_law_296 ?_
  refine lv_topi (fun x_2 ex_2 => ?_)
  have rx_2 := n_rng x_2
  have tx_2 := congrArg Int32.toInt (e_ld (f := xs) (show x_2 = xs (x_1.toInt).toNat from ex_2) (show x_1.toInt = (i.toInt) + (1) by omega))
  refine cc_297 C0 hK hF u hfX hl x_2 hP hD hS (fun r_3 w_4 H locs hf_5 ho_6 he_7 he_8 he_9 hP hD hS => ?_)
  have rr_3 := n_rng r_3
  refine lv_pop (pc := 300) hx hb dL_law_300 rfl ?_
  refine lv_aload_n (pc := 301) hx hb dL_law_301 rfl (lv_at hl 1 rfl) ?_
  refine lv_aload_n (pc := 302) hx hb dL_law_302 rfl (lv_at hl 3 rfl) ?_
  refine lv_iload_n (pc := 303) hx hb dL_law_303 rfl (lv_at hl 0 rfl) ?_
  refine lv_iconst (pc := 304) (v := 1) hx hb dL_law_304 (by decide) ?_
  refine b_iadd (pc := 305) hx hb rfl tI_1 (by omega) (by omega) dL_law_305 (fun x_10 ex_10 => ?_)
  refine va_sld (pc := 306) hx hb hX hbl hbA hS (n_in rfl (by omega) (by omega)) dL_law_306 ?_
  refine lv_topi (fun x_11 ex_11 => ?_)
  have rx_11 := n_rng x_11
  have tx_11 := congrArg Int32.toInt (e_ld (f := xs) (show x_11 = xs (x_10.toInt).toNat from ex_11) (show x_10.toInt = (i.toInt) + (1) by omega))
  have hP : va_P D gcl (wM cB cC cI cJ v ++ wX cB cC cI cJ w_4) H := va_P.swap (a := []) (b := wX cB cC cI cJ w_4) (c := wM cB cC cI cJ v) hP
  have hD : va_D (fun q : Nat => s.heap.size ≤ q) (wM cB cC cI cJ v ++ wX cB cC cI cJ w_4) := va_D.swap (a := []) (b := wX cB cC cI cJ w_4) (c := wM cB cC cI cJ v) hD
  refine cc_307 C0 hK hF v hfM hl x_11 hP hD hS (fun r_12 w_13 H locs hf_14 ho_15 he_16 he_17 he_18 hP hD hS => ?_)
  have rr_12 := n_rng r_12
  refine lv_pop (pc := 310) hx hb dL_law_310 rfl ?_
  refine lv_goto (pc := 311) (tgt := 1519) hx hb dL_law_311 (by decide) ?_
  exact kk w_4 w_13 H locs ls hf_5 hf_14 ⟨te_cut heq.1 he_8 he_17 (by omega) (by omega), by omega⟩ ho_6 ho_15 (va_P.swap (a := []) (b := wM cB cC cI cJ w_13) (c := wX cB cC cI cJ w_4) hP) (va_D.swap (a := []) (b := wM cB cC cI cJ w_13) (c := wX cB cC cI cJ w_4) hD) hS hl
set_option maxHeartbeats 8000000 in
set_option maxRecDepth 100000 in
theorem lo_2 {p : Program} {l : Launch} {e : Env} {s : State} {m : MethodId} {below : List Frame} {meth : Method} {c : Code} {D : va_G} {cB cC cI cJ : ClassId} {b L : Nat} {xs : Nat → Int32} {adK adV : Nat → Nat} (C0 : lw_At p s m meth c b L xs) (hLN : L ≤ 3072) (hK : va_K D gcl [(cB, .byte), (cC, .char), (cI, .int), (cJ, .long)] s) (hF : sF adK adV (fun q : Nat => s.heap.size ≤ q) s s.heap) (o1 o2 : Nat) (i : Int32) (hi0 : 0 ≤ i.toInt) (hi1 : i.toInt + 6 ≤ (L : Int)) (u v : gEx) (hfX : fX u) (hfM : fM v) (heq : tEq (u.2.1 4) (u.2.2.2.1 7).toInt (v.2.1 0) (v.2.2.2.1 0).toInt ∧ ((u.2.2.2.1 5).toInt = (v.2.2.2.1 6).toInt ∧ (u.2.2.2.1 6).toInt = (v.2.2.2.1 7).toInt ∧ (u.2.2.2.1 15).toInt = (v.2.2.2.1 8).toInt ∧ (u.2.2.2.1 16).toInt = (v.2.2.2.1 9).toInt ∧ (u.2.2.2.1 17).toInt = (v.2.2.2.1 10).toInt ∧ (u.2.2.2.1 18).toInt = (v.2.2.2.1 11).toInt ∧ (u.2.2.2.1 19).toInt = (v.2.2.2.1 12).toInt)) (hu0 : u.1 0 = o1) (hv0 : v.1 0 = o2) (H : Heap) (locs : List Loc) (ls : Array Slot) (hP : va_P D gcl (wX cB cC cI cJ u ++ wM cB cC cI cJ v) H) (hD : va_D (fun q : Nat => s.heap.size ≤ q) (wX cB cC cI cJ u ++ wM cB cC cI cJ v)) (hS : va_S (fun q : Nat => s.heap.size ≤ q) s.heap H locs) (hl : lv_has ls 4 [(3, .int i), (2, .ref o2), (1, .ref o1), (0, .ref b)])
    (kk : ∀ (u v : gEx) (H : Heap) (locs : List Loc) (ls : Array Slot), fX u → fM v → tEq (u.2.1 4) (u.2.2.2.1 7).toInt (v.2.1 0) (v.2.2.2.1 0).toInt ∧ ((u.2.2.2.1 5).toInt = (v.2.2.2.1 6).toInt ∧ (u.2.2.2.1 6).toInt = (v.2.2.2.1 7).toInt ∧ (u.2.2.2.1 15).toInt = (v.2.2.2.1 8).toInt ∧ (u.2.2.2.1 16).toInt = (v.2.2.2.1 9).toInt ∧ (u.2.2.2.1 17).toInt = (v.2.2.2.1 10).toInt ∧ (u.2.2.2.1 18).toInt = (v.2.2.2.1 11).toInt ∧ (u.2.2.2.1 19).toInt = (v.2.2.2.1 12).toInt) → u.1 0 = o1 → v.1 0 = o2 → va_P D gcl (wX cB cC cI cJ u ++ wM cB cC cI cJ v) H → va_D (fun q : Nat => s.heap.size ≤ q) (wX cB cC cI cJ u ++ wM cB cC cI cJ v) → va_S (fun q : Nat => s.heap.size ≤ q) s.heap H locs → lv_has ls 4 [(3, .int i), (2, .ref o2), (1, .ref o1), (0, .ref b)] → W p l e room_1 s m #[Value.ref b] below meth c H locs 126 15724 (lw_Z below #[Value.ref b] s) (F0 m 1519 ls [])) : W p l e room_1 s m #[Value.ref b] below meth c H locs 126 15724 (lw_Z below #[Value.ref b] s) (F0 m 314 ls []) := by
  subst hu0
  subst hv0
  have hlen := heq.1.1
  have hreg := heq.2
  obtain ⟨hx, hb, hr, hml, hown, hts0, hX, hbl, hlocks, hgv⟩ := id C0
  have hts := g_tbl hts0
  have hbA : ¬ (fun q : Nat => s.heap.size ≤ q) b := Nat.not_le.mpr hbl
  refine lv_aload_n (pc := 314) hx hb dL_law_314 rfl (lv_at hl 2 rfl) ?_
  refine cc_315 C0 hK hF u hfX hl  hP hD hS (fun r_1 w_2 H locs hf_3 ho_4 he_5 he_6 he_7 hP hD hS => ?_)
  have rr_1 := n_rng r_1
  refine lv_pop (pc := 318) hx hb dL_law_318 rfl ?_
  refine lv_aload_n (pc := 319) hx hb dL_law_319 rfl (lv_at hl 1 rfl) ?_
  have hP : va_P D gcl (wM cB cC cI cJ v ++ wX cB cC cI cJ w_2) H := va_P.swap (a := []) (b := wX cB cC cI cJ w_2) (c := wM cB cC cI cJ v) hP
  have hD : va_D (fun q : Nat => s.heap.size ≤ q) (wM cB cC cI cJ v ++ wX cB cC cI cJ w_2) := va_D.swap (a := []) (b := wX cB cC cI cJ w_2) (c := wM cB cC cI cJ v) hD
  refine cc_320 C0 hK hF v hfM hl  hP hD hS (fun r_8 w_9 H locs hf_10 ho_11 he_12 he_13 he_14 hP hD hS => ?_)
  have rr_8 := n_rng r_8
  have e9 : taub (u.2.1 4) (u.2.2.2.1 7).toInt = tau (v.2.1 0) (v.2.2.2.1 0).toInt := funext heq.1.2
  rw [← e9] at he_14
  have hq9 := hs_eq he_7 he_14 (by omega)
  refine lv_pop (pc := 323) hx hb dL_law_323 rfl ?_
  refine lv_goto (pc := 324) (tgt := 1519) hx hb dL_law_324 (by decide) ?_
  exact kk w_2 w_9 H locs ls hf_3 hf_10 ⟨te_cut heq.1 he_6 he_13 (by omega) (by omega), by omega⟩ ho_4 ho_11 (va_P.swap (a := []) (b := wM cB cC cI cJ w_9) (c := wX cB cC cI cJ w_2) hP) (va_D.swap (a := []) (b := wM cB cC cI cJ w_9) (c := wX cB cC cI cJ w_2) hD) hS hl
set_option maxHeartbeats 8000000 in
set_option maxRecDepth 100000 in
theorem lo_3 {p : Program} {l : Launch} {e : Env} {s : State} {m : MethodId} {below : List Frame} {meth : Method} {c : Code} {D : va_G} {cB cC cI cJ : ClassId} {b L : Nat} {xs : Nat → Int32} {adK adV : Nat → Nat} (C0 : lw_At p s m meth c b L xs) (hLN : L ≤ 3072) (hK : va_K D gcl [(cB, .byte), (cC, .char), (cI, .int), (cJ, .long)] s) (hF : sF adK adV (fun q : Nat => s.heap.size ≤ q) s s.heap) (o1 o2 : Nat) (i : Int32) (hi0 : 0 ≤ i.toInt) (hi1 : i.toInt + 6 ≤ (L : Int)) (u v : gEx) (hfX : fX u) (hfM : fM v) (heq : tEq (u.2.1 4) (u.2.2.2.1 7).toInt (v.2.1 0) (v.2.2.2.1 0).toInt ∧ ((u.2.2.2.1 5).toInt = (v.2.2.2.1 6).toInt ∧ (u.2.2.2.1 6).toInt = (v.2.2.2.1 7).toInt ∧ (u.2.2.2.1 15).toInt = (v.2.2.2.1 8).toInt ∧ (u.2.2.2.1 16).toInt = (v.2.2.2.1 9).toInt ∧ (u.2.2.2.1 17).toInt = (v.2.2.2.1 10).toInt ∧ (u.2.2.2.1 18).toInt = (v.2.2.2.1 11).toInt ∧ (u.2.2.2.1 19).toInt = (v.2.2.2.1 12).toInt)) (hu0 : u.1 0 = o1) (hv0 : v.1 0 = o2) (H : Heap) (locs : List Loc) (ls : Array Slot) (hP : va_P D gcl (wX cB cC cI cJ u ++ wM cB cC cI cJ v) H) (hD : va_D (fun q : Nat => s.heap.size ≤ q) (wX cB cC cI cJ u ++ wM cB cC cI cJ v)) (hS : va_S (fun q : Nat => s.heap.size ≤ q) s.heap H locs) (hl : lv_has ls 4 [(3, .int i), (2, .ref o2), (1, .ref o1), (0, .ref b)])
    (kk : ∀ (u v : gEx) (H : Heap) (locs : List Loc) (ls : Array Slot), fX u → fM v → tEq (u.2.1 4) (u.2.2.2.1 7).toInt (v.2.1 0) (v.2.2.2.1 0).toInt ∧ ((u.2.2.2.1 5).toInt = (v.2.2.2.1 6).toInt ∧ (u.2.2.2.1 6).toInt = (v.2.2.2.1 7).toInt ∧ (u.2.2.2.1 15).toInt = (v.2.2.2.1 8).toInt ∧ (u.2.2.2.1 16).toInt = (v.2.2.2.1 9).toInt ∧ (u.2.2.2.1 17).toInt = (v.2.2.2.1 10).toInt ∧ (u.2.2.2.1 18).toInt = (v.2.2.2.1 11).toInt ∧ (u.2.2.2.1 19).toInt = (v.2.2.2.1 12).toInt) → u.1 0 = o1 → v.1 0 = o2 → va_P D gcl (wX cB cC cI cJ u ++ wM cB cC cI cJ v) H → va_D (fun q : Nat => s.heap.size ≤ q) (wX cB cC cI cJ u ++ wM cB cC cI cJ v) → va_S (fun q : Nat => s.heap.size ≤ q) s.heap H locs → lv_has ls 4 [(3, .int i), (2, .ref o2), (1, .ref o1), (0, .ref b)] → W p l e room_1 s m #[Value.ref b] below meth c H locs 126 15724 (lw_Z below #[Value.ref b] s) (F0 m 1519 ls [])) : W p l e room_1 s m #[Value.ref b] below meth c H locs 126 15724 (lw_Z below #[Value.ref b] s) (F0 m 327 ls []) := by
  subst hu0
  subst hv0
  have hlen := heq.1.1
  have hreg := heq.2
  obtain ⟨hx, hb, hr, hml, hown, hts0, hX, hbl, hlocks, hgv⟩ := id C0
  have hts := g_tbl hts0
  have hbA : ¬ (fun q : Nat => s.heap.size ≤ q) b := Nat.not_le.mpr hbl
  refine lv_aload_n (pc := 327) hx hb dL_law_327 rfl (lv_at hl 2 rfl) ?_
  refine lv_aload_n (pc := 328) hx hb dL_law_328 rfl (lv_at hl 3 rfl) ?_
  refine lv_iload_n (pc := 329) hx hb dL_law_329 rfl (lv_at hl 0 rfl) ?_
  refine lv_iconst (pc := 330) (v := 1) hx hb dL_law_330 (by decide) ?_
  refine b_iadd (pc := 331) hx hb rfl tI_1 (by omega) (by omega) dL_law_331 (fun x_1 ex_1 => ?_)
  refine va_sld (pc := 332) hx hb hX hbl hbA hS (n_in rfl (by omega) (by omega)) dL_law_332 ?_
  refine lv_topi (fun x_2 ex_2 => ?_)
  have rx_2 := n_rng x_2
  have tx_2 := congrArg Int32.toInt (e_ld (f := xs) (show x_2 = xs (x_1.toInt).toNat from ex_2) (show x_1.toInt = (i.toInt) + (1) by omega))
  refine cc_333 C0 hK hF u hfX hl x_2 hP hD hS (fun r_3 w_4 H locs hf_5 ho_6 he_7 he_8 he_9 he_10 hP hD hS => ?_)
  have rr_3 := n_rng r_3
  refine lv_aload_n (pc := 336) hx hb dL_law_336 rfl (lv_at hl 1 rfl) ?_
  refine lv_aload_n (pc := 337) hx hb dL_law_337 rfl (lv_at hl 3 rfl) ?_
  refine lv_iload_n (pc := 338) hx hb dL_law_338 rfl (lv_at hl 0 rfl) ?_
  refine lv_iconst (pc := 339) (v := 1) hx hb dL_law_339 (by decide) ?_
  refine b_iadd (pc := 340) hx hb rfl tI_1 (by omega) (by omega) dL_law_340 (fun x_11 ex_11 => ?_)
  refine va_sld (pc := 341) hx hb hX hbl hbA hS (n_in rfl (by omega) (by omega)) dL_law_341 ?_
  refine lv_topi (fun x_12 ex_12 => ?_)
  have rx_12 := n_rng x_12
  have tx_12 := congrArg Int32.toInt (e_ld (f := xs) (show x_12 = xs (x_11.toInt).toNat from ex_12) (show x_11.toInt = (i.toInt) + (1) by omega))
  have hP : va_P D gcl (wM cB cC cI cJ v ++ wX cB cC cI cJ w_4) H := va_P.swap (a := []) (b := wX cB cC cI cJ w_4) (c := wM cB cC cI cJ v) hP
  have hD : va_D (fun q : Nat => s.heap.size ≤ q) (wM cB cC cI cJ v ++ wX cB cC cI cJ w_4) := va_D.swap (a := []) (b := wX cB cC cI cJ w_4) (c := wM cB cC cI cJ v) hD
  refine cc_342 C0 hK hF v hfM hl x_12 r_3 hP hD hS (fun r_13 w_14 H locs hf_15 ho_16 he_17 he_18 he_19 he_20 hP hD hS => ?_)
  have rr_13 := n_rng r_13
  refine b_icmp_eq (pc := 345) (tgt := 1519) hx hb rfl rfl  dL_law_345 (by decide) (fun c_21 => ?_) (fun c_21 => ?_)
  ·
    exact kk w_4 w_14 H locs ls hf_5 hf_15 ⟨te_cut heq.1 he_8 he_18 (by omega) (by omega), by omega⟩ ho_6 ho_16 (va_P.swap (a := []) (b := wM cB cC cI cJ w_14) (c := wX cB cC cI cJ w_4) hP) (va_D.swap (a := []) (b := wM cB cC cI cJ w_14) (c := wX cB cC cI cJ w_4) hD) hS hl
  ·
    refine lv_iconst (pc := 348) (v := 0) hx hb dL_law_348 (by decide) ?_
    exact False.elim (by omega)
set_option maxHeartbeats 8000000 in
set_option maxRecDepth 100000 in
theorem lo_4 {p : Program} {l : Launch} {e : Env} {s : State} {m : MethodId} {below : List Frame} {meth : Method} {c : Code} {D : va_G} {cB cC cI cJ : ClassId} {b L : Nat} {xs : Nat → Int32} {adK adV : Nat → Nat} (C0 : lw_At p s m meth c b L xs) (hLN : L ≤ 3072) (hK : va_K D gcl [(cB, .byte), (cC, .char), (cI, .int), (cJ, .long)] s) (hF : sF adK adV (fun q : Nat => s.heap.size ≤ q) s s.heap) (o1 o2 : Nat) (i : Int32) (hi0 : 0 ≤ i.toInt) (hi1 : i.toInt + 6 ≤ (L : Int)) (u v : gEx) (hfX : fX u) (hfM : fM v) (heq : tEq (u.2.1 4) (u.2.2.2.1 7).toInt (v.2.1 0) (v.2.2.2.1 0).toInt ∧ ((u.2.2.2.1 5).toInt = (v.2.2.2.1 6).toInt ∧ (u.2.2.2.1 6).toInt = (v.2.2.2.1 7).toInt ∧ (u.2.2.2.1 15).toInt = (v.2.2.2.1 8).toInt ∧ (u.2.2.2.1 16).toInt = (v.2.2.2.1 9).toInt ∧ (u.2.2.2.1 17).toInt = (v.2.2.2.1 10).toInt ∧ (u.2.2.2.1 18).toInt = (v.2.2.2.1 11).toInt ∧ (u.2.2.2.1 19).toInt = (v.2.2.2.1 12).toInt)) (hu0 : u.1 0 = o1) (hv0 : v.1 0 = o2) (H : Heap) (locs : List Loc) (ls : Array Slot) (hP : va_P D gcl (wX cB cC cI cJ u ++ wM cB cC cI cJ v) H) (hD : va_D (fun q : Nat => s.heap.size ≤ q) (wX cB cC cI cJ u ++ wM cB cC cI cJ v)) (hS : va_S (fun q : Nat => s.heap.size ≤ q) s.heap H locs) (hl : lv_has ls 4 [(3, .int i), (2, .ref o2), (1, .ref o1), (0, .ref b)])
    (kk : ∀ (u v : gEx) (H : Heap) (locs : List Loc) (ls : Array Slot), fX u → fM v → tEq (u.2.1 4) (u.2.2.2.1 7).toInt (v.2.1 0) (v.2.2.2.1 0).toInt ∧ ((u.2.2.2.1 5).toInt = (v.2.2.2.1 6).toInt ∧ (u.2.2.2.1 6).toInt = (v.2.2.2.1 7).toInt ∧ (u.2.2.2.1 15).toInt = (v.2.2.2.1 8).toInt ∧ (u.2.2.2.1 16).toInt = (v.2.2.2.1 9).toInt ∧ (u.2.2.2.1 17).toInt = (v.2.2.2.1 10).toInt ∧ (u.2.2.2.1 18).toInt = (v.2.2.2.1 11).toInt ∧ (u.2.2.2.1 19).toInt = (v.2.2.2.1 12).toInt) → u.1 0 = o1 → v.1 0 = o2 → va_P D gcl (wX cB cC cI cJ u ++ wM cB cC cI cJ v) H → va_D (fun q : Nat => s.heap.size ≤ q) (wX cB cC cI cJ u ++ wM cB cC cI cJ v) → va_S (fun q : Nat => s.heap.size ≤ q) s.heap H locs → lv_has ls 4 [(3, .int i), (2, .ref o2), (1, .ref o1), (0, .ref b)] → W p l e room_1 s m #[Value.ref b] below meth c H locs 126 15724 (lw_Z below #[Value.ref b] s) (F0 m 1519 ls [])) : W p l e room_1 s m #[Value.ref b] below meth c H locs 126 15724 (lw_Z below #[Value.ref b] s) (F0 m 350 ls []) := by
  subst hu0
  subst hv0
  have hlen := heq.1.1
  have hreg := heq.2
  obtain ⟨hx, hb, hr, hml, hown, hts0, hX, hbl, hlocks, hgv⟩ := id C0
  have hts := g_tbl hts0
  have hbA : ¬ (fun q : Nat => s.heap.size ≤ q) b := Nat.not_le.mpr hbl
  refine lv_aload_n (pc := 350) hx hb dL_law_350 rfl (lv_at hl 2 rfl) ?_
  refine lv_aload_n (pc := 351) hx hb dL_law_351 rfl (lv_at hl 3 rfl) ?_
  refine lv_iload_n (pc := 352) hx hb dL_law_352 rfl (lv_at hl 0 rfl) ?_
  refine lv_iconst (pc := 353) (v := 1) hx hb dL_law_353 (by decide) ?_
  refine b_iadd (pc := 354) hx hb rfl tI_1 (by omega) (by omega) dL_law_354 (fun x_1 ex_1 => ?_)
  refine va_sld (pc := 355) hx hb hX hbl hbA hS (n_in rfl (by omega) (by omega)) dL_law_355 ?_
  refine lv_topi (fun x_2 ex_2 => ?_)
  have rx_2 := n_rng x_2
  have tx_2 := congrArg Int32.toInt (e_ld (f := xs) (show x_2 = xs (x_1.toInt).toNat from ex_2) (show x_1.toInt = (i.toInt) + (1) by omega))
  refine cc_356 C0 hK hF u hfX hl x_2 hP hD hS (fun r_3 w_4 H locs hf_5 ho_6 he_7 he_8 he_9 hP hD hS => ?_)
  have rr_3 := n_rng r_3
  refine lv_pop (pc := 359) hx hb dL_law_359 rfl ?_
  refine lv_aload_n (pc := 360) hx hb dL_law_360 rfl (lv_at hl 1 rfl) ?_
  refine lv_aload_n (pc := 361) hx hb dL_law_361 rfl (lv_at hl 3 rfl) ?_
  refine lv_iload_n (pc := 362) hx hb dL_law_362 rfl (lv_at hl 0 rfl) ?_
  refine lv_iconst (pc := 363) (v := 1) hx hb dL_law_363 (by decide) ?_
  refine b_iadd (pc := 364) hx hb rfl tI_1 (by omega) (by omega) dL_law_364 (fun x_10 ex_10 => ?_)
  refine va_sld (pc := 365) hx hb hX hbl hbA hS (n_in rfl (by omega) (by omega)) dL_law_365 ?_
  refine lv_topi (fun x_11 ex_11 => ?_)
  have rx_11 := n_rng x_11
  have tx_11 := congrArg Int32.toInt (e_ld (f := xs) (show x_11 = xs (x_10.toInt).toNat from ex_11) (show x_10.toInt = (i.toInt) + (1) by omega))
  have hP : va_P D gcl (wM cB cC cI cJ v ++ wX cB cC cI cJ w_4) H := va_P.swap (a := []) (b := wX cB cC cI cJ w_4) (c := wM cB cC cI cJ v) hP
  have hD : va_D (fun q : Nat => s.heap.size ≤ q) (wM cB cC cI cJ v ++ wX cB cC cI cJ w_4) := va_D.swap (a := []) (b := wX cB cC cI cJ w_4) (c := wM cB cC cI cJ v) hD
  refine cc_366 C0 hK hF v hfM hl x_11 hP hD hS (fun r_12 w_13 H locs hf_14 ho_15 he_16 he_17 he_18 hP hD hS => ?_)
  have rr_12 := n_rng r_12
  refine lv_pop (pc := 369) hx hb dL_law_369 rfl ?_
  refine lv_goto (pc := 370) (tgt := 1519) hx hb dL_law_370 (by decide) ?_
  exact kk w_4 w_13 H locs ls hf_5 hf_14 ⟨te_cut heq.1 he_8 he_17 (by omega) (by omega), by omega⟩ ho_6 ho_15 (va_P.swap (a := []) (b := wM cB cC cI cJ w_13) (c := wX cB cC cI cJ w_4) hP) (va_D.swap (a := []) (b := wM cB cC cI cJ w_13) (c := wX cB cC cI cJ w_4) hD) hS hl
set_option maxHeartbeats 8000000 in
set_option maxRecDepth 100000 in
theorem lo_5 {p : Program} {l : Launch} {e : Env} {s : State} {m : MethodId} {below : List Frame} {meth : Method} {c : Code} {D : va_G} {cB cC cI cJ : ClassId} {b L : Nat} {xs : Nat → Int32} {adK adV : Nat → Nat} (C0 : lw_At p s m meth c b L xs) (hLN : L ≤ 3072) (hK : va_K D gcl [(cB, .byte), (cC, .char), (cI, .int), (cJ, .long)] s) (hF : sF adK adV (fun q : Nat => s.heap.size ≤ q) s s.heap) (o1 o2 : Nat) (i : Int32) (hi0 : 0 ≤ i.toInt) (hi1 : i.toInt + 6 ≤ (L : Int)) (u v : gEx) (hfX : fX u) (hfM : fM v) (heq : tEq (u.2.1 4) (u.2.2.2.1 7).toInt (v.2.1 0) (v.2.2.2.1 0).toInt ∧ ((u.2.2.2.1 5).toInt = (v.2.2.2.1 6).toInt ∧ (u.2.2.2.1 6).toInt = (v.2.2.2.1 7).toInt ∧ (u.2.2.2.1 15).toInt = (v.2.2.2.1 8).toInt ∧ (u.2.2.2.1 16).toInt = (v.2.2.2.1 9).toInt ∧ (u.2.2.2.1 17).toInt = (v.2.2.2.1 10).toInt ∧ (u.2.2.2.1 18).toInt = (v.2.2.2.1 11).toInt ∧ (u.2.2.2.1 19).toInt = (v.2.2.2.1 12).toInt)) (hu0 : u.1 0 = o1) (hv0 : v.1 0 = o2) (H : Heap) (locs : List Loc) (ls : Array Slot) (hP : va_P D gcl (wX cB cC cI cJ u ++ wM cB cC cI cJ v) H) (hD : va_D (fun q : Nat => s.heap.size ≤ q) (wX cB cC cI cJ u ++ wM cB cC cI cJ v)) (hS : va_S (fun q : Nat => s.heap.size ≤ q) s.heap H locs) (hl : lv_has ls 4 [(3, .int i), (2, .ref o2), (1, .ref o1), (0, .ref b)])
    (kk : ∀ (u v : gEx) (H : Heap) (locs : List Loc) (ls : Array Slot), fX u → fM v → tEq (u.2.1 4) (u.2.2.2.1 7).toInt (v.2.1 0) (v.2.2.2.1 0).toInt ∧ ((u.2.2.2.1 5).toInt = (v.2.2.2.1 6).toInt ∧ (u.2.2.2.1 6).toInt = (v.2.2.2.1 7).toInt ∧ (u.2.2.2.1 15).toInt = (v.2.2.2.1 8).toInt ∧ (u.2.2.2.1 16).toInt = (v.2.2.2.1 9).toInt ∧ (u.2.2.2.1 17).toInt = (v.2.2.2.1 10).toInt ∧ (u.2.2.2.1 18).toInt = (v.2.2.2.1 11).toInt ∧ (u.2.2.2.1 19).toInt = (v.2.2.2.1 12).toInt) → u.1 0 = o1 → v.1 0 = o2 → va_P D gcl (wX cB cC cI cJ u ++ wM cB cC cI cJ v) H → va_D (fun q : Nat => s.heap.size ≤ q) (wX cB cC cI cJ u ++ wM cB cC cI cJ v) → va_S (fun q : Nat => s.heap.size ≤ q) s.heap H locs → lv_has ls 4 [(3, .int i), (2, .ref o2), (1, .ref o1), (0, .ref b)] → W p l e room_1 s m #[Value.ref b] below meth c H locs 126 15724 (lw_Z below #[Value.ref b] s) (F0 m 1519 ls [])) : W p l e room_1 s m #[Value.ref b] below meth c H locs 126 15724 (lw_Z below #[Value.ref b] s) (F0 m 373 ls []) := by
  subst hu0
  subst hv0
  have hlen := heq.1.1
  have hreg := heq.2
  obtain ⟨hx, hb, hr, hml, hown, hts0, hX, hbl, hlocks, hgv⟩ := id C0
  have hts := g_tbl hts0
  have hbA : ¬ (fun q : Nat => s.heap.size ≤ q) b := Nat.not_le.mpr hbl
  refine lv_aload_n (pc := 373) hx hb dL_law_373 rfl (lv_at hl 2 rfl) ?_
  refine lv_aload_n (pc := 374) hx hb dL_law_374 rfl (lv_at hl 3 rfl) ?_
  refine lv_iload_n (pc := 375) hx hb dL_law_375 rfl (lv_at hl 0 rfl) ?_
  refine lv_iconst (pc := 376) (v := 1) hx hb dL_law_376 (by decide) ?_
  refine b_iadd (pc := 377) hx hb rfl tI_1 (by omega) (by omega) dL_law_377 (fun x_1 ex_1 => ?_)
  refine va_sld (pc := 378) hx hb hX hbl hbA hS (n_in rfl (by omega) (by omega)) dL_law_378 ?_
  refine lv_topi (fun x_2 ex_2 => ?_)
  have rx_2 := n_rng x_2
  have tx_2 := congrArg Int32.toInt (e_ld (f := xs) (show x_2 = xs (x_1.toInt).toNat from ex_2) (show x_1.toInt = (i.toInt) + (1) by omega))
  refine lv_aload_n (pc := 379) hx hb dL_law_379 rfl (lv_at hl 3 rfl) ?_
  refine lv_iload_n (pc := 380) hx hb dL_law_380 rfl (lv_at hl 0 rfl) ?_
  refine lv_iconst (pc := 381) (v := 2) hx hb dL_law_381 (by decide) ?_
  refine b_iadd (pc := 382) hx hb rfl tI_2 (by omega) (by omega) dL_law_382 (fun x_3 ex_3 => ?_)
  refine va_sld (pc := 383) hx hb hX hbl hbA hS (n_in rfl (by omega) (by omega)) dL_law_383 ?_
  refine lv_topi (fun x_4 ex_4 => ?_)
  have rx_4 := n_rng x_4
  have tx_4 := congrArg Int32.toInt (e_ld (f := xs) (show x_4 = xs (x_3.toInt).toNat from ex_4) (show x_3.toInt = (i.toInt) + (2) by omega))
  refine lv_aload_n (pc := 384) hx hb dL_law_384 rfl (lv_at hl 3 rfl) ?_
  refine lv_iload_n (pc := 385) hx hb dL_law_385 rfl (lv_at hl 0 rfl) ?_
  refine lv_iconst (pc := 386) (v := 3) hx hb dL_law_386 (by decide) ?_
  refine b_iadd (pc := 387) hx hb rfl tI_3 (by omega) (by omega) dL_law_387 (fun x_5 ex_5 => ?_)
  refine va_sld (pc := 388) hx hb hX hbl hbA hS (n_in rfl (by omega) (by omega)) dL_law_388 ?_
  refine lv_topi (fun x_6 ex_6 => ?_)
  have rx_6 := n_rng x_6
  have tx_6 := congrArg Int32.toInt (e_ld (f := xs) (show x_6 = xs (x_5.toInt).toNat from ex_6) (show x_5.toInt = (i.toInt) + (3) by omega))
  refine b_if_eq (pc := 389) (tgt := 396) hx hb rfl  dL_law_389 (by decide) (fun c_7 => ?_) (fun c_7 => ?_)
  ·
    refine lv_iconst (pc := 396) (v := 0) hx hb dL_law_396 (by decide) ?_
    refine cc_397 C0 hK hF u hfX hl x_2 x_4 (0 : Int32) (by rw [tI_0]; decide) hP hD hS (fun r_8 w_9 H locs hf_10 ho_11 he_12 he_13 he_14 hP hD hS => ?_)
    have rr_8 := n_rng r_8
    refine lv_pop (pc := 400) hx hb dL_law_400 rfl ?_
    refine lv_aload_n (pc := 401) hx hb dL_law_401 rfl (lv_at hl 1 rfl) ?_
    refine lv_aload_n (pc := 402) hx hb dL_law_402 rfl (lv_at hl 3 rfl) ?_
    refine lv_iload_n (pc := 403) hx hb dL_law_403 rfl (lv_at hl 0 rfl) ?_
    refine lv_iconst (pc := 404) (v := 1) hx hb dL_law_404 (by decide) ?_
    refine b_iadd (pc := 405) hx hb rfl tI_1 (by omega) (by omega) dL_law_405 (fun x_15 ex_15 => ?_)
    refine va_sld (pc := 406) hx hb hX hbl hbA hS (n_in rfl (by omega) (by omega)) dL_law_406 ?_
    refine lv_topi (fun x_16 ex_16 => ?_)
    have rx_16 := n_rng x_16
    have tx_16 := congrArg Int32.toInt (e_ld (f := xs) (show x_16 = xs (x_15.toInt).toNat from ex_16) (show x_15.toInt = (i.toInt) + (1) by omega))
    refine lv_aload_n (pc := 407) hx hb dL_law_407 rfl (lv_at hl 3 rfl) ?_
    refine lv_iload_n (pc := 408) hx hb dL_law_408 rfl (lv_at hl 0 rfl) ?_
    refine lv_iconst (pc := 409) (v := 2) hx hb dL_law_409 (by decide) ?_
    refine b_iadd (pc := 410) hx hb rfl tI_2 (by omega) (by omega) dL_law_410 (fun x_17 ex_17 => ?_)
    refine va_sld (pc := 411) hx hb hX hbl hbA hS (n_in rfl (by omega) (by omega)) dL_law_411 ?_
    refine lv_topi (fun x_18 ex_18 => ?_)
    have rx_18 := n_rng x_18
    have tx_18 := congrArg Int32.toInt (e_ld (f := xs) (show x_18 = xs (x_17.toInt).toNat from ex_18) (show x_17.toInt = (i.toInt) + (2) by omega))
    refine lv_aload_n (pc := 412) hx hb dL_law_412 rfl (lv_at hl 3 rfl) ?_
    refine lv_iload_n (pc := 413) hx hb dL_law_413 rfl (lv_at hl 0 rfl) ?_
    refine lv_iconst (pc := 414) (v := 3) hx hb dL_law_414 (by decide) ?_
    refine b_iadd (pc := 415) hx hb rfl tI_3 (by omega) (by omega) dL_law_415 (fun x_19 ex_19 => ?_)
    refine va_sld (pc := 416) hx hb hX hbl hbA hS (n_in rfl (by omega) (by omega)) dL_law_416 ?_
    refine lv_topi (fun x_20 ex_20 => ?_)
    have rx_20 := n_rng x_20
    have tx_20 := congrArg Int32.toInt (e_ld (f := xs) (show x_20 = xs (x_19.toInt).toNat from ex_20) (show x_19.toInt = (i.toInt) + (3) by omega))
    refine b_if_eq (pc := 417) (tgt := 424) hx hb rfl  dL_law_417 (by decide) (fun c_21 => ?_) (fun c_21 => ?_)
    ·
      refine lv_iconst (pc := 424) (v := 0) hx hb dL_law_424 (by decide) ?_
      have hP : va_P D gcl (wM cB cC cI cJ v ++ wX cB cC cI cJ w_9) H := va_P.swap (a := []) (b := wX cB cC cI cJ w_9) (c := wM cB cC cI cJ v) hP
      have hD : va_D (fun q : Nat => s.heap.size ≤ q) (wM cB cC cI cJ v ++ wX cB cC cI cJ w_9) := va_D.swap (a := []) (b := wX cB cC cI cJ w_9) (c := wM cB cC cI cJ v) hD
      refine cc_425 C0 hK hF v hfM hl x_16 x_18 (0 : Int32) (by rw [tI_0]; decide) hP hD hS (fun r_22 w_23 H locs hf_24 ho_25 he_26 he_27 he_28 hP hD hS => ?_)
      have rr_22 := n_rng r_22
      refine lv_pop (pc := 428) hx hb dL_law_428 rfl ?_
      refine lv_goto (pc := 429) (tgt := 1519) hx hb dL_law_429 (by decide) ?_
      exact kk w_9 w_23 H locs ls hf_10 hf_24 ⟨te_cut heq.1 he_13 he_27 (by omega) (by omega), by omega⟩ ho_11 ho_25 (va_P.swap (a := []) (b := wM cB cC cI cJ w_23) (c := wX cB cC cI cJ w_9) hP) (va_D.swap (a := []) (b := wM cB cC cI cJ w_23) (c := wX cB cC cI cJ w_9) hD) hS hl
    ·
      refine lv_iconst (pc := 420) (v := 1) hx hb dL_law_420 (by decide) ?_
      refine lv_goto (pc := 421) (tgt := 425) hx hb dL_law_421 (by decide) ?_
      have hP : va_P D gcl (wM cB cC cI cJ v ++ wX cB cC cI cJ w_9) H := va_P.swap (a := []) (b := wX cB cC cI cJ w_9) (c := wM cB cC cI cJ v) hP
      have hD : va_D (fun q : Nat => s.heap.size ≤ q) (wM cB cC cI cJ v ++ wX cB cC cI cJ w_9) := va_D.swap (a := []) (b := wX cB cC cI cJ w_9) (c := wM cB cC cI cJ v) hD
      refine cc_425 C0 hK hF v hfM hl x_16 x_18 (1 : Int32) (by rw [tI_1]; decide) hP hD hS (fun r_29 w_30 H locs hf_31 ho_32 he_33 he_34 he_35 hP hD hS => ?_)
      have rr_29 := n_rng r_29
      refine lv_pop (pc := 428) hx hb dL_law_428 rfl ?_
      refine lv_goto (pc := 429) (tgt := 1519) hx hb dL_law_429 (by decide) ?_
      exact kk w_9 w_30 H locs ls hf_10 hf_31 ⟨te_cut heq.1 he_13 he_34 (by omega) (by omega), by omega⟩ ho_11 ho_32 (va_P.swap (a := []) (b := wM cB cC cI cJ w_30) (c := wX cB cC cI cJ w_9) hP) (va_D.swap (a := []) (b := wM cB cC cI cJ w_30) (c := wX cB cC cI cJ w_9) hD) hS hl
  ·
    refine lv_iconst (pc := 392) (v := 1) hx hb dL_law_392 (by decide) ?_
    refine lv_goto (pc := 393) (tgt := 397) hx hb dL_law_393 (by decide) ?_
    refine cc_397 C0 hK hF u hfX hl x_2 x_4 (1 : Int32) (by rw [tI_1]; decide) hP hD hS (fun r_36 w_37 H locs hf_38 ho_39 he_40 he_41 he_42 hP hD hS => ?_)
    have rr_36 := n_rng r_36
    refine lv_pop (pc := 400) hx hb dL_law_400 rfl ?_
    refine lv_aload_n (pc := 401) hx hb dL_law_401 rfl (lv_at hl 1 rfl) ?_
    refine lv_aload_n (pc := 402) hx hb dL_law_402 rfl (lv_at hl 3 rfl) ?_
    refine lv_iload_n (pc := 403) hx hb dL_law_403 rfl (lv_at hl 0 rfl) ?_
    refine lv_iconst (pc := 404) (v := 1) hx hb dL_law_404 (by decide) ?_
    refine b_iadd (pc := 405) hx hb rfl tI_1 (by omega) (by omega) dL_law_405 (fun x_43 ex_43 => ?_)
    refine va_sld (pc := 406) hx hb hX hbl hbA hS (n_in rfl (by omega) (by omega)) dL_law_406 ?_
    refine lv_topi (fun x_44 ex_44 => ?_)
    have rx_44 := n_rng x_44
    have tx_44 := congrArg Int32.toInt (e_ld (f := xs) (show x_44 = xs (x_43.toInt).toNat from ex_44) (show x_43.toInt = (i.toInt) + (1) by omega))
    refine lv_aload_n (pc := 407) hx hb dL_law_407 rfl (lv_at hl 3 rfl) ?_
    refine lv_iload_n (pc := 408) hx hb dL_law_408 rfl (lv_at hl 0 rfl) ?_
    refine lv_iconst (pc := 409) (v := 2) hx hb dL_law_409 (by decide) ?_
    refine b_iadd (pc := 410) hx hb rfl tI_2 (by omega) (by omega) dL_law_410 (fun x_45 ex_45 => ?_)
    refine va_sld (pc := 411) hx hb hX hbl hbA hS (n_in rfl (by omega) (by omega)) dL_law_411 ?_
    refine lv_topi (fun x_46 ex_46 => ?_)
    have rx_46 := n_rng x_46
    have tx_46 := congrArg Int32.toInt (e_ld (f := xs) (show x_46 = xs (x_45.toInt).toNat from ex_46) (show x_45.toInt = (i.toInt) + (2) by omega))
    refine lv_aload_n (pc := 412) hx hb dL_law_412 rfl (lv_at hl 3 rfl) ?_
    refine lv_iload_n (pc := 413) hx hb dL_law_413 rfl (lv_at hl 0 rfl) ?_
    refine lv_iconst (pc := 414) (v := 3) hx hb dL_law_414 (by decide) ?_
    refine b_iadd (pc := 415) hx hb rfl tI_3 (by omega) (by omega) dL_law_415 (fun x_47 ex_47 => ?_)
    refine va_sld (pc := 416) hx hb hX hbl hbA hS (n_in rfl (by omega) (by omega)) dL_law_416 ?_
    refine lv_topi (fun x_48 ex_48 => ?_)
    have rx_48 := n_rng x_48
    have tx_48 := congrArg Int32.toInt (e_ld (f := xs) (show x_48 = xs (x_47.toInt).toNat from ex_48) (show x_47.toInt = (i.toInt) + (3) by omega))
    refine b_if_eq (pc := 417) (tgt := 424) hx hb rfl  dL_law_417 (by decide) (fun c_49 => ?_) (fun c_49 => ?_)
    ·
      refine lv_iconst (pc := 424) (v := 0) hx hb dL_law_424 (by decide) ?_
      have hP : va_P D gcl (wM cB cC cI cJ v ++ wX cB cC cI cJ w_37) H := va_P.swap (a := []) (b := wX cB cC cI cJ w_37) (c := wM cB cC cI cJ v) hP
      have hD : va_D (fun q : Nat => s.heap.size ≤ q) (wM cB cC cI cJ v ++ wX cB cC cI cJ w_37) := va_D.swap (a := []) (b := wX cB cC cI cJ w_37) (c := wM cB cC cI cJ v) hD
      refine cc_425 C0 hK hF v hfM hl x_44 x_46 (0 : Int32) (by rw [tI_0]; decide) hP hD hS (fun r_50 w_51 H locs hf_52 ho_53 he_54 he_55 he_56 hP hD hS => ?_)
      have rr_50 := n_rng r_50
      refine lv_pop (pc := 428) hx hb dL_law_428 rfl ?_
      refine lv_goto (pc := 429) (tgt := 1519) hx hb dL_law_429 (by decide) ?_
      exact kk w_37 w_51 H locs ls hf_38 hf_52 ⟨te_cut heq.1 he_41 he_55 (by omega) (by omega), by omega⟩ ho_39 ho_53 (va_P.swap (a := []) (b := wM cB cC cI cJ w_51) (c := wX cB cC cI cJ w_37) hP) (va_D.swap (a := []) (b := wM cB cC cI cJ w_51) (c := wX cB cC cI cJ w_37) hD) hS hl
    ·
      refine lv_iconst (pc := 420) (v := 1) hx hb dL_law_420 (by decide) ?_
      refine lv_goto (pc := 421) (tgt := 425) hx hb dL_law_421 (by decide) ?_
      have hP : va_P D gcl (wM cB cC cI cJ v ++ wX cB cC cI cJ w_37) H := va_P.swap (a := []) (b := wX cB cC cI cJ w_37) (c := wM cB cC cI cJ v) hP
      have hD : va_D (fun q : Nat => s.heap.size ≤ q) (wM cB cC cI cJ v ++ wX cB cC cI cJ w_37) := va_D.swap (a := []) (b := wX cB cC cI cJ w_37) (c := wM cB cC cI cJ v) hD
      refine cc_425 C0 hK hF v hfM hl x_44 x_46 (1 : Int32) (by rw [tI_1]; decide) hP hD hS (fun r_57 w_58 H locs hf_59 ho_60 he_61 he_62 he_63 hP hD hS => ?_)
      have rr_57 := n_rng r_57
      refine lv_pop (pc := 428) hx hb dL_law_428 rfl ?_
      refine lv_goto (pc := 429) (tgt := 1519) hx hb dL_law_429 (by decide) ?_
      exact kk w_37 w_58 H locs ls hf_38 hf_59 ⟨te_cut heq.1 he_41 he_62 (by omega) (by omega), by omega⟩ ho_39 ho_60 (va_P.swap (a := []) (b := wM cB cC cI cJ w_58) (c := wX cB cC cI cJ w_37) hP) (va_D.swap (a := []) (b := wM cB cC cI cJ w_58) (c := wX cB cC cI cJ w_37) hD) hS hl
set_option maxHeartbeats 8000000 in
set_option maxRecDepth 100000 in
theorem lo_6 {p : Program} {l : Launch} {e : Env} {s : State} {m : MethodId} {below : List Frame} {meth : Method} {c : Code} {D : va_G} {cB cC cI cJ : ClassId} {b L : Nat} {xs : Nat → Int32} {adK adV : Nat → Nat} (C0 : lw_At p s m meth c b L xs) (hLN : L ≤ 3072) (hK : va_K D gcl [(cB, .byte), (cC, .char), (cI, .int), (cJ, .long)] s) (hF : sF adK adV (fun q : Nat => s.heap.size ≤ q) s s.heap) (o1 o2 : Nat) (i : Int32) (hi0 : 0 ≤ i.toInt) (hi1 : i.toInt + 6 ≤ (L : Int)) (u v : gEx) (hfX : fX u) (hfM : fM v) (heq : tEq (u.2.1 4) (u.2.2.2.1 7).toInt (v.2.1 0) (v.2.2.2.1 0).toInt ∧ ((u.2.2.2.1 5).toInt = (v.2.2.2.1 6).toInt ∧ (u.2.2.2.1 6).toInt = (v.2.2.2.1 7).toInt ∧ (u.2.2.2.1 15).toInt = (v.2.2.2.1 8).toInt ∧ (u.2.2.2.1 16).toInt = (v.2.2.2.1 9).toInt ∧ (u.2.2.2.1 17).toInt = (v.2.2.2.1 10).toInt ∧ (u.2.2.2.1 18).toInt = (v.2.2.2.1 11).toInt ∧ (u.2.2.2.1 19).toInt = (v.2.2.2.1 12).toInt)) (hu0 : u.1 0 = o1) (hv0 : v.1 0 = o2) (H : Heap) (locs : List Loc) (ls : Array Slot) (hP : va_P D gcl (wX cB cC cI cJ u ++ wM cB cC cI cJ v) H) (hD : va_D (fun q : Nat => s.heap.size ≤ q) (wX cB cC cI cJ u ++ wM cB cC cI cJ v)) (hS : va_S (fun q : Nat => s.heap.size ≤ q) s.heap H locs) (hl : lv_has ls 4 [(3, .int i), (2, .ref o2), (1, .ref o1), (0, .ref b)])
    (kk : ∀ (u v : gEx) (H : Heap) (locs : List Loc) (ls : Array Slot), fX u → fM v → tEq (u.2.1 4) (u.2.2.2.1 7).toInt (v.2.1 0) (v.2.2.2.1 0).toInt ∧ ((u.2.2.2.1 5).toInt = (v.2.2.2.1 6).toInt ∧ (u.2.2.2.1 6).toInt = (v.2.2.2.1 7).toInt ∧ (u.2.2.2.1 15).toInt = (v.2.2.2.1 8).toInt ∧ (u.2.2.2.1 16).toInt = (v.2.2.2.1 9).toInt ∧ (u.2.2.2.1 17).toInt = (v.2.2.2.1 10).toInt ∧ (u.2.2.2.1 18).toInt = (v.2.2.2.1 11).toInt ∧ (u.2.2.2.1 19).toInt = (v.2.2.2.1 12).toInt) → u.1 0 = o1 → v.1 0 = o2 → va_P D gcl (wX cB cC cI cJ u ++ wM cB cC cI cJ v) H → va_D (fun q : Nat => s.heap.size ≤ q) (wX cB cC cI cJ u ++ wM cB cC cI cJ v) → va_S (fun q : Nat => s.heap.size ≤ q) s.heap H locs → lv_has ls 4 [(3, .int i), (2, .ref o2), (1, .ref o1), (0, .ref b)] → W p l e room_1 s m #[Value.ref b] below meth c H locs 126 15724 (lw_Z below #[Value.ref b] s) (F0 m 1519 ls [])) : W p l e room_1 s m #[Value.ref b] below meth c H locs 126 15724 (lw_Z below #[Value.ref b] s) (F0 m 432 ls []) := by
  subst hu0
  subst hv0
  have hlen := heq.1.1
  have hreg := heq.2
  obtain ⟨hx, hb, hr, hml, hown, hts0, hX, hbl, hlocks, hgv⟩ := id C0
  have hts := g_tbl hts0
  have hbA : ¬ (fun q : Nat => s.heap.size ≤ q) b := Nat.not_le.mpr hbl
  refine lv_aload_n (pc := 432) hx hb dL_law_432 rfl (lv_at hl 2 rfl) ?_
  refine lv_aload_n (pc := 433) hx hb dL_law_433 rfl (lv_at hl 3 rfl) ?_
  refine lv_iload_n (pc := 434) hx hb dL_law_434 rfl (lv_at hl 0 rfl) ?_
  refine lv_iconst (pc := 435) (v := 1) hx hb dL_law_435 (by decide) ?_
  refine b_iadd (pc := 436) hx hb rfl tI_1 (by omega) (by omega) dL_law_436 (fun x_1 ex_1 => ?_)
  refine va_sld (pc := 437) hx hb hX hbl hbA hS (n_in rfl (by omega) (by omega)) dL_law_437 ?_
  refine lv_topi (fun x_2 ex_2 => ?_)
  have rx_2 := n_rng x_2
  have tx_2 := congrArg Int32.toInt (e_ld (f := xs) (show x_2 = xs (x_1.toInt).toNat from ex_2) (show x_1.toInt = (i.toInt) + (1) by omega))
  refine lv_aload_n (pc := 438) hx hb dL_law_438 rfl (lv_at hl 3 rfl) ?_
  refine lv_iload_n (pc := 439) hx hb dL_law_439 rfl (lv_at hl 0 rfl) ?_
  refine lv_iconst (pc := 440) (v := 2) hx hb dL_law_440 (by decide) ?_
  refine b_iadd (pc := 441) hx hb rfl tI_2 (by omega) (by omega) dL_law_441 (fun x_3 ex_3 => ?_)
  refine va_sld (pc := 442) hx hb hX hbl hbA hS (n_in rfl (by omega) (by omega)) dL_law_442 ?_
  refine lv_topi (fun x_4 ex_4 => ?_)
  have rx_4 := n_rng x_4
  have tx_4 := congrArg Int32.toInt (e_ld (f := xs) (show x_4 = xs (x_3.toInt).toNat from ex_4) (show x_3.toInt = (i.toInt) + (2) by omega))
  refine lv_aload_n (pc := 443) hx hb dL_law_443 rfl (lv_at hl 3 rfl) ?_
  refine lv_iload_n (pc := 444) hx hb dL_law_444 rfl (lv_at hl 0 rfl) ?_
  refine lv_iconst (pc := 445) (v := 3) hx hb dL_law_445 (by decide) ?_
  refine b_iadd (pc := 446) hx hb rfl tI_3 (by omega) (by omega) dL_law_446 (fun x_5 ex_5 => ?_)
  refine va_sld (pc := 447) hx hb hX hbl hbA hS (n_in rfl (by omega) (by omega)) dL_law_447 ?_
  refine lv_topi (fun x_6 ex_6 => ?_)
  have rx_6 := n_rng x_6
  have tx_6 := congrArg Int32.toInt (e_ld (f := xs) (show x_6 = xs (x_5.toInt).toNat from ex_6) (show x_5.toInt = (i.toInt) + (3) by omega))
  refine b_if_eq (pc := 448) (tgt := 455) hx hb rfl  dL_law_448 (by decide) (fun c_7 => ?_) (fun c_7 => ?_)
  ·
    refine lv_iconst (pc := 455) (v := 0) hx hb dL_law_455 (by decide) ?_
    refine cc_456 C0 hK hF u hfX hl x_2 x_4 (0 : Int32) (by rw [tI_0]; decide) hP hD hS (fun r_8 w_9 H locs hf_10 ho_11 he_12 he_13 he_14 hP hD hS => ?_)
    have rr_8 := n_rng r_8
    refine lv_pop (pc := 459) hx hb dL_law_459 rfl ?_
    refine lv_aload_n (pc := 460) hx hb dL_law_460 rfl (lv_at hl 1 rfl) ?_
    refine lv_aload_n (pc := 461) hx hb dL_law_461 rfl (lv_at hl 3 rfl) ?_
    refine lv_iload_n (pc := 462) hx hb dL_law_462 rfl (lv_at hl 0 rfl) ?_
    refine lv_iconst (pc := 463) (v := 1) hx hb dL_law_463 (by decide) ?_
    refine b_iadd (pc := 464) hx hb rfl tI_1 (by omega) (by omega) dL_law_464 (fun x_15 ex_15 => ?_)
    refine va_sld (pc := 465) hx hb hX hbl hbA hS (n_in rfl (by omega) (by omega)) dL_law_465 ?_
    refine lv_topi (fun x_16 ex_16 => ?_)
    have rx_16 := n_rng x_16
    have tx_16 := congrArg Int32.toInt (e_ld (f := xs) (show x_16 = xs (x_15.toInt).toNat from ex_16) (show x_15.toInt = (i.toInt) + (1) by omega))
    refine lv_aload_n (pc := 466) hx hb dL_law_466 rfl (lv_at hl 3 rfl) ?_
    refine lv_iload_n (pc := 467) hx hb dL_law_467 rfl (lv_at hl 0 rfl) ?_
    refine lv_iconst (pc := 468) (v := 2) hx hb dL_law_468 (by decide) ?_
    refine b_iadd (pc := 469) hx hb rfl tI_2 (by omega) (by omega) dL_law_469 (fun x_17 ex_17 => ?_)
    refine va_sld (pc := 470) hx hb hX hbl hbA hS (n_in rfl (by omega) (by omega)) dL_law_470 ?_
    refine lv_topi (fun x_18 ex_18 => ?_)
    have rx_18 := n_rng x_18
    have tx_18 := congrArg Int32.toInt (e_ld (f := xs) (show x_18 = xs (x_17.toInt).toNat from ex_18) (show x_17.toInt = (i.toInt) + (2) by omega))
    refine lv_aload_n (pc := 471) hx hb dL_law_471 rfl (lv_at hl 3 rfl) ?_
    refine lv_iload_n (pc := 472) hx hb dL_law_472 rfl (lv_at hl 0 rfl) ?_
    refine lv_iconst (pc := 473) (v := 3) hx hb dL_law_473 (by decide) ?_
    refine b_iadd (pc := 474) hx hb rfl tI_3 (by omega) (by omega) dL_law_474 (fun x_19 ex_19 => ?_)
    refine va_sld (pc := 475) hx hb hX hbl hbA hS (n_in rfl (by omega) (by omega)) dL_law_475 ?_
    refine lv_topi (fun x_20 ex_20 => ?_)
    have rx_20 := n_rng x_20
    have tx_20 := congrArg Int32.toInt (e_ld (f := xs) (show x_20 = xs (x_19.toInt).toNat from ex_20) (show x_19.toInt = (i.toInt) + (3) by omega))
    refine b_if_eq (pc := 476) (tgt := 483) hx hb rfl  dL_law_476 (by decide) (fun c_21 => ?_) (fun c_21 => ?_)
    ·
      refine lv_iconst (pc := 483) (v := 0) hx hb dL_law_483 (by decide) ?_
      have hP : va_P D gcl (wM cB cC cI cJ v ++ wX cB cC cI cJ w_9) H := va_P.swap (a := []) (b := wX cB cC cI cJ w_9) (c := wM cB cC cI cJ v) hP
      have hD : va_D (fun q : Nat => s.heap.size ≤ q) (wM cB cC cI cJ v ++ wX cB cC cI cJ w_9) := va_D.swap (a := []) (b := wX cB cC cI cJ w_9) (c := wM cB cC cI cJ v) hD
      refine cc_484 C0 hK hF v hfM hl x_16 x_18 (0 : Int32) (by rw [tI_0]; decide) hP hD hS (fun r_22 w_23 H locs hf_24 ho_25 he_26 he_27 he_28 hP hD hS => ?_)
      have rr_22 := n_rng r_22
      refine lv_pop (pc := 487) hx hb dL_law_487 rfl ?_
      refine lv_goto (pc := 488) (tgt := 1519) hx hb dL_law_488 (by decide) ?_
      exact kk w_9 w_23 H locs ls hf_10 hf_24 ⟨te_cut heq.1 he_13 he_27 (by omega) (by omega), by omega⟩ ho_11 ho_25 (va_P.swap (a := []) (b := wM cB cC cI cJ w_23) (c := wX cB cC cI cJ w_9) hP) (va_D.swap (a := []) (b := wM cB cC cI cJ w_23) (c := wX cB cC cI cJ w_9) hD) hS hl
    ·
      refine lv_iconst (pc := 479) (v := 1) hx hb dL_law_479 (by decide) ?_
      refine lv_goto (pc := 480) (tgt := 484) hx hb dL_law_480 (by decide) ?_
      have hP : va_P D gcl (wM cB cC cI cJ v ++ wX cB cC cI cJ w_9) H := va_P.swap (a := []) (b := wX cB cC cI cJ w_9) (c := wM cB cC cI cJ v) hP
      have hD : va_D (fun q : Nat => s.heap.size ≤ q) (wM cB cC cI cJ v ++ wX cB cC cI cJ w_9) := va_D.swap (a := []) (b := wX cB cC cI cJ w_9) (c := wM cB cC cI cJ v) hD
      refine cc_484 C0 hK hF v hfM hl x_16 x_18 (1 : Int32) (by rw [tI_1]; decide) hP hD hS (fun r_29 w_30 H locs hf_31 ho_32 he_33 he_34 he_35 hP hD hS => ?_)
      have rr_29 := n_rng r_29
      refine lv_pop (pc := 487) hx hb dL_law_487 rfl ?_
      refine lv_goto (pc := 488) (tgt := 1519) hx hb dL_law_488 (by decide) ?_
      exact kk w_9 w_30 H locs ls hf_10 hf_31 ⟨te_cut heq.1 he_13 he_34 (by omega) (by omega), by omega⟩ ho_11 ho_32 (va_P.swap (a := []) (b := wM cB cC cI cJ w_30) (c := wX cB cC cI cJ w_9) hP) (va_D.swap (a := []) (b := wM cB cC cI cJ w_30) (c := wX cB cC cI cJ w_9) hD) hS hl
  ·
    refine lv_iconst (pc := 451) (v := 1) hx hb dL_law_451 (by decide) ?_
    refine lv_goto (pc := 452) (tgt := 456) hx hb dL_law_452 (by decide) ?_
    refine cc_456 C0 hK hF u hfX hl x_2 x_4 (1 : Int32) (by rw [tI_1]; decide) hP hD hS (fun r_36 w_37 H locs hf_38 ho_39 he_40 he_41 he_42 hP hD hS => ?_)
    have rr_36 := n_rng r_36
    refine lv_pop (pc := 459) hx hb dL_law_459 rfl ?_
    refine lv_aload_n (pc := 460) hx hb dL_law_460 rfl (lv_at hl 1 rfl) ?_
    refine lv_aload_n (pc := 461) hx hb dL_law_461 rfl (lv_at hl 3 rfl) ?_
    refine lv_iload_n (pc := 462) hx hb dL_law_462 rfl (lv_at hl 0 rfl) ?_
    refine lv_iconst (pc := 463) (v := 1) hx hb dL_law_463 (by decide) ?_
    refine b_iadd (pc := 464) hx hb rfl tI_1 (by omega) (by omega) dL_law_464 (fun x_43 ex_43 => ?_)
    refine va_sld (pc := 465) hx hb hX hbl hbA hS (n_in rfl (by omega) (by omega)) dL_law_465 ?_
    refine lv_topi (fun x_44 ex_44 => ?_)
    have rx_44 := n_rng x_44
    have tx_44 := congrArg Int32.toInt (e_ld (f := xs) (show x_44 = xs (x_43.toInt).toNat from ex_44) (show x_43.toInt = (i.toInt) + (1) by omega))
    refine lv_aload_n (pc := 466) hx hb dL_law_466 rfl (lv_at hl 3 rfl) ?_
    refine lv_iload_n (pc := 467) hx hb dL_law_467 rfl (lv_at hl 0 rfl) ?_
    refine lv_iconst (pc := 468) (v := 2) hx hb dL_law_468 (by decide) ?_
    refine b_iadd (pc := 469) hx hb rfl tI_2 (by omega) (by omega) dL_law_469 (fun x_45 ex_45 => ?_)
    refine va_sld (pc := 470) hx hb hX hbl hbA hS (n_in rfl (by omega) (by omega)) dL_law_470 ?_
    refine lv_topi (fun x_46 ex_46 => ?_)
    have rx_46 := n_rng x_46
    have tx_46 := congrArg Int32.toInt (e_ld (f := xs) (show x_46 = xs (x_45.toInt).toNat from ex_46) (show x_45.toInt = (i.toInt) + (2) by omega))
    refine lv_aload_n (pc := 471) hx hb dL_law_471 rfl (lv_at hl 3 rfl) ?_
    refine lv_iload_n (pc := 472) hx hb dL_law_472 rfl (lv_at hl 0 rfl) ?_
    refine lv_iconst (pc := 473) (v := 3) hx hb dL_law_473 (by decide) ?_
    refine b_iadd (pc := 474) hx hb rfl tI_3 (by omega) (by omega) dL_law_474 (fun x_47 ex_47 => ?_)
    refine va_sld (pc := 475) hx hb hX hbl hbA hS (n_in rfl (by omega) (by omega)) dL_law_475 ?_
    refine lv_topi (fun x_48 ex_48 => ?_)
    have rx_48 := n_rng x_48
    have tx_48 := congrArg Int32.toInt (e_ld (f := xs) (show x_48 = xs (x_47.toInt).toNat from ex_48) (show x_47.toInt = (i.toInt) + (3) by omega))
    refine b_if_eq (pc := 476) (tgt := 483) hx hb rfl  dL_law_476 (by decide) (fun c_49 => ?_) (fun c_49 => ?_)
    ·
      refine lv_iconst (pc := 483) (v := 0) hx hb dL_law_483 (by decide) ?_
      have hP : va_P D gcl (wM cB cC cI cJ v ++ wX cB cC cI cJ w_37) H := va_P.swap (a := []) (b := wX cB cC cI cJ w_37) (c := wM cB cC cI cJ v) hP
      have hD : va_D (fun q : Nat => s.heap.size ≤ q) (wM cB cC cI cJ v ++ wX cB cC cI cJ w_37) := va_D.swap (a := []) (b := wX cB cC cI cJ w_37) (c := wM cB cC cI cJ v) hD
      refine cc_484 C0 hK hF v hfM hl x_44 x_46 (0 : Int32) (by rw [tI_0]; decide) hP hD hS (fun r_50 w_51 H locs hf_52 ho_53 he_54 he_55 he_56 hP hD hS => ?_)
      have rr_50 := n_rng r_50
      refine lv_pop (pc := 487) hx hb dL_law_487 rfl ?_
      refine lv_goto (pc := 488) (tgt := 1519) hx hb dL_law_488 (by decide) ?_
      exact kk w_37 w_51 H locs ls hf_38 hf_52 ⟨te_cut heq.1 he_41 he_55 (by omega) (by omega), by omega⟩ ho_39 ho_53 (va_P.swap (a := []) (b := wM cB cC cI cJ w_51) (c := wX cB cC cI cJ w_37) hP) (va_D.swap (a := []) (b := wM cB cC cI cJ w_51) (c := wX cB cC cI cJ w_37) hD) hS hl
    ·
      refine lv_iconst (pc := 479) (v := 1) hx hb dL_law_479 (by decide) ?_
      refine lv_goto (pc := 480) (tgt := 484) hx hb dL_law_480 (by decide) ?_
      have hP : va_P D gcl (wM cB cC cI cJ v ++ wX cB cC cI cJ w_37) H := va_P.swap (a := []) (b := wX cB cC cI cJ w_37) (c := wM cB cC cI cJ v) hP
      have hD : va_D (fun q : Nat => s.heap.size ≤ q) (wM cB cC cI cJ v ++ wX cB cC cI cJ w_37) := va_D.swap (a := []) (b := wX cB cC cI cJ w_37) (c := wM cB cC cI cJ v) hD
      refine cc_484 C0 hK hF v hfM hl x_44 x_46 (1 : Int32) (by rw [tI_1]; decide) hP hD hS (fun r_57 w_58 H locs hf_59 ho_60 he_61 he_62 he_63 hP hD hS => ?_)
      have rr_57 := n_rng r_57
      refine lv_pop (pc := 487) hx hb dL_law_487 rfl ?_
      refine lv_goto (pc := 488) (tgt := 1519) hx hb dL_law_488 (by decide) ?_
      exact kk w_37 w_58 H locs ls hf_38 hf_59 ⟨te_cut heq.1 he_41 he_62 (by omega) (by omega), by omega⟩ ho_39 ho_60 (va_P.swap (a := []) (b := wM cB cC cI cJ w_58) (c := wX cB cC cI cJ w_37) hP) (va_D.swap (a := []) (b := wM cB cC cI cJ w_58) (c := wX cB cC cI cJ w_37) hD) hS hl
set_option maxHeartbeats 8000000 in
set_option maxRecDepth 100000 in
theorem lo_7 {p : Program} {l : Launch} {e : Env} {s : State} {m : MethodId} {below : List Frame} {meth : Method} {c : Code} {D : va_G} {cB cC cI cJ : ClassId} {b L : Nat} {xs : Nat → Int32} {adK adV : Nat → Nat} (C0 : lw_At p s m meth c b L xs) (hLN : L ≤ 3072) (hK : va_K D gcl [(cB, .byte), (cC, .char), (cI, .int), (cJ, .long)] s) (hF : sF adK adV (fun q : Nat => s.heap.size ≤ q) s s.heap) (o1 o2 : Nat) (i : Int32) (hi0 : 0 ≤ i.toInt) (hi1 : i.toInt + 6 ≤ (L : Int)) (u v : gEx) (hfX : fX u) (hfM : fM v) (heq : tEq (u.2.1 4) (u.2.2.2.1 7).toInt (v.2.1 0) (v.2.2.2.1 0).toInt ∧ ((u.2.2.2.1 5).toInt = (v.2.2.2.1 6).toInt ∧ (u.2.2.2.1 6).toInt = (v.2.2.2.1 7).toInt ∧ (u.2.2.2.1 15).toInt = (v.2.2.2.1 8).toInt ∧ (u.2.2.2.1 16).toInt = (v.2.2.2.1 9).toInt ∧ (u.2.2.2.1 17).toInt = (v.2.2.2.1 10).toInt ∧ (u.2.2.2.1 18).toInt = (v.2.2.2.1 11).toInt ∧ (u.2.2.2.1 19).toInt = (v.2.2.2.1 12).toInt)) (hu0 : u.1 0 = o1) (hv0 : v.1 0 = o2) (H : Heap) (locs : List Loc) (ls : Array Slot) (hP : va_P D gcl (wX cB cC cI cJ u ++ wM cB cC cI cJ v) H) (hD : va_D (fun q : Nat => s.heap.size ≤ q) (wX cB cC cI cJ u ++ wM cB cC cI cJ v)) (hS : va_S (fun q : Nat => s.heap.size ≤ q) s.heap H locs) (hl : lv_has ls 4 [(3, .int i), (2, .ref o2), (1, .ref o1), (0, .ref b)])
    (kk : ∀ (u v : gEx) (H : Heap) (locs : List Loc) (ls : Array Slot), fX u → fM v → tEq (u.2.1 4) (u.2.2.2.1 7).toInt (v.2.1 0) (v.2.2.2.1 0).toInt ∧ ((u.2.2.2.1 5).toInt = (v.2.2.2.1 6).toInt ∧ (u.2.2.2.1 6).toInt = (v.2.2.2.1 7).toInt ∧ (u.2.2.2.1 15).toInt = (v.2.2.2.1 8).toInt ∧ (u.2.2.2.1 16).toInt = (v.2.2.2.1 9).toInt ∧ (u.2.2.2.1 17).toInt = (v.2.2.2.1 10).toInt ∧ (u.2.2.2.1 18).toInt = (v.2.2.2.1 11).toInt ∧ (u.2.2.2.1 19).toInt = (v.2.2.2.1 12).toInt) → u.1 0 = o1 → v.1 0 = o2 → va_P D gcl (wX cB cC cI cJ u ++ wM cB cC cI cJ v) H → va_D (fun q : Nat => s.heap.size ≤ q) (wX cB cC cI cJ u ++ wM cB cC cI cJ v) → va_S (fun q : Nat => s.heap.size ≤ q) s.heap H locs → lv_has ls 4 [(3, .int i), (2, .ref o2), (1, .ref o1), (0, .ref b)] → W p l e room_1 s m #[Value.ref b] below meth c H locs 126 15724 (lw_Z below #[Value.ref b] s) (F0 m 1519 ls [])) : W p l e room_1 s m #[Value.ref b] below meth c H locs 126 15724 (lw_Z below #[Value.ref b] s) (F0 m 491 ls []) := by
  subst hu0
  subst hv0
  have hlen := heq.1.1
  have hreg := heq.2
  obtain ⟨hx, hb, hr, hml, hown, hts0, hX, hbl, hlocks, hgv⟩ := id C0
  have hts := g_tbl hts0
  have hbA : ¬ (fun q : Nat => s.heap.size ≤ q) b := Nat.not_le.mpr hbl
  refine lv_aload_n (pc := 491) hx hb dL_law_491 rfl (lv_at hl 2 rfl) ?_
  refine cc_492 C0 hK hF u hfX hl  hP hD hS (fun r_1 w_2 H locs hf_3 ho_4 he_5 he_6 he_7 hP hD hS => ?_)
  have rr_1 := n_rng r_1
  refine lv_pop (pc := 495) hx hb dL_law_495 rfl ?_
  refine lv_aload_n (pc := 496) hx hb dL_law_496 rfl (lv_at hl 1 rfl) ?_
  have hP : va_P D gcl (wM cB cC cI cJ v ++ wX cB cC cI cJ w_2) H := va_P.swap (a := []) (b := wX cB cC cI cJ w_2) (c := wM cB cC cI cJ v) hP
  have hD : va_D (fun q : Nat => s.heap.size ≤ q) (wM cB cC cI cJ v ++ wX cB cC cI cJ w_2) := va_D.swap (a := []) (b := wX cB cC cI cJ w_2) (c := wM cB cC cI cJ v) hD
  refine cc_497 C0 hK hF v hfM hl  hP hD hS (fun r_8 w_9 H locs hf_10 ho_11 he_12 he_13 he_14 hP hD hS => ?_)
  have rr_8 := n_rng r_8
  refine lv_pop (pc := 500) hx hb dL_law_500 rfl ?_
  refine lv_goto (pc := 501) (tgt := 1519) hx hb dL_law_501 (by decide) ?_
  exact kk w_2 w_9 H locs ls hf_3 hf_10 ⟨te_cut heq.1 he_6 he_13 (by omega) (by omega), by omega⟩ ho_4 ho_11 (va_P.swap (a := []) (b := wM cB cC cI cJ w_9) (c := wX cB cC cI cJ w_2) hP) (va_D.swap (a := []) (b := wM cB cC cI cJ w_9) (c := wX cB cC cI cJ w_2) hD) hS hl
