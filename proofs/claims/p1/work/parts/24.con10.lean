set_option maxHeartbeats 4000000 in
set_option maxRecDepth 100000 in
theorem cc_125_yX12_clash (l : Launch) (D : va_G) (cB cC cI cJ : ClassId) (sz : Nat) (a0 a1 a2 a3 a4 a5 a6 a7 a8 a9 a10 a11 a12 a13 a14 a15 a16 a17 a18 a19 a20 a21 a22 a23 a24 a25 a26 a27 a28 a29 a30 a31 a32 a33 a34 a35 a36 a37 a38 a39 a40 a41 a42 a43 : Nat) (x0 x1 : Int32) : Met l yX12_clash (.code yX12_clash cX12_clash 4 (some .int) :: lw_gd) ({ frames := 2, cells := 0, slots := 0, locals := 46 }) (gPre D [(cB, .byte), (cC, .char), (cI, .int), (cJ, .long)] [.ref a0, .int x0, .int x1, .int 0] [(a0, .inr (12, [.ref a1, .int 0, .int 0, .int 0, .int 0, .int 0, .int 0, .int 0, .int (-1), .ref a2, .ref a3, .ref a4, .ref a5, .ref a6, .ref a7, .ref a8, .ref a9, .ref a10, .ref a11, .ref a12, .ref a13, .ref a14, .ref a15, .ref a16, .int 0, .int 0, .int 0, .int 0, .int 0, .int 9999, .ref a17, .ref a18, .ref a19, .int 0, .ref a20, .int 0, .ref a21, .int 0, .int 0, .ref a22, .ref a23, .ref a24, .ref a25, .int 0, .ref a26, .int 0, .ref a27, .ref a28, .ref a29, .long 0, .ref a30, .ref a31, .ref a32, .ref a33, .ref a34, .ref a35, .ref a36, .ref a37, .ref a38, .int 0, .int 0, .int 0, .long 0, .ref a39, .int 0, .ref a40, .ref a41, .ref a42, .ref a43, .int 0, .int 0, .int 0, .int 0]))] sz) (va_Qi (fun r _ => r = (-1)) (gB D (va_A [(a0, .inr (12, [.ref a1, .int 0, .int 0, .int 0, .int 0, .int 0, .int 0, .int 0, .int (-1), .ref a2, .ref a3, .ref a4, .ref a5, .ref a6, .ref a7, .ref a8, .ref a9, .ref a10, .ref a11, .ref a12, .ref a13, .ref a14, .ref a15, .ref a16, .int 0, .int 0, .int 0, .int 0, .int 0, .int 9999, .ref a17, .ref a18, .ref a19, .int 0, .ref a20, .int 0, .ref a21, .int 0, .int 0, .ref a22, .ref a23, .ref a24, .ref a25, .int 0, .ref a26, .int 0, .ref a27, .ref a28, .ref a29, .long 0, .ref a30, .ref a31, .ref a32, .ref a33, .ref a34, .ref a35, .ref a36, .ref a37, .ref a38, .int 0, .int 0, .int 0, .long 0, .ref a39, .int 0, .ref a40, .ref a41, .ref a42, .ref a43, .int 0, .int 0, .int 0, .int 0]))] sz) (fun u : gEx => [])) (va_A [(a0, .inr (12, [.ref a1, .int 0, .int 0, .int 0, .int 0, .int 0, .int 0, .int 0, .int (-1), .ref a2, .ref a3, .ref a4, .ref a5, .ref a6, .ref a7, .ref a8, .ref a9, .ref a10, .ref a11, .ref a12, .ref a13, .ref a14, .ref a15, .ref a16, .int 0, .int 0, .int 0, .int 0, .int 0, .int 9999, .ref a17, .ref a18, .ref a19, .int 0, .ref a20, .int 0, .ref a21, .int 0, .int 0, .ref a22, .ref a23, .ref a24, .ref a25, .int 0, .ref a26, .int 0, .ref a27, .ref a28, .ref a29, .long 0, .ref a30, .ref a31, .ref a32, .ref a33, .ref a34, .ref a35, .ref a36, .ref a37, .ref a38, .int 0, .int 0, .int 0, .long 0, .ref a39, .int 0, .ref a40, .ref a41, .ref a42, .ref a43, .int 0, .int 0, .int 0, .int 0]))] sz)) 0 0 (va_A [(a0, .inr (12, [.ref a1, .int 0, .int 0, .int 0, .int 0, .int 0, .int 0, .int 0, .int (-1), .ref a2, .ref a3, .ref a4, .ref a5, .ref a6, .ref a7, .ref a8, .ref a9, .ref a10, .ref a11, .ref a12, .ref a13, .ref a14, .ref a15, .ref a16, .int 0, .int 0, .int 0, .int 0, .int 0, .int 9999, .ref a17, .ref a18, .ref a19, .int 0, .ref a20, .int 0, .ref a21, .int 0, .int 0, .ref a22, .ref a23, .ref a24, .ref a25, .int 0, .ref a26, .int 0, .ref a27, .ref a28, .ref a29, .long 0, .ref a30, .ref a31, .ref a32, .ref a33, .ref a34, .ref a35, .ref a36, .ref a37, .ref a38, .int 0, .int 0, .int 0, .long 0, .ref a39, .int 0, .ref a40, .ref a41, .ref a42, .ref a43, .int 0, .int 0, .int 0, .int 0]))] sz) := by
  refine Met.ofW (cc := cX12_clash) (maxL := 4) (ret := (some .int)) (by decide) rfl ?_
  intro p e s m args below meth c s₁ B hml hv
  obtain ⟨rfl, hsz, hP, hK, hD0, hN⟩ := hv
  have hx := B.exec
  have hb := B.bytes
  have hr := B.returns
  have hts : ∀ w ∈ lw_gd, w.before _ s = true := fun w h => atoms_spec (ws := .code yX12_clash cX12_clash 4 (some .int) :: lw_gd) B.pre w (List.mem_cons_of_mem _ h)
  have hown : s.vm.findClass RX12 = some m.cls := findClass_of_methodNamed B.named
  have hlocks := B.notSynchronized
  subst hsz
  have hD := hD0.self (sz := s.heap.size)
  generalize hAe : va_A [(a0, .inr (12, [.ref a1, .int 0, .int 0, .int 0, .int 0, .int 0, .int 0, .int 0, .int (-1), .ref a2, .ref a3, .ref a4, .ref a5, .ref a6, .ref a7, .ref a8, .ref a9, .ref a10, .ref a11, .ref a12, .ref a13, .ref a14, .ref a15, .ref a16, .int 0, .int 0, .int 0, .int 0, .int 0, .int 9999, .ref a17, .ref a18, .ref a19, .int 0, .ref a20, .int 0, .ref a21, .int 0, .int 0, .ref a22, .ref a23, .ref a24, .ref a25, .int 0, .ref a26, .int 0, .ref a27, .ref a28, .ref a29, .long 0, .ref a30, .ref a31, .ref a32, .ref a33, .ref a34, .ref a35, .ref a36, .ref a37, .ref a38, .int 0, .int 0, .int 0, .long 0, .ref a39, .int 0, .ref a40, .ref a41, .ref a42, .ref a43, .int 0, .int 0, .int 0, .int 0]))] s.heap.size = A at hD ⊢
  have hA : ∀ q : Nat, s.heap.size ≤ q → A q := fun q h => by rw [← hAe]; exact Or.inr h
  have hS : va_S A s.heap s.heap [] := va_S.rf
  have hP : va_P D gcl [(a0, .inr (12, [.ref a1, .int 0, .int 0, .int 0, .int 0, .int 0, .int 0, .int 0, .int (-1), .ref a2, .ref a3, .ref a4, .ref a5, .ref a6, .ref a7, .ref a8, .ref a9, .ref a10, .ref a11, .ref a12, .ref a13, .ref a14, .ref a15, .ref a16, .int 0, .int 0, .int 0, .int 0, .int 0, .int 9999, .ref a17, .ref a18, .ref a19, .int 0, .ref a20, .int 0, .ref a21, .int 0, .int 0, .ref a22, .ref a23, .ref a24, .ref a25, .int 0, .ref a26, .int 0, .ref a27, .ref a28, .ref a29, .long 0, .ref a30, .ref a31, .ref a32, .ref a33, .ref a34, .ref a35, .ref a36, .ref a37, .ref a38, .int 0, .int 0, .int 0, .long 0, .ref a39, .int 0, .ref a40, .ref a41, .ref a42, .ref a43, .int 0, .int 0, .int 0, .int 0]))] s.heap := hP
  have hl := lv_entry ([.ref a0, .int x0, .int x1, .int 0]) (n := 4) (Nat.le_of_ble_eq_true rfl)
  rw [lg_entry_eq]
  generalize (lg_sl ([.ref a0, .int x0, .int x1, .int 0]) ++ List.replicate (4 - (lg_sl ([.ref a0, .int x0, .int x1, .int 0])).length) Slot.unset).toArray = ls at hl ⊢
  have hl : lv_has ls 4 [(0, .ref a0), (1, .int x0), (2, .int x1), (3, .int 0)] := hl
  refine lv_aload_n (pc := 0) hx hb dX12_clash_0 rfl (lv_at hl 0 rfl) ?_
  refine lv_iload_n (pc := 1) hx hb dX12_clash_1 rfl (lv_at hl 1 rfl) ?_
  refine gc_i (pc := 2) (wc := [(a0, .inr (12, [.ref a1, .int 0, .int 0, .int 0, .int 0, .int 0, .int 0, .int 0, .int (-1), .ref a2, .ref a3, .ref a4, .ref a5, .ref a6, .ref a7, .ref a8, .ref a9, .ref a10, .ref a11, .ref a12, .ref a13, .ref a14, .ref a15, .ref a16, .int 0, .int 0, .int 0, .int 0, .int 0, .int 9999, .ref a17, .ref a18, .ref a19, .int 0, .ref a20, .int 0, .ref a21, .int 0, .int 0, .ref a22, .ref a23, .ref a24, .ref a25, .int 0, .ref a26, .int 0, .ref a27, .ref a28, .ref a29, .long 0, .ref a30, .ref a31, .ref a32, .ref a33, .ref a34, .ref a35, .ref a36, .ref a37, .ref a38, .int 0, .int 0, .int 0, .long 0, .ref a39, .int 0, .ref a40, .ref a41, .ref a42, .ref a43, .int 0, .int 0, .int 0, .int 0]))]) (wr := []) hP hD hS hA [0] [] rfl rfl (by decide) (by decide) (by decide) (fun hPc hDc => va_runV (As := [.int x0]) (rest := []) ⟨hx, hb, hml, hown, hts⟩ (cc_63_yX12_isSender l D cB cC cI cJ _ a0 a1 a2 a3 a4 a5 a6 a7 a8 a9 a10 a11 a12 a13 a14 a15 a16 a17 a18 a19 a20 a21 a22 a23 a24 a25 a26 a27 a28 a29 a30 a31 a32 a33 a34 a35 a36 a37 a38 a39 a40 a41 a42 a43 x0) ⟨gcwB hts tw_1782 tw_14 tw_1779 hd_yX12_isSender ⟨Nat.le_of_ble_eq_true rfl, Nat.le_of_ble_eq_true rfl⟩, hts _ tw_1781, hts _ tp_89⟩ ⟨gblind, va_recv hK hPc (ci := 12) (q0 := 0) rfl rfl, (gpreS hPc hK hDc hN).2⟩ rfl rfl hl.1 rfl (lv_room (Nat.le_of_ble_eq_true rfl)) dX12_clash_2 ⟨Nat.le_of_ble_eq_true rfl, Nat.le_of_ble_eq_true rfl⟩) (fun r_2 u_1 H locs hw_3 hP hD hS => ?_)
  have hP : va_P D gcl [(a0, .inr (12, [.ref a1, .int 0, .int 0, .int 0, .int 0, .int 0, .int 0, .int 0, .int (-1), .ref a2, .ref a3, .ref a4, .ref a5, .ref a6, .ref a7, .ref a8, .ref a9, .ref a10, .ref a11, .ref a12, .ref a13, .ref a14, .ref a15, .ref a16, .int 0, .int 0, .int 0, .int 0, .int 0, .int 9999, .ref a17, .ref a18, .ref a19, .int 0, .ref a20, .int 0, .ref a21, .int 0, .int 0, .ref a22, .ref a23, .ref a24, .ref a25, .int 0, .ref a26, .int 0, .ref a27, .ref a28, .ref a29, .long 0, .ref a30, .ref a31, .ref a32, .ref a33, .ref a34, .ref a35, .ref a36, .ref a37, .ref a38, .int 0, .int 0, .int 0, .long 0, .ref a39, .int 0, .ref a40, .ref a41, .ref a42, .ref a43, .int 0, .int 0, .int 0, .int 0]))] H := hP
  have hD : va_D A [(a0, .inr (12, [.ref a1, .int 0, .int 0, .int 0, .int 0, .int 0, .int 0, .int 0, .int (-1), .ref a2, .ref a3, .ref a4, .ref a5, .ref a6, .ref a7, .ref a8, .ref a9, .ref a10, .ref a11, .ref a12, .ref a13, .ref a14, .ref a15, .ref a16, .int 0, .int 0, .int 0, .int 0, .int 0, .int 9999, .ref a17, .ref a18, .ref a19, .int 0, .ref a20, .int 0, .ref a21, .int 0, .int 0, .ref a22, .ref a23, .ref a24, .ref a25, .int 0, .ref a26, .int 0, .ref a27, .ref a28, .ref a29, .long 0, .ref a30, .ref a31, .ref a32, .ref a33, .ref a34, .ref a35, .ref a36, .ref a37, .ref a38, .int 0, .int 0, .int 0, .long 0, .ref a39, .int 0, .ref a40, .ref a41, .ref a42, .ref a43, .int 0, .int 0, .int 0, .int 0]))] := hD
  subst hw_3
  refine lv_if_eq (pc := 5) (tgt := 21) hx hb dX12_clash_5 (by decide) (fun _ => ?_) (fun c => absurd (by decide +kernel) c)
  refine lv_iconst (pc := 21) (v := (-1)) hx hb dX12_clash_21 (by decide) ?_
  have hP9 := hP.sub (ws' := []) [] rfl
  have hD9 := hD.sub (ws' := []) [] (by decide) rfl
  refine W.widen (k := 0) (n := 0) (Nat.le_of_ble_eq_true rfl) (Nat.le_of_ble_eq_true rfl) ?_
  exact W.iret (v := (-1)) hx hb hr (fun t ht hW => ⟨⟨(-1), ((fun _ => 0), (fun _ => (fun _ => 0)), (fun _ => (fun _ => 0)), (fun _ => 0), (fun _ => 0)), rfl, rfl, by rw [ht]; exact hP9, hD9⟩, hS.F ht⟩) hS.2.2 dX12_clash_22
set_option maxHeartbeats 4000000 in
set_option maxRecDepth 100000 in
theorem cc_126_yX11_clash (l : Launch) (D : va_G) (cB cC cI cJ : ClassId) (sz : Nat) (a0 a1 a2 a3 a4 a5 a6 a7 a8 a9 a10 a11 a12 a13 a14 a15 a16 : Nat) (x0 x1 : Int32) : Met l yX11_clash (.code yX11_clash cX11_clash 4 (some .int) :: lw_gd) ({ frames := 1, cells := 0, slots := 0, locals := 21 }) (gPre D [(cB, .byte), (cC, .char), (cI, .int), (cJ, .long)] [.ref a0, .int x0, .int x1, .int 1] [(a0, .inr (11, [.ref a1, .ref a2, .ref a3, .ref a4, .ref a5, .ref a6, .ref a7, .ref a8, .ref a9, .ref a10, .int 0, .ref a11, .ref a12, .ref a13])), (a11, .inr (1, [.ref a14, .ref a15, .ref a16, .int 0, .int 0, .int 0, .int 0, .int 0, .int 9999, .int 0]))] sz) (va_Qi (fun r _ => r = (-1)) (gB D (va_A [(a0, .inr (11, [.ref a1, .ref a2, .ref a3, .ref a4, .ref a5, .ref a6, .ref a7, .ref a8, .ref a9, .ref a10, .int 0, .ref a11, .ref a12, .ref a13])), (a11, .inr (1, [.ref a14, .ref a15, .ref a16, .int 0, .int 0, .int 0, .int 0, .int 0, .int 9999, .int 0]))] sz) (fun u : gEx => [])) (va_A [(a0, .inr (11, [.ref a1, .ref a2, .ref a3, .ref a4, .ref a5, .ref a6, .ref a7, .ref a8, .ref a9, .ref a10, .int 0, .ref a11, .ref a12, .ref a13])), (a11, .inr (1, [.ref a14, .ref a15, .ref a16, .int 0, .int 0, .int 0, .int 0, .int 0, .int 9999, .int 0]))] sz)) 0 0 (va_A [(a0, .inr (11, [.ref a1, .ref a2, .ref a3, .ref a4, .ref a5, .ref a6, .ref a7, .ref a8, .ref a9, .ref a10, .int 0, .ref a11, .ref a12, .ref a13])), (a11, .inr (1, [.ref a14, .ref a15, .ref a16, .int 0, .int 0, .int 0, .int 0, .int 0, .int 9999, .int 0]))] sz) := by
  refine Met.ofW (cc := cX11_clash) (maxL := 4) (ret := (some .int)) (by decide) rfl ?_
  intro p e s m args below meth c s₁ B hml hv
  obtain ⟨rfl, hsz, hP, hK, hD0, hN⟩ := hv
  have hx := B.exec
  have hb := B.bytes
  have hr := B.returns
  have hts : ∀ w ∈ lw_gd, w.before _ s = true := fun w h => atoms_spec (ws := .code yX11_clash cX11_clash 4 (some .int) :: lw_gd) B.pre w (List.mem_cons_of_mem _ h)
  have hown : s.vm.findClass RX11 = some m.cls := findClass_of_methodNamed B.named
  have hlocks := B.notSynchronized
  subst hsz
  have hD := hD0.self (sz := s.heap.size)
  generalize hAe : va_A [(a0, .inr (11, [.ref a1, .ref a2, .ref a3, .ref a4, .ref a5, .ref a6, .ref a7, .ref a8, .ref a9, .ref a10, .int 0, .ref a11, .ref a12, .ref a13])), (a11, .inr (1, [.ref a14, .ref a15, .ref a16, .int 0, .int 0, .int 0, .int 0, .int 0, .int 9999, .int 0]))] s.heap.size = A at hD ⊢
  have hA : ∀ q : Nat, s.heap.size ≤ q → A q := fun q h => by rw [← hAe]; exact Or.inr h
  have hS : va_S A s.heap s.heap [] := va_S.rf
  have hP : va_P D gcl [(a0, .inr (11, [.ref a1, .ref a2, .ref a3, .ref a4, .ref a5, .ref a6, .ref a7, .ref a8, .ref a9, .ref a10, .int 0, .ref a11, .ref a12, .ref a13])), (a11, .inr (1, [.ref a14, .ref a15, .ref a16, .int 0, .int 0, .int 0, .int 0, .int 0, .int 9999, .int 0]))] s.heap := hP
  have hl := lv_entry ([.ref a0, .int x0, .int x1, .int 1]) (n := 4) (Nat.le_of_ble_eq_true rfl)
  rw [lg_entry_eq]
  generalize (lg_sl ([.ref a0, .int x0, .int x1, .int 1]) ++ List.replicate (4 - (lg_sl ([.ref a0, .int x0, .int x1, .int 1])).length) Slot.unset).toArray = ls at hl ⊢
  have hl : lv_has ls 4 [(0, .ref a0), (1, .int x0), (2, .int x1), (3, .int 1)] := hl
  refine lv_aload_n (pc := 0) hx hb dX11_clash_0 rfl (lv_at hl 0 rfl) ?_
  refine va_get (pc := 1) (ci := 11) (v := .ref a11) (C := RX11) (T := TX11) (N := 14) hx hb hts iX11 hown hK hP 0 rfl rfl 11 (by decide) (hts _ tw_431) (fun _ h9 => h9) rfl dX11_clash_1 ?_
  refine lv_iload_n (pc := 4) hx hb dX11_clash_4 rfl (lv_at hl 1 rfl) ?_
  refine gc_i (pc := 5) (wc := [(a11, .inr (1, [.ref a14, .ref a15, .ref a16, .int 0, .int 0, .int 0, .int 0, .int 0, .int 9999, .int 0]))]) (wr := [(a0, .inr (11, [.ref a1, .ref a2, .ref a3, .ref a4, .ref a5, .ref a6, .ref a7, .ref a8, .ref a9, .ref a10, .int 0, .ref a11, .ref a12, .ref a13]))]) hP hD hS hA [1] [0] rfl rfl (by decide) (by decide) (by decide) (fun hPc hDc => va_runV (As := [.int x0]) (rest := []) ⟨hx, hb, hml, hown, hts⟩ (cc_61_yX1_isSender l D cB cC cI cJ _ a11 a14 a15 a16 x0) ⟨gcwB hts tw_782 tw_4 tw_779 hd_yX1_isSender ⟨Nat.le_of_ble_eq_true rfl, Nat.le_of_ble_eq_true rfl⟩, hts _ tw_780, hts _ tw_781⟩ ⟨gblind, va_recv hK hPc (ci := 1) (q0 := 0) rfl rfl, (gpreS hPc hK hDc hN).2⟩ rfl rfl hl.1 rfl (lv_room (Nat.le_of_ble_eq_true rfl)) dX11_clash_5 ⟨Nat.le_of_ble_eq_true rfl, Nat.le_of_ble_eq_true rfl⟩) (fun r_2 u_1 H locs hw_3 hP hD hS => ?_)
  have hP : va_P D gcl [(a0, .inr (11, [.ref a1, .ref a2, .ref a3, .ref a4, .ref a5, .ref a6, .ref a7, .ref a8, .ref a9, .ref a10, .int 0, .ref a11, .ref a12, .ref a13])), (a11, .inr (1, [.ref a14, .ref a15, .ref a16, .int 0, .int 0, .int 0, .int 0, .int 0, .int 9999, .int 0]))] H := hP
  have hD : va_D A [(a0, .inr (11, [.ref a1, .ref a2, .ref a3, .ref a4, .ref a5, .ref a6, .ref a7, .ref a8, .ref a9, .ref a10, .int 0, .ref a11, .ref a12, .ref a13])), (a11, .inr (1, [.ref a14, .ref a15, .ref a16, .int 0, .int 0, .int 0, .int 0, .int 0, .int 9999, .int 0]))] := hD
  subst hw_3
  refine lv_if_eq (pc := 8) (tgt := 27) hx hb dX11_clash_8 (by decide) (fun _ => ?_) (fun c => absurd (by decide +kernel) c)
  refine lv_iconst (pc := 27) (v := (-1)) hx hb dX11_clash_27 (by decide) ?_
  have hP9 := hP.sub (ws' := []) [] rfl
  have hD9 := hD.sub (ws' := []) [] (by decide) rfl
  refine W.widen (k := 0) (n := 0) (Nat.le_of_ble_eq_true rfl) (Nat.le_of_ble_eq_true rfl) ?_
  exact W.iret (v := (-1)) hx hb hr (fun t ht hW => ⟨⟨(-1), ((fun _ => 0), (fun _ => (fun _ => 0)), (fun _ => (fun _ => 0)), (fun _ => 0), (fun _ => 0)), rfl, rfl, by rw [ht]; exact hP9, hD9⟩, hS.F ht⟩) hS.2.2 dX11_clash_28
set_option maxHeartbeats 4000000 in
set_option maxRecDepth 100000 in
theorem cc_127_yX12_clash (l : Launch) (D : va_G) (cB cC cI cJ : ClassId) (sz : Nat) (a0 a1 a2 a3 a4 a5 a6 a7 a8 a9 a10 a11 a12 a13 a14 a15 a16 a17 a18 a19 a20 a21 a22 a23 a24 a25 a26 a27 a28 a29 a30 a31 a32 a33 a34 a35 a36 a37 a38 a39 a40 a41 a42 a43 : Nat) (x0 x1 : Int32) : Met l yX12_clash (.code yX12_clash cX12_clash 4 (some .int) :: lw_gd) ({ frames := 2, cells := 0, slots := 0, locals := 46 }) (gPre D [(cB, .byte), (cC, .char), (cI, .int), (cJ, .long)] [.ref a0, .int x0, .int x1, .int 1] [(a0, .inr (12, [.ref a1, .int 0, .int 0, .int 0, .int 0, .int 0, .int 0, .int 0, .int (-1), .ref a2, .ref a3, .ref a4, .ref a5, .ref a6, .ref a7, .ref a8, .ref a9, .ref a10, .ref a11, .ref a12, .ref a13, .ref a14, .ref a15, .ref a16, .int 0, .int 0, .int 0, .int 0, .int 0, .int 9999, .ref a17, .ref a18, .ref a19, .int 0, .ref a20, .int 0, .ref a21, .int 0, .int 0, .ref a22, .ref a23, .ref a24, .ref a25, .int 0, .ref a26, .int 0, .ref a27, .ref a28, .ref a29, .long 0, .ref a30, .ref a31, .ref a32, .ref a33, .ref a34, .ref a35, .ref a36, .ref a37, .ref a38, .int 0, .int 0, .int 0, .long 0, .ref a39, .int 0, .ref a40, .ref a41, .ref a42, .ref a43, .int 0, .int 0, .int 0, .int 0]))] sz) (va_Qi (fun r _ => r = (-1)) (gB D (va_A [(a0, .inr (12, [.ref a1, .int 0, .int 0, .int 0, .int 0, .int 0, .int 0, .int 0, .int (-1), .ref a2, .ref a3, .ref a4, .ref a5, .ref a6, .ref a7, .ref a8, .ref a9, .ref a10, .ref a11, .ref a12, .ref a13, .ref a14, .ref a15, .ref a16, .int 0, .int 0, .int 0, .int 0, .int 0, .int 9999, .ref a17, .ref a18, .ref a19, .int 0, .ref a20, .int 0, .ref a21, .int 0, .int 0, .ref a22, .ref a23, .ref a24, .ref a25, .int 0, .ref a26, .int 0, .ref a27, .ref a28, .ref a29, .long 0, .ref a30, .ref a31, .ref a32, .ref a33, .ref a34, .ref a35, .ref a36, .ref a37, .ref a38, .int 0, .int 0, .int 0, .long 0, .ref a39, .int 0, .ref a40, .ref a41, .ref a42, .ref a43, .int 0, .int 0, .int 0, .int 0]))] sz) (fun u : gEx => [])) (va_A [(a0, .inr (12, [.ref a1, .int 0, .int 0, .int 0, .int 0, .int 0, .int 0, .int 0, .int (-1), .ref a2, .ref a3, .ref a4, .ref a5, .ref a6, .ref a7, .ref a8, .ref a9, .ref a10, .ref a11, .ref a12, .ref a13, .ref a14, .ref a15, .ref a16, .int 0, .int 0, .int 0, .int 0, .int 0, .int 9999, .ref a17, .ref a18, .ref a19, .int 0, .ref a20, .int 0, .ref a21, .int 0, .int 0, .ref a22, .ref a23, .ref a24, .ref a25, .int 0, .ref a26, .int 0, .ref a27, .ref a28, .ref a29, .long 0, .ref a30, .ref a31, .ref a32, .ref a33, .ref a34, .ref a35, .ref a36, .ref a37, .ref a38, .int 0, .int 0, .int 0, .long 0, .ref a39, .int 0, .ref a40, .ref a41, .ref a42, .ref a43, .int 0, .int 0, .int 0, .int 0]))] sz)) 0 0 (va_A [(a0, .inr (12, [.ref a1, .int 0, .int 0, .int 0, .int 0, .int 0, .int 0, .int 0, .int (-1), .ref a2, .ref a3, .ref a4, .ref a5, .ref a6, .ref a7, .ref a8, .ref a9, .ref a10, .ref a11, .ref a12, .ref a13, .ref a14, .ref a15, .ref a16, .int 0, .int 0, .int 0, .int 0, .int 0, .int 9999, .ref a17, .ref a18, .ref a19, .int 0, .ref a20, .int 0, .ref a21, .int 0, .int 0, .ref a22, .ref a23, .ref a24, .ref a25, .int 0, .ref a26, .int 0, .ref a27, .ref a28, .ref a29, .long 0, .ref a30, .ref a31, .ref a32, .ref a33, .ref a34, .ref a35, .ref a36, .ref a37, .ref a38, .int 0, .int 0, .int 0, .long 0, .ref a39, .int 0, .ref a40, .ref a41, .ref a42, .ref a43, .int 0, .int 0, .int 0, .int 0]))] sz) := by
  refine Met.ofW (cc := cX12_clash) (maxL := 4) (ret := (some .int)) (by decide) rfl ?_
  intro p e s m args below meth c s₁ B hml hv
  obtain ⟨rfl, hsz, hP, hK, hD0, hN⟩ := hv
  have hx := B.exec
  have hb := B.bytes
  have hr := B.returns
  have hts : ∀ w ∈ lw_gd, w.before _ s = true := fun w h => atoms_spec (ws := .code yX12_clash cX12_clash 4 (some .int) :: lw_gd) B.pre w (List.mem_cons_of_mem _ h)
  have hown : s.vm.findClass RX12 = some m.cls := findClass_of_methodNamed B.named
  have hlocks := B.notSynchronized
  subst hsz
  have hD := hD0.self (sz := s.heap.size)
  generalize hAe : va_A [(a0, .inr (12, [.ref a1, .int 0, .int 0, .int 0, .int 0, .int 0, .int 0, .int 0, .int (-1), .ref a2, .ref a3, .ref a4, .ref a5, .ref a6, .ref a7, .ref a8, .ref a9, .ref a10, .ref a11, .ref a12, .ref a13, .ref a14, .ref a15, .ref a16, .int 0, .int 0, .int 0, .int 0, .int 0, .int 9999, .ref a17, .ref a18, .ref a19, .int 0, .ref a20, .int 0, .ref a21, .int 0, .int 0, .ref a22, .ref a23, .ref a24, .ref a25, .int 0, .ref a26, .int 0, .ref a27, .ref a28, .ref a29, .long 0, .ref a30, .ref a31, .ref a32, .ref a33, .ref a34, .ref a35, .ref a36, .ref a37, .ref a38, .int 0, .int 0, .int 0, .long 0, .ref a39, .int 0, .ref a40, .ref a41, .ref a42, .ref a43, .int 0, .int 0, .int 0, .int 0]))] s.heap.size = A at hD ⊢
  have hA : ∀ q : Nat, s.heap.size ≤ q → A q := fun q h => by rw [← hAe]; exact Or.inr h
  have hS : va_S A s.heap s.heap [] := va_S.rf
  have hP : va_P D gcl [(a0, .inr (12, [.ref a1, .int 0, .int 0, .int 0, .int 0, .int 0, .int 0, .int 0, .int (-1), .ref a2, .ref a3, .ref a4, .ref a5, .ref a6, .ref a7, .ref a8, .ref a9, .ref a10, .ref a11, .ref a12, .ref a13, .ref a14, .ref a15, .ref a16, .int 0, .int 0, .int 0, .int 0, .int 0, .int 9999, .ref a17, .ref a18, .ref a19, .int 0, .ref a20, .int 0, .ref a21, .int 0, .int 0, .ref a22, .ref a23, .ref a24, .ref a25, .int 0, .ref a26, .int 0, .ref a27, .ref a28, .ref a29, .long 0, .ref a30, .ref a31, .ref a32, .ref a33, .ref a34, .ref a35, .ref a36, .ref a37, .ref a38, .int 0, .int 0, .int 0, .long 0, .ref a39, .int 0, .ref a40, .ref a41, .ref a42, .ref a43, .int 0, .int 0, .int 0, .int 0]))] s.heap := hP
  have hl := lv_entry ([.ref a0, .int x0, .int x1, .int 1]) (n := 4) (Nat.le_of_ble_eq_true rfl)
  rw [lg_entry_eq]
  generalize (lg_sl ([.ref a0, .int x0, .int x1, .int 1]) ++ List.replicate (4 - (lg_sl ([.ref a0, .int x0, .int x1, .int 1])).length) Slot.unset).toArray = ls at hl ⊢
  have hl : lv_has ls 4 [(0, .ref a0), (1, .int x0), (2, .int x1), (3, .int 1)] := hl
  refine lv_aload_n (pc := 0) hx hb dX12_clash_0 rfl (lv_at hl 0 rfl) ?_
  refine lv_iload_n (pc := 1) hx hb dX12_clash_1 rfl (lv_at hl 1 rfl) ?_
  refine gc_i (pc := 2) (wc := [(a0, .inr (12, [.ref a1, .int 0, .int 0, .int 0, .int 0, .int 0, .int 0, .int 0, .int (-1), .ref a2, .ref a3, .ref a4, .ref a5, .ref a6, .ref a7, .ref a8, .ref a9, .ref a10, .ref a11, .ref a12, .ref a13, .ref a14, .ref a15, .ref a16, .int 0, .int 0, .int 0, .int 0, .int 0, .int 9999, .ref a17, .ref a18, .ref a19, .int 0, .ref a20, .int 0, .ref a21, .int 0, .int 0, .ref a22, .ref a23, .ref a24, .ref a25, .int 0, .ref a26, .int 0, .ref a27, .ref a28, .ref a29, .long 0, .ref a30, .ref a31, .ref a32, .ref a33, .ref a34, .ref a35, .ref a36, .ref a37, .ref a38, .int 0, .int 0, .int 0, .long 0, .ref a39, .int 0, .ref a40, .ref a41, .ref a42, .ref a43, .int 0, .int 0, .int 0, .int 0]))]) (wr := []) hP hD hS hA [0] [] rfl rfl (by decide) (by decide) (by decide) (fun hPc hDc => va_runV (As := [.int x0]) (rest := []) ⟨hx, hb, hml, hown, hts⟩ (cc_63_yX12_isSender l D cB cC cI cJ _ a0 a1 a2 a3 a4 a5 a6 a7 a8 a9 a10 a11 a12 a13 a14 a15 a16 a17 a18 a19 a20 a21 a22 a23 a24 a25 a26 a27 a28 a29 a30 a31 a32 a33 a34 a35 a36 a37 a38 a39 a40 a41 a42 a43 x0) ⟨gcwB hts tw_1782 tw_14 tw_1779 hd_yX12_isSender ⟨Nat.le_of_ble_eq_true rfl, Nat.le_of_ble_eq_true rfl⟩, hts _ tw_1781, hts _ tp_89⟩ ⟨gblind, va_recv hK hPc (ci := 12) (q0 := 0) rfl rfl, (gpreS hPc hK hDc hN).2⟩ rfl rfl hl.1 rfl (lv_room (Nat.le_of_ble_eq_true rfl)) dX12_clash_2 ⟨Nat.le_of_ble_eq_true rfl, Nat.le_of_ble_eq_true rfl⟩) (fun r_2 u_1 H locs hw_3 hP hD hS => ?_)
  have hP : va_P D gcl [(a0, .inr (12, [.ref a1, .int 0, .int 0, .int 0, .int 0, .int 0, .int 0, .int 0, .int (-1), .ref a2, .ref a3, .ref a4, .ref a5, .ref a6, .ref a7, .ref a8, .ref a9, .ref a10, .ref a11, .ref a12, .ref a13, .ref a14, .ref a15, .ref a16, .int 0, .int 0, .int 0, .int 0, .int 0, .int 9999, .ref a17, .ref a18, .ref a19, .int 0, .ref a20, .int 0, .ref a21, .int 0, .int 0, .ref a22, .ref a23, .ref a24, .ref a25, .int 0, .ref a26, .int 0, .ref a27, .ref a28, .ref a29, .long 0, .ref a30, .ref a31, .ref a32, .ref a33, .ref a34, .ref a35, .ref a36, .ref a37, .ref a38, .int 0, .int 0, .int 0, .long 0, .ref a39, .int 0, .ref a40, .ref a41, .ref a42, .ref a43, .int 0, .int 0, .int 0, .int 0]))] H := hP
  have hD : va_D A [(a0, .inr (12, [.ref a1, .int 0, .int 0, .int 0, .int 0, .int 0, .int 0, .int 0, .int (-1), .ref a2, .ref a3, .ref a4, .ref a5, .ref a6, .ref a7, .ref a8, .ref a9, .ref a10, .ref a11, .ref a12, .ref a13, .ref a14, .ref a15, .ref a16, .int 0, .int 0, .int 0, .int 0, .int 0, .int 9999, .ref a17, .ref a18, .ref a19, .int 0, .ref a20, .int 0, .ref a21, .int 0, .int 0, .ref a22, .ref a23, .ref a24, .ref a25, .int 0, .ref a26, .int 0, .ref a27, .ref a28, .ref a29, .long 0, .ref a30, .ref a31, .ref a32, .ref a33, .ref a34, .ref a35, .ref a36, .ref a37, .ref a38, .int 0, .int 0, .int 0, .long 0, .ref a39, .int 0, .ref a40, .ref a41, .ref a42, .ref a43, .int 0, .int 0, .int 0, .int 0]))] := hD
  subst hw_3
  refine lv_if_eq (pc := 5) (tgt := 21) hx hb dX12_clash_5 (by decide) (fun _ => ?_) (fun c => absurd (by decide +kernel) c)
  refine lv_iconst (pc := 21) (v := (-1)) hx hb dX12_clash_21 (by decide) ?_
  have hP9 := hP.sub (ws' := []) [] rfl
  have hD9 := hD.sub (ws' := []) [] (by decide) rfl
  refine W.widen (k := 0) (n := 0) (Nat.le_of_ble_eq_true rfl) (Nat.le_of_ble_eq_true rfl) ?_
  exact W.iret (v := (-1)) hx hb hr (fun t ht hW => ⟨⟨(-1), ((fun _ => 0), (fun _ => (fun _ => 0)), (fun _ => (fun _ => 0)), (fun _ => 0), (fun _ => 0)), rfl, rfl, by rw [ht]; exact hP9, hD9⟩, hS.F ht⟩) hS.2.2 dX12_clash_22
set_option maxHeartbeats 4000000 in
set_option maxRecDepth 100000 in
theorem cc_128_yX11_tableBy (l : Launch) (D : va_G) (cB cC cI cJ : ClassId) (sz : Nat) (a0 a1 a2 a3 a4 a5 a6 a7 a8 a9 a10 a11 a12 a13 a14 a15 a16 : Nat) : Met l yX11_tableBy (.code yX11_tableBy cX11_tableBy 2 (some (.object "ManyOut$Table")) :: lw_gd) ({ frames := 0, cells := 0, slots := 0, locals := 0 }) (gPre D [(cB, .byte), (cC, .char), (cI, .int), (cJ, .long)] [.ref a0, .int 0] [(a0, .inr (11, [.ref a1, .ref a2, .ref a3, .ref a4, .ref a5, .ref a6, .ref a7, .ref a8, .ref a9, .ref a10, .int 0, .ref a11, .ref a12, .ref a13])), (a11, .inr (1, [.ref a14, .ref a15, .ref a16, .int 0, .int 0, .int 0, .int 0, .int 0, .int 9999, .int 0]))] sz) (va_Qr (fun _ => True) (gBr D (va_A [(a0, .inr (11, [.ref a1, .ref a2, .ref a3, .ref a4, .ref a5, .ref a6, .ref a7, .ref a8, .ref a9, .ref a10, .int 0, .ref a11, .ref a12, .ref a13])), (a11, .inr (1, [.ref a14, .ref a15, .ref a16, .int 0, .int 0, .int 0, .int 0, .int 0, .int 9999, .int 0]))] sz) (fun u : gEx => [(a0, .inr (11, [.ref a1, .ref a2, .ref a3, .ref a4, .ref a5, .ref a6, .ref a7, .ref a8, .ref a9, .ref a10, .int 0, .ref a11, .ref a12, .ref a13])), (a11, .inr (1, [.ref a14, .ref a15, .ref a16, .int 0, .int 0, .int 0, .int 0, .int 0, .int 9999, .int 0]))]) (fun u => a14)) (va_A [(a0, .inr (11, [.ref a1, .ref a2, .ref a3, .ref a4, .ref a5, .ref a6, .ref a7, .ref a8, .ref a9, .ref a10, .int 0, .ref a11, .ref a12, .ref a13])), (a11, .inr (1, [.ref a14, .ref a15, .ref a16, .int 0, .int 0, .int 0, .int 0, .int 0, .int 9999, .int 0]))] sz)) 0 0 (va_A [(a0, .inr (11, [.ref a1, .ref a2, .ref a3, .ref a4, .ref a5, .ref a6, .ref a7, .ref a8, .ref a9, .ref a10, .int 0, .ref a11, .ref a12, .ref a13])), (a11, .inr (1, [.ref a14, .ref a15, .ref a16, .int 0, .int 0, .int 0, .int 0, .int 0, .int 9999, .int 0]))] sz) := by
  refine Met.ofW (cc := cX11_tableBy) (maxL := 2) (ret := (some (.object "ManyOut$Table"))) (by decide) rfl ?_
  intro p e s m args below meth c s₁ B hml hv
  obtain ⟨rfl, hsz, hP, hK, hD0, hN⟩ := hv
  have hx := B.exec
  have hb := B.bytes
  have hr := B.returns
  have hts : ∀ w ∈ lw_gd, w.before _ s = true := fun w h => atoms_spec (ws := .code yX11_tableBy cX11_tableBy 2 (some (.object "ManyOut$Table")) :: lw_gd) B.pre w (List.mem_cons_of_mem _ h)
  have hown : s.vm.findClass RX11 = some m.cls := findClass_of_methodNamed B.named
  have hlocks := B.notSynchronized
  subst hsz
  have hD := hD0.self (sz := s.heap.size)
  generalize hAe : va_A [(a0, .inr (11, [.ref a1, .ref a2, .ref a3, .ref a4, .ref a5, .ref a6, .ref a7, .ref a8, .ref a9, .ref a10, .int 0, .ref a11, .ref a12, .ref a13])), (a11, .inr (1, [.ref a14, .ref a15, .ref a16, .int 0, .int 0, .int 0, .int 0, .int 0, .int 9999, .int 0]))] s.heap.size = A at hD ⊢
  have hA : ∀ q : Nat, s.heap.size ≤ q → A q := fun q h => by rw [← hAe]; exact Or.inr h
  have hS : va_S A s.heap s.heap [] := va_S.rf
  have hP : va_P D gcl [(a0, .inr (11, [.ref a1, .ref a2, .ref a3, .ref a4, .ref a5, .ref a6, .ref a7, .ref a8, .ref a9, .ref a10, .int 0, .ref a11, .ref a12, .ref a13])), (a11, .inr (1, [.ref a14, .ref a15, .ref a16, .int 0, .int 0, .int 0, .int 0, .int 0, .int 9999, .int 0]))] s.heap := hP
  have hl := lv_entry ([.ref a0, .int 0]) (n := 2) (Nat.le_of_ble_eq_true rfl)
  rw [lg_entry_eq]
  generalize (lg_sl ([.ref a0, .int 0]) ++ List.replicate (2 - (lg_sl ([.ref a0, .int 0])).length) Slot.unset).toArray = ls at hl ⊢
  have hl : lv_has ls 2 [(0, .ref a0), (1, .int 0)] := hl
  refine lv_iload_n (pc := 0) hx hb dX11_tableBy_0 rfl (lv_at hl 1 rfl) ?_
  refine lv_if_eq (pc := 1) (tgt := 14) hx hb dX11_tableBy_1 (by decide) (fun _ => ?_) (fun c => absurd (by decide +kernel) c)
  refine lv_aload_n (pc := 14) hx hb dX11_tableBy_14 rfl (lv_at hl 0 rfl) ?_
  refine va_get (pc := 15) (ci := 11) (v := .ref a11) (C := RX11) (T := TX11) (N := 14) hx hb hts iX11 hown hK hP 0 rfl rfl 11 (by decide) (hts _ tw_431) (fun _ h9 => h9) rfl dX11_tableBy_15 ?_
  refine va_getN (pc := 18) (ci := 1) (v := .ref a14) (C := RX1) (T := TX1) (N := 10) hx hb hts iX1 hown hK hP 1 rfl rfl 0 (by decide) (va_Nw.use rfl (hN _ tn_102)) (fun _ h9 => h9) rfl dX11_tableBy_18 ?_
  have hP9 := hP.sub (ws' := [(a0, .inr (11, [.ref a1, .ref a2, .ref a3, .ref a4, .ref a5, .ref a6, .ref a7, .ref a8, .ref a9, .ref a10, .int 0, .ref a11, .ref a12, .ref a13])), (a11, .inr (1, [.ref a14, .ref a15, .ref a16, .int 0, .int 0, .int 0, .int 0, .int 0, .int 9999, .int 0]))]) [0, 1] rfl
  have hD9 := hD.sub (ws' := [(a0, .inr (11, [.ref a1, .ref a2, .ref a3, .ref a4, .ref a5, .ref a6, .ref a7, .ref a8, .ref a9, .ref a10, .int 0, .ref a11, .ref a12, .ref a13])), (a11, .inr (1, [.ref a14, .ref a15, .ref a16, .int 0, .int 0, .int 0, .int 0, .int 0, .int 9999, .int 0]))]) [0, 1] (by decide) rfl
  refine W.widen (k := 0) (n := 0) (Nat.le_of_ble_eq_true rfl) (Nat.le_of_ble_eq_true rfl) ?_
  exact W.aret (v := .ref a14) hx hb hr (Or.inl ⟨_, rfl⟩) (Or.inr ⟨_, rfl⟩) (fun t ht hW => ⟨⟨((fun _ => 0), (fun _ => (fun _ => 0)), (fun _ => (fun _ => 0)), (fun _ => 0), (fun _ => 0)), a14, rfl, trivial, rfl, by rw [ht]; exact hP9, hD9⟩, hS.F ht⟩) hS.2.2 dX11_tableBy_21
set_option maxHeartbeats 4000000 in
set_option maxRecDepth 100000 in
theorem cc_129_yX8_worstPair (l : Launch) (D : va_G) (cB cC cI cJ : ClassId) (sz : Nat) (a0 a1 : Nat) : Met l yX8_worstPair (.code yX8_worstPair cX8_worstPair 7 (some .int) :: lw_gd) ({ frames := 0, cells := 0, slots := 0, locals := 0 }) (gPre D [(cB, .byte), (cC, .char), (cI, .int), (cJ, .long)] [.ref a0, .int 0] [(a0, .inr (8, [.ref a1]))] sz) (va_Qi (fun r _ => r = (-1)) (gB D (va_A [(a0, .inr (8, [.ref a1]))] sz) (fun u : gEx => [(a0, .inr (8, [.ref a1]))])) (va_A [(a0, .inr (8, [.ref a1]))] sz)) 0 0 (va_A [(a0, .inr (8, [.ref a1]))] sz) := by
  refine Met.ofW (cc := cX8_worstPair) (maxL := 7) (ret := (some .int)) (by decide) rfl ?_
  intro p e s m args below meth c s₁ B hml hv
  obtain ⟨rfl, hsz, hP, hK, hD0, hN⟩ := hv
  have hx := B.exec
  have hb := B.bytes
  have hr := B.returns
  have hts : ∀ w ∈ lw_gd, w.before _ s = true := fun w h => atoms_spec (ws := .code yX8_worstPair cX8_worstPair 7 (some .int) :: lw_gd) B.pre w (List.mem_cons_of_mem _ h)
  have hown : s.vm.findClass RX8 = some m.cls := findClass_of_methodNamed B.named
  have hlocks := B.notSynchronized
  subst hsz
  have hD := hD0.self (sz := s.heap.size)
  generalize hAe : va_A [(a0, .inr (8, [.ref a1]))] s.heap.size = A at hD ⊢
  have hA : ∀ q : Nat, s.heap.size ≤ q → A q := fun q h => by rw [← hAe]; exact Or.inr h
  have hS : va_S A s.heap s.heap [] := va_S.rf
  have hP : va_P D gcl [(a0, .inr (8, [.ref a1]))] s.heap := hP
  have hl := lv_entry ([.ref a0, .int 0]) (n := 7) (Nat.le_of_ble_eq_true rfl)
  rw [lg_entry_eq]
  generalize (lg_sl ([.ref a0, .int 0]) ++ List.replicate (7 - (lg_sl ([.ref a0, .int 0])).length) Slot.unset).toArray = ls at hl ⊢
  have hl : lv_has ls 7 [(0, .ref a0), (1, .int 0)] := hl
  refine lv_iconst (pc := 0) (v := (-1)) hx hb dX8_worstPair_0 (by decide) ?_
  refine lv_istore_n (pc := 1) (lv' := [(2, .int (-1)), (0, .ref a0), (1, .int 0)]) hx hb dX8_worstPair_1 rfl hl (by decide) rfl (fun ls hl => ?_)
  refine lv_iconst (pc := 2) (v := (-1)) hx hb dX8_worstPair_2 (by decide) ?_
  refine lv_istore_n (pc := 3) (lv' := [(3, .int (-1)), (2, .int (-1)), (0, .ref a0), (1, .int 0)]) hx hb dX8_worstPair_3 rfl hl (by decide) rfl (fun ls hl => ?_)
  refine lv_iconst (pc := 4) (v := 0) hx hb dX8_worstPair_4 (by decide) ?_
  refine lv_istore (pc := 5) (lv' := [(4, .int 0), (3, .int (-1)), (2, .int (-1)), (0, .ref a0), (1, .int 0)]) hx hb dX8_worstPair_5 hl (by decide) rfl (fun ls hl => ?_)
  refine lv_iload (pc := 7) hx hb dX8_worstPair_7 (lv_at hl 0 rfl) ?_
  refine lv_iload_n (pc := 9) hx hb dX8_worstPair_9 rfl (lv_at hl 4 rfl) ?_
  refine lv_icmp_ge (pc := 10) (tgt := 65) hx hb dX8_worstPair_10 (by decide) (fun _ => ?_) (fun c => absurd (by decide +kernel) c)
  refine lv_iload_n (pc := 65) hx hb dX8_worstPair_65 rfl (lv_at hl 2 rfl) ?_
  have hP9 := hP.sub (ws' := [(a0, .inr (8, [.ref a1]))]) [0] rfl
  have hD9 := hD.sub (ws' := [(a0, .inr (8, [.ref a1]))]) [0] (by decide) rfl
  refine W.widen (k := 0) (n := 0) (Nat.le_of_ble_eq_true rfl) (Nat.le_of_ble_eq_true rfl) ?_
  exact W.iret (v := (-1)) hx hb hr (fun t ht hW => ⟨⟨(-1), ((fun _ => 0), (fun _ => (fun _ => 0)), (fun _ => (fun _ => 0)), (fun _ => 0), (fun _ => 0)), rfl, rfl, by rw [ht]; exact hP9, hD9⟩, hS.F ht⟩) hS.2.2 dX8_worstPair_66
set_option maxHeartbeats 4000000 in
set_option maxRecDepth 100000 in
theorem cc_130_yX11_worst (l : Launch) (D : va_G) (cB cC cI cJ : ClassId) (sz : Nat) (a0 a1 a2 a3 a4 a5 a6 a7 a8 a9 a10 a11 a12 a13 a14 a15 a16 a17 : Nat) : Met l yX11_worst (.code yX11_worst cX11_worst 2 (some .int) :: lw_gd) ({ frames := 1, cells := 0, slots := 0, locals := 26 }) (gPre D [(cB, .byte), (cC, .char), (cI, .int), (cJ, .long)] [.ref a0, .int 0] [(a0, .inr (11, [.ref a1, .ref a2, .ref a3, .ref a4, .ref a5, .ref a6, .ref a7, .ref a8, .ref a9, .ref a10, .int 0, .ref a11, .ref a12, .ref a13])), (a11, .inr (1, [.ref a14, .ref a15, .ref a16, .int 0, .int 0, .int 0, .int 0, .int 0, .int 9999, .int 0])), (a14, .inr (8, [.ref a17]))] sz) (va_Qi (fun r _ => r = (-1)) (gB D (va_A [(a0, .inr (11, [.ref a1, .ref a2, .ref a3, .ref a4, .ref a5, .ref a6, .ref a7, .ref a8, .ref a9, .ref a10, .int 0, .ref a11, .ref a12, .ref a13])), (a11, .inr (1, [.ref a14, .ref a15, .ref a16, .int 0, .int 0, .int 0, .int 0, .int 0, .int 9999, .int 0])), (a14, .inr (8, [.ref a17]))] sz) (fun u : gEx => [])) (va_A [(a0, .inr (11, [.ref a1, .ref a2, .ref a3, .ref a4, .ref a5, .ref a6, .ref a7, .ref a8, .ref a9, .ref a10, .int 0, .ref a11, .ref a12, .ref a13])), (a11, .inr (1, [.ref a14, .ref a15, .ref a16, .int 0, .int 0, .int 0, .int 0, .int 0, .int 9999, .int 0])), (a14, .inr (8, [.ref a17]))] sz)) 0 0 (va_A [(a0, .inr (11, [.ref a1, .ref a2, .ref a3, .ref a4, .ref a5, .ref a6, .ref a7, .ref a8, .ref a9, .ref a10, .int 0, .ref a11, .ref a12, .ref a13])), (a11, .inr (1, [.ref a14, .ref a15, .ref a16, .int 0, .int 0, .int 0, .int 0, .int 0, .int 9999, .int 0])), (a14, .inr (8, [.ref a17]))] sz) := by
  refine Met.ofW (cc := cX11_worst) (maxL := 2) (ret := (some .int)) (by decide) rfl ?_
  intro p e s m args below meth c s₁ B hml hv
  obtain ⟨rfl, hsz, hP, hK, hD0, hN⟩ := hv
  have hx := B.exec
  have hb := B.bytes
  have hr := B.returns
  have hts : ∀ w ∈ lw_gd, w.before _ s = true := fun w h => atoms_spec (ws := .code yX11_worst cX11_worst 2 (some .int) :: lw_gd) B.pre w (List.mem_cons_of_mem _ h)
  have hown : s.vm.findClass RX11 = some m.cls := findClass_of_methodNamed B.named
  have hlocks := B.notSynchronized
  subst hsz
  have hD := hD0.self (sz := s.heap.size)
  generalize hAe : va_A [(a0, .inr (11, [.ref a1, .ref a2, .ref a3, .ref a4, .ref a5, .ref a6, .ref a7, .ref a8, .ref a9, .ref a10, .int 0, .ref a11, .ref a12, .ref a13])), (a11, .inr (1, [.ref a14, .ref a15, .ref a16, .int 0, .int 0, .int 0, .int 0, .int 0, .int 9999, .int 0])), (a14, .inr (8, [.ref a17]))] s.heap.size = A at hD ⊢
  have hA : ∀ q : Nat, s.heap.size ≤ q → A q := fun q h => by rw [← hAe]; exact Or.inr h
  have hS : va_S A s.heap s.heap [] := va_S.rf
  have hP : va_P D gcl [(a0, .inr (11, [.ref a1, .ref a2, .ref a3, .ref a4, .ref a5, .ref a6, .ref a7, .ref a8, .ref a9, .ref a10, .int 0, .ref a11, .ref a12, .ref a13])), (a11, .inr (1, [.ref a14, .ref a15, .ref a16, .int 0, .int 0, .int 0, .int 0, .int 0, .int 9999, .int 0])), (a14, .inr (8, [.ref a17]))] s.heap := hP
  have hl := lv_entry ([.ref a0, .int 0]) (n := 2) (Nat.le_of_ble_eq_true rfl)
  rw [lg_entry_eq]
  generalize (lg_sl ([.ref a0, .int 0]) ++ List.replicate (2 - (lg_sl ([.ref a0, .int 0])).length) Slot.unset).toArray = ls at hl ⊢
  have hl : lv_has ls 2 [(0, .ref a0), (1, .int 0)] := hl
  refine lv_aload_n (pc := 0) hx hb dX11_worst_0 rfl (lv_at hl 0 rfl) ?_
  refine lv_iload_n (pc := 1) hx hb dX11_worst_1 rfl (lv_at hl 1 rfl) ?_
  refine gc_r (pc := 2) (wc := [(a0, .inr (11, [.ref a1, .ref a2, .ref a3, .ref a4, .ref a5, .ref a6, .ref a7, .ref a8, .ref a9, .ref a10, .int 0, .ref a11, .ref a12, .ref a13])), (a11, .inr (1, [.ref a14, .ref a15, .ref a16, .int 0, .int 0, .int 0, .int 0, .int 0, .int 9999, .int 0]))]) (wr := [(a14, .inr (8, [.ref a17]))]) hP hD hS hA [0, 1] [2] rfl rfl (by decide) (by decide) (by decide) (fun hPc hDc => va_runV (As := [.int 0]) (rest := []) ⟨hx, hb, hml, hown, hts⟩ (cc_128_yX11_tableBy l D cB cC cI cJ _ a0 a1 a2 a3 a4 a5 a6 a7 a8 a9 a10 a11 a12 a13 a14 a15 a16) ⟨gcwB hts tw_787 tw_1 tw_784 hd_yX11_tableBy ⟨Nat.le_of_ble_eq_true rfl, Nat.le_of_ble_eq_true rfl⟩, hts _ tw_786, hts _ tp_28⟩ ⟨gblind, va_recv hK hPc (ci := 11) (q0 := 0) rfl rfl, (gpreS hPc hK hDc hN).2⟩ rfl rfl hl.1 rfl (lv_room (Nat.le_of_ble_eq_true rfl)) dX11_worst_2 ⟨Nat.le_of_ble_eq_true rfl, Nat.le_of_ble_eq_true rfl⟩) (fun u_1 r_2 H locs hw_3 hP hD hS => ?_)
  have hP : va_P D gcl [(a14, .inr (8, [.ref a17])), (a0, .inr (11, [.ref a1, .ref a2, .ref a3, .ref a4, .ref a5, .ref a6, .ref a7, .ref a8, .ref a9, .ref a10, .int 0, .ref a11, .ref a12, .ref a13])), (a11, .inr (1, [.ref a14, .ref a15, .ref a16, .int 0, .int 0, .int 0, .int 0, .int 0, .int 9999, .int 0]))] H := hP
  have hD : va_D A [(a14, .inr (8, [.ref a17])), (a0, .inr (11, [.ref a1, .ref a2, .ref a3, .ref a4, .ref a5, .ref a6, .ref a7, .ref a8, .ref a9, .ref a10, .int 0, .ref a11, .ref a12, .ref a13])), (a11, .inr (1, [.ref a14, .ref a15, .ref a16, .int 0, .int 0, .int 0, .int 0, .int 0, .int 9999, .int 0]))] := hD
  have hw_3 : r_2 = a14 := hw_3
  rw [hw_3]
  refine lv_aload_n (pc := 5) hx hb dX11_worst_5 rfl (lv_at hl 0 rfl) ?_
  refine va_get (pc := 6) (ci := 11) (v := .ref a11) (C := RX11) (T := TX11) (N := 14) hx hb hts iX11 hown hK hP 1 rfl rfl 11 (by decide) (hts _ tw_431) (fun _ h9 => h9) rfl dX11_worst_6 ?_
  refine va_getN (pc := 9) (ci := 1) (v := .int 0) (C := RX1) (T := TX1) (N := 10) hx hb hts iX1 hown hK hP 2 rfl rfl 4 (by decide) (va_Nw.use rfl (hN _ tn_123)) (fun _ h9 => h9) rfl dX11_worst_9 ?_
  refine gc_i (pc := 12) (wc := [(a14, .inr (8, [.ref a17]))]) (wr := [(a0, .inr (11, [.ref a1, .ref a2, .ref a3, .ref a4, .ref a5, .ref a6, .ref a7, .ref a8, .ref a9, .ref a10, .int 0, .ref a11, .ref a12, .ref a13])), (a11, .inr (1, [.ref a14, .ref a15, .ref a16, .int 0, .int 0, .int 0, .int 0, .int 0, .int 9999, .int 0]))]) hP hD hS hA [0] [1, 2] rfl rfl (by decide) (by decide) (by decide) (fun hPc hDc => va_runV (As := [.int 0]) (rest := []) ⟨hx, hb, hml, hown, hts⟩ (cc_129_yX8_worstPair l D cB cC cI cJ _ a14 a17) ⟨gcwB hts tw_1117 tw_5 tw_1114 hd_yX8_worstPair ⟨Nat.le_of_ble_eq_true rfl, Nat.le_of_ble_eq_true rfl⟩, hts _ tw_1115, hts _ tw_1116⟩ ⟨gblind, va_recv hK hPc (ci := 8) (q0 := 0) rfl rfl, (gpreS hPc hK hDc hN).2⟩ rfl rfl hl.1 rfl (lv_room (Nat.le_of_ble_eq_true rfl)) dX11_worst_12 ⟨Nat.le_of_ble_eq_true rfl, Nat.le_of_ble_eq_true rfl⟩) (fun r_5 u_4 H locs hw_6 hP hD hS => ?_)
  have hP : va_P D gcl [(a0, .inr (11, [.ref a1, .ref a2, .ref a3, .ref a4, .ref a5, .ref a6, .ref a7, .ref a8, .ref a9, .ref a10, .int 0, .ref a11, .ref a12, .ref a13])), (a11, .inr (1, [.ref a14, .ref a15, .ref a16, .int 0, .int 0, .int 0, .int 0, .int 0, .int 9999, .int 0])), (a14, .inr (8, [.ref a17]))] H := hP
  have hD : va_D A [(a0, .inr (11, [.ref a1, .ref a2, .ref a3, .ref a4, .ref a5, .ref a6, .ref a7, .ref a8, .ref a9, .ref a10, .int 0, .ref a11, .ref a12, .ref a13])), (a11, .inr (1, [.ref a14, .ref a15, .ref a16, .int 0, .int 0, .int 0, .int 0, .int 0, .int 9999, .int 0])), (a14, .inr (8, [.ref a17]))] := hD
  subst hw_6
  have hP9 := hP.sub (ws' := []) [] rfl
  have hD9 := hD.sub (ws' := []) [] (by decide) rfl
  refine W.widen (k := 0) (n := 0) (Nat.le_of_ble_eq_true rfl) (Nat.le_of_ble_eq_true rfl) ?_
  exact W.iret (v := (-1)) hx hb hr (fun t ht hW => ⟨⟨(-1), ((fun _ => 0), (fun _ => (fun _ => 0)), (fun _ => (fun _ => 0)), (fun _ => 0), (fun _ => 0)), rfl, rfl, by rw [ht]; exact hP9, hD9⟩, hS.F ht⟩) hS.2.2 dX11_worst_15
set_option maxHeartbeats 4000000 in
set_option maxRecDepth 100000 in
theorem cc_131_yX12_worst (l : Launch) (D : va_G) (cB cC cI cJ : ClassId) (sz : Nat) (a0 a1 a2 a3 a4 a5 a6 a7 a8 a9 a10 a11 a12 a13 a14 a15 a16 a17 a18 a19 a20 a21 a22 a23 a24 a25 a26 a27 a28 a29 a30 a31 a32 a33 a34 a35 a36 a37 a38 a39 a40 a41 a42 a43 : Nat) : Met l yX12_worst (.code yX12_worst cX12_worst 7 (some .int) :: lw_gd) ({ frames := 0, cells := 0, slots := 0, locals := 0 }) (gPre D [(cB, .byte), (cC, .char), (cI, .int), (cJ, .long)] [.ref a0, .int 0] [(a0, .inr (12, [.ref a1, .int 0, .int 0, .int 0, .int 0, .int 0, .int 0, .int 0, .int (-1), .ref a2, .ref a3, .ref a4, .ref a5, .ref a6, .ref a7, .ref a8, .ref a9, .ref a10, .ref a11, .ref a12, .ref a13, .ref a14, .ref a15, .ref a16, .int 0, .int 0, .int 0, .int 0, .int 0, .int 9999, .ref a17, .ref a18, .ref a19, .int 0, .ref a20, .int 0, .ref a21, .int 0, .int 0, .ref a22, .ref a23, .ref a24, .ref a25, .int 0, .ref a26, .int 0, .ref a27, .ref a28, .ref a29, .long 0, .ref a30, .ref a31, .ref a32, .ref a33, .ref a34, .ref a35, .ref a36, .ref a37, .ref a38, .int 0, .int 0, .int 0, .long 0, .ref a39, .int 0, .ref a40, .ref a41, .ref a42, .ref a43, .int 0, .int 0, .int 0, .int 0]))] sz) (va_Qi (fun r _ => r = (-1)) (gB D (va_A [(a0, .inr (12, [.ref a1, .int 0, .int 0, .int 0, .int 0, .int 0, .int 0, .int 0, .int (-1), .ref a2, .ref a3, .ref a4, .ref a5, .ref a6, .ref a7, .ref a8, .ref a9, .ref a10, .ref a11, .ref a12, .ref a13, .ref a14, .ref a15, .ref a16, .int 0, .int 0, .int 0, .int 0, .int 0, .int 9999, .ref a17, .ref a18, .ref a19, .int 0, .ref a20, .int 0, .ref a21, .int 0, .int 0, .ref a22, .ref a23, .ref a24, .ref a25, .int 0, .ref a26, .int 0, .ref a27, .ref a28, .ref a29, .long 0, .ref a30, .ref a31, .ref a32, .ref a33, .ref a34, .ref a35, .ref a36, .ref a37, .ref a38, .int 0, .int 0, .int 0, .long 0, .ref a39, .int 0, .ref a40, .ref a41, .ref a42, .ref a43, .int 0, .int 0, .int 0, .int 0]))] sz) (fun u : gEx => [])) (va_A [(a0, .inr (12, [.ref a1, .int 0, .int 0, .int 0, .int 0, .int 0, .int 0, .int 0, .int (-1), .ref a2, .ref a3, .ref a4, .ref a5, .ref a6, .ref a7, .ref a8, .ref a9, .ref a10, .ref a11, .ref a12, .ref a13, .ref a14, .ref a15, .ref a16, .int 0, .int 0, .int 0, .int 0, .int 0, .int 9999, .ref a17, .ref a18, .ref a19, .int 0, .ref a20, .int 0, .ref a21, .int 0, .int 0, .ref a22, .ref a23, .ref a24, .ref a25, .int 0, .ref a26, .int 0, .ref a27, .ref a28, .ref a29, .long 0, .ref a30, .ref a31, .ref a32, .ref a33, .ref a34, .ref a35, .ref a36, .ref a37, .ref a38, .int 0, .int 0, .int 0, .long 0, .ref a39, .int 0, .ref a40, .ref a41, .ref a42, .ref a43, .int 0, .int 0, .int 0, .int 0]))] sz)) 0 0 (va_A [(a0, .inr (12, [.ref a1, .int 0, .int 0, .int 0, .int 0, .int 0, .int 0, .int 0, .int (-1), .ref a2, .ref a3, .ref a4, .ref a5, .ref a6, .ref a7, .ref a8, .ref a9, .ref a10, .ref a11, .ref a12, .ref a13, .ref a14, .ref a15, .ref a16, .int 0, .int 0, .int 0, .int 0, .int 0, .int 9999, .ref a17, .ref a18, .ref a19, .int 0, .ref a20, .int 0, .ref a21, .int 0, .int 0, .ref a22, .ref a23, .ref a24, .ref a25, .int 0, .ref a26, .int 0, .ref a27, .ref a28, .ref a29, .long 0, .ref a30, .ref a31, .ref a32, .ref a33, .ref a34, .ref a35, .ref a36, .ref a37, .ref a38, .int 0, .int 0, .int 0, .long 0, .ref a39, .int 0, .ref a40, .ref a41, .ref a42, .ref a43, .int 0, .int 0, .int 0, .int 0]))] sz) := by
  refine Met.ofW (cc := cX12_worst) (maxL := 7) (ret := (some .int)) (by decide) rfl ?_
  intro p e s m args below meth c s₁ B hml hv
  obtain ⟨rfl, hsz, hP, hK, hD0, hN⟩ := hv
  have hx := B.exec
  have hb := B.bytes
  have hr := B.returns
  have hts : ∀ w ∈ lw_gd, w.before _ s = true := fun w h => atoms_spec (ws := .code yX12_worst cX12_worst 7 (some .int) :: lw_gd) B.pre w (List.mem_cons_of_mem _ h)
  have hown : s.vm.findClass RX12 = some m.cls := findClass_of_methodNamed B.named
  have hlocks := B.notSynchronized
  subst hsz
  have hD := hD0.self (sz := s.heap.size)
  generalize hAe : va_A [(a0, .inr (12, [.ref a1, .int 0, .int 0, .int 0, .int 0, .int 0, .int 0, .int 0, .int (-1), .ref a2, .ref a3, .ref a4, .ref a5, .ref a6, .ref a7, .ref a8, .ref a9, .ref a10, .ref a11, .ref a12, .ref a13, .ref a14, .ref a15, .ref a16, .int 0, .int 0, .int 0, .int 0, .int 0, .int 9999, .ref a17, .ref a18, .ref a19, .int 0, .ref a20, .int 0, .ref a21, .int 0, .int 0, .ref a22, .ref a23, .ref a24, .ref a25, .int 0, .ref a26, .int 0, .ref a27, .ref a28, .ref a29, .long 0, .ref a30, .ref a31, .ref a32, .ref a33, .ref a34, .ref a35, .ref a36, .ref a37, .ref a38, .int 0, .int 0, .int 0, .long 0, .ref a39, .int 0, .ref a40, .ref a41, .ref a42, .ref a43, .int 0, .int 0, .int 0, .int 0]))] s.heap.size = A at hD ⊢
  have hA : ∀ q : Nat, s.heap.size ≤ q → A q := fun q h => by rw [← hAe]; exact Or.inr h
  have hS : va_S A s.heap s.heap [] := va_S.rf
  have hP : va_P D gcl [(a0, .inr (12, [.ref a1, .int 0, .int 0, .int 0, .int 0, .int 0, .int 0, .int 0, .int (-1), .ref a2, .ref a3, .ref a4, .ref a5, .ref a6, .ref a7, .ref a8, .ref a9, .ref a10, .ref a11, .ref a12, .ref a13, .ref a14, .ref a15, .ref a16, .int 0, .int 0, .int 0, .int 0, .int 0, .int 9999, .ref a17, .ref a18, .ref a19, .int 0, .ref a20, .int 0, .ref a21, .int 0, .int 0, .ref a22, .ref a23, .ref a24, .ref a25, .int 0, .ref a26, .int 0, .ref a27, .ref a28, .ref a29, .long 0, .ref a30, .ref a31, .ref a32, .ref a33, .ref a34, .ref a35, .ref a36, .ref a37, .ref a38, .int 0, .int 0, .int 0, .long 0, .ref a39, .int 0, .ref a40, .ref a41, .ref a42, .ref a43, .int 0, .int 0, .int 0, .int 0]))] s.heap := hP
  have hl := lv_entry ([.ref a0, .int 0]) (n := 7) (Nat.le_of_ble_eq_true rfl)
  rw [lg_entry_eq]
  generalize (lg_sl ([.ref a0, .int 0]) ++ List.replicate (7 - (lg_sl ([.ref a0, .int 0])).length) Slot.unset).toArray = ls at hl ⊢
  have hl : lv_has ls 7 [(0, .ref a0), (1, .int 0)] := hl
  refine lv_iconst (pc := 0) (v := (-1)) hx hb dX12_worst_0 (by decide) ?_
  refine lv_istore_n (pc := 1) (lv' := [(2, .int (-1)), (0, .ref a0), (1, .int 0)]) hx hb dX12_worst_1 rfl hl (by decide) rfl (fun ls hl => ?_)
  refine lv_iconst (pc := 2) (v := (-1)) hx hb dX12_worst_2 (by decide) ?_
  refine lv_istore_n (pc := 3) (lv' := [(3, .int (-1)), (2, .int (-1)), (0, .ref a0), (1, .int 0)]) hx hb dX12_worst_3 rfl hl (by decide) rfl (fun ls hl => ?_)
  refine lv_iconst (pc := 4) (v := 0) hx hb dX12_worst_4 (by decide) ?_
  refine lv_istore (pc := 5) (lv' := [(4, .int 0), (3, .int (-1)), (2, .int (-1)), (0, .ref a0), (1, .int 0)]) hx hb dX12_worst_5 hl (by decide) rfl (fun ls hl => ?_)
  refine lv_iload (pc := 7) hx hb dX12_worst_7 (lv_at hl 0 rfl) ?_
  refine lv_aload_n (pc := 9) hx hb dX12_worst_9 rfl (lv_at hl 3 rfl) ?_
  refine va_get (pc := 10) (ci := 12) (v := .int 0) (C := RX12) (T := TX12) (N := 73) hx hb hts iX12 hown hK hP 0 rfl rfl 25 (by decide) (hts _ tw_1426) (fun _ h9 => h9) rfl dX12_worst_10 ?_
  refine lv_icmp_ge (pc := 13) (tgt := 97) hx hb dX12_worst_13 (by decide) (fun _ => ?_) (fun c => absurd (by decide +kernel) c)
  refine lv_iload_n (pc := 97) hx hb dX12_worst_97 rfl (lv_at hl 2 rfl) ?_
  have hP9 := hP.sub (ws' := []) [] rfl
  have hD9 := hD.sub (ws' := []) [] (by decide) rfl
  refine W.widen (k := 0) (n := 0) (Nat.le_of_ble_eq_true rfl) (Nat.le_of_ble_eq_true rfl) ?_
  exact W.iret (v := (-1)) hx hb hr (fun t ht hW => ⟨⟨(-1), ((fun _ => 0), (fun _ => (fun _ => 0)), (fun _ => (fun _ => 0)), (fun _ => 0), (fun _ => 0)), rfl, rfl, by rw [ht]; exact hP9, hD9⟩, hS.F ht⟩) hS.2.2 dX12_worst_98
set_option maxHeartbeats 4000000 in
set_option maxRecDepth 100000 in
theorem cc_132_yX11_tableBy (l : Launch) (D : va_G) (cB cC cI cJ : ClassId) (sz : Nat) (a0 a1 a2 a3 a4 a5 a6 a7 a8 a9 a10 a11 a12 a13 a14 a15 a16 : Nat) : Met l yX11_tableBy (.code yX11_tableBy cX11_tableBy 2 (some (.object "ManyOut$Table")) :: lw_gd) ({ frames := 0, cells := 0, slots := 0, locals := 0 }) (gPre D [(cB, .byte), (cC, .char), (cI, .int), (cJ, .long)] [.ref a0, .int 1] [(a0, .inr (11, [.ref a1, .ref a2, .ref a3, .ref a4, .ref a5, .ref a6, .ref a7, .ref a8, .ref a9, .ref a10, .int 0, .ref a11, .ref a12, .ref a13])), (a12, .inr (2, [.ref a14, .ref a15, .ref a16, .int 0, .int 0, .int 0, .int 0, .int 0]))] sz) (va_Qr (fun _ => True) (gBr D (va_A [(a0, .inr (11, [.ref a1, .ref a2, .ref a3, .ref a4, .ref a5, .ref a6, .ref a7, .ref a8, .ref a9, .ref a10, .int 0, .ref a11, .ref a12, .ref a13])), (a12, .inr (2, [.ref a14, .ref a15, .ref a16, .int 0, .int 0, .int 0, .int 0, .int 0]))] sz) (fun u : gEx => [(a0, .inr (11, [.ref a1, .ref a2, .ref a3, .ref a4, .ref a5, .ref a6, .ref a7, .ref a8, .ref a9, .ref a10, .int 0, .ref a11, .ref a12, .ref a13])), (a12, .inr (2, [.ref a14, .ref a15, .ref a16, .int 0, .int 0, .int 0, .int 0, .int 0]))]) (fun u => a14)) (va_A [(a0, .inr (11, [.ref a1, .ref a2, .ref a3, .ref a4, .ref a5, .ref a6, .ref a7, .ref a8, .ref a9, .ref a10, .int 0, .ref a11, .ref a12, .ref a13])), (a12, .inr (2, [.ref a14, .ref a15, .ref a16, .int 0, .int 0, .int 0, .int 0, .int 0]))] sz)) 0 0 (va_A [(a0, .inr (11, [.ref a1, .ref a2, .ref a3, .ref a4, .ref a5, .ref a6, .ref a7, .ref a8, .ref a9, .ref a10, .int 0, .ref a11, .ref a12, .ref a13])), (a12, .inr (2, [.ref a14, .ref a15, .ref a16, .int 0, .int 0, .int 0, .int 0, .int 0]))] sz) := by
  refine Met.ofW (cc := cX11_tableBy) (maxL := 2) (ret := (some (.object "ManyOut$Table"))) (by decide) rfl ?_
  intro p e s m args below meth c s₁ B hml hv
  obtain ⟨rfl, hsz, hP, hK, hD0, hN⟩ := hv
  have hx := B.exec
  have hb := B.bytes
  have hr := B.returns
  have hts : ∀ w ∈ lw_gd, w.before _ s = true := fun w h => atoms_spec (ws := .code yX11_tableBy cX11_tableBy 2 (some (.object "ManyOut$Table")) :: lw_gd) B.pre w (List.mem_cons_of_mem _ h)
  have hown : s.vm.findClass RX11 = some m.cls := findClass_of_methodNamed B.named
  have hlocks := B.notSynchronized
  subst hsz
  have hD := hD0.self (sz := s.heap.size)
  generalize hAe : va_A [(a0, .inr (11, [.ref a1, .ref a2, .ref a3, .ref a4, .ref a5, .ref a6, .ref a7, .ref a8, .ref a9, .ref a10, .int 0, .ref a11, .ref a12, .ref a13])), (a12, .inr (2, [.ref a14, .ref a15, .ref a16, .int 0, .int 0, .int 0, .int 0, .int 0]))] s.heap.size = A at hD ⊢
  have hA : ∀ q : Nat, s.heap.size ≤ q → A q := fun q h => by rw [← hAe]; exact Or.inr h
  have hS : va_S A s.heap s.heap [] := va_S.rf
  have hP : va_P D gcl [(a0, .inr (11, [.ref a1, .ref a2, .ref a3, .ref a4, .ref a5, .ref a6, .ref a7, .ref a8, .ref a9, .ref a10, .int 0, .ref a11, .ref a12, .ref a13])), (a12, .inr (2, [.ref a14, .ref a15, .ref a16, .int 0, .int 0, .int 0, .int 0, .int 0]))] s.heap := hP
  have hl := lv_entry ([.ref a0, .int 1]) (n := 2) (Nat.le_of_ble_eq_true rfl)
  rw [lg_entry_eq]
  generalize (lg_sl ([.ref a0, .int 1]) ++ List.replicate (2 - (lg_sl ([.ref a0, .int 1])).length) Slot.unset).toArray = ls at hl ⊢
  have hl : lv_has ls 2 [(0, .ref a0), (1, .int 1)] := hl
  refine lv_iload_n (pc := 0) hx hb dX11_tableBy_0 rfl (lv_at hl 1 rfl) ?_
  refine lv_if_eq (pc := 1) (tgt := 14) hx hb dX11_tableBy_1 (by decide) (fun c => absurd c (by decide +kernel)) (fun _ => ?_)
  refine lv_aload_n (pc := 4) hx hb dX11_tableBy_4 rfl (lv_at hl 0 rfl) ?_
  refine va_get (pc := 5) (ci := 11) (v := .ref a12) (C := RX11) (T := TX11) (N := 14) hx hb hts iX11 hown hK hP 0 rfl rfl 12 (by decide) (hts _ tw_432) (fun _ h9 => h9) rfl dX11_tableBy_5 ?_
  refine va_getN (pc := 8) (ci := 2) (v := .ref a14) (C := RX2) (T := TX2) (N := 8) hx hb hts iX2 hown hK hP 1 rfl rfl 0 (by decide) (va_Nw.use rfl (hN _ tn_392)) (fun _ h9 => h9) rfl dX11_tableBy_8 ?_
  refine lv_goto (pc := 11) (tgt := 21) hx hb dX11_tableBy_11 (by decide) ?_
  have hP9 := hP.sub (ws' := [(a0, .inr (11, [.ref a1, .ref a2, .ref a3, .ref a4, .ref a5, .ref a6, .ref a7, .ref a8, .ref a9, .ref a10, .int 0, .ref a11, .ref a12, .ref a13])), (a12, .inr (2, [.ref a14, .ref a15, .ref a16, .int 0, .int 0, .int 0, .int 0, .int 0]))]) [0, 1] rfl
  have hD9 := hD.sub (ws' := [(a0, .inr (11, [.ref a1, .ref a2, .ref a3, .ref a4, .ref a5, .ref a6, .ref a7, .ref a8, .ref a9, .ref a10, .int 0, .ref a11, .ref a12, .ref a13])), (a12, .inr (2, [.ref a14, .ref a15, .ref a16, .int 0, .int 0, .int 0, .int 0, .int 0]))]) [0, 1] (by decide) rfl
  refine W.widen (k := 0) (n := 0) (Nat.le_of_ble_eq_true rfl) (Nat.le_of_ble_eq_true rfl) ?_
  exact W.aret (v := .ref a14) hx hb hr (Or.inl ⟨_, rfl⟩) (Or.inr ⟨_, rfl⟩) (fun t ht hW => ⟨⟨((fun _ => 0), (fun _ => (fun _ => 0)), (fun _ => (fun _ => 0)), (fun _ => 0), (fun _ => 0)), a14, rfl, trivial, rfl, by rw [ht]; exact hP9, hD9⟩, hS.F ht⟩) hS.2.2 dX11_tableBy_21
set_option maxHeartbeats 4000000 in
set_option maxRecDepth 100000 in
theorem cc_133_yX11_worst (l : Launch) (D : va_G) (cB cC cI cJ : ClassId) (sz : Nat) (a0 a1 a2 a3 a4 a5 a6 a7 a8 a9 a10 a11 a12 a13 a14 a15 a16 a17 a18 a19 a20 : Nat) : Met l yX11_worst (.code yX11_worst cX11_worst 2 (some .int) :: lw_gd) ({ frames := 1, cells := 0, slots := 0, locals := 26 }) (gPre D [(cB, .byte), (cC, .char), (cI, .int), (cJ, .long)] [.ref a0, .int 1] [(a0, .inr (11, [.ref a1, .ref a2, .ref a3, .ref a4, .ref a5, .ref a6, .ref a7, .ref a8, .ref a9, .ref a10, .int 0, .ref a11, .ref a12, .ref a13])), (a12, .inr (2, [.ref a14, .ref a15, .ref a16, .int 0, .int 0, .int 0, .int 0, .int 0])), (a11, .inr (1, [.ref a17, .ref a18, .ref a19, .int 0, .int 0, .int 0, .int 0, .int 0, .int 9999, .int 0])), (a14, .inr (8, [.ref a20]))] sz) (va_Qi (fun r _ => r = (-1)) (gB D (va_A [(a0, .inr (11, [.ref a1, .ref a2, .ref a3, .ref a4, .ref a5, .ref a6, .ref a7, .ref a8, .ref a9, .ref a10, .int 0, .ref a11, .ref a12, .ref a13])), (a12, .inr (2, [.ref a14, .ref a15, .ref a16, .int 0, .int 0, .int 0, .int 0, .int 0])), (a11, .inr (1, [.ref a17, .ref a18, .ref a19, .int 0, .int 0, .int 0, .int 0, .int 0, .int 9999, .int 0])), (a14, .inr (8, [.ref a20]))] sz) (fun u : gEx => [])) (va_A [(a0, .inr (11, [.ref a1, .ref a2, .ref a3, .ref a4, .ref a5, .ref a6, .ref a7, .ref a8, .ref a9, .ref a10, .int 0, .ref a11, .ref a12, .ref a13])), (a12, .inr (2, [.ref a14, .ref a15, .ref a16, .int 0, .int 0, .int 0, .int 0, .int 0])), (a11, .inr (1, [.ref a17, .ref a18, .ref a19, .int 0, .int 0, .int 0, .int 0, .int 0, .int 9999, .int 0])), (a14, .inr (8, [.ref a20]))] sz)) 0 0 (va_A [(a0, .inr (11, [.ref a1, .ref a2, .ref a3, .ref a4, .ref a5, .ref a6, .ref a7, .ref a8, .ref a9, .ref a10, .int 0, .ref a11, .ref a12, .ref a13])), (a12, .inr (2, [.ref a14, .ref a15, .ref a16, .int 0, .int 0, .int 0, .int 0, .int 0])), (a11, .inr (1, [.ref a17, .ref a18, .ref a19, .int 0, .int 0, .int 0, .int 0, .int 0, .int 9999, .int 0])), (a14, .inr (8, [.ref a20]))] sz) := by
  refine Met.ofW (cc := cX11_worst) (maxL := 2) (ret := (some .int)) (by decide) rfl ?_
  intro p e s m args below meth c s₁ B hml hv
  obtain ⟨rfl, hsz, hP, hK, hD0, hN⟩ := hv
  have hx := B.exec
  have hb := B.bytes
  have hr := B.returns
  have hts : ∀ w ∈ lw_gd, w.before _ s = true := fun w h => atoms_spec (ws := .code yX11_worst cX11_worst 2 (some .int) :: lw_gd) B.pre w (List.mem_cons_of_mem _ h)
  have hown : s.vm.findClass RX11 = some m.cls := findClass_of_methodNamed B.named
  have hlocks := B.notSynchronized
  subst hsz
  have hD := hD0.self (sz := s.heap.size)
  generalize hAe : va_A [(a0, .inr (11, [.ref a1, .ref a2, .ref a3, .ref a4, .ref a5, .ref a6, .ref a7, .ref a8, .ref a9, .ref a10, .int 0, .ref a11, .ref a12, .ref a13])), (a12, .inr (2, [.ref a14, .ref a15, .ref a16, .int 0, .int 0, .int 0, .int 0, .int 0])), (a11, .inr (1, [.ref a17, .ref a18, .ref a19, .int 0, .int 0, .int 0, .int 0, .int 0, .int 9999, .int 0])), (a14, .inr (8, [.ref a20]))] s.heap.size = A at hD ⊢
  have hA : ∀ q : Nat, s.heap.size ≤ q → A q := fun q h => by rw [← hAe]; exact Or.inr h
  have hS : va_S A s.heap s.heap [] := va_S.rf
  have hP : va_P D gcl [(a0, .inr (11, [.ref a1, .ref a2, .ref a3, .ref a4, .ref a5, .ref a6, .ref a7, .ref a8, .ref a9, .ref a10, .int 0, .ref a11, .ref a12, .ref a13])), (a12, .inr (2, [.ref a14, .ref a15, .ref a16, .int 0, .int 0, .int 0, .int 0, .int 0])), (a11, .inr (1, [.ref a17, .ref a18, .ref a19, .int 0, .int 0, .int 0, .int 0, .int 0, .int 9999, .int 0])), (a14, .inr (8, [.ref a20]))] s.heap := hP
  have hl := lv_entry ([.ref a0, .int 1]) (n := 2) (Nat.le_of_ble_eq_true rfl)
  rw [lg_entry_eq]
  generalize (lg_sl ([.ref a0, .int 1]) ++ List.replicate (2 - (lg_sl ([.ref a0, .int 1])).length) Slot.unset).toArray = ls at hl ⊢
  have hl : lv_has ls 2 [(0, .ref a0), (1, .int 1)] := hl
  refine lv_aload_n (pc := 0) hx hb dX11_worst_0 rfl (lv_at hl 0 rfl) ?_
  refine lv_iload_n (pc := 1) hx hb dX11_worst_1 rfl (lv_at hl 1 rfl) ?_
  refine gc_r (pc := 2) (wc := [(a0, .inr (11, [.ref a1, .ref a2, .ref a3, .ref a4, .ref a5, .ref a6, .ref a7, .ref a8, .ref a9, .ref a10, .int 0, .ref a11, .ref a12, .ref a13])), (a12, .inr (2, [.ref a14, .ref a15, .ref a16, .int 0, .int 0, .int 0, .int 0, .int 0]))]) (wr := [(a11, .inr (1, [.ref a17, .ref a18, .ref a19, .int 0, .int 0, .int 0, .int 0, .int 0, .int 9999, .int 0])), (a14, .inr (8, [.ref a20]))]) hP hD hS hA [0, 1] [2, 3] rfl rfl (by decide) (by decide) (by decide) (fun hPc hDc => va_runV (As := [.int 1]) (rest := []) ⟨hx, hb, hml, hown, hts⟩ (cc_132_yX11_tableBy l D cB cC cI cJ _ a0 a1 a2 a3 a4 a5 a6 a7 a8 a9 a10 a11 a12 a13 a14 a15 a16) ⟨gcwB hts tw_787 tw_1 tw_784 hd_yX11_tableBy ⟨Nat.le_of_ble_eq_true rfl, Nat.le_of_ble_eq_true rfl⟩, hts _ tw_786, hts _ tp_28⟩ ⟨gblind, va_recv hK hPc (ci := 11) (q0 := 0) rfl rfl, (gpreS hPc hK hDc hN).2⟩ rfl rfl hl.1 rfl (lv_room (Nat.le_of_ble_eq_true rfl)) dX11_worst_2 ⟨Nat.le_of_ble_eq_true rfl, Nat.le_of_ble_eq_true rfl⟩) (fun u_1 r_2 H locs hw_3 hP hD hS => ?_)
  have hP : va_P D gcl [(a11, .inr (1, [.ref a17, .ref a18, .ref a19, .int 0, .int 0, .int 0, .int 0, .int 0, .int 9999, .int 0])), (a14, .inr (8, [.ref a20])), (a0, .inr (11, [.ref a1, .ref a2, .ref a3, .ref a4, .ref a5, .ref a6, .ref a7, .ref a8, .ref a9, .ref a10, .int 0, .ref a11, .ref a12, .ref a13])), (a12, .inr (2, [.ref a14, .ref a15, .ref a16, .int 0, .int 0, .int 0, .int 0, .int 0]))] H := hP
  have hD : va_D A [(a11, .inr (1, [.ref a17, .ref a18, .ref a19, .int 0, .int 0, .int 0, .int 0, .int 0, .int 9999, .int 0])), (a14, .inr (8, [.ref a20])), (a0, .inr (11, [.ref a1, .ref a2, .ref a3, .ref a4, .ref a5, .ref a6, .ref a7, .ref a8, .ref a9, .ref a10, .int 0, .ref a11, .ref a12, .ref a13])), (a12, .inr (2, [.ref a14, .ref a15, .ref a16, .int 0, .int 0, .int 0, .int 0, .int 0]))] := hD
  have hw_3 : r_2 = a14 := hw_3
  rw [hw_3]
  refine lv_aload_n (pc := 5) hx hb dX11_worst_5 rfl (lv_at hl 0 rfl) ?_
  refine va_get (pc := 6) (ci := 11) (v := .ref a11) (C := RX11) (T := TX11) (N := 14) hx hb hts iX11 hown hK hP 2 rfl rfl 11 (by decide) (hts _ tw_431) (fun _ h9 => h9) rfl dX11_worst_6 ?_
  refine va_getN (pc := 9) (ci := 1) (v := .int 0) (C := RX1) (T := TX1) (N := 10) hx hb hts iX1 hown hK hP 0 rfl rfl 4 (by decide) (va_Nw.use rfl (hN _ tn_123)) (fun _ h9 => h9) rfl dX11_worst_9 ?_
  refine gc_i (pc := 12) (wc := [(a14, .inr (8, [.ref a20]))]) (wr := [(a11, .inr (1, [.ref a17, .ref a18, .ref a19, .int 0, .int 0, .int 0, .int 0, .int 0, .int 9999, .int 0])), (a0, .inr (11, [.ref a1, .ref a2, .ref a3, .ref a4, .ref a5, .ref a6, .ref a7, .ref a8, .ref a9, .ref a10, .int 0, .ref a11, .ref a12, .ref a13])), (a12, .inr (2, [.ref a14, .ref a15, .ref a16, .int 0, .int 0, .int 0, .int 0, .int 0]))]) hP hD hS hA [1] [0, 2, 3] rfl rfl (by decide) (by decide) (by decide) (fun hPc hDc => va_runV (As := [.int 0]) (rest := []) ⟨hx, hb, hml, hown, hts⟩ (cc_129_yX8_worstPair l D cB cC cI cJ _ a14 a20) ⟨gcwB hts tw_1117 tw_5 tw_1114 hd_yX8_worstPair ⟨Nat.le_of_ble_eq_true rfl, Nat.le_of_ble_eq_true rfl⟩, hts _ tw_1115, hts _ tw_1116⟩ ⟨gblind, va_recv hK hPc (ci := 8) (q0 := 0) rfl rfl, (gpreS hPc hK hDc hN).2⟩ rfl rfl hl.1 rfl (lv_room (Nat.le_of_ble_eq_true rfl)) dX11_worst_12 ⟨Nat.le_of_ble_eq_true rfl, Nat.le_of_ble_eq_true rfl⟩) (fun r_5 u_4 H locs hw_6 hP hD hS => ?_)
  have hP : va_P D gcl [(a11, .inr (1, [.ref a17, .ref a18, .ref a19, .int 0, .int 0, .int 0, .int 0, .int 0, .int 9999, .int 0])), (a0, .inr (11, [.ref a1, .ref a2, .ref a3, .ref a4, .ref a5, .ref a6, .ref a7, .ref a8, .ref a9, .ref a10, .int 0, .ref a11, .ref a12, .ref a13])), (a12, .inr (2, [.ref a14, .ref a15, .ref a16, .int 0, .int 0, .int 0, .int 0, .int 0])), (a14, .inr (8, [.ref a20]))] H := hP
  have hD : va_D A [(a11, .inr (1, [.ref a17, .ref a18, .ref a19, .int 0, .int 0, .int 0, .int 0, .int 0, .int 9999, .int 0])), (a0, .inr (11, [.ref a1, .ref a2, .ref a3, .ref a4, .ref a5, .ref a6, .ref a7, .ref a8, .ref a9, .ref a10, .int 0, .ref a11, .ref a12, .ref a13])), (a12, .inr (2, [.ref a14, .ref a15, .ref a16, .int 0, .int 0, .int 0, .int 0, .int 0])), (a14, .inr (8, [.ref a20]))] := hD
  subst hw_6
  have hP9 := hP.sub (ws' := []) [] rfl
  have hD9 := hD.sub (ws' := []) [] (by decide) rfl
  refine W.widen (k := 0) (n := 0) (Nat.le_of_ble_eq_true rfl) (Nat.le_of_ble_eq_true rfl) ?_
  exact W.iret (v := (-1)) hx hb hr (fun t ht hW => ⟨⟨(-1), ((fun _ => 0), (fun _ => (fun _ => 0)), (fun _ => (fun _ => 0)), (fun _ => 0), (fun _ => 0)), rfl, rfl, by rw [ht]; exact hP9, hD9⟩, hS.F ht⟩) hS.2.2 dX11_worst_15
set_option maxHeartbeats 4000000 in
set_option maxRecDepth 100000 in
theorem cc_134_yX12_worst (l : Launch) (D : va_G) (cB cC cI cJ : ClassId) (sz : Nat) (a0 a1 a2 a3 a4 a5 a6 a7 a8 a9 a10 a11 a12 a13 a14 a15 a16 a17 a18 a19 a20 a21 a22 a23 a24 a25 a26 a27 a28 a29 a30 a31 a32 a33 a34 a35 a36 a37 a38 a39 a40 a41 a42 a43 : Nat) : Met l yX12_worst (.code yX12_worst cX12_worst 7 (some .int) :: lw_gd) ({ frames := 0, cells := 0, slots := 0, locals := 0 }) (gPre D [(cB, .byte), (cC, .char), (cI, .int), (cJ, .long)] [.ref a0, .int 1] [(a0, .inr (12, [.ref a1, .int 0, .int 0, .int 0, .int 0, .int 0, .int 0, .int 0, .int (-1), .ref a2, .ref a3, .ref a4, .ref a5, .ref a6, .ref a7, .ref a8, .ref a9, .ref a10, .ref a11, .ref a12, .ref a13, .ref a14, .ref a15, .ref a16, .int 0, .int 0, .int 0, .int 0, .int 0, .int 9999, .ref a17, .ref a18, .ref a19, .int 0, .ref a20, .int 0, .ref a21, .int 0, .int 0, .ref a22, .ref a23, .ref a24, .ref a25, .int 0, .ref a26, .int 0, .ref a27, .ref a28, .ref a29, .long 0, .ref a30, .ref a31, .ref a32, .ref a33, .ref a34, .ref a35, .ref a36, .ref a37, .ref a38, .int 0, .int 0, .int 0, .long 0, .ref a39, .int 0, .ref a40, .ref a41, .ref a42, .ref a43, .int 0, .int 0, .int 0, .int 0]))] sz) (va_Qi (fun r _ => r = (-1)) (gB D (va_A [(a0, .inr (12, [.ref a1, .int 0, .int 0, .int 0, .int 0, .int 0, .int 0, .int 0, .int (-1), .ref a2, .ref a3, .ref a4, .ref a5, .ref a6, .ref a7, .ref a8, .ref a9, .ref a10, .ref a11, .ref a12, .ref a13, .ref a14, .ref a15, .ref a16, .int 0, .int 0, .int 0, .int 0, .int 0, .int 9999, .ref a17, .ref a18, .ref a19, .int 0, .ref a20, .int 0, .ref a21, .int 0, .int 0, .ref a22, .ref a23, .ref a24, .ref a25, .int 0, .ref a26, .int 0, .ref a27, .ref a28, .ref a29, .long 0, .ref a30, .ref a31, .ref a32, .ref a33, .ref a34, .ref a35, .ref a36, .ref a37, .ref a38, .int 0, .int 0, .int 0, .long 0, .ref a39, .int 0, .ref a40, .ref a41, .ref a42, .ref a43, .int 0, .int 0, .int 0, .int 0]))] sz) (fun u : gEx => [])) (va_A [(a0, .inr (12, [.ref a1, .int 0, .int 0, .int 0, .int 0, .int 0, .int 0, .int 0, .int (-1), .ref a2, .ref a3, .ref a4, .ref a5, .ref a6, .ref a7, .ref a8, .ref a9, .ref a10, .ref a11, .ref a12, .ref a13, .ref a14, .ref a15, .ref a16, .int 0, .int 0, .int 0, .int 0, .int 0, .int 9999, .ref a17, .ref a18, .ref a19, .int 0, .ref a20, .int 0, .ref a21, .int 0, .int 0, .ref a22, .ref a23, .ref a24, .ref a25, .int 0, .ref a26, .int 0, .ref a27, .ref a28, .ref a29, .long 0, .ref a30, .ref a31, .ref a32, .ref a33, .ref a34, .ref a35, .ref a36, .ref a37, .ref a38, .int 0, .int 0, .int 0, .long 0, .ref a39, .int 0, .ref a40, .ref a41, .ref a42, .ref a43, .int 0, .int 0, .int 0, .int 0]))] sz)) 0 0 (va_A [(a0, .inr (12, [.ref a1, .int 0, .int 0, .int 0, .int 0, .int 0, .int 0, .int 0, .int (-1), .ref a2, .ref a3, .ref a4, .ref a5, .ref a6, .ref a7, .ref a8, .ref a9, .ref a10, .ref a11, .ref a12, .ref a13, .ref a14, .ref a15, .ref a16, .int 0, .int 0, .int 0, .int 0, .int 0, .int 9999, .ref a17, .ref a18, .ref a19, .int 0, .ref a20, .int 0, .ref a21, .int 0, .int 0, .ref a22, .ref a23, .ref a24, .ref a25, .int 0, .ref a26, .int 0, .ref a27, .ref a28, .ref a29, .long 0, .ref a30, .ref a31, .ref a32, .ref a33, .ref a34, .ref a35, .ref a36, .ref a37, .ref a38, .int 0, .int 0, .int 0, .long 0, .ref a39, .int 0, .ref a40, .ref a41, .ref a42, .ref a43, .int 0, .int 0, .int 0, .int 0]))] sz) := by
  refine Met.ofW (cc := cX12_worst) (maxL := 7) (ret := (some .int)) (by decide) rfl ?_
  intro p e s m args below meth c s₁ B hml hv
  obtain ⟨rfl, hsz, hP, hK, hD0, hN⟩ := hv
  have hx := B.exec
  have hb := B.bytes
  have hr := B.returns
  have hts : ∀ w ∈ lw_gd, w.before _ s = true := fun w h => atoms_spec (ws := .code yX12_worst cX12_worst 7 (some .int) :: lw_gd) B.pre w (List.mem_cons_of_mem _ h)
  have hown : s.vm.findClass RX12 = some m.cls := findClass_of_methodNamed B.named
  have hlocks := B.notSynchronized
  subst hsz
  have hD := hD0.self (sz := s.heap.size)
  generalize hAe : va_A [(a0, .inr (12, [.ref a1, .int 0, .int 0, .int 0, .int 0, .int 0, .int 0, .int 0, .int (-1), .ref a2, .ref a3, .ref a4, .ref a5, .ref a6, .ref a7, .ref a8, .ref a9, .ref a10, .ref a11, .ref a12, .ref a13, .ref a14, .ref a15, .ref a16, .int 0, .int 0, .int 0, .int 0, .int 0, .int 9999, .ref a17, .ref a18, .ref a19, .int 0, .ref a20, .int 0, .ref a21, .int 0, .int 0, .ref a22, .ref a23, .ref a24, .ref a25, .int 0, .ref a26, .int 0, .ref a27, .ref a28, .ref a29, .long 0, .ref a30, .ref a31, .ref a32, .ref a33, .ref a34, .ref a35, .ref a36, .ref a37, .ref a38, .int 0, .int 0, .int 0, .long 0, .ref a39, .int 0, .ref a40, .ref a41, .ref a42, .ref a43, .int 0, .int 0, .int 0, .int 0]))] s.heap.size = A at hD ⊢
  have hA : ∀ q : Nat, s.heap.size ≤ q → A q := fun q h => by rw [← hAe]; exact Or.inr h
  have hS : va_S A s.heap s.heap [] := va_S.rf
  have hP : va_P D gcl [(a0, .inr (12, [.ref a1, .int 0, .int 0, .int 0, .int 0, .int 0, .int 0, .int 0, .int (-1), .ref a2, .ref a3, .ref a4, .ref a5, .ref a6, .ref a7, .ref a8, .ref a9, .ref a10, .ref a11, .ref a12, .ref a13, .ref a14, .ref a15, .ref a16, .int 0, .int 0, .int 0, .int 0, .int 0, .int 9999, .ref a17, .ref a18, .ref a19, .int 0, .ref a20, .int 0, .ref a21, .int 0, .int 0, .ref a22, .ref a23, .ref a24, .ref a25, .int 0, .ref a26, .int 0, .ref a27, .ref a28, .ref a29, .long 0, .ref a30, .ref a31, .ref a32, .ref a33, .ref a34, .ref a35, .ref a36, .ref a37, .ref a38, .int 0, .int 0, .int 0, .long 0, .ref a39, .int 0, .ref a40, .ref a41, .ref a42, .ref a43, .int 0, .int 0, .int 0, .int 0]))] s.heap := hP
  have hl := lv_entry ([.ref a0, .int 1]) (n := 7) (Nat.le_of_ble_eq_true rfl)
  rw [lg_entry_eq]
  generalize (lg_sl ([.ref a0, .int 1]) ++ List.replicate (7 - (lg_sl ([.ref a0, .int 1])).length) Slot.unset).toArray = ls at hl ⊢
  have hl : lv_has ls 7 [(0, .ref a0), (1, .int 1)] := hl
  refine lv_iconst (pc := 0) (v := (-1)) hx hb dX12_worst_0 (by decide) ?_
  refine lv_istore_n (pc := 1) (lv' := [(2, .int (-1)), (0, .ref a0), (1, .int 1)]) hx hb dX12_worst_1 rfl hl (by decide) rfl (fun ls hl => ?_)
  refine lv_iconst (pc := 2) (v := (-1)) hx hb dX12_worst_2 (by decide) ?_
  refine lv_istore_n (pc := 3) (lv' := [(3, .int (-1)), (2, .int (-1)), (0, .ref a0), (1, .int 1)]) hx hb dX12_worst_3 rfl hl (by decide) rfl (fun ls hl => ?_)
  refine lv_iconst (pc := 4) (v := 0) hx hb dX12_worst_4 (by decide) ?_
  refine lv_istore (pc := 5) (lv' := [(4, .int 0), (3, .int (-1)), (2, .int (-1)), (0, .ref a0), (1, .int 1)]) hx hb dX12_worst_5 hl (by decide) rfl (fun ls hl => ?_)
  refine lv_iload (pc := 7) hx hb dX12_worst_7 (lv_at hl 0 rfl) ?_
  refine lv_aload_n (pc := 9) hx hb dX12_worst_9 rfl (lv_at hl 3 rfl) ?_
  refine va_get (pc := 10) (ci := 12) (v := .int 0) (C := RX12) (T := TX12) (N := 73) hx hb hts iX12 hown hK hP 0 rfl rfl 25 (by decide) (hts _ tw_1426) (fun _ h9 => h9) rfl dX12_worst_10 ?_
  refine lv_icmp_ge (pc := 13) (tgt := 97) hx hb dX12_worst_13 (by decide) (fun _ => ?_) (fun c => absurd (by decide +kernel) c)
  refine lv_iload_n (pc := 97) hx hb dX12_worst_97 rfl (lv_at hl 2 rfl) ?_
  have hP9 := hP.sub (ws' := []) [] rfl
  have hD9 := hD.sub (ws' := []) [] (by decide) rfl
  refine W.widen (k := 0) (n := 0) (Nat.le_of_ble_eq_true rfl) (Nat.le_of_ble_eq_true rfl) ?_
  exact W.iret (v := (-1)) hx hb hr (fun t ht hW => ⟨⟨(-1), ((fun _ => 0), (fun _ => (fun _ => 0)), (fun _ => (fun _ => 0)), (fun _ => 0), (fun _ => 0)), rfl, rfl, by rw [ht]; exact hP9, hD9⟩, hS.F ht⟩) hS.2.2 dX12_worst_98
set_option maxHeartbeats 4000000 in
set_option maxRecDepth 100000 in
theorem cc_135_yX8_at (l : Launch) (D : va_G) (cB cC cI cJ : ClassId) (sz : Nat) (a0 a1 : Nat) : Met l yX8_at (.code yX8_at cX8_at 3 (some .int) :: lw_gd) ({ frames := 0, cells := 0, slots := 0, locals := 0 }) (gPre D [(cB, .byte), (cC, .char), (cI, .int), (cJ, .long)] [.ref a0, .int 0, .int 0] [(a0, .inr (8, [.ref a1])), (a1, .inl (cI, 30, .inl (fun _ => 0)))] sz) (va_Qi (fun r _ => r = 0) (gB D (va_A [(a0, .inr (8, [.ref a1])), (a1, .inl (cI, 30, .inl (fun _ => 0)))] sz) (fun u : gEx => [(a0, .inr (8, [.ref a1])), (a1, .inl (cI, 30, .inl (fun _ => 0)))])) (va_A [(a0, .inr (8, [.ref a1])), (a1, .inl (cI, 30, .inl (fun _ => 0)))] sz)) 0 0 (va_A [(a0, .inr (8, [.ref a1])), (a1, .inl (cI, 30, .inl (fun _ => 0)))] sz) := by
  refine Met.ofW (cc := cX8_at) (maxL := 3) (ret := (some .int)) (by decide) rfl ?_
  intro p e s m args below meth c s₁ B hml hv
  obtain ⟨rfl, hsz, hP, hK, hD0, hN⟩ := hv
  have hx := B.exec
  have hb := B.bytes
  have hr := B.returns
  have hts : ∀ w ∈ lw_gd, w.before _ s = true := fun w h => atoms_spec (ws := .code yX8_at cX8_at 3 (some .int) :: lw_gd) B.pre w (List.mem_cons_of_mem _ h)
  have hown : s.vm.findClass RX8 = some m.cls := findClass_of_methodNamed B.named
  have hlocks := B.notSynchronized
  subst hsz
  have hD := hD0.self (sz := s.heap.size)
  generalize hAe : va_A [(a0, .inr (8, [.ref a1])), (a1, .inl (cI, 30, .inl (fun _ => 0)))] s.heap.size = A at hD ⊢
  have hA : ∀ q : Nat, s.heap.size ≤ q → A q := fun q h => by rw [← hAe]; exact Or.inr h
  have hS : va_S A s.heap s.heap [] := va_S.rf
  have hP : va_P D gcl [(a0, .inr (8, [.ref a1])), (a1, .inl (cI, 30, .inl (fun _ => 0)))] s.heap := hP
  have hl := lv_entry ([.ref a0, .int 0, .int 0]) (n := 3) (Nat.le_of_ble_eq_true rfl)
  rw [lg_entry_eq]
  generalize (lg_sl ([.ref a0, .int 0, .int 0]) ++ List.replicate (3 - (lg_sl ([.ref a0, .int 0, .int 0])).length) Slot.unset).toArray = ls at hl ⊢
  have hl : lv_has ls 3 [(0, .ref a0), (1, .int 0), (2, .int 0)] := hl
  refine lv_aload_n (pc := 0) hx hb dX8_at_0 rfl (lv_at hl 0 rfl) ?_
  refine va_get (pc := 1) (ci := 8) (v := .ref a1) (C := RX8) (T := TX8) (N := 1) hx hb hts iX8 hown hK hP 0 rfl rfl 0 (by decide) (hts _ tw_62) (fun _ h9 => h9) rfl dX8_at_1 ?_
  refine lv_iload_n (pc := 4) hx hb dX8_at_4 rfl (lv_at hl 2 rfl) ?_
  refine lv_bipush (pc := 5) (v := 6) hx hb dX8_at_5 (by decide) ?_
  refine lv_imul (pc := 7) hx hb dX8_at_7 ?_
  refine gI (y := 0) (by decide +kernel) ?_
  refine lv_iload_n (pc := 8) hx hb dX8_at_8 rfl (lv_at hl 1 rfl) ?_
  refine lv_iadd (pc := 9) hx hb dX8_at_9 ?_
  refine gI (y := 0) (by decide +kernel) ?_
  refine va_iald (pc := 10) hx hb hK hP 1 2 rfl rfl (gin rfl) dX8_at_10 ?_
  refine gI (y := 0) rfl ?_
  have hP9 := hP.sub (ws' := [(a0, .inr (8, [.ref a1])), (a1, .inl (cI, 30, .inl (fun _ => 0)))]) [0, 1] rfl
  have hD9 := hD.sub (ws' := [(a0, .inr (8, [.ref a1])), (a1, .inl (cI, 30, .inl (fun _ => 0)))]) [0, 1] (by decide) rfl
  refine W.widen (k := 0) (n := 0) (Nat.le_of_ble_eq_true rfl) (Nat.le_of_ble_eq_true rfl) ?_
  exact W.iret (v := 0) hx hb hr (fun t ht hW => ⟨⟨0, ((fun _ => 0), (fun _ => (fun _ => 0)), (fun _ => (fun _ => 0)), (fun _ => 0), (fun _ => 0)), rfl, rfl, by rw [ht]; exact hP9, hD9⟩, hS.F ht⟩) hS.2.2 dX8_at_11
set_option maxHeartbeats 4000000 in
set_option maxRecDepth 100000 in
theorem cc_136_yX8_at (l : Launch) (D : va_G) (cB cC cI cJ : ClassId) (sz : Nat) (a0 a1 : Nat) : Met l yX8_at (.code yX8_at cX8_at 3 (some .int) :: lw_gd) ({ frames := 0, cells := 0, slots := 0, locals := 0 }) (gPre D [(cB, .byte), (cC, .char), (cI, .int), (cJ, .long)] [.ref a0, .int 1, .int 0] [(a0, .inr (8, [.ref a1])), (a1, .inl (cI, 30, .inl (fun _ => 0)))] sz) (va_Qi (fun r _ => r = 0) (gB D (va_A [(a0, .inr (8, [.ref a1])), (a1, .inl (cI, 30, .inl (fun _ => 0)))] sz) (fun u : gEx => [(a0, .inr (8, [.ref a1])), (a1, .inl (cI, 30, .inl (fun _ => 0)))])) (va_A [(a0, .inr (8, [.ref a1])), (a1, .inl (cI, 30, .inl (fun _ => 0)))] sz)) 0 0 (va_A [(a0, .inr (8, [.ref a1])), (a1, .inl (cI, 30, .inl (fun _ => 0)))] sz) := by
  refine Met.ofW (cc := cX8_at) (maxL := 3) (ret := (some .int)) (by decide) rfl ?_
  intro p e s m args below meth c s₁ B hml hv
  obtain ⟨rfl, hsz, hP, hK, hD0, hN⟩ := hv
  have hx := B.exec
  have hb := B.bytes
  have hr := B.returns
  have hts : ∀ w ∈ lw_gd, w.before _ s = true := fun w h => atoms_spec (ws := .code yX8_at cX8_at 3 (some .int) :: lw_gd) B.pre w (List.mem_cons_of_mem _ h)
  have hown : s.vm.findClass RX8 = some m.cls := findClass_of_methodNamed B.named
  have hlocks := B.notSynchronized
  subst hsz
  have hD := hD0.self (sz := s.heap.size)
  generalize hAe : va_A [(a0, .inr (8, [.ref a1])), (a1, .inl (cI, 30, .inl (fun _ => 0)))] s.heap.size = A at hD ⊢
  have hA : ∀ q : Nat, s.heap.size ≤ q → A q := fun q h => by rw [← hAe]; exact Or.inr h
  have hS : va_S A s.heap s.heap [] := va_S.rf
  have hP : va_P D gcl [(a0, .inr (8, [.ref a1])), (a1, .inl (cI, 30, .inl (fun _ => 0)))] s.heap := hP
  have hl := lv_entry ([.ref a0, .int 1, .int 0]) (n := 3) (Nat.le_of_ble_eq_true rfl)
  rw [lg_entry_eq]
  generalize (lg_sl ([.ref a0, .int 1, .int 0]) ++ List.replicate (3 - (lg_sl ([.ref a0, .int 1, .int 0])).length) Slot.unset).toArray = ls at hl ⊢
  have hl : lv_has ls 3 [(0, .ref a0), (1, .int 1), (2, .int 0)] := hl
  refine lv_aload_n (pc := 0) hx hb dX8_at_0 rfl (lv_at hl 0 rfl) ?_
  refine va_get (pc := 1) (ci := 8) (v := .ref a1) (C := RX8) (T := TX8) (N := 1) hx hb hts iX8 hown hK hP 0 rfl rfl 0 (by decide) (hts _ tw_62) (fun _ h9 => h9) rfl dX8_at_1 ?_
  refine lv_iload_n (pc := 4) hx hb dX8_at_4 rfl (lv_at hl 2 rfl) ?_
  refine lv_bipush (pc := 5) (v := 6) hx hb dX8_at_5 (by decide) ?_
  refine lv_imul (pc := 7) hx hb dX8_at_7 ?_
  refine gI (y := 0) (by decide +kernel) ?_
  refine lv_iload_n (pc := 8) hx hb dX8_at_8 rfl (lv_at hl 1 rfl) ?_
  refine lv_iadd (pc := 9) hx hb dX8_at_9 ?_
  refine gI (y := 1) (by decide +kernel) ?_
  refine va_iald (pc := 10) hx hb hK hP 1 2 rfl rfl (gin rfl) dX8_at_10 ?_
  refine gI (y := 0) rfl ?_
  have hP9 := hP.sub (ws' := [(a0, .inr (8, [.ref a1])), (a1, .inl (cI, 30, .inl (fun _ => 0)))]) [0, 1] rfl
  have hD9 := hD.sub (ws' := [(a0, .inr (8, [.ref a1])), (a1, .inl (cI, 30, .inl (fun _ => 0)))]) [0, 1] (by decide) rfl
  refine W.widen (k := 0) (n := 0) (Nat.le_of_ble_eq_true rfl) (Nat.le_of_ble_eq_true rfl) ?_
  exact W.iret (v := 0) hx hb hr (fun t ht hW => ⟨⟨0, ((fun _ => 0), (fun _ => (fun _ => 0)), (fun _ => (fun _ => 0)), (fun _ => 0), (fun _ => 0)), rfl, rfl, by rw [ht]; exact hP9, hD9⟩, hS.F ht⟩) hS.2.2 dX8_at_11
set_option maxHeartbeats 4000000 in
set_option maxRecDepth 100000 in
theorem cc_137_yX8_at (l : Launch) (D : va_G) (cB cC cI cJ : ClassId) (sz : Nat) (a0 a1 : Nat) : Met l yX8_at (.code yX8_at cX8_at 3 (some .int) :: lw_gd) ({ frames := 0, cells := 0, slots := 0, locals := 0 }) (gPre D [(cB, .byte), (cC, .char), (cI, .int), (cJ, .long)] [.ref a0, .int 2, .int 0] [(a0, .inr (8, [.ref a1])), (a1, .inl (cI, 30, .inl (fun _ => 0)))] sz) (va_Qi (fun r _ => r = 0) (gB D (va_A [(a0, .inr (8, [.ref a1])), (a1, .inl (cI, 30, .inl (fun _ => 0)))] sz) (fun u : gEx => [(a0, .inr (8, [.ref a1])), (a1, .inl (cI, 30, .inl (fun _ => 0)))])) (va_A [(a0, .inr (8, [.ref a1])), (a1, .inl (cI, 30, .inl (fun _ => 0)))] sz)) 0 0 (va_A [(a0, .inr (8, [.ref a1])), (a1, .inl (cI, 30, .inl (fun _ => 0)))] sz) := by
  refine Met.ofW (cc := cX8_at) (maxL := 3) (ret := (some .int)) (by decide) rfl ?_
  intro p e s m args below meth c s₁ B hml hv
  obtain ⟨rfl, hsz, hP, hK, hD0, hN⟩ := hv
  have hx := B.exec
  have hb := B.bytes
  have hr := B.returns
  have hts : ∀ w ∈ lw_gd, w.before _ s = true := fun w h => atoms_spec (ws := .code yX8_at cX8_at 3 (some .int) :: lw_gd) B.pre w (List.mem_cons_of_mem _ h)
  have hown : s.vm.findClass RX8 = some m.cls := findClass_of_methodNamed B.named
  have hlocks := B.notSynchronized
  subst hsz
  have hD := hD0.self (sz := s.heap.size)
  generalize hAe : va_A [(a0, .inr (8, [.ref a1])), (a1, .inl (cI, 30, .inl (fun _ => 0)))] s.heap.size = A at hD ⊢
  have hA : ∀ q : Nat, s.heap.size ≤ q → A q := fun q h => by rw [← hAe]; exact Or.inr h
  have hS : va_S A s.heap s.heap [] := va_S.rf
  have hP : va_P D gcl [(a0, .inr (8, [.ref a1])), (a1, .inl (cI, 30, .inl (fun _ => 0)))] s.heap := hP
  have hl := lv_entry ([.ref a0, .int 2, .int 0]) (n := 3) (Nat.le_of_ble_eq_true rfl)
  rw [lg_entry_eq]
  generalize (lg_sl ([.ref a0, .int 2, .int 0]) ++ List.replicate (3 - (lg_sl ([.ref a0, .int 2, .int 0])).length) Slot.unset).toArray = ls at hl ⊢
  have hl : lv_has ls 3 [(0, .ref a0), (1, .int 2), (2, .int 0)] := hl
  refine lv_aload_n (pc := 0) hx hb dX8_at_0 rfl (lv_at hl 0 rfl) ?_
  refine va_get (pc := 1) (ci := 8) (v := .ref a1) (C := RX8) (T := TX8) (N := 1) hx hb hts iX8 hown hK hP 0 rfl rfl 0 (by decide) (hts _ tw_62) (fun _ h9 => h9) rfl dX8_at_1 ?_
  refine lv_iload_n (pc := 4) hx hb dX8_at_4 rfl (lv_at hl 2 rfl) ?_
  refine lv_bipush (pc := 5) (v := 6) hx hb dX8_at_5 (by decide) ?_
  refine lv_imul (pc := 7) hx hb dX8_at_7 ?_
  refine gI (y := 0) (by decide +kernel) ?_
  refine lv_iload_n (pc := 8) hx hb dX8_at_8 rfl (lv_at hl 1 rfl) ?_
  refine lv_iadd (pc := 9) hx hb dX8_at_9 ?_
  refine gI (y := 2) (by decide +kernel) ?_
  refine va_iald (pc := 10) hx hb hK hP 1 2 rfl rfl (gin rfl) dX8_at_10 ?_
  refine gI (y := 0) rfl ?_
  have hP9 := hP.sub (ws' := [(a0, .inr (8, [.ref a1])), (a1, .inl (cI, 30, .inl (fun _ => 0)))]) [0, 1] rfl
  have hD9 := hD.sub (ws' := [(a0, .inr (8, [.ref a1])), (a1, .inl (cI, 30, .inl (fun _ => 0)))]) [0, 1] (by decide) rfl
  refine W.widen (k := 0) (n := 0) (Nat.le_of_ble_eq_true rfl) (Nat.le_of_ble_eq_true rfl) ?_
  exact W.iret (v := 0) hx hb hr (fun t ht hW => ⟨⟨0, ((fun _ => 0), (fun _ => (fun _ => 0)), (fun _ => (fun _ => 0)), (fun _ => 0), (fun _ => 0)), rfl, rfl, by rw [ht]; exact hP9, hD9⟩, hS.F ht⟩) hS.2.2 dX8_at_11
set_option maxHeartbeats 4000000 in
set_option maxRecDepth 100000 in
theorem cc_138_yX8_at (l : Launch) (D : va_G) (cB cC cI cJ : ClassId) (sz : Nat) (a0 a1 : Nat) : Met l yX8_at (.code yX8_at cX8_at 3 (some .int) :: lw_gd) ({ frames := 0, cells := 0, slots := 0, locals := 0 }) (gPre D [(cB, .byte), (cC, .char), (cI, .int), (cJ, .long)] [.ref a0, .int 3, .int 0] [(a0, .inr (8, [.ref a1])), (a1, .inl (cI, 30, .inl (fun _ => 0)))] sz) (va_Qi (fun r _ => r = 0) (gB D (va_A [(a0, .inr (8, [.ref a1])), (a1, .inl (cI, 30, .inl (fun _ => 0)))] sz) (fun u : gEx => [(a0, .inr (8, [.ref a1])), (a1, .inl (cI, 30, .inl (fun _ => 0)))])) (va_A [(a0, .inr (8, [.ref a1])), (a1, .inl (cI, 30, .inl (fun _ => 0)))] sz)) 0 0 (va_A [(a0, .inr (8, [.ref a1])), (a1, .inl (cI, 30, .inl (fun _ => 0)))] sz) := by
  refine Met.ofW (cc := cX8_at) (maxL := 3) (ret := (some .int)) (by decide) rfl ?_
  intro p e s m args below meth c s₁ B hml hv
  obtain ⟨rfl, hsz, hP, hK, hD0, hN⟩ := hv
  have hx := B.exec
  have hb := B.bytes
  have hr := B.returns
  have hts : ∀ w ∈ lw_gd, w.before _ s = true := fun w h => atoms_spec (ws := .code yX8_at cX8_at 3 (some .int) :: lw_gd) B.pre w (List.mem_cons_of_mem _ h)
  have hown : s.vm.findClass RX8 = some m.cls := findClass_of_methodNamed B.named
  have hlocks := B.notSynchronized
  subst hsz
  have hD := hD0.self (sz := s.heap.size)
  generalize hAe : va_A [(a0, .inr (8, [.ref a1])), (a1, .inl (cI, 30, .inl (fun _ => 0)))] s.heap.size = A at hD ⊢
  have hA : ∀ q : Nat, s.heap.size ≤ q → A q := fun q h => by rw [← hAe]; exact Or.inr h
  have hS : va_S A s.heap s.heap [] := va_S.rf
  have hP : va_P D gcl [(a0, .inr (8, [.ref a1])), (a1, .inl (cI, 30, .inl (fun _ => 0)))] s.heap := hP
  have hl := lv_entry ([.ref a0, .int 3, .int 0]) (n := 3) (Nat.le_of_ble_eq_true rfl)
  rw [lg_entry_eq]
  generalize (lg_sl ([.ref a0, .int 3, .int 0]) ++ List.replicate (3 - (lg_sl ([.ref a0, .int 3, .int 0])).length) Slot.unset).toArray = ls at hl ⊢
  have hl : lv_has ls 3 [(0, .ref a0), (1, .int 3), (2, .int 0)] := hl
  refine lv_aload_n (pc := 0) hx hb dX8_at_0 rfl (lv_at hl 0 rfl) ?_
  refine va_get (pc := 1) (ci := 8) (v := .ref a1) (C := RX8) (T := TX8) (N := 1) hx hb hts iX8 hown hK hP 0 rfl rfl 0 (by decide) (hts _ tw_62) (fun _ h9 => h9) rfl dX8_at_1 ?_
  refine lv_iload_n (pc := 4) hx hb dX8_at_4 rfl (lv_at hl 2 rfl) ?_
  refine lv_bipush (pc := 5) (v := 6) hx hb dX8_at_5 (by decide) ?_
  refine lv_imul (pc := 7) hx hb dX8_at_7 ?_
  refine gI (y := 0) (by decide +kernel) ?_
  refine lv_iload_n (pc := 8) hx hb dX8_at_8 rfl (lv_at hl 1 rfl) ?_
  refine lv_iadd (pc := 9) hx hb dX8_at_9 ?_
  refine gI (y := 3) (by decide +kernel) ?_
  refine va_iald (pc := 10) hx hb hK hP 1 2 rfl rfl (gin rfl) dX8_at_10 ?_
  refine gI (y := 0) rfl ?_
  have hP9 := hP.sub (ws' := [(a0, .inr (8, [.ref a1])), (a1, .inl (cI, 30, .inl (fun _ => 0)))]) [0, 1] rfl
  have hD9 := hD.sub (ws' := [(a0, .inr (8, [.ref a1])), (a1, .inl (cI, 30, .inl (fun _ => 0)))]) [0, 1] (by decide) rfl
  refine W.widen (k := 0) (n := 0) (Nat.le_of_ble_eq_true rfl) (Nat.le_of_ble_eq_true rfl) ?_
  exact W.iret (v := 0) hx hb hr (fun t ht hW => ⟨⟨0, ((fun _ => 0), (fun _ => (fun _ => 0)), (fun _ => (fun _ => 0)), (fun _ => 0), (fun _ => 0)), rfl, rfl, by rw [ht]; exact hP9, hD9⟩, hS.F ht⟩) hS.2.2 dX8_at_11
set_option maxHeartbeats 4000000 in
set_option maxRecDepth 100000 in
theorem cc_139_yX8_at (l : Launch) (D : va_G) (cB cC cI cJ : ClassId) (sz : Nat) (a0 a1 : Nat) : Met l yX8_at (.code yX8_at cX8_at 3 (some .int) :: lw_gd) ({ frames := 0, cells := 0, slots := 0, locals := 0 }) (gPre D [(cB, .byte), (cC, .char), (cI, .int), (cJ, .long)] [.ref a0, .int 4, .int 0] [(a0, .inr (8, [.ref a1])), (a1, .inl (cI, 30, .inl (fun _ => 0)))] sz) (va_Qi (fun r _ => r = 0) (gB D (va_A [(a0, .inr (8, [.ref a1])), (a1, .inl (cI, 30, .inl (fun _ => 0)))] sz) (fun u : gEx => [(a0, .inr (8, [.ref a1])), (a1, .inl (cI, 30, .inl (fun _ => 0)))])) (va_A [(a0, .inr (8, [.ref a1])), (a1, .inl (cI, 30, .inl (fun _ => 0)))] sz)) 0 0 (va_A [(a0, .inr (8, [.ref a1])), (a1, .inl (cI, 30, .inl (fun _ => 0)))] sz) := by
  refine Met.ofW (cc := cX8_at) (maxL := 3) (ret := (some .int)) (by decide) rfl ?_
  intro p e s m args below meth c s₁ B hml hv
  obtain ⟨rfl, hsz, hP, hK, hD0, hN⟩ := hv
  have hx := B.exec
  have hb := B.bytes
  have hr := B.returns
  have hts : ∀ w ∈ lw_gd, w.before _ s = true := fun w h => atoms_spec (ws := .code yX8_at cX8_at 3 (some .int) :: lw_gd) B.pre w (List.mem_cons_of_mem _ h)
  have hown : s.vm.findClass RX8 = some m.cls := findClass_of_methodNamed B.named
  have hlocks := B.notSynchronized
  subst hsz
  have hD := hD0.self (sz := s.heap.size)
  generalize hAe : va_A [(a0, .inr (8, [.ref a1])), (a1, .inl (cI, 30, .inl (fun _ => 0)))] s.heap.size = A at hD ⊢
  have hA : ∀ q : Nat, s.heap.size ≤ q → A q := fun q h => by rw [← hAe]; exact Or.inr h
  have hS : va_S A s.heap s.heap [] := va_S.rf
  have hP : va_P D gcl [(a0, .inr (8, [.ref a1])), (a1, .inl (cI, 30, .inl (fun _ => 0)))] s.heap := hP
  have hl := lv_entry ([.ref a0, .int 4, .int 0]) (n := 3) (Nat.le_of_ble_eq_true rfl)
  rw [lg_entry_eq]
  generalize (lg_sl ([.ref a0, .int 4, .int 0]) ++ List.replicate (3 - (lg_sl ([.ref a0, .int 4, .int 0])).length) Slot.unset).toArray = ls at hl ⊢
  have hl : lv_has ls 3 [(0, .ref a0), (1, .int 4), (2, .int 0)] := hl
  refine lv_aload_n (pc := 0) hx hb dX8_at_0 rfl (lv_at hl 0 rfl) ?_
  refine va_get (pc := 1) (ci := 8) (v := .ref a1) (C := RX8) (T := TX8) (N := 1) hx hb hts iX8 hown hK hP 0 rfl rfl 0 (by decide) (hts _ tw_62) (fun _ h9 => h9) rfl dX8_at_1 ?_
  refine lv_iload_n (pc := 4) hx hb dX8_at_4 rfl (lv_at hl 2 rfl) ?_
  refine lv_bipush (pc := 5) (v := 6) hx hb dX8_at_5 (by decide) ?_
  refine lv_imul (pc := 7) hx hb dX8_at_7 ?_
  refine gI (y := 0) (by decide +kernel) ?_
  refine lv_iload_n (pc := 8) hx hb dX8_at_8 rfl (lv_at hl 1 rfl) ?_
  refine lv_iadd (pc := 9) hx hb dX8_at_9 ?_
  refine gI (y := 4) (by decide +kernel) ?_
  refine va_iald (pc := 10) hx hb hK hP 1 2 rfl rfl (gin rfl) dX8_at_10 ?_
  refine gI (y := 0) rfl ?_
  have hP9 := hP.sub (ws' := [(a0, .inr (8, [.ref a1])), (a1, .inl (cI, 30, .inl (fun _ => 0)))]) [0, 1] rfl
  have hD9 := hD.sub (ws' := [(a0, .inr (8, [.ref a1])), (a1, .inl (cI, 30, .inl (fun _ => 0)))]) [0, 1] (by decide) rfl
  refine W.widen (k := 0) (n := 0) (Nat.le_of_ble_eq_true rfl) (Nat.le_of_ble_eq_true rfl) ?_
  exact W.iret (v := 0) hx hb hr (fun t ht hW => ⟨⟨0, ((fun _ => 0), (fun _ => (fun _ => 0)), (fun _ => (fun _ => 0)), (fun _ => 0), (fun _ => 0)), rfl, rfl, by rw [ht]; exact hP9, hD9⟩, hS.F ht⟩) hS.2.2 dX8_at_11
set_option maxHeartbeats 4000000 in
set_option maxRecDepth 100000 in
theorem cc_140_yX8_at (l : Launch) (D : va_G) (cB cC cI cJ : ClassId) (sz : Nat) (a0 a1 : Nat) : Met l yX8_at (.code yX8_at cX8_at 3 (some .int) :: lw_gd) ({ frames := 0, cells := 0, slots := 0, locals := 0 }) (gPre D [(cB, .byte), (cC, .char), (cI, .int), (cJ, .long)] [.ref a0, .int 5, .int 0] [(a0, .inr (8, [.ref a1])), (a1, .inl (cI, 30, .inl (fun _ => 0)))] sz) (va_Qi (fun r _ => r = 0) (gB D (va_A [(a0, .inr (8, [.ref a1])), (a1, .inl (cI, 30, .inl (fun _ => 0)))] sz) (fun u : gEx => [(a0, .inr (8, [.ref a1])), (a1, .inl (cI, 30, .inl (fun _ => 0)))])) (va_A [(a0, .inr (8, [.ref a1])), (a1, .inl (cI, 30, .inl (fun _ => 0)))] sz)) 0 0 (va_A [(a0, .inr (8, [.ref a1])), (a1, .inl (cI, 30, .inl (fun _ => 0)))] sz) := by
  refine Met.ofW (cc := cX8_at) (maxL := 3) (ret := (some .int)) (by decide) rfl ?_
  intro p e s m args below meth c s₁ B hml hv
  obtain ⟨rfl, hsz, hP, hK, hD0, hN⟩ := hv
  have hx := B.exec
  have hb := B.bytes
  have hr := B.returns
  have hts : ∀ w ∈ lw_gd, w.before _ s = true := fun w h => atoms_spec (ws := .code yX8_at cX8_at 3 (some .int) :: lw_gd) B.pre w (List.mem_cons_of_mem _ h)
  have hown : s.vm.findClass RX8 = some m.cls := findClass_of_methodNamed B.named
  have hlocks := B.notSynchronized
  subst hsz
  have hD := hD0.self (sz := s.heap.size)
  generalize hAe : va_A [(a0, .inr (8, [.ref a1])), (a1, .inl (cI, 30, .inl (fun _ => 0)))] s.heap.size = A at hD ⊢
  have hA : ∀ q : Nat, s.heap.size ≤ q → A q := fun q h => by rw [← hAe]; exact Or.inr h
  have hS : va_S A s.heap s.heap [] := va_S.rf
  have hP : va_P D gcl [(a0, .inr (8, [.ref a1])), (a1, .inl (cI, 30, .inl (fun _ => 0)))] s.heap := hP
  have hl := lv_entry ([.ref a0, .int 5, .int 0]) (n := 3) (Nat.le_of_ble_eq_true rfl)
  rw [lg_entry_eq]
  generalize (lg_sl ([.ref a0, .int 5, .int 0]) ++ List.replicate (3 - (lg_sl ([.ref a0, .int 5, .int 0])).length) Slot.unset).toArray = ls at hl ⊢
  have hl : lv_has ls 3 [(0, .ref a0), (1, .int 5), (2, .int 0)] := hl
  refine lv_aload_n (pc := 0) hx hb dX8_at_0 rfl (lv_at hl 0 rfl) ?_
  refine va_get (pc := 1) (ci := 8) (v := .ref a1) (C := RX8) (T := TX8) (N := 1) hx hb hts iX8 hown hK hP 0 rfl rfl 0 (by decide) (hts _ tw_62) (fun _ h9 => h9) rfl dX8_at_1 ?_
  refine lv_iload_n (pc := 4) hx hb dX8_at_4 rfl (lv_at hl 2 rfl) ?_
  refine lv_bipush (pc := 5) (v := 6) hx hb dX8_at_5 (by decide) ?_
  refine lv_imul (pc := 7) hx hb dX8_at_7 ?_
  refine gI (y := 0) (by decide +kernel) ?_
  refine lv_iload_n (pc := 8) hx hb dX8_at_8 rfl (lv_at hl 1 rfl) ?_
  refine lv_iadd (pc := 9) hx hb dX8_at_9 ?_
  refine gI (y := 5) (by decide +kernel) ?_
  refine va_iald (pc := 10) hx hb hK hP 1 2 rfl rfl (gin rfl) dX8_at_10 ?_
  refine gI (y := 0) rfl ?_
  have hP9 := hP.sub (ws' := [(a0, .inr (8, [.ref a1])), (a1, .inl (cI, 30, .inl (fun _ => 0)))]) [0, 1] rfl
  have hD9 := hD.sub (ws' := [(a0, .inr (8, [.ref a1])), (a1, .inl (cI, 30, .inl (fun _ => 0)))]) [0, 1] (by decide) rfl
  refine W.widen (k := 0) (n := 0) (Nat.le_of_ble_eq_true rfl) (Nat.le_of_ble_eq_true rfl) ?_
  exact W.iret (v := 0) hx hb hr (fun t ht hW => ⟨⟨0, ((fun _ => 0), (fun _ => (fun _ => 0)), (fun _ => (fun _ => 0)), (fun _ => 0), (fun _ => 0)), rfl, rfl, by rw [ht]; exact hP9, hD9⟩, hS.F ht⟩) hS.2.2 dX8_at_11
set_option maxHeartbeats 4000000 in
set_option maxRecDepth 100000 in
theorem cc_141_yX8_productOf (l : Launch) (D : va_G) (cB cC cI cJ : ClassId) (sz : Nat) (a0 a1 : Nat) : Met l yX8_productOf (.code yX8_productOf cX8_productOf 5 (some .int) :: lw_gd) ({ frames := 1, cells := 0, slots := 0, locals := 22 }) (gPre D [(cB, .byte), (cC, .char), (cI, .int), (cJ, .long)] [.ref a0, .int 0, .int 0] [(a0, .inr (8, [.ref a1])), (a1, .inl (cI, 30, .inl (fun _ => 0)))] sz) (va_Qi (fun r _ => r = 0) (gB D (va_A [(a0, .inr (8, [.ref a1])), (a1, .inl (cI, 30, .inl (fun _ => 0)))] sz) (fun u : gEx => [(a0, .inr (8, [.ref a1])), (a1, .inl (cI, 30, .inl (fun _ => 0)))])) (va_A [(a0, .inr (8, [.ref a1])), (a1, .inl (cI, 30, .inl (fun _ => 0)))] sz)) 0 0 (va_A [(a0, .inr (8, [.ref a1])), (a1, .inl (cI, 30, .inl (fun _ => 0)))] sz) := by
  refine Met.ofW (cc := cX8_productOf) (maxL := 5) (ret := (some .int)) (by decide) rfl ?_
  intro p e s m args below meth c s₁ B hml hv
  obtain ⟨rfl, hsz, hP, hK, hD0, hN⟩ := hv
  have hx := B.exec
  have hb := B.bytes
  have hr := B.returns
  have hts : ∀ w ∈ lw_gd, w.before _ s = true := fun w h => atoms_spec (ws := .code yX8_productOf cX8_productOf 5 (some .int) :: lw_gd) B.pre w (List.mem_cons_of_mem _ h)
  have hown : s.vm.findClass RX8 = some m.cls := findClass_of_methodNamed B.named
  have hlocks := B.notSynchronized
  subst hsz
  have hD := hD0.self (sz := s.heap.size)
  generalize hAe : va_A [(a0, .inr (8, [.ref a1])), (a1, .inl (cI, 30, .inl (fun _ => 0)))] s.heap.size = A at hD ⊢
  have hA : ∀ q : Nat, s.heap.size ≤ q → A q := fun q h => by rw [← hAe]; exact Or.inr h
  have hS : va_S A s.heap s.heap [] := va_S.rf
  have hP : va_P D gcl [(a0, .inr (8, [.ref a1])), (a1, .inl (cI, 30, .inl (fun _ => 0)))] s.heap := hP
  have hl := lv_entry ([.ref a0, .int 0, .int 0]) (n := 5) (Nat.le_of_ble_eq_true rfl)
  rw [lg_entry_eq]
  generalize (lg_sl ([.ref a0, .int 0, .int 0]) ++ List.replicate (5 - (lg_sl ([.ref a0, .int 0, .int 0])).length) Slot.unset).toArray = ls at hl ⊢
  have hl : lv_has ls 5 [(0, .ref a0), (1, .int 0), (2, .int 0)] := hl
  refine lv_iconst (pc := 0) (v := 0) hx hb dX8_productOf_0 (by decide) ?_
  refine lv_istore_n (pc := 1) (lv' := [(3, .int 0), (0, .ref a0), (1, .int 0), (2, .int 0)]) hx hb dX8_productOf_1 rfl hl (by decide) rfl (fun ls hl => ?_)
  refine lv_iconst (pc := 2) (v := 0) hx hb dX8_productOf_2 (by decide) ?_
  refine lv_istore (pc := 3) (lv' := [(4, .int 0), (3, .int 0), (0, .ref a0), (1, .int 0), (2, .int 0)]) hx hb dX8_productOf_3 hl (by decide) rfl (fun ls hl => ?_)
  refine lv_iload (pc := 5) hx hb dX8_productOf_5 (lv_at hl 0 rfl) ?_
  refine lv_bipush (pc := 7) (v := 6) hx hb dX8_productOf_7 (by decide) ?_
  refine lv_icmp_ge (pc := 9) (tgt := 36) hx hb dX8_productOf_9 (by decide) (fun c => absurd c (by decide +kernel)) (fun _ => ?_)
  refine lv_iload_n (pc := 12) hx hb dX8_productOf_12 rfl (lv_at hl 1 rfl) ?_
  refine lv_aload_n (pc := 13) hx hb dX8_productOf_13 rfl (lv_at hl 2 rfl) ?_
  refine lv_iload (pc := 14) hx hb dX8_productOf_14 (lv_at hl 0 rfl) ?_
  refine lv_iload_n (pc := 16) hx hb dX8_productOf_16 rfl (lv_at hl 3 rfl) ?_
  refine gc_i (pc := 17) (wc := [(a0, .inr (8, [.ref a1])), (a1, .inl (cI, 30, .inl (fun _ => 0)))]) (wr := []) hP hD hS hA [0, 1] [] rfl rfl (by decide) (by decide) (by decide) (fun hPc hDc => va_runV (As := [.int 0, .int 0]) (rest := [.int 0]) ⟨hx, hb, hml, hown, hts⟩ (cc_135_yX8_at l D cB cC cI cJ _ a0 a1) ⟨gcwB hts tw_791 tw_5 tw_800 hd_yX8_at ⟨Nat.le_of_ble_eq_true rfl, Nat.le_of_ble_eq_true rfl⟩, hts _ tw_789, hts _ tw_790⟩ ⟨gblind, va_recv hK hPc (ci := 8) (q0 := 0) rfl rfl, (gpreS hPc hK hDc hN).2⟩ rfl rfl hl.1 rfl (lv_room (Nat.le_of_ble_eq_true rfl)) dX8_productOf_17 ⟨Nat.le_of_ble_eq_true rfl, Nat.le_of_ble_eq_true rfl⟩) (fun r_2 u_1 H locs hw_3 hP hD hS => ?_)
  have hP : va_P D gcl [(a0, .inr (8, [.ref a1])), (a1, .inl (cI, 30, .inl (fun _ => 0)))] H := hP
  have hD : va_D A [(a0, .inr (8, [.ref a1])), (a1, .inl (cI, 30, .inl (fun _ => 0)))] := hD
  subst hw_3
  refine lv_aload_n (pc := 20) hx hb dX8_productOf_20 rfl (lv_at hl 2 rfl) ?_
  refine lv_iload (pc := 21) hx hb dX8_productOf_21 (lv_at hl 0 rfl) ?_
  refine lv_iload_n (pc := 23) hx hb dX8_productOf_23 rfl (lv_at hl 4 rfl) ?_
  refine gc_i (pc := 24) (wc := [(a0, .inr (8, [.ref a1])), (a1, .inl (cI, 30, .inl (fun _ => 0)))]) (wr := []) hP hD hS hA [0, 1] [] rfl rfl (by decide) (by decide) (by decide) (fun hPc hDc => va_runV (As := [.int 0, .int 0]) (rest := [.int 0, .int 0]) ⟨hx, hb, hml, hown, hts⟩ (cc_135_yX8_at l D cB cC cI cJ _ a0 a1) ⟨gcwB hts tw_791 tw_5 tw_800 hd_yX8_at ⟨Nat.le_of_ble_eq_true rfl, Nat.le_of_ble_eq_true rfl⟩, hts _ tw_789, hts _ tw_790⟩ ⟨gblind, va_recv hK hPc (ci := 8) (q0 := 0) rfl rfl, (gpreS hPc hK hDc hN).2⟩ rfl rfl hl.1 rfl (lv_room (Nat.le_of_ble_eq_true rfl)) dX8_productOf_24 ⟨Nat.le_of_ble_eq_true rfl, Nat.le_of_ble_eq_true rfl⟩) (fun r_5 u_4 H locs hw_6 hP hD hS => ?_)
  have hP : va_P D gcl [(a0, .inr (8, [.ref a1])), (a1, .inl (cI, 30, .inl (fun _ => 0)))] H := hP
  have hD : va_D A [(a0, .inr (8, [.ref a1])), (a1, .inl (cI, 30, .inl (fun _ => 0)))] := hD
  subst hw_6
  refine lv_imul (pc := 27) hx hb dX8_productOf_27 ?_
  refine gI (y := 0) (by decide +kernel) ?_
  refine lv_iadd (pc := 28) hx hb dX8_productOf_28 ?_
  refine gI (y := 0) (by decide +kernel) ?_
  refine lv_istore_n (pc := 29) (lv' := [(3, .int 0), (4, .int 0), (0, .ref a0), (1, .int 0), (2, .int 0)]) hx hb dX8_productOf_29 rfl hl (by decide) rfl (fun ls hl => ?_)
  refine lv_iinc (pc := 30) (v := 1) (lv' := [(4, .int 1), (3, .int 0), (0, .ref a0), (1, .int 0), (2, .int 0)]) hx hb dX8_productOf_30 hl (k := 1) rfl (by decide +kernel) (by decide) rfl (fun ls hl => ?_)
  refine lv_goto (pc := 33) (tgt := 5) hx hb dX8_productOf_33 (by decide) ?_
  refine lv_iload (pc := 5) hx hb dX8_productOf_5 (lv_at hl 0 rfl) ?_
  refine lv_bipush (pc := 7) (v := 6) hx hb dX8_productOf_7 (by decide) ?_
  refine lv_icmp_ge (pc := 9) (tgt := 36) hx hb dX8_productOf_9 (by decide) (fun c => absurd c (by decide +kernel)) (fun _ => ?_)
  refine lv_iload_n (pc := 12) hx hb dX8_productOf_12 rfl (lv_at hl 1 rfl) ?_
  refine lv_aload_n (pc := 13) hx hb dX8_productOf_13 rfl (lv_at hl 2 rfl) ?_
  refine lv_iload (pc := 14) hx hb dX8_productOf_14 (lv_at hl 0 rfl) ?_
  refine lv_iload_n (pc := 16) hx hb dX8_productOf_16 rfl (lv_at hl 3 rfl) ?_
  refine gc_i (pc := 17) (wc := [(a0, .inr (8, [.ref a1])), (a1, .inl (cI, 30, .inl (fun _ => 0)))]) (wr := []) hP hD hS hA [0, 1] [] rfl rfl (by decide) (by decide) (by decide) (fun hPc hDc => va_runV (As := [.int 1, .int 0]) (rest := [.int 0]) ⟨hx, hb, hml, hown, hts⟩ (cc_136_yX8_at l D cB cC cI cJ _ a0 a1) ⟨gcwB hts tw_791 tw_5 tw_800 hd_yX8_at ⟨Nat.le_of_ble_eq_true rfl, Nat.le_of_ble_eq_true rfl⟩, hts _ tw_789, hts _ tw_790⟩ ⟨gblind, va_recv hK hPc (ci := 8) (q0 := 0) rfl rfl, (gpreS hPc hK hDc hN).2⟩ rfl rfl hl.1 rfl (lv_room (Nat.le_of_ble_eq_true rfl)) dX8_productOf_17 ⟨Nat.le_of_ble_eq_true rfl, Nat.le_of_ble_eq_true rfl⟩) (fun r_8 u_7 H locs hw_9 hP hD hS => ?_)
  have hP : va_P D gcl [(a0, .inr (8, [.ref a1])), (a1, .inl (cI, 30, .inl (fun _ => 0)))] H := hP
  have hD : va_D A [(a0, .inr (8, [.ref a1])), (a1, .inl (cI, 30, .inl (fun _ => 0)))] := hD
  subst hw_9
  refine lv_aload_n (pc := 20) hx hb dX8_productOf_20 rfl (lv_at hl 2 rfl) ?_
  refine lv_iload (pc := 21) hx hb dX8_productOf_21 (lv_at hl 0 rfl) ?_
  refine lv_iload_n (pc := 23) hx hb dX8_productOf_23 rfl (lv_at hl 4 rfl) ?_
  refine gc_i (pc := 24) (wc := [(a0, .inr (8, [.ref a1])), (a1, .inl (cI, 30, .inl (fun _ => 0)))]) (wr := []) hP hD hS hA [0, 1] [] rfl rfl (by decide) (by decide) (by decide) (fun hPc hDc => va_runV (As := [.int 1, .int 0]) (rest := [.int 0, .int 0]) ⟨hx, hb, hml, hown, hts⟩ (cc_136_yX8_at l D cB cC cI cJ _ a0 a1) ⟨gcwB hts tw_791 tw_5 tw_800 hd_yX8_at ⟨Nat.le_of_ble_eq_true rfl, Nat.le_of_ble_eq_true rfl⟩, hts _ tw_789, hts _ tw_790⟩ ⟨gblind, va_recv hK hPc (ci := 8) (q0 := 0) rfl rfl, (gpreS hPc hK hDc hN).2⟩ rfl rfl hl.1 rfl (lv_room (Nat.le_of_ble_eq_true rfl)) dX8_productOf_24 ⟨Nat.le_of_ble_eq_true rfl, Nat.le_of_ble_eq_true rfl⟩) (fun r_11 u_10 H locs hw_12 hP hD hS => ?_)
  have hP : va_P D gcl [(a0, .inr (8, [.ref a1])), (a1, .inl (cI, 30, .inl (fun _ => 0)))] H := hP
  have hD : va_D A [(a0, .inr (8, [.ref a1])), (a1, .inl (cI, 30, .inl (fun _ => 0)))] := hD
  subst hw_12
  refine lv_imul (pc := 27) hx hb dX8_productOf_27 ?_
  refine gI (y := 0) (by decide +kernel) ?_
  refine lv_iadd (pc := 28) hx hb dX8_productOf_28 ?_
  refine gI (y := 0) (by decide +kernel) ?_
  refine lv_istore_n (pc := 29) (lv' := [(3, .int 0), (4, .int 1), (0, .ref a0), (1, .int 0), (2, .int 0)]) hx hb dX8_productOf_29 rfl hl (by decide) rfl (fun ls hl => ?_)
  refine lv_iinc (pc := 30) (v := 2) (lv' := [(4, .int 2), (3, .int 0), (0, .ref a0), (1, .int 0), (2, .int 0)]) hx hb dX8_productOf_30 hl (k := 1) rfl (by decide +kernel) (by decide) rfl (fun ls hl => ?_)
  refine lv_goto (pc := 33) (tgt := 5) hx hb dX8_productOf_33 (by decide) ?_
  refine lv_iload (pc := 5) hx hb dX8_productOf_5 (lv_at hl 0 rfl) ?_
  refine lv_bipush (pc := 7) (v := 6) hx hb dX8_productOf_7 (by decide) ?_
  refine lv_icmp_ge (pc := 9) (tgt := 36) hx hb dX8_productOf_9 (by decide) (fun c => absurd c (by decide +kernel)) (fun _ => ?_)
  refine lv_iload_n (pc := 12) hx hb dX8_productOf_12 rfl (lv_at hl 1 rfl) ?_
  refine lv_aload_n (pc := 13) hx hb dX8_productOf_13 rfl (lv_at hl 2 rfl) ?_
  refine lv_iload (pc := 14) hx hb dX8_productOf_14 (lv_at hl 0 rfl) ?_
  refine lv_iload_n (pc := 16) hx hb dX8_productOf_16 rfl (lv_at hl 3 rfl) ?_
  refine gc_i (pc := 17) (wc := [(a0, .inr (8, [.ref a1])), (a1, .inl (cI, 30, .inl (fun _ => 0)))]) (wr := []) hP hD hS hA [0, 1] [] rfl rfl (by decide) (by decide) (by decide) (fun hPc hDc => va_runV (As := [.int 2, .int 0]) (rest := [.int 0]) ⟨hx, hb, hml, hown, hts⟩ (cc_137_yX8_at l D cB cC cI cJ _ a0 a1) ⟨gcwB hts tw_791 tw_5 tw_800 hd_yX8_at ⟨Nat.le_of_ble_eq_true rfl, Nat.le_of_ble_eq_true rfl⟩, hts _ tw_789, hts _ tw_790⟩ ⟨gblind, va_recv hK hPc (ci := 8) (q0 := 0) rfl rfl, (gpreS hPc hK hDc hN).2⟩ rfl rfl hl.1 rfl (lv_room (Nat.le_of_ble_eq_true rfl)) dX8_productOf_17 ⟨Nat.le_of_ble_eq_true rfl, Nat.le_of_ble_eq_true rfl⟩) (fun r_14 u_13 H locs hw_15 hP hD hS => ?_)
  have hP : va_P D gcl [(a0, .inr (8, [.ref a1])), (a1, .inl (cI, 30, .inl (fun _ => 0)))] H := hP
  have hD : va_D A [(a0, .inr (8, [.ref a1])), (a1, .inl (cI, 30, .inl (fun _ => 0)))] := hD
  subst hw_15
  refine lv_aload_n (pc := 20) hx hb dX8_productOf_20 rfl (lv_at hl 2 rfl) ?_
  refine lv_iload (pc := 21) hx hb dX8_productOf_21 (lv_at hl 0 rfl) ?_
  refine lv_iload_n (pc := 23) hx hb dX8_productOf_23 rfl (lv_at hl 4 rfl) ?_
  refine gc_i (pc := 24) (wc := [(a0, .inr (8, [.ref a1])), (a1, .inl (cI, 30, .inl (fun _ => 0)))]) (wr := []) hP hD hS hA [0, 1] [] rfl rfl (by decide) (by decide) (by decide) (fun hPc hDc => va_runV (As := [.int 2, .int 0]) (rest := [.int 0, .int 0]) ⟨hx, hb, hml, hown, hts⟩ (cc_137_yX8_at l D cB cC cI cJ _ a0 a1) ⟨gcwB hts tw_791 tw_5 tw_800 hd_yX8_at ⟨Nat.le_of_ble_eq_true rfl, Nat.le_of_ble_eq_true rfl⟩, hts _ tw_789, hts _ tw_790⟩ ⟨gblind, va_recv hK hPc (ci := 8) (q0 := 0) rfl rfl, (gpreS hPc hK hDc hN).2⟩ rfl rfl hl.1 rfl (lv_room (Nat.le_of_ble_eq_true rfl)) dX8_productOf_24 ⟨Nat.le_of_ble_eq_true rfl, Nat.le_of_ble_eq_true rfl⟩) (fun r_17 u_16 H locs hw_18 hP hD hS => ?_)
  have hP : va_P D gcl [(a0, .inr (8, [.ref a1])), (a1, .inl (cI, 30, .inl (fun _ => 0)))] H := hP
  have hD : va_D A [(a0, .inr (8, [.ref a1])), (a1, .inl (cI, 30, .inl (fun _ => 0)))] := hD
  subst hw_18
  refine lv_imul (pc := 27) hx hb dX8_productOf_27 ?_
  refine gI (y := 0) (by decide +kernel) ?_
  refine lv_iadd (pc := 28) hx hb dX8_productOf_28 ?_
  refine gI (y := 0) (by decide +kernel) ?_
  refine lv_istore_n (pc := 29) (lv' := [(3, .int 0), (4, .int 2), (0, .ref a0), (1, .int 0), (2, .int 0)]) hx hb dX8_productOf_29 rfl hl (by decide) rfl (fun ls hl => ?_)
  refine lv_iinc (pc := 30) (v := 3) (lv' := [(4, .int 3), (3, .int 0), (0, .ref a0), (1, .int 0), (2, .int 0)]) hx hb dX8_productOf_30 hl (k := 1) rfl (by decide +kernel) (by decide) rfl (fun ls hl => ?_)
  refine lv_goto (pc := 33) (tgt := 5) hx hb dX8_productOf_33 (by decide) ?_
  refine lv_iload (pc := 5) hx hb dX8_productOf_5 (lv_at hl 0 rfl) ?_
  refine lv_bipush (pc := 7) (v := 6) hx hb dX8_productOf_7 (by decide) ?_
  refine lv_icmp_ge (pc := 9) (tgt := 36) hx hb dX8_productOf_9 (by decide) (fun c => absurd c (by decide +kernel)) (fun _ => ?_)
  refine lv_iload_n (pc := 12) hx hb dX8_productOf_12 rfl (lv_at hl 1 rfl) ?_
  refine lv_aload_n (pc := 13) hx hb dX8_productOf_13 rfl (lv_at hl 2 rfl) ?_
  refine lv_iload (pc := 14) hx hb dX8_productOf_14 (lv_at hl 0 rfl) ?_
  refine lv_iload_n (pc := 16) hx hb dX8_productOf_16 rfl (lv_at hl 3 rfl) ?_
  refine gc_i (pc := 17) (wc := [(a0, .inr (8, [.ref a1])), (a1, .inl (cI, 30, .inl (fun _ => 0)))]) (wr := []) hP hD hS hA [0, 1] [] rfl rfl (by decide) (by decide) (by decide) (fun hPc hDc => va_runV (As := [.int 3, .int 0]) (rest := [.int 0]) ⟨hx, hb, hml, hown, hts⟩ (cc_138_yX8_at l D cB cC cI cJ _ a0 a1) ⟨gcwB hts tw_791 tw_5 tw_800 hd_yX8_at ⟨Nat.le_of_ble_eq_true rfl, Nat.le_of_ble_eq_true rfl⟩, hts _ tw_789, hts _ tw_790⟩ ⟨gblind, va_recv hK hPc (ci := 8) (q0 := 0) rfl rfl, (gpreS hPc hK hDc hN).2⟩ rfl rfl hl.1 rfl (lv_room (Nat.le_of_ble_eq_true rfl)) dX8_productOf_17 ⟨Nat.le_of_ble_eq_true rfl, Nat.le_of_ble_eq_true rfl⟩) (fun r_20 u_19 H locs hw_21 hP hD hS => ?_)
  have hP : va_P D gcl [(a0, .inr (8, [.ref a1])), (a1, .inl (cI, 30, .inl (fun _ => 0)))] H := hP
  have hD : va_D A [(a0, .inr (8, [.ref a1])), (a1, .inl (cI, 30, .inl (fun _ => 0)))] := hD
  subst hw_21
  refine lv_aload_n (pc := 20) hx hb dX8_productOf_20 rfl (lv_at hl 2 rfl) ?_
  refine lv_iload (pc := 21) hx hb dX8_productOf_21 (lv_at hl 0 rfl) ?_
  refine lv_iload_n (pc := 23) hx hb dX8_productOf_23 rfl (lv_at hl 4 rfl) ?_
  refine gc_i (pc := 24) (wc := [(a0, .inr (8, [.ref a1])), (a1, .inl (cI, 30, .inl (fun _ => 0)))]) (wr := []) hP hD hS hA [0, 1] [] rfl rfl (by decide) (by decide) (by decide) (fun hPc hDc => va_runV (As := [.int 3, .int 0]) (rest := [.int 0, .int 0]) ⟨hx, hb, hml, hown, hts⟩ (cc_138_yX8_at l D cB cC cI cJ _ a0 a1) ⟨gcwB hts tw_791 tw_5 tw_800 hd_yX8_at ⟨Nat.le_of_ble_eq_true rfl, Nat.le_of_ble_eq_true rfl⟩, hts _ tw_789, hts _ tw_790⟩ ⟨gblind, va_recv hK hPc (ci := 8) (q0 := 0) rfl rfl, (gpreS hPc hK hDc hN).2⟩ rfl rfl hl.1 rfl (lv_room (Nat.le_of_ble_eq_true rfl)) dX8_productOf_24 ⟨Nat.le_of_ble_eq_true rfl, Nat.le_of_ble_eq_true rfl⟩) (fun r_23 u_22 H locs hw_24 hP hD hS => ?_)
  have hP : va_P D gcl [(a0, .inr (8, [.ref a1])), (a1, .inl (cI, 30, .inl (fun _ => 0)))] H := hP
  have hD : va_D A [(a0, .inr (8, [.ref a1])), (a1, .inl (cI, 30, .inl (fun _ => 0)))] := hD
  subst hw_24
  refine lv_imul (pc := 27) hx hb dX8_productOf_27 ?_
  refine gI (y := 0) (by decide +kernel) ?_
  refine lv_iadd (pc := 28) hx hb dX8_productOf_28 ?_
  refine gI (y := 0) (by decide +kernel) ?_
  refine lv_istore_n (pc := 29) (lv' := [(3, .int 0), (4, .int 3), (0, .ref a0), (1, .int 0), (2, .int 0)]) hx hb dX8_productOf_29 rfl hl (by decide) rfl (fun ls hl => ?_)
  refine lv_iinc (pc := 30) (v := 4) (lv' := [(4, .int 4), (3, .int 0), (0, .ref a0), (1, .int 0), (2, .int 0)]) hx hb dX8_productOf_30 hl (k := 1) rfl (by decide +kernel) (by decide) rfl (fun ls hl => ?_)
  refine lv_goto (pc := 33) (tgt := 5) hx hb dX8_productOf_33 (by decide) ?_
  refine lv_iload (pc := 5) hx hb dX8_productOf_5 (lv_at hl 0 rfl) ?_
  refine lv_bipush (pc := 7) (v := 6) hx hb dX8_productOf_7 (by decide) ?_
  refine lv_icmp_ge (pc := 9) (tgt := 36) hx hb dX8_productOf_9 (by decide) (fun c => absurd c (by decide +kernel)) (fun _ => ?_)
  refine lv_iload_n (pc := 12) hx hb dX8_productOf_12 rfl (lv_at hl 1 rfl) ?_
  refine lv_aload_n (pc := 13) hx hb dX8_productOf_13 rfl (lv_at hl 2 rfl) ?_
  refine lv_iload (pc := 14) hx hb dX8_productOf_14 (lv_at hl 0 rfl) ?_
  refine lv_iload_n (pc := 16) hx hb dX8_productOf_16 rfl (lv_at hl 3 rfl) ?_
  refine gc_i (pc := 17) (wc := [(a0, .inr (8, [.ref a1])), (a1, .inl (cI, 30, .inl (fun _ => 0)))]) (wr := []) hP hD hS hA [0, 1] [] rfl rfl (by decide) (by decide) (by decide) (fun hPc hDc => va_runV (As := [.int 4, .int 0]) (rest := [.int 0]) ⟨hx, hb, hml, hown, hts⟩ (cc_139_yX8_at l D cB cC cI cJ _ a0 a1) ⟨gcwB hts tw_791 tw_5 tw_800 hd_yX8_at ⟨Nat.le_of_ble_eq_true rfl, Nat.le_of_ble_eq_true rfl⟩, hts _ tw_789, hts _ tw_790⟩ ⟨gblind, va_recv hK hPc (ci := 8) (q0 := 0) rfl rfl, (gpreS hPc hK hDc hN).2⟩ rfl rfl hl.1 rfl (lv_room (Nat.le_of_ble_eq_true rfl)) dX8_productOf_17 ⟨Nat.le_of_ble_eq_true rfl, Nat.le_of_ble_eq_true rfl⟩) (fun r_26 u_25 H locs hw_27 hP hD hS => ?_)
  have hP : va_P D gcl [(a0, .inr (8, [.ref a1])), (a1, .inl (cI, 30, .inl (fun _ => 0)))] H := hP
  have hD : va_D A [(a0, .inr (8, [.ref a1])), (a1, .inl (cI, 30, .inl (fun _ => 0)))] := hD
  subst hw_27
  refine lv_aload_n (pc := 20) hx hb dX8_productOf_20 rfl (lv_at hl 2 rfl) ?_
  refine lv_iload (pc := 21) hx hb dX8_productOf_21 (lv_at hl 0 rfl) ?_
  refine lv_iload_n (pc := 23) hx hb dX8_productOf_23 rfl (lv_at hl 4 rfl) ?_
  refine gc_i (pc := 24) (wc := [(a0, .inr (8, [.ref a1])), (a1, .inl (cI, 30, .inl (fun _ => 0)))]) (wr := []) hP hD hS hA [0, 1] [] rfl rfl (by decide) (by decide) (by decide) (fun hPc hDc => va_runV (As := [.int 4, .int 0]) (rest := [.int 0, .int 0]) ⟨hx, hb, hml, hown, hts⟩ (cc_139_yX8_at l D cB cC cI cJ _ a0 a1) ⟨gcwB hts tw_791 tw_5 tw_800 hd_yX8_at ⟨Nat.le_of_ble_eq_true rfl, Nat.le_of_ble_eq_true rfl⟩, hts _ tw_789, hts _ tw_790⟩ ⟨gblind, va_recv hK hPc (ci := 8) (q0 := 0) rfl rfl, (gpreS hPc hK hDc hN).2⟩ rfl rfl hl.1 rfl (lv_room (Nat.le_of_ble_eq_true rfl)) dX8_productOf_24 ⟨Nat.le_of_ble_eq_true rfl, Nat.le_of_ble_eq_true rfl⟩) (fun r_29 u_28 H locs hw_30 hP hD hS => ?_)
  have hP : va_P D gcl [(a0, .inr (8, [.ref a1])), (a1, .inl (cI, 30, .inl (fun _ => 0)))] H := hP
  have hD : va_D A [(a0, .inr (8, [.ref a1])), (a1, .inl (cI, 30, .inl (fun _ => 0)))] := hD
  subst hw_30
  refine lv_imul (pc := 27) hx hb dX8_productOf_27 ?_
  refine gI (y := 0) (by decide +kernel) ?_
  refine lv_iadd (pc := 28) hx hb dX8_productOf_28 ?_
  refine gI (y := 0) (by decide +kernel) ?_
  refine lv_istore_n (pc := 29) (lv' := [(3, .int 0), (4, .int 4), (0, .ref a0), (1, .int 0), (2, .int 0)]) hx hb dX8_productOf_29 rfl hl (by decide) rfl (fun ls hl => ?_)
  refine lv_iinc (pc := 30) (v := 5) (lv' := [(4, .int 5), (3, .int 0), (0, .ref a0), (1, .int 0), (2, .int 0)]) hx hb dX8_productOf_30 hl (k := 1) rfl (by decide +kernel) (by decide) rfl (fun ls hl => ?_)
  refine lv_goto (pc := 33) (tgt := 5) hx hb dX8_productOf_33 (by decide) ?_
  refine lv_iload (pc := 5) hx hb dX8_productOf_5 (lv_at hl 0 rfl) ?_
  refine lv_bipush (pc := 7) (v := 6) hx hb dX8_productOf_7 (by decide) ?_
  refine lv_icmp_ge (pc := 9) (tgt := 36) hx hb dX8_productOf_9 (by decide) (fun c => absurd c (by decide +kernel)) (fun _ => ?_)
  refine lv_iload_n (pc := 12) hx hb dX8_productOf_12 rfl (lv_at hl 1 rfl) ?_
  refine lv_aload_n (pc := 13) hx hb dX8_productOf_13 rfl (lv_at hl 2 rfl) ?_
  refine lv_iload (pc := 14) hx hb dX8_productOf_14 (lv_at hl 0 rfl) ?_
  refine lv_iload_n (pc := 16) hx hb dX8_productOf_16 rfl (lv_at hl 3 rfl) ?_
  refine gc_i (pc := 17) (wc := [(a0, .inr (8, [.ref a1])), (a1, .inl (cI, 30, .inl (fun _ => 0)))]) (wr := []) hP hD hS hA [0, 1] [] rfl rfl (by decide) (by decide) (by decide) (fun hPc hDc => va_runV (As := [.int 5, .int 0]) (rest := [.int 0]) ⟨hx, hb, hml, hown, hts⟩ (cc_140_yX8_at l D cB cC cI cJ _ a0 a1) ⟨gcwB hts tw_791 tw_5 tw_800 hd_yX8_at ⟨Nat.le_of_ble_eq_true rfl, Nat.le_of_ble_eq_true rfl⟩, hts _ tw_789, hts _ tw_790⟩ ⟨gblind, va_recv hK hPc (ci := 8) (q0 := 0) rfl rfl, (gpreS hPc hK hDc hN).2⟩ rfl rfl hl.1 rfl (lv_room (Nat.le_of_ble_eq_true rfl)) dX8_productOf_17 ⟨Nat.le_of_ble_eq_true rfl, Nat.le_of_ble_eq_true rfl⟩) (fun r_32 u_31 H locs hw_33 hP hD hS => ?_)
  have hP : va_P D gcl [(a0, .inr (8, [.ref a1])), (a1, .inl (cI, 30, .inl (fun _ => 0)))] H := hP
  have hD : va_D A [(a0, .inr (8, [.ref a1])), (a1, .inl (cI, 30, .inl (fun _ => 0)))] := hD
  subst hw_33
  refine lv_aload_n (pc := 20) hx hb dX8_productOf_20 rfl (lv_at hl 2 rfl) ?_
  refine lv_iload (pc := 21) hx hb dX8_productOf_21 (lv_at hl 0 rfl) ?_
  refine lv_iload_n (pc := 23) hx hb dX8_productOf_23 rfl (lv_at hl 4 rfl) ?_
  refine gc_i (pc := 24) (wc := [(a0, .inr (8, [.ref a1])), (a1, .inl (cI, 30, .inl (fun _ => 0)))]) (wr := []) hP hD hS hA [0, 1] [] rfl rfl (by decide) (by decide) (by decide) (fun hPc hDc => va_runV (As := [.int 5, .int 0]) (rest := [.int 0, .int 0]) ⟨hx, hb, hml, hown, hts⟩ (cc_140_yX8_at l D cB cC cI cJ _ a0 a1) ⟨gcwB hts tw_791 tw_5 tw_800 hd_yX8_at ⟨Nat.le_of_ble_eq_true rfl, Nat.le_of_ble_eq_true rfl⟩, hts _ tw_789, hts _ tw_790⟩ ⟨gblind, va_recv hK hPc (ci := 8) (q0 := 0) rfl rfl, (gpreS hPc hK hDc hN).2⟩ rfl rfl hl.1 rfl (lv_room (Nat.le_of_ble_eq_true rfl)) dX8_productOf_24 ⟨Nat.le_of_ble_eq_true rfl, Nat.le_of_ble_eq_true rfl⟩) (fun r_35 u_34 H locs hw_36 hP hD hS => ?_)
  have hP : va_P D gcl [(a0, .inr (8, [.ref a1])), (a1, .inl (cI, 30, .inl (fun _ => 0)))] H := hP
  have hD : va_D A [(a0, .inr (8, [.ref a1])), (a1, .inl (cI, 30, .inl (fun _ => 0)))] := hD
  subst hw_36
  refine lv_imul (pc := 27) hx hb dX8_productOf_27 ?_
  refine gI (y := 0) (by decide +kernel) ?_
  refine lv_iadd (pc := 28) hx hb dX8_productOf_28 ?_
  refine gI (y := 0) (by decide +kernel) ?_
  refine lv_istore_n (pc := 29) (lv' := [(3, .int 0), (4, .int 5), (0, .ref a0), (1, .int 0), (2, .int 0)]) hx hb dX8_productOf_29 rfl hl (by decide) rfl (fun ls hl => ?_)
  refine lv_iinc (pc := 30) (v := 6) (lv' := [(4, .int 6), (3, .int 0), (0, .ref a0), (1, .int 0), (2, .int 0)]) hx hb dX8_productOf_30 hl (k := 1) rfl (by decide +kernel) (by decide) rfl (fun ls hl => ?_)
  refine lv_goto (pc := 33) (tgt := 5) hx hb dX8_productOf_33 (by decide) ?_
  refine lv_iload (pc := 5) hx hb dX8_productOf_5 (lv_at hl 0 rfl) ?_
  refine lv_bipush (pc := 7) (v := 6) hx hb dX8_productOf_7 (by decide) ?_
  refine lv_icmp_ge (pc := 9) (tgt := 36) hx hb dX8_productOf_9 (by decide) (fun _ => ?_) (fun c => absurd (by decide +kernel) c)
  refine lv_iload_n (pc := 36) hx hb dX8_productOf_36 rfl (lv_at hl 1 rfl) ?_
  have hP9 := hP.sub (ws' := [(a0, .inr (8, [.ref a1])), (a1, .inl (cI, 30, .inl (fun _ => 0)))]) [0, 1] rfl
  have hD9 := hD.sub (ws' := [(a0, .inr (8, [.ref a1])), (a1, .inl (cI, 30, .inl (fun _ => 0)))]) [0, 1] (by decide) rfl
  refine W.widen (k := 0) (n := 0) (Nat.le_of_ble_eq_true rfl) (Nat.le_of_ble_eq_true rfl) ?_
  exact W.iret (v := 0) hx hb hr (fun t ht hW => ⟨⟨0, ((fun _ => 0), (fun _ => (fun _ => 0)), (fun _ => (fun _ => 0)), (fun _ => 0), (fun _ => 0)), rfl, rfl, by rw [ht]; exact hP9, hD9⟩, hS.F ht⟩) hS.2.2 dX8_productOf_37
set_option maxHeartbeats 4000000 in
set_option maxRecDepth 100000 in
theorem cc_142_yX8_at (l : Launch) (D : va_G) (cB cC cI cJ : ClassId) (sz : Nat) (a0 a1 : Nat) : Met l yX8_at (.code yX8_at cX8_at 3 (some .int) :: lw_gd) ({ frames := 0, cells := 0, slots := 0, locals := 0 }) (gPre D [(cB, .byte), (cC, .char), (cI, .int), (cJ, .long)] [.ref a0, .int 0, .int 1] [(a0, .inr (8, [.ref a1])), (a1, .inl (cI, 30, .inl (fun _ => 0)))] sz) (va_Qi (fun r _ => r = 0) (gB D (va_A [(a0, .inr (8, [.ref a1])), (a1, .inl (cI, 30, .inl (fun _ => 0)))] sz) (fun u : gEx => [(a0, .inr (8, [.ref a1])), (a1, .inl (cI, 30, .inl (fun _ => 0)))])) (va_A [(a0, .inr (8, [.ref a1])), (a1, .inl (cI, 30, .inl (fun _ => 0)))] sz)) 0 0 (va_A [(a0, .inr (8, [.ref a1])), (a1, .inl (cI, 30, .inl (fun _ => 0)))] sz) := by
  refine Met.ofW (cc := cX8_at) (maxL := 3) (ret := (some .int)) (by decide) rfl ?_
  intro p e s m args below meth c s₁ B hml hv
  obtain ⟨rfl, hsz, hP, hK, hD0, hN⟩ := hv
  have hx := B.exec
  have hb := B.bytes
  have hr := B.returns
  have hts : ∀ w ∈ lw_gd, w.before _ s = true := fun w h => atoms_spec (ws := .code yX8_at cX8_at 3 (some .int) :: lw_gd) B.pre w (List.mem_cons_of_mem _ h)
  have hown : s.vm.findClass RX8 = some m.cls := findClass_of_methodNamed B.named
  have hlocks := B.notSynchronized
  subst hsz
  have hD := hD0.self (sz := s.heap.size)
  generalize hAe : va_A [(a0, .inr (8, [.ref a1])), (a1, .inl (cI, 30, .inl (fun _ => 0)))] s.heap.size = A at hD ⊢
  have hA : ∀ q : Nat, s.heap.size ≤ q → A q := fun q h => by rw [← hAe]; exact Or.inr h
  have hS : va_S A s.heap s.heap [] := va_S.rf
  have hP : va_P D gcl [(a0, .inr (8, [.ref a1])), (a1, .inl (cI, 30, .inl (fun _ => 0)))] s.heap := hP
  have hl := lv_entry ([.ref a0, .int 0, .int 1]) (n := 3) (Nat.le_of_ble_eq_true rfl)
  rw [lg_entry_eq]
  generalize (lg_sl ([.ref a0, .int 0, .int 1]) ++ List.replicate (3 - (lg_sl ([.ref a0, .int 0, .int 1])).length) Slot.unset).toArray = ls at hl ⊢
  have hl : lv_has ls 3 [(0, .ref a0), (1, .int 0), (2, .int 1)] := hl
  refine lv_aload_n (pc := 0) hx hb dX8_at_0 rfl (lv_at hl 0 rfl) ?_
  refine va_get (pc := 1) (ci := 8) (v := .ref a1) (C := RX8) (T := TX8) (N := 1) hx hb hts iX8 hown hK hP 0 rfl rfl 0 (by decide) (hts _ tw_62) (fun _ h9 => h9) rfl dX8_at_1 ?_
  refine lv_iload_n (pc := 4) hx hb dX8_at_4 rfl (lv_at hl 2 rfl) ?_
  refine lv_bipush (pc := 5) (v := 6) hx hb dX8_at_5 (by decide) ?_
  refine lv_imul (pc := 7) hx hb dX8_at_7 ?_
  refine gI (y := 6) (by decide +kernel) ?_
  refine lv_iload_n (pc := 8) hx hb dX8_at_8 rfl (lv_at hl 1 rfl) ?_
  refine lv_iadd (pc := 9) hx hb dX8_at_9 ?_
  refine gI (y := 6) (by decide +kernel) ?_
  refine va_iald (pc := 10) hx hb hK hP 1 2 rfl rfl (gin rfl) dX8_at_10 ?_
  refine gI (y := 0) rfl ?_
  have hP9 := hP.sub (ws' := [(a0, .inr (8, [.ref a1])), (a1, .inl (cI, 30, .inl (fun _ => 0)))]) [0, 1] rfl
  have hD9 := hD.sub (ws' := [(a0, .inr (8, [.ref a1])), (a1, .inl (cI, 30, .inl (fun _ => 0)))]) [0, 1] (by decide) rfl
  refine W.widen (k := 0) (n := 0) (Nat.le_of_ble_eq_true rfl) (Nat.le_of_ble_eq_true rfl) ?_
  exact W.iret (v := 0) hx hb hr (fun t ht hW => ⟨⟨0, ((fun _ => 0), (fun _ => (fun _ => 0)), (fun _ => (fun _ => 0)), (fun _ => 0), (fun _ => 0)), rfl, rfl, by rw [ht]; exact hP9, hD9⟩, hS.F ht⟩) hS.2.2 dX8_at_11
set_option maxHeartbeats 4000000 in
set_option maxRecDepth 100000 in
theorem cc_143_yX8_at (l : Launch) (D : va_G) (cB cC cI cJ : ClassId) (sz : Nat) (a0 a1 : Nat) : Met l yX8_at (.code yX8_at cX8_at 3 (some .int) :: lw_gd) ({ frames := 0, cells := 0, slots := 0, locals := 0 }) (gPre D [(cB, .byte), (cC, .char), (cI, .int), (cJ, .long)] [.ref a0, .int 1, .int 1] [(a0, .inr (8, [.ref a1])), (a1, .inl (cI, 30, .inl (fun _ => 0)))] sz) (va_Qi (fun r _ => r = 0) (gB D (va_A [(a0, .inr (8, [.ref a1])), (a1, .inl (cI, 30, .inl (fun _ => 0)))] sz) (fun u : gEx => [(a0, .inr (8, [.ref a1])), (a1, .inl (cI, 30, .inl (fun _ => 0)))])) (va_A [(a0, .inr (8, [.ref a1])), (a1, .inl (cI, 30, .inl (fun _ => 0)))] sz)) 0 0 (va_A [(a0, .inr (8, [.ref a1])), (a1, .inl (cI, 30, .inl (fun _ => 0)))] sz) := by
  refine Met.ofW (cc := cX8_at) (maxL := 3) (ret := (some .int)) (by decide) rfl ?_
  intro p e s m args below meth c s₁ B hml hv
  obtain ⟨rfl, hsz, hP, hK, hD0, hN⟩ := hv
  have hx := B.exec
  have hb := B.bytes
  have hr := B.returns
  have hts : ∀ w ∈ lw_gd, w.before _ s = true := fun w h => atoms_spec (ws := .code yX8_at cX8_at 3 (some .int) :: lw_gd) B.pre w (List.mem_cons_of_mem _ h)
  have hown : s.vm.findClass RX8 = some m.cls := findClass_of_methodNamed B.named
  have hlocks := B.notSynchronized
  subst hsz
  have hD := hD0.self (sz := s.heap.size)
  generalize hAe : va_A [(a0, .inr (8, [.ref a1])), (a1, .inl (cI, 30, .inl (fun _ => 0)))] s.heap.size = A at hD ⊢
  have hA : ∀ q : Nat, s.heap.size ≤ q → A q := fun q h => by rw [← hAe]; exact Or.inr h
  have hS : va_S A s.heap s.heap [] := va_S.rf
  have hP : va_P D gcl [(a0, .inr (8, [.ref a1])), (a1, .inl (cI, 30, .inl (fun _ => 0)))] s.heap := hP
  have hl := lv_entry ([.ref a0, .int 1, .int 1]) (n := 3) (Nat.le_of_ble_eq_true rfl)
  rw [lg_entry_eq]
  generalize (lg_sl ([.ref a0, .int 1, .int 1]) ++ List.replicate (3 - (lg_sl ([.ref a0, .int 1, .int 1])).length) Slot.unset).toArray = ls at hl ⊢
  have hl : lv_has ls 3 [(0, .ref a0), (1, .int 1), (2, .int 1)] := hl
  refine lv_aload_n (pc := 0) hx hb dX8_at_0 rfl (lv_at hl 0 rfl) ?_
  refine va_get (pc := 1) (ci := 8) (v := .ref a1) (C := RX8) (T := TX8) (N := 1) hx hb hts iX8 hown hK hP 0 rfl rfl 0 (by decide) (hts _ tw_62) (fun _ h9 => h9) rfl dX8_at_1 ?_
  refine lv_iload_n (pc := 4) hx hb dX8_at_4 rfl (lv_at hl 2 rfl) ?_
  refine lv_bipush (pc := 5) (v := 6) hx hb dX8_at_5 (by decide) ?_
  refine lv_imul (pc := 7) hx hb dX8_at_7 ?_
  refine gI (y := 6) (by decide +kernel) ?_
  refine lv_iload_n (pc := 8) hx hb dX8_at_8 rfl (lv_at hl 1 rfl) ?_
  refine lv_iadd (pc := 9) hx hb dX8_at_9 ?_
  refine gI (y := 7) (by decide +kernel) ?_
  refine va_iald (pc := 10) hx hb hK hP 1 2 rfl rfl (gin rfl) dX8_at_10 ?_
  refine gI (y := 0) rfl ?_
  have hP9 := hP.sub (ws' := [(a0, .inr (8, [.ref a1])), (a1, .inl (cI, 30, .inl (fun _ => 0)))]) [0, 1] rfl
  have hD9 := hD.sub (ws' := [(a0, .inr (8, [.ref a1])), (a1, .inl (cI, 30, .inl (fun _ => 0)))]) [0, 1] (by decide) rfl
  refine W.widen (k := 0) (n := 0) (Nat.le_of_ble_eq_true rfl) (Nat.le_of_ble_eq_true rfl) ?_
  exact W.iret (v := 0) hx hb hr (fun t ht hW => ⟨⟨0, ((fun _ => 0), (fun _ => (fun _ => 0)), (fun _ => (fun _ => 0)), (fun _ => 0), (fun _ => 0)), rfl, rfl, by rw [ht]; exact hP9, hD9⟩, hS.F ht⟩) hS.2.2 dX8_at_11
set_option maxHeartbeats 4000000 in
set_option maxRecDepth 100000 in
theorem cc_144_yX8_at (l : Launch) (D : va_G) (cB cC cI cJ : ClassId) (sz : Nat) (a0 a1 : Nat) : Met l yX8_at (.code yX8_at cX8_at 3 (some .int) :: lw_gd) ({ frames := 0, cells := 0, slots := 0, locals := 0 }) (gPre D [(cB, .byte), (cC, .char), (cI, .int), (cJ, .long)] [.ref a0, .int 2, .int 1] [(a0, .inr (8, [.ref a1])), (a1, .inl (cI, 30, .inl (fun _ => 0)))] sz) (va_Qi (fun r _ => r = 0) (gB D (va_A [(a0, .inr (8, [.ref a1])), (a1, .inl (cI, 30, .inl (fun _ => 0)))] sz) (fun u : gEx => [(a0, .inr (8, [.ref a1])), (a1, .inl (cI, 30, .inl (fun _ => 0)))])) (va_A [(a0, .inr (8, [.ref a1])), (a1, .inl (cI, 30, .inl (fun _ => 0)))] sz)) 0 0 (va_A [(a0, .inr (8, [.ref a1])), (a1, .inl (cI, 30, .inl (fun _ => 0)))] sz) := by
  refine Met.ofW (cc := cX8_at) (maxL := 3) (ret := (some .int)) (by decide) rfl ?_
  intro p e s m args below meth c s₁ B hml hv
  obtain ⟨rfl, hsz, hP, hK, hD0, hN⟩ := hv
  have hx := B.exec
  have hb := B.bytes
  have hr := B.returns
  have hts : ∀ w ∈ lw_gd, w.before _ s = true := fun w h => atoms_spec (ws := .code yX8_at cX8_at 3 (some .int) :: lw_gd) B.pre w (List.mem_cons_of_mem _ h)
  have hown : s.vm.findClass RX8 = some m.cls := findClass_of_methodNamed B.named
  have hlocks := B.notSynchronized
  subst hsz
  have hD := hD0.self (sz := s.heap.size)
  generalize hAe : va_A [(a0, .inr (8, [.ref a1])), (a1, .inl (cI, 30, .inl (fun _ => 0)))] s.heap.size = A at hD ⊢
  have hA : ∀ q : Nat, s.heap.size ≤ q → A q := fun q h => by rw [← hAe]; exact Or.inr h
  have hS : va_S A s.heap s.heap [] := va_S.rf
  have hP : va_P D gcl [(a0, .inr (8, [.ref a1])), (a1, .inl (cI, 30, .inl (fun _ => 0)))] s.heap := hP
  have hl := lv_entry ([.ref a0, .int 2, .int 1]) (n := 3) (Nat.le_of_ble_eq_true rfl)
  rw [lg_entry_eq]
  generalize (lg_sl ([.ref a0, .int 2, .int 1]) ++ List.replicate (3 - (lg_sl ([.ref a0, .int 2, .int 1])).length) Slot.unset).toArray = ls at hl ⊢
  have hl : lv_has ls 3 [(0, .ref a0), (1, .int 2), (2, .int 1)] := hl
  refine lv_aload_n (pc := 0) hx hb dX8_at_0 rfl (lv_at hl 0 rfl) ?_
  refine va_get (pc := 1) (ci := 8) (v := .ref a1) (C := RX8) (T := TX8) (N := 1) hx hb hts iX8 hown hK hP 0 rfl rfl 0 (by decide) (hts _ tw_62) (fun _ h9 => h9) rfl dX8_at_1 ?_
  refine lv_iload_n (pc := 4) hx hb dX8_at_4 rfl (lv_at hl 2 rfl) ?_
  refine lv_bipush (pc := 5) (v := 6) hx hb dX8_at_5 (by decide) ?_
  refine lv_imul (pc := 7) hx hb dX8_at_7 ?_
  refine gI (y := 6) (by decide +kernel) ?_
  refine lv_iload_n (pc := 8) hx hb dX8_at_8 rfl (lv_at hl 1 rfl) ?_
  refine lv_iadd (pc := 9) hx hb dX8_at_9 ?_
  refine gI (y := 8) (by decide +kernel) ?_
  refine va_iald (pc := 10) hx hb hK hP 1 2 rfl rfl (gin rfl) dX8_at_10 ?_
  refine gI (y := 0) rfl ?_
  have hP9 := hP.sub (ws' := [(a0, .inr (8, [.ref a1])), (a1, .inl (cI, 30, .inl (fun _ => 0)))]) [0, 1] rfl
  have hD9 := hD.sub (ws' := [(a0, .inr (8, [.ref a1])), (a1, .inl (cI, 30, .inl (fun _ => 0)))]) [0, 1] (by decide) rfl
  refine W.widen (k := 0) (n := 0) (Nat.le_of_ble_eq_true rfl) (Nat.le_of_ble_eq_true rfl) ?_
  exact W.iret (v := 0) hx hb hr (fun t ht hW => ⟨⟨0, ((fun _ => 0), (fun _ => (fun _ => 0)), (fun _ => (fun _ => 0)), (fun _ => 0), (fun _ => 0)), rfl, rfl, by rw [ht]; exact hP9, hD9⟩, hS.F ht⟩) hS.2.2 dX8_at_11
set_option maxHeartbeats 4000000 in
set_option maxRecDepth 100000 in
theorem cc_145_yX8_at (l : Launch) (D : va_G) (cB cC cI cJ : ClassId) (sz : Nat) (a0 a1 : Nat) : Met l yX8_at (.code yX8_at cX8_at 3 (some .int) :: lw_gd) ({ frames := 0, cells := 0, slots := 0, locals := 0 }) (gPre D [(cB, .byte), (cC, .char), (cI, .int), (cJ, .long)] [.ref a0, .int 3, .int 1] [(a0, .inr (8, [.ref a1])), (a1, .inl (cI, 30, .inl (fun _ => 0)))] sz) (va_Qi (fun r _ => r = 0) (gB D (va_A [(a0, .inr (8, [.ref a1])), (a1, .inl (cI, 30, .inl (fun _ => 0)))] sz) (fun u : gEx => [(a0, .inr (8, [.ref a1])), (a1, .inl (cI, 30, .inl (fun _ => 0)))])) (va_A [(a0, .inr (8, [.ref a1])), (a1, .inl (cI, 30, .inl (fun _ => 0)))] sz)) 0 0 (va_A [(a0, .inr (8, [.ref a1])), (a1, .inl (cI, 30, .inl (fun _ => 0)))] sz) := by
  refine Met.ofW (cc := cX8_at) (maxL := 3) (ret := (some .int)) (by decide) rfl ?_
  intro p e s m args below meth c s₁ B hml hv
  obtain ⟨rfl, hsz, hP, hK, hD0, hN⟩ := hv
  have hx := B.exec
  have hb := B.bytes
  have hr := B.returns
  have hts : ∀ w ∈ lw_gd, w.before _ s = true := fun w h => atoms_spec (ws := .code yX8_at cX8_at 3 (some .int) :: lw_gd) B.pre w (List.mem_cons_of_mem _ h)
  have hown : s.vm.findClass RX8 = some m.cls := findClass_of_methodNamed B.named
  have hlocks := B.notSynchronized
  subst hsz
  have hD := hD0.self (sz := s.heap.size)
  generalize hAe : va_A [(a0, .inr (8, [.ref a1])), (a1, .inl (cI, 30, .inl (fun _ => 0)))] s.heap.size = A at hD ⊢
  have hA : ∀ q : Nat, s.heap.size ≤ q → A q := fun q h => by rw [← hAe]; exact Or.inr h
  have hS : va_S A s.heap s.heap [] := va_S.rf
  have hP : va_P D gcl [(a0, .inr (8, [.ref a1])), (a1, .inl (cI, 30, .inl (fun _ => 0)))] s.heap := hP
  have hl := lv_entry ([.ref a0, .int 3, .int 1]) (n := 3) (Nat.le_of_ble_eq_true rfl)
  rw [lg_entry_eq]
  generalize (lg_sl ([.ref a0, .int 3, .int 1]) ++ List.replicate (3 - (lg_sl ([.ref a0, .int 3, .int 1])).length) Slot.unset).toArray = ls at hl ⊢
  have hl : lv_has ls 3 [(0, .ref a0), (1, .int 3), (2, .int 1)] := hl
  refine lv_aload_n (pc := 0) hx hb dX8_at_0 rfl (lv_at hl 0 rfl) ?_
  refine va_get (pc := 1) (ci := 8) (v := .ref a1) (C := RX8) (T := TX8) (N := 1) hx hb hts iX8 hown hK hP 0 rfl rfl 0 (by decide) (hts _ tw_62) (fun _ h9 => h9) rfl dX8_at_1 ?_
  refine lv_iload_n (pc := 4) hx hb dX8_at_4 rfl (lv_at hl 2 rfl) ?_
  refine lv_bipush (pc := 5) (v := 6) hx hb dX8_at_5 (by decide) ?_
  refine lv_imul (pc := 7) hx hb dX8_at_7 ?_
  refine gI (y := 6) (by decide +kernel) ?_
  refine lv_iload_n (pc := 8) hx hb dX8_at_8 rfl (lv_at hl 1 rfl) ?_
  refine lv_iadd (pc := 9) hx hb dX8_at_9 ?_
  refine gI (y := 9) (by decide +kernel) ?_
  refine va_iald (pc := 10) hx hb hK hP 1 2 rfl rfl (gin rfl) dX8_at_10 ?_
  refine gI (y := 0) rfl ?_
  have hP9 := hP.sub (ws' := [(a0, .inr (8, [.ref a1])), (a1, .inl (cI, 30, .inl (fun _ => 0)))]) [0, 1] rfl
  have hD9 := hD.sub (ws' := [(a0, .inr (8, [.ref a1])), (a1, .inl (cI, 30, .inl (fun _ => 0)))]) [0, 1] (by decide) rfl
  refine W.widen (k := 0) (n := 0) (Nat.le_of_ble_eq_true rfl) (Nat.le_of_ble_eq_true rfl) ?_
  exact W.iret (v := 0) hx hb hr (fun t ht hW => ⟨⟨0, ((fun _ => 0), (fun _ => (fun _ => 0)), (fun _ => (fun _ => 0)), (fun _ => 0), (fun _ => 0)), rfl, rfl, by rw [ht]; exact hP9, hD9⟩, hS.F ht⟩) hS.2.2 dX8_at_11
set_option maxHeartbeats 4000000 in
set_option maxRecDepth 100000 in
theorem cc_146_yX8_at (l : Launch) (D : va_G) (cB cC cI cJ : ClassId) (sz : Nat) (a0 a1 : Nat) : Met l yX8_at (.code yX8_at cX8_at 3 (some .int) :: lw_gd) ({ frames := 0, cells := 0, slots := 0, locals := 0 }) (gPre D [(cB, .byte), (cC, .char), (cI, .int), (cJ, .long)] [.ref a0, .int 4, .int 1] [(a0, .inr (8, [.ref a1])), (a1, .inl (cI, 30, .inl (fun _ => 0)))] sz) (va_Qi (fun r _ => r = 0) (gB D (va_A [(a0, .inr (8, [.ref a1])), (a1, .inl (cI, 30, .inl (fun _ => 0)))] sz) (fun u : gEx => [(a0, .inr (8, [.ref a1])), (a1, .inl (cI, 30, .inl (fun _ => 0)))])) (va_A [(a0, .inr (8, [.ref a1])), (a1, .inl (cI, 30, .inl (fun _ => 0)))] sz)) 0 0 (va_A [(a0, .inr (8, [.ref a1])), (a1, .inl (cI, 30, .inl (fun _ => 0)))] sz) := by
  refine Met.ofW (cc := cX8_at) (maxL := 3) (ret := (some .int)) (by decide) rfl ?_
  intro p e s m args below meth c s₁ B hml hv
  obtain ⟨rfl, hsz, hP, hK, hD0, hN⟩ := hv
  have hx := B.exec
  have hb := B.bytes
  have hr := B.returns
  have hts : ∀ w ∈ lw_gd, w.before _ s = true := fun w h => atoms_spec (ws := .code yX8_at cX8_at 3 (some .int) :: lw_gd) B.pre w (List.mem_cons_of_mem _ h)
  have hown : s.vm.findClass RX8 = some m.cls := findClass_of_methodNamed B.named
  have hlocks := B.notSynchronized
  subst hsz
  have hD := hD0.self (sz := s.heap.size)
  generalize hAe : va_A [(a0, .inr (8, [.ref a1])), (a1, .inl (cI, 30, .inl (fun _ => 0)))] s.heap.size = A at hD ⊢
  have hA : ∀ q : Nat, s.heap.size ≤ q → A q := fun q h => by rw [← hAe]; exact Or.inr h
  have hS : va_S A s.heap s.heap [] := va_S.rf
  have hP : va_P D gcl [(a0, .inr (8, [.ref a1])), (a1, .inl (cI, 30, .inl (fun _ => 0)))] s.heap := hP
  have hl := lv_entry ([.ref a0, .int 4, .int 1]) (n := 3) (Nat.le_of_ble_eq_true rfl)
  rw [lg_entry_eq]
  generalize (lg_sl ([.ref a0, .int 4, .int 1]) ++ List.replicate (3 - (lg_sl ([.ref a0, .int 4, .int 1])).length) Slot.unset).toArray = ls at hl ⊢
  have hl : lv_has ls 3 [(0, .ref a0), (1, .int 4), (2, .int 1)] := hl
  refine lv_aload_n (pc := 0) hx hb dX8_at_0 rfl (lv_at hl 0 rfl) ?_
  refine va_get (pc := 1) (ci := 8) (v := .ref a1) (C := RX8) (T := TX8) (N := 1) hx hb hts iX8 hown hK hP 0 rfl rfl 0 (by decide) (hts _ tw_62) (fun _ h9 => h9) rfl dX8_at_1 ?_
  refine lv_iload_n (pc := 4) hx hb dX8_at_4 rfl (lv_at hl 2 rfl) ?_
  refine lv_bipush (pc := 5) (v := 6) hx hb dX8_at_5 (by decide) ?_
  refine lv_imul (pc := 7) hx hb dX8_at_7 ?_
  refine gI (y := 6) (by decide +kernel) ?_
  refine lv_iload_n (pc := 8) hx hb dX8_at_8 rfl (lv_at hl 1 rfl) ?_
  refine lv_iadd (pc := 9) hx hb dX8_at_9 ?_
  refine gI (y := 10) (by decide +kernel) ?_
  refine va_iald (pc := 10) hx hb hK hP 1 2 rfl rfl (gin rfl) dX8_at_10 ?_
  refine gI (y := 0) rfl ?_
  have hP9 := hP.sub (ws' := [(a0, .inr (8, [.ref a1])), (a1, .inl (cI, 30, .inl (fun _ => 0)))]) [0, 1] rfl
  have hD9 := hD.sub (ws' := [(a0, .inr (8, [.ref a1])), (a1, .inl (cI, 30, .inl (fun _ => 0)))]) [0, 1] (by decide) rfl
  refine W.widen (k := 0) (n := 0) (Nat.le_of_ble_eq_true rfl) (Nat.le_of_ble_eq_true rfl) ?_
  exact W.iret (v := 0) hx hb hr (fun t ht hW => ⟨⟨0, ((fun _ => 0), (fun _ => (fun _ => 0)), (fun _ => (fun _ => 0)), (fun _ => 0), (fun _ => 0)), rfl, rfl, by rw [ht]; exact hP9, hD9⟩, hS.F ht⟩) hS.2.2 dX8_at_11
set_option maxHeartbeats 4000000 in
set_option maxRecDepth 100000 in
theorem cc_147_yX8_at (l : Launch) (D : va_G) (cB cC cI cJ : ClassId) (sz : Nat) (a0 a1 : Nat) : Met l yX8_at (.code yX8_at cX8_at 3 (some .int) :: lw_gd) ({ frames := 0, cells := 0, slots := 0, locals := 0 }) (gPre D [(cB, .byte), (cC, .char), (cI, .int), (cJ, .long)] [.ref a0, .int 5, .int 1] [(a0, .inr (8, [.ref a1])), (a1, .inl (cI, 30, .inl (fun _ => 0)))] sz) (va_Qi (fun r _ => r = 0) (gB D (va_A [(a0, .inr (8, [.ref a1])), (a1, .inl (cI, 30, .inl (fun _ => 0)))] sz) (fun u : gEx => [(a0, .inr (8, [.ref a1])), (a1, .inl (cI, 30, .inl (fun _ => 0)))])) (va_A [(a0, .inr (8, [.ref a1])), (a1, .inl (cI, 30, .inl (fun _ => 0)))] sz)) 0 0 (va_A [(a0, .inr (8, [.ref a1])), (a1, .inl (cI, 30, .inl (fun _ => 0)))] sz) := by
  refine Met.ofW (cc := cX8_at) (maxL := 3) (ret := (some .int)) (by decide) rfl ?_
  intro p e s m args below meth c s₁ B hml hv
  obtain ⟨rfl, hsz, hP, hK, hD0, hN⟩ := hv
  have hx := B.exec
  have hb := B.bytes
  have hr := B.returns
  have hts : ∀ w ∈ lw_gd, w.before _ s = true := fun w h => atoms_spec (ws := .code yX8_at cX8_at 3 (some .int) :: lw_gd) B.pre w (List.mem_cons_of_mem _ h)
  have hown : s.vm.findClass RX8 = some m.cls := findClass_of_methodNamed B.named
  have hlocks := B.notSynchronized
  subst hsz
  have hD := hD0.self (sz := s.heap.size)
  generalize hAe : va_A [(a0, .inr (8, [.ref a1])), (a1, .inl (cI, 30, .inl (fun _ => 0)))] s.heap.size = A at hD ⊢
  have hA : ∀ q : Nat, s.heap.size ≤ q → A q := fun q h => by rw [← hAe]; exact Or.inr h
  have hS : va_S A s.heap s.heap [] := va_S.rf
  have hP : va_P D gcl [(a0, .inr (8, [.ref a1])), (a1, .inl (cI, 30, .inl (fun _ => 0)))] s.heap := hP
  have hl := lv_entry ([.ref a0, .int 5, .int 1]) (n := 3) (Nat.le_of_ble_eq_true rfl)
  rw [lg_entry_eq]
  generalize (lg_sl ([.ref a0, .int 5, .int 1]) ++ List.replicate (3 - (lg_sl ([.ref a0, .int 5, .int 1])).length) Slot.unset).toArray = ls at hl ⊢
  have hl : lv_has ls 3 [(0, .ref a0), (1, .int 5), (2, .int 1)] := hl
  refine lv_aload_n (pc := 0) hx hb dX8_at_0 rfl (lv_at hl 0 rfl) ?_
  refine va_get (pc := 1) (ci := 8) (v := .ref a1) (C := RX8) (T := TX8) (N := 1) hx hb hts iX8 hown hK hP 0 rfl rfl 0 (by decide) (hts _ tw_62) (fun _ h9 => h9) rfl dX8_at_1 ?_
  refine lv_iload_n (pc := 4) hx hb dX8_at_4 rfl (lv_at hl 2 rfl) ?_
  refine lv_bipush (pc := 5) (v := 6) hx hb dX8_at_5 (by decide) ?_
  refine lv_imul (pc := 7) hx hb dX8_at_7 ?_
  refine gI (y := 6) (by decide +kernel) ?_
  refine lv_iload_n (pc := 8) hx hb dX8_at_8 rfl (lv_at hl 1 rfl) ?_
  refine lv_iadd (pc := 9) hx hb dX8_at_9 ?_
  refine gI (y := 11) (by decide +kernel) ?_
  refine va_iald (pc := 10) hx hb hK hP 1 2 rfl rfl (gin rfl) dX8_at_10 ?_
  refine gI (y := 0) rfl ?_
  have hP9 := hP.sub (ws' := [(a0, .inr (8, [.ref a1])), (a1, .inl (cI, 30, .inl (fun _ => 0)))]) [0, 1] rfl
  have hD9 := hD.sub (ws' := [(a0, .inr (8, [.ref a1])), (a1, .inl (cI, 30, .inl (fun _ => 0)))]) [0, 1] (by decide) rfl
  refine W.widen (k := 0) (n := 0) (Nat.le_of_ble_eq_true rfl) (Nat.le_of_ble_eq_true rfl) ?_
  exact W.iret (v := 0) hx hb hr (fun t ht hW => ⟨⟨0, ((fun _ => 0), (fun _ => (fun _ => 0)), (fun _ => (fun _ => 0)), (fun _ => 0), (fun _ => 0)), rfl, rfl, by rw [ht]; exact hP9, hD9⟩, hS.F ht⟩) hS.2.2 dX8_at_11
set_option maxHeartbeats 4000000 in
set_option maxRecDepth 100000 in
theorem cc_148_yX8_productOf (l : Launch) (D : va_G) (cB cC cI cJ : ClassId) (sz : Nat) (a0 a1 : Nat) : Met l yX8_productOf (.code yX8_productOf cX8_productOf 5 (some .int) :: lw_gd) ({ frames := 1, cells := 0, slots := 0, locals := 22 }) (gPre D [(cB, .byte), (cC, .char), (cI, .int), (cJ, .long)] [.ref a0, .int 1, .int 1] [(a0, .inr (8, [.ref a1])), (a1, .inl (cI, 30, .inl (fun _ => 0)))] sz) (va_Qi (fun r _ => r = 0) (gB D (va_A [(a0, .inr (8, [.ref a1])), (a1, .inl (cI, 30, .inl (fun _ => 0)))] sz) (fun u : gEx => [(a0, .inr (8, [.ref a1])), (a1, .inl (cI, 30, .inl (fun _ => 0)))])) (va_A [(a0, .inr (8, [.ref a1])), (a1, .inl (cI, 30, .inl (fun _ => 0)))] sz)) 0 0 (va_A [(a0, .inr (8, [.ref a1])), (a1, .inl (cI, 30, .inl (fun _ => 0)))] sz) := by
  refine Met.ofW (cc := cX8_productOf) (maxL := 5) (ret := (some .int)) (by decide) rfl ?_
  intro p e s m args below meth c s₁ B hml hv
  obtain ⟨rfl, hsz, hP, hK, hD0, hN⟩ := hv
  have hx := B.exec
  have hb := B.bytes
  have hr := B.returns
  have hts : ∀ w ∈ lw_gd, w.before _ s = true := fun w h => atoms_spec (ws := .code yX8_productOf cX8_productOf 5 (some .int) :: lw_gd) B.pre w (List.mem_cons_of_mem _ h)
  have hown : s.vm.findClass RX8 = some m.cls := findClass_of_methodNamed B.named
  have hlocks := B.notSynchronized
  subst hsz
  have hD := hD0.self (sz := s.heap.size)
  generalize hAe : va_A [(a0, .inr (8, [.ref a1])), (a1, .inl (cI, 30, .inl (fun _ => 0)))] s.heap.size = A at hD ⊢
  have hA : ∀ q : Nat, s.heap.size ≤ q → A q := fun q h => by rw [← hAe]; exact Or.inr h
  have hS : va_S A s.heap s.heap [] := va_S.rf
  have hP : va_P D gcl [(a0, .inr (8, [.ref a1])), (a1, .inl (cI, 30, .inl (fun _ => 0)))] s.heap := hP
  have hl := lv_entry ([.ref a0, .int 1, .int 1]) (n := 5) (Nat.le_of_ble_eq_true rfl)
  rw [lg_entry_eq]
  generalize (lg_sl ([.ref a0, .int 1, .int 1]) ++ List.replicate (5 - (lg_sl ([.ref a0, .int 1, .int 1])).length) Slot.unset).toArray = ls at hl ⊢
  have hl : lv_has ls 5 [(0, .ref a0), (1, .int 1), (2, .int 1)] := hl
  refine lv_iconst (pc := 0) (v := 0) hx hb dX8_productOf_0 (by decide) ?_
  refine lv_istore_n (pc := 1) (lv' := [(3, .int 0), (0, .ref a0), (1, .int 1), (2, .int 1)]) hx hb dX8_productOf_1 rfl hl (by decide) rfl (fun ls hl => ?_)
  refine lv_iconst (pc := 2) (v := 0) hx hb dX8_productOf_2 (by decide) ?_
  refine lv_istore (pc := 3) (lv' := [(4, .int 0), (3, .int 0), (0, .ref a0), (1, .int 1), (2, .int 1)]) hx hb dX8_productOf_3 hl (by decide) rfl (fun ls hl => ?_)
  refine lv_iload (pc := 5) hx hb dX8_productOf_5 (lv_at hl 0 rfl) ?_
  refine lv_bipush (pc := 7) (v := 6) hx hb dX8_productOf_7 (by decide) ?_
  refine lv_icmp_ge (pc := 9) (tgt := 36) hx hb dX8_productOf_9 (by decide) (fun c => absurd c (by decide +kernel)) (fun _ => ?_)
  refine lv_iload_n (pc := 12) hx hb dX8_productOf_12 rfl (lv_at hl 1 rfl) ?_
  refine lv_aload_n (pc := 13) hx hb dX8_productOf_13 rfl (lv_at hl 2 rfl) ?_
  refine lv_iload (pc := 14) hx hb dX8_productOf_14 (lv_at hl 0 rfl) ?_
  refine lv_iload_n (pc := 16) hx hb dX8_productOf_16 rfl (lv_at hl 3 rfl) ?_
  refine gc_i (pc := 17) (wc := [(a0, .inr (8, [.ref a1])), (a1, .inl (cI, 30, .inl (fun _ => 0)))]) (wr := []) hP hD hS hA [0, 1] [] rfl rfl (by decide) (by decide) (by decide) (fun hPc hDc => va_runV (As := [.int 0, .int 1]) (rest := [.int 0]) ⟨hx, hb, hml, hown, hts⟩ (cc_142_yX8_at l D cB cC cI cJ _ a0 a1) ⟨gcwB hts tw_791 tw_5 tw_800 hd_yX8_at ⟨Nat.le_of_ble_eq_true rfl, Nat.le_of_ble_eq_true rfl⟩, hts _ tw_789, hts _ tw_790⟩ ⟨gblind, va_recv hK hPc (ci := 8) (q0 := 0) rfl rfl, (gpreS hPc hK hDc hN).2⟩ rfl rfl hl.1 rfl (lv_room (Nat.le_of_ble_eq_true rfl)) dX8_productOf_17 ⟨Nat.le_of_ble_eq_true rfl, Nat.le_of_ble_eq_true rfl⟩) (fun r_2 u_1 H locs hw_3 hP hD hS => ?_)
  have hP : va_P D gcl [(a0, .inr (8, [.ref a1])), (a1, .inl (cI, 30, .inl (fun _ => 0)))] H := hP
  have hD : va_D A [(a0, .inr (8, [.ref a1])), (a1, .inl (cI, 30, .inl (fun _ => 0)))] := hD
  subst hw_3
  refine lv_aload_n (pc := 20) hx hb dX8_productOf_20 rfl (lv_at hl 2 rfl) ?_
  refine lv_iload (pc := 21) hx hb dX8_productOf_21 (lv_at hl 0 rfl) ?_
  refine lv_iload_n (pc := 23) hx hb dX8_productOf_23 rfl (lv_at hl 4 rfl) ?_
  refine gc_i (pc := 24) (wc := [(a0, .inr (8, [.ref a1])), (a1, .inl (cI, 30, .inl (fun _ => 0)))]) (wr := []) hP hD hS hA [0, 1] [] rfl rfl (by decide) (by decide) (by decide) (fun hPc hDc => va_runV (As := [.int 0, .int 1]) (rest := [.int 0, .int 0]) ⟨hx, hb, hml, hown, hts⟩ (cc_142_yX8_at l D cB cC cI cJ _ a0 a1) ⟨gcwB hts tw_791 tw_5 tw_800 hd_yX8_at ⟨Nat.le_of_ble_eq_true rfl, Nat.le_of_ble_eq_true rfl⟩, hts _ tw_789, hts _ tw_790⟩ ⟨gblind, va_recv hK hPc (ci := 8) (q0 := 0) rfl rfl, (gpreS hPc hK hDc hN).2⟩ rfl rfl hl.1 rfl (lv_room (Nat.le_of_ble_eq_true rfl)) dX8_productOf_24 ⟨Nat.le_of_ble_eq_true rfl, Nat.le_of_ble_eq_true rfl⟩) (fun r_5 u_4 H locs hw_6 hP hD hS => ?_)
  have hP : va_P D gcl [(a0, .inr (8, [.ref a1])), (a1, .inl (cI, 30, .inl (fun _ => 0)))] H := hP
  have hD : va_D A [(a0, .inr (8, [.ref a1])), (a1, .inl (cI, 30, .inl (fun _ => 0)))] := hD
  subst hw_6
  refine lv_imul (pc := 27) hx hb dX8_productOf_27 ?_
  refine gI (y := 0) (by decide +kernel) ?_
  refine lv_iadd (pc := 28) hx hb dX8_productOf_28 ?_
  refine gI (y := 0) (by decide +kernel) ?_
  refine lv_istore_n (pc := 29) (lv' := [(3, .int 0), (4, .int 0), (0, .ref a0), (1, .int 1), (2, .int 1)]) hx hb dX8_productOf_29 rfl hl (by decide) rfl (fun ls hl => ?_)
  refine lv_iinc (pc := 30) (v := 1) (lv' := [(4, .int 1), (3, .int 0), (0, .ref a0), (1, .int 1), (2, .int 1)]) hx hb dX8_productOf_30 hl (k := 1) rfl (by decide +kernel) (by decide) rfl (fun ls hl => ?_)
  refine lv_goto (pc := 33) (tgt := 5) hx hb dX8_productOf_33 (by decide) ?_
  refine lv_iload (pc := 5) hx hb dX8_productOf_5 (lv_at hl 0 rfl) ?_
  refine lv_bipush (pc := 7) (v := 6) hx hb dX8_productOf_7 (by decide) ?_
  refine lv_icmp_ge (pc := 9) (tgt := 36) hx hb dX8_productOf_9 (by decide) (fun c => absurd c (by decide +kernel)) (fun _ => ?_)
  refine lv_iload_n (pc := 12) hx hb dX8_productOf_12 rfl (lv_at hl 1 rfl) ?_
  refine lv_aload_n (pc := 13) hx hb dX8_productOf_13 rfl (lv_at hl 2 rfl) ?_
  refine lv_iload (pc := 14) hx hb dX8_productOf_14 (lv_at hl 0 rfl) ?_
  refine lv_iload_n (pc := 16) hx hb dX8_productOf_16 rfl (lv_at hl 3 rfl) ?_
  refine gc_i (pc := 17) (wc := [(a0, .inr (8, [.ref a1])), (a1, .inl (cI, 30, .inl (fun _ => 0)))]) (wr := []) hP hD hS hA [0, 1] [] rfl rfl (by decide) (by decide) (by decide) (fun hPc hDc => va_runV (As := [.int 1, .int 1]) (rest := [.int 0]) ⟨hx, hb, hml, hown, hts⟩ (cc_143_yX8_at l D cB cC cI cJ _ a0 a1) ⟨gcwB hts tw_791 tw_5 tw_800 hd_yX8_at ⟨Nat.le_of_ble_eq_true rfl, Nat.le_of_ble_eq_true rfl⟩, hts _ tw_789, hts _ tw_790⟩ ⟨gblind, va_recv hK hPc (ci := 8) (q0 := 0) rfl rfl, (gpreS hPc hK hDc hN).2⟩ rfl rfl hl.1 rfl (lv_room (Nat.le_of_ble_eq_true rfl)) dX8_productOf_17 ⟨Nat.le_of_ble_eq_true rfl, Nat.le_of_ble_eq_true rfl⟩) (fun r_8 u_7 H locs hw_9 hP hD hS => ?_)
  have hP : va_P D gcl [(a0, .inr (8, [.ref a1])), (a1, .inl (cI, 30, .inl (fun _ => 0)))] H := hP
  have hD : va_D A [(a0, .inr (8, [.ref a1])), (a1, .inl (cI, 30, .inl (fun _ => 0)))] := hD
  subst hw_9
  refine lv_aload_n (pc := 20) hx hb dX8_productOf_20 rfl (lv_at hl 2 rfl) ?_
  refine lv_iload (pc := 21) hx hb dX8_productOf_21 (lv_at hl 0 rfl) ?_
  refine lv_iload_n (pc := 23) hx hb dX8_productOf_23 rfl (lv_at hl 4 rfl) ?_
  refine gc_i (pc := 24) (wc := [(a0, .inr (8, [.ref a1])), (a1, .inl (cI, 30, .inl (fun _ => 0)))]) (wr := []) hP hD hS hA [0, 1] [] rfl rfl (by decide) (by decide) (by decide) (fun hPc hDc => va_runV (As := [.int 1, .int 1]) (rest := [.int 0, .int 0]) ⟨hx, hb, hml, hown, hts⟩ (cc_143_yX8_at l D cB cC cI cJ _ a0 a1) ⟨gcwB hts tw_791 tw_5 tw_800 hd_yX8_at ⟨Nat.le_of_ble_eq_true rfl, Nat.le_of_ble_eq_true rfl⟩, hts _ tw_789, hts _ tw_790⟩ ⟨gblind, va_recv hK hPc (ci := 8) (q0 := 0) rfl rfl, (gpreS hPc hK hDc hN).2⟩ rfl rfl hl.1 rfl (lv_room (Nat.le_of_ble_eq_true rfl)) dX8_productOf_24 ⟨Nat.le_of_ble_eq_true rfl, Nat.le_of_ble_eq_true rfl⟩) (fun r_11 u_10 H locs hw_12 hP hD hS => ?_)
  have hP : va_P D gcl [(a0, .inr (8, [.ref a1])), (a1, .inl (cI, 30, .inl (fun _ => 0)))] H := hP
  have hD : va_D A [(a0, .inr (8, [.ref a1])), (a1, .inl (cI, 30, .inl (fun _ => 0)))] := hD
  subst hw_12
  refine lv_imul (pc := 27) hx hb dX8_productOf_27 ?_
  refine gI (y := 0) (by decide +kernel) ?_
  refine lv_iadd (pc := 28) hx hb dX8_productOf_28 ?_
  refine gI (y := 0) (by decide +kernel) ?_
  refine lv_istore_n (pc := 29) (lv' := [(3, .int 0), (4, .int 1), (0, .ref a0), (1, .int 1), (2, .int 1)]) hx hb dX8_productOf_29 rfl hl (by decide) rfl (fun ls hl => ?_)
  refine lv_iinc (pc := 30) (v := 2) (lv' := [(4, .int 2), (3, .int 0), (0, .ref a0), (1, .int 1), (2, .int 1)]) hx hb dX8_productOf_30 hl (k := 1) rfl (by decide +kernel) (by decide) rfl (fun ls hl => ?_)
  refine lv_goto (pc := 33) (tgt := 5) hx hb dX8_productOf_33 (by decide) ?_
  refine lv_iload (pc := 5) hx hb dX8_productOf_5 (lv_at hl 0 rfl) ?_
  refine lv_bipush (pc := 7) (v := 6) hx hb dX8_productOf_7 (by decide) ?_
  refine lv_icmp_ge (pc := 9) (tgt := 36) hx hb dX8_productOf_9 (by decide) (fun c => absurd c (by decide +kernel)) (fun _ => ?_)
  refine lv_iload_n (pc := 12) hx hb dX8_productOf_12 rfl (lv_at hl 1 rfl) ?_
  refine lv_aload_n (pc := 13) hx hb dX8_productOf_13 rfl (lv_at hl 2 rfl) ?_
  refine lv_iload (pc := 14) hx hb dX8_productOf_14 (lv_at hl 0 rfl) ?_
  refine lv_iload_n (pc := 16) hx hb dX8_productOf_16 rfl (lv_at hl 3 rfl) ?_
  refine gc_i (pc := 17) (wc := [(a0, .inr (8, [.ref a1])), (a1, .inl (cI, 30, .inl (fun _ => 0)))]) (wr := []) hP hD hS hA [0, 1] [] rfl rfl (by decide) (by decide) (by decide) (fun hPc hDc => va_runV (As := [.int 2, .int 1]) (rest := [.int 0]) ⟨hx, hb, hml, hown, hts⟩ (cc_144_yX8_at l D cB cC cI cJ _ a0 a1) ⟨gcwB hts tw_791 tw_5 tw_800 hd_yX8_at ⟨Nat.le_of_ble_eq_true rfl, Nat.le_of_ble_eq_true rfl⟩, hts _ tw_789, hts _ tw_790⟩ ⟨gblind, va_recv hK hPc (ci := 8) (q0 := 0) rfl rfl, (gpreS hPc hK hDc hN).2⟩ rfl rfl hl.1 rfl (lv_room (Nat.le_of_ble_eq_true rfl)) dX8_productOf_17 ⟨Nat.le_of_ble_eq_true rfl, Nat.le_of_ble_eq_true rfl⟩) (fun r_14 u_13 H locs hw_15 hP hD hS => ?_)
  have hP : va_P D gcl [(a0, .inr (8, [.ref a1])), (a1, .inl (cI, 30, .inl (fun _ => 0)))] H := hP
  have hD : va_D A [(a0, .inr (8, [.ref a1])), (a1, .inl (cI, 30, .inl (fun _ => 0)))] := hD
  subst hw_15
  refine lv_aload_n (pc := 20) hx hb dX8_productOf_20 rfl (lv_at hl 2 rfl) ?_
  refine lv_iload (pc := 21) hx hb dX8_productOf_21 (lv_at hl 0 rfl) ?_
  refine lv_iload_n (pc := 23) hx hb dX8_productOf_23 rfl (lv_at hl 4 rfl) ?_
  refine gc_i (pc := 24) (wc := [(a0, .inr (8, [.ref a1])), (a1, .inl (cI, 30, .inl (fun _ => 0)))]) (wr := []) hP hD hS hA [0, 1] [] rfl rfl (by decide) (by decide) (by decide) (fun hPc hDc => va_runV (As := [.int 2, .int 1]) (rest := [.int 0, .int 0]) ⟨hx, hb, hml, hown, hts⟩ (cc_144_yX8_at l D cB cC cI cJ _ a0 a1) ⟨gcwB hts tw_791 tw_5 tw_800 hd_yX8_at ⟨Nat.le_of_ble_eq_true rfl, Nat.le_of_ble_eq_true rfl⟩, hts _ tw_789, hts _ tw_790⟩ ⟨gblind, va_recv hK hPc (ci := 8) (q0 := 0) rfl rfl, (gpreS hPc hK hDc hN).2⟩ rfl rfl hl.1 rfl (lv_room (Nat.le_of_ble_eq_true rfl)) dX8_productOf_24 ⟨Nat.le_of_ble_eq_true rfl, Nat.le_of_ble_eq_true rfl⟩) (fun r_17 u_16 H locs hw_18 hP hD hS => ?_)
  have hP : va_P D gcl [(a0, .inr (8, [.ref a1])), (a1, .inl (cI, 30, .inl (fun _ => 0)))] H := hP
  have hD : va_D A [(a0, .inr (8, [.ref a1])), (a1, .inl (cI, 30, .inl (fun _ => 0)))] := hD
  subst hw_18
  refine lv_imul (pc := 27) hx hb dX8_productOf_27 ?_
  refine gI (y := 0) (by decide +kernel) ?_
  refine lv_iadd (pc := 28) hx hb dX8_productOf_28 ?_
  refine gI (y := 0) (by decide +kernel) ?_
  refine lv_istore_n (pc := 29) (lv' := [(3, .int 0), (4, .int 2), (0, .ref a0), (1, .int 1), (2, .int 1)]) hx hb dX8_productOf_29 rfl hl (by decide) rfl (fun ls hl => ?_)
  refine lv_iinc (pc := 30) (v := 3) (lv' := [(4, .int 3), (3, .int 0), (0, .ref a0), (1, .int 1), (2, .int 1)]) hx hb dX8_productOf_30 hl (k := 1) rfl (by decide +kernel) (by decide) rfl (fun ls hl => ?_)
  refine lv_goto (pc := 33) (tgt := 5) hx hb dX8_productOf_33 (by decide) ?_
  refine lv_iload (pc := 5) hx hb dX8_productOf_5 (lv_at hl 0 rfl) ?_
  refine lv_bipush (pc := 7) (v := 6) hx hb dX8_productOf_7 (by decide) ?_
  refine lv_icmp_ge (pc := 9) (tgt := 36) hx hb dX8_productOf_9 (by decide) (fun c => absurd c (by decide +kernel)) (fun _ => ?_)
  refine lv_iload_n (pc := 12) hx hb dX8_productOf_12 rfl (lv_at hl 1 rfl) ?_
  refine lv_aload_n (pc := 13) hx hb dX8_productOf_13 rfl (lv_at hl 2 rfl) ?_
  refine lv_iload (pc := 14) hx hb dX8_productOf_14 (lv_at hl 0 rfl) ?_
  refine lv_iload_n (pc := 16) hx hb dX8_productOf_16 rfl (lv_at hl 3 rfl) ?_
  refine gc_i (pc := 17) (wc := [(a0, .inr (8, [.ref a1])), (a1, .inl (cI, 30, .inl (fun _ => 0)))]) (wr := []) hP hD hS hA [0, 1] [] rfl rfl (by decide) (by decide) (by decide) (fun hPc hDc => va_runV (As := [.int 3, .int 1]) (rest := [.int 0]) ⟨hx, hb, hml, hown, hts⟩ (cc_145_yX8_at l D cB cC cI cJ _ a0 a1) ⟨gcwB hts tw_791 tw_5 tw_800 hd_yX8_at ⟨Nat.le_of_ble_eq_true rfl, Nat.le_of_ble_eq_true rfl⟩, hts _ tw_789, hts _ tw_790⟩ ⟨gblind, va_recv hK hPc (ci := 8) (q0 := 0) rfl rfl, (gpreS hPc hK hDc hN).2⟩ rfl rfl hl.1 rfl (lv_room (Nat.le_of_ble_eq_true rfl)) dX8_productOf_17 ⟨Nat.le_of_ble_eq_true rfl, Nat.le_of_ble_eq_true rfl⟩) (fun r_20 u_19 H locs hw_21 hP hD hS => ?_)
  have hP : va_P D gcl [(a0, .inr (8, [.ref a1])), (a1, .inl (cI, 30, .inl (fun _ => 0)))] H := hP
  have hD : va_D A [(a0, .inr (8, [.ref a1])), (a1, .inl (cI, 30, .inl (fun _ => 0)))] := hD
  subst hw_21
  refine lv_aload_n (pc := 20) hx hb dX8_productOf_20 rfl (lv_at hl 2 rfl) ?_
  refine lv_iload (pc := 21) hx hb dX8_productOf_21 (lv_at hl 0 rfl) ?_
  refine lv_iload_n (pc := 23) hx hb dX8_productOf_23 rfl (lv_at hl 4 rfl) ?_
  refine gc_i (pc := 24) (wc := [(a0, .inr (8, [.ref a1])), (a1, .inl (cI, 30, .inl (fun _ => 0)))]) (wr := []) hP hD hS hA [0, 1] [] rfl rfl (by decide) (by decide) (by decide) (fun hPc hDc => va_runV (As := [.int 3, .int 1]) (rest := [.int 0, .int 0]) ⟨hx, hb, hml, hown, hts⟩ (cc_145_yX8_at l D cB cC cI cJ _ a0 a1) ⟨gcwB hts tw_791 tw_5 tw_800 hd_yX8_at ⟨Nat.le_of_ble_eq_true rfl, Nat.le_of_ble_eq_true rfl⟩, hts _ tw_789, hts _ tw_790⟩ ⟨gblind, va_recv hK hPc (ci := 8) (q0 := 0) rfl rfl, (gpreS hPc hK hDc hN).2⟩ rfl rfl hl.1 rfl (lv_room (Nat.le_of_ble_eq_true rfl)) dX8_productOf_24 ⟨Nat.le_of_ble_eq_true rfl, Nat.le_of_ble_eq_true rfl⟩) (fun r_23 u_22 H locs hw_24 hP hD hS => ?_)
  have hP : va_P D gcl [(a0, .inr (8, [.ref a1])), (a1, .inl (cI, 30, .inl (fun _ => 0)))] H := hP
  have hD : va_D A [(a0, .inr (8, [.ref a1])), (a1, .inl (cI, 30, .inl (fun _ => 0)))] := hD
  subst hw_24
  refine lv_imul (pc := 27) hx hb dX8_productOf_27 ?_
  refine gI (y := 0) (by decide +kernel) ?_
  refine lv_iadd (pc := 28) hx hb dX8_productOf_28 ?_
  refine gI (y := 0) (by decide +kernel) ?_
  refine lv_istore_n (pc := 29) (lv' := [(3, .int 0), (4, .int 3), (0, .ref a0), (1, .int 1), (2, .int 1)]) hx hb dX8_productOf_29 rfl hl (by decide) rfl (fun ls hl => ?_)
  refine lv_iinc (pc := 30) (v := 4) (lv' := [(4, .int 4), (3, .int 0), (0, .ref a0), (1, .int 1), (2, .int 1)]) hx hb dX8_productOf_30 hl (k := 1) rfl (by decide +kernel) (by decide) rfl (fun ls hl => ?_)
  refine lv_goto (pc := 33) (tgt := 5) hx hb dX8_productOf_33 (by decide) ?_
  refine lv_iload (pc := 5) hx hb dX8_productOf_5 (lv_at hl 0 rfl) ?_
  refine lv_bipush (pc := 7) (v := 6) hx hb dX8_productOf_7 (by decide) ?_
  refine lv_icmp_ge (pc := 9) (tgt := 36) hx hb dX8_productOf_9 (by decide) (fun c => absurd c (by decide +kernel)) (fun _ => ?_)
  refine lv_iload_n (pc := 12) hx hb dX8_productOf_12 rfl (lv_at hl 1 rfl) ?_
  refine lv_aload_n (pc := 13) hx hb dX8_productOf_13 rfl (lv_at hl 2 rfl) ?_
  refine lv_iload (pc := 14) hx hb dX8_productOf_14 (lv_at hl 0 rfl) ?_
  refine lv_iload_n (pc := 16) hx hb dX8_productOf_16 rfl (lv_at hl 3 rfl) ?_
  refine gc_i (pc := 17) (wc := [(a0, .inr (8, [.ref a1])), (a1, .inl (cI, 30, .inl (fun _ => 0)))]) (wr := []) hP hD hS hA [0, 1] [] rfl rfl (by decide) (by decide) (by decide) (fun hPc hDc => va_runV (As := [.int 4, .int 1]) (rest := [.int 0]) ⟨hx, hb, hml, hown, hts⟩ (cc_146_yX8_at l D cB cC cI cJ _ a0 a1) ⟨gcwB hts tw_791 tw_5 tw_800 hd_yX8_at ⟨Nat.le_of_ble_eq_true rfl, Nat.le_of_ble_eq_true rfl⟩, hts _ tw_789, hts _ tw_790⟩ ⟨gblind, va_recv hK hPc (ci := 8) (q0 := 0) rfl rfl, (gpreS hPc hK hDc hN).2⟩ rfl rfl hl.1 rfl (lv_room (Nat.le_of_ble_eq_true rfl)) dX8_productOf_17 ⟨Nat.le_of_ble_eq_true rfl, Nat.le_of_ble_eq_true rfl⟩) (fun r_26 u_25 H locs hw_27 hP hD hS => ?_)
  have hP : va_P D gcl [(a0, .inr (8, [.ref a1])), (a1, .inl (cI, 30, .inl (fun _ => 0)))] H := hP
  have hD : va_D A [(a0, .inr (8, [.ref a1])), (a1, .inl (cI, 30, .inl (fun _ => 0)))] := hD
  subst hw_27
  refine lv_aload_n (pc := 20) hx hb dX8_productOf_20 rfl (lv_at hl 2 rfl) ?_
  refine lv_iload (pc := 21) hx hb dX8_productOf_21 (lv_at hl 0 rfl) ?_
  refine lv_iload_n (pc := 23) hx hb dX8_productOf_23 rfl (lv_at hl 4 rfl) ?_
  refine gc_i (pc := 24) (wc := [(a0, .inr (8, [.ref a1])), (a1, .inl (cI, 30, .inl (fun _ => 0)))]) (wr := []) hP hD hS hA [0, 1] [] rfl rfl (by decide) (by decide) (by decide) (fun hPc hDc => va_runV (As := [.int 4, .int 1]) (rest := [.int 0, .int 0]) ⟨hx, hb, hml, hown, hts⟩ (cc_146_yX8_at l D cB cC cI cJ _ a0 a1) ⟨gcwB hts tw_791 tw_5 tw_800 hd_yX8_at ⟨Nat.le_of_ble_eq_true rfl, Nat.le_of_ble_eq_true rfl⟩, hts _ tw_789, hts _ tw_790⟩ ⟨gblind, va_recv hK hPc (ci := 8) (q0 := 0) rfl rfl, (gpreS hPc hK hDc hN).2⟩ rfl rfl hl.1 rfl (lv_room (Nat.le_of_ble_eq_true rfl)) dX8_productOf_24 ⟨Nat.le_of_ble_eq_true rfl, Nat.le_of_ble_eq_true rfl⟩) (fun r_29 u_28 H locs hw_30 hP hD hS => ?_)
  have hP : va_P D gcl [(a0, .inr (8, [.ref a1])), (a1, .inl (cI, 30, .inl (fun _ => 0)))] H := hP
  have hD : va_D A [(a0, .inr (8, [.ref a1])), (a1, .inl (cI, 30, .inl (fun _ => 0)))] := hD
  subst hw_30
  refine lv_imul (pc := 27) hx hb dX8_productOf_27 ?_
  refine gI (y := 0) (by decide +kernel) ?_
  refine lv_iadd (pc := 28) hx hb dX8_productOf_28 ?_
  refine gI (y := 0) (by decide +kernel) ?_
  refine lv_istore_n (pc := 29) (lv' := [(3, .int 0), (4, .int 4), (0, .ref a0), (1, .int 1), (2, .int 1)]) hx hb dX8_productOf_29 rfl hl (by decide) rfl (fun ls hl => ?_)
  refine lv_iinc (pc := 30) (v := 5) (lv' := [(4, .int 5), (3, .int 0), (0, .ref a0), (1, .int 1), (2, .int 1)]) hx hb dX8_productOf_30 hl (k := 1) rfl (by decide +kernel) (by decide) rfl (fun ls hl => ?_)
  refine lv_goto (pc := 33) (tgt := 5) hx hb dX8_productOf_33 (by decide) ?_
  refine lv_iload (pc := 5) hx hb dX8_productOf_5 (lv_at hl 0 rfl) ?_
  refine lv_bipush (pc := 7) (v := 6) hx hb dX8_productOf_7 (by decide) ?_
  refine lv_icmp_ge (pc := 9) (tgt := 36) hx hb dX8_productOf_9 (by decide) (fun c => absurd c (by decide +kernel)) (fun _ => ?_)
  refine lv_iload_n (pc := 12) hx hb dX8_productOf_12 rfl (lv_at hl 1 rfl) ?_
  refine lv_aload_n (pc := 13) hx hb dX8_productOf_13 rfl (lv_at hl 2 rfl) ?_
  refine lv_iload (pc := 14) hx hb dX8_productOf_14 (lv_at hl 0 rfl) ?_
  refine lv_iload_n (pc := 16) hx hb dX8_productOf_16 rfl (lv_at hl 3 rfl) ?_
  refine gc_i (pc := 17) (wc := [(a0, .inr (8, [.ref a1])), (a1, .inl (cI, 30, .inl (fun _ => 0)))]) (wr := []) hP hD hS hA [0, 1] [] rfl rfl (by decide) (by decide) (by decide) (fun hPc hDc => va_runV (As := [.int 5, .int 1]) (rest := [.int 0]) ⟨hx, hb, hml, hown, hts⟩ (cc_147_yX8_at l D cB cC cI cJ _ a0 a1) ⟨gcwB hts tw_791 tw_5 tw_800 hd_yX8_at ⟨Nat.le_of_ble_eq_true rfl, Nat.le_of_ble_eq_true rfl⟩, hts _ tw_789, hts _ tw_790⟩ ⟨gblind, va_recv hK hPc (ci := 8) (q0 := 0) rfl rfl, (gpreS hPc hK hDc hN).2⟩ rfl rfl hl.1 rfl (lv_room (Nat.le_of_ble_eq_true rfl)) dX8_productOf_17 ⟨Nat.le_of_ble_eq_true rfl, Nat.le_of_ble_eq_true rfl⟩) (fun r_32 u_31 H locs hw_33 hP hD hS => ?_)
  have hP : va_P D gcl [(a0, .inr (8, [.ref a1])), (a1, .inl (cI, 30, .inl (fun _ => 0)))] H := hP
  have hD : va_D A [(a0, .inr (8, [.ref a1])), (a1, .inl (cI, 30, .inl (fun _ => 0)))] := hD
  subst hw_33
  refine lv_aload_n (pc := 20) hx hb dX8_productOf_20 rfl (lv_at hl 2 rfl) ?_
  refine lv_iload (pc := 21) hx hb dX8_productOf_21 (lv_at hl 0 rfl) ?_
  refine lv_iload_n (pc := 23) hx hb dX8_productOf_23 rfl (lv_at hl 4 rfl) ?_
  refine gc_i (pc := 24) (wc := [(a0, .inr (8, [.ref a1])), (a1, .inl (cI, 30, .inl (fun _ => 0)))]) (wr := []) hP hD hS hA [0, 1] [] rfl rfl (by decide) (by decide) (by decide) (fun hPc hDc => va_runV (As := [.int 5, .int 1]) (rest := [.int 0, .int 0]) ⟨hx, hb, hml, hown, hts⟩ (cc_147_yX8_at l D cB cC cI cJ _ a0 a1) ⟨gcwB hts tw_791 tw_5 tw_800 hd_yX8_at ⟨Nat.le_of_ble_eq_true rfl, Nat.le_of_ble_eq_true rfl⟩, hts _ tw_789, hts _ tw_790⟩ ⟨gblind, va_recv hK hPc (ci := 8) (q0 := 0) rfl rfl, (gpreS hPc hK hDc hN).2⟩ rfl rfl hl.1 rfl (lv_room (Nat.le_of_ble_eq_true rfl)) dX8_productOf_24 ⟨Nat.le_of_ble_eq_true rfl, Nat.le_of_ble_eq_true rfl⟩) (fun r_35 u_34 H locs hw_36 hP hD hS => ?_)
  have hP : va_P D gcl [(a0, .inr (8, [.ref a1])), (a1, .inl (cI, 30, .inl (fun _ => 0)))] H := hP
  have hD : va_D A [(a0, .inr (8, [.ref a1])), (a1, .inl (cI, 30, .inl (fun _ => 0)))] := hD
  subst hw_36
  refine lv_imul (pc := 27) hx hb dX8_productOf_27 ?_
  refine gI (y := 0) (by decide +kernel) ?_
  refine lv_iadd (pc := 28) hx hb dX8_productOf_28 ?_
  refine gI (y := 0) (by decide +kernel) ?_
  refine lv_istore_n (pc := 29) (lv' := [(3, .int 0), (4, .int 5), (0, .ref a0), (1, .int 1), (2, .int 1)]) hx hb dX8_productOf_29 rfl hl (by decide) rfl (fun ls hl => ?_)
  refine lv_iinc (pc := 30) (v := 6) (lv' := [(4, .int 6), (3, .int 0), (0, .ref a0), (1, .int 1), (2, .int 1)]) hx hb dX8_productOf_30 hl (k := 1) rfl (by decide +kernel) (by decide) rfl (fun ls hl => ?_)
  refine lv_goto (pc := 33) (tgt := 5) hx hb dX8_productOf_33 (by decide) ?_
  refine lv_iload (pc := 5) hx hb dX8_productOf_5 (lv_at hl 0 rfl) ?_
  refine lv_bipush (pc := 7) (v := 6) hx hb dX8_productOf_7 (by decide) ?_
  refine lv_icmp_ge (pc := 9) (tgt := 36) hx hb dX8_productOf_9 (by decide) (fun _ => ?_) (fun c => absurd (by decide +kernel) c)
  refine lv_iload_n (pc := 36) hx hb dX8_productOf_36 rfl (lv_at hl 1 rfl) ?_
  have hP9 := hP.sub (ws' := [(a0, .inr (8, [.ref a1])), (a1, .inl (cI, 30, .inl (fun _ => 0)))]) [0, 1] rfl
  have hD9 := hD.sub (ws' := [(a0, .inr (8, [.ref a1])), (a1, .inl (cI, 30, .inl (fun _ => 0)))]) [0, 1] (by decide) rfl
  refine W.widen (k := 0) (n := 0) (Nat.le_of_ble_eq_true rfl) (Nat.le_of_ble_eq_true rfl) ?_
  exact W.iret (v := 0) hx hb hr (fun t ht hW => ⟨⟨0, ((fun _ => 0), (fun _ => (fun _ => 0)), (fun _ => (fun _ => 0)), (fun _ => 0), (fun _ => 0)), rfl, rfl, by rw [ht]; exact hP9, hD9⟩, hS.F ht⟩) hS.2.2 dX8_productOf_37
