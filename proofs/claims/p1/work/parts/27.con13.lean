set_option maxHeartbeats 4000000 in
set_option maxRecDepth 100000 in
theorem cc_189_yX12_word (l : Launch) (D : va_G) (cB cC cI cJ : ClassId) (sz : Nat) (a0 a1 a2 a3 a4 a5 a6 a7 a8 a9 a10 a11 a12 a13 a14 a15 a16 a17 a18 a19 a20 a21 a22 a23 a24 a25 a26 a27 a28 a29 a30 a31 a32 a33 a34 a35 a36 a37 a38 a39 a40 a41 a42 a43 : Nat) (x0 x1 : Int32) : Met l yX12_word (.code yX12_word cX12_word 3 (some .int) :: lw_gd) ({ frames := 1, cells := 0, slots := 0, locals := 25 }) (gPre D [(cB, .byte), (cC, .char), (cI, .int), (cJ, .long)] [.ref a0, .int x0, .int x1] [(a0, .inr (12, [.ref a1, .int 0, .int 0, .int 0, .int 0, .int 0, .int 0, .int 0, .int (-1), .ref a2, .ref a3, .ref a4, .ref a5, .ref a6, .ref a7, .ref a8, .ref a9, .ref a10, .ref a11, .ref a12, .ref a13, .ref a14, .ref a15, .ref a16, .int 0, .int 0, .int 0, .int 0, .int 0, .int 9999, .ref a17, .ref a18, .ref a19, .int 0, .ref a20, .int 0, .ref a21, .int 0, .int 0, .ref a22, .ref a23, .ref a24, .ref a25, .int 0, .ref a26, .int 0, .ref a27, .ref a28, .ref a29, .long 0, .ref a30, .ref a31, .ref a32, .ref a33, .ref a34, .ref a35, .ref a36, .ref a37, .ref a38, .int 0, .int 0, .int 0, .long 0, .ref a39, .int 0, .ref a40, .ref a41, .ref a42, .ref a43, .int 0, .int 0, .int 0, .int 0]))] sz) (va_Qi (fun r _ => r = (-1000000000)) (gB D (va_A [(a0, .inr (12, [.ref a1, .int 0, .int 0, .int 0, .int 0, .int 0, .int 0, .int 0, .int (-1), .ref a2, .ref a3, .ref a4, .ref a5, .ref a6, .ref a7, .ref a8, .ref a9, .ref a10, .ref a11, .ref a12, .ref a13, .ref a14, .ref a15, .ref a16, .int 0, .int 0, .int 0, .int 0, .int 0, .int 9999, .ref a17, .ref a18, .ref a19, .int 0, .ref a20, .int 0, .ref a21, .int 0, .int 0, .ref a22, .ref a23, .ref a24, .ref a25, .int 0, .ref a26, .int 0, .ref a27, .ref a28, .ref a29, .long 0, .ref a30, .ref a31, .ref a32, .ref a33, .ref a34, .ref a35, .ref a36, .ref a37, .ref a38, .int 0, .int 0, .int 0, .long 0, .ref a39, .int 0, .ref a40, .ref a41, .ref a42, .ref a43, .int 0, .int 0, .int 0, .int 0]))] sz) (fun u : gEx => [])) (va_A [(a0, .inr (12, [.ref a1, .int 0, .int 0, .int 0, .int 0, .int 0, .int 0, .int 0, .int (-1), .ref a2, .ref a3, .ref a4, .ref a5, .ref a6, .ref a7, .ref a8, .ref a9, .ref a10, .ref a11, .ref a12, .ref a13, .ref a14, .ref a15, .ref a16, .int 0, .int 0, .int 0, .int 0, .int 0, .int 9999, .ref a17, .ref a18, .ref a19, .int 0, .ref a20, .int 0, .ref a21, .int 0, .int 0, .ref a22, .ref a23, .ref a24, .ref a25, .int 0, .ref a26, .int 0, .ref a27, .ref a28, .ref a29, .long 0, .ref a30, .ref a31, .ref a32, .ref a33, .ref a34, .ref a35, .ref a36, .ref a37, .ref a38, .int 0, .int 0, .int 0, .long 0, .ref a39, .int 0, .ref a40, .ref a41, .ref a42, .ref a43, .int 0, .int 0, .int 0, .int 0]))] sz)) 0 0 (va_A [(a0, .inr (12, [.ref a1, .int 0, .int 0, .int 0, .int 0, .int 0, .int 0, .int 0, .int (-1), .ref a2, .ref a3, .ref a4, .ref a5, .ref a6, .ref a7, .ref a8, .ref a9, .ref a10, .ref a11, .ref a12, .ref a13, .ref a14, .ref a15, .ref a16, .int 0, .int 0, .int 0, .int 0, .int 0, .int 9999, .ref a17, .ref a18, .ref a19, .int 0, .ref a20, .int 0, .ref a21, .int 0, .int 0, .ref a22, .ref a23, .ref a24, .ref a25, .int 0, .ref a26, .int 0, .ref a27, .ref a28, .ref a29, .long 0, .ref a30, .ref a31, .ref a32, .ref a33, .ref a34, .ref a35, .ref a36, .ref a37, .ref a38, .int 0, .int 0, .int 0, .long 0, .ref a39, .int 0, .ref a40, .ref a41, .ref a42, .ref a43, .int 0, .int 0, .int 0, .int 0]))] sz) := by
  refine Met.ofW (cc := cX12_word) (maxL := 3) (ret := (some .int)) (by decide) rfl ?_
  intro p e s m args below meth c s₁ B hml hv
  obtain ⟨rfl, hsz, hP, hK, hD0, hN⟩ := hv
  have hx := B.exec
  have hb := B.bytes
  have hr := B.returns
  have hts : ∀ w ∈ lw_gd, w.before _ s = true := fun w h => atoms_spec (ws := .code yX12_word cX12_word 3 (some .int) :: lw_gd) B.pre w (List.mem_cons_of_mem _ h)
  have hown : s.vm.findClass RX12 = some m.cls := findClass_of_methodNamed B.named
  have hlocks := B.notSynchronized
  subst hsz
  have hD := hD0.self (sz := s.heap.size)
  generalize hAe : va_A [(a0, .inr (12, [.ref a1, .int 0, .int 0, .int 0, .int 0, .int 0, .int 0, .int 0, .int (-1), .ref a2, .ref a3, .ref a4, .ref a5, .ref a6, .ref a7, .ref a8, .ref a9, .ref a10, .ref a11, .ref a12, .ref a13, .ref a14, .ref a15, .ref a16, .int 0, .int 0, .int 0, .int 0, .int 0, .int 9999, .ref a17, .ref a18, .ref a19, .int 0, .ref a20, .int 0, .ref a21, .int 0, .int 0, .ref a22, .ref a23, .ref a24, .ref a25, .int 0, .ref a26, .int 0, .ref a27, .ref a28, .ref a29, .long 0, .ref a30, .ref a31, .ref a32, .ref a33, .ref a34, .ref a35, .ref a36, .ref a37, .ref a38, .int 0, .int 0, .int 0, .long 0, .ref a39, .int 0, .ref a40, .ref a41, .ref a42, .ref a43, .int 0, .int 0, .int 0, .int 0]))] s.heap.size = A at hD ⊢
  have hA : ∀ q : Nat, s.heap.size ≤ q → A q := fun q h => by rw [← hAe]; exact Or.inr h
  have hS : va_S A s.heap s.heap [] := va_S.rf
  have hP : va_P D gcl [(a0, .inr (12, [.ref a1, .int 0, .int 0, .int 0, .int 0, .int 0, .int 0, .int 0, .int (-1), .ref a2, .ref a3, .ref a4, .ref a5, .ref a6, .ref a7, .ref a8, .ref a9, .ref a10, .ref a11, .ref a12, .ref a13, .ref a14, .ref a15, .ref a16, .int 0, .int 0, .int 0, .int 0, .int 0, .int 9999, .ref a17, .ref a18, .ref a19, .int 0, .ref a20, .int 0, .ref a21, .int 0, .int 0, .ref a22, .ref a23, .ref a24, .ref a25, .int 0, .ref a26, .int 0, .ref a27, .ref a28, .ref a29, .long 0, .ref a30, .ref a31, .ref a32, .ref a33, .ref a34, .ref a35, .ref a36, .ref a37, .ref a38, .int 0, .int 0, .int 0, .long 0, .ref a39, .int 0, .ref a40, .ref a41, .ref a42, .ref a43, .int 0, .int 0, .int 0, .int 0]))] s.heap := hP
  have hl := lv_entry ([.ref a0, .int x0, .int x1]) (n := 3) (Nat.le_of_ble_eq_true rfl)
  rw [lg_entry_eq]
  generalize (lg_sl ([.ref a0, .int x0, .int x1]) ++ List.replicate (3 - (lg_sl ([.ref a0, .int x0, .int x1])).length) Slot.unset).toArray = ls at hl ⊢
  have hl : lv_has ls 3 [(0, .ref a0), (1, .int x0), (2, .int x1)] := hl
  refine lv_iload_n (pc := 0) hx hb dX12_word_0 rfl (lv_at hl 1 rfl) ?_
  refine lv_i2l (pc := 1) (v := (x0.toInt64)) hx hb dX12_word_1 rfl ?_
  refine lv_lconst (pc := 2) (v := 0) hx hb dX12_word_2 (by decide) ?_
  refine lv_aload_n (pc := 3) hx hb dX12_word_3 rfl (lv_at hl 0 rfl) ?_
  refine va_get (pc := 4) (ci := 12) (v := .int 0) (C := RX12) (T := TX12) (N := 73) hx hb hts iX12 hown hK hP 0 rfl rfl 28 (by decide) (hts _ tw_1429) (fun _ h9 => h9) rfl dX12_word_4 ?_
  refine lv_iconst (pc := 7) (v := 1) hx hb dX12_word_7 (by decide) ?_
  refine lv_isub (pc := 8) hx hb dX12_word_8 ?_
  refine gI (y := (-1)) (by decide +kernel) ?_
  refine lv_i2l (pc := 9) (v := (-1)) hx hb dX12_word_9 (by decide +kernel) ?_
  refine gc_i (pc := 10) (wc := []) (wr := [(a0, .inr (12, [.ref a1, .int 0, .int 0, .int 0, .int 0, .int 0, .int 0, .int 0, .int (-1), .ref a2, .ref a3, .ref a4, .ref a5, .ref a6, .ref a7, .ref a8, .ref a9, .ref a10, .ref a11, .ref a12, .ref a13, .ref a14, .ref a15, .ref a16, .int 0, .int 0, .int 0, .int 0, .int 0, .int 9999, .ref a17, .ref a18, .ref a19, .int 0, .ref a20, .int 0, .ref a21, .int 0, .int 0, .ref a22, .ref a23, .ref a24, .ref a25, .int 0, .ref a26, .int 0, .ref a27, .ref a28, .ref a29, .long 0, .ref a30, .ref a31, .ref a32, .ref a33, .ref a34, .ref a35, .ref a36, .ref a37, .ref a38, .int 0, .int 0, .int 0, .long 0, .ref a39, .int 0, .ref a40, .ref a41, .ref a42, .ref a43, .int 0, .int 0, .int 0, .int 0]))]) hP hD hS hA [] [0] rfl rfl (by decide) (by decide) (by decide) (fun hPc hDc => va_runS (As := [.long (x0.toInt64), .long 0, .long (-1)]) (rest := []) ⟨hx, hb, hml, hown, hts⟩ (cc_56_yX12_isIn l D cB cC cI cJ _ (x0.toInt64)) ⟨gcwB hts tw_1666 tw_14 tw_1664 hd_yX12_isIn ⟨Nat.le_of_ble_eq_true rfl, Nat.le_of_ble_eq_true rfl⟩, hts _ tw_1665⟩ (gpreS hPc hK hDc hN) rfl rfl hl.1 rfl (lv_room (Nat.le_of_ble_eq_true rfl)) dX12_word_10 ⟨Nat.le_of_ble_eq_true rfl, Nat.le_of_ble_eq_true rfl⟩) (fun r_2 u_1 H locs hw_3 hP hD hS => ?_)
  have hP : va_P D gcl [(a0, .inr (12, [.ref a1, .int 0, .int 0, .int 0, .int 0, .int 0, .int 0, .int 0, .int (-1), .ref a2, .ref a3, .ref a4, .ref a5, .ref a6, .ref a7, .ref a8, .ref a9, .ref a10, .ref a11, .ref a12, .ref a13, .ref a14, .ref a15, .ref a16, .int 0, .int 0, .int 0, .int 0, .int 0, .int 9999, .ref a17, .ref a18, .ref a19, .int 0, .ref a20, .int 0, .ref a21, .int 0, .int 0, .ref a22, .ref a23, .ref a24, .ref a25, .int 0, .ref a26, .int 0, .ref a27, .ref a28, .ref a29, .long 0, .ref a30, .ref a31, .ref a32, .ref a33, .ref a34, .ref a35, .ref a36, .ref a37, .ref a38, .int 0, .int 0, .int 0, .long 0, .ref a39, .int 0, .ref a40, .ref a41, .ref a42, .ref a43, .int 0, .int 0, .int 0, .int 0]))] H := hP
  have hD : va_D A [(a0, .inr (12, [.ref a1, .int 0, .int 0, .int 0, .int 0, .int 0, .int 0, .int 0, .int (-1), .ref a2, .ref a3, .ref a4, .ref a5, .ref a6, .ref a7, .ref a8, .ref a9, .ref a10, .ref a11, .ref a12, .ref a13, .ref a14, .ref a15, .ref a16, .int 0, .int 0, .int 0, .int 0, .int 0, .int 9999, .ref a17, .ref a18, .ref a19, .int 0, .ref a20, .int 0, .ref a21, .int 0, .int 0, .ref a22, .ref a23, .ref a24, .ref a25, .int 0, .ref a26, .int 0, .ref a27, .ref a28, .ref a29, .long 0, .ref a30, .ref a31, .ref a32, .ref a33, .ref a34, .ref a35, .ref a36, .ref a37, .ref a38, .int 0, .int 0, .int 0, .long 0, .ref a39, .int 0, .ref a40, .ref a41, .ref a42, .ref a43, .int 0, .int 0, .int 0, .int 0]))] := hD
  subst hw_3
  refine lv_if_eq (pc := 13) (tgt := 37) hx hb dX12_word_13 (by decide) (fun _ => ?_) (fun c => absurd (by decide +kernel) c)
  refine lv_ldcw (pc := 37) hx hb hown (hts _ tw_1783) dX12_word_37 ?_
  have hP9 := hP.sub (ws' := []) [] rfl
  have hD9 := hD.sub (ws' := []) [] (by decide) rfl
  refine W.widen (k := 0) (n := 0) (Nat.le_of_ble_eq_true rfl) (Nat.le_of_ble_eq_true rfl) ?_
  exact W.iret (v := (-1000000000)) hx hb hr (fun t ht hW => ⟨⟨(-1000000000), ((fun _ => 0), (fun _ => (fun _ => 0)), (fun _ => (fun _ => 0)), (fun _ => 0), (fun _ => 0)), rfl, rfl, by rw [ht]; exact hP9, hD9⟩, hS.F ht⟩) hS.2.2 dX12_word_40
set_option maxHeartbeats 4000000 in
set_option maxRecDepth 100000 in
theorem cc_190_yX11_code (l : Launch) (D : va_G) (cB cC cI cJ : ClassId) (sz : Nat) (a0 a1 a2 a3 a4 a5 a6 a7 a8 a9 a10 a11 a12 a13 a14 a15 a16 : Nat) (x0 : Int32) : Met l yX11_code (.code yX11_code cX11_code 2 (some .long) :: lw_gd) ({ frames := 0, cells := 0, slots := 0, locals := 0 }) (gPre D [(cB, .byte), (cC, .char), (cI, .int), (cJ, .long)] [.ref a0, .int x0] [(a0, .inr (11, [.ref a1, .ref a2, .ref a3, .ref a4, .ref a5, .ref a6, .ref a7, .ref a8, .ref a9, .ref a10, .int 0, .ref a11, .ref a12, .ref a13])), (a11, .inr (1, [.ref a14, .ref a15, .ref a16, .int 0, .int 0, .int 0, .int 0, .int 0, .int 9999, .int 0]))] sz) (va_Ql (fun r _ => r = (-1)) (gB D (va_A [(a0, .inr (11, [.ref a1, .ref a2, .ref a3, .ref a4, .ref a5, .ref a6, .ref a7, .ref a8, .ref a9, .ref a10, .int 0, .ref a11, .ref a12, .ref a13])), (a11, .inr (1, [.ref a14, .ref a15, .ref a16, .int 0, .int 0, .int 0, .int 0, .int 0, .int 9999, .int 0]))] sz) (fun u : gEx => [])) (va_A [(a0, .inr (11, [.ref a1, .ref a2, .ref a3, .ref a4, .ref a5, .ref a6, .ref a7, .ref a8, .ref a9, .ref a10, .int 0, .ref a11, .ref a12, .ref a13])), (a11, .inr (1, [.ref a14, .ref a15, .ref a16, .int 0, .int 0, .int 0, .int 0, .int 0, .int 9999, .int 0]))] sz)) 0 0 (va_A [(a0, .inr (11, [.ref a1, .ref a2, .ref a3, .ref a4, .ref a5, .ref a6, .ref a7, .ref a8, .ref a9, .ref a10, .int 0, .ref a11, .ref a12, .ref a13])), (a11, .inr (1, [.ref a14, .ref a15, .ref a16, .int 0, .int 0, .int 0, .int 0, .int 0, .int 9999, .int 0]))] sz) := by
  refine Met.ofW (cc := cX11_code) (maxL := 2) (ret := (some .long)) (by decide) rfl ?_
  intro p e s m args below meth c s₁ B hml hv
  obtain ⟨rfl, hsz, hP, hK, hD0, hN⟩ := hv
  have hx := B.exec
  have hb := B.bytes
  have hr := B.returns
  have hts : ∀ w ∈ lw_gd, w.before _ s = true := fun w h => atoms_spec (ws := .code yX11_code cX11_code 2 (some .long) :: lw_gd) B.pre w (List.mem_cons_of_mem _ h)
  have hown : s.vm.findClass RX11 = some m.cls := findClass_of_methodNamed B.named
  have hlocks := B.notSynchronized
  subst hsz
  have hD := hD0.self (sz := s.heap.size)
  generalize hAe : va_A [(a0, .inr (11, [.ref a1, .ref a2, .ref a3, .ref a4, .ref a5, .ref a6, .ref a7, .ref a8, .ref a9, .ref a10, .int 0, .ref a11, .ref a12, .ref a13])), (a11, .inr (1, [.ref a14, .ref a15, .ref a16, .int 0, .int 0, .int 0, .int 0, .int 0, .int 9999, .int 0]))] s.heap.size = A at hD ⊢
  have hA : ∀ q : Nat, s.heap.size ≤ q → A q := fun q h => by rw [← hAe]; exact Or.inr h
  have hS : va_S A s.heap s.heap [] := va_S.rf
  have hP : va_P D gcl [(a0, .inr (11, [.ref a1, .ref a2, .ref a3, .ref a4, .ref a5, .ref a6, .ref a7, .ref a8, .ref a9, .ref a10, .int 0, .ref a11, .ref a12, .ref a13])), (a11, .inr (1, [.ref a14, .ref a15, .ref a16, .int 0, .int 0, .int 0, .int 0, .int 0, .int 9999, .int 0]))] s.heap := hP
  have hl := lv_entry ([.ref a0, .int x0]) (n := 2) (Nat.le_of_ble_eq_true rfl)
  rw [lg_entry_eq]
  generalize (lg_sl ([.ref a0, .int x0]) ++ List.replicate (2 - (lg_sl ([.ref a0, .int x0])).length) Slot.unset).toArray = ls at hl ⊢
  have hl : lv_has ls 2 [(0, .ref a0), (1, .int x0)] := hl
  refine lv_iload_n (pc := 0) hx hb dX11_code_0 rfl (lv_at hl 1 rfl) ?_
  refine lv_iconst (pc := 1) (v := 3) hx hb dX11_code_1 (by decide) ?_
  refine lv_icmp_ne (pc := 2) (tgt := 30) hx hb dX11_code_2 (by decide) (fun c_1 => ?_) (fun c_1 => ?_)
  ·
    refine lv_iload_n (pc := 30) hx hb dX11_code_30 rfl (lv_at hl 1 rfl) ?_
    refine lv_if_lt (pc := 31) (tgt := 50) hx hb dX11_code_31 (by decide) (fun c_2 => ?_) (fun c_2 => ?_)
    ·
      refine lv_ldc2 (pc := 50) hx hb hown (hts _ tw_844) dX11_code_50 ?_
      have hP9 := hP.sub (ws' := []) [] rfl
      have hD9 := hD.sub (ws' := []) [] (by decide) rfl
      refine W.widen (k := 0) (n := 0) (Nat.le_of_ble_eq_true rfl) (Nat.le_of_ble_eq_true rfl) ?_
      exact W.lret (v := (-1)) hx hb hr (fun t ht hW => ⟨⟨(-1), ((fun _ => 0), (fun _ => (fun _ => 0)), (fun _ => (fun _ => 0)), (fun _ => 0), (fun _ => 0)), rfl, rfl, by rw [ht]; exact hP9, hD9⟩, hS.F ht⟩) hS.2.2 dX11_code_53
    ·
      refine lv_iload_n (pc := 34) hx hb dX11_code_34 rfl (lv_at hl 1 rfl) ?_
      refine lv_iconst (pc := 35) (v := 2) hx hb dX11_code_35 (by decide) ?_
      refine lv_icmp_gt (pc := 36) (tgt := 50) hx hb dX11_code_36 (by decide) (fun c_3 => ?_) (fun c_3 => ?_)
      ·
        refine lv_ldc2 (pc := 50) hx hb hown (hts _ tw_844) dX11_code_50 ?_
        have hP9 := hP.sub (ws' := []) [] rfl
        have hD9 := hD.sub (ws' := []) [] (by decide) rfl
        refine W.widen (k := 0) (n := 0) (Nat.le_of_ble_eq_true rfl) (Nat.le_of_ble_eq_true rfl) ?_
        exact W.lret (v := (-1)) hx hb hr (fun t ht hW => ⟨⟨(-1), ((fun _ => 0), (fun _ => (fun _ => 0)), (fun _ => (fun _ => 0)), (fun _ => 0), (fun _ => 0)), rfl, rfl, by rw [ht]; exact hP9, hD9⟩, hS.F ht⟩) hS.2.2 dX11_code_53
      ·
        refine lv_aload_n (pc := 39) hx hb dX11_code_39 rfl (lv_at hl 0 rfl) ?_
        refine va_get (pc := 40) (ci := 11) (v := .ref a11) (C := RX11) (T := TX11) (N := 14) hx hb hts iX11 hown hK hP 0 rfl rfl 11 (by decide) (hts _ tw_431) (fun _ h9 => h9) rfl dX11_code_40 ?_
        refine va_getN (pc := 43) (ci := 1) (v := .int 0) (C := RX1) (T := TX1) (N := 10) hx hb hts iX1 hown hK hP 1 rfl rfl 7 (by decide) (va_Nw.use rfl (hN _ tn_137)) (fun _ h9 => h9) rfl dX11_code_43 ?_
        refine lv_iconst (pc := 46) (v := 2) hx hb dX11_code_46 (by decide) ?_
        refine lv_icmp_ge (pc := 47) (tgt := 54) hx hb dX11_code_47 (by decide) (fun c => absurd c (by decide +kernel)) (fun _ => ?_)
        refine lv_ldc2 (pc := 50) hx hb hown (hts _ tw_844) dX11_code_50 ?_
        have hP9 := hP.sub (ws' := []) [] rfl
        have hD9 := hD.sub (ws' := []) [] (by decide) rfl
        refine W.widen (k := 0) (n := 0) (Nat.le_of_ble_eq_true rfl) (Nat.le_of_ble_eq_true rfl) ?_
        exact W.lret (v := (-1)) hx hb hr (fun t ht hW => ⟨⟨(-1), ((fun _ => 0), (fun _ => (fun _ => 0)), (fun _ => (fun _ => 0)), (fun _ => 0), (fun _ => 0)), rfl, rfl, by rw [ht]; exact hP9, hD9⟩, hS.F ht⟩) hS.2.2 dX11_code_53
  ·
    refine lv_aload_n (pc := 5) hx hb dX11_code_5 rfl (lv_at hl 0 rfl) ?_
    refine va_get (pc := 6) (ci := 11) (v := .ref a11) (C := RX11) (T := TX11) (N := 14) hx hb hts iX11 hown hK hP 0 rfl rfl 11 (by decide) (hts _ tw_431) (fun _ h9 => h9) rfl dX11_code_6 ?_
    refine va_getN (pc := 9) (ci := 1) (v := .int 0) (C := RX1) (T := TX1) (N := 10) hx hb hts iX1 hown hK hP 1 rfl rfl 7 (by decide) (va_Nw.use rfl (hN _ tn_137)) (fun _ h9 => h9) rfl dX11_code_9 ?_
    refine lv_if_ne (pc := 12) (tgt := 21) hx hb dX11_code_12 (by decide) (fun c => absurd (by decide +kernel) c) (fun _ => ?_)
    refine lv_ldc2 (pc := 15) hx hb hown (hts _ tw_844) dX11_code_15 ?_
    refine lv_goto (pc := 18) (tgt := 29) hx hb dX11_code_18 (by decide) ?_
    have hP9 := hP.sub (ws' := []) [] rfl
    have hD9 := hD.sub (ws' := []) [] (by decide) rfl
    refine W.widen (k := 0) (n := 0) (Nat.le_of_ble_eq_true rfl) (Nat.le_of_ble_eq_true rfl) ?_
    exact W.lret (v := (-1)) hx hb hr (fun t ht hW => ⟨⟨(-1), ((fun _ => 0), (fun _ => (fun _ => 0)), (fun _ => (fun _ => 0)), (fun _ => 0), (fun _ => 0)), rfl, rfl, by rw [ht]; exact hP9, hD9⟩, hS.F ht⟩) hS.2.2 dX11_code_29
set_option maxHeartbeats 4000000 in
set_option maxRecDepth 100000 in
theorem cc_191_yX12_isIn (l : Launch) (D : va_G) (cB cC cI cJ : ClassId) (sz : Nat) (y0 : Int64) : Met l yX12_isIn (.code yX12_isIn cX12_isIn 6 (some .boolean) :: lw_gd) ({ frames := 0, cells := 0, slots := 0, locals := 0 }) (gPre D [(cB, .byte), (cC, .char), (cI, .int), (cJ, .long)] [.long y0, .long 0, .long 3] [] sz) (va_Qi (fun r _ => r = (if y0 < 0 ∨ 3 < y0 then 0 else 1)) (gB D (va_A [] sz) (fun u : gEx => [])) (va_A [] sz)) 0 0 (va_A [] sz) := by
  refine Met.ofW (cc := cX12_isIn) (maxL := 6) (ret := (some .boolean)) (by decide) rfl ?_
  intro p e s m args below meth c s₁ B hml hv
  obtain ⟨rfl, hsz, hP, hK, hD0, hN⟩ := hv
  have hx := B.exec
  have hb := B.bytes
  have hr := B.returns
  have hts : ∀ w ∈ lw_gd, w.before _ s = true := fun w h => atoms_spec (ws := .code yX12_isIn cX12_isIn 6 (some .boolean) :: lw_gd) B.pre w (List.mem_cons_of_mem _ h)
  have hown : s.vm.findClass RX12 = some m.cls := findClass_of_methodNamed B.named
  have hlocks := B.notSynchronized
  subst hsz
  have hD := hD0.self (sz := s.heap.size)
  generalize hAe : va_A [] s.heap.size = A at hD ⊢
  have hA : ∀ q : Nat, s.heap.size ≤ q → A q := fun q h => by rw [← hAe]; exact Or.inr h
  have hS : va_S A s.heap s.heap [] := va_S.rf
  have hP : va_P D gcl [] s.heap := hP
  have hl := lv_entry ([.long y0, .long 0, .long 3]) (n := 6) (Nat.le_of_ble_eq_true rfl)
  rw [lg_entry_eq]
  generalize (lg_sl ([.long y0, .long 0, .long 3]) ++ List.replicate (6 - (lg_sl ([.long y0, .long 0, .long 3])).length) Slot.unset).toArray = ls at hl ⊢
  have hl : lv_has ls 6 [(0, .long y0), (2, .long 0), (4, .long 3)] := hl
  refine lv_lload_n (pc := 0) hx hb dX12_isIn_0 rfl (lv_at hl 0 rfl) ?_
  refine lv_lload_n (pc := 1) hx hb dX12_isIn_1 rfl (lv_at hl 1 rfl) ?_
  refine W.lcmp hx hb dX12_isIn_2 ?_
  refine lv_if_lt (pc := 3) (tgt := 17) hx hb dX12_isIn_3 (by decide) (fun c_1 => ?_) (fun c_1 => ?_)
  ·
    refine lv_iconst (pc := 17) (v := 0) hx hb dX12_isIn_17 (by decide) ?_
    have hP9 := hP.sub (ws' := []) [] rfl
    have hD9 := hD.sub (ws' := []) [] (by decide) rfl
    refine W.widen (k := 0) (n := 0) (Nat.le_of_ble_eq_true rfl) (Nat.le_of_ble_eq_true rfl) ?_
    exact W.zret (v := 0) hx hb hr (by decide +kernel) (fun t ht hW => ⟨⟨0, ((fun _ => 0), (fun _ => (fun _ => 0)), (fun _ => (fun _ => 0)), (fun _ => 0), (fun _ => 0)), rfl, (by show (_ : Int32) = _; first | rfl | decide +kernel | (split <;> rename_i hh <;> first | rfl | (exfalso; have z0 : (0 : Int32).toInt = 0 := (by decide +kernel); have z1 : (1 : Int32).toInt = 1 := (by decide +kernel); have z2 : (9 : Int32).toInt = 9 := (by decide +kernel); have z3 : (100 : Int32).toInt = 100 := (by decide +kernel); have z4 : (0 : Int64).toInt = 0 := (by decide +kernel); have z5 : (3 : Int64).toInt = 3 := (by decide +kernel); (try simp only [lg_cmp_ge, lg_cmp_le, lg_cmp_gt, lg_cmp_lt, lg_cmp_eq] at c_1); simp only [q_lt, q_le, q_eq, q_lt64, q_le64, q_eq64, q_wide, z0, z1, z2, z3, z4, z5] at c_1 hh; omega))), by rw [ht]; exact hP9, hD9⟩, hS.F ht⟩) hS.2.2 dX12_isIn_18
  ·
    refine lv_lload_n (pc := 6) hx hb dX12_isIn_6 rfl (lv_at hl 0 rfl) ?_
    refine lv_lload (pc := 7) hx hb dX12_isIn_7 (lv_at hl 2 rfl) ?_
    refine W.lcmp hx hb dX12_isIn_9 ?_
    refine lv_if_gt (pc := 10) (tgt := 17) hx hb dX12_isIn_10 (by decide) (fun c_2 => ?_) (fun c_2 => ?_)
    ·
      refine lv_iconst (pc := 17) (v := 0) hx hb dX12_isIn_17 (by decide) ?_
      have hP9 := hP.sub (ws' := []) [] rfl
      have hD9 := hD.sub (ws' := []) [] (by decide) rfl
      refine W.widen (k := 0) (n := 0) (Nat.le_of_ble_eq_true rfl) (Nat.le_of_ble_eq_true rfl) ?_
      exact W.zret (v := 0) hx hb hr (by decide +kernel) (fun t ht hW => ⟨⟨0, ((fun _ => 0), (fun _ => (fun _ => 0)), (fun _ => (fun _ => 0)), (fun _ => 0), (fun _ => 0)), rfl, (by show (_ : Int32) = _; first | rfl | decide +kernel | (split <;> rename_i hh <;> first | rfl | (exfalso; have z0 : (0 : Int32).toInt = 0 := (by decide +kernel); have z1 : (1 : Int32).toInt = 1 := (by decide +kernel); have z2 : (9 : Int32).toInt = 9 := (by decide +kernel); have z3 : (100 : Int32).toInt = 100 := (by decide +kernel); have z4 : (0 : Int64).toInt = 0 := (by decide +kernel); have z5 : (3 : Int64).toInt = 3 := (by decide +kernel); (try simp only [lg_cmp_ge, lg_cmp_le, lg_cmp_gt, lg_cmp_lt, lg_cmp_eq] at c_1 c_2); simp only [q_lt, q_le, q_eq, q_lt64, q_le64, q_eq64, q_wide, z0, z1, z2, z3, z4, z5] at c_1 c_2 hh; omega))), by rw [ht]; exact hP9, hD9⟩, hS.F ht⟩) hS.2.2 dX12_isIn_18
    ·
      refine lv_iconst (pc := 13) (v := 1) hx hb dX12_isIn_13 (by decide) ?_
      refine lv_goto (pc := 14) (tgt := 18) hx hb dX12_isIn_14 (by decide) ?_
      have hP9 := hP.sub (ws' := []) [] rfl
      have hD9 := hD.sub (ws' := []) [] (by decide) rfl
      refine W.widen (k := 0) (n := 0) (Nat.le_of_ble_eq_true rfl) (Nat.le_of_ble_eq_true rfl) ?_
      exact W.zret (v := 1) hx hb hr (by decide +kernel) (fun t ht hW => ⟨⟨1, ((fun _ => 0), (fun _ => (fun _ => 0)), (fun _ => (fun _ => 0)), (fun _ => 0), (fun _ => 0)), rfl, (by show (_ : Int32) = _; first | rfl | decide +kernel | (split <;> rename_i hh <;> first | rfl | (exfalso; have z0 : (0 : Int32).toInt = 0 := (by decide +kernel); have z1 : (1 : Int32).toInt = 1 := (by decide +kernel); have z2 : (9 : Int32).toInt = 9 := (by decide +kernel); have z3 : (100 : Int32).toInt = 100 := (by decide +kernel); have z4 : (0 : Int64).toInt = 0 := (by decide +kernel); have z5 : (3 : Int64).toInt = 3 := (by decide +kernel); (try simp only [lg_cmp_ge, lg_cmp_le, lg_cmp_gt, lg_cmp_lt, lg_cmp_eq] at c_1 c_2); simp only [q_lt, q_le, q_eq, q_lt64, q_le64, q_eq64, q_wide, z0, z1, z2, z3, z4, z5] at c_1 c_2 hh; omega))), by rw [ht]; exact hP9, hD9⟩, hS.F ht⟩) hS.2.2 dX12_isIn_18
set_option maxHeartbeats 4000000 in
set_option maxRecDepth 100000 in
theorem cc_192_yX12_code (l : Launch) (D : va_G) (cB cC cI cJ : ClassId) (sz : Nat) (a0 a1 a2 a3 a4 a5 a6 a7 a8 a9 a10 a11 a12 a13 a14 a15 a16 a17 a18 a19 a20 a21 a22 a23 a24 a25 a26 a27 a28 a29 a30 a31 a32 a33 a34 a35 a36 a37 a38 a39 a40 a41 a42 a43 : Nat) (x0 : Int32) : Met l yX12_code (.code yX12_code cX12_code 12 (some .long) :: lw_gd) ({ frames := 1, cells := 0, slots := 0, locals := 25 }) (gPre D [(cB, .byte), (cC, .char), (cI, .int), (cJ, .long)] [.ref a0, .int x0] [(a0, .inr (12, [.ref a1, .int 0, .int 0, .int 0, .int 0, .int 0, .int 0, .int 0, .int (-1), .ref a2, .ref a3, .ref a4, .ref a5, .ref a6, .ref a7, .ref a8, .ref a9, .ref a10, .ref a11, .ref a12, .ref a13, .ref a14, .ref a15, .ref a16, .int 0, .int 0, .int 0, .int 0, .int 0, .int 9999, .ref a17, .ref a18, .ref a19, .int 0, .ref a20, .int 0, .ref a21, .int 0, .int 0, .ref a22, .ref a23, .ref a24, .ref a25, .int 0, .ref a26, .int 0, .ref a27, .ref a28, .ref a29, .long 0, .ref a30, .ref a31, .ref a32, .ref a33, .ref a34, .ref a35, .ref a36, .ref a37, .ref a38, .int 0, .int 0, .int 0, .long 0, .ref a39, .int 0, .ref a40, .ref a41, .ref a42, .ref a43, .int 0, .int 0, .int 0, .int 0]))] sz) (va_Ql (fun r _ => r = (-1)) (gB D (va_A [(a0, .inr (12, [.ref a1, .int 0, .int 0, .int 0, .int 0, .int 0, .int 0, .int 0, .int (-1), .ref a2, .ref a3, .ref a4, .ref a5, .ref a6, .ref a7, .ref a8, .ref a9, .ref a10, .ref a11, .ref a12, .ref a13, .ref a14, .ref a15, .ref a16, .int 0, .int 0, .int 0, .int 0, .int 0, .int 9999, .ref a17, .ref a18, .ref a19, .int 0, .ref a20, .int 0, .ref a21, .int 0, .int 0, .ref a22, .ref a23, .ref a24, .ref a25, .int 0, .ref a26, .int 0, .ref a27, .ref a28, .ref a29, .long 0, .ref a30, .ref a31, .ref a32, .ref a33, .ref a34, .ref a35, .ref a36, .ref a37, .ref a38, .int 0, .int 0, .int 0, .long 0, .ref a39, .int 0, .ref a40, .ref a41, .ref a42, .ref a43, .int 0, .int 0, .int 0, .int 0]))] sz) (fun u : gEx => [])) (va_A [(a0, .inr (12, [.ref a1, .int 0, .int 0, .int 0, .int 0, .int 0, .int 0, .int 0, .int (-1), .ref a2, .ref a3, .ref a4, .ref a5, .ref a6, .ref a7, .ref a8, .ref a9, .ref a10, .ref a11, .ref a12, .ref a13, .ref a14, .ref a15, .ref a16, .int 0, .int 0, .int 0, .int 0, .int 0, .int 9999, .ref a17, .ref a18, .ref a19, .int 0, .ref a20, .int 0, .ref a21, .int 0, .int 0, .ref a22, .ref a23, .ref a24, .ref a25, .int 0, .ref a26, .int 0, .ref a27, .ref a28, .ref a29, .long 0, .ref a30, .ref a31, .ref a32, .ref a33, .ref a34, .ref a35, .ref a36, .ref a37, .ref a38, .int 0, .int 0, .int 0, .long 0, .ref a39, .int 0, .ref a40, .ref a41, .ref a42, .ref a43, .int 0, .int 0, .int 0, .int 0]))] sz)) 0 0 (va_A [(a0, .inr (12, [.ref a1, .int 0, .int 0, .int 0, .int 0, .int 0, .int 0, .int 0, .int (-1), .ref a2, .ref a3, .ref a4, .ref a5, .ref a6, .ref a7, .ref a8, .ref a9, .ref a10, .ref a11, .ref a12, .ref a13, .ref a14, .ref a15, .ref a16, .int 0, .int 0, .int 0, .int 0, .int 0, .int 9999, .ref a17, .ref a18, .ref a19, .int 0, .ref a20, .int 0, .ref a21, .int 0, .int 0, .ref a22, .ref a23, .ref a24, .ref a25, .int 0, .ref a26, .int 0, .ref a27, .ref a28, .ref a29, .long 0, .ref a30, .ref a31, .ref a32, .ref a33, .ref a34, .ref a35, .ref a36, .ref a37, .ref a38, .int 0, .int 0, .int 0, .long 0, .ref a39, .int 0, .ref a40, .ref a41, .ref a42, .ref a43, .int 0, .int 0, .int 0, .int 0]))] sz) := by
  refine Met.ofW (cc := cX12_code) (maxL := 12) (ret := (some .long)) (by decide) rfl ?_
  intro p e s m args below meth c s₁ B hml hv
  obtain ⟨rfl, hsz, hP, hK, hD0, hN⟩ := hv
  have hx := B.exec
  have hb := B.bytes
  have hr := B.returns
  have hts : ∀ w ∈ lw_gd, w.before _ s = true := fun w h => atoms_spec (ws := .code yX12_code cX12_code 12 (some .long) :: lw_gd) B.pre w (List.mem_cons_of_mem _ h)
  have hown : s.vm.findClass RX12 = some m.cls := findClass_of_methodNamed B.named
  have hlocks := B.notSynchronized
  subst hsz
  have hD := hD0.self (sz := s.heap.size)
  generalize hAe : va_A [(a0, .inr (12, [.ref a1, .int 0, .int 0, .int 0, .int 0, .int 0, .int 0, .int 0, .int (-1), .ref a2, .ref a3, .ref a4, .ref a5, .ref a6, .ref a7, .ref a8, .ref a9, .ref a10, .ref a11, .ref a12, .ref a13, .ref a14, .ref a15, .ref a16, .int 0, .int 0, .int 0, .int 0, .int 0, .int 9999, .ref a17, .ref a18, .ref a19, .int 0, .ref a20, .int 0, .ref a21, .int 0, .int 0, .ref a22, .ref a23, .ref a24, .ref a25, .int 0, .ref a26, .int 0, .ref a27, .ref a28, .ref a29, .long 0, .ref a30, .ref a31, .ref a32, .ref a33, .ref a34, .ref a35, .ref a36, .ref a37, .ref a38, .int 0, .int 0, .int 0, .long 0, .ref a39, .int 0, .ref a40, .ref a41, .ref a42, .ref a43, .int 0, .int 0, .int 0, .int 0]))] s.heap.size = A at hD ⊢
  have hA : ∀ q : Nat, s.heap.size ≤ q → A q := fun q h => by rw [← hAe]; exact Or.inr h
  have hS : va_S A s.heap s.heap [] := va_S.rf
  have hP : va_P D gcl [(a0, .inr (12, [.ref a1, .int 0, .int 0, .int 0, .int 0, .int 0, .int 0, .int 0, .int (-1), .ref a2, .ref a3, .ref a4, .ref a5, .ref a6, .ref a7, .ref a8, .ref a9, .ref a10, .ref a11, .ref a12, .ref a13, .ref a14, .ref a15, .ref a16, .int 0, .int 0, .int 0, .int 0, .int 0, .int 9999, .ref a17, .ref a18, .ref a19, .int 0, .ref a20, .int 0, .ref a21, .int 0, .int 0, .ref a22, .ref a23, .ref a24, .ref a25, .int 0, .ref a26, .int 0, .ref a27, .ref a28, .ref a29, .long 0, .ref a30, .ref a31, .ref a32, .ref a33, .ref a34, .ref a35, .ref a36, .ref a37, .ref a38, .int 0, .int 0, .int 0, .long 0, .ref a39, .int 0, .ref a40, .ref a41, .ref a42, .ref a43, .int 0, .int 0, .int 0, .int 0]))] s.heap := hP
  have hl := lv_entry ([.ref a0, .int x0]) (n := 12) (Nat.le_of_ble_eq_true rfl)
  rw [lg_entry_eq]
  generalize (lg_sl ([.ref a0, .int x0]) ++ List.replicate (12 - (lg_sl ([.ref a0, .int x0])).length) Slot.unset).toArray = ls at hl ⊢
  have hl : lv_has ls 12 [(0, .ref a0), (1, .int x0)] := hl
  refine lv_iload_n (pc := 0) hx hb dX12_code_0 rfl (lv_at hl 1 rfl) ?_
  refine lv_i2l (pc := 1) (v := (x0.toInt64)) hx hb dX12_code_1 rfl ?_
  refine lv_lconst (pc := 2) (v := 0) hx hb dX12_code_2 (by decide) ?_
  refine lv_ldc2 (pc := 3) hx hb hown (hts _ tw_1988) dX12_code_3 ?_
  refine gc_i (pc := 6) (wc := []) (wr := [(a0, .inr (12, [.ref a1, .int 0, .int 0, .int 0, .int 0, .int 0, .int 0, .int 0, .int (-1), .ref a2, .ref a3, .ref a4, .ref a5, .ref a6, .ref a7, .ref a8, .ref a9, .ref a10, .ref a11, .ref a12, .ref a13, .ref a14, .ref a15, .ref a16, .int 0, .int 0, .int 0, .int 0, .int 0, .int 9999, .ref a17, .ref a18, .ref a19, .int 0, .ref a20, .int 0, .ref a21, .int 0, .int 0, .ref a22, .ref a23, .ref a24, .ref a25, .int 0, .ref a26, .int 0, .ref a27, .ref a28, .ref a29, .long 0, .ref a30, .ref a31, .ref a32, .ref a33, .ref a34, .ref a35, .ref a36, .ref a37, .ref a38, .int 0, .int 0, .int 0, .long 0, .ref a39, .int 0, .ref a40, .ref a41, .ref a42, .ref a43, .int 0, .int 0, .int 0, .int 0]))]) hP hD hS hA [] [0] rfl rfl (by decide) (by decide) (by decide) (fun hPc hDc => va_runS (As := [.long (x0.toInt64), .long 0, .long 3]) (rest := []) ⟨hx, hb, hml, hown, hts⟩ (cc_191_yX12_isIn l D cB cC cI cJ _ (x0.toInt64)) ⟨gcwB hts tw_1666 tw_14 tw_1664 hd_yX12_isIn ⟨Nat.le_of_ble_eq_true rfl, Nat.le_of_ble_eq_true rfl⟩, hts _ tw_1665⟩ (gpreS hPc hK hDc hN) rfl rfl hl.1 rfl (lv_room (Nat.le_of_ble_eq_true rfl)) dX12_code_6 ⟨Nat.le_of_ble_eq_true rfl, Nat.le_of_ble_eq_true rfl⟩) (fun r_2 u_1 H locs hw_3 hP hD hS => ?_)
  have hP : va_P D gcl [(a0, .inr (12, [.ref a1, .int 0, .int 0, .int 0, .int 0, .int 0, .int 0, .int 0, .int (-1), .ref a2, .ref a3, .ref a4, .ref a5, .ref a6, .ref a7, .ref a8, .ref a9, .ref a10, .ref a11, .ref a12, .ref a13, .ref a14, .ref a15, .ref a16, .int 0, .int 0, .int 0, .int 0, .int 0, .int 9999, .ref a17, .ref a18, .ref a19, .int 0, .ref a20, .int 0, .ref a21, .int 0, .int 0, .ref a22, .ref a23, .ref a24, .ref a25, .int 0, .ref a26, .int 0, .ref a27, .ref a28, .ref a29, .long 0, .ref a30, .ref a31, .ref a32, .ref a33, .ref a34, .ref a35, .ref a36, .ref a37, .ref a38, .int 0, .int 0, .int 0, .long 0, .ref a39, .int 0, .ref a40, .ref a41, .ref a42, .ref a43, .int 0, .int 0, .int 0, .int 0]))] H := hP
  have hD : va_D A [(a0, .inr (12, [.ref a1, .int 0, .int 0, .int 0, .int 0, .int 0, .int 0, .int 0, .int (-1), .ref a2, .ref a3, .ref a4, .ref a5, .ref a6, .ref a7, .ref a8, .ref a9, .ref a10, .ref a11, .ref a12, .ref a13, .ref a14, .ref a15, .ref a16, .int 0, .int 0, .int 0, .int 0, .int 0, .int 9999, .ref a17, .ref a18, .ref a19, .int 0, .ref a20, .int 0, .ref a21, .int 0, .int 0, .ref a22, .ref a23, .ref a24, .ref a25, .int 0, .ref a26, .int 0, .ref a27, .ref a28, .ref a29, .long 0, .ref a30, .ref a31, .ref a32, .ref a33, .ref a34, .ref a35, .ref a36, .ref a37, .ref a38, .int 0, .int 0, .int 0, .long 0, .ref a39, .int 0, .ref a40, .ref a41, .ref a42, .ref a43, .int 0, .int 0, .int 0, .int 0]))] := hD
  refine lv_if_eq (pc := 9) (tgt := 29) hx hb dX12_code_9 (by decide) (fun c_4 => ?_) (fun c_4 => ?_)
  ·
    refine lv_ldc2 (pc := 29) hx hb hown (hts _ tw_1838) dX12_code_29 ?_
    have hP9 := hP.sub (ws' := []) [] rfl
    have hD9 := hD.sub (ws' := []) [] (by decide) rfl
    refine W.widen (k := 0) (n := 0) (Nat.le_of_ble_eq_true rfl) (Nat.le_of_ble_eq_true rfl) ?_
    exact W.lret (v := (-1)) hx hb hr (fun t ht hW => ⟨⟨(-1), ((fun _ => 0), (fun _ => (fun _ => 0)), (fun _ => (fun _ => 0)), (fun _ => 0), (fun _ => 0)), rfl, rfl, by rw [ht]; exact hP9, hD9⟩, hS.F ht⟩) hS.2.2 dX12_code_32
  ·
    refine lv_aload_n (pc := 12) hx hb dX12_code_12 rfl (lv_at hl 0 rfl) ?_
    refine va_get (pc := 13) (ci := 12) (v := .int 0) (C := RX12) (T := TX12) (N := 73) hx hb hts iX12 hown hK hP 0 rfl rfl 28 (by decide) (hts _ tw_1429) (fun _ h9 => h9) rfl dX12_code_13 ?_
    refine lv_iload_n (pc := 16) hx hb dX12_code_16 rfl (lv_at hl 1 rfl) ?_
    refine lv_iconst (pc := 17) (v := 3) hx hb dX12_code_17 (by decide) ?_
    refine lv_icmp_ne (pc := 18) (tgt := 25) hx hb dX12_code_18 (by decide) (fun c_5 => ?_) (fun c_5 => ?_)
    ·
      refine lv_iconst (pc := 25) (v := 2) hx hb dX12_code_25 (by decide) ?_
      refine lv_icmp_ge (pc := 26) (tgt := 33) hx hb dX12_code_26 (by decide) (fun c => absurd c (by decide +kernel)) (fun _ => ?_)
      refine lv_ldc2 (pc := 29) hx hb hown (hts _ tw_1838) dX12_code_29 ?_
      have hP9 := hP.sub (ws' := []) [] rfl
      have hD9 := hD.sub (ws' := []) [] (by decide) rfl
      refine W.widen (k := 0) (n := 0) (Nat.le_of_ble_eq_true rfl) (Nat.le_of_ble_eq_true rfl) ?_
      exact W.lret (v := (-1)) hx hb hr (fun t ht hW => ⟨⟨(-1), ((fun _ => 0), (fun _ => (fun _ => 0)), (fun _ => (fun _ => 0)), (fun _ => 0), (fun _ => 0)), rfl, rfl, by rw [ht]; exact hP9, hD9⟩, hS.F ht⟩) hS.2.2 dX12_code_32
    ·
      refine lv_iconst (pc := 21) (v := 1) hx hb dX12_code_21 (by decide) ?_
      refine lv_goto (pc := 22) (tgt := 26) hx hb dX12_code_22 (by decide) ?_
      refine lv_icmp_ge (pc := 26) (tgt := 33) hx hb dX12_code_26 (by decide) (fun c => absurd c (by decide +kernel)) (fun _ => ?_)
      refine lv_ldc2 (pc := 29) hx hb hown (hts _ tw_1838) dX12_code_29 ?_
      have hP9 := hP.sub (ws' := []) [] rfl
      have hD9 := hD.sub (ws' := []) [] (by decide) rfl
      refine W.widen (k := 0) (n := 0) (Nat.le_of_ble_eq_true rfl) (Nat.le_of_ble_eq_true rfl) ?_
      exact W.lret (v := (-1)) hx hb hr (fun t ht hW => ⟨⟨(-1), ((fun _ => 0), (fun _ => (fun _ => 0)), (fun _ => (fun _ => 0)), (fun _ => 0), (fun _ => 0)), rfl, rfl, by rw [ht]; exact hP9, hD9⟩, hS.F ht⟩) hS.2.2 dX12_code_32
set_option maxHeartbeats 4000000 in
set_option maxRecDepth 100000 in
theorem cc_193_yX11_decode (l : Launch) (D : va_G) (cB cC cI cJ : ClassId) (sz : Nat) (a0 a1 a2 a3 a4 a5 a6 a7 a8 a9 a10 a11 a12 a13 a14 a15 a16 : Nat) : Met l yX11_decode (.code yX11_decode cX11_decode 7 (some .int) :: lw_gd) ({ frames := 0, cells := 0, slots := 0, locals := 0 }) (gPre D [(cB, .byte), (cC, .char), (cI, .int), (cJ, .long)] [.ref a0] [(a0, .inr (11, [.ref a1, .ref a2, .ref a3, .ref a4, .ref a5, .ref a6, .ref a7, .ref a8, .ref a9, .ref a10, .int 0, .ref a11, .ref a12, .ref a13])), (a11, .inr (1, [.ref a14, .ref a15, .ref a16, .int 0, .int 0, .int 0, .int 0, .int 0, .int 9999, .int 0]))] sz) (va_Qi (fun r _ => r = (-1)) (gB D (va_A [(a0, .inr (11, [.ref a1, .ref a2, .ref a3, .ref a4, .ref a5, .ref a6, .ref a7, .ref a8, .ref a9, .ref a10, .int 0, .ref a11, .ref a12, .ref a13])), (a11, .inr (1, [.ref a14, .ref a15, .ref a16, .int 0, .int 0, .int 0, .int 0, .int 0, .int 9999, .int 0]))] sz) (fun u : gEx => [])) (va_A [(a0, .inr (11, [.ref a1, .ref a2, .ref a3, .ref a4, .ref a5, .ref a6, .ref a7, .ref a8, .ref a9, .ref a10, .int 0, .ref a11, .ref a12, .ref a13])), (a11, .inr (1, [.ref a14, .ref a15, .ref a16, .int 0, .int 0, .int 0, .int 0, .int 0, .int 9999, .int 0]))] sz)) 0 0 (va_A [(a0, .inr (11, [.ref a1, .ref a2, .ref a3, .ref a4, .ref a5, .ref a6, .ref a7, .ref a8, .ref a9, .ref a10, .int 0, .ref a11, .ref a12, .ref a13])), (a11, .inr (1, [.ref a14, .ref a15, .ref a16, .int 0, .int 0, .int 0, .int 0, .int 0, .int 9999, .int 0]))] sz) := by
  refine Met.ofW (cc := cX11_decode) (maxL := 7) (ret := (some .int)) (by decide) rfl ?_
  intro p e s m args below meth c s₁ B hml hv
  obtain ⟨rfl, hsz, hP, hK, hD0, hN⟩ := hv
  have hx := B.exec
  have hb := B.bytes
  have hr := B.returns
  have hts : ∀ w ∈ lw_gd, w.before _ s = true := fun w h => atoms_spec (ws := .code yX11_decode cX11_decode 7 (some .int) :: lw_gd) B.pre w (List.mem_cons_of_mem _ h)
  have hown : s.vm.findClass RX11 = some m.cls := findClass_of_methodNamed B.named
  have hlocks := B.notSynchronized
  subst hsz
  have hD := hD0.self (sz := s.heap.size)
  generalize hAe : va_A [(a0, .inr (11, [.ref a1, .ref a2, .ref a3, .ref a4, .ref a5, .ref a6, .ref a7, .ref a8, .ref a9, .ref a10, .int 0, .ref a11, .ref a12, .ref a13])), (a11, .inr (1, [.ref a14, .ref a15, .ref a16, .int 0, .int 0, .int 0, .int 0, .int 0, .int 9999, .int 0]))] s.heap.size = A at hD ⊢
  have hA : ∀ q : Nat, s.heap.size ≤ q → A q := fun q h => by rw [← hAe]; exact Or.inr h
  have hS : va_S A s.heap s.heap [] := va_S.rf
  have hP : va_P D gcl [(a0, .inr (11, [.ref a1, .ref a2, .ref a3, .ref a4, .ref a5, .ref a6, .ref a7, .ref a8, .ref a9, .ref a10, .int 0, .ref a11, .ref a12, .ref a13])), (a11, .inr (1, [.ref a14, .ref a15, .ref a16, .int 0, .int 0, .int 0, .int 0, .int 0, .int 9999, .int 0]))] s.heap := hP
  have hl := lv_entry ([.ref a0]) (n := 7) (Nat.le_of_ble_eq_true rfl)
  rw [lg_entry_eq]
  generalize (lg_sl ([.ref a0]) ++ List.replicate (7 - (lg_sl ([.ref a0])).length) Slot.unset).toArray = ls at hl ⊢
  have hl : lv_has ls 7 [(0, .ref a0)] := hl
  refine lv_iconst (pc := 0) (v := (-1)) hx hb dX11_decode_0 (by decide) ?_
  refine lv_istore_n (pc := 1) (lv' := [(1, .int (-1)), (0, .ref a0)]) hx hb dX11_decode_1 rfl hl (by decide) rfl (fun ls hl => ?_)
  refine lv_lconst (pc := 2) (v := 0) hx hb dX11_decode_2 (by decide) ?_
  refine lv_lstore_n (pc := 3) (lv' := [(2, .long 0), (1, .int (-1)), (0, .ref a0)]) hx hb dX11_decode_3 rfl hl (by decide) rfl (fun ls hl => ?_)
  refine lv_iconst (pc := 4) (v := 0) hx hb dX11_decode_4 (by decide) ?_
  refine lv_istore (pc := 5) (lv' := [(4, .int 0), (2, .long 0), (1, .int (-1)), (0, .ref a0)]) hx hb dX11_decode_5 hl (by decide) rfl (fun ls hl => ?_)
  refine lv_iload (pc := 7) hx hb dX11_decode_7 (lv_at hl 0 rfl) ?_
  refine lv_aload_n (pc := 9) hx hb dX11_decode_9 rfl (lv_at hl 3 rfl) ?_
  refine va_get (pc := 10) (ci := 11) (v := .ref a11) (C := RX11) (T := TX11) (N := 14) hx hb hts iX11 hown hK hP 0 rfl rfl 11 (by decide) (hts _ tw_431) (fun _ h9 => h9) rfl dX11_decode_10 ?_
  refine va_getN (pc := 13) (ci := 1) (v := .int 0) (C := RX1) (T := TX1) (N := 10) hx hb hts iX1 hown hK hP 1 rfl rfl 7 (by decide) (va_Nw.use rfl (hN _ tn_137)) (fun _ h9 => h9) rfl dX11_decode_13 ?_
  refine lv_icmp_ge (pc := 16) (tgt := 73) hx hb dX11_decode_16 (by decide) (fun _ => ?_) (fun c => absurd (by decide +kernel) c)
  refine lv_iload_n (pc := 73) hx hb dX11_decode_73 rfl (lv_at hl 2 rfl) ?_
  have hP9 := hP.sub (ws' := []) [] rfl
  have hD9 := hD.sub (ws' := []) [] (by decide) rfl
  refine W.widen (k := 0) (n := 0) (Nat.le_of_ble_eq_true rfl) (Nat.le_of_ble_eq_true rfl) ?_
  exact W.iret (v := (-1)) hx hb hr (fun t ht hW => ⟨⟨(-1), ((fun _ => 0), (fun _ => (fun _ => 0)), (fun _ => (fun _ => 0)), (fun _ => 0), (fun _ => 0)), rfl, rfl, by rw [ht]; exact hP9, hD9⟩, hS.F ht⟩) hS.2.2 dX11_decode_74
set_option maxHeartbeats 4000000 in
set_option maxRecDepth 100000 in
theorem cc_194_yX12_decode (l : Launch) (D : va_G) (cB cC cI cJ : ClassId) (sz : Nat) (a0 a1 a2 a3 a4 a5 a6 a7 a8 a9 a10 a11 a12 a13 a14 a15 a16 a17 a18 a19 a20 a21 a22 a23 a24 a25 a26 a27 a28 a29 a30 a31 a32 a33 a34 a35 a36 a37 a38 a39 a40 a41 a42 a43 : Nat) : Met l yX12_decode (.code yX12_decode cX12_decode 7 (some .int) :: lw_gd) ({ frames := 0, cells := 0, slots := 0, locals := 0 }) (gPre D [(cB, .byte), (cC, .char), (cI, .int), (cJ, .long)] [.ref a0] [(a0, .inr (12, [.ref a1, .int 0, .int 0, .int 0, .int 0, .int 0, .int 0, .int 0, .int (-1), .ref a2, .ref a3, .ref a4, .ref a5, .ref a6, .ref a7, .ref a8, .ref a9, .ref a10, .ref a11, .ref a12, .ref a13, .ref a14, .ref a15, .ref a16, .int 0, .int 0, .int 0, .int 0, .int 0, .int 9999, .ref a17, .ref a18, .ref a19, .int 0, .ref a20, .int 0, .ref a21, .int 0, .int 0, .ref a22, .ref a23, .ref a24, .ref a25, .int 0, .ref a26, .int 0, .ref a27, .ref a28, .ref a29, .long 0, .ref a30, .ref a31, .ref a32, .ref a33, .ref a34, .ref a35, .ref a36, .ref a37, .ref a38, .int 0, .int 0, .int 0, .long 0, .ref a39, .int 0, .ref a40, .ref a41, .ref a42, .ref a43, .int 0, .int 0, .int 0, .int 0]))] sz) (va_Qi (fun r _ => r = (-1)) (gB D (va_A [(a0, .inr (12, [.ref a1, .int 0, .int 0, .int 0, .int 0, .int 0, .int 0, .int 0, .int (-1), .ref a2, .ref a3, .ref a4, .ref a5, .ref a6, .ref a7, .ref a8, .ref a9, .ref a10, .ref a11, .ref a12, .ref a13, .ref a14, .ref a15, .ref a16, .int 0, .int 0, .int 0, .int 0, .int 0, .int 9999, .ref a17, .ref a18, .ref a19, .int 0, .ref a20, .int 0, .ref a21, .int 0, .int 0, .ref a22, .ref a23, .ref a24, .ref a25, .int 0, .ref a26, .int 0, .ref a27, .ref a28, .ref a29, .long 0, .ref a30, .ref a31, .ref a32, .ref a33, .ref a34, .ref a35, .ref a36, .ref a37, .ref a38, .int 0, .int 0, .int 0, .long 0, .ref a39, .int 0, .ref a40, .ref a41, .ref a42, .ref a43, .int 0, .int 0, .int 0, .int 0]))] sz) (fun u : gEx => [])) (va_A [(a0, .inr (12, [.ref a1, .int 0, .int 0, .int 0, .int 0, .int 0, .int 0, .int 0, .int (-1), .ref a2, .ref a3, .ref a4, .ref a5, .ref a6, .ref a7, .ref a8, .ref a9, .ref a10, .ref a11, .ref a12, .ref a13, .ref a14, .ref a15, .ref a16, .int 0, .int 0, .int 0, .int 0, .int 0, .int 9999, .ref a17, .ref a18, .ref a19, .int 0, .ref a20, .int 0, .ref a21, .int 0, .int 0, .ref a22, .ref a23, .ref a24, .ref a25, .int 0, .ref a26, .int 0, .ref a27, .ref a28, .ref a29, .long 0, .ref a30, .ref a31, .ref a32, .ref a33, .ref a34, .ref a35, .ref a36, .ref a37, .ref a38, .int 0, .int 0, .int 0, .long 0, .ref a39, .int 0, .ref a40, .ref a41, .ref a42, .ref a43, .int 0, .int 0, .int 0, .int 0]))] sz)) 0 0 (va_A [(a0, .inr (12, [.ref a1, .int 0, .int 0, .int 0, .int 0, .int 0, .int 0, .int 0, .int (-1), .ref a2, .ref a3, .ref a4, .ref a5, .ref a6, .ref a7, .ref a8, .ref a9, .ref a10, .ref a11, .ref a12, .ref a13, .ref a14, .ref a15, .ref a16, .int 0, .int 0, .int 0, .int 0, .int 0, .int 9999, .ref a17, .ref a18, .ref a19, .int 0, .ref a20, .int 0, .ref a21, .int 0, .int 0, .ref a22, .ref a23, .ref a24, .ref a25, .int 0, .ref a26, .int 0, .ref a27, .ref a28, .ref a29, .long 0, .ref a30, .ref a31, .ref a32, .ref a33, .ref a34, .ref a35, .ref a36, .ref a37, .ref a38, .int 0, .int 0, .int 0, .long 0, .ref a39, .int 0, .ref a40, .ref a41, .ref a42, .ref a43, .int 0, .int 0, .int 0, .int 0]))] sz) := by
  refine Met.ofW (cc := cX12_decode) (maxL := 7) (ret := (some .int)) (by decide) rfl ?_
  intro p e s m args below meth c s₁ B hml hv
  obtain ⟨rfl, hsz, hP, hK, hD0, hN⟩ := hv
  have hx := B.exec
  have hb := B.bytes
  have hr := B.returns
  have hts : ∀ w ∈ lw_gd, w.before _ s = true := fun w h => atoms_spec (ws := .code yX12_decode cX12_decode 7 (some .int) :: lw_gd) B.pre w (List.mem_cons_of_mem _ h)
  have hown : s.vm.findClass RX12 = some m.cls := findClass_of_methodNamed B.named
  have hlocks := B.notSynchronized
  subst hsz
  have hD := hD0.self (sz := s.heap.size)
  generalize hAe : va_A [(a0, .inr (12, [.ref a1, .int 0, .int 0, .int 0, .int 0, .int 0, .int 0, .int 0, .int (-1), .ref a2, .ref a3, .ref a4, .ref a5, .ref a6, .ref a7, .ref a8, .ref a9, .ref a10, .ref a11, .ref a12, .ref a13, .ref a14, .ref a15, .ref a16, .int 0, .int 0, .int 0, .int 0, .int 0, .int 9999, .ref a17, .ref a18, .ref a19, .int 0, .ref a20, .int 0, .ref a21, .int 0, .int 0, .ref a22, .ref a23, .ref a24, .ref a25, .int 0, .ref a26, .int 0, .ref a27, .ref a28, .ref a29, .long 0, .ref a30, .ref a31, .ref a32, .ref a33, .ref a34, .ref a35, .ref a36, .ref a37, .ref a38, .int 0, .int 0, .int 0, .long 0, .ref a39, .int 0, .ref a40, .ref a41, .ref a42, .ref a43, .int 0, .int 0, .int 0, .int 0]))] s.heap.size = A at hD ⊢
  have hA : ∀ q : Nat, s.heap.size ≤ q → A q := fun q h => by rw [← hAe]; exact Or.inr h
  have hS : va_S A s.heap s.heap [] := va_S.rf
  have hP : va_P D gcl [(a0, .inr (12, [.ref a1, .int 0, .int 0, .int 0, .int 0, .int 0, .int 0, .int 0, .int (-1), .ref a2, .ref a3, .ref a4, .ref a5, .ref a6, .ref a7, .ref a8, .ref a9, .ref a10, .ref a11, .ref a12, .ref a13, .ref a14, .ref a15, .ref a16, .int 0, .int 0, .int 0, .int 0, .int 0, .int 9999, .ref a17, .ref a18, .ref a19, .int 0, .ref a20, .int 0, .ref a21, .int 0, .int 0, .ref a22, .ref a23, .ref a24, .ref a25, .int 0, .ref a26, .int 0, .ref a27, .ref a28, .ref a29, .long 0, .ref a30, .ref a31, .ref a32, .ref a33, .ref a34, .ref a35, .ref a36, .ref a37, .ref a38, .int 0, .int 0, .int 0, .long 0, .ref a39, .int 0, .ref a40, .ref a41, .ref a42, .ref a43, .int 0, .int 0, .int 0, .int 0]))] s.heap := hP
  have hl := lv_entry ([.ref a0]) (n := 7) (Nat.le_of_ble_eq_true rfl)
  rw [lg_entry_eq]
  generalize (lg_sl ([.ref a0]) ++ List.replicate (7 - (lg_sl ([.ref a0])).length) Slot.unset).toArray = ls at hl ⊢
  have hl : lv_has ls 7 [(0, .ref a0)] := hl
  refine lv_iconst (pc := 0) (v := (-1)) hx hb dX12_decode_0 (by decide) ?_
  refine lv_istore_n (pc := 1) (lv' := [(1, .int (-1)), (0, .ref a0)]) hx hb dX12_decode_1 rfl hl (by decide) rfl (fun ls hl => ?_)
  refine lv_lconst (pc := 2) (v := 0) hx hb dX12_decode_2 (by decide) ?_
  refine lv_lstore_n (pc := 3) (lv' := [(2, .long 0), (1, .int (-1)), (0, .ref a0)]) hx hb dX12_decode_3 rfl hl (by decide) rfl (fun ls hl => ?_)
  refine lv_iconst (pc := 4) (v := 0) hx hb dX12_decode_4 (by decide) ?_
  refine lv_istore (pc := 5) (lv' := [(4, .int 0), (2, .long 0), (1, .int (-1)), (0, .ref a0)]) hx hb dX12_decode_5 hl (by decide) rfl (fun ls hl => ?_)
  refine lv_iload (pc := 7) hx hb dX12_decode_7 (lv_at hl 0 rfl) ?_
  refine lv_aload_n (pc := 9) hx hb dX12_decode_9 rfl (lv_at hl 3 rfl) ?_
  refine va_get (pc := 10) (ci := 12) (v := .int 0) (C := RX12) (T := TX12) (N := 73) hx hb hts iX12 hown hK hP 0 rfl rfl 28 (by decide) (hts _ tw_1429) (fun _ h9 => h9) rfl dX12_decode_10 ?_
  refine lv_icmp_ge (pc := 13) (tgt := 87) hx hb dX12_decode_13 (by decide) (fun _ => ?_) (fun c => absurd (by decide +kernel) c)
  refine lv_iload_n (pc := 87) hx hb dX12_decode_87 rfl (lv_at hl 2 rfl) ?_
  have hP9 := hP.sub (ws' := []) [] rfl
  have hD9 := hD.sub (ws' := []) [] (by decide) rfl
  refine W.widen (k := 0) (n := 0) (Nat.le_of_ble_eq_true rfl) (Nat.le_of_ble_eq_true rfl) ?_
  exact W.iret (v := (-1)) hx hb hr (fun t ht hW => ⟨⟨(-1), ((fun _ => 0), (fun _ => (fun _ => 0)), (fun _ => (fun _ => 0)), (fun _ => 0), (fun _ => 0)), rfl, rfl, by rw [ht]; exact hP9, hD9⟩, hS.F ht⟩) hS.2.2 dX12_decode_88
set_option maxHeartbeats 4000000 in
set_option maxRecDepth 100000 in
theorem cc_195_yX11_leave (l : Launch) (D : va_G) (cB cC cI cJ : ClassId) (sz : Nat) (a0 a1 a2 a3 a4 a5 a6 a7 a8 a9 a10 a11 a12 a13 a14 a15 a16 : Nat) (x0 : Int32) : Met l yX11_leave (.code yX11_leave cX11_leave 6 (some .long) :: lw_gd) ({ frames := 0, cells := 0, slots := 0, locals := 0 }) (gPre D [(cB, .byte), (cC, .char), (cI, .int), (cJ, .long)] [.ref a0, .int x0] [(a0, .inr (11, [.ref a1, .ref a2, .ref a3, .ref a4, .ref a5, .ref a6, .ref a7, .ref a8, .ref a9, .ref a10, .int 0, .ref a11, .ref a12, .ref a13])), (a11, .inr (1, [.ref a14, .ref a15, .ref a16, .int 0, .int 0, .int 0, .int 0, .int 0, .int 9999, .int 0]))] sz) (va_Ql (fun r _ => r = (-1)) (gB D (va_A [(a0, .inr (11, [.ref a1, .ref a2, .ref a3, .ref a4, .ref a5, .ref a6, .ref a7, .ref a8, .ref a9, .ref a10, .int 0, .ref a11, .ref a12, .ref a13])), (a11, .inr (1, [.ref a14, .ref a15, .ref a16, .int 0, .int 0, .int 0, .int 0, .int 0, .int 9999, .int 0]))] sz) (fun u : gEx => [])) (va_A [(a0, .inr (11, [.ref a1, .ref a2, .ref a3, .ref a4, .ref a5, .ref a6, .ref a7, .ref a8, .ref a9, .ref a10, .int 0, .ref a11, .ref a12, .ref a13])), (a11, .inr (1, [.ref a14, .ref a15, .ref a16, .int 0, .int 0, .int 0, .int 0, .int 0, .int 9999, .int 0]))] sz)) 0 0 (va_A [(a0, .inr (11, [.ref a1, .ref a2, .ref a3, .ref a4, .ref a5, .ref a6, .ref a7, .ref a8, .ref a9, .ref a10, .int 0, .ref a11, .ref a12, .ref a13])), (a11, .inr (1, [.ref a14, .ref a15, .ref a16, .int 0, .int 0, .int 0, .int 0, .int 0, .int 9999, .int 0]))] sz) := by
  refine Met.ofW (cc := cX11_leave) (maxL := 6) (ret := (some .long)) (by decide) rfl ?_
  intro p e s m args below meth c s₁ B hml hv
  obtain ⟨rfl, hsz, hP, hK, hD0, hN⟩ := hv
  have hx := B.exec
  have hb := B.bytes
  have hr := B.returns
  have hts : ∀ w ∈ lw_gd, w.before _ s = true := fun w h => atoms_spec (ws := .code yX11_leave cX11_leave 6 (some .long) :: lw_gd) B.pre w (List.mem_cons_of_mem _ h)
  have hown : s.vm.findClass RX11 = some m.cls := findClass_of_methodNamed B.named
  have hlocks := B.notSynchronized
  subst hsz
  have hD := hD0.self (sz := s.heap.size)
  generalize hAe : va_A [(a0, .inr (11, [.ref a1, .ref a2, .ref a3, .ref a4, .ref a5, .ref a6, .ref a7, .ref a8, .ref a9, .ref a10, .int 0, .ref a11, .ref a12, .ref a13])), (a11, .inr (1, [.ref a14, .ref a15, .ref a16, .int 0, .int 0, .int 0, .int 0, .int 0, .int 9999, .int 0]))] s.heap.size = A at hD ⊢
  have hA : ∀ q : Nat, s.heap.size ≤ q → A q := fun q h => by rw [← hAe]; exact Or.inr h
  have hS : va_S A s.heap s.heap [] := va_S.rf
  have hP : va_P D gcl [(a0, .inr (11, [.ref a1, .ref a2, .ref a3, .ref a4, .ref a5, .ref a6, .ref a7, .ref a8, .ref a9, .ref a10, .int 0, .ref a11, .ref a12, .ref a13])), (a11, .inr (1, [.ref a14, .ref a15, .ref a16, .int 0, .int 0, .int 0, .int 0, .int 0, .int 9999, .int 0]))] s.heap := hP
  have hl := lv_entry ([.ref a0, .int x0]) (n := 6) (Nat.le_of_ble_eq_true rfl)
  rw [lg_entry_eq]
  generalize (lg_sl ([.ref a0, .int x0]) ++ List.replicate (6 - (lg_sl ([.ref a0, .int x0])).length) Slot.unset).toArray = ls at hl ⊢
  have hl : lv_has ls 6 [(0, .ref a0), (1, .int x0)] := hl
  refine lv_iload_n (pc := 0) hx hb dX11_leave_0 rfl (lv_at hl 1 rfl) ?_
  refine lv_if_lt (pc := 1) (tgt := 20) hx hb dX11_leave_1 (by decide) (fun c_1 => ?_) (fun c_1 => ?_)
  ·
    refine lv_ldc2 (pc := 20) hx hb hown (hts _ tw_844) dX11_leave_20 ?_
    have hP9 := hP.sub (ws' := []) [] rfl
    have hD9 := hD.sub (ws' := []) [] (by decide) rfl
    refine W.widen (k := 0) (n := 0) (Nat.le_of_ble_eq_true rfl) (Nat.le_of_ble_eq_true rfl) ?_
    exact W.lret (v := (-1)) hx hb hr (fun t ht hW => ⟨⟨(-1), ((fun _ => 0), (fun _ => (fun _ => 0)), (fun _ => (fun _ => 0)), (fun _ => 0), (fun _ => 0)), rfl, rfl, by rw [ht]; exact hP9, hD9⟩, hS.F ht⟩) hS.2.2 dX11_leave_23
  ·
    refine lv_iload_n (pc := 4) hx hb dX11_leave_4 rfl (lv_at hl 1 rfl) ?_
    refine lv_iconst (pc := 5) (v := 1) hx hb dX11_leave_5 (by decide) ?_
    refine lv_icmp_gt (pc := 6) (tgt := 20) hx hb dX11_leave_6 (by decide) (fun c_2 => ?_) (fun c_2 => ?_)
    ·
      refine lv_ldc2 (pc := 20) hx hb hown (hts _ tw_844) dX11_leave_20 ?_
      have hP9 := hP.sub (ws' := []) [] rfl
      have hD9 := hD.sub (ws' := []) [] (by decide) rfl
      refine W.widen (k := 0) (n := 0) (Nat.le_of_ble_eq_true rfl) (Nat.le_of_ble_eq_true rfl) ?_
      exact W.lret (v := (-1)) hx hb hr (fun t ht hW => ⟨⟨(-1), ((fun _ => 0), (fun _ => (fun _ => 0)), (fun _ => (fun _ => 0)), (fun _ => 0), (fun _ => 0)), rfl, rfl, by rw [ht]; exact hP9, hD9⟩, hS.F ht⟩) hS.2.2 dX11_leave_23
    ·
      refine lv_aload_n (pc := 9) hx hb dX11_leave_9 rfl (lv_at hl 0 rfl) ?_
      refine va_get (pc := 10) (ci := 11) (v := .ref a11) (C := RX11) (T := TX11) (N := 14) hx hb hts iX11 hown hK hP 0 rfl rfl 11 (by decide) (hts _ tw_431) (fun _ h9 => h9) rfl dX11_leave_10 ?_
      refine va_getN (pc := 13) (ci := 1) (v := .int 0) (C := RX1) (T := TX1) (N := 10) hx hb hts iX1 hown hK hP 1 rfl rfl 7 (by decide) (va_Nw.use rfl (hN _ tn_137)) (fun _ h9 => h9) rfl dX11_leave_13 ?_
      refine lv_iconst (pc := 16) (v := 3) hx hb dX11_leave_16 (by decide) ?_
      refine lv_icmp_ge (pc := 17) (tgt := 24) hx hb dX11_leave_17 (by decide) (fun c => absurd c (by decide +kernel)) (fun _ => ?_)
      refine lv_ldc2 (pc := 20) hx hb hown (hts _ tw_844) dX11_leave_20 ?_
      have hP9 := hP.sub (ws' := []) [] rfl
      have hD9 := hD.sub (ws' := []) [] (by decide) rfl
      refine W.widen (k := 0) (n := 0) (Nat.le_of_ble_eq_true rfl) (Nat.le_of_ble_eq_true rfl) ?_
      exact W.lret (v := (-1)) hx hb hr (fun t ht hW => ⟨⟨(-1), ((fun _ => 0), (fun _ => (fun _ => 0)), (fun _ => (fun _ => 0)), (fun _ => 0), (fun _ => 0)), rfl, rfl, by rw [ht]; exact hP9, hD9⟩, hS.F ht⟩) hS.2.2 dX11_leave_23
set_option maxHeartbeats 4000000 in
set_option maxRecDepth 100000 in
theorem cc_196_yX12_isIn (l : Launch) (D : va_G) (cB cC cI cJ : ClassId) (sz : Nat) (y0 : Int64) : Met l yX12_isIn (.code yX12_isIn cX12_isIn 6 (some .boolean) :: lw_gd) ({ frames := 0, cells := 0, slots := 0, locals := 0 }) (gPre D [(cB, .byte), (cC, .char), (cI, .int), (cJ, .long)] [.long y0, .long 0, .long 1] [] sz) (va_Qi (fun r _ => r = (if y0 < 0 ∨ 1 < y0 then 0 else 1)) (gB D (va_A [] sz) (fun u : gEx => [])) (va_A [] sz)) 0 0 (va_A [] sz) := by
  refine Met.ofW (cc := cX12_isIn) (maxL := 6) (ret := (some .boolean)) (by decide) rfl ?_
  intro p e s m args below meth c s₁ B hml hv
  obtain ⟨rfl, hsz, hP, hK, hD0, hN⟩ := hv
  have hx := B.exec
  have hb := B.bytes
  have hr := B.returns
  have hts : ∀ w ∈ lw_gd, w.before _ s = true := fun w h => atoms_spec (ws := .code yX12_isIn cX12_isIn 6 (some .boolean) :: lw_gd) B.pre w (List.mem_cons_of_mem _ h)
  have hown : s.vm.findClass RX12 = some m.cls := findClass_of_methodNamed B.named
  have hlocks := B.notSynchronized
  subst hsz
  have hD := hD0.self (sz := s.heap.size)
  generalize hAe : va_A [] s.heap.size = A at hD ⊢
  have hA : ∀ q : Nat, s.heap.size ≤ q → A q := fun q h => by rw [← hAe]; exact Or.inr h
  have hS : va_S A s.heap s.heap [] := va_S.rf
  have hP : va_P D gcl [] s.heap := hP
  have hl := lv_entry ([.long y0, .long 0, .long 1]) (n := 6) (Nat.le_of_ble_eq_true rfl)
  rw [lg_entry_eq]
  generalize (lg_sl ([.long y0, .long 0, .long 1]) ++ List.replicate (6 - (lg_sl ([.long y0, .long 0, .long 1])).length) Slot.unset).toArray = ls at hl ⊢
  have hl : lv_has ls 6 [(0, .long y0), (2, .long 0), (4, .long 1)] := hl
  refine lv_lload_n (pc := 0) hx hb dX12_isIn_0 rfl (lv_at hl 0 rfl) ?_
  refine lv_lload_n (pc := 1) hx hb dX12_isIn_1 rfl (lv_at hl 1 rfl) ?_
  refine W.lcmp hx hb dX12_isIn_2 ?_
  refine lv_if_lt (pc := 3) (tgt := 17) hx hb dX12_isIn_3 (by decide) (fun c_1 => ?_) (fun c_1 => ?_)
  ·
    refine lv_iconst (pc := 17) (v := 0) hx hb dX12_isIn_17 (by decide) ?_
    have hP9 := hP.sub (ws' := []) [] rfl
    have hD9 := hD.sub (ws' := []) [] (by decide) rfl
    refine W.widen (k := 0) (n := 0) (Nat.le_of_ble_eq_true rfl) (Nat.le_of_ble_eq_true rfl) ?_
    exact W.zret (v := 0) hx hb hr (by decide +kernel) (fun t ht hW => ⟨⟨0, ((fun _ => 0), (fun _ => (fun _ => 0)), (fun _ => (fun _ => 0)), (fun _ => 0), (fun _ => 0)), rfl, (by show (_ : Int32) = _; first | rfl | decide +kernel | (split <;> rename_i hh <;> first | rfl | (exfalso; have z0 : (0 : Int32).toInt = 0 := (by decide +kernel); have z1 : (1 : Int32).toInt = 1 := (by decide +kernel); have z2 : (9 : Int32).toInt = 9 := (by decide +kernel); have z3 : (100 : Int32).toInt = 100 := (by decide +kernel); have z4 : (0 : Int64).toInt = 0 := (by decide +kernel); have z5 : (1 : Int64).toInt = 1 := (by decide +kernel); (try simp only [lg_cmp_ge, lg_cmp_le, lg_cmp_gt, lg_cmp_lt, lg_cmp_eq] at c_1); simp only [q_lt, q_le, q_eq, q_lt64, q_le64, q_eq64, q_wide, z0, z1, z2, z3, z4, z5] at c_1 hh; omega))), by rw [ht]; exact hP9, hD9⟩, hS.F ht⟩) hS.2.2 dX12_isIn_18
  ·
    refine lv_lload_n (pc := 6) hx hb dX12_isIn_6 rfl (lv_at hl 0 rfl) ?_
    refine lv_lload (pc := 7) hx hb dX12_isIn_7 (lv_at hl 2 rfl) ?_
    refine W.lcmp hx hb dX12_isIn_9 ?_
    refine lv_if_gt (pc := 10) (tgt := 17) hx hb dX12_isIn_10 (by decide) (fun c_2 => ?_) (fun c_2 => ?_)
    ·
      refine lv_iconst (pc := 17) (v := 0) hx hb dX12_isIn_17 (by decide) ?_
      have hP9 := hP.sub (ws' := []) [] rfl
      have hD9 := hD.sub (ws' := []) [] (by decide) rfl
      refine W.widen (k := 0) (n := 0) (Nat.le_of_ble_eq_true rfl) (Nat.le_of_ble_eq_true rfl) ?_
      exact W.zret (v := 0) hx hb hr (by decide +kernel) (fun t ht hW => ⟨⟨0, ((fun _ => 0), (fun _ => (fun _ => 0)), (fun _ => (fun _ => 0)), (fun _ => 0), (fun _ => 0)), rfl, (by show (_ : Int32) = _; first | rfl | decide +kernel | (split <;> rename_i hh <;> first | rfl | (exfalso; have z0 : (0 : Int32).toInt = 0 := (by decide +kernel); have z1 : (1 : Int32).toInt = 1 := (by decide +kernel); have z2 : (9 : Int32).toInt = 9 := (by decide +kernel); have z3 : (100 : Int32).toInt = 100 := (by decide +kernel); have z4 : (0 : Int64).toInt = 0 := (by decide +kernel); have z5 : (1 : Int64).toInt = 1 := (by decide +kernel); (try simp only [lg_cmp_ge, lg_cmp_le, lg_cmp_gt, lg_cmp_lt, lg_cmp_eq] at c_1 c_2); simp only [q_lt, q_le, q_eq, q_lt64, q_le64, q_eq64, q_wide, z0, z1, z2, z3, z4, z5] at c_1 c_2 hh; omega))), by rw [ht]; exact hP9, hD9⟩, hS.F ht⟩) hS.2.2 dX12_isIn_18
    ·
      refine lv_iconst (pc := 13) (v := 1) hx hb dX12_isIn_13 (by decide) ?_
      refine lv_goto (pc := 14) (tgt := 18) hx hb dX12_isIn_14 (by decide) ?_
      have hP9 := hP.sub (ws' := []) [] rfl
      have hD9 := hD.sub (ws' := []) [] (by decide) rfl
      refine W.widen (k := 0) (n := 0) (Nat.le_of_ble_eq_true rfl) (Nat.le_of_ble_eq_true rfl) ?_
      exact W.zret (v := 1) hx hb hr (by decide +kernel) (fun t ht hW => ⟨⟨1, ((fun _ => 0), (fun _ => (fun _ => 0)), (fun _ => (fun _ => 0)), (fun _ => 0), (fun _ => 0)), rfl, (by show (_ : Int32) = _; first | rfl | decide +kernel | (split <;> rename_i hh <;> first | rfl | (exfalso; have z0 : (0 : Int32).toInt = 0 := (by decide +kernel); have z1 : (1 : Int32).toInt = 1 := (by decide +kernel); have z2 : (9 : Int32).toInt = 9 := (by decide +kernel); have z3 : (100 : Int32).toInt = 100 := (by decide +kernel); have z4 : (0 : Int64).toInt = 0 := (by decide +kernel); have z5 : (1 : Int64).toInt = 1 := (by decide +kernel); (try simp only [lg_cmp_ge, lg_cmp_le, lg_cmp_gt, lg_cmp_lt, lg_cmp_eq] at c_1 c_2); simp only [q_lt, q_le, q_eq, q_lt64, q_le64, q_eq64, q_wide, z0, z1, z2, z3, z4, z5] at c_1 c_2 hh; omega))), by rw [ht]; exact hP9, hD9⟩, hS.F ht⟩) hS.2.2 dX12_isIn_18
set_option maxHeartbeats 4000000 in
set_option maxRecDepth 100000 in
theorem cc_197_yX12_leave (l : Launch) (D : va_G) (cB cC cI cJ : ClassId) (sz : Nat) (a0 a1 a2 a3 a4 a5 a6 a7 a8 a9 a10 a11 a12 a13 a14 a15 a16 a17 a18 a19 a20 a21 a22 a23 a24 a25 a26 a27 a28 a29 a30 a31 a32 a33 a34 a35 a36 a37 a38 a39 a40 a41 a42 a43 : Nat) (x0 : Int32) : Met l yX12_leave (.code yX12_leave cX12_leave 4 (some .long) :: lw_gd) ({ frames := 1, cells := 0, slots := 0, locals := 25 }) (gPre D [(cB, .byte), (cC, .char), (cI, .int), (cJ, .long)] [.ref a0, .int x0] [(a0, .inr (12, [.ref a1, .int 0, .int 0, .int 0, .int 0, .int 0, .int 0, .int 0, .int (-1), .ref a2, .ref a3, .ref a4, .ref a5, .ref a6, .ref a7, .ref a8, .ref a9, .ref a10, .ref a11, .ref a12, .ref a13, .ref a14, .ref a15, .ref a16, .int 0, .int 0, .int 0, .int 0, .int 0, .int 9999, .ref a17, .ref a18, .ref a19, .int 0, .ref a20, .int 0, .ref a21, .int 0, .int 0, .ref a22, .ref a23, .ref a24, .ref a25, .int 0, .ref a26, .int 0, .ref a27, .ref a28, .ref a29, .long 0, .ref a30, .ref a31, .ref a32, .ref a33, .ref a34, .ref a35, .ref a36, .ref a37, .ref a38, .int 0, .int 0, .int 0, .long 0, .ref a39, .int 0, .ref a40, .ref a41, .ref a42, .ref a43, .int 0, .int 0, .int 0, .int 0]))] sz) (va_Ql (fun r _ => r = (-1)) (gB D (va_A [(a0, .inr (12, [.ref a1, .int 0, .int 0, .int 0, .int 0, .int 0, .int 0, .int 0, .int (-1), .ref a2, .ref a3, .ref a4, .ref a5, .ref a6, .ref a7, .ref a8, .ref a9, .ref a10, .ref a11, .ref a12, .ref a13, .ref a14, .ref a15, .ref a16, .int 0, .int 0, .int 0, .int 0, .int 0, .int 9999, .ref a17, .ref a18, .ref a19, .int 0, .ref a20, .int 0, .ref a21, .int 0, .int 0, .ref a22, .ref a23, .ref a24, .ref a25, .int 0, .ref a26, .int 0, .ref a27, .ref a28, .ref a29, .long 0, .ref a30, .ref a31, .ref a32, .ref a33, .ref a34, .ref a35, .ref a36, .ref a37, .ref a38, .int 0, .int 0, .int 0, .long 0, .ref a39, .int 0, .ref a40, .ref a41, .ref a42, .ref a43, .int 0, .int 0, .int 0, .int 0]))] sz) (fun u : gEx => [])) (va_A [(a0, .inr (12, [.ref a1, .int 0, .int 0, .int 0, .int 0, .int 0, .int 0, .int 0, .int (-1), .ref a2, .ref a3, .ref a4, .ref a5, .ref a6, .ref a7, .ref a8, .ref a9, .ref a10, .ref a11, .ref a12, .ref a13, .ref a14, .ref a15, .ref a16, .int 0, .int 0, .int 0, .int 0, .int 0, .int 9999, .ref a17, .ref a18, .ref a19, .int 0, .ref a20, .int 0, .ref a21, .int 0, .int 0, .ref a22, .ref a23, .ref a24, .ref a25, .int 0, .ref a26, .int 0, .ref a27, .ref a28, .ref a29, .long 0, .ref a30, .ref a31, .ref a32, .ref a33, .ref a34, .ref a35, .ref a36, .ref a37, .ref a38, .int 0, .int 0, .int 0, .long 0, .ref a39, .int 0, .ref a40, .ref a41, .ref a42, .ref a43, .int 0, .int 0, .int 0, .int 0]))] sz)) 0 0 (va_A [(a0, .inr (12, [.ref a1, .int 0, .int 0, .int 0, .int 0, .int 0, .int 0, .int 0, .int (-1), .ref a2, .ref a3, .ref a4, .ref a5, .ref a6, .ref a7, .ref a8, .ref a9, .ref a10, .ref a11, .ref a12, .ref a13, .ref a14, .ref a15, .ref a16, .int 0, .int 0, .int 0, .int 0, .int 0, .int 9999, .ref a17, .ref a18, .ref a19, .int 0, .ref a20, .int 0, .ref a21, .int 0, .int 0, .ref a22, .ref a23, .ref a24, .ref a25, .int 0, .ref a26, .int 0, .ref a27, .ref a28, .ref a29, .long 0, .ref a30, .ref a31, .ref a32, .ref a33, .ref a34, .ref a35, .ref a36, .ref a37, .ref a38, .int 0, .int 0, .int 0, .long 0, .ref a39, .int 0, .ref a40, .ref a41, .ref a42, .ref a43, .int 0, .int 0, .int 0, .int 0]))] sz) := by
  refine Met.ofW (cc := cX12_leave) (maxL := 4) (ret := (some .long)) (by decide) rfl ?_
  intro p e s m args below meth c s₁ B hml hv
  obtain ⟨rfl, hsz, hP, hK, hD0, hN⟩ := hv
  have hx := B.exec
  have hb := B.bytes
  have hr := B.returns
  have hts : ∀ w ∈ lw_gd, w.before _ s = true := fun w h => atoms_spec (ws := .code yX12_leave cX12_leave 4 (some .long) :: lw_gd) B.pre w (List.mem_cons_of_mem _ h)
  have hown : s.vm.findClass RX12 = some m.cls := findClass_of_methodNamed B.named
  have hlocks := B.notSynchronized
  subst hsz
  have hD := hD0.self (sz := s.heap.size)
  generalize hAe : va_A [(a0, .inr (12, [.ref a1, .int 0, .int 0, .int 0, .int 0, .int 0, .int 0, .int 0, .int (-1), .ref a2, .ref a3, .ref a4, .ref a5, .ref a6, .ref a7, .ref a8, .ref a9, .ref a10, .ref a11, .ref a12, .ref a13, .ref a14, .ref a15, .ref a16, .int 0, .int 0, .int 0, .int 0, .int 0, .int 9999, .ref a17, .ref a18, .ref a19, .int 0, .ref a20, .int 0, .ref a21, .int 0, .int 0, .ref a22, .ref a23, .ref a24, .ref a25, .int 0, .ref a26, .int 0, .ref a27, .ref a28, .ref a29, .long 0, .ref a30, .ref a31, .ref a32, .ref a33, .ref a34, .ref a35, .ref a36, .ref a37, .ref a38, .int 0, .int 0, .int 0, .long 0, .ref a39, .int 0, .ref a40, .ref a41, .ref a42, .ref a43, .int 0, .int 0, .int 0, .int 0]))] s.heap.size = A at hD ⊢
  have hA : ∀ q : Nat, s.heap.size ≤ q → A q := fun q h => by rw [← hAe]; exact Or.inr h
  have hS : va_S A s.heap s.heap [] := va_S.rf
  have hP : va_P D gcl [(a0, .inr (12, [.ref a1, .int 0, .int 0, .int 0, .int 0, .int 0, .int 0, .int 0, .int (-1), .ref a2, .ref a3, .ref a4, .ref a5, .ref a6, .ref a7, .ref a8, .ref a9, .ref a10, .ref a11, .ref a12, .ref a13, .ref a14, .ref a15, .ref a16, .int 0, .int 0, .int 0, .int 0, .int 0, .int 9999, .ref a17, .ref a18, .ref a19, .int 0, .ref a20, .int 0, .ref a21, .int 0, .int 0, .ref a22, .ref a23, .ref a24, .ref a25, .int 0, .ref a26, .int 0, .ref a27, .ref a28, .ref a29, .long 0, .ref a30, .ref a31, .ref a32, .ref a33, .ref a34, .ref a35, .ref a36, .ref a37, .ref a38, .int 0, .int 0, .int 0, .long 0, .ref a39, .int 0, .ref a40, .ref a41, .ref a42, .ref a43, .int 0, .int 0, .int 0, .int 0]))] s.heap := hP
  have hl := lv_entry ([.ref a0, .int x0]) (n := 4) (Nat.le_of_ble_eq_true rfl)
  rw [lg_entry_eq]
  generalize (lg_sl ([.ref a0, .int x0]) ++ List.replicate (4 - (lg_sl ([.ref a0, .int x0])).length) Slot.unset).toArray = ls at hl ⊢
  have hl : lv_has ls 4 [(0, .ref a0), (1, .int x0)] := hl
  refine lv_iload_n (pc := 0) hx hb dX12_leave_0 rfl (lv_at hl 1 rfl) ?_
  refine lv_i2l (pc := 1) (v := (x0.toInt64)) hx hb dX12_leave_1 rfl ?_
  refine lv_lconst (pc := 2) (v := 0) hx hb dX12_leave_2 (by decide) ?_
  refine lv_lconst (pc := 3) (v := 1) hx hb dX12_leave_3 (by decide) ?_
  refine gc_i (pc := 4) (wc := []) (wr := [(a0, .inr (12, [.ref a1, .int 0, .int 0, .int 0, .int 0, .int 0, .int 0, .int 0, .int (-1), .ref a2, .ref a3, .ref a4, .ref a5, .ref a6, .ref a7, .ref a8, .ref a9, .ref a10, .ref a11, .ref a12, .ref a13, .ref a14, .ref a15, .ref a16, .int 0, .int 0, .int 0, .int 0, .int 0, .int 9999, .ref a17, .ref a18, .ref a19, .int 0, .ref a20, .int 0, .ref a21, .int 0, .int 0, .ref a22, .ref a23, .ref a24, .ref a25, .int 0, .ref a26, .int 0, .ref a27, .ref a28, .ref a29, .long 0, .ref a30, .ref a31, .ref a32, .ref a33, .ref a34, .ref a35, .ref a36, .ref a37, .ref a38, .int 0, .int 0, .int 0, .long 0, .ref a39, .int 0, .ref a40, .ref a41, .ref a42, .ref a43, .int 0, .int 0, .int 0, .int 0]))]) hP hD hS hA [] [0] rfl rfl (by decide) (by decide) (by decide) (fun hPc hDc => va_runS (As := [.long (x0.toInt64), .long 0, .long 1]) (rest := []) ⟨hx, hb, hml, hown, hts⟩ (cc_196_yX12_isIn l D cB cC cI cJ _ (x0.toInt64)) ⟨gcwB hts tw_1666 tw_14 tw_1664 hd_yX12_isIn ⟨Nat.le_of_ble_eq_true rfl, Nat.le_of_ble_eq_true rfl⟩, hts _ tw_1665⟩ (gpreS hPc hK hDc hN) rfl rfl hl.1 rfl (lv_room (Nat.le_of_ble_eq_true rfl)) dX12_leave_4 ⟨Nat.le_of_ble_eq_true rfl, Nat.le_of_ble_eq_true rfl⟩) (fun r_2 u_1 H locs hw_3 hP hD hS => ?_)
  have hP : va_P D gcl [(a0, .inr (12, [.ref a1, .int 0, .int 0, .int 0, .int 0, .int 0, .int 0, .int 0, .int (-1), .ref a2, .ref a3, .ref a4, .ref a5, .ref a6, .ref a7, .ref a8, .ref a9, .ref a10, .ref a11, .ref a12, .ref a13, .ref a14, .ref a15, .ref a16, .int 0, .int 0, .int 0, .int 0, .int 0, .int 9999, .ref a17, .ref a18, .ref a19, .int 0, .ref a20, .int 0, .ref a21, .int 0, .int 0, .ref a22, .ref a23, .ref a24, .ref a25, .int 0, .ref a26, .int 0, .ref a27, .ref a28, .ref a29, .long 0, .ref a30, .ref a31, .ref a32, .ref a33, .ref a34, .ref a35, .ref a36, .ref a37, .ref a38, .int 0, .int 0, .int 0, .long 0, .ref a39, .int 0, .ref a40, .ref a41, .ref a42, .ref a43, .int 0, .int 0, .int 0, .int 0]))] H := hP
  have hD : va_D A [(a0, .inr (12, [.ref a1, .int 0, .int 0, .int 0, .int 0, .int 0, .int 0, .int 0, .int (-1), .ref a2, .ref a3, .ref a4, .ref a5, .ref a6, .ref a7, .ref a8, .ref a9, .ref a10, .ref a11, .ref a12, .ref a13, .ref a14, .ref a15, .ref a16, .int 0, .int 0, .int 0, .int 0, .int 0, .int 9999, .ref a17, .ref a18, .ref a19, .int 0, .ref a20, .int 0, .ref a21, .int 0, .int 0, .ref a22, .ref a23, .ref a24, .ref a25, .int 0, .ref a26, .int 0, .ref a27, .ref a28, .ref a29, .long 0, .ref a30, .ref a31, .ref a32, .ref a33, .ref a34, .ref a35, .ref a36, .ref a37, .ref a38, .int 0, .int 0, .int 0, .long 0, .ref a39, .int 0, .ref a40, .ref a41, .ref a42, .ref a43, .int 0, .int 0, .int 0, .int 0]))] := hD
  refine lv_if_eq (pc := 7) (tgt := 18) hx hb dX12_leave_7 (by decide) (fun c_4 => ?_) (fun c_4 => ?_)
  ·
    refine lv_ldc2 (pc := 18) hx hb hown (hts _ tw_1838) dX12_leave_18 ?_
    have hP9 := hP.sub (ws' := []) [] rfl
    have hD9 := hD.sub (ws' := []) [] (by decide) rfl
    refine W.widen (k := 0) (n := 0) (Nat.le_of_ble_eq_true rfl) (Nat.le_of_ble_eq_true rfl) ?_
    exact W.lret (v := (-1)) hx hb hr (fun t ht hW => ⟨⟨(-1), ((fun _ => 0), (fun _ => (fun _ => 0)), (fun _ => (fun _ => 0)), (fun _ => 0), (fun _ => 0)), rfl, rfl, by rw [ht]; exact hP9, hD9⟩, hS.F ht⟩) hS.2.2 dX12_leave_21
  ·
    refine lv_aload_n (pc := 10) hx hb dX12_leave_10 rfl (lv_at hl 0 rfl) ?_
    refine va_get (pc := 11) (ci := 12) (v := .int 0) (C := RX12) (T := TX12) (N := 73) hx hb hts iX12 hown hK hP 0 rfl rfl 28 (by decide) (hts _ tw_1429) (fun _ h9 => h9) rfl dX12_leave_11 ?_
    refine lv_iconst (pc := 14) (v := 3) hx hb dX12_leave_14 (by decide) ?_
    refine lv_icmp_ge (pc := 15) (tgt := 22) hx hb dX12_leave_15 (by decide) (fun c => absurd c (by decide +kernel)) (fun _ => ?_)
    refine lv_ldc2 (pc := 18) hx hb hown (hts _ tw_1838) dX12_leave_18 ?_
    have hP9 := hP.sub (ws' := []) [] rfl
    have hD9 := hD.sub (ws' := []) [] (by decide) rfl
    refine W.widen (k := 0) (n := 0) (Nat.le_of_ble_eq_true rfl) (Nat.le_of_ble_eq_true rfl) ?_
    exact W.lret (v := (-1)) hx hb hr (fun t ht hW => ⟨⟨(-1), ((fun _ => 0), (fun _ => (fun _ => 0)), (fun _ => (fun _ => 0)), (fun _ => 0), (fun _ => 0)), rfl, rfl, by rw [ht]; exact hP9, hD9⟩, hS.F ht⟩) hS.2.2 dX12_leave_21
set_option maxHeartbeats 4000000 in
set_option maxRecDepth 100000 in
theorem cc_198_yX11_behind (l : Launch) (D : va_G) (cB cC cI cJ : ClassId) (sz : Nat) (a0 a1 a2 a3 a4 a5 a6 a7 a8 a9 a10 a11 a12 a13 a14 a15 a16 : Nat) (x0 : Int32) : Met l yX11_behind (.code yX11_behind cX11_behind 4 (some .int) :: lw_gd) ({ frames := 1, cells := 0, slots := 0, locals := 21 }) (gPre D [(cB, .byte), (cC, .char), (cI, .int), (cJ, .long)] [.ref a0, .int x0] [(a0, .inr (11, [.ref a1, .ref a2, .ref a3, .ref a4, .ref a5, .ref a6, .ref a7, .ref a8, .ref a9, .ref a10, .int 0, .ref a11, .ref a12, .ref a13])), (a11, .inr (1, [.ref a14, .ref a15, .ref a16, .int 0, .int 0, .int 0, .int 0, .int 0, .int 9999, .int 0]))] sz) (va_Qi (fun r _ => r = (-1)) (gB D (va_A [(a0, .inr (11, [.ref a1, .ref a2, .ref a3, .ref a4, .ref a5, .ref a6, .ref a7, .ref a8, .ref a9, .ref a10, .int 0, .ref a11, .ref a12, .ref a13])), (a11, .inr (1, [.ref a14, .ref a15, .ref a16, .int 0, .int 0, .int 0, .int 0, .int 0, .int 9999, .int 0]))] sz) (fun u : gEx => [])) (va_A [(a0, .inr (11, [.ref a1, .ref a2, .ref a3, .ref a4, .ref a5, .ref a6, .ref a7, .ref a8, .ref a9, .ref a10, .int 0, .ref a11, .ref a12, .ref a13])), (a11, .inr (1, [.ref a14, .ref a15, .ref a16, .int 0, .int 0, .int 0, .int 0, .int 0, .int 9999, .int 0]))] sz)) 0 0 (va_A [(a0, .inr (11, [.ref a1, .ref a2, .ref a3, .ref a4, .ref a5, .ref a6, .ref a7, .ref a8, .ref a9, .ref a10, .int 0, .ref a11, .ref a12, .ref a13])), (a11, .inr (1, [.ref a14, .ref a15, .ref a16, .int 0, .int 0, .int 0, .int 0, .int 0, .int 9999, .int 0]))] sz) := by
  refine Met.ofW (cc := cX11_behind) (maxL := 4) (ret := (some .int)) (by decide) rfl ?_
  intro p e s m args below meth c s₁ B hml hv
  obtain ⟨rfl, hsz, hP, hK, hD0, hN⟩ := hv
  have hx := B.exec
  have hb := B.bytes
  have hr := B.returns
  have hts : ∀ w ∈ lw_gd, w.before _ s = true := fun w h => atoms_spec (ws := .code yX11_behind cX11_behind 4 (some .int) :: lw_gd) B.pre w (List.mem_cons_of_mem _ h)
  have hown : s.vm.findClass RX11 = some m.cls := findClass_of_methodNamed B.named
  have hlocks := B.notSynchronized
  subst hsz
  have hD := hD0.self (sz := s.heap.size)
  generalize hAe : va_A [(a0, .inr (11, [.ref a1, .ref a2, .ref a3, .ref a4, .ref a5, .ref a6, .ref a7, .ref a8, .ref a9, .ref a10, .int 0, .ref a11, .ref a12, .ref a13])), (a11, .inr (1, [.ref a14, .ref a15, .ref a16, .int 0, .int 0, .int 0, .int 0, .int 0, .int 9999, .int 0]))] s.heap.size = A at hD ⊢
  have hA : ∀ q : Nat, s.heap.size ≤ q → A q := fun q h => by rw [← hAe]; exact Or.inr h
  have hS : va_S A s.heap s.heap [] := va_S.rf
  have hP : va_P D gcl [(a0, .inr (11, [.ref a1, .ref a2, .ref a3, .ref a4, .ref a5, .ref a6, .ref a7, .ref a8, .ref a9, .ref a10, .int 0, .ref a11, .ref a12, .ref a13])), (a11, .inr (1, [.ref a14, .ref a15, .ref a16, .int 0, .int 0, .int 0, .int 0, .int 0, .int 9999, .int 0]))] s.heap := hP
  have hl := lv_entry ([.ref a0, .int x0]) (n := 4) (Nat.le_of_ble_eq_true rfl)
  rw [lg_entry_eq]
  generalize (lg_sl ([.ref a0, .int x0]) ++ List.replicate (4 - (lg_sl ([.ref a0, .int x0])).length) Slot.unset).toArray = ls at hl ⊢
  have hl : lv_has ls 4 [(0, .ref a0), (1, .int x0)] := hl
  refine lv_aload_n (pc := 0) hx hb dX11_behind_0 rfl (lv_at hl 0 rfl) ?_
  refine va_get (pc := 1) (ci := 11) (v := .ref a11) (C := RX11) (T := TX11) (N := 14) hx hb hts iX11 hown hK hP 0 rfl rfl 11 (by decide) (hts _ tw_431) (fun _ h9 => h9) rfl dX11_behind_1 ?_
  refine lv_iload_n (pc := 4) hx hb dX11_behind_4 rfl (lv_at hl 1 rfl) ?_
  refine gc_i (pc := 5) (wc := [(a11, .inr (1, [.ref a14, .ref a15, .ref a16, .int 0, .int 0, .int 0, .int 0, .int 0, .int 9999, .int 0]))]) (wr := [(a0, .inr (11, [.ref a1, .ref a2, .ref a3, .ref a4, .ref a5, .ref a6, .ref a7, .ref a8, .ref a9, .ref a10, .int 0, .ref a11, .ref a12, .ref a13]))]) hP hD hS hA [1] [0] rfl rfl (by decide) (by decide) (by decide) (fun hPc hDc => va_runV (As := [.int x0]) (rest := []) ⟨hx, hb, hml, hown, hts⟩ (cc_187_yX1_isWord l D cB cC cI cJ _ a11 a14 a15 a16 x0) ⟨gcwB hts tw_1177 tw_4 tw_1174 hd_yX1_isWord ⟨Nat.le_of_ble_eq_true rfl, Nat.le_of_ble_eq_true rfl⟩, hts _ tw_1175, hts _ tw_1176⟩ ⟨gblind, va_recv hK hPc (ci := 1) (q0 := 0) rfl rfl, (gpreS hPc hK hDc hN).2⟩ rfl rfl hl.1 rfl (lv_room (Nat.le_of_ble_eq_true rfl)) dX11_behind_5 ⟨Nat.le_of_ble_eq_true rfl, Nat.le_of_ble_eq_true rfl⟩) (fun r_2 u_1 H locs hw_3 hP hD hS => ?_)
  have hP : va_P D gcl [(a0, .inr (11, [.ref a1, .ref a2, .ref a3, .ref a4, .ref a5, .ref a6, .ref a7, .ref a8, .ref a9, .ref a10, .int 0, .ref a11, .ref a12, .ref a13])), (a11, .inr (1, [.ref a14, .ref a15, .ref a16, .int 0, .int 0, .int 0, .int 0, .int 0, .int 9999, .int 0]))] H := hP
  have hD : va_D A [(a0, .inr (11, [.ref a1, .ref a2, .ref a3, .ref a4, .ref a5, .ref a6, .ref a7, .ref a8, .ref a9, .ref a10, .int 0, .ref a11, .ref a12, .ref a13])), (a11, .inr (1, [.ref a14, .ref a15, .ref a16, .int 0, .int 0, .int 0, .int 0, .int 0, .int 9999, .int 0]))] := hD
  subst hw_3
  refine lv_if_ne (pc := 8) (tgt := 13) hx hb dX11_behind_8 (by decide) (fun c => absurd (by decide +kernel) c) (fun _ => ?_)
  refine lv_iconst (pc := 11) (v := (-1)) hx hb dX11_behind_11 (by decide) ?_
  have hP9 := hP.sub (ws' := []) [] rfl
  have hD9 := hD.sub (ws' := []) [] (by decide) rfl
  refine W.widen (k := 0) (n := 0) (Nat.le_of_ble_eq_true rfl) (Nat.le_of_ble_eq_true rfl) ?_
  exact W.iret (v := (-1)) hx hb hr (fun t ht hW => ⟨⟨(-1), ((fun _ => 0), (fun _ => (fun _ => 0)), (fun _ => (fun _ => 0)), (fun _ => 0), (fun _ => 0)), rfl, rfl, by rw [ht]; exact hP9, hD9⟩, hS.F ht⟩) hS.2.2 dX11_behind_12
set_option maxHeartbeats 4000000 in
set_option maxRecDepth 100000 in
theorem cc_199_yX12_isWord (l : Launch) (D : va_G) (cB cC cI cJ : ClassId) (sz : Nat) (a0 a1 a2 a3 a4 a5 a6 a7 a8 a9 a10 a11 a12 a13 a14 a15 a16 a17 a18 a19 a20 a21 a22 a23 a24 a25 a26 a27 a28 a29 a30 a31 a32 a33 a34 a35 a36 a37 a38 a39 a40 a41 a42 a43 : Nat) (x0 : Int32) : Met l yX12_isWord (.code yX12_isWord cX12_isWord 2 (some .boolean) :: lw_gd) ({ frames := 1, cells := 0, slots := 0, locals := 25 }) (gPre D [(cB, .byte), (cC, .char), (cI, .int), (cJ, .long)] [.ref a0, .int x0] [(a0, .inr (12, [.ref a1, .int 0, .int 0, .int 0, .int 0, .int 0, .int 0, .int 0, .int (-1), .ref a2, .ref a3, .ref a4, .ref a5, .ref a6, .ref a7, .ref a8, .ref a9, .ref a10, .ref a11, .ref a12, .ref a13, .ref a14, .ref a15, .ref a16, .int 0, .int 0, .int 0, .int 0, .int 0, .int 9999, .ref a17, .ref a18, .ref a19, .int 0, .ref a20, .int 0, .ref a21, .int 0, .int 0, .ref a22, .ref a23, .ref a24, .ref a25, .int 0, .ref a26, .int 0, .ref a27, .ref a28, .ref a29, .long 0, .ref a30, .ref a31, .ref a32, .ref a33, .ref a34, .ref a35, .ref a36, .ref a37, .ref a38, .int 0, .int 0, .int 0, .long 0, .ref a39, .int 0, .ref a40, .ref a41, .ref a42, .ref a43, .int 0, .int 0, .int 0, .int 0]))] sz) (va_Qi (fun r _ => r = 0) (gB D (va_A [(a0, .inr (12, [.ref a1, .int 0, .int 0, .int 0, .int 0, .int 0, .int 0, .int 0, .int (-1), .ref a2, .ref a3, .ref a4, .ref a5, .ref a6, .ref a7, .ref a8, .ref a9, .ref a10, .ref a11, .ref a12, .ref a13, .ref a14, .ref a15, .ref a16, .int 0, .int 0, .int 0, .int 0, .int 0, .int 9999, .ref a17, .ref a18, .ref a19, .int 0, .ref a20, .int 0, .ref a21, .int 0, .int 0, .ref a22, .ref a23, .ref a24, .ref a25, .int 0, .ref a26, .int 0, .ref a27, .ref a28, .ref a29, .long 0, .ref a30, .ref a31, .ref a32, .ref a33, .ref a34, .ref a35, .ref a36, .ref a37, .ref a38, .int 0, .int 0, .int 0, .long 0, .ref a39, .int 0, .ref a40, .ref a41, .ref a42, .ref a43, .int 0, .int 0, .int 0, .int 0]))] sz) (fun u : gEx => [(a0, .inr (12, [.ref a1, .int 0, .int 0, .int 0, .int 0, .int 0, .int 0, .int 0, .int (-1), .ref a2, .ref a3, .ref a4, .ref a5, .ref a6, .ref a7, .ref a8, .ref a9, .ref a10, .ref a11, .ref a12, .ref a13, .ref a14, .ref a15, .ref a16, .int 0, .int 0, .int 0, .int 0, .int 0, .int 9999, .ref a17, .ref a18, .ref a19, .int 0, .ref a20, .int 0, .ref a21, .int 0, .int 0, .ref a22, .ref a23, .ref a24, .ref a25, .int 0, .ref a26, .int 0, .ref a27, .ref a28, .ref a29, .long 0, .ref a30, .ref a31, .ref a32, .ref a33, .ref a34, .ref a35, .ref a36, .ref a37, .ref a38, .int 0, .int 0, .int 0, .long 0, .ref a39, .int 0, .ref a40, .ref a41, .ref a42, .ref a43, .int 0, .int 0, .int 0, .int 0]))])) (va_A [(a0, .inr (12, [.ref a1, .int 0, .int 0, .int 0, .int 0, .int 0, .int 0, .int 0, .int (-1), .ref a2, .ref a3, .ref a4, .ref a5, .ref a6, .ref a7, .ref a8, .ref a9, .ref a10, .ref a11, .ref a12, .ref a13, .ref a14, .ref a15, .ref a16, .int 0, .int 0, .int 0, .int 0, .int 0, .int 9999, .ref a17, .ref a18, .ref a19, .int 0, .ref a20, .int 0, .ref a21, .int 0, .int 0, .ref a22, .ref a23, .ref a24, .ref a25, .int 0, .ref a26, .int 0, .ref a27, .ref a28, .ref a29, .long 0, .ref a30, .ref a31, .ref a32, .ref a33, .ref a34, .ref a35, .ref a36, .ref a37, .ref a38, .int 0, .int 0, .int 0, .long 0, .ref a39, .int 0, .ref a40, .ref a41, .ref a42, .ref a43, .int 0, .int 0, .int 0, .int 0]))] sz)) 0 0 (va_A [(a0, .inr (12, [.ref a1, .int 0, .int 0, .int 0, .int 0, .int 0, .int 0, .int 0, .int (-1), .ref a2, .ref a3, .ref a4, .ref a5, .ref a6, .ref a7, .ref a8, .ref a9, .ref a10, .ref a11, .ref a12, .ref a13, .ref a14, .ref a15, .ref a16, .int 0, .int 0, .int 0, .int 0, .int 0, .int 9999, .ref a17, .ref a18, .ref a19, .int 0, .ref a20, .int 0, .ref a21, .int 0, .int 0, .ref a22, .ref a23, .ref a24, .ref a25, .int 0, .ref a26, .int 0, .ref a27, .ref a28, .ref a29, .long 0, .ref a30, .ref a31, .ref a32, .ref a33, .ref a34, .ref a35, .ref a36, .ref a37, .ref a38, .int 0, .int 0, .int 0, .long 0, .ref a39, .int 0, .ref a40, .ref a41, .ref a42, .ref a43, .int 0, .int 0, .int 0, .int 0]))] sz) := by
  refine Met.ofW (cc := cX12_isWord) (maxL := 2) (ret := (some .boolean)) (by decide) rfl ?_
  intro p e s m args below meth c s₁ B hml hv
  obtain ⟨rfl, hsz, hP, hK, hD0, hN⟩ := hv
  have hx := B.exec
  have hb := B.bytes
  have hr := B.returns
  have hts : ∀ w ∈ lw_gd, w.before _ s = true := fun w h => atoms_spec (ws := .code yX12_isWord cX12_isWord 2 (some .boolean) :: lw_gd) B.pre w (List.mem_cons_of_mem _ h)
  have hown : s.vm.findClass RX12 = some m.cls := findClass_of_methodNamed B.named
  have hlocks := B.notSynchronized
  subst hsz
  have hD := hD0.self (sz := s.heap.size)
  generalize hAe : va_A [(a0, .inr (12, [.ref a1, .int 0, .int 0, .int 0, .int 0, .int 0, .int 0, .int 0, .int (-1), .ref a2, .ref a3, .ref a4, .ref a5, .ref a6, .ref a7, .ref a8, .ref a9, .ref a10, .ref a11, .ref a12, .ref a13, .ref a14, .ref a15, .ref a16, .int 0, .int 0, .int 0, .int 0, .int 0, .int 9999, .ref a17, .ref a18, .ref a19, .int 0, .ref a20, .int 0, .ref a21, .int 0, .int 0, .ref a22, .ref a23, .ref a24, .ref a25, .int 0, .ref a26, .int 0, .ref a27, .ref a28, .ref a29, .long 0, .ref a30, .ref a31, .ref a32, .ref a33, .ref a34, .ref a35, .ref a36, .ref a37, .ref a38, .int 0, .int 0, .int 0, .long 0, .ref a39, .int 0, .ref a40, .ref a41, .ref a42, .ref a43, .int 0, .int 0, .int 0, .int 0]))] s.heap.size = A at hD ⊢
  have hA : ∀ q : Nat, s.heap.size ≤ q → A q := fun q h => by rw [← hAe]; exact Or.inr h
  have hS : va_S A s.heap s.heap [] := va_S.rf
  have hP : va_P D gcl [(a0, .inr (12, [.ref a1, .int 0, .int 0, .int 0, .int 0, .int 0, .int 0, .int 0, .int (-1), .ref a2, .ref a3, .ref a4, .ref a5, .ref a6, .ref a7, .ref a8, .ref a9, .ref a10, .ref a11, .ref a12, .ref a13, .ref a14, .ref a15, .ref a16, .int 0, .int 0, .int 0, .int 0, .int 0, .int 9999, .ref a17, .ref a18, .ref a19, .int 0, .ref a20, .int 0, .ref a21, .int 0, .int 0, .ref a22, .ref a23, .ref a24, .ref a25, .int 0, .ref a26, .int 0, .ref a27, .ref a28, .ref a29, .long 0, .ref a30, .ref a31, .ref a32, .ref a33, .ref a34, .ref a35, .ref a36, .ref a37, .ref a38, .int 0, .int 0, .int 0, .long 0, .ref a39, .int 0, .ref a40, .ref a41, .ref a42, .ref a43, .int 0, .int 0, .int 0, .int 0]))] s.heap := hP
  have hl := lv_entry ([.ref a0, .int x0]) (n := 2) (Nat.le_of_ble_eq_true rfl)
  rw [lg_entry_eq]
  generalize (lg_sl ([.ref a0, .int x0]) ++ List.replicate (2 - (lg_sl ([.ref a0, .int x0])).length) Slot.unset).toArray = ls at hl ⊢
  have hl : lv_has ls 2 [(0, .ref a0), (1, .int x0)] := hl
  refine lv_iload_n (pc := 0) hx hb dX12_isWord_0 rfl (lv_at hl 1 rfl) ?_
  refine lv_i2l (pc := 1) (v := (x0.toInt64)) hx hb dX12_isWord_1 rfl ?_
  refine lv_lconst (pc := 2) (v := 0) hx hb dX12_isWord_2 (by decide) ?_
  refine lv_aload_n (pc := 3) hx hb dX12_isWord_3 rfl (lv_at hl 0 rfl) ?_
  refine va_get (pc := 4) (ci := 12) (v := .int 0) (C := RX12) (T := TX12) (N := 73) hx hb hts iX12 hown hK hP 0 rfl rfl 28 (by decide) (hts _ tw_1429) (fun _ h9 => h9) rfl dX12_isWord_4 ?_
  refine lv_iconst (pc := 7) (v := 1) hx hb dX12_isWord_7 (by decide) ?_
  refine lv_isub (pc := 8) hx hb dX12_isWord_8 ?_
  refine gI (y := (-1)) (by decide +kernel) ?_
  refine lv_i2l (pc := 9) (v := (-1)) hx hb dX12_isWord_9 (by decide +kernel) ?_
  refine gc_i (pc := 10) (wc := []) (wr := [(a0, .inr (12, [.ref a1, .int 0, .int 0, .int 0, .int 0, .int 0, .int 0, .int 0, .int (-1), .ref a2, .ref a3, .ref a4, .ref a5, .ref a6, .ref a7, .ref a8, .ref a9, .ref a10, .ref a11, .ref a12, .ref a13, .ref a14, .ref a15, .ref a16, .int 0, .int 0, .int 0, .int 0, .int 0, .int 9999, .ref a17, .ref a18, .ref a19, .int 0, .ref a20, .int 0, .ref a21, .int 0, .int 0, .ref a22, .ref a23, .ref a24, .ref a25, .int 0, .ref a26, .int 0, .ref a27, .ref a28, .ref a29, .long 0, .ref a30, .ref a31, .ref a32, .ref a33, .ref a34, .ref a35, .ref a36, .ref a37, .ref a38, .int 0, .int 0, .int 0, .long 0, .ref a39, .int 0, .ref a40, .ref a41, .ref a42, .ref a43, .int 0, .int 0, .int 0, .int 0]))]) hP hD hS hA [] [0] rfl rfl (by decide) (by decide) (by decide) (fun hPc hDc => va_runS (As := [.long (x0.toInt64), .long 0, .long (-1)]) (rest := []) ⟨hx, hb, hml, hown, hts⟩ (cc_56_yX12_isIn l D cB cC cI cJ _ (x0.toInt64)) ⟨gcwB hts tw_1666 tw_14 tw_1664 hd_yX12_isIn ⟨Nat.le_of_ble_eq_true rfl, Nat.le_of_ble_eq_true rfl⟩, hts _ tw_1665⟩ (gpreS hPc hK hDc hN) rfl rfl hl.1 rfl (lv_room (Nat.le_of_ble_eq_true rfl)) dX12_isWord_10 ⟨Nat.le_of_ble_eq_true rfl, Nat.le_of_ble_eq_true rfl⟩) (fun r_2 u_1 H locs hw_3 hP hD hS => ?_)
  have hP : va_P D gcl [(a0, .inr (12, [.ref a1, .int 0, .int 0, .int 0, .int 0, .int 0, .int 0, .int 0, .int (-1), .ref a2, .ref a3, .ref a4, .ref a5, .ref a6, .ref a7, .ref a8, .ref a9, .ref a10, .ref a11, .ref a12, .ref a13, .ref a14, .ref a15, .ref a16, .int 0, .int 0, .int 0, .int 0, .int 0, .int 9999, .ref a17, .ref a18, .ref a19, .int 0, .ref a20, .int 0, .ref a21, .int 0, .int 0, .ref a22, .ref a23, .ref a24, .ref a25, .int 0, .ref a26, .int 0, .ref a27, .ref a28, .ref a29, .long 0, .ref a30, .ref a31, .ref a32, .ref a33, .ref a34, .ref a35, .ref a36, .ref a37, .ref a38, .int 0, .int 0, .int 0, .long 0, .ref a39, .int 0, .ref a40, .ref a41, .ref a42, .ref a43, .int 0, .int 0, .int 0, .int 0]))] H := hP
  have hD : va_D A [(a0, .inr (12, [.ref a1, .int 0, .int 0, .int 0, .int 0, .int 0, .int 0, .int 0, .int (-1), .ref a2, .ref a3, .ref a4, .ref a5, .ref a6, .ref a7, .ref a8, .ref a9, .ref a10, .ref a11, .ref a12, .ref a13, .ref a14, .ref a15, .ref a16, .int 0, .int 0, .int 0, .int 0, .int 0, .int 9999, .ref a17, .ref a18, .ref a19, .int 0, .ref a20, .int 0, .ref a21, .int 0, .int 0, .ref a22, .ref a23, .ref a24, .ref a25, .int 0, .ref a26, .int 0, .ref a27, .ref a28, .ref a29, .long 0, .ref a30, .ref a31, .ref a32, .ref a33, .ref a34, .ref a35, .ref a36, .ref a37, .ref a38, .int 0, .int 0, .int 0, .long 0, .ref a39, .int 0, .ref a40, .ref a41, .ref a42, .ref a43, .int 0, .int 0, .int 0, .int 0]))] := hD
  subst hw_3
  have hP9 := hP.sub (ws' := [(a0, .inr (12, [.ref a1, .int 0, .int 0, .int 0, .int 0, .int 0, .int 0, .int 0, .int (-1), .ref a2, .ref a3, .ref a4, .ref a5, .ref a6, .ref a7, .ref a8, .ref a9, .ref a10, .ref a11, .ref a12, .ref a13, .ref a14, .ref a15, .ref a16, .int 0, .int 0, .int 0, .int 0, .int 0, .int 9999, .ref a17, .ref a18, .ref a19, .int 0, .ref a20, .int 0, .ref a21, .int 0, .int 0, .ref a22, .ref a23, .ref a24, .ref a25, .int 0, .ref a26, .int 0, .ref a27, .ref a28, .ref a29, .long 0, .ref a30, .ref a31, .ref a32, .ref a33, .ref a34, .ref a35, .ref a36, .ref a37, .ref a38, .int 0, .int 0, .int 0, .long 0, .ref a39, .int 0, .ref a40, .ref a41, .ref a42, .ref a43, .int 0, .int 0, .int 0, .int 0]))]) [0] rfl
  have hD9 := hD.sub (ws' := [(a0, .inr (12, [.ref a1, .int 0, .int 0, .int 0, .int 0, .int 0, .int 0, .int 0, .int (-1), .ref a2, .ref a3, .ref a4, .ref a5, .ref a6, .ref a7, .ref a8, .ref a9, .ref a10, .ref a11, .ref a12, .ref a13, .ref a14, .ref a15, .ref a16, .int 0, .int 0, .int 0, .int 0, .int 0, .int 9999, .ref a17, .ref a18, .ref a19, .int 0, .ref a20, .int 0, .ref a21, .int 0, .int 0, .ref a22, .ref a23, .ref a24, .ref a25, .int 0, .ref a26, .int 0, .ref a27, .ref a28, .ref a29, .long 0, .ref a30, .ref a31, .ref a32, .ref a33, .ref a34, .ref a35, .ref a36, .ref a37, .ref a38, .int 0, .int 0, .int 0, .long 0, .ref a39, .int 0, .ref a40, .ref a41, .ref a42, .ref a43, .int 0, .int 0, .int 0, .int 0]))]) [0] (by decide) rfl
  refine W.widen (k := 0) (n := 0) (Nat.le_of_ble_eq_true rfl) (Nat.le_of_ble_eq_true rfl) ?_
  exact W.zret (v := 0) hx hb hr (by decide +kernel) (fun t ht hW => ⟨⟨0, ((fun _ => 0), (fun _ => (fun _ => 0)), (fun _ => (fun _ => 0)), (fun _ => 0), (fun _ => 0)), rfl, rfl, by rw [ht]; exact hP9, hD9⟩, hS.F ht⟩) hS.2.2 dX12_isWord_13
set_option maxHeartbeats 4000000 in
set_option maxRecDepth 100000 in
theorem cc_200_yX12_behind (l : Launch) (D : va_G) (cB cC cI cJ : ClassId) (sz : Nat) (a0 a1 a2 a3 a4 a5 a6 a7 a8 a9 a10 a11 a12 a13 a14 a15 a16 a17 a18 a19 a20 a21 a22 a23 a24 a25 a26 a27 a28 a29 a30 a31 a32 a33 a34 a35 a36 a37 a38 a39 a40 a41 a42 a43 : Nat) (x0 : Int32) : Met l yX12_behind (.code yX12_behind cX12_behind 9 (some .int) :: lw_gd) ({ frames := 2, cells := 0, slots := 0, locals := 46 }) (gPre D [(cB, .byte), (cC, .char), (cI, .int), (cJ, .long)] [.ref a0, .int x0] [(a0, .inr (12, [.ref a1, .int 0, .int 0, .int 0, .int 0, .int 0, .int 0, .int 0, .int (-1), .ref a2, .ref a3, .ref a4, .ref a5, .ref a6, .ref a7, .ref a8, .ref a9, .ref a10, .ref a11, .ref a12, .ref a13, .ref a14, .ref a15, .ref a16, .int 0, .int 0, .int 0, .int 0, .int 0, .int 9999, .ref a17, .ref a18, .ref a19, .int 0, .ref a20, .int 0, .ref a21, .int 0, .int 0, .ref a22, .ref a23, .ref a24, .ref a25, .int 0, .ref a26, .int 0, .ref a27, .ref a28, .ref a29, .long 0, .ref a30, .ref a31, .ref a32, .ref a33, .ref a34, .ref a35, .ref a36, .ref a37, .ref a38, .int 0, .int 0, .int 0, .long 0, .ref a39, .int 0, .ref a40, .ref a41, .ref a42, .ref a43, .int 0, .int 0, .int 0, .int 0]))] sz) (va_Qi (fun r _ => r = (-1)) (gB D (va_A [(a0, .inr (12, [.ref a1, .int 0, .int 0, .int 0, .int 0, .int 0, .int 0, .int 0, .int (-1), .ref a2, .ref a3, .ref a4, .ref a5, .ref a6, .ref a7, .ref a8, .ref a9, .ref a10, .ref a11, .ref a12, .ref a13, .ref a14, .ref a15, .ref a16, .int 0, .int 0, .int 0, .int 0, .int 0, .int 9999, .ref a17, .ref a18, .ref a19, .int 0, .ref a20, .int 0, .ref a21, .int 0, .int 0, .ref a22, .ref a23, .ref a24, .ref a25, .int 0, .ref a26, .int 0, .ref a27, .ref a28, .ref a29, .long 0, .ref a30, .ref a31, .ref a32, .ref a33, .ref a34, .ref a35, .ref a36, .ref a37, .ref a38, .int 0, .int 0, .int 0, .long 0, .ref a39, .int 0, .ref a40, .ref a41, .ref a42, .ref a43, .int 0, .int 0, .int 0, .int 0]))] sz) (fun u : gEx => [])) (va_A [(a0, .inr (12, [.ref a1, .int 0, .int 0, .int 0, .int 0, .int 0, .int 0, .int 0, .int (-1), .ref a2, .ref a3, .ref a4, .ref a5, .ref a6, .ref a7, .ref a8, .ref a9, .ref a10, .ref a11, .ref a12, .ref a13, .ref a14, .ref a15, .ref a16, .int 0, .int 0, .int 0, .int 0, .int 0, .int 9999, .ref a17, .ref a18, .ref a19, .int 0, .ref a20, .int 0, .ref a21, .int 0, .int 0, .ref a22, .ref a23, .ref a24, .ref a25, .int 0, .ref a26, .int 0, .ref a27, .ref a28, .ref a29, .long 0, .ref a30, .ref a31, .ref a32, .ref a33, .ref a34, .ref a35, .ref a36, .ref a37, .ref a38, .int 0, .int 0, .int 0, .long 0, .ref a39, .int 0, .ref a40, .ref a41, .ref a42, .ref a43, .int 0, .int 0, .int 0, .int 0]))] sz)) 0 0 (va_A [(a0, .inr (12, [.ref a1, .int 0, .int 0, .int 0, .int 0, .int 0, .int 0, .int 0, .int (-1), .ref a2, .ref a3, .ref a4, .ref a5, .ref a6, .ref a7, .ref a8, .ref a9, .ref a10, .ref a11, .ref a12, .ref a13, .ref a14, .ref a15, .ref a16, .int 0, .int 0, .int 0, .int 0, .int 0, .int 9999, .ref a17, .ref a18, .ref a19, .int 0, .ref a20, .int 0, .ref a21, .int 0, .int 0, .ref a22, .ref a23, .ref a24, .ref a25, .int 0, .ref a26, .int 0, .ref a27, .ref a28, .ref a29, .long 0, .ref a30, .ref a31, .ref a32, .ref a33, .ref a34, .ref a35, .ref a36, .ref a37, .ref a38, .int 0, .int 0, .int 0, .long 0, .ref a39, .int 0, .ref a40, .ref a41, .ref a42, .ref a43, .int 0, .int 0, .int 0, .int 0]))] sz) := by
  refine Met.ofW (cc := cX12_behind) (maxL := 9) (ret := (some .int)) (by decide) rfl ?_
  intro p e s m args below meth c s₁ B hml hv
  obtain ⟨rfl, hsz, hP, hK, hD0, hN⟩ := hv
  have hx := B.exec
  have hb := B.bytes
  have hr := B.returns
  have hts : ∀ w ∈ lw_gd, w.before _ s = true := fun w h => atoms_spec (ws := .code yX12_behind cX12_behind 9 (some .int) :: lw_gd) B.pre w (List.mem_cons_of_mem _ h)
  have hown : s.vm.findClass RX12 = some m.cls := findClass_of_methodNamed B.named
  have hlocks := B.notSynchronized
  subst hsz
  have hD := hD0.self (sz := s.heap.size)
  generalize hAe : va_A [(a0, .inr (12, [.ref a1, .int 0, .int 0, .int 0, .int 0, .int 0, .int 0, .int 0, .int (-1), .ref a2, .ref a3, .ref a4, .ref a5, .ref a6, .ref a7, .ref a8, .ref a9, .ref a10, .ref a11, .ref a12, .ref a13, .ref a14, .ref a15, .ref a16, .int 0, .int 0, .int 0, .int 0, .int 0, .int 9999, .ref a17, .ref a18, .ref a19, .int 0, .ref a20, .int 0, .ref a21, .int 0, .int 0, .ref a22, .ref a23, .ref a24, .ref a25, .int 0, .ref a26, .int 0, .ref a27, .ref a28, .ref a29, .long 0, .ref a30, .ref a31, .ref a32, .ref a33, .ref a34, .ref a35, .ref a36, .ref a37, .ref a38, .int 0, .int 0, .int 0, .long 0, .ref a39, .int 0, .ref a40, .ref a41, .ref a42, .ref a43, .int 0, .int 0, .int 0, .int 0]))] s.heap.size = A at hD ⊢
  have hA : ∀ q : Nat, s.heap.size ≤ q → A q := fun q h => by rw [← hAe]; exact Or.inr h
  have hS : va_S A s.heap s.heap [] := va_S.rf
  have hP : va_P D gcl [(a0, .inr (12, [.ref a1, .int 0, .int 0, .int 0, .int 0, .int 0, .int 0, .int 0, .int (-1), .ref a2, .ref a3, .ref a4, .ref a5, .ref a6, .ref a7, .ref a8, .ref a9, .ref a10, .ref a11, .ref a12, .ref a13, .ref a14, .ref a15, .ref a16, .int 0, .int 0, .int 0, .int 0, .int 0, .int 9999, .ref a17, .ref a18, .ref a19, .int 0, .ref a20, .int 0, .ref a21, .int 0, .int 0, .ref a22, .ref a23, .ref a24, .ref a25, .int 0, .ref a26, .int 0, .ref a27, .ref a28, .ref a29, .long 0, .ref a30, .ref a31, .ref a32, .ref a33, .ref a34, .ref a35, .ref a36, .ref a37, .ref a38, .int 0, .int 0, .int 0, .long 0, .ref a39, .int 0, .ref a40, .ref a41, .ref a42, .ref a43, .int 0, .int 0, .int 0, .int 0]))] s.heap := hP
  have hl := lv_entry ([.ref a0, .int x0]) (n := 9) (Nat.le_of_ble_eq_true rfl)
  rw [lg_entry_eq]
  generalize (lg_sl ([.ref a0, .int x0]) ++ List.replicate (9 - (lg_sl ([.ref a0, .int x0])).length) Slot.unset).toArray = ls at hl ⊢
  have hl : lv_has ls 9 [(0, .ref a0), (1, .int x0)] := hl
  refine lv_aload_n (pc := 0) hx hb dX12_behind_0 rfl (lv_at hl 0 rfl) ?_
  refine lv_iload_n (pc := 1) hx hb dX12_behind_1 rfl (lv_at hl 1 rfl) ?_
  refine gc_i (pc := 2) (wc := [(a0, .inr (12, [.ref a1, .int 0, .int 0, .int 0, .int 0, .int 0, .int 0, .int 0, .int (-1), .ref a2, .ref a3, .ref a4, .ref a5, .ref a6, .ref a7, .ref a8, .ref a9, .ref a10, .ref a11, .ref a12, .ref a13, .ref a14, .ref a15, .ref a16, .int 0, .int 0, .int 0, .int 0, .int 0, .int 9999, .ref a17, .ref a18, .ref a19, .int 0, .ref a20, .int 0, .ref a21, .int 0, .int 0, .ref a22, .ref a23, .ref a24, .ref a25, .int 0, .ref a26, .int 0, .ref a27, .ref a28, .ref a29, .long 0, .ref a30, .ref a31, .ref a32, .ref a33, .ref a34, .ref a35, .ref a36, .ref a37, .ref a38, .int 0, .int 0, .int 0, .long 0, .ref a39, .int 0, .ref a40, .ref a41, .ref a42, .ref a43, .int 0, .int 0, .int 0, .int 0]))]) (wr := []) hP hD hS hA [0] [] rfl rfl (by decide) (by decide) (by decide) (fun hPc hDc => va_runV (As := [.int x0]) (rest := []) ⟨hx, hb, hml, hown, hts⟩ (cc_199_yX12_isWord l D cB cC cI cJ _ a0 a1 a2 a3 a4 a5 a6 a7 a8 a9 a10 a11 a12 a13 a14 a15 a16 a17 a18 a19 a20 a21 a22 a23 a24 a25 a26 a27 a28 a29 a30 a31 a32 a33 a34 a35 a36 a37 a38 a39 a40 a41 a42 a43 x0) ⟨gcwB hts tw_2012 tw_14 tw_2009 hd_yX12_isWord ⟨Nat.le_of_ble_eq_true rfl, Nat.le_of_ble_eq_true rfl⟩, hts _ tw_2011, hts _ tp_113⟩ ⟨gblind, va_recv hK hPc (ci := 12) (q0 := 0) rfl rfl, (gpreS hPc hK hDc hN).2⟩ rfl rfl hl.1 rfl (lv_room (Nat.le_of_ble_eq_true rfl)) dX12_behind_2 ⟨Nat.le_of_ble_eq_true rfl, Nat.le_of_ble_eq_true rfl⟩) (fun r_2 u_1 H locs hw_3 hP hD hS => ?_)
  have hP : va_P D gcl [(a0, .inr (12, [.ref a1, .int 0, .int 0, .int 0, .int 0, .int 0, .int 0, .int 0, .int (-1), .ref a2, .ref a3, .ref a4, .ref a5, .ref a6, .ref a7, .ref a8, .ref a9, .ref a10, .ref a11, .ref a12, .ref a13, .ref a14, .ref a15, .ref a16, .int 0, .int 0, .int 0, .int 0, .int 0, .int 9999, .ref a17, .ref a18, .ref a19, .int 0, .ref a20, .int 0, .ref a21, .int 0, .int 0, .ref a22, .ref a23, .ref a24, .ref a25, .int 0, .ref a26, .int 0, .ref a27, .ref a28, .ref a29, .long 0, .ref a30, .ref a31, .ref a32, .ref a33, .ref a34, .ref a35, .ref a36, .ref a37, .ref a38, .int 0, .int 0, .int 0, .long 0, .ref a39, .int 0, .ref a40, .ref a41, .ref a42, .ref a43, .int 0, .int 0, .int 0, .int 0]))] H := hP
  have hD : va_D A [(a0, .inr (12, [.ref a1, .int 0, .int 0, .int 0, .int 0, .int 0, .int 0, .int 0, .int (-1), .ref a2, .ref a3, .ref a4, .ref a5, .ref a6, .ref a7, .ref a8, .ref a9, .ref a10, .ref a11, .ref a12, .ref a13, .ref a14, .ref a15, .ref a16, .int 0, .int 0, .int 0, .int 0, .int 0, .int 9999, .ref a17, .ref a18, .ref a19, .int 0, .ref a20, .int 0, .ref a21, .int 0, .int 0, .ref a22, .ref a23, .ref a24, .ref a25, .int 0, .ref a26, .int 0, .ref a27, .ref a28, .ref a29, .long 0, .ref a30, .ref a31, .ref a32, .ref a33, .ref a34, .ref a35, .ref a36, .ref a37, .ref a38, .int 0, .int 0, .int 0, .long 0, .ref a39, .int 0, .ref a40, .ref a41, .ref a42, .ref a43, .int 0, .int 0, .int 0, .int 0]))] := hD
  subst hw_3
  refine lv_if_ne (pc := 5) (tgt := 10) hx hb dX12_behind_5 (by decide) (fun c => absurd (by decide +kernel) c) (fun _ => ?_)
  refine lv_iconst (pc := 8) (v := (-1)) hx hb dX12_behind_8 (by decide) ?_
  have hP9 := hP.sub (ws' := []) [] rfl
  have hD9 := hD.sub (ws' := []) [] (by decide) rfl
  refine W.widen (k := 0) (n := 0) (Nat.le_of_ble_eq_true rfl) (Nat.le_of_ble_eq_true rfl) ?_
  exact W.iret (v := (-1)) hx hb hr (fun t ht hW => ⟨⟨(-1), ((fun _ => 0), (fun _ => (fun _ => 0)), (fun _ => (fun _ => 0)), (fun _ => 0), (fun _ => 0)), rfl, rfl, by rw [ht]; exact hP9, hD9⟩, hS.F ht⟩) hS.2.2 dX12_behind_9
set_option maxHeartbeats 4000000 in
set_option maxRecDepth 100000 in
theorem cc_201_yX11_unlike (l : Launch) (D : va_G) (cB cC cI cJ : ClassId) (sz : Nat) (a0 a1 a2 a3 a4 a5 a6 a7 a8 a9 a10 a11 a12 a13 a14 a15 a16 : Nat) (x0 x1 : Int32) : Met l yX11_unlike (.code yX11_unlike cX11_unlike 5 (some .int) :: lw_gd) ({ frames := 1, cells := 0, slots := 0, locals := 21 }) (gPre D [(cB, .byte), (cC, .char), (cI, .int), (cJ, .long)] [.ref a0, .int x0, .int x1] [(a0, .inr (11, [.ref a1, .ref a2, .ref a3, .ref a4, .ref a5, .ref a6, .ref a7, .ref a8, .ref a9, .ref a10, .int 0, .ref a11, .ref a12, .ref a13])), (a11, .inr (1, [.ref a14, .ref a15, .ref a16, .int 0, .int 0, .int 0, .int 0, .int 0, .int 9999, .int 0]))] sz) (va_Qi (fun r _ => r = (-1)) (gB D (va_A [(a0, .inr (11, [.ref a1, .ref a2, .ref a3, .ref a4, .ref a5, .ref a6, .ref a7, .ref a8, .ref a9, .ref a10, .int 0, .ref a11, .ref a12, .ref a13])), (a11, .inr (1, [.ref a14, .ref a15, .ref a16, .int 0, .int 0, .int 0, .int 0, .int 0, .int 9999, .int 0]))] sz) (fun u : gEx => [])) (va_A [(a0, .inr (11, [.ref a1, .ref a2, .ref a3, .ref a4, .ref a5, .ref a6, .ref a7, .ref a8, .ref a9, .ref a10, .int 0, .ref a11, .ref a12, .ref a13])), (a11, .inr (1, [.ref a14, .ref a15, .ref a16, .int 0, .int 0, .int 0, .int 0, .int 0, .int 9999, .int 0]))] sz)) 0 0 (va_A [(a0, .inr (11, [.ref a1, .ref a2, .ref a3, .ref a4, .ref a5, .ref a6, .ref a7, .ref a8, .ref a9, .ref a10, .int 0, .ref a11, .ref a12, .ref a13])), (a11, .inr (1, [.ref a14, .ref a15, .ref a16, .int 0, .int 0, .int 0, .int 0, .int 0, .int 9999, .int 0]))] sz) := by
  refine Met.ofW (cc := cX11_unlike) (maxL := 5) (ret := (some .int)) (by decide) rfl ?_
  intro p e s m args below meth c s₁ B hml hv
  obtain ⟨rfl, hsz, hP, hK, hD0, hN⟩ := hv
  have hx := B.exec
  have hb := B.bytes
  have hr := B.returns
  have hts : ∀ w ∈ lw_gd, w.before _ s = true := fun w h => atoms_spec (ws := .code yX11_unlike cX11_unlike 5 (some .int) :: lw_gd) B.pre w (List.mem_cons_of_mem _ h)
  have hown : s.vm.findClass RX11 = some m.cls := findClass_of_methodNamed B.named
  have hlocks := B.notSynchronized
  subst hsz
  have hD := hD0.self (sz := s.heap.size)
  generalize hAe : va_A [(a0, .inr (11, [.ref a1, .ref a2, .ref a3, .ref a4, .ref a5, .ref a6, .ref a7, .ref a8, .ref a9, .ref a10, .int 0, .ref a11, .ref a12, .ref a13])), (a11, .inr (1, [.ref a14, .ref a15, .ref a16, .int 0, .int 0, .int 0, .int 0, .int 0, .int 9999, .int 0]))] s.heap.size = A at hD ⊢
  have hA : ∀ q : Nat, s.heap.size ≤ q → A q := fun q h => by rw [← hAe]; exact Or.inr h
  have hS : va_S A s.heap s.heap [] := va_S.rf
  have hP : va_P D gcl [(a0, .inr (11, [.ref a1, .ref a2, .ref a3, .ref a4, .ref a5, .ref a6, .ref a7, .ref a8, .ref a9, .ref a10, .int 0, .ref a11, .ref a12, .ref a13])), (a11, .inr (1, [.ref a14, .ref a15, .ref a16, .int 0, .int 0, .int 0, .int 0, .int 0, .int 9999, .int 0]))] s.heap := hP
  have hl := lv_entry ([.ref a0, .int x0, .int x1]) (n := 5) (Nat.le_of_ble_eq_true rfl)
  rw [lg_entry_eq]
  generalize (lg_sl ([.ref a0, .int x0, .int x1]) ++ List.replicate (5 - (lg_sl ([.ref a0, .int x0, .int x1])).length) Slot.unset).toArray = ls at hl ⊢
  have hl : lv_has ls 5 [(0, .ref a0), (1, .int x0), (2, .int x1)] := hl
  refine lv_aload_n (pc := 0) hx hb dX11_unlike_0 rfl (lv_at hl 0 rfl) ?_
  refine va_get (pc := 1) (ci := 11) (v := .ref a11) (C := RX11) (T := TX11) (N := 14) hx hb hts iX11 hown hK hP 0 rfl rfl 11 (by decide) (hts _ tw_431) (fun _ h9 => h9) rfl dX11_unlike_1 ?_
  refine lv_iload_n (pc := 4) hx hb dX11_unlike_4 rfl (lv_at hl 1 rfl) ?_
  refine gc_i (pc := 5) (wc := [(a11, .inr (1, [.ref a14, .ref a15, .ref a16, .int 0, .int 0, .int 0, .int 0, .int 0, .int 9999, .int 0]))]) (wr := [(a0, .inr (11, [.ref a1, .ref a2, .ref a3, .ref a4, .ref a5, .ref a6, .ref a7, .ref a8, .ref a9, .ref a10, .int 0, .ref a11, .ref a12, .ref a13]))]) hP hD hS hA [1] [0] rfl rfl (by decide) (by decide) (by decide) (fun hPc hDc => va_runV (As := [.int x0]) (rest := []) ⟨hx, hb, hml, hown, hts⟩ (cc_187_yX1_isWord l D cB cC cI cJ _ a11 a14 a15 a16 x0) ⟨gcwB hts tw_1177 tw_4 tw_1174 hd_yX1_isWord ⟨Nat.le_of_ble_eq_true rfl, Nat.le_of_ble_eq_true rfl⟩, hts _ tw_1175, hts _ tw_1176⟩ ⟨gblind, va_recv hK hPc (ci := 1) (q0 := 0) rfl rfl, (gpreS hPc hK hDc hN).2⟩ rfl rfl hl.1 rfl (lv_room (Nat.le_of_ble_eq_true rfl)) dX11_unlike_5 ⟨Nat.le_of_ble_eq_true rfl, Nat.le_of_ble_eq_true rfl⟩) (fun r_2 u_1 H locs hw_3 hP hD hS => ?_)
  have hP : va_P D gcl [(a0, .inr (11, [.ref a1, .ref a2, .ref a3, .ref a4, .ref a5, .ref a6, .ref a7, .ref a8, .ref a9, .ref a10, .int 0, .ref a11, .ref a12, .ref a13])), (a11, .inr (1, [.ref a14, .ref a15, .ref a16, .int 0, .int 0, .int 0, .int 0, .int 0, .int 9999, .int 0]))] H := hP
  have hD : va_D A [(a0, .inr (11, [.ref a1, .ref a2, .ref a3, .ref a4, .ref a5, .ref a6, .ref a7, .ref a8, .ref a9, .ref a10, .int 0, .ref a11, .ref a12, .ref a13])), (a11, .inr (1, [.ref a14, .ref a15, .ref a16, .int 0, .int 0, .int 0, .int 0, .int 0, .int 9999, .int 0]))] := hD
  subst hw_3
  refine lv_if_eq (pc := 8) (tgt := 22) hx hb dX11_unlike_8 (by decide) (fun _ => ?_) (fun c => absurd (by decide +kernel) c)
  refine lv_iconst (pc := 22) (v := (-1)) hx hb dX11_unlike_22 (by decide) ?_
  have hP9 := hP.sub (ws' := []) [] rfl
  have hD9 := hD.sub (ws' := []) [] (by decide) rfl
  refine W.widen (k := 0) (n := 0) (Nat.le_of_ble_eq_true rfl) (Nat.le_of_ble_eq_true rfl) ?_
  exact W.iret (v := (-1)) hx hb hr (fun t ht hW => ⟨⟨(-1), ((fun _ => 0), (fun _ => (fun _ => 0)), (fun _ => (fun _ => 0)), (fun _ => 0), (fun _ => 0)), rfl, rfl, by rw [ht]; exact hP9, hD9⟩, hS.F ht⟩) hS.2.2 dX11_unlike_23
set_option maxHeartbeats 4000000 in
set_option maxRecDepth 100000 in
theorem cc_202_yX12_unlike (l : Launch) (D : va_G) (cB cC cI cJ : ClassId) (sz : Nat) (a0 a1 a2 a3 a4 a5 a6 a7 a8 a9 a10 a11 a12 a13 a14 a15 a16 a17 a18 a19 a20 a21 a22 a23 a24 a25 a26 a27 a28 a29 a30 a31 a32 a33 a34 a35 a36 a37 a38 a39 a40 a41 a42 a43 : Nat) (x0 x1 : Int32) : Met l yX12_unlike (.code yX12_unlike cX12_unlike 5 (some .int) :: lw_gd) ({ frames := 2, cells := 0, slots := 0, locals := 46 }) (gPre D [(cB, .byte), (cC, .char), (cI, .int), (cJ, .long)] [.ref a0, .int x0, .int x1] [(a0, .inr (12, [.ref a1, .int 0, .int 0, .int 0, .int 0, .int 0, .int 0, .int 0, .int (-1), .ref a2, .ref a3, .ref a4, .ref a5, .ref a6, .ref a7, .ref a8, .ref a9, .ref a10, .ref a11, .ref a12, .ref a13, .ref a14, .ref a15, .ref a16, .int 0, .int 0, .int 0, .int 0, .int 0, .int 9999, .ref a17, .ref a18, .ref a19, .int 0, .ref a20, .int 0, .ref a21, .int 0, .int 0, .ref a22, .ref a23, .ref a24, .ref a25, .int 0, .ref a26, .int 0, .ref a27, .ref a28, .ref a29, .long 0, .ref a30, .ref a31, .ref a32, .ref a33, .ref a34, .ref a35, .ref a36, .ref a37, .ref a38, .int 0, .int 0, .int 0, .long 0, .ref a39, .int 0, .ref a40, .ref a41, .ref a42, .ref a43, .int 0, .int 0, .int 0, .int 0]))] sz) (va_Qi (fun r _ => r = (-1)) (gB D (va_A [(a0, .inr (12, [.ref a1, .int 0, .int 0, .int 0, .int 0, .int 0, .int 0, .int 0, .int (-1), .ref a2, .ref a3, .ref a4, .ref a5, .ref a6, .ref a7, .ref a8, .ref a9, .ref a10, .ref a11, .ref a12, .ref a13, .ref a14, .ref a15, .ref a16, .int 0, .int 0, .int 0, .int 0, .int 0, .int 9999, .ref a17, .ref a18, .ref a19, .int 0, .ref a20, .int 0, .ref a21, .int 0, .int 0, .ref a22, .ref a23, .ref a24, .ref a25, .int 0, .ref a26, .int 0, .ref a27, .ref a28, .ref a29, .long 0, .ref a30, .ref a31, .ref a32, .ref a33, .ref a34, .ref a35, .ref a36, .ref a37, .ref a38, .int 0, .int 0, .int 0, .long 0, .ref a39, .int 0, .ref a40, .ref a41, .ref a42, .ref a43, .int 0, .int 0, .int 0, .int 0]))] sz) (fun u : gEx => [])) (va_A [(a0, .inr (12, [.ref a1, .int 0, .int 0, .int 0, .int 0, .int 0, .int 0, .int 0, .int (-1), .ref a2, .ref a3, .ref a4, .ref a5, .ref a6, .ref a7, .ref a8, .ref a9, .ref a10, .ref a11, .ref a12, .ref a13, .ref a14, .ref a15, .ref a16, .int 0, .int 0, .int 0, .int 0, .int 0, .int 9999, .ref a17, .ref a18, .ref a19, .int 0, .ref a20, .int 0, .ref a21, .int 0, .int 0, .ref a22, .ref a23, .ref a24, .ref a25, .int 0, .ref a26, .int 0, .ref a27, .ref a28, .ref a29, .long 0, .ref a30, .ref a31, .ref a32, .ref a33, .ref a34, .ref a35, .ref a36, .ref a37, .ref a38, .int 0, .int 0, .int 0, .long 0, .ref a39, .int 0, .ref a40, .ref a41, .ref a42, .ref a43, .int 0, .int 0, .int 0, .int 0]))] sz)) 0 0 (va_A [(a0, .inr (12, [.ref a1, .int 0, .int 0, .int 0, .int 0, .int 0, .int 0, .int 0, .int (-1), .ref a2, .ref a3, .ref a4, .ref a5, .ref a6, .ref a7, .ref a8, .ref a9, .ref a10, .ref a11, .ref a12, .ref a13, .ref a14, .ref a15, .ref a16, .int 0, .int 0, .int 0, .int 0, .int 0, .int 9999, .ref a17, .ref a18, .ref a19, .int 0, .ref a20, .int 0, .ref a21, .int 0, .int 0, .ref a22, .ref a23, .ref a24, .ref a25, .int 0, .ref a26, .int 0, .ref a27, .ref a28, .ref a29, .long 0, .ref a30, .ref a31, .ref a32, .ref a33, .ref a34, .ref a35, .ref a36, .ref a37, .ref a38, .int 0, .int 0, .int 0, .long 0, .ref a39, .int 0, .ref a40, .ref a41, .ref a42, .ref a43, .int 0, .int 0, .int 0, .int 0]))] sz) := by
  refine Met.ofW (cc := cX12_unlike) (maxL := 5) (ret := (some .int)) (by decide) rfl ?_
  intro p e s m args below meth c s₁ B hml hv
  obtain ⟨rfl, hsz, hP, hK, hD0, hN⟩ := hv
  have hx := B.exec
  have hb := B.bytes
  have hr := B.returns
  have hts : ∀ w ∈ lw_gd, w.before _ s = true := fun w h => atoms_spec (ws := .code yX12_unlike cX12_unlike 5 (some .int) :: lw_gd) B.pre w (List.mem_cons_of_mem _ h)
  have hown : s.vm.findClass RX12 = some m.cls := findClass_of_methodNamed B.named
  have hlocks := B.notSynchronized
  subst hsz
  have hD := hD0.self (sz := s.heap.size)
  generalize hAe : va_A [(a0, .inr (12, [.ref a1, .int 0, .int 0, .int 0, .int 0, .int 0, .int 0, .int 0, .int (-1), .ref a2, .ref a3, .ref a4, .ref a5, .ref a6, .ref a7, .ref a8, .ref a9, .ref a10, .ref a11, .ref a12, .ref a13, .ref a14, .ref a15, .ref a16, .int 0, .int 0, .int 0, .int 0, .int 0, .int 9999, .ref a17, .ref a18, .ref a19, .int 0, .ref a20, .int 0, .ref a21, .int 0, .int 0, .ref a22, .ref a23, .ref a24, .ref a25, .int 0, .ref a26, .int 0, .ref a27, .ref a28, .ref a29, .long 0, .ref a30, .ref a31, .ref a32, .ref a33, .ref a34, .ref a35, .ref a36, .ref a37, .ref a38, .int 0, .int 0, .int 0, .long 0, .ref a39, .int 0, .ref a40, .ref a41, .ref a42, .ref a43, .int 0, .int 0, .int 0, .int 0]))] s.heap.size = A at hD ⊢
  have hA : ∀ q : Nat, s.heap.size ≤ q → A q := fun q h => by rw [← hAe]; exact Or.inr h
  have hS : va_S A s.heap s.heap [] := va_S.rf
  have hP : va_P D gcl [(a0, .inr (12, [.ref a1, .int 0, .int 0, .int 0, .int 0, .int 0, .int 0, .int 0, .int (-1), .ref a2, .ref a3, .ref a4, .ref a5, .ref a6, .ref a7, .ref a8, .ref a9, .ref a10, .ref a11, .ref a12, .ref a13, .ref a14, .ref a15, .ref a16, .int 0, .int 0, .int 0, .int 0, .int 0, .int 9999, .ref a17, .ref a18, .ref a19, .int 0, .ref a20, .int 0, .ref a21, .int 0, .int 0, .ref a22, .ref a23, .ref a24, .ref a25, .int 0, .ref a26, .int 0, .ref a27, .ref a28, .ref a29, .long 0, .ref a30, .ref a31, .ref a32, .ref a33, .ref a34, .ref a35, .ref a36, .ref a37, .ref a38, .int 0, .int 0, .int 0, .long 0, .ref a39, .int 0, .ref a40, .ref a41, .ref a42, .ref a43, .int 0, .int 0, .int 0, .int 0]))] s.heap := hP
  have hl := lv_entry ([.ref a0, .int x0, .int x1]) (n := 5) (Nat.le_of_ble_eq_true rfl)
  rw [lg_entry_eq]
  generalize (lg_sl ([.ref a0, .int x0, .int x1]) ++ List.replicate (5 - (lg_sl ([.ref a0, .int x0, .int x1])).length) Slot.unset).toArray = ls at hl ⊢
  have hl : lv_has ls 5 [(0, .ref a0), (1, .int x0), (2, .int x1)] := hl
  refine lv_aload_n (pc := 0) hx hb dX12_unlike_0 rfl (lv_at hl 0 rfl) ?_
  refine lv_iload_n (pc := 1) hx hb dX12_unlike_1 rfl (lv_at hl 1 rfl) ?_
  refine gc_i (pc := 2) (wc := [(a0, .inr (12, [.ref a1, .int 0, .int 0, .int 0, .int 0, .int 0, .int 0, .int 0, .int (-1), .ref a2, .ref a3, .ref a4, .ref a5, .ref a6, .ref a7, .ref a8, .ref a9, .ref a10, .ref a11, .ref a12, .ref a13, .ref a14, .ref a15, .ref a16, .int 0, .int 0, .int 0, .int 0, .int 0, .int 9999, .ref a17, .ref a18, .ref a19, .int 0, .ref a20, .int 0, .ref a21, .int 0, .int 0, .ref a22, .ref a23, .ref a24, .ref a25, .int 0, .ref a26, .int 0, .ref a27, .ref a28, .ref a29, .long 0, .ref a30, .ref a31, .ref a32, .ref a33, .ref a34, .ref a35, .ref a36, .ref a37, .ref a38, .int 0, .int 0, .int 0, .long 0, .ref a39, .int 0, .ref a40, .ref a41, .ref a42, .ref a43, .int 0, .int 0, .int 0, .int 0]))]) (wr := []) hP hD hS hA [0] [] rfl rfl (by decide) (by decide) (by decide) (fun hPc hDc => va_runV (As := [.int x0]) (rest := []) ⟨hx, hb, hml, hown, hts⟩ (cc_199_yX12_isWord l D cB cC cI cJ _ a0 a1 a2 a3 a4 a5 a6 a7 a8 a9 a10 a11 a12 a13 a14 a15 a16 a17 a18 a19 a20 a21 a22 a23 a24 a25 a26 a27 a28 a29 a30 a31 a32 a33 a34 a35 a36 a37 a38 a39 a40 a41 a42 a43 x0) ⟨gcwB hts tw_2012 tw_14 tw_2009 hd_yX12_isWord ⟨Nat.le_of_ble_eq_true rfl, Nat.le_of_ble_eq_true rfl⟩, hts _ tw_2011, hts _ tp_113⟩ ⟨gblind, va_recv hK hPc (ci := 12) (q0 := 0) rfl rfl, (gpreS hPc hK hDc hN).2⟩ rfl rfl hl.1 rfl (lv_room (Nat.le_of_ble_eq_true rfl)) dX12_unlike_2 ⟨Nat.le_of_ble_eq_true rfl, Nat.le_of_ble_eq_true rfl⟩) (fun r_2 u_1 H locs hw_3 hP hD hS => ?_)
  have hP : va_P D gcl [(a0, .inr (12, [.ref a1, .int 0, .int 0, .int 0, .int 0, .int 0, .int 0, .int 0, .int (-1), .ref a2, .ref a3, .ref a4, .ref a5, .ref a6, .ref a7, .ref a8, .ref a9, .ref a10, .ref a11, .ref a12, .ref a13, .ref a14, .ref a15, .ref a16, .int 0, .int 0, .int 0, .int 0, .int 0, .int 9999, .ref a17, .ref a18, .ref a19, .int 0, .ref a20, .int 0, .ref a21, .int 0, .int 0, .ref a22, .ref a23, .ref a24, .ref a25, .int 0, .ref a26, .int 0, .ref a27, .ref a28, .ref a29, .long 0, .ref a30, .ref a31, .ref a32, .ref a33, .ref a34, .ref a35, .ref a36, .ref a37, .ref a38, .int 0, .int 0, .int 0, .long 0, .ref a39, .int 0, .ref a40, .ref a41, .ref a42, .ref a43, .int 0, .int 0, .int 0, .int 0]))] H := hP
  have hD : va_D A [(a0, .inr (12, [.ref a1, .int 0, .int 0, .int 0, .int 0, .int 0, .int 0, .int 0, .int (-1), .ref a2, .ref a3, .ref a4, .ref a5, .ref a6, .ref a7, .ref a8, .ref a9, .ref a10, .ref a11, .ref a12, .ref a13, .ref a14, .ref a15, .ref a16, .int 0, .int 0, .int 0, .int 0, .int 0, .int 9999, .ref a17, .ref a18, .ref a19, .int 0, .ref a20, .int 0, .ref a21, .int 0, .int 0, .ref a22, .ref a23, .ref a24, .ref a25, .int 0, .ref a26, .int 0, .ref a27, .ref a28, .ref a29, .long 0, .ref a30, .ref a31, .ref a32, .ref a33, .ref a34, .ref a35, .ref a36, .ref a37, .ref a38, .int 0, .int 0, .int 0, .long 0, .ref a39, .int 0, .ref a40, .ref a41, .ref a42, .ref a43, .int 0, .int 0, .int 0, .int 0]))] := hD
  subst hw_3
  refine lv_if_eq (pc := 5) (tgt := 16) hx hb dX12_unlike_5 (by decide) (fun _ => ?_) (fun c => absurd (by decide +kernel) c)
  refine lv_iconst (pc := 16) (v := (-1)) hx hb dX12_unlike_16 (by decide) ?_
  have hP9 := hP.sub (ws' := []) [] rfl
  have hD9 := hD.sub (ws' := []) [] (by decide) rfl
  refine W.widen (k := 0) (n := 0) (Nat.le_of_ble_eq_true rfl) (Nat.le_of_ble_eq_true rfl) ?_
  exact W.iret (v := (-1)) hx hb hr (fun t ht hW => ⟨⟨(-1), ((fun _ => 0), (fun _ => (fun _ => 0)), (fun _ => (fun _ => 0)), (fun _ => 0), (fun _ => 0)), rfl, rfl, by rw [ht]; exact hP9, hD9⟩, hS.F ht⟩) hS.2.2 dX12_unlike_17
set_option maxHeartbeats 4000000 in
set_option maxRecDepth 100000 in
theorem cc_203_yX11_span (l : Launch) (D : va_G) (cB cC cI cJ : ClassId) (sz : Nat) (a0 a1 a2 a3 a4 a5 a6 a7 a8 a9 a10 a11 a12 a13 a14 a15 a16 : Nat) : Met l yX11_span (.code yX11_span cX11_span 2 (some .long) :: lw_gd) ({ frames := 0, cells := 0, slots := 0, locals := 0 }) (gPre D [(cB, .byte), (cC, .char), (cI, .int), (cJ, .long)] [.ref a0, .int 0] [(a0, .inr (11, [.ref a1, .ref a2, .ref a3, .ref a4, .ref a5, .ref a6, .ref a7, .ref a8, .ref a9, .ref a10, .int 0, .ref a11, .ref a12, .ref a13])), (a11, .inr (1, [.ref a14, .ref a15, .ref a16, .int 0, .int 0, .int 0, .int 0, .int 0, .int 9999, .int 0]))] sz) (va_Ql (fun r _ => r = (-1)) (gB D (va_A [(a0, .inr (11, [.ref a1, .ref a2, .ref a3, .ref a4, .ref a5, .ref a6, .ref a7, .ref a8, .ref a9, .ref a10, .int 0, .ref a11, .ref a12, .ref a13])), (a11, .inr (1, [.ref a14, .ref a15, .ref a16, .int 0, .int 0, .int 0, .int 0, .int 0, .int 9999, .int 0]))] sz) (fun u : gEx => [])) (va_A [(a0, .inr (11, [.ref a1, .ref a2, .ref a3, .ref a4, .ref a5, .ref a6, .ref a7, .ref a8, .ref a9, .ref a10, .int 0, .ref a11, .ref a12, .ref a13])), (a11, .inr (1, [.ref a14, .ref a15, .ref a16, .int 0, .int 0, .int 0, .int 0, .int 0, .int 9999, .int 0]))] sz)) 0 0 (va_A [(a0, .inr (11, [.ref a1, .ref a2, .ref a3, .ref a4, .ref a5, .ref a6, .ref a7, .ref a8, .ref a9, .ref a10, .int 0, .ref a11, .ref a12, .ref a13])), (a11, .inr (1, [.ref a14, .ref a15, .ref a16, .int 0, .int 0, .int 0, .int 0, .int 0, .int 9999, .int 0]))] sz) := by
  refine Met.ofW (cc := cX11_span) (maxL := 2) (ret := (some .long)) (by decide) rfl ?_
  intro p e s m args below meth c s₁ B hml hv
  obtain ⟨rfl, hsz, hP, hK, hD0, hN⟩ := hv
  have hx := B.exec
  have hb := B.bytes
  have hr := B.returns
  have hts : ∀ w ∈ lw_gd, w.before _ s = true := fun w h => atoms_spec (ws := .code yX11_span cX11_span 2 (some .long) :: lw_gd) B.pre w (List.mem_cons_of_mem _ h)
  have hown : s.vm.findClass RX11 = some m.cls := findClass_of_methodNamed B.named
  have hlocks := B.notSynchronized
  subst hsz
  have hD := hD0.self (sz := s.heap.size)
  generalize hAe : va_A [(a0, .inr (11, [.ref a1, .ref a2, .ref a3, .ref a4, .ref a5, .ref a6, .ref a7, .ref a8, .ref a9, .ref a10, .int 0, .ref a11, .ref a12, .ref a13])), (a11, .inr (1, [.ref a14, .ref a15, .ref a16, .int 0, .int 0, .int 0, .int 0, .int 0, .int 9999, .int 0]))] s.heap.size = A at hD ⊢
  have hA : ∀ q : Nat, s.heap.size ≤ q → A q := fun q h => by rw [← hAe]; exact Or.inr h
  have hS : va_S A s.heap s.heap [] := va_S.rf
  have hP : va_P D gcl [(a0, .inr (11, [.ref a1, .ref a2, .ref a3, .ref a4, .ref a5, .ref a6, .ref a7, .ref a8, .ref a9, .ref a10, .int 0, .ref a11, .ref a12, .ref a13])), (a11, .inr (1, [.ref a14, .ref a15, .ref a16, .int 0, .int 0, .int 0, .int 0, .int 0, .int 9999, .int 0]))] s.heap := hP
  have hl := lv_entry ([.ref a0, .int 0]) (n := 2) (Nat.le_of_ble_eq_true rfl)
  rw [lg_entry_eq]
  generalize (lg_sl ([.ref a0, .int 0]) ++ List.replicate (2 - (lg_sl ([.ref a0, .int 0])).length) Slot.unset).toArray = ls at hl ⊢
  have hl : lv_has ls 2 [(0, .ref a0), (1, .int 0)] := hl
  refine lv_aload_n (pc := 0) hx hb dX11_span_0 rfl (lv_at hl 0 rfl) ?_
  refine va_get (pc := 1) (ci := 11) (v := .ref a11) (C := RX11) (T := TX11) (N := 14) hx hb hts iX11 hown hK hP 0 rfl rfl 11 (by decide) (hts _ tw_431) (fun _ h9 => h9) rfl dX11_span_1 ?_
  refine va_getN (pc := 4) (ci := 1) (v := .int 0) (C := RX1) (T := TX1) (N := 10) hx hb hts iX1 hown hK hP 1 rfl rfl 4 (by decide) (va_Nw.use rfl (hN _ tn_123)) (fun _ h9 => h9) rfl dX11_span_4 ?_
  refine lv_if_ne (pc := 7) (tgt := 14) hx hb dX11_span_7 (by decide) (fun c => absurd (by decide +kernel) c) (fun _ => ?_)
  refine lv_ldc2 (pc := 10) hx hb hown (hts _ tw_844) dX11_span_10 ?_
  have hP9 := hP.sub (ws' := []) [] rfl
  have hD9 := hD.sub (ws' := []) [] (by decide) rfl
  refine W.widen (k := 0) (n := 0) (Nat.le_of_ble_eq_true rfl) (Nat.le_of_ble_eq_true rfl) ?_
  exact W.lret (v := (-1)) hx hb hr (fun t ht hW => ⟨⟨(-1), ((fun _ => 0), (fun _ => (fun _ => 0)), (fun _ => (fun _ => 0)), (fun _ => 0), (fun _ => 0)), rfl, rfl, by rw [ht]; exact hP9, hD9⟩, hS.F ht⟩) hS.2.2 dX11_span_13
set_option maxHeartbeats 4000000 in
set_option maxRecDepth 100000 in
theorem cc_204_yX12_span (l : Launch) (D : va_G) (cB cC cI cJ : ClassId) (sz : Nat) (a0 a1 a2 a3 a4 a5 a6 a7 a8 a9 a10 a11 a12 a13 a14 a15 a16 a17 a18 a19 a20 a21 a22 a23 a24 a25 a26 a27 a28 a29 a30 a31 a32 a33 a34 a35 a36 a37 a38 a39 a40 a41 a42 a43 : Nat) : Met l yX12_span (.code yX12_span cX12_span 7 (some .long) :: lw_gd) ({ frames := 1, cells := 0, slots := 0, locals := 22 }) (gPre D [(cB, .byte), (cC, .char), (cI, .int), (cJ, .long)] [.ref a0, .int 0] [(a0, .inr (12, [.ref a1, .int 0, .int 0, .int 0, .int 0, .int 0, .int 0, .int 0, .int (-1), .ref a2, .ref a3, .ref a4, .ref a5, .ref a6, .ref a7, .ref a8, .ref a9, .ref a10, .ref a11, .ref a12, .ref a13, .ref a14, .ref a15, .ref a16, .int 0, .int 0, .int 0, .int 0, .int 0, .int 9999, .ref a17, .ref a18, .ref a19, .int 0, .ref a20, .int 0, .ref a21, .int 0, .int 0, .ref a22, .ref a23, .ref a24, .ref a25, .int 0, .ref a26, .int 0, .ref a27, .ref a28, .ref a29, .long 0, .ref a30, .ref a31, .ref a32, .ref a33, .ref a34, .ref a35, .ref a36, .ref a37, .ref a38, .int 0, .int 0, .int 0, .long 0, .ref a39, .int 0, .ref a40, .ref a41, .ref a42, .ref a43, .int 0, .int 0, .int 0, .int 0])), (a40, .inl (cI, 5, .inl (fun _ => 0))), (a42, .inl (cI, 5, .inl (fun _ => 0)))] sz) (va_Ql (fun r _ => r = (-1)) (gB D (va_A [(a0, .inr (12, [.ref a1, .int 0, .int 0, .int 0, .int 0, .int 0, .int 0, .int 0, .int (-1), .ref a2, .ref a3, .ref a4, .ref a5, .ref a6, .ref a7, .ref a8, .ref a9, .ref a10, .ref a11, .ref a12, .ref a13, .ref a14, .ref a15, .ref a16, .int 0, .int 0, .int 0, .int 0, .int 0, .int 9999, .ref a17, .ref a18, .ref a19, .int 0, .ref a20, .int 0, .ref a21, .int 0, .int 0, .ref a22, .ref a23, .ref a24, .ref a25, .int 0, .ref a26, .int 0, .ref a27, .ref a28, .ref a29, .long 0, .ref a30, .ref a31, .ref a32, .ref a33, .ref a34, .ref a35, .ref a36, .ref a37, .ref a38, .int 0, .int 0, .int 0, .long 0, .ref a39, .int 0, .ref a40, .ref a41, .ref a42, .ref a43, .int 0, .int 0, .int 0, .int 0])), (a40, .inl (cI, 5, .inl (fun _ => 0))), (a42, .inl (cI, 5, .inl (fun _ => 0)))] sz) (fun u : gEx => [])) (va_A [(a0, .inr (12, [.ref a1, .int 0, .int 0, .int 0, .int 0, .int 0, .int 0, .int 0, .int (-1), .ref a2, .ref a3, .ref a4, .ref a5, .ref a6, .ref a7, .ref a8, .ref a9, .ref a10, .ref a11, .ref a12, .ref a13, .ref a14, .ref a15, .ref a16, .int 0, .int 0, .int 0, .int 0, .int 0, .int 9999, .ref a17, .ref a18, .ref a19, .int 0, .ref a20, .int 0, .ref a21, .int 0, .int 0, .ref a22, .ref a23, .ref a24, .ref a25, .int 0, .ref a26, .int 0, .ref a27, .ref a28, .ref a29, .long 0, .ref a30, .ref a31, .ref a32, .ref a33, .ref a34, .ref a35, .ref a36, .ref a37, .ref a38, .int 0, .int 0, .int 0, .long 0, .ref a39, .int 0, .ref a40, .ref a41, .ref a42, .ref a43, .int 0, .int 0, .int 0, .int 0])), (a40, .inl (cI, 5, .inl (fun _ => 0))), (a42, .inl (cI, 5, .inl (fun _ => 0)))] sz)) 0 0 (va_A [(a0, .inr (12, [.ref a1, .int 0, .int 0, .int 0, .int 0, .int 0, .int 0, .int 0, .int (-1), .ref a2, .ref a3, .ref a4, .ref a5, .ref a6, .ref a7, .ref a8, .ref a9, .ref a10, .ref a11, .ref a12, .ref a13, .ref a14, .ref a15, .ref a16, .int 0, .int 0, .int 0, .int 0, .int 0, .int 9999, .ref a17, .ref a18, .ref a19, .int 0, .ref a20, .int 0, .ref a21, .int 0, .int 0, .ref a22, .ref a23, .ref a24, .ref a25, .int 0, .ref a26, .int 0, .ref a27, .ref a28, .ref a29, .long 0, .ref a30, .ref a31, .ref a32, .ref a33, .ref a34, .ref a35, .ref a36, .ref a37, .ref a38, .int 0, .int 0, .int 0, .long 0, .ref a39, .int 0, .ref a40, .ref a41, .ref a42, .ref a43, .int 0, .int 0, .int 0, .int 0])), (a40, .inl (cI, 5, .inl (fun _ => 0))), (a42, .inl (cI, 5, .inl (fun _ => 0)))] sz) := by
  refine Met.ofW (cc := cX12_span) (maxL := 7) (ret := (some .long)) (by decide) rfl ?_
  intro p e s m args below meth c s₁ B hml hv
  obtain ⟨rfl, hsz, hP, hK, hD0, hN⟩ := hv
  have hx := B.exec
  have hb := B.bytes
  have hr := B.returns
  have hts : ∀ w ∈ lw_gd, w.before _ s = true := fun w h => atoms_spec (ws := .code yX12_span cX12_span 7 (some .long) :: lw_gd) B.pre w (List.mem_cons_of_mem _ h)
  have hown : s.vm.findClass RX12 = some m.cls := findClass_of_methodNamed B.named
  have hlocks := B.notSynchronized
  subst hsz
  have hD := hD0.self (sz := s.heap.size)
  generalize hAe : va_A [(a0, .inr (12, [.ref a1, .int 0, .int 0, .int 0, .int 0, .int 0, .int 0, .int 0, .int (-1), .ref a2, .ref a3, .ref a4, .ref a5, .ref a6, .ref a7, .ref a8, .ref a9, .ref a10, .ref a11, .ref a12, .ref a13, .ref a14, .ref a15, .ref a16, .int 0, .int 0, .int 0, .int 0, .int 0, .int 9999, .ref a17, .ref a18, .ref a19, .int 0, .ref a20, .int 0, .ref a21, .int 0, .int 0, .ref a22, .ref a23, .ref a24, .ref a25, .int 0, .ref a26, .int 0, .ref a27, .ref a28, .ref a29, .long 0, .ref a30, .ref a31, .ref a32, .ref a33, .ref a34, .ref a35, .ref a36, .ref a37, .ref a38, .int 0, .int 0, .int 0, .long 0, .ref a39, .int 0, .ref a40, .ref a41, .ref a42, .ref a43, .int 0, .int 0, .int 0, .int 0])), (a40, .inl (cI, 5, .inl (fun _ => 0))), (a42, .inl (cI, 5, .inl (fun _ => 0)))] s.heap.size = A at hD ⊢
  have hA : ∀ q : Nat, s.heap.size ≤ q → A q := fun q h => by rw [← hAe]; exact Or.inr h
  have hS : va_S A s.heap s.heap [] := va_S.rf
  have hP : va_P D gcl [(a0, .inr (12, [.ref a1, .int 0, .int 0, .int 0, .int 0, .int 0, .int 0, .int 0, .int (-1), .ref a2, .ref a3, .ref a4, .ref a5, .ref a6, .ref a7, .ref a8, .ref a9, .ref a10, .ref a11, .ref a12, .ref a13, .ref a14, .ref a15, .ref a16, .int 0, .int 0, .int 0, .int 0, .int 0, .int 9999, .ref a17, .ref a18, .ref a19, .int 0, .ref a20, .int 0, .ref a21, .int 0, .int 0, .ref a22, .ref a23, .ref a24, .ref a25, .int 0, .ref a26, .int 0, .ref a27, .ref a28, .ref a29, .long 0, .ref a30, .ref a31, .ref a32, .ref a33, .ref a34, .ref a35, .ref a36, .ref a37, .ref a38, .int 0, .int 0, .int 0, .long 0, .ref a39, .int 0, .ref a40, .ref a41, .ref a42, .ref a43, .int 0, .int 0, .int 0, .int 0])), (a40, .inl (cI, 5, .inl (fun _ => 0))), (a42, .inl (cI, 5, .inl (fun _ => 0)))] s.heap := hP
  have hl := lv_entry ([.ref a0, .int 0]) (n := 7) (Nat.le_of_ble_eq_true rfl)
  rw [lg_entry_eq]
  generalize (lg_sl ([.ref a0, .int 0]) ++ List.replicate (7 - (lg_sl ([.ref a0, .int 0])).length) Slot.unset).toArray = ls at hl ⊢
  have hl : lv_has ls 7 [(0, .ref a0), (1, .int 0)] := hl
  refine lv_iconst (pc := 0) (v := 0) hx hb dX12_span_0 (by decide) ?_
  refine lv_istore_n (pc := 1) (lv' := [(2, .int 0), (0, .ref a0), (1, .int 0)]) hx hb dX12_span_1 rfl hl (by decide) rfl (fun ls hl => ?_)
  refine lv_iload_n (pc := 2) hx hb dX12_span_2 rfl (lv_at hl 0 rfl) ?_
  refine lv_iconst (pc := 3) (v := 5) hx hb dX12_span_3 (by decide) ?_
  refine lv_icmp_ge (pc := 4) (tgt := 25) hx hb dX12_span_4 (by decide) (fun c => absurd c (by decide +kernel)) (fun _ => ?_)
  refine lv_aload_n (pc := 7) hx hb dX12_span_7 rfl (lv_at hl 1 rfl) ?_
  refine va_get (pc := 8) (ci := 12) (v := .ref a42) (C := RX12) (T := TX12) (N := 73) hx hb hts iX12 hown hK hP 0 rfl rfl 67 (by decide) (hts _ tw_1468) (fun _ h9 => h9) rfl dX12_span_8 ?_
  refine lv_iload_n (pc := 11) hx hb dX12_span_11 rfl (lv_at hl 0 rfl) ?_
  refine lv_aload_n (pc := 12) hx hb dX12_span_12 rfl (lv_at hl 1 rfl) ?_
  refine va_get (pc := 13) (ci := 12) (v := .ref a40) (C := RX12) (T := TX12) (N := 73) hx hb hts iX12 hown hK hP 0 rfl rfl 65 (by decide) (hts _ tw_1466) (fun _ h9 => h9) rfl dX12_span_13 ?_
  refine lv_iload_n (pc := 16) hx hb dX12_span_16 rfl (lv_at hl 0 rfl) ?_
  refine va_iald (pc := 17) hx hb hK hP 1 2 rfl rfl (gin rfl) dX12_span_17 ?_
  refine gI (y := 0) rfl ?_
  refine g_iastore (pc := 18) hx hb hK hP hD hS 2 2 rfl rfl (gin rfl) dX12_span_18 (fun f_1 H locs hP hD hS => ?_)
  have hP : va_P D gcl [(a0, .inr (12, [.ref a1, .int 0, .int 0, .int 0, .int 0, .int 0, .int 0, .int 0, .int (-1), .ref a2, .ref a3, .ref a4, .ref a5, .ref a6, .ref a7, .ref a8, .ref a9, .ref a10, .ref a11, .ref a12, .ref a13, .ref a14, .ref a15, .ref a16, .int 0, .int 0, .int 0, .int 0, .int 0, .int 9999, .ref a17, .ref a18, .ref a19, .int 0, .ref a20, .int 0, .ref a21, .int 0, .int 0, .ref a22, .ref a23, .ref a24, .ref a25, .int 0, .ref a26, .int 0, .ref a27, .ref a28, .ref a29, .long 0, .ref a30, .ref a31, .ref a32, .ref a33, .ref a34, .ref a35, .ref a36, .ref a37, .ref a38, .int 0, .int 0, .int 0, .long 0, .ref a39, .int 0, .ref a40, .ref a41, .ref a42, .ref a43, .int 0, .int 0, .int 0, .int 0])), (a40, .inl (cI, 5, .inl (fun _ => 0))), (a42, .inl (cI, 5, .inl f_1))] H := hP
  have hD : va_D A [(a0, .inr (12, [.ref a1, .int 0, .int 0, .int 0, .int 0, .int 0, .int 0, .int 0, .int (-1), .ref a2, .ref a3, .ref a4, .ref a5, .ref a6, .ref a7, .ref a8, .ref a9, .ref a10, .ref a11, .ref a12, .ref a13, .ref a14, .ref a15, .ref a16, .int 0, .int 0, .int 0, .int 0, .int 0, .int 9999, .ref a17, .ref a18, .ref a19, .int 0, .ref a20, .int 0, .ref a21, .int 0, .int 0, .ref a22, .ref a23, .ref a24, .ref a25, .int 0, .ref a26, .int 0, .ref a27, .ref a28, .ref a29, .long 0, .ref a30, .ref a31, .ref a32, .ref a33, .ref a34, .ref a35, .ref a36, .ref a37, .ref a38, .int 0, .int 0, .int 0, .long 0, .ref a39, .int 0, .ref a40, .ref a41, .ref a42, .ref a43, .int 0, .int 0, .int 0, .int 0])), (a40, .inl (cI, 5, .inl (fun _ => 0))), (a42, .inl (cI, 5, .inl f_1))] := hD
  refine lv_iinc (pc := 19) (v := 1) (lv' := [(2, .int 1), (0, .ref a0), (1, .int 0)]) hx hb dX12_span_19 hl (k := 0) rfl (by decide +kernel) (by decide) rfl (fun ls hl => ?_)
  refine lv_goto (pc := 22) (tgt := 2) hx hb dX12_span_22 (by decide) ?_
  refine lv_iload_n (pc := 2) hx hb dX12_span_2 rfl (lv_at hl 0 rfl) ?_
  refine lv_iconst (pc := 3) (v := 5) hx hb dX12_span_3 (by decide) ?_
  refine lv_icmp_ge (pc := 4) (tgt := 25) hx hb dX12_span_4 (by decide) (fun c => absurd c (by decide +kernel)) (fun _ => ?_)
  refine lv_aload_n (pc := 7) hx hb dX12_span_7 rfl (lv_at hl 1 rfl) ?_
  refine va_get (pc := 8) (ci := 12) (v := .ref a42) (C := RX12) (T := TX12) (N := 73) hx hb hts iX12 hown hK hP 0 rfl rfl 67 (by decide) (hts _ tw_1468) (fun _ h9 => h9) rfl dX12_span_8 ?_
  refine lv_iload_n (pc := 11) hx hb dX12_span_11 rfl (lv_at hl 0 rfl) ?_
  refine lv_aload_n (pc := 12) hx hb dX12_span_12 rfl (lv_at hl 1 rfl) ?_
  refine va_get (pc := 13) (ci := 12) (v := .ref a40) (C := RX12) (T := TX12) (N := 73) hx hb hts iX12 hown hK hP 0 rfl rfl 65 (by decide) (hts _ tw_1466) (fun _ h9 => h9) rfl dX12_span_13 ?_
  refine lv_iload_n (pc := 16) hx hb dX12_span_16 rfl (lv_at hl 0 rfl) ?_
  refine va_iald (pc := 17) hx hb hK hP 1 2 rfl rfl (gin rfl) dX12_span_17 ?_
  refine gI (y := 0) rfl ?_
  refine g_iastore (pc := 18) hx hb hK hP hD hS 2 2 rfl rfl (gin rfl) dX12_span_18 (fun f_2 H locs hP hD hS => ?_)
  have hP : va_P D gcl [(a0, .inr (12, [.ref a1, .int 0, .int 0, .int 0, .int 0, .int 0, .int 0, .int 0, .int (-1), .ref a2, .ref a3, .ref a4, .ref a5, .ref a6, .ref a7, .ref a8, .ref a9, .ref a10, .ref a11, .ref a12, .ref a13, .ref a14, .ref a15, .ref a16, .int 0, .int 0, .int 0, .int 0, .int 0, .int 9999, .ref a17, .ref a18, .ref a19, .int 0, .ref a20, .int 0, .ref a21, .int 0, .int 0, .ref a22, .ref a23, .ref a24, .ref a25, .int 0, .ref a26, .int 0, .ref a27, .ref a28, .ref a29, .long 0, .ref a30, .ref a31, .ref a32, .ref a33, .ref a34, .ref a35, .ref a36, .ref a37, .ref a38, .int 0, .int 0, .int 0, .long 0, .ref a39, .int 0, .ref a40, .ref a41, .ref a42, .ref a43, .int 0, .int 0, .int 0, .int 0])), (a40, .inl (cI, 5, .inl (fun _ => 0))), (a42, .inl (cI, 5, .inl f_2))] H := hP
  have hD : va_D A [(a0, .inr (12, [.ref a1, .int 0, .int 0, .int 0, .int 0, .int 0, .int 0, .int 0, .int (-1), .ref a2, .ref a3, .ref a4, .ref a5, .ref a6, .ref a7, .ref a8, .ref a9, .ref a10, .ref a11, .ref a12, .ref a13, .ref a14, .ref a15, .ref a16, .int 0, .int 0, .int 0, .int 0, .int 0, .int 9999, .ref a17, .ref a18, .ref a19, .int 0, .ref a20, .int 0, .ref a21, .int 0, .int 0, .ref a22, .ref a23, .ref a24, .ref a25, .int 0, .ref a26, .int 0, .ref a27, .ref a28, .ref a29, .long 0, .ref a30, .ref a31, .ref a32, .ref a33, .ref a34, .ref a35, .ref a36, .ref a37, .ref a38, .int 0, .int 0, .int 0, .long 0, .ref a39, .int 0, .ref a40, .ref a41, .ref a42, .ref a43, .int 0, .int 0, .int 0, .int 0])), (a40, .inl (cI, 5, .inl (fun _ => 0))), (a42, .inl (cI, 5, .inl f_2))] := hD
  refine lv_iinc (pc := 19) (v := 2) (lv' := [(2, .int 2), (0, .ref a0), (1, .int 0)]) hx hb dX12_span_19 hl (k := 0) rfl (by decide +kernel) (by decide) rfl (fun ls hl => ?_)
  refine lv_goto (pc := 22) (tgt := 2) hx hb dX12_span_22 (by decide) ?_
  refine lv_iload_n (pc := 2) hx hb dX12_span_2 rfl (lv_at hl 0 rfl) ?_
  refine lv_iconst (pc := 3) (v := 5) hx hb dX12_span_3 (by decide) ?_
  refine lv_icmp_ge (pc := 4) (tgt := 25) hx hb dX12_span_4 (by decide) (fun c => absurd c (by decide +kernel)) (fun _ => ?_)
  refine lv_aload_n (pc := 7) hx hb dX12_span_7 rfl (lv_at hl 1 rfl) ?_
  refine va_get (pc := 8) (ci := 12) (v := .ref a42) (C := RX12) (T := TX12) (N := 73) hx hb hts iX12 hown hK hP 0 rfl rfl 67 (by decide) (hts _ tw_1468) (fun _ h9 => h9) rfl dX12_span_8 ?_
  refine lv_iload_n (pc := 11) hx hb dX12_span_11 rfl (lv_at hl 0 rfl) ?_
  refine lv_aload_n (pc := 12) hx hb dX12_span_12 rfl (lv_at hl 1 rfl) ?_
  refine va_get (pc := 13) (ci := 12) (v := .ref a40) (C := RX12) (T := TX12) (N := 73) hx hb hts iX12 hown hK hP 0 rfl rfl 65 (by decide) (hts _ tw_1466) (fun _ h9 => h9) rfl dX12_span_13 ?_
  refine lv_iload_n (pc := 16) hx hb dX12_span_16 rfl (lv_at hl 0 rfl) ?_
  refine va_iald (pc := 17) hx hb hK hP 1 2 rfl rfl (gin rfl) dX12_span_17 ?_
  refine gI (y := 0) rfl ?_
  refine g_iastore (pc := 18) hx hb hK hP hD hS 2 2 rfl rfl (gin rfl) dX12_span_18 (fun f_3 H locs hP hD hS => ?_)
  have hP : va_P D gcl [(a0, .inr (12, [.ref a1, .int 0, .int 0, .int 0, .int 0, .int 0, .int 0, .int 0, .int (-1), .ref a2, .ref a3, .ref a4, .ref a5, .ref a6, .ref a7, .ref a8, .ref a9, .ref a10, .ref a11, .ref a12, .ref a13, .ref a14, .ref a15, .ref a16, .int 0, .int 0, .int 0, .int 0, .int 0, .int 9999, .ref a17, .ref a18, .ref a19, .int 0, .ref a20, .int 0, .ref a21, .int 0, .int 0, .ref a22, .ref a23, .ref a24, .ref a25, .int 0, .ref a26, .int 0, .ref a27, .ref a28, .ref a29, .long 0, .ref a30, .ref a31, .ref a32, .ref a33, .ref a34, .ref a35, .ref a36, .ref a37, .ref a38, .int 0, .int 0, .int 0, .long 0, .ref a39, .int 0, .ref a40, .ref a41, .ref a42, .ref a43, .int 0, .int 0, .int 0, .int 0])), (a40, .inl (cI, 5, .inl (fun _ => 0))), (a42, .inl (cI, 5, .inl f_3))] H := hP
  have hD : va_D A [(a0, .inr (12, [.ref a1, .int 0, .int 0, .int 0, .int 0, .int 0, .int 0, .int 0, .int (-1), .ref a2, .ref a3, .ref a4, .ref a5, .ref a6, .ref a7, .ref a8, .ref a9, .ref a10, .ref a11, .ref a12, .ref a13, .ref a14, .ref a15, .ref a16, .int 0, .int 0, .int 0, .int 0, .int 0, .int 9999, .ref a17, .ref a18, .ref a19, .int 0, .ref a20, .int 0, .ref a21, .int 0, .int 0, .ref a22, .ref a23, .ref a24, .ref a25, .int 0, .ref a26, .int 0, .ref a27, .ref a28, .ref a29, .long 0, .ref a30, .ref a31, .ref a32, .ref a33, .ref a34, .ref a35, .ref a36, .ref a37, .ref a38, .int 0, .int 0, .int 0, .long 0, .ref a39, .int 0, .ref a40, .ref a41, .ref a42, .ref a43, .int 0, .int 0, .int 0, .int 0])), (a40, .inl (cI, 5, .inl (fun _ => 0))), (a42, .inl (cI, 5, .inl f_3))] := hD
  refine lv_iinc (pc := 19) (v := 3) (lv' := [(2, .int 3), (0, .ref a0), (1, .int 0)]) hx hb dX12_span_19 hl (k := 0) rfl (by decide +kernel) (by decide) rfl (fun ls hl => ?_)
  refine lv_goto (pc := 22) (tgt := 2) hx hb dX12_span_22 (by decide) ?_
  refine lv_iload_n (pc := 2) hx hb dX12_span_2 rfl (lv_at hl 0 rfl) ?_
  refine lv_iconst (pc := 3) (v := 5) hx hb dX12_span_3 (by decide) ?_
  refine lv_icmp_ge (pc := 4) (tgt := 25) hx hb dX12_span_4 (by decide) (fun c => absurd c (by decide +kernel)) (fun _ => ?_)
  refine lv_aload_n (pc := 7) hx hb dX12_span_7 rfl (lv_at hl 1 rfl) ?_
  refine va_get (pc := 8) (ci := 12) (v := .ref a42) (C := RX12) (T := TX12) (N := 73) hx hb hts iX12 hown hK hP 0 rfl rfl 67 (by decide) (hts _ tw_1468) (fun _ h9 => h9) rfl dX12_span_8 ?_
  refine lv_iload_n (pc := 11) hx hb dX12_span_11 rfl (lv_at hl 0 rfl) ?_
  refine lv_aload_n (pc := 12) hx hb dX12_span_12 rfl (lv_at hl 1 rfl) ?_
  refine va_get (pc := 13) (ci := 12) (v := .ref a40) (C := RX12) (T := TX12) (N := 73) hx hb hts iX12 hown hK hP 0 rfl rfl 65 (by decide) (hts _ tw_1466) (fun _ h9 => h9) rfl dX12_span_13 ?_
  refine lv_iload_n (pc := 16) hx hb dX12_span_16 rfl (lv_at hl 0 rfl) ?_
  refine va_iald (pc := 17) hx hb hK hP 1 2 rfl rfl (gin rfl) dX12_span_17 ?_
  refine gI (y := 0) rfl ?_
  refine g_iastore (pc := 18) hx hb hK hP hD hS 2 2 rfl rfl (gin rfl) dX12_span_18 (fun f_4 H locs hP hD hS => ?_)
  have hP : va_P D gcl [(a0, .inr (12, [.ref a1, .int 0, .int 0, .int 0, .int 0, .int 0, .int 0, .int 0, .int (-1), .ref a2, .ref a3, .ref a4, .ref a5, .ref a6, .ref a7, .ref a8, .ref a9, .ref a10, .ref a11, .ref a12, .ref a13, .ref a14, .ref a15, .ref a16, .int 0, .int 0, .int 0, .int 0, .int 0, .int 9999, .ref a17, .ref a18, .ref a19, .int 0, .ref a20, .int 0, .ref a21, .int 0, .int 0, .ref a22, .ref a23, .ref a24, .ref a25, .int 0, .ref a26, .int 0, .ref a27, .ref a28, .ref a29, .long 0, .ref a30, .ref a31, .ref a32, .ref a33, .ref a34, .ref a35, .ref a36, .ref a37, .ref a38, .int 0, .int 0, .int 0, .long 0, .ref a39, .int 0, .ref a40, .ref a41, .ref a42, .ref a43, .int 0, .int 0, .int 0, .int 0])), (a40, .inl (cI, 5, .inl (fun _ => 0))), (a42, .inl (cI, 5, .inl f_4))] H := hP
  have hD : va_D A [(a0, .inr (12, [.ref a1, .int 0, .int 0, .int 0, .int 0, .int 0, .int 0, .int 0, .int (-1), .ref a2, .ref a3, .ref a4, .ref a5, .ref a6, .ref a7, .ref a8, .ref a9, .ref a10, .ref a11, .ref a12, .ref a13, .ref a14, .ref a15, .ref a16, .int 0, .int 0, .int 0, .int 0, .int 0, .int 9999, .ref a17, .ref a18, .ref a19, .int 0, .ref a20, .int 0, .ref a21, .int 0, .int 0, .ref a22, .ref a23, .ref a24, .ref a25, .int 0, .ref a26, .int 0, .ref a27, .ref a28, .ref a29, .long 0, .ref a30, .ref a31, .ref a32, .ref a33, .ref a34, .ref a35, .ref a36, .ref a37, .ref a38, .int 0, .int 0, .int 0, .long 0, .ref a39, .int 0, .ref a40, .ref a41, .ref a42, .ref a43, .int 0, .int 0, .int 0, .int 0])), (a40, .inl (cI, 5, .inl (fun _ => 0))), (a42, .inl (cI, 5, .inl f_4))] := hD
  refine lv_iinc (pc := 19) (v := 4) (lv' := [(2, .int 4), (0, .ref a0), (1, .int 0)]) hx hb dX12_span_19 hl (k := 0) rfl (by decide +kernel) (by decide) rfl (fun ls hl => ?_)
  refine lv_goto (pc := 22) (tgt := 2) hx hb dX12_span_22 (by decide) ?_
  refine lv_iload_n (pc := 2) hx hb dX12_span_2 rfl (lv_at hl 0 rfl) ?_
  refine lv_iconst (pc := 3) (v := 5) hx hb dX12_span_3 (by decide) ?_
  refine lv_icmp_ge (pc := 4) (tgt := 25) hx hb dX12_span_4 (by decide) (fun c => absurd c (by decide +kernel)) (fun _ => ?_)
  refine lv_aload_n (pc := 7) hx hb dX12_span_7 rfl (lv_at hl 1 rfl) ?_
  refine va_get (pc := 8) (ci := 12) (v := .ref a42) (C := RX12) (T := TX12) (N := 73) hx hb hts iX12 hown hK hP 0 rfl rfl 67 (by decide) (hts _ tw_1468) (fun _ h9 => h9) rfl dX12_span_8 ?_
  refine lv_iload_n (pc := 11) hx hb dX12_span_11 rfl (lv_at hl 0 rfl) ?_
  refine lv_aload_n (pc := 12) hx hb dX12_span_12 rfl (lv_at hl 1 rfl) ?_
  refine va_get (pc := 13) (ci := 12) (v := .ref a40) (C := RX12) (T := TX12) (N := 73) hx hb hts iX12 hown hK hP 0 rfl rfl 65 (by decide) (hts _ tw_1466) (fun _ h9 => h9) rfl dX12_span_13 ?_
  refine lv_iload_n (pc := 16) hx hb dX12_span_16 rfl (lv_at hl 0 rfl) ?_
  refine va_iald (pc := 17) hx hb hK hP 1 2 rfl rfl (gin rfl) dX12_span_17 ?_
  refine gI (y := 0) rfl ?_
  refine g_iastore (pc := 18) hx hb hK hP hD hS 2 2 rfl rfl (gin rfl) dX12_span_18 (fun f_5 H locs hP hD hS => ?_)
  have hP : va_P D gcl [(a0, .inr (12, [.ref a1, .int 0, .int 0, .int 0, .int 0, .int 0, .int 0, .int 0, .int (-1), .ref a2, .ref a3, .ref a4, .ref a5, .ref a6, .ref a7, .ref a8, .ref a9, .ref a10, .ref a11, .ref a12, .ref a13, .ref a14, .ref a15, .ref a16, .int 0, .int 0, .int 0, .int 0, .int 0, .int 9999, .ref a17, .ref a18, .ref a19, .int 0, .ref a20, .int 0, .ref a21, .int 0, .int 0, .ref a22, .ref a23, .ref a24, .ref a25, .int 0, .ref a26, .int 0, .ref a27, .ref a28, .ref a29, .long 0, .ref a30, .ref a31, .ref a32, .ref a33, .ref a34, .ref a35, .ref a36, .ref a37, .ref a38, .int 0, .int 0, .int 0, .long 0, .ref a39, .int 0, .ref a40, .ref a41, .ref a42, .ref a43, .int 0, .int 0, .int 0, .int 0])), (a40, .inl (cI, 5, .inl (fun _ => 0))), (a42, .inl (cI, 5, .inl f_5))] H := hP
  have hD : va_D A [(a0, .inr (12, [.ref a1, .int 0, .int 0, .int 0, .int 0, .int 0, .int 0, .int 0, .int (-1), .ref a2, .ref a3, .ref a4, .ref a5, .ref a6, .ref a7, .ref a8, .ref a9, .ref a10, .ref a11, .ref a12, .ref a13, .ref a14, .ref a15, .ref a16, .int 0, .int 0, .int 0, .int 0, .int 0, .int 9999, .ref a17, .ref a18, .ref a19, .int 0, .ref a20, .int 0, .ref a21, .int 0, .int 0, .ref a22, .ref a23, .ref a24, .ref a25, .int 0, .ref a26, .int 0, .ref a27, .ref a28, .ref a29, .long 0, .ref a30, .ref a31, .ref a32, .ref a33, .ref a34, .ref a35, .ref a36, .ref a37, .ref a38, .int 0, .int 0, .int 0, .long 0, .ref a39, .int 0, .ref a40, .ref a41, .ref a42, .ref a43, .int 0, .int 0, .int 0, .int 0])), (a40, .inl (cI, 5, .inl (fun _ => 0))), (a42, .inl (cI, 5, .inl f_5))] := hD
  refine lv_iinc (pc := 19) (v := 5) (lv' := [(2, .int 5), (0, .ref a0), (1, .int 0)]) hx hb dX12_span_19 hl (k := 0) rfl (by decide +kernel) (by decide) rfl (fun ls hl => ?_)
  refine lv_goto (pc := 22) (tgt := 2) hx hb dX12_span_22 (by decide) ?_
  refine lv_iload_n (pc := 2) hx hb dX12_span_2 rfl (lv_at hl 0 rfl) ?_
  refine lv_iconst (pc := 3) (v := 5) hx hb dX12_span_3 (by decide) ?_
  refine lv_icmp_ge (pc := 4) (tgt := 25) hx hb dX12_span_4 (by decide) (fun _ => ?_) (fun c => absurd (by decide +kernel) c)
  refine lv_ldc2 (pc := 25) hx hb hown (hts _ tw_1838) dX12_span_25 ?_
  refine lv_lstore_n (pc := 28) (lv' := [(2, .long (-1)), (0, .ref a0), (1, .int 0)]) hx hb dX12_span_28 rfl hl (by decide) rfl (fun ls hl => ?_)
  refine lv_iconst (pc := 29) (v := 0) hx hb dX12_span_29 (by decide) ?_
  refine lv_istore (pc := 30) (lv' := [(4, .int 0), (2, .long (-1)), (0, .ref a0), (1, .int 0)]) hx hb dX12_span_30 hl (by decide) rfl (fun ls hl => ?_)
  refine lv_iload (pc := 32) hx hb dX12_span_32 (lv_at hl 0 rfl) ?_
  refine lv_aload_n (pc := 34) hx hb dX12_span_34 rfl (lv_at hl 2 rfl) ?_
  refine gc_i (pc := 35) (wc := [(a0, .inr (12, [.ref a1, .int 0, .int 0, .int 0, .int 0, .int 0, .int 0, .int 0, .int (-1), .ref a2, .ref a3, .ref a4, .ref a5, .ref a6, .ref a7, .ref a8, .ref a9, .ref a10, .ref a11, .ref a12, .ref a13, .ref a14, .ref a15, .ref a16, .int 0, .int 0, .int 0, .int 0, .int 0, .int 9999, .ref a17, .ref a18, .ref a19, .int 0, .ref a20, .int 0, .ref a21, .int 0, .int 0, .ref a22, .ref a23, .ref a24, .ref a25, .int 0, .ref a26, .int 0, .ref a27, .ref a28, .ref a29, .long 0, .ref a30, .ref a31, .ref a32, .ref a33, .ref a34, .ref a35, .ref a36, .ref a37, .ref a38, .int 0, .int 0, .int 0, .long 0, .ref a39, .int 0, .ref a40, .ref a41, .ref a42, .ref a43, .int 0, .int 0, .int 0, .int 0]))]) (wr := [(a40, .inl (cI, 5, .inl (fun _ => 0))), (a42, .inl (cI, 5, .inl f_5))]) hP hD hS hA [0] [1, 2] rfl rfl (by decide) (by decide) (by decide) (fun hPc hDc => va_runV (As := []) (rest := [.int 0]) ⟨hx, hb, hml, hown, hts⟩ (cc_88_yX12_rowMany l D cB cC cI cJ _ a0 a1 a2 a3 a4 a5 a6 a7 a8 a9 a10 a11 a12 a13 a14 a15 a16 a17 a18 a19 a20 a21 a22 a23 a24 a25 a26 a27 a28 a29 a30 a31 a32 a33 a34 a35 a36 a37 a38 a39 a40 a41 a42 a43) ⟨gcwB hts tw_1868 tw_14 tw_1865 hd_yX12_rowMany ⟨Nat.le_of_ble_eq_true rfl, Nat.le_of_ble_eq_true rfl⟩, hts _ tw_1867, hts _ tp_99⟩ ⟨gblind, va_recv hK hPc (ci := 12) (q0 := 0) rfl rfl, (gpreS hPc hK hDc hN).2⟩ rfl rfl hl.1 rfl (lv_room (Nat.le_of_ble_eq_true rfl)) dX12_span_35 ⟨Nat.le_of_ble_eq_true rfl, Nat.le_of_ble_eq_true rfl⟩) (fun r_7 u_6 H locs hw_8 hP hD hS => ?_)
  have hP : va_P D gcl [(a40, .inl (cI, 5, .inl (fun _ => 0))), (a42, .inl (cI, 5, .inl f_5)), (a0, .inr (12, [.ref a1, .int 0, .int 0, .int 0, .int 0, .int 0, .int 0, .int 0, .int (-1), .ref a2, .ref a3, .ref a4, .ref a5, .ref a6, .ref a7, .ref a8, .ref a9, .ref a10, .ref a11, .ref a12, .ref a13, .ref a14, .ref a15, .ref a16, .int 0, .int 0, .int 0, .int 0, .int 0, .int 9999, .ref a17, .ref a18, .ref a19, .int 0, .ref a20, .int 0, .ref a21, .int 0, .int 0, .ref a22, .ref a23, .ref a24, .ref a25, .int 0, .ref a26, .int 0, .ref a27, .ref a28, .ref a29, .long 0, .ref a30, .ref a31, .ref a32, .ref a33, .ref a34, .ref a35, .ref a36, .ref a37, .ref a38, .int 0, .int 0, .int 0, .long 0, .ref a39, .int 0, .ref a40, .ref a41, .ref a42, .ref a43, .int 0, .int 0, .int 0, .int 0]))] H := hP
  have hD : va_D A [(a40, .inl (cI, 5, .inl (fun _ => 0))), (a42, .inl (cI, 5, .inl f_5)), (a0, .inr (12, [.ref a1, .int 0, .int 0, .int 0, .int 0, .int 0, .int 0, .int 0, .int (-1), .ref a2, .ref a3, .ref a4, .ref a5, .ref a6, .ref a7, .ref a8, .ref a9, .ref a10, .ref a11, .ref a12, .ref a13, .ref a14, .ref a15, .ref a16, .int 0, .int 0, .int 0, .int 0, .int 0, .int 9999, .ref a17, .ref a18, .ref a19, .int 0, .ref a20, .int 0, .ref a21, .int 0, .int 0, .ref a22, .ref a23, .ref a24, .ref a25, .int 0, .ref a26, .int 0, .ref a27, .ref a28, .ref a29, .long 0, .ref a30, .ref a31, .ref a32, .ref a33, .ref a34, .ref a35, .ref a36, .ref a37, .ref a38, .int 0, .int 0, .int 0, .long 0, .ref a39, .int 0, .ref a40, .ref a41, .ref a42, .ref a43, .int 0, .int 0, .int 0, .int 0]))] := hD
  subst hw_8
  refine lv_icmp_ge (pc := 38) (tgt := 89) hx hb dX12_span_38 (by decide) (fun _ => ?_) (fun c => absurd (by decide +kernel) c)
  refine lv_iconst (pc := 89) (v := 0) hx hb dX12_span_89 (by decide) ?_
  refine lv_istore (pc := 90) (lv' := [(4, .int 0), (2, .long (-1)), (0, .ref a0), (1, .int 0)]) hx hb dX12_span_90 hl (by decide) rfl (fun ls hl => ?_)
  refine lv_iload (pc := 92) hx hb dX12_span_92 (lv_at hl 0 rfl) ?_
  refine lv_iconst (pc := 94) (v := 5) hx hb dX12_span_94 (by decide) ?_
  refine lv_icmp_ge (pc := 95) (tgt := 118) hx hb dX12_span_95 (by decide) (fun c => absurd c (by decide +kernel)) (fun _ => ?_)
  refine lv_aload_n (pc := 98) hx hb dX12_span_98 rfl (lv_at hl 2 rfl) ?_
  refine va_get (pc := 99) (ci := 12) (v := .ref a40) (C := RX12) (T := TX12) (N := 73) hx hb hts iX12 hown hK hP 2 rfl rfl 65 (by decide) (hts _ tw_1466) (fun _ h9 => h9) rfl dX12_span_99 ?_
  refine lv_iload (pc := 102) hx hb dX12_span_102 (lv_at hl 0 rfl) ?_
  refine lv_aload_n (pc := 104) hx hb dX12_span_104 rfl (lv_at hl 2 rfl) ?_
  refine va_get (pc := 105) (ci := 12) (v := .ref a42) (C := RX12) (T := TX12) (N := 73) hx hb hts iX12 hown hK hP 2 rfl rfl 67 (by decide) (hts _ tw_1468) (fun _ h9 => h9) rfl dX12_span_105 ?_
  refine lv_iload (pc := 108) hx hb dX12_span_108 (lv_at hl 0 rfl) ?_
  refine va_iald (pc := 110) hx hb hK hP 1 2 rfl rfl (gin rfl) dX12_span_110 ?_
  refine lv_topi (fun x_9 ex_9 => ?_)
  refine g_iastore (pc := 111) hx hb hK hP hD hS 0 2 rfl rfl (gin rfl) dX12_span_111 (fun f_10 H locs hP hD hS => ?_)
  have hP : va_P D gcl [(a40, .inl (cI, 5, .inl f_10)), (a42, .inl (cI, 5, .inl f_5)), (a0, .inr (12, [.ref a1, .int 0, .int 0, .int 0, .int 0, .int 0, .int 0, .int 0, .int (-1), .ref a2, .ref a3, .ref a4, .ref a5, .ref a6, .ref a7, .ref a8, .ref a9, .ref a10, .ref a11, .ref a12, .ref a13, .ref a14, .ref a15, .ref a16, .int 0, .int 0, .int 0, .int 0, .int 0, .int 9999, .ref a17, .ref a18, .ref a19, .int 0, .ref a20, .int 0, .ref a21, .int 0, .int 0, .ref a22, .ref a23, .ref a24, .ref a25, .int 0, .ref a26, .int 0, .ref a27, .ref a28, .ref a29, .long 0, .ref a30, .ref a31, .ref a32, .ref a33, .ref a34, .ref a35, .ref a36, .ref a37, .ref a38, .int 0, .int 0, .int 0, .long 0, .ref a39, .int 0, .ref a40, .ref a41, .ref a42, .ref a43, .int 0, .int 0, .int 0, .int 0]))] H := hP
  have hD : va_D A [(a40, .inl (cI, 5, .inl f_10)), (a42, .inl (cI, 5, .inl f_5)), (a0, .inr (12, [.ref a1, .int 0, .int 0, .int 0, .int 0, .int 0, .int 0, .int 0, .int (-1), .ref a2, .ref a3, .ref a4, .ref a5, .ref a6, .ref a7, .ref a8, .ref a9, .ref a10, .ref a11, .ref a12, .ref a13, .ref a14, .ref a15, .ref a16, .int 0, .int 0, .int 0, .int 0, .int 0, .int 9999, .ref a17, .ref a18, .ref a19, .int 0, .ref a20, .int 0, .ref a21, .int 0, .int 0, .ref a22, .ref a23, .ref a24, .ref a25, .int 0, .ref a26, .int 0, .ref a27, .ref a28, .ref a29, .long 0, .ref a30, .ref a31, .ref a32, .ref a33, .ref a34, .ref a35, .ref a36, .ref a37, .ref a38, .int 0, .int 0, .int 0, .long 0, .ref a39, .int 0, .ref a40, .ref a41, .ref a42, .ref a43, .int 0, .int 0, .int 0, .int 0]))] := hD
  refine lv_iinc (pc := 112) (v := 1) (lv' := [(4, .int 1), (2, .long (-1)), (0, .ref a0), (1, .int 0)]) hx hb dX12_span_112 hl (k := 0) rfl (by decide +kernel) (by decide) rfl (fun ls hl => ?_)
  refine lv_goto (pc := 115) (tgt := 92) hx hb dX12_span_115 (by decide) ?_
  refine lv_iload (pc := 92) hx hb dX12_span_92 (lv_at hl 0 rfl) ?_
  refine lv_iconst (pc := 94) (v := 5) hx hb dX12_span_94 (by decide) ?_
  refine lv_icmp_ge (pc := 95) (tgt := 118) hx hb dX12_span_95 (by decide) (fun c => absurd c (by decide +kernel)) (fun _ => ?_)
  refine lv_aload_n (pc := 98) hx hb dX12_span_98 rfl (lv_at hl 2 rfl) ?_
  refine va_get (pc := 99) (ci := 12) (v := .ref a40) (C := RX12) (T := TX12) (N := 73) hx hb hts iX12 hown hK hP 2 rfl rfl 65 (by decide) (hts _ tw_1466) (fun _ h9 => h9) rfl dX12_span_99 ?_
  refine lv_iload (pc := 102) hx hb dX12_span_102 (lv_at hl 0 rfl) ?_
  refine lv_aload_n (pc := 104) hx hb dX12_span_104 rfl (lv_at hl 2 rfl) ?_
  refine va_get (pc := 105) (ci := 12) (v := .ref a42) (C := RX12) (T := TX12) (N := 73) hx hb hts iX12 hown hK hP 2 rfl rfl 67 (by decide) (hts _ tw_1468) (fun _ h9 => h9) rfl dX12_span_105 ?_
  refine lv_iload (pc := 108) hx hb dX12_span_108 (lv_at hl 0 rfl) ?_
  refine va_iald (pc := 110) hx hb hK hP 1 2 rfl rfl (gin rfl) dX12_span_110 ?_
  refine lv_topi (fun x_11 ex_11 => ?_)
  refine g_iastore (pc := 111) hx hb hK hP hD hS 0 2 rfl rfl (gin rfl) dX12_span_111 (fun f_12 H locs hP hD hS => ?_)
  have hP : va_P D gcl [(a40, .inl (cI, 5, .inl f_12)), (a42, .inl (cI, 5, .inl f_5)), (a0, .inr (12, [.ref a1, .int 0, .int 0, .int 0, .int 0, .int 0, .int 0, .int 0, .int (-1), .ref a2, .ref a3, .ref a4, .ref a5, .ref a6, .ref a7, .ref a8, .ref a9, .ref a10, .ref a11, .ref a12, .ref a13, .ref a14, .ref a15, .ref a16, .int 0, .int 0, .int 0, .int 0, .int 0, .int 9999, .ref a17, .ref a18, .ref a19, .int 0, .ref a20, .int 0, .ref a21, .int 0, .int 0, .ref a22, .ref a23, .ref a24, .ref a25, .int 0, .ref a26, .int 0, .ref a27, .ref a28, .ref a29, .long 0, .ref a30, .ref a31, .ref a32, .ref a33, .ref a34, .ref a35, .ref a36, .ref a37, .ref a38, .int 0, .int 0, .int 0, .long 0, .ref a39, .int 0, .ref a40, .ref a41, .ref a42, .ref a43, .int 0, .int 0, .int 0, .int 0]))] H := hP
  have hD : va_D A [(a40, .inl (cI, 5, .inl f_12)), (a42, .inl (cI, 5, .inl f_5)), (a0, .inr (12, [.ref a1, .int 0, .int 0, .int 0, .int 0, .int 0, .int 0, .int 0, .int (-1), .ref a2, .ref a3, .ref a4, .ref a5, .ref a6, .ref a7, .ref a8, .ref a9, .ref a10, .ref a11, .ref a12, .ref a13, .ref a14, .ref a15, .ref a16, .int 0, .int 0, .int 0, .int 0, .int 0, .int 9999, .ref a17, .ref a18, .ref a19, .int 0, .ref a20, .int 0, .ref a21, .int 0, .int 0, .ref a22, .ref a23, .ref a24, .ref a25, .int 0, .ref a26, .int 0, .ref a27, .ref a28, .ref a29, .long 0, .ref a30, .ref a31, .ref a32, .ref a33, .ref a34, .ref a35, .ref a36, .ref a37, .ref a38, .int 0, .int 0, .int 0, .long 0, .ref a39, .int 0, .ref a40, .ref a41, .ref a42, .ref a43, .int 0, .int 0, .int 0, .int 0]))] := hD
  refine lv_iinc (pc := 112) (v := 2) (lv' := [(4, .int 2), (2, .long (-1)), (0, .ref a0), (1, .int 0)]) hx hb dX12_span_112 hl (k := 0) rfl (by decide +kernel) (by decide) rfl (fun ls hl => ?_)
  refine lv_goto (pc := 115) (tgt := 92) hx hb dX12_span_115 (by decide) ?_
  refine lv_iload (pc := 92) hx hb dX12_span_92 (lv_at hl 0 rfl) ?_
  refine lv_iconst (pc := 94) (v := 5) hx hb dX12_span_94 (by decide) ?_
  refine lv_icmp_ge (pc := 95) (tgt := 118) hx hb dX12_span_95 (by decide) (fun c => absurd c (by decide +kernel)) (fun _ => ?_)
  refine lv_aload_n (pc := 98) hx hb dX12_span_98 rfl (lv_at hl 2 rfl) ?_
  refine va_get (pc := 99) (ci := 12) (v := .ref a40) (C := RX12) (T := TX12) (N := 73) hx hb hts iX12 hown hK hP 2 rfl rfl 65 (by decide) (hts _ tw_1466) (fun _ h9 => h9) rfl dX12_span_99 ?_
  refine lv_iload (pc := 102) hx hb dX12_span_102 (lv_at hl 0 rfl) ?_
  refine lv_aload_n (pc := 104) hx hb dX12_span_104 rfl (lv_at hl 2 rfl) ?_
  refine va_get (pc := 105) (ci := 12) (v := .ref a42) (C := RX12) (T := TX12) (N := 73) hx hb hts iX12 hown hK hP 2 rfl rfl 67 (by decide) (hts _ tw_1468) (fun _ h9 => h9) rfl dX12_span_105 ?_
  refine lv_iload (pc := 108) hx hb dX12_span_108 (lv_at hl 0 rfl) ?_
  refine va_iald (pc := 110) hx hb hK hP 1 2 rfl rfl (gin rfl) dX12_span_110 ?_
  refine lv_topi (fun x_13 ex_13 => ?_)
  refine g_iastore (pc := 111) hx hb hK hP hD hS 0 2 rfl rfl (gin rfl) dX12_span_111 (fun f_14 H locs hP hD hS => ?_)
  have hP : va_P D gcl [(a40, .inl (cI, 5, .inl f_14)), (a42, .inl (cI, 5, .inl f_5)), (a0, .inr (12, [.ref a1, .int 0, .int 0, .int 0, .int 0, .int 0, .int 0, .int 0, .int (-1), .ref a2, .ref a3, .ref a4, .ref a5, .ref a6, .ref a7, .ref a8, .ref a9, .ref a10, .ref a11, .ref a12, .ref a13, .ref a14, .ref a15, .ref a16, .int 0, .int 0, .int 0, .int 0, .int 0, .int 9999, .ref a17, .ref a18, .ref a19, .int 0, .ref a20, .int 0, .ref a21, .int 0, .int 0, .ref a22, .ref a23, .ref a24, .ref a25, .int 0, .ref a26, .int 0, .ref a27, .ref a28, .ref a29, .long 0, .ref a30, .ref a31, .ref a32, .ref a33, .ref a34, .ref a35, .ref a36, .ref a37, .ref a38, .int 0, .int 0, .int 0, .long 0, .ref a39, .int 0, .ref a40, .ref a41, .ref a42, .ref a43, .int 0, .int 0, .int 0, .int 0]))] H := hP
  have hD : va_D A [(a40, .inl (cI, 5, .inl f_14)), (a42, .inl (cI, 5, .inl f_5)), (a0, .inr (12, [.ref a1, .int 0, .int 0, .int 0, .int 0, .int 0, .int 0, .int 0, .int (-1), .ref a2, .ref a3, .ref a4, .ref a5, .ref a6, .ref a7, .ref a8, .ref a9, .ref a10, .ref a11, .ref a12, .ref a13, .ref a14, .ref a15, .ref a16, .int 0, .int 0, .int 0, .int 0, .int 0, .int 9999, .ref a17, .ref a18, .ref a19, .int 0, .ref a20, .int 0, .ref a21, .int 0, .int 0, .ref a22, .ref a23, .ref a24, .ref a25, .int 0, .ref a26, .int 0, .ref a27, .ref a28, .ref a29, .long 0, .ref a30, .ref a31, .ref a32, .ref a33, .ref a34, .ref a35, .ref a36, .ref a37, .ref a38, .int 0, .int 0, .int 0, .long 0, .ref a39, .int 0, .ref a40, .ref a41, .ref a42, .ref a43, .int 0, .int 0, .int 0, .int 0]))] := hD
  refine lv_iinc (pc := 112) (v := 3) (lv' := [(4, .int 3), (2, .long (-1)), (0, .ref a0), (1, .int 0)]) hx hb dX12_span_112 hl (k := 0) rfl (by decide +kernel) (by decide) rfl (fun ls hl => ?_)
  refine lv_goto (pc := 115) (tgt := 92) hx hb dX12_span_115 (by decide) ?_
  refine lv_iload (pc := 92) hx hb dX12_span_92 (lv_at hl 0 rfl) ?_
  refine lv_iconst (pc := 94) (v := 5) hx hb dX12_span_94 (by decide) ?_
  refine lv_icmp_ge (pc := 95) (tgt := 118) hx hb dX12_span_95 (by decide) (fun c => absurd c (by decide +kernel)) (fun _ => ?_)
  refine lv_aload_n (pc := 98) hx hb dX12_span_98 rfl (lv_at hl 2 rfl) ?_
  refine va_get (pc := 99) (ci := 12) (v := .ref a40) (C := RX12) (T := TX12) (N := 73) hx hb hts iX12 hown hK hP 2 rfl rfl 65 (by decide) (hts _ tw_1466) (fun _ h9 => h9) rfl dX12_span_99 ?_
  refine lv_iload (pc := 102) hx hb dX12_span_102 (lv_at hl 0 rfl) ?_
  refine lv_aload_n (pc := 104) hx hb dX12_span_104 rfl (lv_at hl 2 rfl) ?_
  refine va_get (pc := 105) (ci := 12) (v := .ref a42) (C := RX12) (T := TX12) (N := 73) hx hb hts iX12 hown hK hP 2 rfl rfl 67 (by decide) (hts _ tw_1468) (fun _ h9 => h9) rfl dX12_span_105 ?_
  refine lv_iload (pc := 108) hx hb dX12_span_108 (lv_at hl 0 rfl) ?_
  refine va_iald (pc := 110) hx hb hK hP 1 2 rfl rfl (gin rfl) dX12_span_110 ?_
  refine lv_topi (fun x_15 ex_15 => ?_)
  refine g_iastore (pc := 111) hx hb hK hP hD hS 0 2 rfl rfl (gin rfl) dX12_span_111 (fun f_16 H locs hP hD hS => ?_)
  have hP : va_P D gcl [(a40, .inl (cI, 5, .inl f_16)), (a42, .inl (cI, 5, .inl f_5)), (a0, .inr (12, [.ref a1, .int 0, .int 0, .int 0, .int 0, .int 0, .int 0, .int 0, .int (-1), .ref a2, .ref a3, .ref a4, .ref a5, .ref a6, .ref a7, .ref a8, .ref a9, .ref a10, .ref a11, .ref a12, .ref a13, .ref a14, .ref a15, .ref a16, .int 0, .int 0, .int 0, .int 0, .int 0, .int 9999, .ref a17, .ref a18, .ref a19, .int 0, .ref a20, .int 0, .ref a21, .int 0, .int 0, .ref a22, .ref a23, .ref a24, .ref a25, .int 0, .ref a26, .int 0, .ref a27, .ref a28, .ref a29, .long 0, .ref a30, .ref a31, .ref a32, .ref a33, .ref a34, .ref a35, .ref a36, .ref a37, .ref a38, .int 0, .int 0, .int 0, .long 0, .ref a39, .int 0, .ref a40, .ref a41, .ref a42, .ref a43, .int 0, .int 0, .int 0, .int 0]))] H := hP
  have hD : va_D A [(a40, .inl (cI, 5, .inl f_16)), (a42, .inl (cI, 5, .inl f_5)), (a0, .inr (12, [.ref a1, .int 0, .int 0, .int 0, .int 0, .int 0, .int 0, .int 0, .int (-1), .ref a2, .ref a3, .ref a4, .ref a5, .ref a6, .ref a7, .ref a8, .ref a9, .ref a10, .ref a11, .ref a12, .ref a13, .ref a14, .ref a15, .ref a16, .int 0, .int 0, .int 0, .int 0, .int 0, .int 9999, .ref a17, .ref a18, .ref a19, .int 0, .ref a20, .int 0, .ref a21, .int 0, .int 0, .ref a22, .ref a23, .ref a24, .ref a25, .int 0, .ref a26, .int 0, .ref a27, .ref a28, .ref a29, .long 0, .ref a30, .ref a31, .ref a32, .ref a33, .ref a34, .ref a35, .ref a36, .ref a37, .ref a38, .int 0, .int 0, .int 0, .long 0, .ref a39, .int 0, .ref a40, .ref a41, .ref a42, .ref a43, .int 0, .int 0, .int 0, .int 0]))] := hD
  refine lv_iinc (pc := 112) (v := 4) (lv' := [(4, .int 4), (2, .long (-1)), (0, .ref a0), (1, .int 0)]) hx hb dX12_span_112 hl (k := 0) rfl (by decide +kernel) (by decide) rfl (fun ls hl => ?_)
  refine lv_goto (pc := 115) (tgt := 92) hx hb dX12_span_115 (by decide) ?_
  refine lv_iload (pc := 92) hx hb dX12_span_92 (lv_at hl 0 rfl) ?_
  refine lv_iconst (pc := 94) (v := 5) hx hb dX12_span_94 (by decide) ?_
  refine lv_icmp_ge (pc := 95) (tgt := 118) hx hb dX12_span_95 (by decide) (fun c => absurd c (by decide +kernel)) (fun _ => ?_)
  refine lv_aload_n (pc := 98) hx hb dX12_span_98 rfl (lv_at hl 2 rfl) ?_
  refine va_get (pc := 99) (ci := 12) (v := .ref a40) (C := RX12) (T := TX12) (N := 73) hx hb hts iX12 hown hK hP 2 rfl rfl 65 (by decide) (hts _ tw_1466) (fun _ h9 => h9) rfl dX12_span_99 ?_
  refine lv_iload (pc := 102) hx hb dX12_span_102 (lv_at hl 0 rfl) ?_
  refine lv_aload_n (pc := 104) hx hb dX12_span_104 rfl (lv_at hl 2 rfl) ?_
  refine va_get (pc := 105) (ci := 12) (v := .ref a42) (C := RX12) (T := TX12) (N := 73) hx hb hts iX12 hown hK hP 2 rfl rfl 67 (by decide) (hts _ tw_1468) (fun _ h9 => h9) rfl dX12_span_105 ?_
  refine lv_iload (pc := 108) hx hb dX12_span_108 (lv_at hl 0 rfl) ?_
  refine va_iald (pc := 110) hx hb hK hP 1 2 rfl rfl (gin rfl) dX12_span_110 ?_
  refine lv_topi (fun x_17 ex_17 => ?_)
  refine g_iastore (pc := 111) hx hb hK hP hD hS 0 2 rfl rfl (gin rfl) dX12_span_111 (fun f_18 H locs hP hD hS => ?_)
  have hP : va_P D gcl [(a40, .inl (cI, 5, .inl f_18)), (a42, .inl (cI, 5, .inl f_5)), (a0, .inr (12, [.ref a1, .int 0, .int 0, .int 0, .int 0, .int 0, .int 0, .int 0, .int (-1), .ref a2, .ref a3, .ref a4, .ref a5, .ref a6, .ref a7, .ref a8, .ref a9, .ref a10, .ref a11, .ref a12, .ref a13, .ref a14, .ref a15, .ref a16, .int 0, .int 0, .int 0, .int 0, .int 0, .int 9999, .ref a17, .ref a18, .ref a19, .int 0, .ref a20, .int 0, .ref a21, .int 0, .int 0, .ref a22, .ref a23, .ref a24, .ref a25, .int 0, .ref a26, .int 0, .ref a27, .ref a28, .ref a29, .long 0, .ref a30, .ref a31, .ref a32, .ref a33, .ref a34, .ref a35, .ref a36, .ref a37, .ref a38, .int 0, .int 0, .int 0, .long 0, .ref a39, .int 0, .ref a40, .ref a41, .ref a42, .ref a43, .int 0, .int 0, .int 0, .int 0]))] H := hP
  have hD : va_D A [(a40, .inl (cI, 5, .inl f_18)), (a42, .inl (cI, 5, .inl f_5)), (a0, .inr (12, [.ref a1, .int 0, .int 0, .int 0, .int 0, .int 0, .int 0, .int 0, .int (-1), .ref a2, .ref a3, .ref a4, .ref a5, .ref a6, .ref a7, .ref a8, .ref a9, .ref a10, .ref a11, .ref a12, .ref a13, .ref a14, .ref a15, .ref a16, .int 0, .int 0, .int 0, .int 0, .int 0, .int 9999, .ref a17, .ref a18, .ref a19, .int 0, .ref a20, .int 0, .ref a21, .int 0, .int 0, .ref a22, .ref a23, .ref a24, .ref a25, .int 0, .ref a26, .int 0, .ref a27, .ref a28, .ref a29, .long 0, .ref a30, .ref a31, .ref a32, .ref a33, .ref a34, .ref a35, .ref a36, .ref a37, .ref a38, .int 0, .int 0, .int 0, .long 0, .ref a39, .int 0, .ref a40, .ref a41, .ref a42, .ref a43, .int 0, .int 0, .int 0, .int 0]))] := hD
  refine lv_iinc (pc := 112) (v := 5) (lv' := [(4, .int 5), (2, .long (-1)), (0, .ref a0), (1, .int 0)]) hx hb dX12_span_112 hl (k := 0) rfl (by decide +kernel) (by decide) rfl (fun ls hl => ?_)
  refine lv_goto (pc := 115) (tgt := 92) hx hb dX12_span_115 (by decide) ?_
  refine lv_iload (pc := 92) hx hb dX12_span_92 (lv_at hl 0 rfl) ?_
  refine lv_iconst (pc := 94) (v := 5) hx hb dX12_span_94 (by decide) ?_
  refine lv_icmp_ge (pc := 95) (tgt := 118) hx hb dX12_span_95 (by decide) (fun _ => ?_) (fun c => absurd (by decide +kernel) c)
  refine lv_lload_n (pc := 118) hx hb dX12_span_118 rfl (lv_at hl 1 rfl) ?_
  have hP9 := hP.sub (ws' := []) [] rfl
  have hD9 := hD.sub (ws' := []) [] (by decide) rfl
  refine W.widen (k := 0) (n := 0) (Nat.le_of_ble_eq_true rfl) (Nat.le_of_ble_eq_true rfl) ?_
  exact W.lret (v := (-1)) hx hb hr (fun t ht hW => ⟨⟨(-1), ((fun _ => 0), (fun _ => (fun _ => 0)), (fun _ => (fun _ => 0)), (fun _ => 0), (fun _ => 0)), rfl, rfl, by rw [ht]; exact hP9, hD9⟩, hS.F ht⟩) hS.2.2 dX12_span_119
