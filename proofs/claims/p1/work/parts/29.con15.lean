set_option maxHeartbeats 4000000 in
set_option maxRecDepth 100000 in
theorem cc_220_yX12_checked (l : Launch) (D : va_G) (cB cC cI cJ : ClassId) (sz : Nat) (a0 : Nat) (f0 : Nat → Int32) : Met l yX12_checked (.code yX12_checked cX12_checked 4 (some .int) :: lw_gd) ({ frames := 0, cells := 0, slots := 0, locals := 0 }) (gPre D [(cB, .byte), (cC, .char), (cI, .int), (cJ, .long)] [.ref a0, .int 1] [(a0, .inl (cI, 20, .inl f0))] sz) (va_Qi (fun _ _ => True) (gB D (va_A [(a0, .inl (cI, 20, .inl f0))] sz) (fun u : gEx => [(a0, .inl (cI, 20, .inl f0))])) (va_A [(a0, .inl (cI, 20, .inl f0))] sz)) 0 0 (va_A [(a0, .inl (cI, 20, .inl f0))] sz) := by
  refine Met.ofW (cc := cX12_checked) (maxL := 4) (ret := (some .int)) (by decide) rfl ?_
  intro p e s m args below meth c s₁ B hml hv
  obtain ⟨rfl, hsz, hP, hK, hD0, hN⟩ := hv
  have hx := B.exec
  have hb := B.bytes
  have hr := B.returns
  have hts : ∀ w ∈ lw_gd, w.before _ s = true := fun w h => atoms_spec (ws := .code yX12_checked cX12_checked 4 (some .int) :: lw_gd) B.pre w (List.mem_cons_of_mem _ h)
  have hown : s.vm.findClass RX12 = some m.cls := findClass_of_methodNamed B.named
  have hlocks := B.notSynchronized
  subst hsz
  have hD := hD0.self (sz := s.heap.size)
  generalize hAe : va_A [(a0, .inl (cI, 20, .inl f0))] s.heap.size = A at hD ⊢
  have hA : ∀ q : Nat, s.heap.size ≤ q → A q := fun q h => by rw [← hAe]; exact Or.inr h
  have hS : va_S A s.heap s.heap [] := va_S.rf
  have hP : va_P D gcl [(a0, .inl (cI, 20, .inl f0))] s.heap := hP
  have hl := lv_entry ([.ref a0, .int 1]) (n := 4) (Nat.le_of_ble_eq_true rfl)
  rw [lg_entry_eq]
  generalize (lg_sl ([.ref a0, .int 1]) ++ List.replicate (4 - (lg_sl ([.ref a0, .int 1])).length) Slot.unset).toArray = ls at hl ⊢
  have hl : lv_has ls 4 [(0, .ref a0), (1, .int 1)] := hl
  refine lv_bipush (pc := 0) (v := 51) hx hb dX12_checked_0 (by decide) ?_
  refine lv_istore_n (pc := 2) (lv' := [(2, .int 51), (0, .ref a0), (1, .int 1)]) hx hb dX12_checked_2 rfl hl (by decide) rfl (fun ls hl => ?_)
  refine lv_iconst (pc := 3) (v := 0) hx hb dX12_checked_3 (by decide) ?_
  refine lv_istore_n (pc := 4) (lv' := [(3, .int 0), (2, .int 51), (0, .ref a0), (1, .int 1)]) hx hb dX12_checked_4 rfl hl (by decide) rfl (fun ls hl => ?_)
  refine lv_iload_n (pc := 5) hx hb dX12_checked_5 rfl (lv_at hl 0 rfl) ?_
  refine lv_iload_n (pc := 6) hx hb dX12_checked_6 rfl (lv_at hl 3 rfl) ?_
  refine lv_icmp_ge (pc := 7) (tgt := 29) hx hb dX12_checked_7 (by decide) (fun c => absurd c (by decide +kernel)) (fun _ => ?_)
  refine lv_bipush (pc := 10) (v := 7) hx hb dX12_checked_10 (by decide) ?_
  refine lv_iload_n (pc := 12) hx hb dX12_checked_12 rfl (lv_at hl 1 rfl) ?_
  refine lv_imul (pc := 13) hx hb dX12_checked_13 ?_
  refine gI (y := 357) (by decide +kernel) ?_
  refine lv_aload_n (pc := 14) hx hb dX12_checked_14 rfl (lv_at hl 2 rfl) ?_
  refine lv_iload_n (pc := 15) hx hb dX12_checked_15 rfl (lv_at hl 0 rfl) ?_
  refine va_iald (pc := 16) hx hb hK hP 0 2 rfl rfl (gin rfl) dX12_checked_16 ?_
  refine lv_topi (fun x_1 ex_1 => ?_)
  refine lv_iadd (pc := 17) hx hb dX12_checked_17 ?_
  refine lv_topi (fun x_2 ex_2 => ?_)
  refine lv_sipush (pc := 18) (v := 253) hx hb dX12_checked_18 (by decide) ?_
  refine lv_irem (pc := 21) hx hb dX12_checked_21 (by decide +kernel) ?_
  refine lv_topi (fun x_3 ex_3 => ?_)
  refine lv_istore_n (pc := 22) (lv' := [(2, .int x_3), (3, .int 0), (0, .ref a0), (1, .int 1)]) hx hb dX12_checked_22 rfl hl (by decide) rfl (fun ls hl => ?_)
  refine lv_iinc (pc := 23) (v := 1) (lv' := [(3, .int 1), (2, .int x_3), (0, .ref a0), (1, .int 1)]) hx hb dX12_checked_23 hl (k := 1) rfl (by decide +kernel) (by decide) rfl (fun ls hl => ?_)
  refine lv_goto (pc := 26) (tgt := 5) hx hb dX12_checked_26 (by decide) ?_
  refine lv_iload_n (pc := 5) hx hb dX12_checked_5 rfl (lv_at hl 0 rfl) ?_
  refine lv_iload_n (pc := 6) hx hb dX12_checked_6 rfl (lv_at hl 3 rfl) ?_
  refine lv_icmp_ge (pc := 7) (tgt := 29) hx hb dX12_checked_7 (by decide) (fun _ => ?_) (fun c => absurd (by decide +kernel) c)
  refine lv_iload_n (pc := 29) hx hb dX12_checked_29 rfl (lv_at hl 1 rfl) ?_
  have hP9 := hP.sub (ws' := [(a0, .inl (cI, 20, .inl f0))]) [0] rfl
  have hD9 := hD.sub (ws' := [(a0, .inl (cI, 20, .inl f0))]) [0] (by decide) rfl
  refine W.widen (k := 0) (n := 0) (Nat.le_of_ble_eq_true rfl) (Nat.le_of_ble_eq_true rfl) ?_
  exact W.iret (v := x_3) hx hb hr (fun t ht hW => ⟨⟨x_3, ((fun _ => 0), (fun _ => (fun _ => 0)), (fun _ => (fun _ => 0)), (fun _ => 0), (fun _ => 0)), rfl, trivial, by rw [ht]; exact hP9, hD9⟩, hS.F ht⟩) hS.2.2 dX12_checked_30
set_option maxHeartbeats 4000000 in
set_option maxRecDepth 100000 in
theorem cc_221_yX12_writes (l : Launch) (D : va_G) (cB cC cI cJ : ClassId) (sz : Nat) (a0 a1 a2 a3 a4 a5 a6 a7 a8 a9 a10 a11 a12 a13 a14 a15 a16 a17 a18 a19 a20 a21 a22 a23 a24 a25 a26 a27 a28 a29 a30 a31 a32 a33 a34 a35 a36 a37 a38 a39 a40 a41 a42 a43 : Nat) (x0 : Int32) (f0 : Nat → Int32) : Met l yX12_writes (.code yX12_writes cX12_writes 2 none :: lw_gd) ({ frames := 0, cells := 0, slots := 0, locals := 0 }) (gPre D [(cB, .byte), (cC, .char), (cI, .int), (cJ, .long)] [.ref a0, .int x0] [(a0, .inr (12, [.ref a1, .int 0, .int 0, .int 0, .int 0, .int 0, .int 0, .int 0, .int (-1), .ref a2, .ref a3, .ref a4, .ref a5, .ref a6, .ref a7, .ref a8, .ref a9, .ref a10, .ref a11, .ref a12, .ref a13, .ref a14, .ref a15, .ref a16, .int 0, .int 0, .int 0, .int 0, .int 0, .int 9999, .ref a17, .ref a18, .ref a19, .int 0, .ref a20, .int 0, .ref a21, .int 0, .int 0, .ref a22, .ref a23, .ref a24, .ref a25, .int 0, .ref a26, .int 0, .ref a27, .ref a28, .ref a29, .long 0, .ref a30, .ref a31, .ref a32, .ref a33, .ref a34, .ref a35, .ref a36, .ref a37, .ref a38, .int 0, .int 0, .int 0, .long 0, .ref a39, .int 0, .ref a40, .ref a41, .ref a42, .ref a43, .int 1, .int 0, .int 0, .int 0])), (a43, .inl (cI, 20, .inl f0))] sz) (va_Qv (fun _ => True) (gB D (va_A [(a0, .inr (12, [.ref a1, .int 0, .int 0, .int 0, .int 0, .int 0, .int 0, .int 0, .int (-1), .ref a2, .ref a3, .ref a4, .ref a5, .ref a6, .ref a7, .ref a8, .ref a9, .ref a10, .ref a11, .ref a12, .ref a13, .ref a14, .ref a15, .ref a16, .int 0, .int 0, .int 0, .int 0, .int 0, .int 9999, .ref a17, .ref a18, .ref a19, .int 0, .ref a20, .int 0, .ref a21, .int 0, .int 0, .ref a22, .ref a23, .ref a24, .ref a25, .int 0, .ref a26, .int 0, .ref a27, .ref a28, .ref a29, .long 0, .ref a30, .ref a31, .ref a32, .ref a33, .ref a34, .ref a35, .ref a36, .ref a37, .ref a38, .int 0, .int 0, .int 0, .long 0, .ref a39, .int 0, .ref a40, .ref a41, .ref a42, .ref a43, .int 1, .int 0, .int 0, .int 0])), (a43, .inl (cI, 20, .inl f0))] sz) (fun u : gEx => [(a0, .inr (12, [.ref a1, .int 0, .int 0, .int 0, .int 0, .int 0, .int 0, .int 0, .int (-1), .ref a2, .ref a3, .ref a4, .ref a5, .ref a6, .ref a7, .ref a8, .ref a9, .ref a10, .ref a11, .ref a12, .ref a13, .ref a14, .ref a15, .ref a16, .int 0, .int 0, .int 0, .int 0, .int 0, .int 9999, .ref a17, .ref a18, .ref a19, .int 0, .ref a20, .int 0, .ref a21, .int 0, .int 0, .ref a22, .ref a23, .ref a24, .ref a25, .int 0, .ref a26, .int 0, .ref a27, .ref a28, .ref a29, .long 0, .ref a30, .ref a31, .ref a32, .ref a33, .ref a34, .ref a35, .ref a36, .ref a37, .ref a38, .int 0, .int 0, .int 0, .long 0, .ref a39, .int 0, .ref a40, .ref a41, .ref a42, .ref a43, .int 2, .int 0, .int 0, .int 0])), (a43, .inl (cI, 20, .inl (u.2.1 0)))])) (va_A [(a0, .inr (12, [.ref a1, .int 0, .int 0, .int 0, .int 0, .int 0, .int 0, .int 0, .int (-1), .ref a2, .ref a3, .ref a4, .ref a5, .ref a6, .ref a7, .ref a8, .ref a9, .ref a10, .ref a11, .ref a12, .ref a13, .ref a14, .ref a15, .ref a16, .int 0, .int 0, .int 0, .int 0, .int 0, .int 9999, .ref a17, .ref a18, .ref a19, .int 0, .ref a20, .int 0, .ref a21, .int 0, .int 0, .ref a22, .ref a23, .ref a24, .ref a25, .int 0, .ref a26, .int 0, .ref a27, .ref a28, .ref a29, .long 0, .ref a30, .ref a31, .ref a32, .ref a33, .ref a34, .ref a35, .ref a36, .ref a37, .ref a38, .int 0, .int 0, .int 0, .long 0, .ref a39, .int 0, .ref a40, .ref a41, .ref a42, .ref a43, .int 1, .int 0, .int 0, .int 0])), (a43, .inl (cI, 20, .inl f0))] sz)) 0 0 (va_A [(a0, .inr (12, [.ref a1, .int 0, .int 0, .int 0, .int 0, .int 0, .int 0, .int 0, .int (-1), .ref a2, .ref a3, .ref a4, .ref a5, .ref a6, .ref a7, .ref a8, .ref a9, .ref a10, .ref a11, .ref a12, .ref a13, .ref a14, .ref a15, .ref a16, .int 0, .int 0, .int 0, .int 0, .int 0, .int 9999, .ref a17, .ref a18, .ref a19, .int 0, .ref a20, .int 0, .ref a21, .int 0, .int 0, .ref a22, .ref a23, .ref a24, .ref a25, .int 0, .ref a26, .int 0, .ref a27, .ref a28, .ref a29, .long 0, .ref a30, .ref a31, .ref a32, .ref a33, .ref a34, .ref a35, .ref a36, .ref a37, .ref a38, .int 0, .int 0, .int 0, .long 0, .ref a39, .int 0, .ref a40, .ref a41, .ref a42, .ref a43, .int 1, .int 0, .int 0, .int 0])), (a43, .inl (cI, 20, .inl f0))] sz) := by
  refine Met.ofW (cc := cX12_writes) (maxL := 2) (ret := none) (by decide) rfl ?_
  intro p e s m args below meth c s₁ B hml hv
  obtain ⟨rfl, hsz, hP, hK, hD0, hN⟩ := hv
  have hx := B.exec
  have hb := B.bytes
  have hr := B.returns
  have hts : ∀ w ∈ lw_gd, w.before _ s = true := fun w h => atoms_spec (ws := .code yX12_writes cX12_writes 2 none :: lw_gd) B.pre w (List.mem_cons_of_mem _ h)
  have hown : s.vm.findClass RX12 = some m.cls := findClass_of_methodNamed B.named
  have hlocks := B.notSynchronized
  subst hsz
  have hD := hD0.self (sz := s.heap.size)
  generalize hAe : va_A [(a0, .inr (12, [.ref a1, .int 0, .int 0, .int 0, .int 0, .int 0, .int 0, .int 0, .int (-1), .ref a2, .ref a3, .ref a4, .ref a5, .ref a6, .ref a7, .ref a8, .ref a9, .ref a10, .ref a11, .ref a12, .ref a13, .ref a14, .ref a15, .ref a16, .int 0, .int 0, .int 0, .int 0, .int 0, .int 9999, .ref a17, .ref a18, .ref a19, .int 0, .ref a20, .int 0, .ref a21, .int 0, .int 0, .ref a22, .ref a23, .ref a24, .ref a25, .int 0, .ref a26, .int 0, .ref a27, .ref a28, .ref a29, .long 0, .ref a30, .ref a31, .ref a32, .ref a33, .ref a34, .ref a35, .ref a36, .ref a37, .ref a38, .int 0, .int 0, .int 0, .long 0, .ref a39, .int 0, .ref a40, .ref a41, .ref a42, .ref a43, .int 1, .int 0, .int 0, .int 0])), (a43, .inl (cI, 20, .inl f0))] s.heap.size = A at hD ⊢
  have hA : ∀ q : Nat, s.heap.size ≤ q → A q := fun q h => by rw [← hAe]; exact Or.inr h
  have hS : va_S A s.heap s.heap [] := va_S.rf
  have hP : va_P D gcl [(a0, .inr (12, [.ref a1, .int 0, .int 0, .int 0, .int 0, .int 0, .int 0, .int 0, .int (-1), .ref a2, .ref a3, .ref a4, .ref a5, .ref a6, .ref a7, .ref a8, .ref a9, .ref a10, .ref a11, .ref a12, .ref a13, .ref a14, .ref a15, .ref a16, .int 0, .int 0, .int 0, .int 0, .int 0, .int 9999, .ref a17, .ref a18, .ref a19, .int 0, .ref a20, .int 0, .ref a21, .int 0, .int 0, .ref a22, .ref a23, .ref a24, .ref a25, .int 0, .ref a26, .int 0, .ref a27, .ref a28, .ref a29, .long 0, .ref a30, .ref a31, .ref a32, .ref a33, .ref a34, .ref a35, .ref a36, .ref a37, .ref a38, .int 0, .int 0, .int 0, .long 0, .ref a39, .int 0, .ref a40, .ref a41, .ref a42, .ref a43, .int 1, .int 0, .int 0, .int 0])), (a43, .inl (cI, 20, .inl f0))] s.heap := hP
  have hl := lv_entry ([.ref a0, .int x0]) (n := 2) (Nat.le_of_ble_eq_true rfl)
  rw [lg_entry_eq]
  generalize (lg_sl ([.ref a0, .int x0]) ++ List.replicate (2 - (lg_sl ([.ref a0, .int x0])).length) Slot.unset).toArray = ls at hl ⊢
  have hl : lv_has ls 2 [(0, .ref a0), (1, .int x0)] := hl
  refine lv_aload_n (pc := 0) hx hb dX12_writes_0 rfl (lv_at hl 0 rfl) ?_
  refine va_get (pc := 1) (ci := 12) (v := .ref a43) (C := RX12) (T := TX12) (N := 73) hx hb hts iX12 hown hK hP 0 rfl rfl 68 (by decide) (hts _ tw_1469) (fun _ h9 => h9) rfl dX12_writes_1 ?_
  refine lv_aload_n (pc := 4) hx hb dX12_writes_4 rfl (lv_at hl 0 rfl) ?_
  refine va_get (pc := 5) (ci := 12) (v := .int 1) (C := RX12) (T := TX12) (N := 73) hx hb hts iX12 hown hK hP 0 rfl rfl 69 (by decide) (hts _ tw_1470) (fun _ h9 => h9) rfl dX12_writes_5 ?_
  refine lv_iload_n (pc := 8) hx hb dX12_writes_8 rfl (lv_at hl 1 rfl) ?_
  refine g_iastore (pc := 9) hx hb hK hP hD hS 1 2 rfl rfl (gin rfl) dX12_writes_9 (fun f_1 H locs hP hD hS => ?_)
  have hP : va_P D gcl [(a0, .inr (12, [.ref a1, .int 0, .int 0, .int 0, .int 0, .int 0, .int 0, .int 0, .int (-1), .ref a2, .ref a3, .ref a4, .ref a5, .ref a6, .ref a7, .ref a8, .ref a9, .ref a10, .ref a11, .ref a12, .ref a13, .ref a14, .ref a15, .ref a16, .int 0, .int 0, .int 0, .int 0, .int 0, .int 9999, .ref a17, .ref a18, .ref a19, .int 0, .ref a20, .int 0, .ref a21, .int 0, .int 0, .ref a22, .ref a23, .ref a24, .ref a25, .int 0, .ref a26, .int 0, .ref a27, .ref a28, .ref a29, .long 0, .ref a30, .ref a31, .ref a32, .ref a33, .ref a34, .ref a35, .ref a36, .ref a37, .ref a38, .int 0, .int 0, .int 0, .long 0, .ref a39, .int 0, .ref a40, .ref a41, .ref a42, .ref a43, .int 1, .int 0, .int 0, .int 0])), (a43, .inl (cI, 20, .inl f_1))] H := hP
  have hD : va_D A [(a0, .inr (12, [.ref a1, .int 0, .int 0, .int 0, .int 0, .int 0, .int 0, .int 0, .int (-1), .ref a2, .ref a3, .ref a4, .ref a5, .ref a6, .ref a7, .ref a8, .ref a9, .ref a10, .ref a11, .ref a12, .ref a13, .ref a14, .ref a15, .ref a16, .int 0, .int 0, .int 0, .int 0, .int 0, .int 9999, .ref a17, .ref a18, .ref a19, .int 0, .ref a20, .int 0, .ref a21, .int 0, .int 0, .ref a22, .ref a23, .ref a24, .ref a25, .int 0, .ref a26, .int 0, .ref a27, .ref a28, .ref a29, .long 0, .ref a30, .ref a31, .ref a32, .ref a33, .ref a34, .ref a35, .ref a36, .ref a37, .ref a38, .int 0, .int 0, .int 0, .long 0, .ref a39, .int 0, .ref a40, .ref a41, .ref a42, .ref a43, .int 1, .int 0, .int 0, .int 0])), (a43, .inl (cI, 20, .inl f_1))] := hD
  refine lv_aload_n (pc := 10) hx hb dX12_writes_10 rfl (lv_at hl 0 rfl) ?_
  refine lv_dup (pc := 11) hx hb dX12_writes_11 rfl ?_
  refine va_get (pc := 12) (ci := 12) (v := .int 1) (C := RX12) (T := TX12) (N := 73) hx hb hts iX12 hown hK hP 0 rfl rfl 69 (by decide) (hts _ tw_1470) (fun _ h9 => h9) rfl dX12_writes_12 ?_
  refine lv_iconst (pc := 15) (v := 1) hx hb dX12_writes_15 (by decide) ?_
  refine lv_iadd (pc := 16) hx hb dX12_writes_16 ?_
  refine gI (y := 2) (by decide +kernel) ?_
  refine va_put (pc := 17) (ci := 12) (v := .int 2) (ty := .int) (C := RX12) (T := TX12) (N := 73) hx hb hts iX12 tyX12 tyX12_ok nmX12 hown hK hP hD hS 0 rfl rfl 69 (by decide) (hts _ tw_1470) (fun _ h9 => h9) rfl (by decide +kernel) (by decide +kernel) (by decide +kernel) (Nat.le_of_ble_eq_true rfl) dX12_writes_17 (fun H locs hP hD hS => ?_)
  have hP : va_P D gcl [(a0, .inr (12, [.ref a1, .int 0, .int 0, .int 0, .int 0, .int 0, .int 0, .int 0, .int (-1), .ref a2, .ref a3, .ref a4, .ref a5, .ref a6, .ref a7, .ref a8, .ref a9, .ref a10, .ref a11, .ref a12, .ref a13, .ref a14, .ref a15, .ref a16, .int 0, .int 0, .int 0, .int 0, .int 0, .int 9999, .ref a17, .ref a18, .ref a19, .int 0, .ref a20, .int 0, .ref a21, .int 0, .int 0, .ref a22, .ref a23, .ref a24, .ref a25, .int 0, .ref a26, .int 0, .ref a27, .ref a28, .ref a29, .long 0, .ref a30, .ref a31, .ref a32, .ref a33, .ref a34, .ref a35, .ref a36, .ref a37, .ref a38, .int 0, .int 0, .int 0, .long 0, .ref a39, .int 0, .ref a40, .ref a41, .ref a42, .ref a43, .int 2, .int 0, .int 0, .int 0])), (a43, .inl (cI, 20, .inl f_1))] H := hP
  have hD : va_D A [(a0, .inr (12, [.ref a1, .int 0, .int 0, .int 0, .int 0, .int 0, .int 0, .int 0, .int (-1), .ref a2, .ref a3, .ref a4, .ref a5, .ref a6, .ref a7, .ref a8, .ref a9, .ref a10, .ref a11, .ref a12, .ref a13, .ref a14, .ref a15, .ref a16, .int 0, .int 0, .int 0, .int 0, .int 0, .int 9999, .ref a17, .ref a18, .ref a19, .int 0, .ref a20, .int 0, .ref a21, .int 0, .int 0, .ref a22, .ref a23, .ref a24, .ref a25, .int 0, .ref a26, .int 0, .ref a27, .ref a28, .ref a29, .long 0, .ref a30, .ref a31, .ref a32, .ref a33, .ref a34, .ref a35, .ref a36, .ref a37, .ref a38, .int 0, .int 0, .int 0, .long 0, .ref a39, .int 0, .ref a40, .ref a41, .ref a42, .ref a43, .int 2, .int 0, .int 0, .int 0])), (a43, .inl (cI, 20, .inl f_1))] := hD
  have hP9 := hP.sub (ws' := [(a0, .inr (12, [.ref a1, .int 0, .int 0, .int 0, .int 0, .int 0, .int 0, .int 0, .int (-1), .ref a2, .ref a3, .ref a4, .ref a5, .ref a6, .ref a7, .ref a8, .ref a9, .ref a10, .ref a11, .ref a12, .ref a13, .ref a14, .ref a15, .ref a16, .int 0, .int 0, .int 0, .int 0, .int 0, .int 9999, .ref a17, .ref a18, .ref a19, .int 0, .ref a20, .int 0, .ref a21, .int 0, .int 0, .ref a22, .ref a23, .ref a24, .ref a25, .int 0, .ref a26, .int 0, .ref a27, .ref a28, .ref a29, .long 0, .ref a30, .ref a31, .ref a32, .ref a33, .ref a34, .ref a35, .ref a36, .ref a37, .ref a38, .int 0, .int 0, .int 0, .long 0, .ref a39, .int 0, .ref a40, .ref a41, .ref a42, .ref a43, .int 2, .int 0, .int 0, .int 0])), (a43, .inl (cI, 20, .inl f_1))]) [0, 1] rfl
  have hD9 := hD.sub (ws' := [(a0, .inr (12, [.ref a1, .int 0, .int 0, .int 0, .int 0, .int 0, .int 0, .int 0, .int (-1), .ref a2, .ref a3, .ref a4, .ref a5, .ref a6, .ref a7, .ref a8, .ref a9, .ref a10, .ref a11, .ref a12, .ref a13, .ref a14, .ref a15, .ref a16, .int 0, .int 0, .int 0, .int 0, .int 0, .int 9999, .ref a17, .ref a18, .ref a19, .int 0, .ref a20, .int 0, .ref a21, .int 0, .int 0, .ref a22, .ref a23, .ref a24, .ref a25, .int 0, .ref a26, .int 0, .ref a27, .ref a28, .ref a29, .long 0, .ref a30, .ref a31, .ref a32, .ref a33, .ref a34, .ref a35, .ref a36, .ref a37, .ref a38, .int 0, .int 0, .int 0, .long 0, .ref a39, .int 0, .ref a40, .ref a41, .ref a42, .ref a43, .int 2, .int 0, .int 0, .int 0])), (a43, .inl (cI, 20, .inl f_1))]) [0, 1] (by decide) rfl
  refine W.widen (k := 0) (n := 0) (Nat.le_of_ble_eq_true rfl) (Nat.le_of_ble_eq_true rfl) ?_
  exact W.vret hx hb hr (fun t ht hW => ⟨⟨((fun _ => 0), (fun k => [f_1].getD k (fun _ => 0)), (fun _ => (fun _ => 0)), (fun _ => 0), (fun _ => 0)), rfl, trivial, by rw [ht]; exact hP9, hD9⟩, hS.F ht⟩) hS.2.2 dX12_writes_20
set_option maxHeartbeats 4000000 in
set_option maxRecDepth 100000 in
theorem cc_222_yX12_image (l : Launch) (D : va_G) (cB cC cI cJ : ClassId) (sz : Nat) (a0 a1 a2 a3 a4 a5 a6 a7 a8 a9 a10 a11 a12 a13 a14 a15 a16 a17 a18 a19 a20 a21 a22 a23 a24 a25 a26 a27 a28 a29 a30 a31 a32 a33 a34 a35 a36 a37 a38 a39 a40 a41 a42 a43 : Nat) : Met l yX12_image (.code yX12_image cX12_image 2 (some .int) :: lw_gd) ({ frames := 1, cells := 0, slots := 0, locals := 23 }) (gPre D [(cB, .byte), (cC, .char), (cI, .int), (cJ, .long)] [.ref a0] [(a0, .inr (12, [.ref a1, .int 0, .int 0, .int 0, .int 0, .int 0, .int 0, .int 0, .int (-1), .ref a2, .ref a3, .ref a4, .ref a5, .ref a6, .ref a7, .ref a8, .ref a9, .ref a10, .ref a11, .ref a12, .ref a13, .ref a14, .ref a15, .ref a16, .int 0, .int 0, .int 0, .int 0, .int 0, .int 9999, .ref a17, .ref a18, .ref a19, .int 0, .ref a20, .int 0, .ref a21, .int 0, .int 0, .ref a22, .ref a23, .ref a24, .ref a25, .int 0, .ref a26, .int 0, .ref a27, .ref a28, .ref a29, .long 0, .ref a30, .ref a31, .ref a32, .ref a33, .ref a34, .ref a35, .ref a36, .ref a37, .ref a38, .int 0, .int 0, .int 0, .long 0, .ref a39, .int 0, .ref a40, .ref a41, .ref a42, .ref a43, .int 0, .int 0, .int 0, .int 0])), (a43, .inl (cI, 20, .inl (fun _ => 0)))] sz) (va_Qi (fun r _ => r = 2) (gB D (va_A [(a0, .inr (12, [.ref a1, .int 0, .int 0, .int 0, .int 0, .int 0, .int 0, .int 0, .int (-1), .ref a2, .ref a3, .ref a4, .ref a5, .ref a6, .ref a7, .ref a8, .ref a9, .ref a10, .ref a11, .ref a12, .ref a13, .ref a14, .ref a15, .ref a16, .int 0, .int 0, .int 0, .int 0, .int 0, .int 9999, .ref a17, .ref a18, .ref a19, .int 0, .ref a20, .int 0, .ref a21, .int 0, .int 0, .ref a22, .ref a23, .ref a24, .ref a25, .int 0, .ref a26, .int 0, .ref a27, .ref a28, .ref a29, .long 0, .ref a30, .ref a31, .ref a32, .ref a33, .ref a34, .ref a35, .ref a36, .ref a37, .ref a38, .int 0, .int 0, .int 0, .long 0, .ref a39, .int 0, .ref a40, .ref a41, .ref a42, .ref a43, .int 0, .int 0, .int 0, .int 0])), (a43, .inl (cI, 20, .inl (fun _ => 0)))] sz) (fun u : gEx => [])) (va_A [(a0, .inr (12, [.ref a1, .int 0, .int 0, .int 0, .int 0, .int 0, .int 0, .int 0, .int (-1), .ref a2, .ref a3, .ref a4, .ref a5, .ref a6, .ref a7, .ref a8, .ref a9, .ref a10, .ref a11, .ref a12, .ref a13, .ref a14, .ref a15, .ref a16, .int 0, .int 0, .int 0, .int 0, .int 0, .int 9999, .ref a17, .ref a18, .ref a19, .int 0, .ref a20, .int 0, .ref a21, .int 0, .int 0, .ref a22, .ref a23, .ref a24, .ref a25, .int 0, .ref a26, .int 0, .ref a27, .ref a28, .ref a29, .long 0, .ref a30, .ref a31, .ref a32, .ref a33, .ref a34, .ref a35, .ref a36, .ref a37, .ref a38, .int 0, .int 0, .int 0, .long 0, .ref a39, .int 0, .ref a40, .ref a41, .ref a42, .ref a43, .int 0, .int 0, .int 0, .int 0])), (a43, .inl (cI, 20, .inl (fun _ => 0)))] sz)) 0 0 (va_A [(a0, .inr (12, [.ref a1, .int 0, .int 0, .int 0, .int 0, .int 0, .int 0, .int 0, .int (-1), .ref a2, .ref a3, .ref a4, .ref a5, .ref a6, .ref a7, .ref a8, .ref a9, .ref a10, .ref a11, .ref a12, .ref a13, .ref a14, .ref a15, .ref a16, .int 0, .int 0, .int 0, .int 0, .int 0, .int 9999, .ref a17, .ref a18, .ref a19, .int 0, .ref a20, .int 0, .ref a21, .int 0, .int 0, .ref a22, .ref a23, .ref a24, .ref a25, .int 0, .ref a26, .int 0, .ref a27, .ref a28, .ref a29, .long 0, .ref a30, .ref a31, .ref a32, .ref a33, .ref a34, .ref a35, .ref a36, .ref a37, .ref a38, .int 0, .int 0, .int 0, .long 0, .ref a39, .int 0, .ref a40, .ref a41, .ref a42, .ref a43, .int 0, .int 0, .int 0, .int 0])), (a43, .inl (cI, 20, .inl (fun _ => 0)))] sz) := by
  refine Met.ofW (cc := cX12_image) (maxL := 2) (ret := (some .int)) (by decide) rfl ?_
  intro p e s m args below meth c s₁ B hml hv
  obtain ⟨rfl, hsz, hP, hK, hD0, hN⟩ := hv
  have hx := B.exec
  have hb := B.bytes
  have hr := B.returns
  have hts : ∀ w ∈ lw_gd, w.before _ s = true := fun w h => atoms_spec (ws := .code yX12_image cX12_image 2 (some .int) :: lw_gd) B.pre w (List.mem_cons_of_mem _ h)
  have hown : s.vm.findClass RX12 = some m.cls := findClass_of_methodNamed B.named
  have hlocks := B.notSynchronized
  subst hsz
  have hD := hD0.self (sz := s.heap.size)
  generalize hAe : va_A [(a0, .inr (12, [.ref a1, .int 0, .int 0, .int 0, .int 0, .int 0, .int 0, .int 0, .int (-1), .ref a2, .ref a3, .ref a4, .ref a5, .ref a6, .ref a7, .ref a8, .ref a9, .ref a10, .ref a11, .ref a12, .ref a13, .ref a14, .ref a15, .ref a16, .int 0, .int 0, .int 0, .int 0, .int 0, .int 9999, .ref a17, .ref a18, .ref a19, .int 0, .ref a20, .int 0, .ref a21, .int 0, .int 0, .ref a22, .ref a23, .ref a24, .ref a25, .int 0, .ref a26, .int 0, .ref a27, .ref a28, .ref a29, .long 0, .ref a30, .ref a31, .ref a32, .ref a33, .ref a34, .ref a35, .ref a36, .ref a37, .ref a38, .int 0, .int 0, .int 0, .long 0, .ref a39, .int 0, .ref a40, .ref a41, .ref a42, .ref a43, .int 0, .int 0, .int 0, .int 0])), (a43, .inl (cI, 20, .inl (fun _ => 0)))] s.heap.size = A at hD ⊢
  have hA : ∀ q : Nat, s.heap.size ≤ q → A q := fun q h => by rw [← hAe]; exact Or.inr h
  have hS : va_S A s.heap s.heap [] := va_S.rf
  have hP : va_P D gcl [(a0, .inr (12, [.ref a1, .int 0, .int 0, .int 0, .int 0, .int 0, .int 0, .int 0, .int (-1), .ref a2, .ref a3, .ref a4, .ref a5, .ref a6, .ref a7, .ref a8, .ref a9, .ref a10, .ref a11, .ref a12, .ref a13, .ref a14, .ref a15, .ref a16, .int 0, .int 0, .int 0, .int 0, .int 0, .int 9999, .ref a17, .ref a18, .ref a19, .int 0, .ref a20, .int 0, .ref a21, .int 0, .int 0, .ref a22, .ref a23, .ref a24, .ref a25, .int 0, .ref a26, .int 0, .ref a27, .ref a28, .ref a29, .long 0, .ref a30, .ref a31, .ref a32, .ref a33, .ref a34, .ref a35, .ref a36, .ref a37, .ref a38, .int 0, .int 0, .int 0, .long 0, .ref a39, .int 0, .ref a40, .ref a41, .ref a42, .ref a43, .int 0, .int 0, .int 0, .int 0])), (a43, .inl (cI, 20, .inl (fun _ => 0)))] s.heap := hP
  have hl := lv_entry ([.ref a0]) (n := 2) (Nat.le_of_ble_eq_true rfl)
  rw [lg_entry_eq]
  generalize (lg_sl ([.ref a0]) ++ List.replicate (2 - (lg_sl ([.ref a0])).length) Slot.unset).toArray = ls at hl ⊢
  have hl : lv_has ls 2 [(0, .ref a0)] := hl
  refine lv_aload_n (pc := 0) hx hb dX12_image_0 rfl (lv_at hl 0 rfl) ?_
  refine lv_iconst (pc := 1) (v := 0) hx hb dX12_image_1 (by decide) ?_
  refine va_put (pc := 2) (ci := 12) (v := .int 0) (ty := .int) (C := RX12) (T := TX12) (N := 73) hx hb hts iX12 tyX12 tyX12_ok nmX12 hown hK hP hD hS 0 rfl rfl 69 (by decide) (hts _ tw_1470) (fun _ h9 => h9) rfl (by decide +kernel) (by decide +kernel) (by decide +kernel) (Nat.le_of_ble_eq_true rfl) dX12_image_2 (fun H locs hP hD hS => ?_)
  have hP : va_P D gcl [(a0, .inr (12, [.ref a1, .int 0, .int 0, .int 0, .int 0, .int 0, .int 0, .int 0, .int (-1), .ref a2, .ref a3, .ref a4, .ref a5, .ref a6, .ref a7, .ref a8, .ref a9, .ref a10, .ref a11, .ref a12, .ref a13, .ref a14, .ref a15, .ref a16, .int 0, .int 0, .int 0, .int 0, .int 0, .int 9999, .ref a17, .ref a18, .ref a19, .int 0, .ref a20, .int 0, .ref a21, .int 0, .int 0, .ref a22, .ref a23, .ref a24, .ref a25, .int 0, .ref a26, .int 0, .ref a27, .ref a28, .ref a29, .long 0, .ref a30, .ref a31, .ref a32, .ref a33, .ref a34, .ref a35, .ref a36, .ref a37, .ref a38, .int 0, .int 0, .int 0, .long 0, .ref a39, .int 0, .ref a40, .ref a41, .ref a42, .ref a43, .int 0, .int 0, .int 0, .int 0])), (a43, .inl (cI, 20, .inl (fun _ => 0)))] H := hP
  have hD : va_D A [(a0, .inr (12, [.ref a1, .int 0, .int 0, .int 0, .int 0, .int 0, .int 0, .int 0, .int (-1), .ref a2, .ref a3, .ref a4, .ref a5, .ref a6, .ref a7, .ref a8, .ref a9, .ref a10, .ref a11, .ref a12, .ref a13, .ref a14, .ref a15, .ref a16, .int 0, .int 0, .int 0, .int 0, .int 0, .int 9999, .ref a17, .ref a18, .ref a19, .int 0, .ref a20, .int 0, .ref a21, .int 0, .int 0, .ref a22, .ref a23, .ref a24, .ref a25, .int 0, .ref a26, .int 0, .ref a27, .ref a28, .ref a29, .long 0, .ref a30, .ref a31, .ref a32, .ref a33, .ref a34, .ref a35, .ref a36, .ref a37, .ref a38, .int 0, .int 0, .int 0, .long 0, .ref a39, .int 0, .ref a40, .ref a41, .ref a42, .ref a43, .int 0, .int 0, .int 0, .int 0])), (a43, .inl (cI, 20, .inl (fun _ => 0)))] := hD
  refine lv_iconst (pc := 5) (v := 0) hx hb dX12_image_5 (by decide) ?_
  refine lv_istore_n (pc := 6) (lv' := [(1, .int 0), (0, .ref a0)]) hx hb dX12_image_6 rfl hl (by decide) rfl (fun ls hl => ?_)
  refine lv_iload_n (pc := 7) hx hb dX12_image_7 rfl (lv_at hl 0 rfl) ?_
  refine lv_aload_n (pc := 8) hx hb dX12_image_8 rfl (lv_at hl 1 rfl) ?_
  refine va_get (pc := 9) (ci := 12) (v := .int 0) (C := RX12) (T := TX12) (N := 73) hx hb hts iX12 hown hK hP 0 rfl rfl 26 (by decide) (hts _ tw_1427) (fun _ h9 => h9) rfl dX12_image_9 ?_
  refine lv_icmp_ge (pc := 12) (tgt := 52) hx hb dX12_image_12 (by decide) (fun _ => ?_) (fun c => absurd (by decide +kernel) c)
  refine lv_aload_n (pc := 52) hx hb dX12_image_52 rfl (lv_at hl 1 rfl) ?_
  refine lv_aload_n (pc := 53) hx hb dX12_image_53 rfl (lv_at hl 1 rfl) ?_
  refine va_get (pc := 54) (ci := 12) (v := .int 0) (C := RX12) (T := TX12) (N := 73) hx hb hts iX12 hown hK hP 0 rfl rfl 59 (by decide) (hts _ tw_1460) (fun _ h9 => h9) rfl dX12_image_54 ?_
  refine gc_v (pc := 57) (wc := [(a0, .inr (12, [.ref a1, .int 0, .int 0, .int 0, .int 0, .int 0, .int 0, .int 0, .int (-1), .ref a2, .ref a3, .ref a4, .ref a5, .ref a6, .ref a7, .ref a8, .ref a9, .ref a10, .ref a11, .ref a12, .ref a13, .ref a14, .ref a15, .ref a16, .int 0, .int 0, .int 0, .int 0, .int 0, .int 9999, .ref a17, .ref a18, .ref a19, .int 0, .ref a20, .int 0, .ref a21, .int 0, .int 0, .ref a22, .ref a23, .ref a24, .ref a25, .int 0, .ref a26, .int 0, .ref a27, .ref a28, .ref a29, .long 0, .ref a30, .ref a31, .ref a32, .ref a33, .ref a34, .ref a35, .ref a36, .ref a37, .ref a38, .int 0, .int 0, .int 0, .long 0, .ref a39, .int 0, .ref a40, .ref a41, .ref a42, .ref a43, .int 0, .int 0, .int 0, .int 0])), (a43, .inl (cI, 20, .inl (fun _ => 0)))]) (wr := []) hP hD hS hA [0, 1] [] rfl rfl (by decide) (by decide) (by decide) (fun hPc hDc => va_runV (As := [.int 0]) (rest := []) ⟨hx, hb, hml, hown, hts⟩ (cc_219_yX12_writes l D cB cC cI cJ _ a0 a1 a2 a3 a4 a5 a6 a7 a8 a9 a10 a11 a12 a13 a14 a15 a16 a17 a18 a19 a20 a21 a22 a23 a24 a25 a26 a27 a28 a29 a30 a31 a32 a33 a34 a35 a36 a37 a38 a39 a40 a41 a42 a43) ⟨gcwB hts tw_2089 tw_14 tw_2086 hd_yX12_writes ⟨Nat.le_of_ble_eq_true rfl, Nat.le_of_ble_eq_true rfl⟩, hts _ tw_2088, hts _ tp_121⟩ ⟨gblind, va_recv hK hPc (ci := 12) (q0 := 0) rfl rfl, (gpreS hPc hK hDc hN).2⟩ rfl rfl hl.1 rfl (lv_room (Nat.le_of_ble_eq_true rfl)) dX12_image_57 ⟨Nat.le_of_ble_eq_true rfl, Nat.le_of_ble_eq_true rfl⟩) (fun u_1 H locs hw_3 hP hD hS => ?_)
  have hP : va_P D gcl [(a0, .inr (12, [.ref a1, .int 0, .int 0, .int 0, .int 0, .int 0, .int 0, .int 0, .int (-1), .ref a2, .ref a3, .ref a4, .ref a5, .ref a6, .ref a7, .ref a8, .ref a9, .ref a10, .ref a11, .ref a12, .ref a13, .ref a14, .ref a15, .ref a16, .int 0, .int 0, .int 0, .int 0, .int 0, .int 9999, .ref a17, .ref a18, .ref a19, .int 0, .ref a20, .int 0, .ref a21, .int 0, .int 0, .ref a22, .ref a23, .ref a24, .ref a25, .int 0, .ref a26, .int 0, .ref a27, .ref a28, .ref a29, .long 0, .ref a30, .ref a31, .ref a32, .ref a33, .ref a34, .ref a35, .ref a36, .ref a37, .ref a38, .int 0, .int 0, .int 0, .long 0, .ref a39, .int 0, .ref a40, .ref a41, .ref a42, .ref a43, .int 1, .int 0, .int 0, .int 0])), (a43, .inl (cI, 20, .inl (u_1.2.1 0)))] H := hP
  have hD : va_D A [(a0, .inr (12, [.ref a1, .int 0, .int 0, .int 0, .int 0, .int 0, .int 0, .int 0, .int (-1), .ref a2, .ref a3, .ref a4, .ref a5, .ref a6, .ref a7, .ref a8, .ref a9, .ref a10, .ref a11, .ref a12, .ref a13, .ref a14, .ref a15, .ref a16, .int 0, .int 0, .int 0, .int 0, .int 0, .int 9999, .ref a17, .ref a18, .ref a19, .int 0, .ref a20, .int 0, .ref a21, .int 0, .int 0, .ref a22, .ref a23, .ref a24, .ref a25, .int 0, .ref a26, .int 0, .ref a27, .ref a28, .ref a29, .long 0, .ref a30, .ref a31, .ref a32, .ref a33, .ref a34, .ref a35, .ref a36, .ref a37, .ref a38, .int 0, .int 0, .int 0, .long 0, .ref a39, .int 0, .ref a40, .ref a41, .ref a42, .ref a43, .int 1, .int 0, .int 0, .int 0])), (a43, .inl (cI, 20, .inl (u_1.2.1 0)))] := hD
  refine lv_aload_n (pc := 60) hx hb dX12_image_60 rfl (lv_at hl 1 rfl) ?_
  refine lv_aload_n (pc := 61) hx hb dX12_image_61 rfl (lv_at hl 1 rfl) ?_
  refine va_get (pc := 62) (ci := 12) (v := .ref a43) (C := RX12) (T := TX12) (N := 73) hx hb hts iX12 hown hK hP 0 rfl rfl 68 (by decide) (hts _ tw_1469) (fun _ h9 => h9) rfl dX12_image_62 ?_
  refine lv_aload_n (pc := 65) hx hb dX12_image_65 rfl (lv_at hl 1 rfl) ?_
  refine va_get (pc := 66) (ci := 12) (v := .int 1) (C := RX12) (T := TX12) (N := 73) hx hb hts iX12 hown hK hP 0 rfl rfl 69 (by decide) (hts _ tw_1470) (fun _ h9 => h9) rfl dX12_image_66 ?_
  refine gc_i (pc := 69) (wc := [(a43, .inl (cI, 20, .inl (u_1.2.1 0)))]) (wr := [(a0, .inr (12, [.ref a1, .int 0, .int 0, .int 0, .int 0, .int 0, .int 0, .int 0, .int (-1), .ref a2, .ref a3, .ref a4, .ref a5, .ref a6, .ref a7, .ref a8, .ref a9, .ref a10, .ref a11, .ref a12, .ref a13, .ref a14, .ref a15, .ref a16, .int 0, .int 0, .int 0, .int 0, .int 0, .int 9999, .ref a17, .ref a18, .ref a19, .int 0, .ref a20, .int 0, .ref a21, .int 0, .int 0, .ref a22, .ref a23, .ref a24, .ref a25, .int 0, .ref a26, .int 0, .ref a27, .ref a28, .ref a29, .long 0, .ref a30, .ref a31, .ref a32, .ref a33, .ref a34, .ref a35, .ref a36, .ref a37, .ref a38, .int 0, .int 0, .int 0, .long 0, .ref a39, .int 0, .ref a40, .ref a41, .ref a42, .ref a43, .int 1, .int 0, .int 0, .int 0]))]) hP hD hS hA [1] [0] rfl rfl (by decide) (by decide) (by decide) (fun hPc hDc => va_runS (As := [.ref a43, .int 1]) (rest := [.ref a0]) ⟨hx, hb, hml, hown, hts⟩ (cc_220_yX12_checked l D cB cC cI cJ _ a43 (u_1.2.1 0)) ⟨gcwB hts tw_2092 tw_14 tw_2090 hd_yX12_checked ⟨Nat.le_of_ble_eq_true rfl, Nat.le_of_ble_eq_true rfl⟩, hts _ tw_2091⟩ (gpreS hPc hK hDc hN) rfl rfl hl.1 rfl (lv_room (Nat.le_of_ble_eq_true rfl)) dX12_image_69 ⟨Nat.le_of_ble_eq_true rfl, Nat.le_of_ble_eq_true rfl⟩) (fun r_5 u_4 H locs hw_6 hP hD hS => ?_)
  have hP : va_P D gcl [(a0, .inr (12, [.ref a1, .int 0, .int 0, .int 0, .int 0, .int 0, .int 0, .int 0, .int (-1), .ref a2, .ref a3, .ref a4, .ref a5, .ref a6, .ref a7, .ref a8, .ref a9, .ref a10, .ref a11, .ref a12, .ref a13, .ref a14, .ref a15, .ref a16, .int 0, .int 0, .int 0, .int 0, .int 0, .int 9999, .ref a17, .ref a18, .ref a19, .int 0, .ref a20, .int 0, .ref a21, .int 0, .int 0, .ref a22, .ref a23, .ref a24, .ref a25, .int 0, .ref a26, .int 0, .ref a27, .ref a28, .ref a29, .long 0, .ref a30, .ref a31, .ref a32, .ref a33, .ref a34, .ref a35, .ref a36, .ref a37, .ref a38, .int 0, .int 0, .int 0, .long 0, .ref a39, .int 0, .ref a40, .ref a41, .ref a42, .ref a43, .int 1, .int 0, .int 0, .int 0])), (a43, .inl (cI, 20, .inl (u_1.2.1 0)))] H := hP
  have hD : va_D A [(a0, .inr (12, [.ref a1, .int 0, .int 0, .int 0, .int 0, .int 0, .int 0, .int 0, .int (-1), .ref a2, .ref a3, .ref a4, .ref a5, .ref a6, .ref a7, .ref a8, .ref a9, .ref a10, .ref a11, .ref a12, .ref a13, .ref a14, .ref a15, .ref a16, .int 0, .int 0, .int 0, .int 0, .int 0, .int 9999, .ref a17, .ref a18, .ref a19, .int 0, .ref a20, .int 0, .ref a21, .int 0, .int 0, .ref a22, .ref a23, .ref a24, .ref a25, .int 0, .ref a26, .int 0, .ref a27, .ref a28, .ref a29, .long 0, .ref a30, .ref a31, .ref a32, .ref a33, .ref a34, .ref a35, .ref a36, .ref a37, .ref a38, .int 0, .int 0, .int 0, .long 0, .ref a39, .int 0, .ref a40, .ref a41, .ref a42, .ref a43, .int 1, .int 0, .int 0, .int 0])), (a43, .inl (cI, 20, .inl (u_1.2.1 0)))] := hD
  refine gc_v (pc := 72) (wc := [(a0, .inr (12, [.ref a1, .int 0, .int 0, .int 0, .int 0, .int 0, .int 0, .int 0, .int (-1), .ref a2, .ref a3, .ref a4, .ref a5, .ref a6, .ref a7, .ref a8, .ref a9, .ref a10, .ref a11, .ref a12, .ref a13, .ref a14, .ref a15, .ref a16, .int 0, .int 0, .int 0, .int 0, .int 0, .int 9999, .ref a17, .ref a18, .ref a19, .int 0, .ref a20, .int 0, .ref a21, .int 0, .int 0, .ref a22, .ref a23, .ref a24, .ref a25, .int 0, .ref a26, .int 0, .ref a27, .ref a28, .ref a29, .long 0, .ref a30, .ref a31, .ref a32, .ref a33, .ref a34, .ref a35, .ref a36, .ref a37, .ref a38, .int 0, .int 0, .int 0, .long 0, .ref a39, .int 0, .ref a40, .ref a41, .ref a42, .ref a43, .int 1, .int 0, .int 0, .int 0])), (a43, .inl (cI, 20, .inl (u_1.2.1 0)))]) (wr := []) hP hD hS hA [0, 1] [] rfl rfl (by decide) (by decide) (by decide) (fun hPc hDc => va_runV (As := [.int r_5]) (rest := []) ⟨hx, hb, hml, hown, hts⟩ (cc_221_yX12_writes l D cB cC cI cJ _ a0 a1 a2 a3 a4 a5 a6 a7 a8 a9 a10 a11 a12 a13 a14 a15 a16 a17 a18 a19 a20 a21 a22 a23 a24 a25 a26 a27 a28 a29 a30 a31 a32 a33 a34 a35 a36 a37 a38 a39 a40 a41 a42 a43 r_5 (u_1.2.1 0)) ⟨gcwB hts tw_2089 tw_14 tw_2086 hd_yX12_writes ⟨Nat.le_of_ble_eq_true rfl, Nat.le_of_ble_eq_true rfl⟩, hts _ tw_2088, hts _ tp_121⟩ ⟨gblind, va_recv hK hPc (ci := 12) (q0 := 0) rfl rfl, (gpreS hPc hK hDc hN).2⟩ rfl rfl hl.1 rfl (lv_room (Nat.le_of_ble_eq_true rfl)) dX12_image_72 ⟨Nat.le_of_ble_eq_true rfl, Nat.le_of_ble_eq_true rfl⟩) (fun u_7 H locs hw_9 hP hD hS => ?_)
  have hP : va_P D gcl [(a0, .inr (12, [.ref a1, .int 0, .int 0, .int 0, .int 0, .int 0, .int 0, .int 0, .int (-1), .ref a2, .ref a3, .ref a4, .ref a5, .ref a6, .ref a7, .ref a8, .ref a9, .ref a10, .ref a11, .ref a12, .ref a13, .ref a14, .ref a15, .ref a16, .int 0, .int 0, .int 0, .int 0, .int 0, .int 9999, .ref a17, .ref a18, .ref a19, .int 0, .ref a20, .int 0, .ref a21, .int 0, .int 0, .ref a22, .ref a23, .ref a24, .ref a25, .int 0, .ref a26, .int 0, .ref a27, .ref a28, .ref a29, .long 0, .ref a30, .ref a31, .ref a32, .ref a33, .ref a34, .ref a35, .ref a36, .ref a37, .ref a38, .int 0, .int 0, .int 0, .long 0, .ref a39, .int 0, .ref a40, .ref a41, .ref a42, .ref a43, .int 2, .int 0, .int 0, .int 0])), (a43, .inl (cI, 20, .inl (u_7.2.1 0)))] H := hP
  have hD : va_D A [(a0, .inr (12, [.ref a1, .int 0, .int 0, .int 0, .int 0, .int 0, .int 0, .int 0, .int (-1), .ref a2, .ref a3, .ref a4, .ref a5, .ref a6, .ref a7, .ref a8, .ref a9, .ref a10, .ref a11, .ref a12, .ref a13, .ref a14, .ref a15, .ref a16, .int 0, .int 0, .int 0, .int 0, .int 0, .int 9999, .ref a17, .ref a18, .ref a19, .int 0, .ref a20, .int 0, .ref a21, .int 0, .int 0, .ref a22, .ref a23, .ref a24, .ref a25, .int 0, .ref a26, .int 0, .ref a27, .ref a28, .ref a29, .long 0, .ref a30, .ref a31, .ref a32, .ref a33, .ref a34, .ref a35, .ref a36, .ref a37, .ref a38, .int 0, .int 0, .int 0, .long 0, .ref a39, .int 0, .ref a40, .ref a41, .ref a42, .ref a43, .int 2, .int 0, .int 0, .int 0])), (a43, .inl (cI, 20, .inl (u_7.2.1 0)))] := hD
  refine lv_aload_n (pc := 75) hx hb dX12_image_75 rfl (lv_at hl 1 rfl) ?_
  refine va_get (pc := 76) (ci := 12) (v := .int 2) (C := RX12) (T := TX12) (N := 73) hx hb hts iX12 hown hK hP 0 rfl rfl 69 (by decide) (hts _ tw_1470) (fun _ h9 => h9) rfl dX12_image_76 ?_
  have hP9 := hP.sub (ws' := []) [] rfl
  have hD9 := hD.sub (ws' := []) [] (by decide) rfl
  refine W.widen (k := 0) (n := 0) (Nat.le_of_ble_eq_true rfl) (Nat.le_of_ble_eq_true rfl) ?_
  exact W.iret (v := 2) hx hb hr (fun t ht hW => ⟨⟨2, ((fun _ => 0), (fun _ => (fun _ => 0)), (fun _ => (fun _ => 0)), (fun _ => 0), (fun _ => 0)), rfl, rfl, by rw [ht]; exact hP9, hD9⟩, hS.F ht⟩) hS.2.2 dX12_image_79
set_option maxHeartbeats 4000000 in
set_option maxRecDepth 100000 in
theorem cc_223_yX11_octet (l : Launch) (D : va_G) (cB cC cI cJ : ClassId) (sz : Nat) (a0 a1 a2 a3 a4 a5 a6 a7 a8 a9 a10 a11 a12 a13 : Nat) (x0 : Int32) : Met l yX11_octet (.code yX11_octet cX11_octet 2 (some .int) :: lw_gd) ({ frames := 0, cells := 0, slots := 0, locals := 0 }) (gPre D [(cB, .byte), (cC, .char), (cI, .int), (cJ, .long)] [.ref a0, .int x0] [(a0, .inr (11, [.ref a1, .ref a2, .ref a3, .ref a4, .ref a5, .ref a6, .ref a7, .ref a8, .ref a9, .ref a10, .int 0, .ref a11, .ref a12, .ref a13]))] sz) (va_Qi (fun r _ => r = (-1)) (gB D (va_A [(a0, .inr (11, [.ref a1, .ref a2, .ref a3, .ref a4, .ref a5, .ref a6, .ref a7, .ref a8, .ref a9, .ref a10, .int 0, .ref a11, .ref a12, .ref a13]))] sz) (fun u : gEx => [])) (va_A [(a0, .inr (11, [.ref a1, .ref a2, .ref a3, .ref a4, .ref a5, .ref a6, .ref a7, .ref a8, .ref a9, .ref a10, .int 0, .ref a11, .ref a12, .ref a13]))] sz)) 0 0 (va_A [(a0, .inr (11, [.ref a1, .ref a2, .ref a3, .ref a4, .ref a5, .ref a6, .ref a7, .ref a8, .ref a9, .ref a10, .int 0, .ref a11, .ref a12, .ref a13]))] sz) := by
  refine Met.ofW (cc := cX11_octet) (maxL := 2) (ret := (some .int)) (by decide) rfl ?_
  intro p e s m args below meth c s₁ B hml hv
  obtain ⟨rfl, hsz, hP, hK, hD0, hN⟩ := hv
  have hx := B.exec
  have hb := B.bytes
  have hr := B.returns
  have hts : ∀ w ∈ lw_gd, w.before _ s = true := fun w h => atoms_spec (ws := .code yX11_octet cX11_octet 2 (some .int) :: lw_gd) B.pre w (List.mem_cons_of_mem _ h)
  have hown : s.vm.findClass RX11 = some m.cls := findClass_of_methodNamed B.named
  have hlocks := B.notSynchronized
  subst hsz
  have hD := hD0.self (sz := s.heap.size)
  generalize hAe : va_A [(a0, .inr (11, [.ref a1, .ref a2, .ref a3, .ref a4, .ref a5, .ref a6, .ref a7, .ref a8, .ref a9, .ref a10, .int 0, .ref a11, .ref a12, .ref a13]))] s.heap.size = A at hD ⊢
  have hA : ∀ q : Nat, s.heap.size ≤ q → A q := fun q h => by rw [← hAe]; exact Or.inr h
  have hS : va_S A s.heap s.heap [] := va_S.rf
  have hP : va_P D gcl [(a0, .inr (11, [.ref a1, .ref a2, .ref a3, .ref a4, .ref a5, .ref a6, .ref a7, .ref a8, .ref a9, .ref a10, .int 0, .ref a11, .ref a12, .ref a13]))] s.heap := hP
  have hl := lv_entry ([.ref a0, .int x0]) (n := 2) (Nat.le_of_ble_eq_true rfl)
  rw [lg_entry_eq]
  generalize (lg_sl ([.ref a0, .int x0]) ++ List.replicate (2 - (lg_sl ([.ref a0, .int x0])).length) Slot.unset).toArray = ls at hl ⊢
  have hl : lv_has ls 2 [(0, .ref a0), (1, .int x0)] := hl
  refine lv_iload_n (pc := 0) hx hb dX11_octet_0 rfl (lv_at hl 1 rfl) ?_
  refine lv_if_lt (pc := 1) (tgt := 21) hx hb dX11_octet_1 (by decide) (fun c_1 => ?_) (fun c_1 => ?_)
  ·
    refine lv_iconst (pc := 21) (v := (-1)) hx hb dX11_octet_21 (by decide) ?_
    have hP9 := hP.sub (ws' := []) [] rfl
    have hD9 := hD.sub (ws' := []) [] (by decide) rfl
    refine W.widen (k := 0) (n := 0) (Nat.le_of_ble_eq_true rfl) (Nat.le_of_ble_eq_true rfl) ?_
    exact W.iret (v := (-1)) hx hb hr (fun t ht hW => ⟨⟨(-1), ((fun _ => 0), (fun _ => (fun _ => 0)), (fun _ => (fun _ => 0)), (fun _ => 0), (fun _ => 0)), rfl, rfl, by rw [ht]; exact hP9, hD9⟩, hS.F ht⟩) hS.2.2 dX11_octet_22
  ·
    refine lv_iload_n (pc := 4) hx hb dX11_octet_4 rfl (lv_at hl 1 rfl) ?_
    refine lv_aload_n (pc := 5) hx hb dX11_octet_5 rfl (lv_at hl 0 rfl) ?_
    refine va_get (pc := 6) (ci := 11) (v := .int 0) (C := RX11) (T := TX11) (N := 14) hx hb hts iX11 hown hK hP 0 rfl rfl 10 (by decide) (hts _ tw_430) (fun _ h9 => h9) rfl dX11_octet_6 ?_
    refine lv_icmp_ge (pc := 9) (tgt := 21) hx hb dX11_octet_9 (by decide) (fun c_2 => ?_) (fun c_2 => ?_)
    ·
      refine lv_iconst (pc := 21) (v := (-1)) hx hb dX11_octet_21 (by decide) ?_
      have hP9 := hP.sub (ws' := []) [] rfl
      have hD9 := hD.sub (ws' := []) [] (by decide) rfl
      refine W.widen (k := 0) (n := 0) (Nat.le_of_ble_eq_true rfl) (Nat.le_of_ble_eq_true rfl) ?_
      exact W.iret (v := (-1)) hx hb hr (fun t ht hW => ⟨⟨(-1), ((fun _ => 0), (fun _ => (fun _ => 0)), (fun _ => (fun _ => 0)), (fun _ => 0), (fun _ => 0)), rfl, rfl, by rw [ht]; exact hP9, hD9⟩, hS.F ht⟩) hS.2.2 dX11_octet_22
    · exact False.elim (by have z0 : (0 : Int32).toInt = 0 := (by decide +kernel); (try simp only [lg_cmp_ge, lg_cmp_le, lg_cmp_gt, lg_cmp_lt, lg_cmp_eq] at c_1 c_2); simp only [q_lt, q_le, q_eq, q_lt64, q_le64, q_eq64, q_wide, z0] at c_1 c_2; omega)
set_option maxHeartbeats 4000000 in
set_option maxRecDepth 100000 in
theorem cc_224_yX12_octet (l : Launch) (D : va_G) (cB cC cI cJ : ClassId) (sz : Nat) (a0 a1 a2 a3 a4 a5 a6 a7 a8 a9 a10 a11 a12 a13 a14 a15 a16 a17 a18 a19 a20 a21 a22 a23 a24 a25 a26 a27 a28 a29 a30 a31 a32 a33 a34 a35 a36 a37 a38 a39 a40 a41 a42 a43 : Nat) (x0 : Int32) : Met l yX12_octet (.code yX12_octet cX12_octet 2 (some .int) :: lw_gd) ({ frames := 0, cells := 0, slots := 0, locals := 0 }) (gPre D [(cB, .byte), (cC, .char), (cI, .int), (cJ, .long)] [.ref a0, .int x0] [(a0, .inr (12, [.ref a1, .int 0, .int 0, .int 0, .int 0, .int 0, .int 0, .int 0, .int (-1), .ref a2, .ref a3, .ref a4, .ref a5, .ref a6, .ref a7, .ref a8, .ref a9, .ref a10, .ref a11, .ref a12, .ref a13, .ref a14, .ref a15, .ref a16, .int 0, .int 0, .int 0, .int 0, .int 0, .int 9999, .ref a17, .ref a18, .ref a19, .int 0, .ref a20, .int 0, .ref a21, .int 0, .int 0, .ref a22, .ref a23, .ref a24, .ref a25, .int 0, .ref a26, .int 0, .ref a27, .ref a28, .ref a29, .long 0, .ref a30, .ref a31, .ref a32, .ref a33, .ref a34, .ref a35, .ref a36, .ref a37, .ref a38, .int 0, .int 0, .int 0, .long 0, .ref a39, .int 0, .ref a40, .ref a41, .ref a42, .ref a43, .int 0, .int 0, .int 0, .int 0]))] sz) (va_Qi (fun r _ => r = (-1)) (gB D (va_A [(a0, .inr (12, [.ref a1, .int 0, .int 0, .int 0, .int 0, .int 0, .int 0, .int 0, .int (-1), .ref a2, .ref a3, .ref a4, .ref a5, .ref a6, .ref a7, .ref a8, .ref a9, .ref a10, .ref a11, .ref a12, .ref a13, .ref a14, .ref a15, .ref a16, .int 0, .int 0, .int 0, .int 0, .int 0, .int 9999, .ref a17, .ref a18, .ref a19, .int 0, .ref a20, .int 0, .ref a21, .int 0, .int 0, .ref a22, .ref a23, .ref a24, .ref a25, .int 0, .ref a26, .int 0, .ref a27, .ref a28, .ref a29, .long 0, .ref a30, .ref a31, .ref a32, .ref a33, .ref a34, .ref a35, .ref a36, .ref a37, .ref a38, .int 0, .int 0, .int 0, .long 0, .ref a39, .int 0, .ref a40, .ref a41, .ref a42, .ref a43, .int 0, .int 0, .int 0, .int 0]))] sz) (fun u : gEx => [])) (va_A [(a0, .inr (12, [.ref a1, .int 0, .int 0, .int 0, .int 0, .int 0, .int 0, .int 0, .int (-1), .ref a2, .ref a3, .ref a4, .ref a5, .ref a6, .ref a7, .ref a8, .ref a9, .ref a10, .ref a11, .ref a12, .ref a13, .ref a14, .ref a15, .ref a16, .int 0, .int 0, .int 0, .int 0, .int 0, .int 9999, .ref a17, .ref a18, .ref a19, .int 0, .ref a20, .int 0, .ref a21, .int 0, .int 0, .ref a22, .ref a23, .ref a24, .ref a25, .int 0, .ref a26, .int 0, .ref a27, .ref a28, .ref a29, .long 0, .ref a30, .ref a31, .ref a32, .ref a33, .ref a34, .ref a35, .ref a36, .ref a37, .ref a38, .int 0, .int 0, .int 0, .long 0, .ref a39, .int 0, .ref a40, .ref a41, .ref a42, .ref a43, .int 0, .int 0, .int 0, .int 0]))] sz)) 0 0 (va_A [(a0, .inr (12, [.ref a1, .int 0, .int 0, .int 0, .int 0, .int 0, .int 0, .int 0, .int (-1), .ref a2, .ref a3, .ref a4, .ref a5, .ref a6, .ref a7, .ref a8, .ref a9, .ref a10, .ref a11, .ref a12, .ref a13, .ref a14, .ref a15, .ref a16, .int 0, .int 0, .int 0, .int 0, .int 0, .int 9999, .ref a17, .ref a18, .ref a19, .int 0, .ref a20, .int 0, .ref a21, .int 0, .int 0, .ref a22, .ref a23, .ref a24, .ref a25, .int 0, .ref a26, .int 0, .ref a27, .ref a28, .ref a29, .long 0, .ref a30, .ref a31, .ref a32, .ref a33, .ref a34, .ref a35, .ref a36, .ref a37, .ref a38, .int 0, .int 0, .int 0, .long 0, .ref a39, .int 0, .ref a40, .ref a41, .ref a42, .ref a43, .int 0, .int 0, .int 0, .int 0]))] sz) := by
  refine Met.ofW (cc := cX12_octet) (maxL := 2) (ret := (some .int)) (by decide) rfl ?_
  intro p e s m args below meth c s₁ B hml hv
  obtain ⟨rfl, hsz, hP, hK, hD0, hN⟩ := hv
  have hx := B.exec
  have hb := B.bytes
  have hr := B.returns
  have hts : ∀ w ∈ lw_gd, w.before _ s = true := fun w h => atoms_spec (ws := .code yX12_octet cX12_octet 2 (some .int) :: lw_gd) B.pre w (List.mem_cons_of_mem _ h)
  have hown : s.vm.findClass RX12 = some m.cls := findClass_of_methodNamed B.named
  have hlocks := B.notSynchronized
  subst hsz
  have hD := hD0.self (sz := s.heap.size)
  generalize hAe : va_A [(a0, .inr (12, [.ref a1, .int 0, .int 0, .int 0, .int 0, .int 0, .int 0, .int 0, .int (-1), .ref a2, .ref a3, .ref a4, .ref a5, .ref a6, .ref a7, .ref a8, .ref a9, .ref a10, .ref a11, .ref a12, .ref a13, .ref a14, .ref a15, .ref a16, .int 0, .int 0, .int 0, .int 0, .int 0, .int 9999, .ref a17, .ref a18, .ref a19, .int 0, .ref a20, .int 0, .ref a21, .int 0, .int 0, .ref a22, .ref a23, .ref a24, .ref a25, .int 0, .ref a26, .int 0, .ref a27, .ref a28, .ref a29, .long 0, .ref a30, .ref a31, .ref a32, .ref a33, .ref a34, .ref a35, .ref a36, .ref a37, .ref a38, .int 0, .int 0, .int 0, .long 0, .ref a39, .int 0, .ref a40, .ref a41, .ref a42, .ref a43, .int 0, .int 0, .int 0, .int 0]))] s.heap.size = A at hD ⊢
  have hA : ∀ q : Nat, s.heap.size ≤ q → A q := fun q h => by rw [← hAe]; exact Or.inr h
  have hS : va_S A s.heap s.heap [] := va_S.rf
  have hP : va_P D gcl [(a0, .inr (12, [.ref a1, .int 0, .int 0, .int 0, .int 0, .int 0, .int 0, .int 0, .int (-1), .ref a2, .ref a3, .ref a4, .ref a5, .ref a6, .ref a7, .ref a8, .ref a9, .ref a10, .ref a11, .ref a12, .ref a13, .ref a14, .ref a15, .ref a16, .int 0, .int 0, .int 0, .int 0, .int 0, .int 9999, .ref a17, .ref a18, .ref a19, .int 0, .ref a20, .int 0, .ref a21, .int 0, .int 0, .ref a22, .ref a23, .ref a24, .ref a25, .int 0, .ref a26, .int 0, .ref a27, .ref a28, .ref a29, .long 0, .ref a30, .ref a31, .ref a32, .ref a33, .ref a34, .ref a35, .ref a36, .ref a37, .ref a38, .int 0, .int 0, .int 0, .long 0, .ref a39, .int 0, .ref a40, .ref a41, .ref a42, .ref a43, .int 0, .int 0, .int 0, .int 0]))] s.heap := hP
  have hl := lv_entry ([.ref a0, .int x0]) (n := 2) (Nat.le_of_ble_eq_true rfl)
  rw [lg_entry_eq]
  generalize (lg_sl ([.ref a0, .int x0]) ++ List.replicate (2 - (lg_sl ([.ref a0, .int x0])).length) Slot.unset).toArray = ls at hl ⊢
  have hl : lv_has ls 2 [(0, .ref a0), (1, .int x0)] := hl
  refine lv_iload_n (pc := 0) hx hb dX12_octet_0 rfl (lv_at hl 1 rfl) ?_
  refine lv_if_lt (pc := 1) (tgt := 21) hx hb dX12_octet_1 (by decide) (fun c_1 => ?_) (fun c_1 => ?_)
  ·
    refine lv_iconst (pc := 21) (v := (-1)) hx hb dX12_octet_21 (by decide) ?_
    have hP9 := hP.sub (ws' := []) [] rfl
    have hD9 := hD.sub (ws' := []) [] (by decide) rfl
    refine W.widen (k := 0) (n := 0) (Nat.le_of_ble_eq_true rfl) (Nat.le_of_ble_eq_true rfl) ?_
    exact W.iret (v := (-1)) hx hb hr (fun t ht hW => ⟨⟨(-1), ((fun _ => 0), (fun _ => (fun _ => 0)), (fun _ => (fun _ => 0)), (fun _ => 0), (fun _ => 0)), rfl, rfl, by rw [ht]; exact hP9, hD9⟩, hS.F ht⟩) hS.2.2 dX12_octet_22
  ·
    refine lv_iload_n (pc := 4) hx hb dX12_octet_4 rfl (lv_at hl 1 rfl) ?_
    refine lv_aload_n (pc := 5) hx hb dX12_octet_5 rfl (lv_at hl 0 rfl) ?_
    refine va_get (pc := 6) (ci := 12) (v := .int 0) (C := RX12) (T := TX12) (N := 73) hx hb hts iX12 hown hK hP 0 rfl rfl 69 (by decide) (hts _ tw_1470) (fun _ h9 => h9) rfl dX12_octet_6 ?_
    refine lv_icmp_ge (pc := 9) (tgt := 21) hx hb dX12_octet_9 (by decide) (fun c_2 => ?_) (fun c_2 => ?_)
    ·
      refine lv_iconst (pc := 21) (v := (-1)) hx hb dX12_octet_21 (by decide) ?_
      have hP9 := hP.sub (ws' := []) [] rfl
      have hD9 := hD.sub (ws' := []) [] (by decide) rfl
      refine W.widen (k := 0) (n := 0) (Nat.le_of_ble_eq_true rfl) (Nat.le_of_ble_eq_true rfl) ?_
      exact W.iret (v := (-1)) hx hb hr (fun t ht hW => ⟨⟨(-1), ((fun _ => 0), (fun _ => (fun _ => 0)), (fun _ => (fun _ => 0)), (fun _ => 0), (fun _ => 0)), rfl, rfl, by rw [ht]; exact hP9, hD9⟩, hS.F ht⟩) hS.2.2 dX12_octet_22
    · exact False.elim (by have z0 : (0 : Int32).toInt = 0 := (by decide +kernel); (try simp only [lg_cmp_ge, lg_cmp_le, lg_cmp_gt, lg_cmp_lt, lg_cmp_eq] at c_1 c_2); simp only [q_lt, q_le, q_eq, q_lt64, q_le64, q_eq64, q_wide, z0] at c_1 c_2; omega)
set_option maxHeartbeats 4000000 in
set_option maxRecDepth 100000 in
theorem cc_225_yX11_isImage (l : Launch) (D : va_G) (cB cC cI cJ : ClassId) (sz : Nat) (a0 a1 a2 a3 a4 a5 a6 a7 a8 a9 a10 a11 a12 a13 a14 a15 a16 a17 : Nat) : Met l yX11_isImage (.code yX11_isImage cX11_isImage 4 (some .boolean) :: lw_gd) ({ frames := 1, cells := 0, slots := 0, locals := 20 }) (gPre D [(cB, .byte), (cC, .char), (cI, .int), (cJ, .long)] [.ref a0] [(a0, .inr (11, [.ref a1, .ref a2, .ref a3, .ref a4, .ref a5, .ref a6, .ref a7, .ref a8, .ref a9, .ref a10, .int 0, .ref a11, .ref a12, .ref a13])), (a11, .inr (1, [.ref a14, .ref a15, .ref a16, .int 0, .int 0, .int 0, .int 0, .int 0, .int 9999, .int 0])), (a2, .inr (9, [.ref a17, .int 0]))] sz) (va_Qi (fun r _ => r = 0) (gB D (va_A [(a0, .inr (11, [.ref a1, .ref a2, .ref a3, .ref a4, .ref a5, .ref a6, .ref a7, .ref a8, .ref a9, .ref a10, .int 0, .ref a11, .ref a12, .ref a13])), (a11, .inr (1, [.ref a14, .ref a15, .ref a16, .int 0, .int 0, .int 0, .int 0, .int 0, .int 9999, .int 0])), (a2, .inr (9, [.ref a17, .int 0]))] sz) (fun u : gEx => [(a0, .inr (11, [.ref a1, .ref a2, .ref a3, .ref a4, .ref a5, .ref a6, .ref a7, .ref a8, .ref a9, .ref a10, .int 0, .ref a11, .ref a12, .ref a13])), (a11, .inr (1, [.ref a14, .ref a15, .ref a16, .int 0, .int 0, .int 0, .int 0, .int 0, .int 9999, .int 0])), (a2, .inr (9, [.ref a17, .int 0]))])) (va_A [(a0, .inr (11, [.ref a1, .ref a2, .ref a3, .ref a4, .ref a5, .ref a6, .ref a7, .ref a8, .ref a9, .ref a10, .int 0, .ref a11, .ref a12, .ref a13])), (a11, .inr (1, [.ref a14, .ref a15, .ref a16, .int 0, .int 0, .int 0, .int 0, .int 0, .int 9999, .int 0])), (a2, .inr (9, [.ref a17, .int 0]))] sz)) 0 0 (va_A [(a0, .inr (11, [.ref a1, .ref a2, .ref a3, .ref a4, .ref a5, .ref a6, .ref a7, .ref a8, .ref a9, .ref a10, .int 0, .ref a11, .ref a12, .ref a13])), (a11, .inr (1, [.ref a14, .ref a15, .ref a16, .int 0, .int 0, .int 0, .int 0, .int 0, .int 9999, .int 0])), (a2, .inr (9, [.ref a17, .int 0]))] sz) := by
  refine Met.ofW (cc := cX11_isImage) (maxL := 4) (ret := (some .boolean)) (by decide) rfl ?_
  intro p e s m args below meth c s₁ B hml hv
  obtain ⟨rfl, hsz, hP, hK, hD0, hN⟩ := hv
  have hx := B.exec
  have hb := B.bytes
  have hr := B.returns
  have hts : ∀ w ∈ lw_gd, w.before _ s = true := fun w h => atoms_spec (ws := .code yX11_isImage cX11_isImage 4 (some .boolean) :: lw_gd) B.pre w (List.mem_cons_of_mem _ h)
  have hown : s.vm.findClass RX11 = some m.cls := findClass_of_methodNamed B.named
  have hlocks := B.notSynchronized
  subst hsz
  have hD := hD0.self (sz := s.heap.size)
  generalize hAe : va_A [(a0, .inr (11, [.ref a1, .ref a2, .ref a3, .ref a4, .ref a5, .ref a6, .ref a7, .ref a8, .ref a9, .ref a10, .int 0, .ref a11, .ref a12, .ref a13])), (a11, .inr (1, [.ref a14, .ref a15, .ref a16, .int 0, .int 0, .int 0, .int 0, .int 0, .int 9999, .int 0])), (a2, .inr (9, [.ref a17, .int 0]))] s.heap.size = A at hD ⊢
  have hA : ∀ q : Nat, s.heap.size ≤ q → A q := fun q h => by rw [← hAe]; exact Or.inr h
  have hS : va_S A s.heap s.heap [] := va_S.rf
  have hP : va_P D gcl [(a0, .inr (11, [.ref a1, .ref a2, .ref a3, .ref a4, .ref a5, .ref a6, .ref a7, .ref a8, .ref a9, .ref a10, .int 0, .ref a11, .ref a12, .ref a13])), (a11, .inr (1, [.ref a14, .ref a15, .ref a16, .int 0, .int 0, .int 0, .int 0, .int 0, .int 9999, .int 0])), (a2, .inr (9, [.ref a17, .int 0]))] s.heap := hP
  have hl := lv_entry ([.ref a0]) (n := 4) (Nat.le_of_ble_eq_true rfl)
  rw [lg_entry_eq]
  generalize (lg_sl ([.ref a0]) ++ List.replicate (4 - (lg_sl ([.ref a0])).length) Slot.unset).toArray = ls at hl ⊢
  have hl : lv_has ls 4 [(0, .ref a0)] := hl
  refine lv_iconst (pc := 0) (v := 2) hx hb dX11_isImage_0 (by decide) ?_
  refine lv_aload_n (pc := 1) hx hb dX11_isImage_1 rfl (lv_at hl 0 rfl) ?_
  refine va_get (pc := 2) (ci := 11) (v := .ref a11) (C := RX11) (T := TX11) (N := 14) hx hb hts iX11 hown hK hP 0 rfl rfl 11 (by decide) (hts _ tw_431) (fun _ h9 => h9) rfl dX11_isImage_2 ?_
  refine va_getN (pc := 5) (ci := 1) (v := .int 0) (C := RX1) (T := TX1) (N := 10) hx hb hts iX1 hown hK hP 1 rfl rfl 5 (by decide) (va_Nw.use rfl (hN _ tn_128)) (fun _ h9 => h9) rfl dX11_isImage_5 ?_
  refine lv_imul (pc := 8) hx hb dX11_isImage_8 ?_
  refine gI (y := 0) (by decide +kernel) ?_
  refine lv_iconst (pc := 9) (v := 1) hx hb dX11_isImage_9 (by decide) ?_
  refine lv_iadd (pc := 10) hx hb dX11_isImage_10 ?_
  refine gI (y := 1) (by decide +kernel) ?_
  refine lv_istore_n (pc := 11) (lv' := [(1, .int 1), (0, .ref a0)]) hx hb dX11_isImage_11 rfl hl (by decide) rfl (fun ls hl => ?_)
  refine lv_aload_n (pc := 12) hx hb dX11_isImage_12 rfl (lv_at hl 1 rfl) ?_
  refine va_get (pc := 13) (ci := 11) (v := .ref a2) (C := RX11) (T := TX11) (N := 14) hx hb hts iX11 hown hK hP 0 rfl rfl 1 (by decide) (hts _ tw_421) (fun _ h9 => h9) rfl dX11_isImage_13 ?_
  refine gc_i (pc := 16) (wc := [(a2, .inr (9, [.ref a17, .int 0]))]) (wr := [(a0, .inr (11, [.ref a1, .ref a2, .ref a3, .ref a4, .ref a5, .ref a6, .ref a7, .ref a8, .ref a9, .ref a10, .int 0, .ref a11, .ref a12, .ref a13])), (a11, .inr (1, [.ref a14, .ref a15, .ref a16, .int 0, .int 0, .int 0, .int 0, .int 0, .int 9999, .int 0]))]) hP hD hS hA [2] [0, 1] rfl rfl (by decide) (by decide) (by decide) (fun hPc hDc => va_runV (As := []) (rest := []) ⟨hx, hb, hml, hown, hts⟩ (cc_24_yX9_length l D cB cC cI cJ _ a2 a17) ⟨gcwB hts tw_478 tw_3 tw_475 hd_yX9_length ⟨Nat.le_of_ble_eq_true rfl, Nat.le_of_ble_eq_true rfl⟩, hts _ tw_476, hts _ tw_477⟩ ⟨gblind, va_recv hK hPc (ci := 9) (q0 := 0) rfl rfl, (gpreS hPc hK hDc hN).2⟩ rfl rfl hl.1 rfl (lv_room (Nat.le_of_ble_eq_true rfl)) dX11_isImage_16 ⟨Nat.le_of_ble_eq_true rfl, Nat.le_of_ble_eq_true rfl⟩) (fun r_2 u_1 H locs hw_3 hP hD hS => ?_)
  have hP : va_P D gcl [(a0, .inr (11, [.ref a1, .ref a2, .ref a3, .ref a4, .ref a5, .ref a6, .ref a7, .ref a8, .ref a9, .ref a10, .int 0, .ref a11, .ref a12, .ref a13])), (a11, .inr (1, [.ref a14, .ref a15, .ref a16, .int 0, .int 0, .int 0, .int 0, .int 0, .int 9999, .int 0])), (a2, .inr (9, [.ref a17, .int 0]))] H := hP
  have hD : va_D A [(a0, .inr (11, [.ref a1, .ref a2, .ref a3, .ref a4, .ref a5, .ref a6, .ref a7, .ref a8, .ref a9, .ref a10, .int 0, .ref a11, .ref a12, .ref a13])), (a11, .inr (1, [.ref a14, .ref a15, .ref a16, .int 0, .int 0, .int 0, .int 0, .int 0, .int 9999, .int 0])), (a2, .inr (9, [.ref a17, .int 0]))] := hD
  subst hw_3
  refine lv_iload_n (pc := 19) hx hb dX11_isImage_19 rfl (lv_at hl 0 rfl) ?_
  refine lv_iconst (pc := 20) (v := 1) hx hb dX11_isImage_20 (by decide) ?_
  refine lv_iadd (pc := 21) hx hb dX11_isImage_21 ?_
  refine gI (y := 2) (by decide +kernel) ?_
  refine lv_icmp_eq (pc := 22) (tgt := 27) hx hb dX11_isImage_22 (by decide) (fun c => absurd c (by decide +kernel)) (fun _ => ?_)
  refine lv_iconst (pc := 25) (v := 0) hx hb dX11_isImage_25 (by decide) ?_
  have hP9 := hP.sub (ws' := [(a0, .inr (11, [.ref a1, .ref a2, .ref a3, .ref a4, .ref a5, .ref a6, .ref a7, .ref a8, .ref a9, .ref a10, .int 0, .ref a11, .ref a12, .ref a13])), (a11, .inr (1, [.ref a14, .ref a15, .ref a16, .int 0, .int 0, .int 0, .int 0, .int 0, .int 9999, .int 0])), (a2, .inr (9, [.ref a17, .int 0]))]) [0, 1, 2] rfl
  have hD9 := hD.sub (ws' := [(a0, .inr (11, [.ref a1, .ref a2, .ref a3, .ref a4, .ref a5, .ref a6, .ref a7, .ref a8, .ref a9, .ref a10, .int 0, .ref a11, .ref a12, .ref a13])), (a11, .inr (1, [.ref a14, .ref a15, .ref a16, .int 0, .int 0, .int 0, .int 0, .int 0, .int 9999, .int 0])), (a2, .inr (9, [.ref a17, .int 0]))]) [0, 1, 2] (by decide) rfl
  refine W.widen (k := 0) (n := 0) (Nat.le_of_ble_eq_true rfl) (Nat.le_of_ble_eq_true rfl) ?_
  exact W.zret (v := 0) hx hb hr (by decide +kernel) (fun t ht hW => ⟨⟨0, ((fun _ => 0), (fun _ => (fun _ => 0)), (fun _ => (fun _ => 0)), (fun _ => 0), (fun _ => 0)), rfl, rfl, by rw [ht]; exact hP9, hD9⟩, hS.F ht⟩) hS.2.2 dX11_isImage_26
set_option maxHeartbeats 4000000 in
set_option maxRecDepth 100000 in
theorem cc_226_yX11_on (l : Launch) (D : va_G) (cB cC cI cJ : ClassId) (sz : Nat) (a0 a1 a2 a3 a4 a5 a6 a7 a8 a9 a10 a11 a12 a13 a14 a15 a16 a17 : Nat) : Met l yX11_on (.code yX11_on cX11_on 3 (some .boolean) :: lw_gd) ({ frames := 2, cells := 0, slots := 0, locals := 43 }) (gPre D [(cB, .byte), (cC, .char), (cI, .int), (cJ, .long)] [.ref a0] [(a0, .inr (11, [.ref a1, .ref a2, .ref a3, .ref a4, .ref a5, .ref a6, .ref a7, .ref a8, .ref a9, .ref a10, .int 0, .ref a11, .ref a12, .ref a13])), (a11, .inr (1, [.ref a14, .ref a15, .ref a16, .int 0, .int 0, .int 0, .int 0, .int 0, .int 9999, .int 0])), (a2, .inr (9, [.ref a17, .int 0]))] sz) (va_Qi (fun r _ => r = 0) (gB D (va_A [(a0, .inr (11, [.ref a1, .ref a2, .ref a3, .ref a4, .ref a5, .ref a6, .ref a7, .ref a8, .ref a9, .ref a10, .int 0, .ref a11, .ref a12, .ref a13])), (a11, .inr (1, [.ref a14, .ref a15, .ref a16, .int 0, .int 0, .int 0, .int 0, .int 0, .int 9999, .int 0])), (a2, .inr (9, [.ref a17, .int 0]))] sz) (fun u : gEx => [])) (va_A [(a0, .inr (11, [.ref a1, .ref a2, .ref a3, .ref a4, .ref a5, .ref a6, .ref a7, .ref a8, .ref a9, .ref a10, .int 0, .ref a11, .ref a12, .ref a13])), (a11, .inr (1, [.ref a14, .ref a15, .ref a16, .int 0, .int 0, .int 0, .int 0, .int 0, .int 9999, .int 0])), (a2, .inr (9, [.ref a17, .int 0]))] sz)) 0 0 (va_A [(a0, .inr (11, [.ref a1, .ref a2, .ref a3, .ref a4, .ref a5, .ref a6, .ref a7, .ref a8, .ref a9, .ref a10, .int 0, .ref a11, .ref a12, .ref a13])), (a11, .inr (1, [.ref a14, .ref a15, .ref a16, .int 0, .int 0, .int 0, .int 0, .int 0, .int 9999, .int 0])), (a2, .inr (9, [.ref a17, .int 0]))] sz) := by
  refine Met.ofW (cc := cX11_on) (maxL := 3) (ret := (some .boolean)) (by decide) rfl ?_
  intro p e s m args below meth c s₁ B hml hv
  obtain ⟨rfl, hsz, hP, hK, hD0, hN⟩ := hv
  have hx := B.exec
  have hb := B.bytes
  have hr := B.returns
  have hts : ∀ w ∈ lw_gd, w.before _ s = true := fun w h => atoms_spec (ws := .code yX11_on cX11_on 3 (some .boolean) :: lw_gd) B.pre w (List.mem_cons_of_mem _ h)
  have hown : s.vm.findClass RX11 = some m.cls := findClass_of_methodNamed B.named
  have hlocks := B.notSynchronized
  subst hsz
  have hD := hD0.self (sz := s.heap.size)
  generalize hAe : va_A [(a0, .inr (11, [.ref a1, .ref a2, .ref a3, .ref a4, .ref a5, .ref a6, .ref a7, .ref a8, .ref a9, .ref a10, .int 0, .ref a11, .ref a12, .ref a13])), (a11, .inr (1, [.ref a14, .ref a15, .ref a16, .int 0, .int 0, .int 0, .int 0, .int 0, .int 9999, .int 0])), (a2, .inr (9, [.ref a17, .int 0]))] s.heap.size = A at hD ⊢
  have hA : ∀ q : Nat, s.heap.size ≤ q → A q := fun q h => by rw [← hAe]; exact Or.inr h
  have hS : va_S A s.heap s.heap [] := va_S.rf
  have hP : va_P D gcl [(a0, .inr (11, [.ref a1, .ref a2, .ref a3, .ref a4, .ref a5, .ref a6, .ref a7, .ref a8, .ref a9, .ref a10, .int 0, .ref a11, .ref a12, .ref a13])), (a11, .inr (1, [.ref a14, .ref a15, .ref a16, .int 0, .int 0, .int 0, .int 0, .int 0, .int 9999, .int 0])), (a2, .inr (9, [.ref a17, .int 0]))] s.heap := hP
  have hl := lv_entry ([.ref a0]) (n := 3) (Nat.le_of_ble_eq_true rfl)
  rw [lg_entry_eq]
  generalize (lg_sl ([.ref a0]) ++ List.replicate (3 - (lg_sl ([.ref a0])).length) Slot.unset).toArray = ls at hl ⊢
  have hl : lv_has ls 3 [(0, .ref a0)] := hl
  refine lv_aload_n (pc := 0) hx hb dX11_on_0 rfl (lv_at hl 0 rfl) ?_
  refine gc_i (pc := 1) (wc := [(a0, .inr (11, [.ref a1, .ref a2, .ref a3, .ref a4, .ref a5, .ref a6, .ref a7, .ref a8, .ref a9, .ref a10, .int 0, .ref a11, .ref a12, .ref a13])), (a11, .inr (1, [.ref a14, .ref a15, .ref a16, .int 0, .int 0, .int 0, .int 0, .int 0, .int 9999, .int 0])), (a2, .inr (9, [.ref a17, .int 0]))]) (wr := []) hP hD hS hA [0, 1, 2] [] rfl rfl (by decide) (by decide) (by decide) (fun hPc hDc => va_runV (As := []) (rest := []) ⟨hx, hb, hml, hown, hts⟩ (cc_225_yX11_isImage l D cB cC cI cJ _ a0 a1 a2 a3 a4 a5 a6 a7 a8 a9 a10 a11 a12 a13 a14 a15 a16 a17) ⟨gcwB hts tw_1393 tw_1 tw_1390 hd_yX11_isImage ⟨Nat.le_of_ble_eq_true rfl, Nat.le_of_ble_eq_true rfl⟩, hts _ tw_1392, hts _ tp_57⟩ ⟨gblind, va_recv hK hPc (ci := 11) (q0 := 0) rfl rfl, (gpreS hPc hK hDc hN).2⟩ rfl rfl hl.1 rfl (lv_room (Nat.le_of_ble_eq_true rfl)) dX11_on_1 ⟨Nat.le_of_ble_eq_true rfl, Nat.le_of_ble_eq_true rfl⟩) (fun r_2 u_1 H locs hw_3 hP hD hS => ?_)
  have hP : va_P D gcl [(a0, .inr (11, [.ref a1, .ref a2, .ref a3, .ref a4, .ref a5, .ref a6, .ref a7, .ref a8, .ref a9, .ref a10, .int 0, .ref a11, .ref a12, .ref a13])), (a11, .inr (1, [.ref a14, .ref a15, .ref a16, .int 0, .int 0, .int 0, .int 0, .int 0, .int 9999, .int 0])), (a2, .inr (9, [.ref a17, .int 0]))] H := hP
  have hD : va_D A [(a0, .inr (11, [.ref a1, .ref a2, .ref a3, .ref a4, .ref a5, .ref a6, .ref a7, .ref a8, .ref a9, .ref a10, .int 0, .ref a11, .ref a12, .ref a13])), (a11, .inr (1, [.ref a14, .ref a15, .ref a16, .int 0, .int 0, .int 0, .int 0, .int 0, .int 9999, .int 0])), (a2, .inr (9, [.ref a17, .int 0]))] := hD
  subst hw_3
  refine lv_istore_n (pc := 4) (lv' := [(1, .int 0), (0, .ref a0)]) hx hb dX11_on_4 rfl hl (by decide) rfl (fun ls hl => ?_)
  refine lv_iload_n (pc := 5) hx hb dX11_on_5 rfl (lv_at hl 0 rfl) ?_
  refine lv_if_eq (pc := 6) (tgt := 55) hx hb dX11_on_6 (by decide) (fun _ => ?_) (fun c => absurd (by decide +kernel) c)
  refine lv_iload_n (pc := 55) hx hb dX11_on_55 rfl (lv_at hl 0 rfl) ?_
  refine lv_if_eq (pc := 56) (tgt := 81) hx hb dX11_on_56 (by decide) (fun _ => ?_) (fun c => absurd (by decide +kernel) c)
  refine lv_aload_n (pc := 81) hx hb dX11_on_81 rfl (lv_at hl 1 rfl) ?_
  refine va_get (pc := 82) (ci := 11) (v := .ref a2) (C := RX11) (T := TX11) (N := 14) hx hb hts iX11 hown hK hP 0 rfl rfl 1 (by decide) (hts _ tw_421) (fun _ h9 => h9) rfl dX11_on_82 ?_
  refine lv_iconst (pc := 85) (v := 0) hx hb dX11_on_85 (by decide) ?_
  refine gc_v (pc := 86) (wc := [(a2, .inr (9, [.ref a17, .int 0]))]) (wr := [(a0, .inr (11, [.ref a1, .ref a2, .ref a3, .ref a4, .ref a5, .ref a6, .ref a7, .ref a8, .ref a9, .ref a10, .int 0, .ref a11, .ref a12, .ref a13])), (a11, .inr (1, [.ref a14, .ref a15, .ref a16, .int 0, .int 0, .int 0, .int 0, .int 0, .int 9999, .int 0]))]) hP hD hS hA [2] [0, 1] rfl rfl (by decide) (by decide) (by decide) (fun hPc hDc => va_runV (As := [.int 0]) (rest := []) ⟨hx, hb, hml, hown, hts⟩ (cc_37_yX9_cutTo l D cB cC cI cJ _ a2 a17) ⟨gcwB hts tw_486 tw_3 tw_483 hd_yX9_cutTo ⟨Nat.le_of_ble_eq_true rfl, Nat.le_of_ble_eq_true rfl⟩, hts _ tw_484, hts _ tw_485⟩ ⟨gblind, va_recv hK hPc (ci := 9) (q0 := 0) rfl rfl, (gpreS hPc hK hDc hN).2⟩ rfl rfl hl.1 rfl (lv_room (Nat.le_of_ble_eq_true rfl)) dX11_on_86 ⟨Nat.le_of_ble_eq_true rfl, Nat.le_of_ble_eq_true rfl⟩) (fun u_4 H locs hw_6 hP hD hS => ?_)
  have hP : va_P D gcl [(a0, .inr (11, [.ref a1, .ref a2, .ref a3, .ref a4, .ref a5, .ref a6, .ref a7, .ref a8, .ref a9, .ref a10, .int 0, .ref a11, .ref a12, .ref a13])), (a11, .inr (1, [.ref a14, .ref a15, .ref a16, .int 0, .int 0, .int 0, .int 0, .int 0, .int 9999, .int 0])), (a2, .inr (9, [.ref a17, .int 0]))] H := hP
  have hD : va_D A [(a0, .inr (11, [.ref a1, .ref a2, .ref a3, .ref a4, .ref a5, .ref a6, .ref a7, .ref a8, .ref a9, .ref a10, .int 0, .ref a11, .ref a12, .ref a13])), (a11, .inr (1, [.ref a14, .ref a15, .ref a16, .int 0, .int 0, .int 0, .int 0, .int 0, .int 9999, .int 0])), (a2, .inr (9, [.ref a17, .int 0]))] := hD
  refine lv_iload_n (pc := 89) hx hb dX11_on_89 rfl (lv_at hl 0 rfl) ?_
  have hP9 := hP.sub (ws' := []) [] rfl
  have hD9 := hD.sub (ws' := []) [] (by decide) rfl
  refine W.widen (k := 0) (n := 0) (Nat.le_of_ble_eq_true rfl) (Nat.le_of_ble_eq_true rfl) ?_
  exact W.zret (v := 0) hx hb hr (by decide +kernel) (fun t ht hW => ⟨⟨0, ((fun _ => 0), (fun _ => (fun _ => 0)), (fun _ => (fun _ => 0)), (fun _ => 0), (fun _ => 0)), rfl, rfl, by rw [ht]; exact hP9, hD9⟩, hS.F ht⟩) hS.2.2 dX11_on_90
set_option maxHeartbeats 4000000 in
set_option maxRecDepth 100000 in
theorem cc_227_yX12_on (l : Launch) (D : va_G) (cB cC cI cJ : ClassId) (sz : Nat) (a0 a1 a2 a3 a4 a5 a6 a7 a8 a9 a10 a11 a12 a13 a14 a15 a16 a17 a18 a19 a20 a21 a22 a23 a24 a25 a26 a27 a28 a29 a30 a31 a32 a33 a34 a35 a36 a37 a38 a39 a40 a41 a42 a43 : Nat) : Met l yX12_on (.code yX12_on cX12_on 4 (some .boolean) :: lw_gd) ({ frames := 0, cells := 0, slots := 0, locals := 0 }) (gPre D [(cB, .byte), (cC, .char), (cI, .int), (cJ, .long)] [.ref a0] [(a0, .inr (12, [.ref a1, .int 0, .int 0, .int 0, .int 0, .int 0, .int 0, .int 0, .int (-1), .ref a2, .ref a3, .ref a4, .ref a5, .ref a6, .ref a7, .ref a8, .ref a9, .ref a10, .ref a11, .ref a12, .ref a13, .ref a14, .ref a15, .ref a16, .int 0, .int 0, .int 0, .int 0, .int 0, .int 9999, .ref a17, .ref a18, .ref a19, .int 0, .ref a20, .int 0, .ref a21, .int 0, .int 0, .ref a22, .ref a23, .ref a24, .ref a25, .int 0, .ref a26, .int 0, .ref a27, .ref a28, .ref a29, .long 0, .ref a30, .ref a31, .ref a32, .ref a33, .ref a34, .ref a35, .ref a36, .ref a37, .ref a38, .int 0, .int 0, .int 0, .long 0, .ref a39, .int 0, .ref a40, .ref a41, .ref a42, .ref a43, .int 0, .int 0, .int 0, .int 0]))] sz) (va_Qi (fun r _ => r = 0) (gB D (va_A [(a0, .inr (12, [.ref a1, .int 0, .int 0, .int 0, .int 0, .int 0, .int 0, .int 0, .int (-1), .ref a2, .ref a3, .ref a4, .ref a5, .ref a6, .ref a7, .ref a8, .ref a9, .ref a10, .ref a11, .ref a12, .ref a13, .ref a14, .ref a15, .ref a16, .int 0, .int 0, .int 0, .int 0, .int 0, .int 9999, .ref a17, .ref a18, .ref a19, .int 0, .ref a20, .int 0, .ref a21, .int 0, .int 0, .ref a22, .ref a23, .ref a24, .ref a25, .int 0, .ref a26, .int 0, .ref a27, .ref a28, .ref a29, .long 0, .ref a30, .ref a31, .ref a32, .ref a33, .ref a34, .ref a35, .ref a36, .ref a37, .ref a38, .int 0, .int 0, .int 0, .long 0, .ref a39, .int 0, .ref a40, .ref a41, .ref a42, .ref a43, .int 0, .int 0, .int 0, .int 0]))] sz) (fun u : gEx => [])) (va_A [(a0, .inr (12, [.ref a1, .int 0, .int 0, .int 0, .int 0, .int 0, .int 0, .int 0, .int (-1), .ref a2, .ref a3, .ref a4, .ref a5, .ref a6, .ref a7, .ref a8, .ref a9, .ref a10, .ref a11, .ref a12, .ref a13, .ref a14, .ref a15, .ref a16, .int 0, .int 0, .int 0, .int 0, .int 0, .int 9999, .ref a17, .ref a18, .ref a19, .int 0, .ref a20, .int 0, .ref a21, .int 0, .int 0, .ref a22, .ref a23, .ref a24, .ref a25, .int 0, .ref a26, .int 0, .ref a27, .ref a28, .ref a29, .long 0, .ref a30, .ref a31, .ref a32, .ref a33, .ref a34, .ref a35, .ref a36, .ref a37, .ref a38, .int 0, .int 0, .int 0, .long 0, .ref a39, .int 0, .ref a40, .ref a41, .ref a42, .ref a43, .int 0, .int 0, .int 0, .int 0]))] sz)) 0 0 (va_A [(a0, .inr (12, [.ref a1, .int 0, .int 0, .int 0, .int 0, .int 0, .int 0, .int 0, .int (-1), .ref a2, .ref a3, .ref a4, .ref a5, .ref a6, .ref a7, .ref a8, .ref a9, .ref a10, .ref a11, .ref a12, .ref a13, .ref a14, .ref a15, .ref a16, .int 0, .int 0, .int 0, .int 0, .int 0, .int 9999, .ref a17, .ref a18, .ref a19, .int 0, .ref a20, .int 0, .ref a21, .int 0, .int 0, .ref a22, .ref a23, .ref a24, .ref a25, .int 0, .ref a26, .int 0, .ref a27, .ref a28, .ref a29, .long 0, .ref a30, .ref a31, .ref a32, .ref a33, .ref a34, .ref a35, .ref a36, .ref a37, .ref a38, .int 0, .int 0, .int 0, .long 0, .ref a39, .int 0, .ref a40, .ref a41, .ref a42, .ref a43, .int 0, .int 0, .int 0, .int 0]))] sz) := by
  refine Met.ofW (cc := cX12_on) (maxL := 4) (ret := (some .boolean)) (by decide) rfl ?_
  intro p e s m args below meth c s₁ B hml hv
  obtain ⟨rfl, hsz, hP, hK, hD0, hN⟩ := hv
  have hx := B.exec
  have hb := B.bytes
  have hr := B.returns
  have hts : ∀ w ∈ lw_gd, w.before _ s = true := fun w h => atoms_spec (ws := .code yX12_on cX12_on 4 (some .boolean) :: lw_gd) B.pre w (List.mem_cons_of_mem _ h)
  have hown : s.vm.findClass RX12 = some m.cls := findClass_of_methodNamed B.named
  have hlocks := B.notSynchronized
  subst hsz
  have hD := hD0.self (sz := s.heap.size)
  generalize hAe : va_A [(a0, .inr (12, [.ref a1, .int 0, .int 0, .int 0, .int 0, .int 0, .int 0, .int 0, .int (-1), .ref a2, .ref a3, .ref a4, .ref a5, .ref a6, .ref a7, .ref a8, .ref a9, .ref a10, .ref a11, .ref a12, .ref a13, .ref a14, .ref a15, .ref a16, .int 0, .int 0, .int 0, .int 0, .int 0, .int 9999, .ref a17, .ref a18, .ref a19, .int 0, .ref a20, .int 0, .ref a21, .int 0, .int 0, .ref a22, .ref a23, .ref a24, .ref a25, .int 0, .ref a26, .int 0, .ref a27, .ref a28, .ref a29, .long 0, .ref a30, .ref a31, .ref a32, .ref a33, .ref a34, .ref a35, .ref a36, .ref a37, .ref a38, .int 0, .int 0, .int 0, .long 0, .ref a39, .int 0, .ref a40, .ref a41, .ref a42, .ref a43, .int 0, .int 0, .int 0, .int 0]))] s.heap.size = A at hD ⊢
  have hA : ∀ q : Nat, s.heap.size ≤ q → A q := fun q h => by rw [← hAe]; exact Or.inr h
  have hS : va_S A s.heap s.heap [] := va_S.rf
  have hP : va_P D gcl [(a0, .inr (12, [.ref a1, .int 0, .int 0, .int 0, .int 0, .int 0, .int 0, .int 0, .int (-1), .ref a2, .ref a3, .ref a4, .ref a5, .ref a6, .ref a7, .ref a8, .ref a9, .ref a10, .ref a11, .ref a12, .ref a13, .ref a14, .ref a15, .ref a16, .int 0, .int 0, .int 0, .int 0, .int 0, .int 9999, .ref a17, .ref a18, .ref a19, .int 0, .ref a20, .int 0, .ref a21, .int 0, .int 0, .ref a22, .ref a23, .ref a24, .ref a25, .int 0, .ref a26, .int 0, .ref a27, .ref a28, .ref a29, .long 0, .ref a30, .ref a31, .ref a32, .ref a33, .ref a34, .ref a35, .ref a36, .ref a37, .ref a38, .int 0, .int 0, .int 0, .long 0, .ref a39, .int 0, .ref a40, .ref a41, .ref a42, .ref a43, .int 0, .int 0, .int 0, .int 0]))] s.heap := hP
  have hl := lv_entry ([.ref a0]) (n := 4) (Nat.le_of_ble_eq_true rfl)
  rw [lg_entry_eq]
  generalize (lg_sl ([.ref a0]) ++ List.replicate (4 - (lg_sl ([.ref a0])).length) Slot.unset).toArray = ls at hl ⊢
  have hl : lv_has ls 4 [(0, .ref a0)] := hl
  refine lv_aload_n (pc := 0) hx hb dX12_on_0 rfl (lv_at hl 0 rfl) ?_
  refine va_get (pc := 1) (ci := 12) (v := .int 0) (C := RX12) (T := TX12) (N := 73) hx hb hts iX12 hown hK hP 0 rfl rfl 1 (by decide) (hts _ tw_1402) (fun _ h9 => h9) rfl dX12_on_1 ?_
  refine lv_istore_n (pc := 4) (lv' := [(1, .int 0), (0, .ref a0)]) hx hb dX12_on_4 rfl hl (by decide) rfl (fun ls hl => ?_)
  refine lv_aload_n (pc := 5) hx hb dX12_on_5 rfl (lv_at hl 1 rfl) ?_
  refine lv_iconst (pc := 6) (v := 0) hx hb dX12_on_6 (by decide) ?_
  refine va_put (pc := 7) (ci := 12) (v := .int 0) (ty := .int) (C := RX12) (T := TX12) (N := 73) hx hb hts iX12 tyX12 tyX12_ok nmX12 hown hK hP hD hS 0 rfl rfl 1 (by decide) (hts _ tw_1402) (fun _ h9 => h9) rfl (by decide +kernel) (by decide +kernel) (by decide +kernel) (Nat.le_of_ble_eq_true rfl) dX12_on_7 (fun H locs hP hD hS => ?_)
  have hP : va_P D gcl [(a0, .inr (12, [.ref a1, .int 0, .int 0, .int 0, .int 0, .int 0, .int 0, .int 0, .int (-1), .ref a2, .ref a3, .ref a4, .ref a5, .ref a6, .ref a7, .ref a8, .ref a9, .ref a10, .ref a11, .ref a12, .ref a13, .ref a14, .ref a15, .ref a16, .int 0, .int 0, .int 0, .int 0, .int 0, .int 9999, .ref a17, .ref a18, .ref a19, .int 0, .ref a20, .int 0, .ref a21, .int 0, .int 0, .ref a22, .ref a23, .ref a24, .ref a25, .int 0, .ref a26, .int 0, .ref a27, .ref a28, .ref a29, .long 0, .ref a30, .ref a31, .ref a32, .ref a33, .ref a34, .ref a35, .ref a36, .ref a37, .ref a38, .int 0, .int 0, .int 0, .long 0, .ref a39, .int 0, .ref a40, .ref a41, .ref a42, .ref a43, .int 0, .int 0, .int 0, .int 0]))] H := hP
  have hD : va_D A [(a0, .inr (12, [.ref a1, .int 0, .int 0, .int 0, .int 0, .int 0, .int 0, .int 0, .int (-1), .ref a2, .ref a3, .ref a4, .ref a5, .ref a6, .ref a7, .ref a8, .ref a9, .ref a10, .ref a11, .ref a12, .ref a13, .ref a14, .ref a15, .ref a16, .int 0, .int 0, .int 0, .int 0, .int 0, .int 9999, .ref a17, .ref a18, .ref a19, .int 0, .ref a20, .int 0, .ref a21, .int 0, .int 0, .ref a22, .ref a23, .ref a24, .ref a25, .int 0, .ref a26, .int 0, .ref a27, .ref a28, .ref a29, .long 0, .ref a30, .ref a31, .ref a32, .ref a33, .ref a34, .ref a35, .ref a36, .ref a37, .ref a38, .int 0, .int 0, .int 0, .long 0, .ref a39, .int 0, .ref a40, .ref a41, .ref a42, .ref a43, .int 0, .int 0, .int 0, .int 0]))] := hD
  refine lv_iload_n (pc := 10) hx hb dX12_on_10 rfl (lv_at hl 0 rfl) ?_
  refine lv_iconst (pc := 11) (v := 2) hx hb dX12_on_11 (by decide) ?_
  refine lv_aload_n (pc := 12) hx hb dX12_on_12 rfl (lv_at hl 1 rfl) ?_
  refine va_get (pc := 13) (ci := 12) (v := .int 0) (C := RX12) (T := TX12) (N := 73) hx hb hts iX12 hown hK hP 0 rfl rfl 26 (by decide) (hts _ tw_1427) (fun _ h9 => h9) rfl dX12_on_13 ?_
  refine lv_imul (pc := 16) hx hb dX12_on_16 ?_
  refine gI (y := 0) (by decide +kernel) ?_
  refine lv_iconst (pc := 17) (v := 2) hx hb dX12_on_17 (by decide) ?_
  refine lv_iadd (pc := 18) hx hb dX12_on_18 ?_
  refine gI (y := 2) (by decide +kernel) ?_
  refine lv_icmp_ne (pc := 19) (tgt := 43) hx hb dX12_on_19 (by decide) (fun _ => ?_) (fun c => absurd c (by decide +kernel))
  refine lv_iconst (pc := 43) (v := 0) hx hb dX12_on_43 (by decide) ?_
  have hP9 := hP.sub (ws' := []) [] rfl
  have hD9 := hD.sub (ws' := []) [] (by decide) rfl
  refine W.widen (k := 0) (n := 0) (Nat.le_of_ble_eq_true rfl) (Nat.le_of_ble_eq_true rfl) ?_
  exact W.zret (v := 0) hx hb hr (by decide +kernel) (fun t ht hW => ⟨⟨0, ((fun _ => 0), (fun _ => (fun _ => 0)), (fun _ => (fun _ => 0)), (fun _ => 0), (fun _ => 0)), rfl, rfl, by rw [ht]; exact hP9, hD9⟩, hS.F ht⟩) hS.2.2 dX12_on_44
