set_option maxHeartbeats 4000000 in
set_option maxRecDepth 100000 in
theorem cc_50_yX11_fault (l : Launch) (D : va_G) (cB cC cI cJ : ClassId) (sz : Nat) (a0 a1 a2 a3 a4 a5 a6 a7 a8 a9 a10 a11 a12 a13 a14 : Nat) (x0 : Int32) : Met l yX11_fault (.code yX11_fault cX11_fault 2 (some .int) :: lw_gd) ({ frames := 0, cells := 0, slots := 0, locals := 0 }) (gPre D [(cB, .byte), (cC, .char), (cI, .int), (cJ, .long)] [.ref a0, .int x0] [(a0, .inr (11, [.ref a1, .ref a2, .ref a3, .ref a4, .ref a5, .ref a6, .ref a7, .ref a8, .ref a9, .ref a10, .int 0, .ref a11, .ref a12, .ref a13])), (a1, .inr (4, [.ref a2, .ref a14, .int 0, .int (-1), .int 0, .int 0, .int 0, .int (-1)]))] sz) (va_Qi (fun r _ => r = (if x0 = 0 then 0 else -1)) (gB D (va_A [(a0, .inr (11, [.ref a1, .ref a2, .ref a3, .ref a4, .ref a5, .ref a6, .ref a7, .ref a8, .ref a9, .ref a10, .int 0, .ref a11, .ref a12, .ref a13])), (a1, .inr (4, [.ref a2, .ref a14, .int 0, .int (-1), .int 0, .int 0, .int 0, .int (-1)]))] sz) (fun u : gEx => [])) (va_A [(a0, .inr (11, [.ref a1, .ref a2, .ref a3, .ref a4, .ref a5, .ref a6, .ref a7, .ref a8, .ref a9, .ref a10, .int 0, .ref a11, .ref a12, .ref a13])), (a1, .inr (4, [.ref a2, .ref a14, .int 0, .int (-1), .int 0, .int 0, .int 0, .int (-1)]))] sz)) 0 0 (va_A [(a0, .inr (11, [.ref a1, .ref a2, .ref a3, .ref a4, .ref a5, .ref a6, .ref a7, .ref a8, .ref a9, .ref a10, .int 0, .ref a11, .ref a12, .ref a13])), (a1, .inr (4, [.ref a2, .ref a14, .int 0, .int (-1), .int 0, .int 0, .int 0, .int (-1)]))] sz) := by
  refine Met.ofW (cc := cX11_fault) (maxL := 2) (ret := (some .int)) (by decide) rfl ?_
  intro p e s m args below meth c s₁ B hml hv
  obtain ⟨rfl, hsz, hP, hK, hD0, hN⟩ := hv
  have hx := B.exec
  have hb := B.bytes
  have hr := B.returns
  have hts : ∀ w ∈ lw_gd, w.before _ s = true := fun w h => atoms_spec (ws := .code yX11_fault cX11_fault 2 (some .int) :: lw_gd) B.pre w (List.mem_cons_of_mem _ h)
  have hown : s.vm.findClass RX11 = some m.cls := findClass_of_methodNamed B.named
  have hlocks := B.notSynchronized
  subst hsz
  have hD := hD0.self (sz := s.heap.size)
  generalize hAe : va_A [(a0, .inr (11, [.ref a1, .ref a2, .ref a3, .ref a4, .ref a5, .ref a6, .ref a7, .ref a8, .ref a9, .ref a10, .int 0, .ref a11, .ref a12, .ref a13])), (a1, .inr (4, [.ref a2, .ref a14, .int 0, .int (-1), .int 0, .int 0, .int 0, .int (-1)]))] s.heap.size = A at hD ⊢
  have hA : ∀ q : Nat, s.heap.size ≤ q → A q := fun q h => by rw [← hAe]; exact Or.inr h
  have hS : va_S A s.heap s.heap [] := va_S.rf
  have hP : va_P D gcl [(a0, .inr (11, [.ref a1, .ref a2, .ref a3, .ref a4, .ref a5, .ref a6, .ref a7, .ref a8, .ref a9, .ref a10, .int 0, .ref a11, .ref a12, .ref a13])), (a1, .inr (4, [.ref a2, .ref a14, .int 0, .int (-1), .int 0, .int 0, .int 0, .int (-1)]))] s.heap := hP
  have hl := lv_entry ([.ref a0, .int x0]) (n := 2) (Nat.le_of_ble_eq_true rfl)
  rw [lg_entry_eq]
  generalize (lg_sl ([.ref a0, .int x0]) ++ List.replicate (2 - (lg_sl ([.ref a0, .int x0])).length) Slot.unset).toArray = ls at hl ⊢
  have hl : lv_has ls 2 [(0, .ref a0), (1, .int x0)] := hl
  refine lv_iload_n (pc := 0) hx hb dX11_fault_0 rfl (lv_at hl 1 rfl) ?_
  refine lv_if_ne (pc := 1) (tgt := 12) hx hb dX11_fault_1 (by decide) (fun c_1 => ?_) (fun c_1 => ?_)
  ·
    refine lv_iload_n (pc := 12) hx hb dX11_fault_12 rfl (lv_at hl 1 rfl) ?_
    refine lv_iconst (pc := 13) (v := 1) hx hb dX11_fault_13 (by decide) ?_
    refine lv_icmp_ne (pc := 14) (tgt := 27) hx hb dX11_fault_14 (by decide) (fun c_2 => ?_) (fun c_2 => ?_)
    ·
      refine lv_iconst (pc := 27) (v := (-1)) hx hb dX11_fault_27 (by decide) ?_
      have hP9 := hP.sub (ws' := []) [] rfl
      have hD9 := hD.sub (ws' := []) [] (by decide) rfl
      refine W.widen (k := 0) (n := 0) (Nat.le_of_ble_eq_true rfl) (Nat.le_of_ble_eq_true rfl) ?_
      exact W.iret (v := (-1)) hx hb hr (fun t ht hW => ⟨⟨(-1), ((fun _ => 0), (fun _ => (fun _ => 0)), (fun _ => (fun _ => 0)), (fun _ => 0), (fun _ => 0)), rfl, (by show (_ : Int32) = _; first | rfl | decide +kernel | (split <;> rename_i hh <;> first | rfl | (exfalso; have z0 : (0 : Int32).toInt = 0 := (by decide +kernel); have z1 : (1 : Int32).toInt = 1 := (by decide +kernel); have z2 : (9 : Int32).toInt = 9 := (by decide +kernel); have z3 : (100 : Int32).toInt = 100 := (by decide +kernel); have z4 : (0 : Int64).toInt = 0 := (by decide +kernel); (try simp only [lg_cmp_ge, lg_cmp_le, lg_cmp_gt, lg_cmp_lt, lg_cmp_eq] at c_1 c_2); simp only [q_lt, q_le, q_eq, q_lt64, q_le64, q_eq64, q_wide, z0, z1, z2, z3, z4] at c_1 c_2 hh; omega))), by rw [ht]; exact hP9, hD9⟩, hS.F ht⟩) hS.2.2 dX11_fault_28
    ·
      refine lv_aload_n (pc := 17) hx hb dX11_fault_17 rfl (lv_at hl 0 rfl) ?_
      refine va_get (pc := 18) (ci := 11) (v := .ref a1) (C := RX11) (T := TX11) (N := 14) hx hb hts iX11 hown hK hP 0 rfl rfl 0 (by decide) (hts _ tw_420) (fun _ h9 => h9) rfl dX11_fault_18 ?_
      refine va_getN (pc := 21) (ci := 4) (v := .int (-1)) (C := RX4) (T := TX4) (N := 8) hx hb hts iX4 hown hK hP 1 rfl rfl 7 (by decide) (va_Nw.use rfl (hN _ tn_177)) (fun _ h9 => h9) rfl dX11_fault_21 ?_
      refine lv_goto (pc := 24) (tgt := 28) hx hb dX11_fault_24 (by decide) ?_
      have hP9 := hP.sub (ws' := []) [] rfl
      have hD9 := hD.sub (ws' := []) [] (by decide) rfl
      refine W.widen (k := 0) (n := 0) (Nat.le_of_ble_eq_true rfl) (Nat.le_of_ble_eq_true rfl) ?_
      exact W.iret (v := (-1)) hx hb hr (fun t ht hW => ⟨⟨(-1), ((fun _ => 0), (fun _ => (fun _ => 0)), (fun _ => (fun _ => 0)), (fun _ => 0), (fun _ => 0)), rfl, (by show (_ : Int32) = _; first | rfl | decide +kernel | (split <;> rename_i hh <;> first | rfl | (exfalso; have z0 : (0 : Int32).toInt = 0 := (by decide +kernel); have z1 : (1 : Int32).toInt = 1 := (by decide +kernel); have z2 : (9 : Int32).toInt = 9 := (by decide +kernel); have z3 : (100 : Int32).toInt = 100 := (by decide +kernel); have z4 : (0 : Int64).toInt = 0 := (by decide +kernel); (try simp only [lg_cmp_ge, lg_cmp_le, lg_cmp_gt, lg_cmp_lt, lg_cmp_eq] at c_1 c_2); simp only [q_lt, q_le, q_eq, q_lt64, q_le64, q_eq64, q_wide, z0, z1, z2, z3, z4] at c_1 c_2 hh; omega))), by rw [ht]; exact hP9, hD9⟩, hS.F ht⟩) hS.2.2 dX11_fault_28
  ·
    refine lv_aload_n (pc := 4) hx hb dX11_fault_4 rfl (lv_at hl 0 rfl) ?_
    refine va_get (pc := 5) (ci := 11) (v := .ref a1) (C := RX11) (T := TX11) (N := 14) hx hb hts iX11 hown hK hP 0 rfl rfl 0 (by decide) (hts _ tw_420) (fun _ h9 => h9) rfl dX11_fault_5 ?_
    refine va_getN (pc := 8) (ci := 4) (v := .int 0) (C := RX4) (T := TX4) (N := 8) hx hb hts iX4 hown hK hP 1 rfl rfl 6 (by decide) (va_Nw.use rfl (hN _ tn_175)) (fun _ h9 => h9) rfl dX11_fault_8 ?_
    have hP9 := hP.sub (ws' := []) [] rfl
    have hD9 := hD.sub (ws' := []) [] (by decide) rfl
    refine W.widen (k := 0) (n := 0) (Nat.le_of_ble_eq_true rfl) (Nat.le_of_ble_eq_true rfl) ?_
    exact W.iret (v := 0) hx hb hr (fun t ht hW => ⟨⟨0, ((fun _ => 0), (fun _ => (fun _ => 0)), (fun _ => (fun _ => 0)), (fun _ => 0), (fun _ => 0)), rfl, (by show (_ : Int32) = _; first | rfl | decide +kernel | (split <;> rename_i hh <;> first | rfl | (exfalso; have z0 : (0 : Int32).toInt = 0 := (by decide +kernel); have z1 : (1 : Int32).toInt = 1 := (by decide +kernel); have z2 : (9 : Int32).toInt = 9 := (by decide +kernel); have z3 : (100 : Int32).toInt = 100 := (by decide +kernel); have z4 : (0 : Int64).toInt = 0 := (by decide +kernel); (try simp only [lg_cmp_ge, lg_cmp_le, lg_cmp_gt, lg_cmp_lt, lg_cmp_eq] at c_1); simp only [q_lt, q_le, q_eq, q_lt64, q_le64, q_eq64, q_wide, z0, z1, z2, z3, z4] at c_1 hh; omega))), by rw [ht]; exact hP9, hD9⟩, hS.F ht⟩) hS.2.2 dX11_fault_11
set_option maxHeartbeats 4000000 in
set_option maxRecDepth 100000 in
theorem cc_51_yX12_fault (l : Launch) (D : va_G) (cB cC cI cJ : ClassId) (sz : Nat) (a0 a1 a2 a3 a4 a5 a6 a7 a8 a9 a10 a11 a12 a13 a14 a15 a16 a17 a18 a19 a20 a21 a22 a23 a24 a25 a26 a27 a28 a29 a30 a31 a32 a33 a34 a35 a36 a37 a38 a39 a40 a41 a42 a43 : Nat) (x0 : Int32) : Met l yX12_fault (.code yX12_fault cX12_fault 2 (some .int) :: lw_gd) ({ frames := 0, cells := 0, slots := 0, locals := 0 }) (gPre D [(cB, .byte), (cC, .char), (cI, .int), (cJ, .long)] [.ref a0, .int x0] [(a0, .inr (12, [.ref a1, .int 0, .int 0, .int 0, .int 0, .int 0, .int 0, .int 0, .int (-1), .ref a2, .ref a3, .ref a4, .ref a5, .ref a6, .ref a7, .ref a8, .ref a9, .ref a10, .ref a11, .ref a12, .ref a13, .ref a14, .ref a15, .ref a16, .int 0, .int 0, .int 0, .int 0, .int 0, .int 9999, .ref a17, .ref a18, .ref a19, .int 0, .ref a20, .int 0, .ref a21, .int 0, .int 0, .ref a22, .ref a23, .ref a24, .ref a25, .int 0, .ref a26, .int 0, .ref a27, .ref a28, .ref a29, .long 0, .ref a30, .ref a31, .ref a32, .ref a33, .ref a34, .ref a35, .ref a36, .ref a37, .ref a38, .int 0, .int 0, .int 0, .long 0, .ref a39, .int 0, .ref a40, .ref a41, .ref a42, .ref a43, .int 0, .int 0, .int 0, .int 0]))] sz) (va_Qi (fun r _ => r = (if x0 = 0 then 0 else -1)) (gB D (va_A [(a0, .inr (12, [.ref a1, .int 0, .int 0, .int 0, .int 0, .int 0, .int 0, .int 0, .int (-1), .ref a2, .ref a3, .ref a4, .ref a5, .ref a6, .ref a7, .ref a8, .ref a9, .ref a10, .ref a11, .ref a12, .ref a13, .ref a14, .ref a15, .ref a16, .int 0, .int 0, .int 0, .int 0, .int 0, .int 9999, .ref a17, .ref a18, .ref a19, .int 0, .ref a20, .int 0, .ref a21, .int 0, .int 0, .ref a22, .ref a23, .ref a24, .ref a25, .int 0, .ref a26, .int 0, .ref a27, .ref a28, .ref a29, .long 0, .ref a30, .ref a31, .ref a32, .ref a33, .ref a34, .ref a35, .ref a36, .ref a37, .ref a38, .int 0, .int 0, .int 0, .long 0, .ref a39, .int 0, .ref a40, .ref a41, .ref a42, .ref a43, .int 0, .int 0, .int 0, .int 0]))] sz) (fun u : gEx => [])) (va_A [(a0, .inr (12, [.ref a1, .int 0, .int 0, .int 0, .int 0, .int 0, .int 0, .int 0, .int (-1), .ref a2, .ref a3, .ref a4, .ref a5, .ref a6, .ref a7, .ref a8, .ref a9, .ref a10, .ref a11, .ref a12, .ref a13, .ref a14, .ref a15, .ref a16, .int 0, .int 0, .int 0, .int 0, .int 0, .int 9999, .ref a17, .ref a18, .ref a19, .int 0, .ref a20, .int 0, .ref a21, .int 0, .int 0, .ref a22, .ref a23, .ref a24, .ref a25, .int 0, .ref a26, .int 0, .ref a27, .ref a28, .ref a29, .long 0, .ref a30, .ref a31, .ref a32, .ref a33, .ref a34, .ref a35, .ref a36, .ref a37, .ref a38, .int 0, .int 0, .int 0, .long 0, .ref a39, .int 0, .ref a40, .ref a41, .ref a42, .ref a43, .int 0, .int 0, .int 0, .int 0]))] sz)) 0 0 (va_A [(a0, .inr (12, [.ref a1, .int 0, .int 0, .int 0, .int 0, .int 0, .int 0, .int 0, .int (-1), .ref a2, .ref a3, .ref a4, .ref a5, .ref a6, .ref a7, .ref a8, .ref a9, .ref a10, .ref a11, .ref a12, .ref a13, .ref a14, .ref a15, .ref a16, .int 0, .int 0, .int 0, .int 0, .int 0, .int 9999, .ref a17, .ref a18, .ref a19, .int 0, .ref a20, .int 0, .ref a21, .int 0, .int 0, .ref a22, .ref a23, .ref a24, .ref a25, .int 0, .ref a26, .int 0, .ref a27, .ref a28, .ref a29, .long 0, .ref a30, .ref a31, .ref a32, .ref a33, .ref a34, .ref a35, .ref a36, .ref a37, .ref a38, .int 0, .int 0, .int 0, .long 0, .ref a39, .int 0, .ref a40, .ref a41, .ref a42, .ref a43, .int 0, .int 0, .int 0, .int 0]))] sz) := by
  refine Met.ofW (cc := cX12_fault) (maxL := 2) (ret := (some .int)) (by decide) rfl ?_
  intro p e s m args below meth c s₁ B hml hv
  obtain ⟨rfl, hsz, hP, hK, hD0, hN⟩ := hv
  have hx := B.exec
  have hb := B.bytes
  have hr := B.returns
  have hts : ∀ w ∈ lw_gd, w.before _ s = true := fun w h => atoms_spec (ws := .code yX12_fault cX12_fault 2 (some .int) :: lw_gd) B.pre w (List.mem_cons_of_mem _ h)
  have hown : s.vm.findClass RX12 = some m.cls := findClass_of_methodNamed B.named
  have hlocks := B.notSynchronized
  subst hsz
  have hD := hD0.self (sz := s.heap.size)
  generalize hAe : va_A [(a0, .inr (12, [.ref a1, .int 0, .int 0, .int 0, .int 0, .int 0, .int 0, .int 0, .int (-1), .ref a2, .ref a3, .ref a4, .ref a5, .ref a6, .ref a7, .ref a8, .ref a9, .ref a10, .ref a11, .ref a12, .ref a13, .ref a14, .ref a15, .ref a16, .int 0, .int 0, .int 0, .int 0, .int 0, .int 9999, .ref a17, .ref a18, .ref a19, .int 0, .ref a20, .int 0, .ref a21, .int 0, .int 0, .ref a22, .ref a23, .ref a24, .ref a25, .int 0, .ref a26, .int 0, .ref a27, .ref a28, .ref a29, .long 0, .ref a30, .ref a31, .ref a32, .ref a33, .ref a34, .ref a35, .ref a36, .ref a37, .ref a38, .int 0, .int 0, .int 0, .long 0, .ref a39, .int 0, .ref a40, .ref a41, .ref a42, .ref a43, .int 0, .int 0, .int 0, .int 0]))] s.heap.size = A at hD ⊢
  have hA : ∀ q : Nat, s.heap.size ≤ q → A q := fun q h => by rw [← hAe]; exact Or.inr h
  have hS : va_S A s.heap s.heap [] := va_S.rf
  have hP : va_P D gcl [(a0, .inr (12, [.ref a1, .int 0, .int 0, .int 0, .int 0, .int 0, .int 0, .int 0, .int (-1), .ref a2, .ref a3, .ref a4, .ref a5, .ref a6, .ref a7, .ref a8, .ref a9, .ref a10, .ref a11, .ref a12, .ref a13, .ref a14, .ref a15, .ref a16, .int 0, .int 0, .int 0, .int 0, .int 0, .int 9999, .ref a17, .ref a18, .ref a19, .int 0, .ref a20, .int 0, .ref a21, .int 0, .int 0, .ref a22, .ref a23, .ref a24, .ref a25, .int 0, .ref a26, .int 0, .ref a27, .ref a28, .ref a29, .long 0, .ref a30, .ref a31, .ref a32, .ref a33, .ref a34, .ref a35, .ref a36, .ref a37, .ref a38, .int 0, .int 0, .int 0, .long 0, .ref a39, .int 0, .ref a40, .ref a41, .ref a42, .ref a43, .int 0, .int 0, .int 0, .int 0]))] s.heap := hP
  have hl := lv_entry ([.ref a0, .int x0]) (n := 2) (Nat.le_of_ble_eq_true rfl)
  rw [lg_entry_eq]
  generalize (lg_sl ([.ref a0, .int x0]) ++ List.replicate (2 - (lg_sl ([.ref a0, .int x0])).length) Slot.unset).toArray = ls at hl ⊢
  have hl : lv_has ls 2 [(0, .ref a0), (1, .int x0)] := hl
  refine lv_iload_n (pc := 0) hx hb dX12_fault_0 rfl (lv_at hl 1 rfl) ?_
  refine lv_if_ne (pc := 1) (tgt := 11) hx hb dX12_fault_1 (by decide) (fun c_1 => ?_) (fun c_1 => ?_)
  ·
    refine lv_iload_n (pc := 11) hx hb dX12_fault_11 rfl (lv_at hl 1 rfl) ?_
    refine lv_iconst (pc := 12) (v := 1) hx hb dX12_fault_12 (by decide) ?_
    refine lv_icmp_ne (pc := 13) (tgt := 23) hx hb dX12_fault_13 (by decide) (fun c_2 => ?_) (fun c_2 => ?_)
    ·
      refine lv_iconst (pc := 23) (v := (-1)) hx hb dX12_fault_23 (by decide) ?_
      have hP9 := hP.sub (ws' := []) [] rfl
      have hD9 := hD.sub (ws' := []) [] (by decide) rfl
      refine W.widen (k := 0) (n := 0) (Nat.le_of_ble_eq_true rfl) (Nat.le_of_ble_eq_true rfl) ?_
      exact W.iret (v := (-1)) hx hb hr (fun t ht hW => ⟨⟨(-1), ((fun _ => 0), (fun _ => (fun _ => 0)), (fun _ => (fun _ => 0)), (fun _ => 0), (fun _ => 0)), rfl, (by show (_ : Int32) = _; first | rfl | decide +kernel | (split <;> rename_i hh <;> first | rfl | (exfalso; have z0 : (0 : Int32).toInt = 0 := (by decide +kernel); have z1 : (1 : Int32).toInt = 1 := (by decide +kernel); have z2 : (9 : Int32).toInt = 9 := (by decide +kernel); have z3 : (100 : Int32).toInt = 100 := (by decide +kernel); have z4 : (0 : Int64).toInt = 0 := (by decide +kernel); (try simp only [lg_cmp_ge, lg_cmp_le, lg_cmp_gt, lg_cmp_lt, lg_cmp_eq] at c_1 c_2); simp only [q_lt, q_le, q_eq, q_lt64, q_le64, q_eq64, q_wide, z0, z1, z2, z3, z4] at c_1 c_2 hh; omega))), by rw [ht]; exact hP9, hD9⟩, hS.F ht⟩) hS.2.2 dX12_fault_24
    ·
      refine lv_aload_n (pc := 16) hx hb dX12_fault_16 rfl (lv_at hl 0 rfl) ?_
      refine va_get (pc := 17) (ci := 12) (v := .int (-1)) (C := RX12) (T := TX12) (N := 73) hx hb hts iX12 hown hK hP 0 rfl rfl 8 (by decide) (hts _ tw_1409) (fun _ h9 => h9) rfl dX12_fault_17 ?_
      refine lv_goto (pc := 20) (tgt := 24) hx hb dX12_fault_20 (by decide) ?_
      have hP9 := hP.sub (ws' := []) [] rfl
      have hD9 := hD.sub (ws' := []) [] (by decide) rfl
      refine W.widen (k := 0) (n := 0) (Nat.le_of_ble_eq_true rfl) (Nat.le_of_ble_eq_true rfl) ?_
      exact W.iret (v := (-1)) hx hb hr (fun t ht hW => ⟨⟨(-1), ((fun _ => 0), (fun _ => (fun _ => 0)), (fun _ => (fun _ => 0)), (fun _ => 0), (fun _ => 0)), rfl, (by show (_ : Int32) = _; first | rfl | decide +kernel | (split <;> rename_i hh <;> first | rfl | (exfalso; have z0 : (0 : Int32).toInt = 0 := (by decide +kernel); have z1 : (1 : Int32).toInt = 1 := (by decide +kernel); have z2 : (9 : Int32).toInt = 9 := (by decide +kernel); have z3 : (100 : Int32).toInt = 100 := (by decide +kernel); have z4 : (0 : Int64).toInt = 0 := (by decide +kernel); (try simp only [lg_cmp_ge, lg_cmp_le, lg_cmp_gt, lg_cmp_lt, lg_cmp_eq] at c_1 c_2); simp only [q_lt, q_le, q_eq, q_lt64, q_le64, q_eq64, q_wide, z0, z1, z2, z3, z4] at c_1 c_2 hh; omega))), by rw [ht]; exact hP9, hD9⟩, hS.F ht⟩) hS.2.2 dX12_fault_24
  ·
    refine lv_aload_n (pc := 4) hx hb dX12_fault_4 rfl (lv_at hl 0 rfl) ?_
    refine va_get (pc := 5) (ci := 12) (v := .int 0) (C := RX12) (T := TX12) (N := 73) hx hb hts iX12 hown hK hP 0 rfl rfl 7 (by decide) (hts _ tw_1408) (fun _ h9 => h9) rfl dX12_fault_5 ?_
    refine lv_goto (pc := 8) (tgt := 24) hx hb dX12_fault_8 (by decide) ?_
    have hP9 := hP.sub (ws' := []) [] rfl
    have hD9 := hD.sub (ws' := []) [] (by decide) rfl
    refine W.widen (k := 0) (n := 0) (Nat.le_of_ble_eq_true rfl) (Nat.le_of_ble_eq_true rfl) ?_
    exact W.iret (v := 0) hx hb hr (fun t ht hW => ⟨⟨0, ((fun _ => 0), (fun _ => (fun _ => 0)), (fun _ => (fun _ => 0)), (fun _ => 0), (fun _ => 0)), rfl, (by show (_ : Int32) = _; first | rfl | decide +kernel | (split <;> rename_i hh <;> first | rfl | (exfalso; have z0 : (0 : Int32).toInt = 0 := (by decide +kernel); have z1 : (1 : Int32).toInt = 1 := (by decide +kernel); have z2 : (9 : Int32).toInt = 9 := (by decide +kernel); have z3 : (100 : Int32).toInt = 100 := (by decide +kernel); have z4 : (0 : Int64).toInt = 0 := (by decide +kernel); (try simp only [lg_cmp_ge, lg_cmp_le, lg_cmp_gt, lg_cmp_lt, lg_cmp_eq] at c_1); simp only [q_lt, q_le, q_eq, q_lt64, q_le64, q_eq64, q_wide, z0, z1, z2, z3, z4] at c_1 hh; omega))), by rw [ht]; exact hP9, hD9⟩, hS.F ht⟩) hS.2.2 dX12_fault_24
set_option maxHeartbeats 4000000 in
set_option maxRecDepth 100000 in
theorem cc_52_yX11_has (l : Launch) (D : va_G) (cB cC cI cJ : ClassId) (sz : Nat) (a0 a1 a2 a3 a4 a5 a6 a7 a8 a9 a10 a11 a12 a13 a14 a15 a16 a17 a18 a19 a20 a21 a22 a23 a24 : Nat) (x0 : Int32) : Met l yX11_has (.code yX11_has cX11_has 2 (some .int) :: lw_gd) ({ frames := 0, cells := 0, slots := 0, locals := 0 }) (gPre D [(cB, .byte), (cC, .char), (cI, .int), (cJ, .long)] [.ref a0, .int x0] [(a0, .inr (11, [.ref a1, .ref a2, .ref a3, .ref a4, .ref a5, .ref a6, .ref a7, .ref a8, .ref a9, .ref a10, .int 0, .ref a11, .ref a12, .ref a13])), (a11, .inr (1, [.ref a14, .ref a15, .ref a16, .int 0, .int 0, .int 0, .int 0, .int 0, .int 9999, .int 0])), (a15, .inr (5, [.ref a17, .ref a18, .ref a19, .ref a20, .ref a21, .int 0, .int 0])), (a12, .inr (2, [.ref a22, .ref a23, .ref a24, .int 0, .int 0, .int 0, .int 0, .int 0]))] sz) (va_Qi (fun r _ => r = (if x0 = 6 then 9999 else if 0 ≤ x0 ∧ x0 ≤ 9 then 0 else -1)) (gB D (va_A [(a0, .inr (11, [.ref a1, .ref a2, .ref a3, .ref a4, .ref a5, .ref a6, .ref a7, .ref a8, .ref a9, .ref a10, .int 0, .ref a11, .ref a12, .ref a13])), (a11, .inr (1, [.ref a14, .ref a15, .ref a16, .int 0, .int 0, .int 0, .int 0, .int 0, .int 9999, .int 0])), (a15, .inr (5, [.ref a17, .ref a18, .ref a19, .ref a20, .ref a21, .int 0, .int 0])), (a12, .inr (2, [.ref a22, .ref a23, .ref a24, .int 0, .int 0, .int 0, .int 0, .int 0]))] sz) (fun u : gEx => [])) (va_A [(a0, .inr (11, [.ref a1, .ref a2, .ref a3, .ref a4, .ref a5, .ref a6, .ref a7, .ref a8, .ref a9, .ref a10, .int 0, .ref a11, .ref a12, .ref a13])), (a11, .inr (1, [.ref a14, .ref a15, .ref a16, .int 0, .int 0, .int 0, .int 0, .int 0, .int 9999, .int 0])), (a15, .inr (5, [.ref a17, .ref a18, .ref a19, .ref a20, .ref a21, .int 0, .int 0])), (a12, .inr (2, [.ref a22, .ref a23, .ref a24, .int 0, .int 0, .int 0, .int 0, .int 0]))] sz)) 0 0 (va_A [(a0, .inr (11, [.ref a1, .ref a2, .ref a3, .ref a4, .ref a5, .ref a6, .ref a7, .ref a8, .ref a9, .ref a10, .int 0, .ref a11, .ref a12, .ref a13])), (a11, .inr (1, [.ref a14, .ref a15, .ref a16, .int 0, .int 0, .int 0, .int 0, .int 0, .int 9999, .int 0])), (a15, .inr (5, [.ref a17, .ref a18, .ref a19, .ref a20, .ref a21, .int 0, .int 0])), (a12, .inr (2, [.ref a22, .ref a23, .ref a24, .int 0, .int 0, .int 0, .int 0, .int 0]))] sz) := by
  refine Met.ofW (cc := cX11_has) (maxL := 2) (ret := (some .int)) (by decide) rfl ?_
  intro p e s m args below meth c s₁ B hml hv
  obtain ⟨rfl, hsz, hP, hK, hD0, hN⟩ := hv
  have hx := B.exec
  have hb := B.bytes
  have hr := B.returns
  have hts : ∀ w ∈ lw_gd, w.before _ s = true := fun w h => atoms_spec (ws := .code yX11_has cX11_has 2 (some .int) :: lw_gd) B.pre w (List.mem_cons_of_mem _ h)
  have hown : s.vm.findClass RX11 = some m.cls := findClass_of_methodNamed B.named
  have hlocks := B.notSynchronized
  subst hsz
  have hD := hD0.self (sz := s.heap.size)
  generalize hAe : va_A [(a0, .inr (11, [.ref a1, .ref a2, .ref a3, .ref a4, .ref a5, .ref a6, .ref a7, .ref a8, .ref a9, .ref a10, .int 0, .ref a11, .ref a12, .ref a13])), (a11, .inr (1, [.ref a14, .ref a15, .ref a16, .int 0, .int 0, .int 0, .int 0, .int 0, .int 9999, .int 0])), (a15, .inr (5, [.ref a17, .ref a18, .ref a19, .ref a20, .ref a21, .int 0, .int 0])), (a12, .inr (2, [.ref a22, .ref a23, .ref a24, .int 0, .int 0, .int 0, .int 0, .int 0]))] s.heap.size = A at hD ⊢
  have hA : ∀ q : Nat, s.heap.size ≤ q → A q := fun q h => by rw [← hAe]; exact Or.inr h
  have hS : va_S A s.heap s.heap [] := va_S.rf
  have hP : va_P D gcl [(a0, .inr (11, [.ref a1, .ref a2, .ref a3, .ref a4, .ref a5, .ref a6, .ref a7, .ref a8, .ref a9, .ref a10, .int 0, .ref a11, .ref a12, .ref a13])), (a11, .inr (1, [.ref a14, .ref a15, .ref a16, .int 0, .int 0, .int 0, .int 0, .int 0, .int 9999, .int 0])), (a15, .inr (5, [.ref a17, .ref a18, .ref a19, .ref a20, .ref a21, .int 0, .int 0])), (a12, .inr (2, [.ref a22, .ref a23, .ref a24, .int 0, .int 0, .int 0, .int 0, .int 0]))] s.heap := hP
  have hl := lv_entry ([.ref a0, .int x0]) (n := 2) (Nat.le_of_ble_eq_true rfl)
  rw [lg_entry_eq]
  generalize (lg_sl ([.ref a0, .int x0]) ++ List.replicate (2 - (lg_sl ([.ref a0, .int x0])).length) Slot.unset).toArray = ls at hl ⊢
  have hl : lv_has ls 2 [(0, .ref a0), (1, .int x0)] := hl
  refine lv_iload_n (pc := 0) hx hb dX11_has_0 rfl (lv_at hl 1 rfl) ?_
  by_cases h_1 : x0 = 0
  ·
    subst h_1
    refine lv_tableIn (pc := 1) (off := 55) (tgt := 56) hx hb dX11_has_1 (by decide +kernel) (by decide +kernel) (by decide +kernel) (by decide) ?_
    refine lv_aload_n (pc := 56) hx hb dX11_has_56 rfl (lv_at hl 0 rfl) ?_
    refine va_get (pc := 57) (ci := 11) (v := .ref a11) (C := RX11) (T := TX11) (N := 14) hx hb hts iX11 hown hK hP 0 rfl rfl 11 (by decide) (hts _ tw_431) (fun _ h9 => h9) rfl dX11_has_57 ?_
    refine va_getN (pc := 60) (ci := 1) (v := .int 0) (C := RX1) (T := TX1) (N := 10) hx hb hts iX1 hown hK hP 1 rfl rfl 3 (by decide) (va_Nw.use rfl (hN _ tn_114)) (fun _ h9 => h9) rfl dX11_has_60 ?_
    have hP9 := hP.sub (ws' := []) [] rfl
    have hD9 := hD.sub (ws' := []) [] (by decide) rfl
    refine W.widen (k := 0) (n := 0) (Nat.le_of_ble_eq_true rfl) (Nat.le_of_ble_eq_true rfl) ?_
    exact W.iret (v := 0) hx hb hr (fun t ht hW => ⟨⟨0, ((fun _ => 0), (fun _ => (fun _ => 0)), (fun _ => (fun _ => 0)), (fun _ => 0), (fun _ => 0)), rfl, (by show (_ : Int32) = _; first | rfl | decide +kernel | (split <;> rename_i hh <;> first | rfl | (exfalso; have z0 : (0 : Int32).toInt = 0 := (by decide +kernel); have z1 : (1 : Int32).toInt = 1 := (by decide +kernel); have z2 : (9 : Int32).toInt = 9 := (by decide +kernel); have z3 : (100 : Int32).toInt = 100 := (by decide +kernel); have z4 : (0 : Int64).toInt = 0 := (by decide +kernel); simp only [q_lt, q_le, q_eq, q_lt64, q_le64, q_eq64, q_wide, z0, z1, z2, z3, z4] at  hh; omega))), by rw [ht]; exact hP9, hD9⟩, hS.F ht⟩) hS.2.2 dX11_has_63
  by_cases h_2 : x0 = 1
  ·
    subst h_2
    refine lv_tableIn (pc := 1) (off := 63) (tgt := 64) hx hb dX11_has_1 (by decide +kernel) (by decide +kernel) (by decide +kernel) (by decide) ?_
    refine lv_aload_n (pc := 64) hx hb dX11_has_64 rfl (lv_at hl 0 rfl) ?_
    refine va_get (pc := 65) (ci := 11) (v := .ref a11) (C := RX11) (T := TX11) (N := 14) hx hb hts iX11 hown hK hP 0 rfl rfl 11 (by decide) (hts _ tw_431) (fun _ h9 => h9) rfl dX11_has_65 ?_
    refine va_getN (pc := 68) (ci := 1) (v := .int 0) (C := RX1) (T := TX1) (N := 10) hx hb hts iX1 hown hK hP 1 rfl rfl 4 (by decide) (va_Nw.use rfl (hN _ tn_123)) (fun _ h9 => h9) rfl dX11_has_68 ?_
    have hP9 := hP.sub (ws' := []) [] rfl
    have hD9 := hD.sub (ws' := []) [] (by decide) rfl
    refine W.widen (k := 0) (n := 0) (Nat.le_of_ble_eq_true rfl) (Nat.le_of_ble_eq_true rfl) ?_
    exact W.iret (v := 0) hx hb hr (fun t ht hW => ⟨⟨0, ((fun _ => 0), (fun _ => (fun _ => 0)), (fun _ => (fun _ => 0)), (fun _ => 0), (fun _ => 0)), rfl, (by show (_ : Int32) = _; first | rfl | decide +kernel | (split <;> rename_i hh <;> first | rfl | (exfalso; have z0 : (0 : Int32).toInt = 0 := (by decide +kernel); have z1 : (1 : Int32).toInt = 1 := (by decide +kernel); have z2 : (9 : Int32).toInt = 9 := (by decide +kernel); have z3 : (100 : Int32).toInt = 100 := (by decide +kernel); have z4 : (0 : Int64).toInt = 0 := (by decide +kernel); simp only [q_lt, q_le, q_eq, q_lt64, q_le64, q_eq64, q_wide, z0, z1, z2, z3, z4] at  hh; omega))), by rw [ht]; exact hP9, hD9⟩, hS.F ht⟩) hS.2.2 dX11_has_71
  by_cases h_3 : x0 = 2
  ·
    subst h_3
    refine lv_tableIn (pc := 1) (off := 71) (tgt := 72) hx hb dX11_has_1 (by decide +kernel) (by decide +kernel) (by decide +kernel) (by decide) ?_
    refine lv_aload_n (pc := 72) hx hb dX11_has_72 rfl (lv_at hl 0 rfl) ?_
    refine va_get (pc := 73) (ci := 11) (v := .ref a11) (C := RX11) (T := TX11) (N := 14) hx hb hts iX11 hown hK hP 0 rfl rfl 11 (by decide) (hts _ tw_431) (fun _ h9 => h9) rfl dX11_has_73 ?_
    refine va_getN (pc := 76) (ci := 1) (v := .int 0) (C := RX1) (T := TX1) (N := 10) hx hb hts iX1 hown hK hP 1 rfl rfl 5 (by decide) (va_Nw.use rfl (hN _ tn_128)) (fun _ h9 => h9) rfl dX11_has_76 ?_
    have hP9 := hP.sub (ws' := []) [] rfl
    have hD9 := hD.sub (ws' := []) [] (by decide) rfl
    refine W.widen (k := 0) (n := 0) (Nat.le_of_ble_eq_true rfl) (Nat.le_of_ble_eq_true rfl) ?_
    exact W.iret (v := 0) hx hb hr (fun t ht hW => ⟨⟨0, ((fun _ => 0), (fun _ => (fun _ => 0)), (fun _ => (fun _ => 0)), (fun _ => 0), (fun _ => 0)), rfl, (by show (_ : Int32) = _; first | rfl | decide +kernel | (split <;> rename_i hh <;> first | rfl | (exfalso; have z0 : (0 : Int32).toInt = 0 := (by decide +kernel); have z1 : (1 : Int32).toInt = 1 := (by decide +kernel); have z2 : (9 : Int32).toInt = 9 := (by decide +kernel); have z3 : (100 : Int32).toInt = 100 := (by decide +kernel); have z4 : (0 : Int64).toInt = 0 := (by decide +kernel); simp only [q_lt, q_le, q_eq, q_lt64, q_le64, q_eq64, q_wide, z0, z1, z2, z3, z4] at  hh; omega))), by rw [ht]; exact hP9, hD9⟩, hS.F ht⟩) hS.2.2 dX11_has_79
  by_cases h_4 : x0 = 3
  ·
    subst h_4
    refine lv_tableIn (pc := 1) (off := 79) (tgt := 80) hx hb dX11_has_1 (by decide +kernel) (by decide +kernel) (by decide +kernel) (by decide) ?_
    refine lv_aload_n (pc := 80) hx hb dX11_has_80 rfl (lv_at hl 0 rfl) ?_
    refine va_get (pc := 81) (ci := 11) (v := .ref a11) (C := RX11) (T := TX11) (N := 14) hx hb hts iX11 hown hK hP 0 rfl rfl 11 (by decide) (hts _ tw_431) (fun _ h9 => h9) rfl dX11_has_81 ?_
    refine va_getN (pc := 84) (ci := 1) (v := .int 0) (C := RX1) (T := TX1) (N := 10) hx hb hts iX1 hown hK hP 1 rfl rfl 6 (by decide) (va_Nw.use rfl (hN _ tn_133)) (fun _ h9 => h9) rfl dX11_has_84 ?_
    have hP9 := hP.sub (ws' := []) [] rfl
    have hD9 := hD.sub (ws' := []) [] (by decide) rfl
    refine W.widen (k := 0) (n := 0) (Nat.le_of_ble_eq_true rfl) (Nat.le_of_ble_eq_true rfl) ?_
    exact W.iret (v := 0) hx hb hr (fun t ht hW => ⟨⟨0, ((fun _ => 0), (fun _ => (fun _ => 0)), (fun _ => (fun _ => 0)), (fun _ => 0), (fun _ => 0)), rfl, (by show (_ : Int32) = _; first | rfl | decide +kernel | (split <;> rename_i hh <;> first | rfl | (exfalso; have z0 : (0 : Int32).toInt = 0 := (by decide +kernel); have z1 : (1 : Int32).toInt = 1 := (by decide +kernel); have z2 : (9 : Int32).toInt = 9 := (by decide +kernel); have z3 : (100 : Int32).toInt = 100 := (by decide +kernel); have z4 : (0 : Int64).toInt = 0 := (by decide +kernel); simp only [q_lt, q_le, q_eq, q_lt64, q_le64, q_eq64, q_wide, z0, z1, z2, z3, z4] at  hh; omega))), by rw [ht]; exact hP9, hD9⟩, hS.F ht⟩) hS.2.2 dX11_has_87
  by_cases h_5 : x0 = 4
  ·
    subst h_5
    refine lv_tableIn (pc := 1) (off := 87) (tgt := 88) hx hb dX11_has_1 (by decide +kernel) (by decide +kernel) (by decide +kernel) (by decide) ?_
    refine lv_aload_n (pc := 88) hx hb dX11_has_88 rfl (lv_at hl 0 rfl) ?_
    refine va_get (pc := 89) (ci := 11) (v := .ref a11) (C := RX11) (T := TX11) (N := 14) hx hb hts iX11 hown hK hP 0 rfl rfl 11 (by decide) (hts _ tw_431) (fun _ h9 => h9) rfl dX11_has_89 ?_
    refine va_getN (pc := 92) (ci := 1) (v := .int 0) (C := RX1) (T := TX1) (N := 10) hx hb hts iX1 hown hK hP 1 rfl rfl 7 (by decide) (va_Nw.use rfl (hN _ tn_137)) (fun _ h9 => h9) rfl dX11_has_92 ?_
    have hP9 := hP.sub (ws' := []) [] rfl
    have hD9 := hD.sub (ws' := []) [] (by decide) rfl
    refine W.widen (k := 0) (n := 0) (Nat.le_of_ble_eq_true rfl) (Nat.le_of_ble_eq_true rfl) ?_
    exact W.iret (v := 0) hx hb hr (fun t ht hW => ⟨⟨0, ((fun _ => 0), (fun _ => (fun _ => 0)), (fun _ => (fun _ => 0)), (fun _ => 0), (fun _ => 0)), rfl, (by show (_ : Int32) = _; first | rfl | decide +kernel | (split <;> rename_i hh <;> first | rfl | (exfalso; have z0 : (0 : Int32).toInt = 0 := (by decide +kernel); have z1 : (1 : Int32).toInt = 1 := (by decide +kernel); have z2 : (9 : Int32).toInt = 9 := (by decide +kernel); have z3 : (100 : Int32).toInt = 100 := (by decide +kernel); have z4 : (0 : Int64).toInt = 0 := (by decide +kernel); simp only [q_lt, q_le, q_eq, q_lt64, q_le64, q_eq64, q_wide, z0, z1, z2, z3, z4] at  hh; omega))), by rw [ht]; exact hP9, hD9⟩, hS.F ht⟩) hS.2.2 dX11_has_95
  by_cases h_6 : x0 = 5
  ·
    subst h_6
    refine lv_tableIn (pc := 1) (off := 95) (tgt := 96) hx hb dX11_has_1 (by decide +kernel) (by decide +kernel) (by decide +kernel) (by decide) ?_
    refine lv_aload_n (pc := 96) hx hb dX11_has_96 rfl (lv_at hl 0 rfl) ?_
    refine va_get (pc := 97) (ci := 11) (v := .ref a11) (C := RX11) (T := TX11) (N := 14) hx hb hts iX11 hown hK hP 0 rfl rfl 11 (by decide) (hts _ tw_431) (fun _ h9 => h9) rfl dX11_has_97 ?_
    refine va_getN (pc := 100) (ci := 1) (v := .ref a15) (C := RX1) (T := TX1) (N := 10) hx hb hts iX1 hown hK hP 1 rfl rfl 1 (by decide) (va_Nw.use rfl (hN _ tn_106)) (fun _ h9 => h9) rfl dX11_has_100 ?_
    refine va_getN (pc := 103) (ci := 5) (v := .int 0) (C := RX5) (T := TX5) (N := 7) hx hb hts iX5 hown hK hP 2 rfl rfl 6 (by decide) (va_Nw.use rfl (hN _ tn_80)) (fun _ h9 => h9) rfl dX11_has_103 ?_
    have hP9 := hP.sub (ws' := []) [] rfl
    have hD9 := hD.sub (ws' := []) [] (by decide) rfl
    refine W.widen (k := 0) (n := 0) (Nat.le_of_ble_eq_true rfl) (Nat.le_of_ble_eq_true rfl) ?_
    exact W.iret (v := 0) hx hb hr (fun t ht hW => ⟨⟨0, ((fun _ => 0), (fun _ => (fun _ => 0)), (fun _ => (fun _ => 0)), (fun _ => 0), (fun _ => 0)), rfl, (by show (_ : Int32) = _; first | rfl | decide +kernel | (split <;> rename_i hh <;> first | rfl | (exfalso; have z0 : (0 : Int32).toInt = 0 := (by decide +kernel); have z1 : (1 : Int32).toInt = 1 := (by decide +kernel); have z2 : (9 : Int32).toInt = 9 := (by decide +kernel); have z3 : (100 : Int32).toInt = 100 := (by decide +kernel); have z4 : (0 : Int64).toInt = 0 := (by decide +kernel); simp only [q_lt, q_le, q_eq, q_lt64, q_le64, q_eq64, q_wide, z0, z1, z2, z3, z4] at  hh; omega))), by rw [ht]; exact hP9, hD9⟩, hS.F ht⟩) hS.2.2 dX11_has_106
  by_cases h_7 : x0 = 6
  ·
    subst h_7
    refine lv_tableIn (pc := 1) (off := 106) (tgt := 107) hx hb dX11_has_1 (by decide +kernel) (by decide +kernel) (by decide +kernel) (by decide) ?_
    refine lv_aload_n (pc := 107) hx hb dX11_has_107 rfl (lv_at hl 0 rfl) ?_
    refine va_get (pc := 108) (ci := 11) (v := .ref a11) (C := RX11) (T := TX11) (N := 14) hx hb hts iX11 hown hK hP 0 rfl rfl 11 (by decide) (hts _ tw_431) (fun _ h9 => h9) rfl dX11_has_108 ?_
    refine va_getN (pc := 111) (ci := 1) (v := .int 9999) (C := RX1) (T := TX1) (N := 10) hx hb hts iX1 hown hK hP 1 rfl rfl 8 (by decide) (va_Nw.use rfl (hN _ tn_141)) (fun _ h9 => h9) rfl dX11_has_111 ?_
    have hP9 := hP.sub (ws' := []) [] rfl
    have hD9 := hD.sub (ws' := []) [] (by decide) rfl
    refine W.widen (k := 0) (n := 0) (Nat.le_of_ble_eq_true rfl) (Nat.le_of_ble_eq_true rfl) ?_
    exact W.iret (v := 9999) hx hb hr (fun t ht hW => ⟨⟨9999, ((fun _ => 0), (fun _ => (fun _ => 0)), (fun _ => (fun _ => 0)), (fun _ => 0), (fun _ => 0)), rfl, (by show (_ : Int32) = _; first | rfl | decide +kernel | (split <;> rename_i hh <;> first | rfl | (exfalso; have z0 : (0 : Int32).toInt = 0 := (by decide +kernel); have z1 : (1 : Int32).toInt = 1 := (by decide +kernel); have z2 : (9 : Int32).toInt = 9 := (by decide +kernel); have z3 : (100 : Int32).toInt = 100 := (by decide +kernel); have z4 : (0 : Int64).toInt = 0 := (by decide +kernel); simp only [q_lt, q_le, q_eq, q_lt64, q_le64, q_eq64, q_wide, z0, z1, z2, z3, z4] at  hh; omega))), by rw [ht]; exact hP9, hD9⟩, hS.F ht⟩) hS.2.2 dX11_has_114
  by_cases h_8 : x0 = 7
  ·
    subst h_8
    refine lv_tableIn (pc := 1) (off := 114) (tgt := 115) hx hb dX11_has_1 (by decide +kernel) (by decide +kernel) (by decide +kernel) (by decide) ?_
    refine lv_aload_n (pc := 115) hx hb dX11_has_115 rfl (lv_at hl 0 rfl) ?_
    refine va_get (pc := 116) (ci := 11) (v := .ref a12) (C := RX11) (T := TX11) (N := 14) hx hb hts iX11 hown hK hP 0 rfl rfl 12 (by decide) (hts _ tw_432) (fun _ h9 => h9) rfl dX11_has_116 ?_
    refine va_getN (pc := 119) (ci := 2) (v := .int 0) (C := RX2) (T := TX2) (N := 8) hx hb hts iX2 hown hK hP 3 rfl rfl 7 (by decide) (va_Nw.use rfl (hN _ tn_402)) (fun _ h9 => h9) rfl dX11_has_119 ?_
    have hP9 := hP.sub (ws' := []) [] rfl
    have hD9 := hD.sub (ws' := []) [] (by decide) rfl
    refine W.widen (k := 0) (n := 0) (Nat.le_of_ble_eq_true rfl) (Nat.le_of_ble_eq_true rfl) ?_
    exact W.iret (v := 0) hx hb hr (fun t ht hW => ⟨⟨0, ((fun _ => 0), (fun _ => (fun _ => 0)), (fun _ => (fun _ => 0)), (fun _ => 0), (fun _ => 0)), rfl, (by show (_ : Int32) = _; first | rfl | decide +kernel | (split <;> rename_i hh <;> first | rfl | (exfalso; have z0 : (0 : Int32).toInt = 0 := (by decide +kernel); have z1 : (1 : Int32).toInt = 1 := (by decide +kernel); have z2 : (9 : Int32).toInt = 9 := (by decide +kernel); have z3 : (100 : Int32).toInt = 100 := (by decide +kernel); have z4 : (0 : Int64).toInt = 0 := (by decide +kernel); simp only [q_lt, q_le, q_eq, q_lt64, q_le64, q_eq64, q_wide, z0, z1, z2, z3, z4] at  hh; omega))), by rw [ht]; exact hP9, hD9⟩, hS.F ht⟩) hS.2.2 dX11_has_122
  by_cases h_9 : x0 = 8
  ·
    subst h_9
    refine lv_tableIn (pc := 1) (off := 122) (tgt := 123) hx hb dX11_has_1 (by decide +kernel) (by decide +kernel) (by decide +kernel) (by decide) ?_
    refine lv_aload_n (pc := 123) hx hb dX11_has_123 rfl (lv_at hl 0 rfl) ?_
    refine va_get (pc := 124) (ci := 11) (v := .ref a12) (C := RX11) (T := TX11) (N := 14) hx hb hts iX11 hown hK hP 0 rfl rfl 12 (by decide) (hts _ tw_432) (fun _ h9 => h9) rfl dX11_has_124 ?_
    refine va_getN (pc := 127) (ci := 2) (v := .int 0) (C := RX2) (T := TX2) (N := 8) hx hb hts iX2 hown hK hP 3 rfl rfl 5 (by decide) (va_Nw.use rfl (hN _ tn_398)) (fun _ h9 => h9) rfl dX11_has_127 ?_
    have hP9 := hP.sub (ws' := []) [] rfl
    have hD9 := hD.sub (ws' := []) [] (by decide) rfl
    refine W.widen (k := 0) (n := 0) (Nat.le_of_ble_eq_true rfl) (Nat.le_of_ble_eq_true rfl) ?_
    exact W.iret (v := 0) hx hb hr (fun t ht hW => ⟨⟨0, ((fun _ => 0), (fun _ => (fun _ => 0)), (fun _ => (fun _ => 0)), (fun _ => 0), (fun _ => 0)), rfl, (by show (_ : Int32) = _; first | rfl | decide +kernel | (split <;> rename_i hh <;> first | rfl | (exfalso; have z0 : (0 : Int32).toInt = 0 := (by decide +kernel); have z1 : (1 : Int32).toInt = 1 := (by decide +kernel); have z2 : (9 : Int32).toInt = 9 := (by decide +kernel); have z3 : (100 : Int32).toInt = 100 := (by decide +kernel); have z4 : (0 : Int64).toInt = 0 := (by decide +kernel); simp only [q_lt, q_le, q_eq, q_lt64, q_le64, q_eq64, q_wide, z0, z1, z2, z3, z4] at  hh; omega))), by rw [ht]; exact hP9, hD9⟩, hS.F ht⟩) hS.2.2 dX11_has_130
  by_cases h_10 : x0 = 9
  ·
    subst h_10
    refine lv_tableIn (pc := 1) (off := 130) (tgt := 131) hx hb dX11_has_1 (by decide +kernel) (by decide +kernel) (by decide +kernel) (by decide) ?_
    refine lv_aload_n (pc := 131) hx hb dX11_has_131 rfl (lv_at hl 0 rfl) ?_
    refine va_get (pc := 132) (ci := 11) (v := .ref a12) (C := RX11) (T := TX11) (N := 14) hx hb hts iX11 hown hK hP 0 rfl rfl 12 (by decide) (hts _ tw_432) (fun _ h9 => h9) rfl dX11_has_132 ?_
    refine va_getN (pc := 135) (ci := 2) (v := .int 0) (C := RX2) (T := TX2) (N := 8) hx hb hts iX2 hown hK hP 3 rfl rfl 6 (by decide) (va_Nw.use rfl (hN _ tn_400)) (fun _ h9 => h9) rfl dX11_has_135 ?_
    have hP9 := hP.sub (ws' := []) [] rfl
    have hD9 := hD.sub (ws' := []) [] (by decide) rfl
    refine W.widen (k := 0) (n := 0) (Nat.le_of_ble_eq_true rfl) (Nat.le_of_ble_eq_true rfl) ?_
    exact W.iret (v := 0) hx hb hr (fun t ht hW => ⟨⟨0, ((fun _ => 0), (fun _ => (fun _ => 0)), (fun _ => (fun _ => 0)), (fun _ => 0), (fun _ => 0)), rfl, (by show (_ : Int32) = _; first | rfl | decide +kernel | (split <;> rename_i hh <;> first | rfl | (exfalso; have z0 : (0 : Int32).toInt = 0 := (by decide +kernel); have z1 : (1 : Int32).toInt = 1 := (by decide +kernel); have z2 : (9 : Int32).toInt = 9 := (by decide +kernel); have z3 : (100 : Int32).toInt = 100 := (by decide +kernel); have z4 : (0 : Int64).toInt = 0 := (by decide +kernel); simp only [q_lt, q_le, q_eq, q_lt64, q_le64, q_eq64, q_wide, z0, z1, z2, z3, z4] at  hh; omega))), by rw [ht]; exact hP9, hD9⟩, hS.F ht⟩) hS.2.2 dX11_has_138
  have ho_11 : x0.toInt < 0 ∨ 9 < x0.toInt := by (have t0 := lv_neT h_1 (show (0 : Int32).toInt = 0 by decide +kernel); have t1 := lv_neT h_2 (show (1 : Int32).toInt = 1 by decide +kernel); have t2 := lv_neT h_3 (show (2 : Int32).toInt = 2 by decide +kernel); have t3 := lv_neT h_4 (show (3 : Int32).toInt = 3 by decide +kernel); have t4 := lv_neT h_5 (show (4 : Int32).toInt = 4 by decide +kernel); have t5 := lv_neT h_6 (show (5 : Int32).toInt = 5 by decide +kernel); have t6 := lv_neT h_7 (show (6 : Int32).toInt = 6 by decide +kernel); have t7 := lv_neT h_8 (show (7 : Int32).toInt = 7 by decide +kernel); have t8 := lv_neT h_9 (show (8 : Int32).toInt = 8 by decide +kernel); have t9 := lv_neT h_10 (show (9 : Int32).toInt = 9 by decide +kernel); omega)
  refine lv_tableOut (pc := 1) (tgt := 139) hx hb dX11_has_1 ho_11 (by decide) ?_
  refine lv_iconst (pc := 139) (v := (-1)) hx hb dX11_has_139 (by decide) ?_
  have hP9 := hP.sub (ws' := []) [] rfl
  have hD9 := hD.sub (ws' := []) [] (by decide) rfl
  refine W.widen (k := 0) (n := 0) (Nat.le_of_ble_eq_true rfl) (Nat.le_of_ble_eq_true rfl) ?_
  exact W.iret (v := (-1)) hx hb hr (fun t ht hW => ⟨⟨(-1), ((fun _ => 0), (fun _ => (fun _ => 0)), (fun _ => (fun _ => 0)), (fun _ => 0), (fun _ => 0)), rfl, (by show (_ : Int32) = _; first | rfl | decide +kernel | exact q_has ho_11 (by assumption) | (split <;> rename_i hh <;> first | rfl | (exfalso; have z0 : (0 : Int32).toInt = 0 := (by decide +kernel); have z1 : (1 : Int32).toInt = 1 := (by decide +kernel); have z2 : (9 : Int32).toInt = 9 := (by decide +kernel); have z3 : (100 : Int32).toInt = 100 := (by decide +kernel); have z4 : (0 : Int64).toInt = 0 := (by decide +kernel); simp only [q_lt, q_le, q_eq, q_lt64, q_le64, q_eq64, q_wide, z0, z1, z2, z3, z4] at  hh; omega))), by rw [ht]; exact hP9, hD9⟩, hS.F ht⟩) hS.2.2 dX11_has_140
set_option maxHeartbeats 4000000 in
set_option maxRecDepth 100000 in
theorem cc_53_yX12_has (l : Launch) (D : va_G) (cB cC cI cJ : ClassId) (sz : Nat) (a0 a1 a2 a3 a4 a5 a6 a7 a8 a9 a10 a11 a12 a13 a14 a15 a16 a17 a18 a19 a20 a21 a22 a23 a24 a25 a26 a27 a28 a29 a30 a31 a32 a33 a34 a35 a36 a37 a38 a39 a40 a41 a42 a43 : Nat) (x0 : Int32) : Met l yX12_has (.code yX12_has cX12_has 2 (some .int) :: lw_gd) ({ frames := 0, cells := 0, slots := 0, locals := 0 }) (gPre D [(cB, .byte), (cC, .char), (cI, .int), (cJ, .long)] [.ref a0, .int x0] [(a0, .inr (12, [.ref a1, .int 0, .int 0, .int 0, .int 0, .int 0, .int 0, .int 0, .int (-1), .ref a2, .ref a3, .ref a4, .ref a5, .ref a6, .ref a7, .ref a8, .ref a9, .ref a10, .ref a11, .ref a12, .ref a13, .ref a14, .ref a15, .ref a16, .int 0, .int 0, .int 0, .int 0, .int 0, .int 9999, .ref a17, .ref a18, .ref a19, .int 0, .ref a20, .int 0, .ref a21, .int 0, .int 0, .ref a22, .ref a23, .ref a24, .ref a25, .int 0, .ref a26, .int 0, .ref a27, .ref a28, .ref a29, .long 0, .ref a30, .ref a31, .ref a32, .ref a33, .ref a34, .ref a35, .ref a36, .ref a37, .ref a38, .int 0, .int 0, .int 0, .long 0, .ref a39, .int 0, .ref a40, .ref a41, .ref a42, .ref a43, .int 0, .int 0, .int 0, .int 0])), (a22, .inl (cI, 2, .inl (fun _ => 0)))] sz) (va_Qi (fun r _ => r = (if x0 = 6 then 9999 else if 0 ≤ x0 ∧ x0 ≤ 9 then 0 else -1)) (gB D (va_A [(a0, .inr (12, [.ref a1, .int 0, .int 0, .int 0, .int 0, .int 0, .int 0, .int 0, .int (-1), .ref a2, .ref a3, .ref a4, .ref a5, .ref a6, .ref a7, .ref a8, .ref a9, .ref a10, .ref a11, .ref a12, .ref a13, .ref a14, .ref a15, .ref a16, .int 0, .int 0, .int 0, .int 0, .int 0, .int 9999, .ref a17, .ref a18, .ref a19, .int 0, .ref a20, .int 0, .ref a21, .int 0, .int 0, .ref a22, .ref a23, .ref a24, .ref a25, .int 0, .ref a26, .int 0, .ref a27, .ref a28, .ref a29, .long 0, .ref a30, .ref a31, .ref a32, .ref a33, .ref a34, .ref a35, .ref a36, .ref a37, .ref a38, .int 0, .int 0, .int 0, .long 0, .ref a39, .int 0, .ref a40, .ref a41, .ref a42, .ref a43, .int 0, .int 0, .int 0, .int 0])), (a22, .inl (cI, 2, .inl (fun _ => 0)))] sz) (fun u : gEx => [])) (va_A [(a0, .inr (12, [.ref a1, .int 0, .int 0, .int 0, .int 0, .int 0, .int 0, .int 0, .int (-1), .ref a2, .ref a3, .ref a4, .ref a5, .ref a6, .ref a7, .ref a8, .ref a9, .ref a10, .ref a11, .ref a12, .ref a13, .ref a14, .ref a15, .ref a16, .int 0, .int 0, .int 0, .int 0, .int 0, .int 9999, .ref a17, .ref a18, .ref a19, .int 0, .ref a20, .int 0, .ref a21, .int 0, .int 0, .ref a22, .ref a23, .ref a24, .ref a25, .int 0, .ref a26, .int 0, .ref a27, .ref a28, .ref a29, .long 0, .ref a30, .ref a31, .ref a32, .ref a33, .ref a34, .ref a35, .ref a36, .ref a37, .ref a38, .int 0, .int 0, .int 0, .long 0, .ref a39, .int 0, .ref a40, .ref a41, .ref a42, .ref a43, .int 0, .int 0, .int 0, .int 0])), (a22, .inl (cI, 2, .inl (fun _ => 0)))] sz)) 0 0 (va_A [(a0, .inr (12, [.ref a1, .int 0, .int 0, .int 0, .int 0, .int 0, .int 0, .int 0, .int (-1), .ref a2, .ref a3, .ref a4, .ref a5, .ref a6, .ref a7, .ref a8, .ref a9, .ref a10, .ref a11, .ref a12, .ref a13, .ref a14, .ref a15, .ref a16, .int 0, .int 0, .int 0, .int 0, .int 0, .int 9999, .ref a17, .ref a18, .ref a19, .int 0, .ref a20, .int 0, .ref a21, .int 0, .int 0, .ref a22, .ref a23, .ref a24, .ref a25, .int 0, .ref a26, .int 0, .ref a27, .ref a28, .ref a29, .long 0, .ref a30, .ref a31, .ref a32, .ref a33, .ref a34, .ref a35, .ref a36, .ref a37, .ref a38, .int 0, .int 0, .int 0, .long 0, .ref a39, .int 0, .ref a40, .ref a41, .ref a42, .ref a43, .int 0, .int 0, .int 0, .int 0])), (a22, .inl (cI, 2, .inl (fun _ => 0)))] sz) := by
  refine Met.ofW (cc := cX12_has) (maxL := 2) (ret := (some .int)) (by decide) rfl ?_
  intro p e s m args below meth c s₁ B hml hv
  obtain ⟨rfl, hsz, hP, hK, hD0, hN⟩ := hv
  have hx := B.exec
  have hb := B.bytes
  have hr := B.returns
  have hts : ∀ w ∈ lw_gd, w.before _ s = true := fun w h => atoms_spec (ws := .code yX12_has cX12_has 2 (some .int) :: lw_gd) B.pre w (List.mem_cons_of_mem _ h)
  have hown : s.vm.findClass RX12 = some m.cls := findClass_of_methodNamed B.named
  have hlocks := B.notSynchronized
  subst hsz
  have hD := hD0.self (sz := s.heap.size)
  generalize hAe : va_A [(a0, .inr (12, [.ref a1, .int 0, .int 0, .int 0, .int 0, .int 0, .int 0, .int 0, .int (-1), .ref a2, .ref a3, .ref a4, .ref a5, .ref a6, .ref a7, .ref a8, .ref a9, .ref a10, .ref a11, .ref a12, .ref a13, .ref a14, .ref a15, .ref a16, .int 0, .int 0, .int 0, .int 0, .int 0, .int 9999, .ref a17, .ref a18, .ref a19, .int 0, .ref a20, .int 0, .ref a21, .int 0, .int 0, .ref a22, .ref a23, .ref a24, .ref a25, .int 0, .ref a26, .int 0, .ref a27, .ref a28, .ref a29, .long 0, .ref a30, .ref a31, .ref a32, .ref a33, .ref a34, .ref a35, .ref a36, .ref a37, .ref a38, .int 0, .int 0, .int 0, .long 0, .ref a39, .int 0, .ref a40, .ref a41, .ref a42, .ref a43, .int 0, .int 0, .int 0, .int 0])), (a22, .inl (cI, 2, .inl (fun _ => 0)))] s.heap.size = A at hD ⊢
  have hA : ∀ q : Nat, s.heap.size ≤ q → A q := fun q h => by rw [← hAe]; exact Or.inr h
  have hS : va_S A s.heap s.heap [] := va_S.rf
  have hP : va_P D gcl [(a0, .inr (12, [.ref a1, .int 0, .int 0, .int 0, .int 0, .int 0, .int 0, .int 0, .int (-1), .ref a2, .ref a3, .ref a4, .ref a5, .ref a6, .ref a7, .ref a8, .ref a9, .ref a10, .ref a11, .ref a12, .ref a13, .ref a14, .ref a15, .ref a16, .int 0, .int 0, .int 0, .int 0, .int 0, .int 9999, .ref a17, .ref a18, .ref a19, .int 0, .ref a20, .int 0, .ref a21, .int 0, .int 0, .ref a22, .ref a23, .ref a24, .ref a25, .int 0, .ref a26, .int 0, .ref a27, .ref a28, .ref a29, .long 0, .ref a30, .ref a31, .ref a32, .ref a33, .ref a34, .ref a35, .ref a36, .ref a37, .ref a38, .int 0, .int 0, .int 0, .long 0, .ref a39, .int 0, .ref a40, .ref a41, .ref a42, .ref a43, .int 0, .int 0, .int 0, .int 0])), (a22, .inl (cI, 2, .inl (fun _ => 0)))] s.heap := hP
  have hl := lv_entry ([.ref a0, .int x0]) (n := 2) (Nat.le_of_ble_eq_true rfl)
  rw [lg_entry_eq]
  generalize (lg_sl ([.ref a0, .int x0]) ++ List.replicate (2 - (lg_sl ([.ref a0, .int x0])).length) Slot.unset).toArray = ls at hl ⊢
  have hl : lv_has ls 2 [(0, .ref a0), (1, .int x0)] := hl
  refine lv_iload_n (pc := 0) hx hb dX12_has_0 rfl (lv_at hl 1 rfl) ?_
  by_cases h_1 : x0 = 0
  ·
    subst h_1
    refine lv_tableIn (pc := 1) (off := 55) (tgt := 56) hx hb dX12_has_1 (by decide +kernel) (by decide +kernel) (by decide +kernel) (by decide) ?_
    refine lv_aload_n (pc := 56) hx hb dX12_has_56 rfl (lv_at hl 0 rfl) ?_
    refine va_get (pc := 57) (ci := 12) (v := .int 0) (C := RX12) (T := TX12) (N := 73) hx hb hts iX12 hown hK hP 0 rfl rfl 24 (by decide) (hts _ tw_1425) (fun _ h9 => h9) rfl dX12_has_57 ?_
    have hP9 := hP.sub (ws' := []) [] rfl
    have hD9 := hD.sub (ws' := []) [] (by decide) rfl
    refine W.widen (k := 0) (n := 0) (Nat.le_of_ble_eq_true rfl) (Nat.le_of_ble_eq_true rfl) ?_
    exact W.iret (v := 0) hx hb hr (fun t ht hW => ⟨⟨0, ((fun _ => 0), (fun _ => (fun _ => 0)), (fun _ => (fun _ => 0)), (fun _ => 0), (fun _ => 0)), rfl, (by show (_ : Int32) = _; first | rfl | decide +kernel | (split <;> rename_i hh <;> first | rfl | (exfalso; have z0 : (0 : Int32).toInt = 0 := (by decide +kernel); have z1 : (1 : Int32).toInt = 1 := (by decide +kernel); have z2 : (9 : Int32).toInt = 9 := (by decide +kernel); have z3 : (100 : Int32).toInt = 100 := (by decide +kernel); have z4 : (0 : Int64).toInt = 0 := (by decide +kernel); simp only [q_lt, q_le, q_eq, q_lt64, q_le64, q_eq64, q_wide, z0, z1, z2, z3, z4] at  hh; omega))), by rw [ht]; exact hP9, hD9⟩, hS.F ht⟩) hS.2.2 dX12_has_60
  by_cases h_2 : x0 = 1
  ·
    subst h_2
    refine lv_tableIn (pc := 1) (off := 60) (tgt := 61) hx hb dX12_has_1 (by decide +kernel) (by decide +kernel) (by decide +kernel) (by decide) ?_
    refine lv_aload_n (pc := 61) hx hb dX12_has_61 rfl (lv_at hl 0 rfl) ?_
    refine va_get (pc := 62) (ci := 12) (v := .int 0) (C := RX12) (T := TX12) (N := 73) hx hb hts iX12 hown hK hP 0 rfl rfl 25 (by decide) (hts _ tw_1426) (fun _ h9 => h9) rfl dX12_has_62 ?_
    have hP9 := hP.sub (ws' := []) [] rfl
    have hD9 := hD.sub (ws' := []) [] (by decide) rfl
    refine W.widen (k := 0) (n := 0) (Nat.le_of_ble_eq_true rfl) (Nat.le_of_ble_eq_true rfl) ?_
    exact W.iret (v := 0) hx hb hr (fun t ht hW => ⟨⟨0, ((fun _ => 0), (fun _ => (fun _ => 0)), (fun _ => (fun _ => 0)), (fun _ => 0), (fun _ => 0)), rfl, (by show (_ : Int32) = _; first | rfl | decide +kernel | (split <;> rename_i hh <;> first | rfl | (exfalso; have z0 : (0 : Int32).toInt = 0 := (by decide +kernel); have z1 : (1 : Int32).toInt = 1 := (by decide +kernel); have z2 : (9 : Int32).toInt = 9 := (by decide +kernel); have z3 : (100 : Int32).toInt = 100 := (by decide +kernel); have z4 : (0 : Int64).toInt = 0 := (by decide +kernel); simp only [q_lt, q_le, q_eq, q_lt64, q_le64, q_eq64, q_wide, z0, z1, z2, z3, z4] at  hh; omega))), by rw [ht]; exact hP9, hD9⟩, hS.F ht⟩) hS.2.2 dX12_has_65
  by_cases h_3 : x0 = 2
  ·
    subst h_3
    refine lv_tableIn (pc := 1) (off := 65) (tgt := 66) hx hb dX12_has_1 (by decide +kernel) (by decide +kernel) (by decide +kernel) (by decide) ?_
    refine lv_aload_n (pc := 66) hx hb dX12_has_66 rfl (lv_at hl 0 rfl) ?_
    refine va_get (pc := 67) (ci := 12) (v := .int 0) (C := RX12) (T := TX12) (N := 73) hx hb hts iX12 hown hK hP 0 rfl rfl 26 (by decide) (hts _ tw_1427) (fun _ h9 => h9) rfl dX12_has_67 ?_
    have hP9 := hP.sub (ws' := []) [] rfl
    have hD9 := hD.sub (ws' := []) [] (by decide) rfl
    refine W.widen (k := 0) (n := 0) (Nat.le_of_ble_eq_true rfl) (Nat.le_of_ble_eq_true rfl) ?_
    exact W.iret (v := 0) hx hb hr (fun t ht hW => ⟨⟨0, ((fun _ => 0), (fun _ => (fun _ => 0)), (fun _ => (fun _ => 0)), (fun _ => 0), (fun _ => 0)), rfl, (by show (_ : Int32) = _; first | rfl | decide +kernel | (split <;> rename_i hh <;> first | rfl | (exfalso; have z0 : (0 : Int32).toInt = 0 := (by decide +kernel); have z1 : (1 : Int32).toInt = 1 := (by decide +kernel); have z2 : (9 : Int32).toInt = 9 := (by decide +kernel); have z3 : (100 : Int32).toInt = 100 := (by decide +kernel); have z4 : (0 : Int64).toInt = 0 := (by decide +kernel); simp only [q_lt, q_le, q_eq, q_lt64, q_le64, q_eq64, q_wide, z0, z1, z2, z3, z4] at  hh; omega))), by rw [ht]; exact hP9, hD9⟩, hS.F ht⟩) hS.2.2 dX12_has_70
  by_cases h_4 : x0 = 3
  ·
    subst h_4
    refine lv_tableIn (pc := 1) (off := 70) (tgt := 71) hx hb dX12_has_1 (by decide +kernel) (by decide +kernel) (by decide +kernel) (by decide) ?_
    refine lv_aload_n (pc := 71) hx hb dX12_has_71 rfl (lv_at hl 0 rfl) ?_
    refine va_get (pc := 72) (ci := 12) (v := .int 0) (C := RX12) (T := TX12) (N := 73) hx hb hts iX12 hown hK hP 0 rfl rfl 27 (by decide) (hts _ tw_1428) (fun _ h9 => h9) rfl dX12_has_72 ?_
    have hP9 := hP.sub (ws' := []) [] rfl
    have hD9 := hD.sub (ws' := []) [] (by decide) rfl
    refine W.widen (k := 0) (n := 0) (Nat.le_of_ble_eq_true rfl) (Nat.le_of_ble_eq_true rfl) ?_
    exact W.iret (v := 0) hx hb hr (fun t ht hW => ⟨⟨0, ((fun _ => 0), (fun _ => (fun _ => 0)), (fun _ => (fun _ => 0)), (fun _ => 0), (fun _ => 0)), rfl, (by show (_ : Int32) = _; first | rfl | decide +kernel | (split <;> rename_i hh <;> first | rfl | (exfalso; have z0 : (0 : Int32).toInt = 0 := (by decide +kernel); have z1 : (1 : Int32).toInt = 1 := (by decide +kernel); have z2 : (9 : Int32).toInt = 9 := (by decide +kernel); have z3 : (100 : Int32).toInt = 100 := (by decide +kernel); have z4 : (0 : Int64).toInt = 0 := (by decide +kernel); simp only [q_lt, q_le, q_eq, q_lt64, q_le64, q_eq64, q_wide, z0, z1, z2, z3, z4] at  hh; omega))), by rw [ht]; exact hP9, hD9⟩, hS.F ht⟩) hS.2.2 dX12_has_75
  by_cases h_5 : x0 = 4
  ·
    subst h_5
    refine lv_tableIn (pc := 1) (off := 75) (tgt := 76) hx hb dX12_has_1 (by decide +kernel) (by decide +kernel) (by decide +kernel) (by decide) ?_
    refine lv_aload_n (pc := 76) hx hb dX12_has_76 rfl (lv_at hl 0 rfl) ?_
    refine va_get (pc := 77) (ci := 12) (v := .int 0) (C := RX12) (T := TX12) (N := 73) hx hb hts iX12 hown hK hP 0 rfl rfl 28 (by decide) (hts _ tw_1429) (fun _ h9 => h9) rfl dX12_has_77 ?_
    have hP9 := hP.sub (ws' := []) [] rfl
    have hD9 := hD.sub (ws' := []) [] (by decide) rfl
    refine W.widen (k := 0) (n := 0) (Nat.le_of_ble_eq_true rfl) (Nat.le_of_ble_eq_true rfl) ?_
    exact W.iret (v := 0) hx hb hr (fun t ht hW => ⟨⟨0, ((fun _ => 0), (fun _ => (fun _ => 0)), (fun _ => (fun _ => 0)), (fun _ => 0), (fun _ => 0)), rfl, (by show (_ : Int32) = _; first | rfl | decide +kernel | (split <;> rename_i hh <;> first | rfl | (exfalso; have z0 : (0 : Int32).toInt = 0 := (by decide +kernel); have z1 : (1 : Int32).toInt = 1 := (by decide +kernel); have z2 : (9 : Int32).toInt = 9 := (by decide +kernel); have z3 : (100 : Int32).toInt = 100 := (by decide +kernel); have z4 : (0 : Int64).toInt = 0 := (by decide +kernel); simp only [q_lt, q_le, q_eq, q_lt64, q_le64, q_eq64, q_wide, z0, z1, z2, z3, z4] at  hh; omega))), by rw [ht]; exact hP9, hD9⟩, hS.F ht⟩) hS.2.2 dX12_has_80
  by_cases h_6 : x0 = 5
  ·
    subst h_6
    refine lv_tableIn (pc := 1) (off := 80) (tgt := 81) hx hb dX12_has_1 (by decide +kernel) (by decide +kernel) (by decide +kernel) (by decide) ?_
    refine lv_aload_n (pc := 81) hx hb dX12_has_81 rfl (lv_at hl 0 rfl) ?_
    refine va_get (pc := 82) (ci := 12) (v := .ref a22) (C := RX12) (T := TX12) (N := 73) hx hb hts iX12 hown hK hP 0 rfl rfl 39 (by decide) (hts _ tw_1440) (fun _ h9 => h9) rfl dX12_has_82 ?_
    refine lv_iconst (pc := 85) (v := 0) hx hb dX12_has_85 (by decide) ?_
    refine va_iald (pc := 86) hx hb hK hP 1 2 rfl rfl (gin rfl) dX12_has_86 ?_
    refine gI (y := 0) rfl ?_
    have hP9 := hP.sub (ws' := []) [] rfl
    have hD9 := hD.sub (ws' := []) [] (by decide) rfl
    refine W.widen (k := 0) (n := 0) (Nat.le_of_ble_eq_true rfl) (Nat.le_of_ble_eq_true rfl) ?_
    exact W.iret (v := 0) hx hb hr (fun t ht hW => ⟨⟨0, ((fun _ => 0), (fun _ => (fun _ => 0)), (fun _ => (fun _ => 0)), (fun _ => 0), (fun _ => 0)), rfl, (by show (_ : Int32) = _; first | rfl | decide +kernel | (split <;> rename_i hh <;> first | rfl | (exfalso; have z0 : (0 : Int32).toInt = 0 := (by decide +kernel); have z1 : (1 : Int32).toInt = 1 := (by decide +kernel); have z2 : (9 : Int32).toInt = 9 := (by decide +kernel); have z3 : (100 : Int32).toInt = 100 := (by decide +kernel); have z4 : (0 : Int64).toInt = 0 := (by decide +kernel); simp only [q_lt, q_le, q_eq, q_lt64, q_le64, q_eq64, q_wide, z0, z1, z2, z3, z4] at  hh; omega))), by rw [ht]; exact hP9, hD9⟩, hS.F ht⟩) hS.2.2 dX12_has_87
  by_cases h_7 : x0 = 6
  ·
    subst h_7
    refine lv_tableIn (pc := 1) (off := 87) (tgt := 88) hx hb dX12_has_1 (by decide +kernel) (by decide +kernel) (by decide +kernel) (by decide) ?_
    refine lv_aload_n (pc := 88) hx hb dX12_has_88 rfl (lv_at hl 0 rfl) ?_
    refine va_get (pc := 89) (ci := 12) (v := .int 9999) (C := RX12) (T := TX12) (N := 73) hx hb hts iX12 hown hK hP 0 rfl rfl 29 (by decide) (hts _ tw_1430) (fun _ h9 => h9) rfl dX12_has_89 ?_
    have hP9 := hP.sub (ws' := []) [] rfl
    have hD9 := hD.sub (ws' := []) [] (by decide) rfl
    refine W.widen (k := 0) (n := 0) (Nat.le_of_ble_eq_true rfl) (Nat.le_of_ble_eq_true rfl) ?_
    exact W.iret (v := 9999) hx hb hr (fun t ht hW => ⟨⟨9999, ((fun _ => 0), (fun _ => (fun _ => 0)), (fun _ => (fun _ => 0)), (fun _ => 0), (fun _ => 0)), rfl, (by show (_ : Int32) = _; first | rfl | decide +kernel | (split <;> rename_i hh <;> first | rfl | (exfalso; have z0 : (0 : Int32).toInt = 0 := (by decide +kernel); have z1 : (1 : Int32).toInt = 1 := (by decide +kernel); have z2 : (9 : Int32).toInt = 9 := (by decide +kernel); have z3 : (100 : Int32).toInt = 100 := (by decide +kernel); have z4 : (0 : Int64).toInt = 0 := (by decide +kernel); simp only [q_lt, q_le, q_eq, q_lt64, q_le64, q_eq64, q_wide, z0, z1, z2, z3, z4] at  hh; omega))), by rw [ht]; exact hP9, hD9⟩, hS.F ht⟩) hS.2.2 dX12_has_92
  by_cases h_8 : x0 = 7
  ·
    subst h_8
    refine lv_tableIn (pc := 1) (off := 92) (tgt := 93) hx hb dX12_has_1 (by decide +kernel) (by decide +kernel) (by decide +kernel) (by decide) ?_
    refine lv_aload_n (pc := 93) hx hb dX12_has_93 rfl (lv_at hl 0 rfl) ?_
    refine va_get (pc := 94) (ci := 12) (v := .int 0) (C := RX12) (T := TX12) (N := 73) hx hb hts iX12 hown hK hP 0 rfl rfl 59 (by decide) (hts _ tw_1460) (fun _ h9 => h9) rfl dX12_has_94 ?_
    have hP9 := hP.sub (ws' := []) [] rfl
    have hD9 := hD.sub (ws' := []) [] (by decide) rfl
    refine W.widen (k := 0) (n := 0) (Nat.le_of_ble_eq_true rfl) (Nat.le_of_ble_eq_true rfl) ?_
    exact W.iret (v := 0) hx hb hr (fun t ht hW => ⟨⟨0, ((fun _ => 0), (fun _ => (fun _ => 0)), (fun _ => (fun _ => 0)), (fun _ => 0), (fun _ => 0)), rfl, (by show (_ : Int32) = _; first | rfl | decide +kernel | (split <;> rename_i hh <;> first | rfl | (exfalso; have z0 : (0 : Int32).toInt = 0 := (by decide +kernel); have z1 : (1 : Int32).toInt = 1 := (by decide +kernel); have z2 : (9 : Int32).toInt = 9 := (by decide +kernel); have z3 : (100 : Int32).toInt = 100 := (by decide +kernel); have z4 : (0 : Int64).toInt = 0 := (by decide +kernel); simp only [q_lt, q_le, q_eq, q_lt64, q_le64, q_eq64, q_wide, z0, z1, z2, z3, z4] at  hh; omega))), by rw [ht]; exact hP9, hD9⟩, hS.F ht⟩) hS.2.2 dX12_has_97
  by_cases h_9 : x0 = 8
  ·
    subst h_9
    refine lv_tableIn (pc := 1) (off := 97) (tgt := 98) hx hb dX12_has_1 (by decide +kernel) (by decide +kernel) (by decide +kernel) (by decide) ?_
    refine lv_aload_n (pc := 98) hx hb dX12_has_98 rfl (lv_at hl 0 rfl) ?_
    refine va_get (pc := 99) (ci := 12) (v := .int 0) (C := RX12) (T := TX12) (N := 73) hx hb hts iX12 hown hK hP 0 rfl rfl 60 (by decide) (hts _ tw_1461) (fun _ h9 => h9) rfl dX12_has_99 ?_
    have hP9 := hP.sub (ws' := []) [] rfl
    have hD9 := hD.sub (ws' := []) [] (by decide) rfl
    refine W.widen (k := 0) (n := 0) (Nat.le_of_ble_eq_true rfl) (Nat.le_of_ble_eq_true rfl) ?_
    exact W.iret (v := 0) hx hb hr (fun t ht hW => ⟨⟨0, ((fun _ => 0), (fun _ => (fun _ => 0)), (fun _ => (fun _ => 0)), (fun _ => 0), (fun _ => 0)), rfl, (by show (_ : Int32) = _; first | rfl | decide +kernel | (split <;> rename_i hh <;> first | rfl | (exfalso; have z0 : (0 : Int32).toInt = 0 := (by decide +kernel); have z1 : (1 : Int32).toInt = 1 := (by decide +kernel); have z2 : (9 : Int32).toInt = 9 := (by decide +kernel); have z3 : (100 : Int32).toInt = 100 := (by decide +kernel); have z4 : (0 : Int64).toInt = 0 := (by decide +kernel); simp only [q_lt, q_le, q_eq, q_lt64, q_le64, q_eq64, q_wide, z0, z1, z2, z3, z4] at  hh; omega))), by rw [ht]; exact hP9, hD9⟩, hS.F ht⟩) hS.2.2 dX12_has_102
  by_cases h_10 : x0 = 9
  ·
    subst h_10
    refine lv_tableIn (pc := 1) (off := 102) (tgt := 103) hx hb dX12_has_1 (by decide +kernel) (by decide +kernel) (by decide +kernel) (by decide) ?_
    refine lv_aload_n (pc := 103) hx hb dX12_has_103 rfl (lv_at hl 0 rfl) ?_
    refine va_get (pc := 104) (ci := 12) (v := .int 0) (C := RX12) (T := TX12) (N := 73) hx hb hts iX12 hown hK hP 0 rfl rfl 61 (by decide) (hts _ tw_1462) (fun _ h9 => h9) rfl dX12_has_104 ?_
    have hP9 := hP.sub (ws' := []) [] rfl
    have hD9 := hD.sub (ws' := []) [] (by decide) rfl
    refine W.widen (k := 0) (n := 0) (Nat.le_of_ble_eq_true rfl) (Nat.le_of_ble_eq_true rfl) ?_
    exact W.iret (v := 0) hx hb hr (fun t ht hW => ⟨⟨0, ((fun _ => 0), (fun _ => (fun _ => 0)), (fun _ => (fun _ => 0)), (fun _ => 0), (fun _ => 0)), rfl, (by show (_ : Int32) = _; first | rfl | decide +kernel | (split <;> rename_i hh <;> first | rfl | (exfalso; have z0 : (0 : Int32).toInt = 0 := (by decide +kernel); have z1 : (1 : Int32).toInt = 1 := (by decide +kernel); have z2 : (9 : Int32).toInt = 9 := (by decide +kernel); have z3 : (100 : Int32).toInt = 100 := (by decide +kernel); have z4 : (0 : Int64).toInt = 0 := (by decide +kernel); simp only [q_lt, q_le, q_eq, q_lt64, q_le64, q_eq64, q_wide, z0, z1, z2, z3, z4] at  hh; omega))), by rw [ht]; exact hP9, hD9⟩, hS.F ht⟩) hS.2.2 dX12_has_107
  have ho_11 : x0.toInt < 0 ∨ 9 < x0.toInt := by (have t0 := lv_neT h_1 (show (0 : Int32).toInt = 0 by decide +kernel); have t1 := lv_neT h_2 (show (1 : Int32).toInt = 1 by decide +kernel); have t2 := lv_neT h_3 (show (2 : Int32).toInt = 2 by decide +kernel); have t3 := lv_neT h_4 (show (3 : Int32).toInt = 3 by decide +kernel); have t4 := lv_neT h_5 (show (4 : Int32).toInt = 4 by decide +kernel); have t5 := lv_neT h_6 (show (5 : Int32).toInt = 5 by decide +kernel); have t6 := lv_neT h_7 (show (6 : Int32).toInt = 6 by decide +kernel); have t7 := lv_neT h_8 (show (7 : Int32).toInt = 7 by decide +kernel); have t8 := lv_neT h_9 (show (8 : Int32).toInt = 8 by decide +kernel); have t9 := lv_neT h_10 (show (9 : Int32).toInt = 9 by decide +kernel); omega)
  refine lv_tableOut (pc := 1) (tgt := 108) hx hb dX12_has_1 ho_11 (by decide) ?_
  refine lv_iconst (pc := 108) (v := (-1)) hx hb dX12_has_108 (by decide) ?_
  have hP9 := hP.sub (ws' := []) [] rfl
  have hD9 := hD.sub (ws' := []) [] (by decide) rfl
  refine W.widen (k := 0) (n := 0) (Nat.le_of_ble_eq_true rfl) (Nat.le_of_ble_eq_true rfl) ?_
  exact W.iret (v := (-1)) hx hb hr (fun t ht hW => ⟨⟨(-1), ((fun _ => 0), (fun _ => (fun _ => 0)), (fun _ => (fun _ => 0)), (fun _ => 0), (fun _ => 0)), rfl, (by show (_ : Int32) = _; first | rfl | decide +kernel | exact q_has ho_11 (by assumption) | (split <;> rename_i hh <;> first | rfl | (exfalso; have z0 : (0 : Int32).toInt = 0 := (by decide +kernel); have z1 : (1 : Int32).toInt = 1 := (by decide +kernel); have z2 : (9 : Int32).toInt = 9 := (by decide +kernel); have z3 : (100 : Int32).toInt = 100 := (by decide +kernel); have z4 : (0 : Int64).toInt = 0 := (by decide +kernel); simp only [q_lt, q_le, q_eq, q_lt64, q_le64, q_eq64, q_wide, z0, z1, z2, z3, z4] at  hh; omega))), by rw [ht]; exact hP9, hD9⟩, hS.F ht⟩) hS.2.2 dX12_has_109
set_option maxHeartbeats 4000000 in
set_option maxRecDepth 100000 in
theorem cc_54_yX1_isReceiver (l : Launch) (D : va_G) (cB cC cI cJ : ClassId) (sz : Nat) (a0 a1 a2 a3 : Nat) (x0 : Int32) : Met l yX1_isReceiver (.code yX1_isReceiver cX1_isReceiver 2 (some .boolean) :: lw_gd) ({ frames := 0, cells := 0, slots := 0, locals := 0 }) (gPre D [(cB, .byte), (cC, .char), (cI, .int), (cJ, .long)] [.ref a0, .int x0] [(a0, .inr (1, [.ref a1, .ref a2, .ref a3, .int 0, .int 0, .int 0, .int 0, .int 0, .int 9999, .int 0]))] sz) (va_Qi (fun r _ => r = 0) (gB D (va_A [(a0, .inr (1, [.ref a1, .ref a2, .ref a3, .int 0, .int 0, .int 0, .int 0, .int 0, .int 9999, .int 0]))] sz) (fun u : gEx => [(a0, .inr (1, [.ref a1, .ref a2, .ref a3, .int 0, .int 0, .int 0, .int 0, .int 0, .int 9999, .int 0]))])) (va_A [(a0, .inr (1, [.ref a1, .ref a2, .ref a3, .int 0, .int 0, .int 0, .int 0, .int 0, .int 9999, .int 0]))] sz)) 0 0 (va_A [(a0, .inr (1, [.ref a1, .ref a2, .ref a3, .int 0, .int 0, .int 0, .int 0, .int 0, .int 9999, .int 0]))] sz) := by
  refine Met.ofW (cc := cX1_isReceiver) (maxL := 2) (ret := (some .boolean)) (by decide) rfl ?_
  intro p e s m args below meth c s₁ B hml hv
  obtain ⟨rfl, hsz, hP, hK, hD0, hN⟩ := hv
  have hx := B.exec
  have hb := B.bytes
  have hr := B.returns
  have hts : ∀ w ∈ lw_gd, w.before _ s = true := fun w h => atoms_spec (ws := .code yX1_isReceiver cX1_isReceiver 2 (some .boolean) :: lw_gd) B.pre w (List.mem_cons_of_mem _ h)
  have hown : s.vm.findClass RX1 = some m.cls := findClass_of_methodNamed B.named
  have hlocks := B.notSynchronized
  subst hsz
  have hD := hD0.self (sz := s.heap.size)
  generalize hAe : va_A [(a0, .inr (1, [.ref a1, .ref a2, .ref a3, .int 0, .int 0, .int 0, .int 0, .int 0, .int 9999, .int 0]))] s.heap.size = A at hD ⊢
  have hA : ∀ q : Nat, s.heap.size ≤ q → A q := fun q h => by rw [← hAe]; exact Or.inr h
  have hS : va_S A s.heap s.heap [] := va_S.rf
  have hP : va_P D gcl [(a0, .inr (1, [.ref a1, .ref a2, .ref a3, .int 0, .int 0, .int 0, .int 0, .int 0, .int 9999, .int 0]))] s.heap := hP
  have hl := lv_entry ([.ref a0, .int x0]) (n := 2) (Nat.le_of_ble_eq_true rfl)
  rw [lg_entry_eq]
  generalize (lg_sl ([.ref a0, .int x0]) ++ List.replicate (2 - (lg_sl ([.ref a0, .int x0])).length) Slot.unset).toArray = ls at hl ⊢
  have hl : lv_has ls 2 [(0, .ref a0), (1, .int x0)] := hl
  refine lv_iload_n (pc := 0) hx hb dX1_isReceiver_0 rfl (lv_at hl 1 rfl) ?_
  refine lv_if_lt (pc := 1) (tgt := 16) hx hb dX1_isReceiver_1 (by decide) (fun c_1 => ?_) (fun c_1 => ?_)
  ·
    refine lv_iconst (pc := 16) (v := 0) hx hb dX1_isReceiver_16 (by decide) ?_
    have hP9 := hP.sub (ws' := [(a0, .inr (1, [.ref a1, .ref a2, .ref a3, .int 0, .int 0, .int 0, .int 0, .int 0, .int 9999, .int 0]))]) [0] rfl
    have hD9 := hD.sub (ws' := [(a0, .inr (1, [.ref a1, .ref a2, .ref a3, .int 0, .int 0, .int 0, .int 0, .int 0, .int 9999, .int 0]))]) [0] (by decide) rfl
    refine W.widen (k := 0) (n := 0) (Nat.le_of_ble_eq_true rfl) (Nat.le_of_ble_eq_true rfl) ?_
    exact W.zret (v := 0) hx hb hr (by decide +kernel) (fun t ht hW => ⟨⟨0, ((fun _ => 0), (fun _ => (fun _ => 0)), (fun _ => (fun _ => 0)), (fun _ => 0), (fun _ => 0)), rfl, rfl, by rw [ht]; exact hP9, hD9⟩, hS.F ht⟩) hS.2.2 dX1_isReceiver_17
  ·
    refine lv_iload_n (pc := 4) hx hb dX1_isReceiver_4 rfl (lv_at hl 1 rfl) ?_
    refine lv_aload_n (pc := 5) hx hb dX1_isReceiver_5 rfl (lv_at hl 0 rfl) ?_
    refine va_get (pc := 6) (ci := 1) (v := .int 0) (C := RX1) (T := TX1) (N := 10) hx hb hts iX1 hown hK hP 0 rfl rfl 5 (by decide) (hts _ tw_125) (fun _ h9 => h9) rfl dX1_isReceiver_6 ?_
    refine lv_icmp_ge (pc := 9) (tgt := 16) hx hb dX1_isReceiver_9 (by decide) (fun c_2 => ?_) (fun c_2 => ?_)
    ·
      refine lv_iconst (pc := 16) (v := 0) hx hb dX1_isReceiver_16 (by decide) ?_
      have hP9 := hP.sub (ws' := [(a0, .inr (1, [.ref a1, .ref a2, .ref a3, .int 0, .int 0, .int 0, .int 0, .int 0, .int 9999, .int 0]))]) [0] rfl
      have hD9 := hD.sub (ws' := [(a0, .inr (1, [.ref a1, .ref a2, .ref a3, .int 0, .int 0, .int 0, .int 0, .int 0, .int 9999, .int 0]))]) [0] (by decide) rfl
      refine W.widen (k := 0) (n := 0) (Nat.le_of_ble_eq_true rfl) (Nat.le_of_ble_eq_true rfl) ?_
      exact W.zret (v := 0) hx hb hr (by decide +kernel) (fun t ht hW => ⟨⟨0, ((fun _ => 0), (fun _ => (fun _ => 0)), (fun _ => (fun _ => 0)), (fun _ => 0), (fun _ => 0)), rfl, rfl, by rw [ht]; exact hP9, hD9⟩, hS.F ht⟩) hS.2.2 dX1_isReceiver_17
    · exact False.elim (by have z0 : (0 : Int32).toInt = 0 := (by decide +kernel); (try simp only [lg_cmp_ge, lg_cmp_le, lg_cmp_gt, lg_cmp_lt, lg_cmp_eq] at c_1 c_2); simp only [q_lt, q_le, q_eq, q_lt64, q_le64, q_eq64, q_wide, z0] at c_1 c_2; omega)
set_option maxHeartbeats 4000000 in
set_option maxRecDepth 100000 in
theorem cc_55_yX11_table (l : Launch) (D : va_G) (cB cC cI cJ : ClassId) (sz : Nat) (a0 a1 a2 a3 a4 a5 a6 a7 a8 a9 a10 a11 a12 a13 a14 a15 a16 : Nat) (x0 x1 : Int32) : Met l yX11_table (.code yX11_table cX11_table 4 (some .int) :: lw_gd) ({ frames := 1, cells := 0, slots := 0, locals := 21 }) (gPre D [(cB, .byte), (cC, .char), (cI, .int), (cJ, .long)] [.ref a0, .int x0, .int x1, .int 0] [(a0, .inr (11, [.ref a1, .ref a2, .ref a3, .ref a4, .ref a5, .ref a6, .ref a7, .ref a8, .ref a9, .ref a10, .int 0, .ref a11, .ref a12, .ref a13])), (a11, .inr (1, [.ref a14, .ref a15, .ref a16, .int 0, .int 0, .int 0, .int 0, .int 0, .int 9999, .int 0]))] sz) (va_Qi (fun r _ => r = (-1000000000)) (gB D (va_A [(a0, .inr (11, [.ref a1, .ref a2, .ref a3, .ref a4, .ref a5, .ref a6, .ref a7, .ref a8, .ref a9, .ref a10, .int 0, .ref a11, .ref a12, .ref a13])), (a11, .inr (1, [.ref a14, .ref a15, .ref a16, .int 0, .int 0, .int 0, .int 0, .int 0, .int 9999, .int 0]))] sz) (fun u : gEx => [])) (va_A [(a0, .inr (11, [.ref a1, .ref a2, .ref a3, .ref a4, .ref a5, .ref a6, .ref a7, .ref a8, .ref a9, .ref a10, .int 0, .ref a11, .ref a12, .ref a13])), (a11, .inr (1, [.ref a14, .ref a15, .ref a16, .int 0, .int 0, .int 0, .int 0, .int 0, .int 9999, .int 0]))] sz)) 0 0 (va_A [(a0, .inr (11, [.ref a1, .ref a2, .ref a3, .ref a4, .ref a5, .ref a6, .ref a7, .ref a8, .ref a9, .ref a10, .int 0, .ref a11, .ref a12, .ref a13])), (a11, .inr (1, [.ref a14, .ref a15, .ref a16, .int 0, .int 0, .int 0, .int 0, .int 0, .int 9999, .int 0]))] sz) := by
  refine Met.ofW (cc := cX11_table) (maxL := 4) (ret := (some .int)) (by decide) rfl ?_
  intro p e s m args below meth c s₁ B hml hv
  obtain ⟨rfl, hsz, hP, hK, hD0, hN⟩ := hv
  have hx := B.exec
  have hb := B.bytes
  have hr := B.returns
  have hts : ∀ w ∈ lw_gd, w.before _ s = true := fun w h => atoms_spec (ws := .code yX11_table cX11_table 4 (some .int) :: lw_gd) B.pre w (List.mem_cons_of_mem _ h)
  have hown : s.vm.findClass RX11 = some m.cls := findClass_of_methodNamed B.named
  have hlocks := B.notSynchronized
  subst hsz
  have hD := hD0.self (sz := s.heap.size)
  generalize hAe : va_A [(a0, .inr (11, [.ref a1, .ref a2, .ref a3, .ref a4, .ref a5, .ref a6, .ref a7, .ref a8, .ref a9, .ref a10, .int 0, .ref a11, .ref a12, .ref a13])), (a11, .inr (1, [.ref a14, .ref a15, .ref a16, .int 0, .int 0, .int 0, .int 0, .int 0, .int 9999, .int 0]))] s.heap.size = A at hD ⊢
  have hA : ∀ q : Nat, s.heap.size ≤ q → A q := fun q h => by rw [← hAe]; exact Or.inr h
  have hS : va_S A s.heap s.heap [] := va_S.rf
  have hP : va_P D gcl [(a0, .inr (11, [.ref a1, .ref a2, .ref a3, .ref a4, .ref a5, .ref a6, .ref a7, .ref a8, .ref a9, .ref a10, .int 0, .ref a11, .ref a12, .ref a13])), (a11, .inr (1, [.ref a14, .ref a15, .ref a16, .int 0, .int 0, .int 0, .int 0, .int 0, .int 9999, .int 0]))] s.heap := hP
  have hl := lv_entry ([.ref a0, .int x0, .int x1, .int 0]) (n := 4) (Nat.le_of_ble_eq_true rfl)
  rw [lg_entry_eq]
  generalize (lg_sl ([.ref a0, .int x0, .int x1, .int 0]) ++ List.replicate (4 - (lg_sl ([.ref a0, .int x0, .int x1, .int 0])).length) Slot.unset).toArray = ls at hl ⊢
  have hl : lv_has ls 4 [(0, .ref a0), (1, .int x0), (2, .int x1), (3, .int 0)] := hl
  refine lv_aload_n (pc := 0) hx hb dX11_table_0 rfl (lv_at hl 0 rfl) ?_
  refine va_get (pc := 1) (ci := 11) (v := .ref a11) (C := RX11) (T := TX11) (N := 14) hx hb hts iX11 hown hK hP 0 rfl rfl 11 (by decide) (hts _ tw_431) (fun _ h9 => h9) rfl dX11_table_1 ?_
  refine lv_iload_n (pc := 4) hx hb dX11_table_4 rfl (lv_at hl 1 rfl) ?_
  refine gc_i (pc := 5) (wc := [(a11, .inr (1, [.ref a14, .ref a15, .ref a16, .int 0, .int 0, .int 0, .int 0, .int 0, .int 9999, .int 0]))]) (wr := [(a0, .inr (11, [.ref a1, .ref a2, .ref a3, .ref a4, .ref a5, .ref a6, .ref a7, .ref a8, .ref a9, .ref a10, .int 0, .ref a11, .ref a12, .ref a13]))]) hP hD hS hA [1] [0] rfl rfl (by decide) (by decide) (by decide) (fun hPc hDc => va_runV (As := [.int x0]) (rest := []) ⟨hx, hb, hml, hown, hts⟩ (cc_54_yX1_isReceiver l D cB cC cI cJ _ a11 a14 a15 a16 x0) ⟨gcwB hts tw_778 tw_4 tw_775 hd_yX1_isReceiver ⟨Nat.le_of_ble_eq_true rfl, Nat.le_of_ble_eq_true rfl⟩, hts _ tw_776, hts _ tw_777⟩ ⟨gblind, va_recv hK hPc (ci := 1) (q0 := 0) rfl rfl, (gpreS hPc hK hDc hN).2⟩ rfl rfl hl.1 rfl (lv_room (Nat.le_of_ble_eq_true rfl)) dX11_table_5 ⟨Nat.le_of_ble_eq_true rfl, Nat.le_of_ble_eq_true rfl⟩) (fun r_2 u_1 H locs hw_3 hP hD hS => ?_)
  have hP : va_P D gcl [(a0, .inr (11, [.ref a1, .ref a2, .ref a3, .ref a4, .ref a5, .ref a6, .ref a7, .ref a8, .ref a9, .ref a10, .int 0, .ref a11, .ref a12, .ref a13])), (a11, .inr (1, [.ref a14, .ref a15, .ref a16, .int 0, .int 0, .int 0, .int 0, .int 0, .int 9999, .int 0]))] H := hP
  have hD : va_D A [(a0, .inr (11, [.ref a1, .ref a2, .ref a3, .ref a4, .ref a5, .ref a6, .ref a7, .ref a8, .ref a9, .ref a10, .int 0, .ref a11, .ref a12, .ref a13])), (a11, .inr (1, [.ref a14, .ref a15, .ref a16, .int 0, .int 0, .int 0, .int 0, .int 0, .int 9999, .int 0]))] := hD
  subst hw_3
  refine lv_if_eq (pc := 8) (tgt := 22) hx hb dX11_table_8 (by decide) (fun _ => ?_) (fun c => absurd (by decide +kernel) c)
  refine lv_ldc (pc := 22) hx hb hown (hts _ tw_783) dX11_table_22 ?_
  have hP9 := hP.sub (ws' := []) [] rfl
  have hD9 := hD.sub (ws' := []) [] (by decide) rfl
  refine W.widen (k := 0) (n := 0) (Nat.le_of_ble_eq_true rfl) (Nat.le_of_ble_eq_true rfl) ?_
  exact W.iret (v := (-1000000000)) hx hb hr (fun t ht hW => ⟨⟨(-1000000000), ((fun _ => 0), (fun _ => (fun _ => 0)), (fun _ => (fun _ => 0)), (fun _ => 0), (fun _ => 0)), rfl, rfl, by rw [ht]; exact hP9, hD9⟩, hS.F ht⟩) hS.2.2 dX11_table_24
set_option maxHeartbeats 4000000 in
set_option maxRecDepth 100000 in
theorem cc_56_yX12_isIn (l : Launch) (D : va_G) (cB cC cI cJ : ClassId) (sz : Nat) (y0 : Int64) : Met l yX12_isIn (.code yX12_isIn cX12_isIn 6 (some .boolean) :: lw_gd) ({ frames := 0, cells := 0, slots := 0, locals := 0 }) (gPre D [(cB, .byte), (cC, .char), (cI, .int), (cJ, .long)] [.long y0, .long 0, .long (-1)] [] sz) (va_Qi (fun r _ => r = 0) (gB D (va_A [] sz) (fun u : gEx => [])) (va_A [] sz)) 0 0 (va_A [] sz) := by
  refine Met.ofW (cc := cX12_isIn) (maxL := 6) (ret := (some .boolean)) (by decide) rfl ?_
  intro p e s m args below meth c s₁ B hml hv
  obtain ⟨rfl, hsz, hP, hK, hD0, hN⟩ := hv
  have hx := B.exec
  have hb := B.bytes
  have hr := B.returns
  have hts : ∀ w ∈ lw_gd, w.before _ s = true := fun w h => atoms_spec (ws := .code yX12_isIn cX12_isIn 6 (some .boolean) :: lw_gd) B.pre w (List.mem_cons_of_mem _ h)
  have hown : s.vm.findClass RX12 = some m.cls := findClass_of_methodNamed B.named
  have hlocks := B.notSynchronized
  subst hsz
  have hD := hD0.self (sz := s.heap.size)
  generalize hAe : va_A [] s.heap.size = A at hD ⊢
  have hA : ∀ q : Nat, s.heap.size ≤ q → A q := fun q h => by rw [← hAe]; exact Or.inr h
  have hS : va_S A s.heap s.heap [] := va_S.rf
  have hP : va_P D gcl [] s.heap := hP
  have hl := lv_entry ([.long y0, .long 0, .long (-1)]) (n := 6) (Nat.le_of_ble_eq_true rfl)
  rw [lg_entry_eq]
  generalize (lg_sl ([.long y0, .long 0, .long (-1)]) ++ List.replicate (6 - (lg_sl ([.long y0, .long 0, .long (-1)])).length) Slot.unset).toArray = ls at hl ⊢
  have hl : lv_has ls 6 [(0, .long y0), (2, .long 0), (4, .long (-1))] := hl
  refine lv_lload_n (pc := 0) hx hb dX12_isIn_0 rfl (lv_at hl 0 rfl) ?_
  refine lv_lload_n (pc := 1) hx hb dX12_isIn_1 rfl (lv_at hl 1 rfl) ?_
  refine W.lcmp hx hb dX12_isIn_2 ?_
  refine lv_if_lt (pc := 3) (tgt := 17) hx hb dX12_isIn_3 (by decide) (fun c_1 => ?_) (fun c_1 => ?_)
  ·
    refine lv_iconst (pc := 17) (v := 0) hx hb dX12_isIn_17 (by decide) ?_
    have hP9 := hP.sub (ws' := []) [] rfl
    have hD9 := hD.sub (ws' := []) [] (by decide) rfl
    refine W.widen (k := 0) (n := 0) (Nat.le_of_ble_eq_true rfl) (Nat.le_of_ble_eq_true rfl) ?_
    exact W.zret (v := 0) hx hb hr (by decide +kernel) (fun t ht hW => ⟨⟨0, ((fun _ => 0), (fun _ => (fun _ => 0)), (fun _ => (fun _ => 0)), (fun _ => 0), (fun _ => 0)), rfl, rfl, by rw [ht]; exact hP9, hD9⟩, hS.F ht⟩) hS.2.2 dX12_isIn_18
  ·
    refine lv_lload_n (pc := 6) hx hb dX12_isIn_6 rfl (lv_at hl 0 rfl) ?_
    refine lv_lload (pc := 7) hx hb dX12_isIn_7 (lv_at hl 2 rfl) ?_
    refine W.lcmp hx hb dX12_isIn_9 ?_
    refine lv_if_gt (pc := 10) (tgt := 17) hx hb dX12_isIn_10 (by decide) (fun c_2 => ?_) (fun c_2 => ?_)
    ·
      refine lv_iconst (pc := 17) (v := 0) hx hb dX12_isIn_17 (by decide) ?_
      have hP9 := hP.sub (ws' := []) [] rfl
      have hD9 := hD.sub (ws' := []) [] (by decide) rfl
      refine W.widen (k := 0) (n := 0) (Nat.le_of_ble_eq_true rfl) (Nat.le_of_ble_eq_true rfl) ?_
      exact W.zret (v := 0) hx hb hr (by decide +kernel) (fun t ht hW => ⟨⟨0, ((fun _ => 0), (fun _ => (fun _ => 0)), (fun _ => (fun _ => 0)), (fun _ => 0), (fun _ => 0)), rfl, rfl, by rw [ht]; exact hP9, hD9⟩, hS.F ht⟩) hS.2.2 dX12_isIn_18
    · exact False.elim (by have z0 : (0 : Int64).toInt = 0 := (by decide +kernel); have z1 : ((-1) : Int64).toInt = (-1) := (by decide +kernel); have z2 : (0 : Int32).toInt = 0 := (by decide +kernel); (try simp only [lg_cmp_ge, lg_cmp_le, lg_cmp_gt, lg_cmp_lt, lg_cmp_eq] at c_1 c_2); simp only [q_lt, q_le, q_eq, q_lt64, q_le64, q_eq64, q_wide, z0, z1, z2] at c_1 c_2; omega)
set_option maxHeartbeats 4000000 in
set_option maxRecDepth 100000 in
theorem cc_57_yX12_isReceiver (l : Launch) (D : va_G) (cB cC cI cJ : ClassId) (sz : Nat) (a0 a1 a2 a3 a4 a5 a6 a7 a8 a9 a10 a11 a12 a13 a14 a15 a16 a17 a18 a19 a20 a21 a22 a23 a24 a25 a26 a27 a28 a29 a30 a31 a32 a33 a34 a35 a36 a37 a38 a39 a40 a41 a42 a43 : Nat) (x0 : Int32) : Met l yX12_isReceiver (.code yX12_isReceiver cX12_isReceiver 2 (some .boolean) :: lw_gd) ({ frames := 1, cells := 0, slots := 0, locals := 25 }) (gPre D [(cB, .byte), (cC, .char), (cI, .int), (cJ, .long)] [.ref a0, .int x0] [(a0, .inr (12, [.ref a1, .int 0, .int 0, .int 0, .int 0, .int 0, .int 0, .int 0, .int (-1), .ref a2, .ref a3, .ref a4, .ref a5, .ref a6, .ref a7, .ref a8, .ref a9, .ref a10, .ref a11, .ref a12, .ref a13, .ref a14, .ref a15, .ref a16, .int 0, .int 0, .int 0, .int 0, .int 0, .int 9999, .ref a17, .ref a18, .ref a19, .int 0, .ref a20, .int 0, .ref a21, .int 0, .int 0, .ref a22, .ref a23, .ref a24, .ref a25, .int 0, .ref a26, .int 0, .ref a27, .ref a28, .ref a29, .long 0, .ref a30, .ref a31, .ref a32, .ref a33, .ref a34, .ref a35, .ref a36, .ref a37, .ref a38, .int 0, .int 0, .int 0, .long 0, .ref a39, .int 0, .ref a40, .ref a41, .ref a42, .ref a43, .int 0, .int 0, .int 0, .int 0]))] sz) (va_Qi (fun r _ => r = 0) (gB D (va_A [(a0, .inr (12, [.ref a1, .int 0, .int 0, .int 0, .int 0, .int 0, .int 0, .int 0, .int (-1), .ref a2, .ref a3, .ref a4, .ref a5, .ref a6, .ref a7, .ref a8, .ref a9, .ref a10, .ref a11, .ref a12, .ref a13, .ref a14, .ref a15, .ref a16, .int 0, .int 0, .int 0, .int 0, .int 0, .int 9999, .ref a17, .ref a18, .ref a19, .int 0, .ref a20, .int 0, .ref a21, .int 0, .int 0, .ref a22, .ref a23, .ref a24, .ref a25, .int 0, .ref a26, .int 0, .ref a27, .ref a28, .ref a29, .long 0, .ref a30, .ref a31, .ref a32, .ref a33, .ref a34, .ref a35, .ref a36, .ref a37, .ref a38, .int 0, .int 0, .int 0, .long 0, .ref a39, .int 0, .ref a40, .ref a41, .ref a42, .ref a43, .int 0, .int 0, .int 0, .int 0]))] sz) (fun u : gEx => [(a0, .inr (12, [.ref a1, .int 0, .int 0, .int 0, .int 0, .int 0, .int 0, .int 0, .int (-1), .ref a2, .ref a3, .ref a4, .ref a5, .ref a6, .ref a7, .ref a8, .ref a9, .ref a10, .ref a11, .ref a12, .ref a13, .ref a14, .ref a15, .ref a16, .int 0, .int 0, .int 0, .int 0, .int 0, .int 9999, .ref a17, .ref a18, .ref a19, .int 0, .ref a20, .int 0, .ref a21, .int 0, .int 0, .ref a22, .ref a23, .ref a24, .ref a25, .int 0, .ref a26, .int 0, .ref a27, .ref a28, .ref a29, .long 0, .ref a30, .ref a31, .ref a32, .ref a33, .ref a34, .ref a35, .ref a36, .ref a37, .ref a38, .int 0, .int 0, .int 0, .long 0, .ref a39, .int 0, .ref a40, .ref a41, .ref a42, .ref a43, .int 0, .int 0, .int 0, .int 0]))])) (va_A [(a0, .inr (12, [.ref a1, .int 0, .int 0, .int 0, .int 0, .int 0, .int 0, .int 0, .int (-1), .ref a2, .ref a3, .ref a4, .ref a5, .ref a6, .ref a7, .ref a8, .ref a9, .ref a10, .ref a11, .ref a12, .ref a13, .ref a14, .ref a15, .ref a16, .int 0, .int 0, .int 0, .int 0, .int 0, .int 9999, .ref a17, .ref a18, .ref a19, .int 0, .ref a20, .int 0, .ref a21, .int 0, .int 0, .ref a22, .ref a23, .ref a24, .ref a25, .int 0, .ref a26, .int 0, .ref a27, .ref a28, .ref a29, .long 0, .ref a30, .ref a31, .ref a32, .ref a33, .ref a34, .ref a35, .ref a36, .ref a37, .ref a38, .int 0, .int 0, .int 0, .long 0, .ref a39, .int 0, .ref a40, .ref a41, .ref a42, .ref a43, .int 0, .int 0, .int 0, .int 0]))] sz)) 0 0 (va_A [(a0, .inr (12, [.ref a1, .int 0, .int 0, .int 0, .int 0, .int 0, .int 0, .int 0, .int (-1), .ref a2, .ref a3, .ref a4, .ref a5, .ref a6, .ref a7, .ref a8, .ref a9, .ref a10, .ref a11, .ref a12, .ref a13, .ref a14, .ref a15, .ref a16, .int 0, .int 0, .int 0, .int 0, .int 0, .int 9999, .ref a17, .ref a18, .ref a19, .int 0, .ref a20, .int 0, .ref a21, .int 0, .int 0, .ref a22, .ref a23, .ref a24, .ref a25, .int 0, .ref a26, .int 0, .ref a27, .ref a28, .ref a29, .long 0, .ref a30, .ref a31, .ref a32, .ref a33, .ref a34, .ref a35, .ref a36, .ref a37, .ref a38, .int 0, .int 0, .int 0, .long 0, .ref a39, .int 0, .ref a40, .ref a41, .ref a42, .ref a43, .int 0, .int 0, .int 0, .int 0]))] sz) := by
  refine Met.ofW (cc := cX12_isReceiver) (maxL := 2) (ret := (some .boolean)) (by decide) rfl ?_
  intro p e s m args below meth c s₁ B hml hv
  obtain ⟨rfl, hsz, hP, hK, hD0, hN⟩ := hv
  have hx := B.exec
  have hb := B.bytes
  have hr := B.returns
  have hts : ∀ w ∈ lw_gd, w.before _ s = true := fun w h => atoms_spec (ws := .code yX12_isReceiver cX12_isReceiver 2 (some .boolean) :: lw_gd) B.pre w (List.mem_cons_of_mem _ h)
  have hown : s.vm.findClass RX12 = some m.cls := findClass_of_methodNamed B.named
  have hlocks := B.notSynchronized
  subst hsz
  have hD := hD0.self (sz := s.heap.size)
  generalize hAe : va_A [(a0, .inr (12, [.ref a1, .int 0, .int 0, .int 0, .int 0, .int 0, .int 0, .int 0, .int (-1), .ref a2, .ref a3, .ref a4, .ref a5, .ref a6, .ref a7, .ref a8, .ref a9, .ref a10, .ref a11, .ref a12, .ref a13, .ref a14, .ref a15, .ref a16, .int 0, .int 0, .int 0, .int 0, .int 0, .int 9999, .ref a17, .ref a18, .ref a19, .int 0, .ref a20, .int 0, .ref a21, .int 0, .int 0, .ref a22, .ref a23, .ref a24, .ref a25, .int 0, .ref a26, .int 0, .ref a27, .ref a28, .ref a29, .long 0, .ref a30, .ref a31, .ref a32, .ref a33, .ref a34, .ref a35, .ref a36, .ref a37, .ref a38, .int 0, .int 0, .int 0, .long 0, .ref a39, .int 0, .ref a40, .ref a41, .ref a42, .ref a43, .int 0, .int 0, .int 0, .int 0]))] s.heap.size = A at hD ⊢
  have hA : ∀ q : Nat, s.heap.size ≤ q → A q := fun q h => by rw [← hAe]; exact Or.inr h
  have hS : va_S A s.heap s.heap [] := va_S.rf
  have hP : va_P D gcl [(a0, .inr (12, [.ref a1, .int 0, .int 0, .int 0, .int 0, .int 0, .int 0, .int 0, .int (-1), .ref a2, .ref a3, .ref a4, .ref a5, .ref a6, .ref a7, .ref a8, .ref a9, .ref a10, .ref a11, .ref a12, .ref a13, .ref a14, .ref a15, .ref a16, .int 0, .int 0, .int 0, .int 0, .int 0, .int 9999, .ref a17, .ref a18, .ref a19, .int 0, .ref a20, .int 0, .ref a21, .int 0, .int 0, .ref a22, .ref a23, .ref a24, .ref a25, .int 0, .ref a26, .int 0, .ref a27, .ref a28, .ref a29, .long 0, .ref a30, .ref a31, .ref a32, .ref a33, .ref a34, .ref a35, .ref a36, .ref a37, .ref a38, .int 0, .int 0, .int 0, .long 0, .ref a39, .int 0, .ref a40, .ref a41, .ref a42, .ref a43, .int 0, .int 0, .int 0, .int 0]))] s.heap := hP
  have hl := lv_entry ([.ref a0, .int x0]) (n := 2) (Nat.le_of_ble_eq_true rfl)
  rw [lg_entry_eq]
  generalize (lg_sl ([.ref a0, .int x0]) ++ List.replicate (2 - (lg_sl ([.ref a0, .int x0])).length) Slot.unset).toArray = ls at hl ⊢
  have hl : lv_has ls 2 [(0, .ref a0), (1, .int x0)] := hl
  refine lv_iload_n (pc := 0) hx hb dX12_isReceiver_0 rfl (lv_at hl 1 rfl) ?_
  refine lv_i2l (pc := 1) (v := (x0.toInt64)) hx hb dX12_isReceiver_1 rfl ?_
  refine lv_lconst (pc := 2) (v := 0) hx hb dX12_isReceiver_2 (by decide) ?_
  refine lv_aload_n (pc := 3) hx hb dX12_isReceiver_3 rfl (lv_at hl 0 rfl) ?_
  refine va_get (pc := 4) (ci := 12) (v := .int 0) (C := RX12) (T := TX12) (N := 73) hx hb hts iX12 hown hK hP 0 rfl rfl 26 (by decide) (hts _ tw_1427) (fun _ h9 => h9) rfl dX12_isReceiver_4 ?_
  refine lv_iconst (pc := 7) (v := 1) hx hb dX12_isReceiver_7 (by decide) ?_
  refine lv_isub (pc := 8) hx hb dX12_isReceiver_8 ?_
  refine gI (y := (-1)) (by decide +kernel) ?_
  refine lv_i2l (pc := 9) (v := (-1)) hx hb dX12_isReceiver_9 (by decide +kernel) ?_
  refine gc_i (pc := 10) (wc := []) (wr := [(a0, .inr (12, [.ref a1, .int 0, .int 0, .int 0, .int 0, .int 0, .int 0, .int 0, .int (-1), .ref a2, .ref a3, .ref a4, .ref a5, .ref a6, .ref a7, .ref a8, .ref a9, .ref a10, .ref a11, .ref a12, .ref a13, .ref a14, .ref a15, .ref a16, .int 0, .int 0, .int 0, .int 0, .int 0, .int 9999, .ref a17, .ref a18, .ref a19, .int 0, .ref a20, .int 0, .ref a21, .int 0, .int 0, .ref a22, .ref a23, .ref a24, .ref a25, .int 0, .ref a26, .int 0, .ref a27, .ref a28, .ref a29, .long 0, .ref a30, .ref a31, .ref a32, .ref a33, .ref a34, .ref a35, .ref a36, .ref a37, .ref a38, .int 0, .int 0, .int 0, .long 0, .ref a39, .int 0, .ref a40, .ref a41, .ref a42, .ref a43, .int 0, .int 0, .int 0, .int 0]))]) hP hD hS hA [] [0] rfl rfl (by decide) (by decide) (by decide) (fun hPc hDc => va_runS (As := [.long (x0.toInt64), .long 0, .long (-1)]) (rest := []) ⟨hx, hb, hml, hown, hts⟩ (cc_56_yX12_isIn l D cB cC cI cJ _ (x0.toInt64)) ⟨gcwB hts tw_1666 tw_14 tw_1664 hd_yX12_isIn ⟨Nat.le_of_ble_eq_true rfl, Nat.le_of_ble_eq_true rfl⟩, hts _ tw_1665⟩ (gpreS hPc hK hDc hN) rfl rfl hl.1 rfl (lv_room (Nat.le_of_ble_eq_true rfl)) dX12_isReceiver_10 ⟨Nat.le_of_ble_eq_true rfl, Nat.le_of_ble_eq_true rfl⟩) (fun r_2 u_1 H locs hw_3 hP hD hS => ?_)
  have hP : va_P D gcl [(a0, .inr (12, [.ref a1, .int 0, .int 0, .int 0, .int 0, .int 0, .int 0, .int 0, .int (-1), .ref a2, .ref a3, .ref a4, .ref a5, .ref a6, .ref a7, .ref a8, .ref a9, .ref a10, .ref a11, .ref a12, .ref a13, .ref a14, .ref a15, .ref a16, .int 0, .int 0, .int 0, .int 0, .int 0, .int 9999, .ref a17, .ref a18, .ref a19, .int 0, .ref a20, .int 0, .ref a21, .int 0, .int 0, .ref a22, .ref a23, .ref a24, .ref a25, .int 0, .ref a26, .int 0, .ref a27, .ref a28, .ref a29, .long 0, .ref a30, .ref a31, .ref a32, .ref a33, .ref a34, .ref a35, .ref a36, .ref a37, .ref a38, .int 0, .int 0, .int 0, .long 0, .ref a39, .int 0, .ref a40, .ref a41, .ref a42, .ref a43, .int 0, .int 0, .int 0, .int 0]))] H := hP
  have hD : va_D A [(a0, .inr (12, [.ref a1, .int 0, .int 0, .int 0, .int 0, .int 0, .int 0, .int 0, .int (-1), .ref a2, .ref a3, .ref a4, .ref a5, .ref a6, .ref a7, .ref a8, .ref a9, .ref a10, .ref a11, .ref a12, .ref a13, .ref a14, .ref a15, .ref a16, .int 0, .int 0, .int 0, .int 0, .int 0, .int 9999, .ref a17, .ref a18, .ref a19, .int 0, .ref a20, .int 0, .ref a21, .int 0, .int 0, .ref a22, .ref a23, .ref a24, .ref a25, .int 0, .ref a26, .int 0, .ref a27, .ref a28, .ref a29, .long 0, .ref a30, .ref a31, .ref a32, .ref a33, .ref a34, .ref a35, .ref a36, .ref a37, .ref a38, .int 0, .int 0, .int 0, .long 0, .ref a39, .int 0, .ref a40, .ref a41, .ref a42, .ref a43, .int 0, .int 0, .int 0, .int 0]))] := hD
  subst hw_3
  have hP9 := hP.sub (ws' := [(a0, .inr (12, [.ref a1, .int 0, .int 0, .int 0, .int 0, .int 0, .int 0, .int 0, .int (-1), .ref a2, .ref a3, .ref a4, .ref a5, .ref a6, .ref a7, .ref a8, .ref a9, .ref a10, .ref a11, .ref a12, .ref a13, .ref a14, .ref a15, .ref a16, .int 0, .int 0, .int 0, .int 0, .int 0, .int 9999, .ref a17, .ref a18, .ref a19, .int 0, .ref a20, .int 0, .ref a21, .int 0, .int 0, .ref a22, .ref a23, .ref a24, .ref a25, .int 0, .ref a26, .int 0, .ref a27, .ref a28, .ref a29, .long 0, .ref a30, .ref a31, .ref a32, .ref a33, .ref a34, .ref a35, .ref a36, .ref a37, .ref a38, .int 0, .int 0, .int 0, .long 0, .ref a39, .int 0, .ref a40, .ref a41, .ref a42, .ref a43, .int 0, .int 0, .int 0, .int 0]))]) [0] rfl
  have hD9 := hD.sub (ws' := [(a0, .inr (12, [.ref a1, .int 0, .int 0, .int 0, .int 0, .int 0, .int 0, .int 0, .int (-1), .ref a2, .ref a3, .ref a4, .ref a5, .ref a6, .ref a7, .ref a8, .ref a9, .ref a10, .ref a11, .ref a12, .ref a13, .ref a14, .ref a15, .ref a16, .int 0, .int 0, .int 0, .int 0, .int 0, .int 9999, .ref a17, .ref a18, .ref a19, .int 0, .ref a20, .int 0, .ref a21, .int 0, .int 0, .ref a22, .ref a23, .ref a24, .ref a25, .int 0, .ref a26, .int 0, .ref a27, .ref a28, .ref a29, .long 0, .ref a30, .ref a31, .ref a32, .ref a33, .ref a34, .ref a35, .ref a36, .ref a37, .ref a38, .int 0, .int 0, .int 0, .long 0, .ref a39, .int 0, .ref a40, .ref a41, .ref a42, .ref a43, .int 0, .int 0, .int 0, .int 0]))]) [0] (by decide) rfl
  refine W.widen (k := 0) (n := 0) (Nat.le_of_ble_eq_true rfl) (Nat.le_of_ble_eq_true rfl) ?_
  exact W.zret (v := 0) hx hb hr (by decide +kernel) (fun t ht hW => ⟨⟨0, ((fun _ => 0), (fun _ => (fun _ => 0)), (fun _ => (fun _ => 0)), (fun _ => 0), (fun _ => 0)), rfl, rfl, by rw [ht]; exact hP9, hD9⟩, hS.F ht⟩) hS.2.2 dX12_isReceiver_13
set_option maxHeartbeats 4000000 in
set_option maxRecDepth 100000 in
theorem cc_58_yX12_table (l : Launch) (D : va_G) (cB cC cI cJ : ClassId) (sz : Nat) (a0 a1 a2 a3 a4 a5 a6 a7 a8 a9 a10 a11 a12 a13 a14 a15 a16 a17 a18 a19 a20 a21 a22 a23 a24 a25 a26 a27 a28 a29 a30 a31 a32 a33 a34 a35 a36 a37 a38 a39 a40 a41 a42 a43 : Nat) (x0 x1 : Int32) : Met l yX12_table (.code yX12_table cX12_table 4 (some .int) :: lw_gd) ({ frames := 2, cells := 0, slots := 0, locals := 46 }) (gPre D [(cB, .byte), (cC, .char), (cI, .int), (cJ, .long)] [.ref a0, .int x0, .int x1, .int 0] [(a0, .inr (12, [.ref a1, .int 0, .int 0, .int 0, .int 0, .int 0, .int 0, .int 0, .int (-1), .ref a2, .ref a3, .ref a4, .ref a5, .ref a6, .ref a7, .ref a8, .ref a9, .ref a10, .ref a11, .ref a12, .ref a13, .ref a14, .ref a15, .ref a16, .int 0, .int 0, .int 0, .int 0, .int 0, .int 9999, .ref a17, .ref a18, .ref a19, .int 0, .ref a20, .int 0, .ref a21, .int 0, .int 0, .ref a22, .ref a23, .ref a24, .ref a25, .int 0, .ref a26, .int 0, .ref a27, .ref a28, .ref a29, .long 0, .ref a30, .ref a31, .ref a32, .ref a33, .ref a34, .ref a35, .ref a36, .ref a37, .ref a38, .int 0, .int 0, .int 0, .long 0, .ref a39, .int 0, .ref a40, .ref a41, .ref a42, .ref a43, .int 0, .int 0, .int 0, .int 0]))] sz) (va_Qi (fun r _ => r = (-1000000000)) (gB D (va_A [(a0, .inr (12, [.ref a1, .int 0, .int 0, .int 0, .int 0, .int 0, .int 0, .int 0, .int (-1), .ref a2, .ref a3, .ref a4, .ref a5, .ref a6, .ref a7, .ref a8, .ref a9, .ref a10, .ref a11, .ref a12, .ref a13, .ref a14, .ref a15, .ref a16, .int 0, .int 0, .int 0, .int 0, .int 0, .int 9999, .ref a17, .ref a18, .ref a19, .int 0, .ref a20, .int 0, .ref a21, .int 0, .int 0, .ref a22, .ref a23, .ref a24, .ref a25, .int 0, .ref a26, .int 0, .ref a27, .ref a28, .ref a29, .long 0, .ref a30, .ref a31, .ref a32, .ref a33, .ref a34, .ref a35, .ref a36, .ref a37, .ref a38, .int 0, .int 0, .int 0, .long 0, .ref a39, .int 0, .ref a40, .ref a41, .ref a42, .ref a43, .int 0, .int 0, .int 0, .int 0]))] sz) (fun u : gEx => [])) (va_A [(a0, .inr (12, [.ref a1, .int 0, .int 0, .int 0, .int 0, .int 0, .int 0, .int 0, .int (-1), .ref a2, .ref a3, .ref a4, .ref a5, .ref a6, .ref a7, .ref a8, .ref a9, .ref a10, .ref a11, .ref a12, .ref a13, .ref a14, .ref a15, .ref a16, .int 0, .int 0, .int 0, .int 0, .int 0, .int 9999, .ref a17, .ref a18, .ref a19, .int 0, .ref a20, .int 0, .ref a21, .int 0, .int 0, .ref a22, .ref a23, .ref a24, .ref a25, .int 0, .ref a26, .int 0, .ref a27, .ref a28, .ref a29, .long 0, .ref a30, .ref a31, .ref a32, .ref a33, .ref a34, .ref a35, .ref a36, .ref a37, .ref a38, .int 0, .int 0, .int 0, .long 0, .ref a39, .int 0, .ref a40, .ref a41, .ref a42, .ref a43, .int 0, .int 0, .int 0, .int 0]))] sz)) 0 0 (va_A [(a0, .inr (12, [.ref a1, .int 0, .int 0, .int 0, .int 0, .int 0, .int 0, .int 0, .int (-1), .ref a2, .ref a3, .ref a4, .ref a5, .ref a6, .ref a7, .ref a8, .ref a9, .ref a10, .ref a11, .ref a12, .ref a13, .ref a14, .ref a15, .ref a16, .int 0, .int 0, .int 0, .int 0, .int 0, .int 9999, .ref a17, .ref a18, .ref a19, .int 0, .ref a20, .int 0, .ref a21, .int 0, .int 0, .ref a22, .ref a23, .ref a24, .ref a25, .int 0, .ref a26, .int 0, .ref a27, .ref a28, .ref a29, .long 0, .ref a30, .ref a31, .ref a32, .ref a33, .ref a34, .ref a35, .ref a36, .ref a37, .ref a38, .int 0, .int 0, .int 0, .long 0, .ref a39, .int 0, .ref a40, .ref a41, .ref a42, .ref a43, .int 0, .int 0, .int 0, .int 0]))] sz) := by
  refine Met.ofW (cc := cX12_table) (maxL := 4) (ret := (some .int)) (by decide) rfl ?_
  intro p e s m args below meth c s₁ B hml hv
  obtain ⟨rfl, hsz, hP, hK, hD0, hN⟩ := hv
  have hx := B.exec
  have hb := B.bytes
  have hr := B.returns
  have hts : ∀ w ∈ lw_gd, w.before _ s = true := fun w h => atoms_spec (ws := .code yX12_table cX12_table 4 (some .int) :: lw_gd) B.pre w (List.mem_cons_of_mem _ h)
  have hown : s.vm.findClass RX12 = some m.cls := findClass_of_methodNamed B.named
  have hlocks := B.notSynchronized
  subst hsz
  have hD := hD0.self (sz := s.heap.size)
  generalize hAe : va_A [(a0, .inr (12, [.ref a1, .int 0, .int 0, .int 0, .int 0, .int 0, .int 0, .int 0, .int (-1), .ref a2, .ref a3, .ref a4, .ref a5, .ref a6, .ref a7, .ref a8, .ref a9, .ref a10, .ref a11, .ref a12, .ref a13, .ref a14, .ref a15, .ref a16, .int 0, .int 0, .int 0, .int 0, .int 0, .int 9999, .ref a17, .ref a18, .ref a19, .int 0, .ref a20, .int 0, .ref a21, .int 0, .int 0, .ref a22, .ref a23, .ref a24, .ref a25, .int 0, .ref a26, .int 0, .ref a27, .ref a28, .ref a29, .long 0, .ref a30, .ref a31, .ref a32, .ref a33, .ref a34, .ref a35, .ref a36, .ref a37, .ref a38, .int 0, .int 0, .int 0, .long 0, .ref a39, .int 0, .ref a40, .ref a41, .ref a42, .ref a43, .int 0, .int 0, .int 0, .int 0]))] s.heap.size = A at hD ⊢
  have hA : ∀ q : Nat, s.heap.size ≤ q → A q := fun q h => by rw [← hAe]; exact Or.inr h
  have hS : va_S A s.heap s.heap [] := va_S.rf
  have hP : va_P D gcl [(a0, .inr (12, [.ref a1, .int 0, .int 0, .int 0, .int 0, .int 0, .int 0, .int 0, .int (-1), .ref a2, .ref a3, .ref a4, .ref a5, .ref a6, .ref a7, .ref a8, .ref a9, .ref a10, .ref a11, .ref a12, .ref a13, .ref a14, .ref a15, .ref a16, .int 0, .int 0, .int 0, .int 0, .int 0, .int 9999, .ref a17, .ref a18, .ref a19, .int 0, .ref a20, .int 0, .ref a21, .int 0, .int 0, .ref a22, .ref a23, .ref a24, .ref a25, .int 0, .ref a26, .int 0, .ref a27, .ref a28, .ref a29, .long 0, .ref a30, .ref a31, .ref a32, .ref a33, .ref a34, .ref a35, .ref a36, .ref a37, .ref a38, .int 0, .int 0, .int 0, .long 0, .ref a39, .int 0, .ref a40, .ref a41, .ref a42, .ref a43, .int 0, .int 0, .int 0, .int 0]))] s.heap := hP
  have hl := lv_entry ([.ref a0, .int x0, .int x1, .int 0]) (n := 4) (Nat.le_of_ble_eq_true rfl)
  rw [lg_entry_eq]
  generalize (lg_sl ([.ref a0, .int x0, .int x1, .int 0]) ++ List.replicate (4 - (lg_sl ([.ref a0, .int x0, .int x1, .int 0])).length) Slot.unset).toArray = ls at hl ⊢
  have hl : lv_has ls 4 [(0, .ref a0), (1, .int x0), (2, .int x1), (3, .int 0)] := hl
  refine lv_aload_n (pc := 0) hx hb dX12_table_0 rfl (lv_at hl 0 rfl) ?_
  refine lv_iload_n (pc := 1) hx hb dX12_table_1 rfl (lv_at hl 1 rfl) ?_
  refine gc_i (pc := 2) (wc := [(a0, .inr (12, [.ref a1, .int 0, .int 0, .int 0, .int 0, .int 0, .int 0, .int 0, .int (-1), .ref a2, .ref a3, .ref a4, .ref a5, .ref a6, .ref a7, .ref a8, .ref a9, .ref a10, .ref a11, .ref a12, .ref a13, .ref a14, .ref a15, .ref a16, .int 0, .int 0, .int 0, .int 0, .int 0, .int 9999, .ref a17, .ref a18, .ref a19, .int 0, .ref a20, .int 0, .ref a21, .int 0, .int 0, .ref a22, .ref a23, .ref a24, .ref a25, .int 0, .ref a26, .int 0, .ref a27, .ref a28, .ref a29, .long 0, .ref a30, .ref a31, .ref a32, .ref a33, .ref a34, .ref a35, .ref a36, .ref a37, .ref a38, .int 0, .int 0, .int 0, .long 0, .ref a39, .int 0, .ref a40, .ref a41, .ref a42, .ref a43, .int 0, .int 0, .int 0, .int 0]))]) (wr := []) hP hD hS hA [0] [] rfl rfl (by decide) (by decide) (by decide) (fun hPc hDc => va_runV (As := [.int x0]) (rest := []) ⟨hx, hb, hml, hown, hts⟩ (cc_57_yX12_isReceiver l D cB cC cI cJ _ a0 a1 a2 a3 a4 a5 a6 a7 a8 a9 a10 a11 a12 a13 a14 a15 a16 a17 a18 a19 a20 a21 a22 a23 a24 a25 a26 a27 a28 a29 a30 a31 a32 a33 a34 a35 a36 a37 a38 a39 a40 a41 a42 a43 x0) ⟨gcwB hts tw_1778 tw_14 tw_1775 hd_yX12_isReceiver ⟨Nat.le_of_ble_eq_true rfl, Nat.le_of_ble_eq_true rfl⟩, hts _ tw_1777, hts _ tp_88⟩ ⟨gblind, va_recv hK hPc (ci := 12) (q0 := 0) rfl rfl, (gpreS hPc hK hDc hN).2⟩ rfl rfl hl.1 rfl (lv_room (Nat.le_of_ble_eq_true rfl)) dX12_table_2 ⟨Nat.le_of_ble_eq_true rfl, Nat.le_of_ble_eq_true rfl⟩) (fun r_2 u_1 H locs hw_3 hP hD hS => ?_)
  have hP : va_P D gcl [(a0, .inr (12, [.ref a1, .int 0, .int 0, .int 0, .int 0, .int 0, .int 0, .int 0, .int (-1), .ref a2, .ref a3, .ref a4, .ref a5, .ref a6, .ref a7, .ref a8, .ref a9, .ref a10, .ref a11, .ref a12, .ref a13, .ref a14, .ref a15, .ref a16, .int 0, .int 0, .int 0, .int 0, .int 0, .int 9999, .ref a17, .ref a18, .ref a19, .int 0, .ref a20, .int 0, .ref a21, .int 0, .int 0, .ref a22, .ref a23, .ref a24, .ref a25, .int 0, .ref a26, .int 0, .ref a27, .ref a28, .ref a29, .long 0, .ref a30, .ref a31, .ref a32, .ref a33, .ref a34, .ref a35, .ref a36, .ref a37, .ref a38, .int 0, .int 0, .int 0, .long 0, .ref a39, .int 0, .ref a40, .ref a41, .ref a42, .ref a43, .int 0, .int 0, .int 0, .int 0]))] H := hP
  have hD : va_D A [(a0, .inr (12, [.ref a1, .int 0, .int 0, .int 0, .int 0, .int 0, .int 0, .int 0, .int (-1), .ref a2, .ref a3, .ref a4, .ref a5, .ref a6, .ref a7, .ref a8, .ref a9, .ref a10, .ref a11, .ref a12, .ref a13, .ref a14, .ref a15, .ref a16, .int 0, .int 0, .int 0, .int 0, .int 0, .int 9999, .ref a17, .ref a18, .ref a19, .int 0, .ref a20, .int 0, .ref a21, .int 0, .int 0, .ref a22, .ref a23, .ref a24, .ref a25, .int 0, .ref a26, .int 0, .ref a27, .ref a28, .ref a29, .long 0, .ref a30, .ref a31, .ref a32, .ref a33, .ref a34, .ref a35, .ref a36, .ref a37, .ref a38, .int 0, .int 0, .int 0, .long 0, .ref a39, .int 0, .ref a40, .ref a41, .ref a42, .ref a43, .int 0, .int 0, .int 0, .int 0]))] := hD
  subst hw_3
  refine lv_if_eq (pc := 5) (tgt := 16) hx hb dX12_table_5 (by decide) (fun _ => ?_) (fun c => absurd (by decide +kernel) c)
  refine lv_ldcw (pc := 16) hx hb hown (hts _ tw_1783) dX12_table_16 ?_
  have hP9 := hP.sub (ws' := []) [] rfl
  have hD9 := hD.sub (ws' := []) [] (by decide) rfl
  refine W.widen (k := 0) (n := 0) (Nat.le_of_ble_eq_true rfl) (Nat.le_of_ble_eq_true rfl) ?_
  exact W.iret (v := (-1000000000)) hx hb hr (fun t ht hW => ⟨⟨(-1000000000), ((fun _ => 0), (fun _ => (fun _ => 0)), (fun _ => (fun _ => 0)), (fun _ => 0), (fun _ => 0)), rfl, rfl, by rw [ht]; exact hP9, hD9⟩, hS.F ht⟩) hS.2.2 dX12_table_19
set_option maxHeartbeats 4000000 in
set_option maxRecDepth 100000 in
theorem cc_59_yX11_table (l : Launch) (D : va_G) (cB cC cI cJ : ClassId) (sz : Nat) (a0 a1 a2 a3 a4 a5 a6 a7 a8 a9 a10 a11 a12 a13 a14 a15 a16 : Nat) (x0 x1 : Int32) : Met l yX11_table (.code yX11_table cX11_table 4 (some .int) :: lw_gd) ({ frames := 1, cells := 0, slots := 0, locals := 21 }) (gPre D [(cB, .byte), (cC, .char), (cI, .int), (cJ, .long)] [.ref a0, .int x0, .int x1, .int 1] [(a0, .inr (11, [.ref a1, .ref a2, .ref a3, .ref a4, .ref a5, .ref a6, .ref a7, .ref a8, .ref a9, .ref a10, .int 0, .ref a11, .ref a12, .ref a13])), (a11, .inr (1, [.ref a14, .ref a15, .ref a16, .int 0, .int 0, .int 0, .int 0, .int 0, .int 9999, .int 0]))] sz) (va_Qi (fun r _ => r = (-1000000000)) (gB D (va_A [(a0, .inr (11, [.ref a1, .ref a2, .ref a3, .ref a4, .ref a5, .ref a6, .ref a7, .ref a8, .ref a9, .ref a10, .int 0, .ref a11, .ref a12, .ref a13])), (a11, .inr (1, [.ref a14, .ref a15, .ref a16, .int 0, .int 0, .int 0, .int 0, .int 0, .int 9999, .int 0]))] sz) (fun u : gEx => [])) (va_A [(a0, .inr (11, [.ref a1, .ref a2, .ref a3, .ref a4, .ref a5, .ref a6, .ref a7, .ref a8, .ref a9, .ref a10, .int 0, .ref a11, .ref a12, .ref a13])), (a11, .inr (1, [.ref a14, .ref a15, .ref a16, .int 0, .int 0, .int 0, .int 0, .int 0, .int 9999, .int 0]))] sz)) 0 0 (va_A [(a0, .inr (11, [.ref a1, .ref a2, .ref a3, .ref a4, .ref a5, .ref a6, .ref a7, .ref a8, .ref a9, .ref a10, .int 0, .ref a11, .ref a12, .ref a13])), (a11, .inr (1, [.ref a14, .ref a15, .ref a16, .int 0, .int 0, .int 0, .int 0, .int 0, .int 9999, .int 0]))] sz) := by
  refine Met.ofW (cc := cX11_table) (maxL := 4) (ret := (some .int)) (by decide) rfl ?_
  intro p e s m args below meth c s₁ B hml hv
  obtain ⟨rfl, hsz, hP, hK, hD0, hN⟩ := hv
  have hx := B.exec
  have hb := B.bytes
  have hr := B.returns
  have hts : ∀ w ∈ lw_gd, w.before _ s = true := fun w h => atoms_spec (ws := .code yX11_table cX11_table 4 (some .int) :: lw_gd) B.pre w (List.mem_cons_of_mem _ h)
  have hown : s.vm.findClass RX11 = some m.cls := findClass_of_methodNamed B.named
  have hlocks := B.notSynchronized
  subst hsz
  have hD := hD0.self (sz := s.heap.size)
  generalize hAe : va_A [(a0, .inr (11, [.ref a1, .ref a2, .ref a3, .ref a4, .ref a5, .ref a6, .ref a7, .ref a8, .ref a9, .ref a10, .int 0, .ref a11, .ref a12, .ref a13])), (a11, .inr (1, [.ref a14, .ref a15, .ref a16, .int 0, .int 0, .int 0, .int 0, .int 0, .int 9999, .int 0]))] s.heap.size = A at hD ⊢
  have hA : ∀ q : Nat, s.heap.size ≤ q → A q := fun q h => by rw [← hAe]; exact Or.inr h
  have hS : va_S A s.heap s.heap [] := va_S.rf
  have hP : va_P D gcl [(a0, .inr (11, [.ref a1, .ref a2, .ref a3, .ref a4, .ref a5, .ref a6, .ref a7, .ref a8, .ref a9, .ref a10, .int 0, .ref a11, .ref a12, .ref a13])), (a11, .inr (1, [.ref a14, .ref a15, .ref a16, .int 0, .int 0, .int 0, .int 0, .int 0, .int 9999, .int 0]))] s.heap := hP
  have hl := lv_entry ([.ref a0, .int x0, .int x1, .int 1]) (n := 4) (Nat.le_of_ble_eq_true rfl)
  rw [lg_entry_eq]
  generalize (lg_sl ([.ref a0, .int x0, .int x1, .int 1]) ++ List.replicate (4 - (lg_sl ([.ref a0, .int x0, .int x1, .int 1])).length) Slot.unset).toArray = ls at hl ⊢
  have hl : lv_has ls 4 [(0, .ref a0), (1, .int x0), (2, .int x1), (3, .int 1)] := hl
  refine lv_aload_n (pc := 0) hx hb dX11_table_0 rfl (lv_at hl 0 rfl) ?_
  refine va_get (pc := 1) (ci := 11) (v := .ref a11) (C := RX11) (T := TX11) (N := 14) hx hb hts iX11 hown hK hP 0 rfl rfl 11 (by decide) (hts _ tw_431) (fun _ h9 => h9) rfl dX11_table_1 ?_
  refine lv_iload_n (pc := 4) hx hb dX11_table_4 rfl (lv_at hl 1 rfl) ?_
  refine gc_i (pc := 5) (wc := [(a11, .inr (1, [.ref a14, .ref a15, .ref a16, .int 0, .int 0, .int 0, .int 0, .int 0, .int 9999, .int 0]))]) (wr := [(a0, .inr (11, [.ref a1, .ref a2, .ref a3, .ref a4, .ref a5, .ref a6, .ref a7, .ref a8, .ref a9, .ref a10, .int 0, .ref a11, .ref a12, .ref a13]))]) hP hD hS hA [1] [0] rfl rfl (by decide) (by decide) (by decide) (fun hPc hDc => va_runV (As := [.int x0]) (rest := []) ⟨hx, hb, hml, hown, hts⟩ (cc_54_yX1_isReceiver l D cB cC cI cJ _ a11 a14 a15 a16 x0) ⟨gcwB hts tw_778 tw_4 tw_775 hd_yX1_isReceiver ⟨Nat.le_of_ble_eq_true rfl, Nat.le_of_ble_eq_true rfl⟩, hts _ tw_776, hts _ tw_777⟩ ⟨gblind, va_recv hK hPc (ci := 1) (q0 := 0) rfl rfl, (gpreS hPc hK hDc hN).2⟩ rfl rfl hl.1 rfl (lv_room (Nat.le_of_ble_eq_true rfl)) dX11_table_5 ⟨Nat.le_of_ble_eq_true rfl, Nat.le_of_ble_eq_true rfl⟩) (fun r_2 u_1 H locs hw_3 hP hD hS => ?_)
  have hP : va_P D gcl [(a0, .inr (11, [.ref a1, .ref a2, .ref a3, .ref a4, .ref a5, .ref a6, .ref a7, .ref a8, .ref a9, .ref a10, .int 0, .ref a11, .ref a12, .ref a13])), (a11, .inr (1, [.ref a14, .ref a15, .ref a16, .int 0, .int 0, .int 0, .int 0, .int 0, .int 9999, .int 0]))] H := hP
  have hD : va_D A [(a0, .inr (11, [.ref a1, .ref a2, .ref a3, .ref a4, .ref a5, .ref a6, .ref a7, .ref a8, .ref a9, .ref a10, .int 0, .ref a11, .ref a12, .ref a13])), (a11, .inr (1, [.ref a14, .ref a15, .ref a16, .int 0, .int 0, .int 0, .int 0, .int 0, .int 9999, .int 0]))] := hD
  subst hw_3
  refine lv_if_eq (pc := 8) (tgt := 22) hx hb dX11_table_8 (by decide) (fun _ => ?_) (fun c => absurd (by decide +kernel) c)
  refine lv_ldc (pc := 22) hx hb hown (hts _ tw_783) dX11_table_22 ?_
  have hP9 := hP.sub (ws' := []) [] rfl
  have hD9 := hD.sub (ws' := []) [] (by decide) rfl
  refine W.widen (k := 0) (n := 0) (Nat.le_of_ble_eq_true rfl) (Nat.le_of_ble_eq_true rfl) ?_
  exact W.iret (v := (-1000000000)) hx hb hr (fun t ht hW => ⟨⟨(-1000000000), ((fun _ => 0), (fun _ => (fun _ => 0)), (fun _ => (fun _ => 0)), (fun _ => 0), (fun _ => 0)), rfl, rfl, by rw [ht]; exact hP9, hD9⟩, hS.F ht⟩) hS.2.2 dX11_table_24
set_option maxHeartbeats 4000000 in
set_option maxRecDepth 100000 in
theorem cc_60_yX12_table (l : Launch) (D : va_G) (cB cC cI cJ : ClassId) (sz : Nat) (a0 a1 a2 a3 a4 a5 a6 a7 a8 a9 a10 a11 a12 a13 a14 a15 a16 a17 a18 a19 a20 a21 a22 a23 a24 a25 a26 a27 a28 a29 a30 a31 a32 a33 a34 a35 a36 a37 a38 a39 a40 a41 a42 a43 : Nat) (x0 x1 : Int32) : Met l yX12_table (.code yX12_table cX12_table 4 (some .int) :: lw_gd) ({ frames := 2, cells := 0, slots := 0, locals := 46 }) (gPre D [(cB, .byte), (cC, .char), (cI, .int), (cJ, .long)] [.ref a0, .int x0, .int x1, .int 1] [(a0, .inr (12, [.ref a1, .int 0, .int 0, .int 0, .int 0, .int 0, .int 0, .int 0, .int (-1), .ref a2, .ref a3, .ref a4, .ref a5, .ref a6, .ref a7, .ref a8, .ref a9, .ref a10, .ref a11, .ref a12, .ref a13, .ref a14, .ref a15, .ref a16, .int 0, .int 0, .int 0, .int 0, .int 0, .int 9999, .ref a17, .ref a18, .ref a19, .int 0, .ref a20, .int 0, .ref a21, .int 0, .int 0, .ref a22, .ref a23, .ref a24, .ref a25, .int 0, .ref a26, .int 0, .ref a27, .ref a28, .ref a29, .long 0, .ref a30, .ref a31, .ref a32, .ref a33, .ref a34, .ref a35, .ref a36, .ref a37, .ref a38, .int 0, .int 0, .int 0, .long 0, .ref a39, .int 0, .ref a40, .ref a41, .ref a42, .ref a43, .int 0, .int 0, .int 0, .int 0]))] sz) (va_Qi (fun r _ => r = (-1000000000)) (gB D (va_A [(a0, .inr (12, [.ref a1, .int 0, .int 0, .int 0, .int 0, .int 0, .int 0, .int 0, .int (-1), .ref a2, .ref a3, .ref a4, .ref a5, .ref a6, .ref a7, .ref a8, .ref a9, .ref a10, .ref a11, .ref a12, .ref a13, .ref a14, .ref a15, .ref a16, .int 0, .int 0, .int 0, .int 0, .int 0, .int 9999, .ref a17, .ref a18, .ref a19, .int 0, .ref a20, .int 0, .ref a21, .int 0, .int 0, .ref a22, .ref a23, .ref a24, .ref a25, .int 0, .ref a26, .int 0, .ref a27, .ref a28, .ref a29, .long 0, .ref a30, .ref a31, .ref a32, .ref a33, .ref a34, .ref a35, .ref a36, .ref a37, .ref a38, .int 0, .int 0, .int 0, .long 0, .ref a39, .int 0, .ref a40, .ref a41, .ref a42, .ref a43, .int 0, .int 0, .int 0, .int 0]))] sz) (fun u : gEx => [])) (va_A [(a0, .inr (12, [.ref a1, .int 0, .int 0, .int 0, .int 0, .int 0, .int 0, .int 0, .int (-1), .ref a2, .ref a3, .ref a4, .ref a5, .ref a6, .ref a7, .ref a8, .ref a9, .ref a10, .ref a11, .ref a12, .ref a13, .ref a14, .ref a15, .ref a16, .int 0, .int 0, .int 0, .int 0, .int 0, .int 9999, .ref a17, .ref a18, .ref a19, .int 0, .ref a20, .int 0, .ref a21, .int 0, .int 0, .ref a22, .ref a23, .ref a24, .ref a25, .int 0, .ref a26, .int 0, .ref a27, .ref a28, .ref a29, .long 0, .ref a30, .ref a31, .ref a32, .ref a33, .ref a34, .ref a35, .ref a36, .ref a37, .ref a38, .int 0, .int 0, .int 0, .long 0, .ref a39, .int 0, .ref a40, .ref a41, .ref a42, .ref a43, .int 0, .int 0, .int 0, .int 0]))] sz)) 0 0 (va_A [(a0, .inr (12, [.ref a1, .int 0, .int 0, .int 0, .int 0, .int 0, .int 0, .int 0, .int (-1), .ref a2, .ref a3, .ref a4, .ref a5, .ref a6, .ref a7, .ref a8, .ref a9, .ref a10, .ref a11, .ref a12, .ref a13, .ref a14, .ref a15, .ref a16, .int 0, .int 0, .int 0, .int 0, .int 0, .int 9999, .ref a17, .ref a18, .ref a19, .int 0, .ref a20, .int 0, .ref a21, .int 0, .int 0, .ref a22, .ref a23, .ref a24, .ref a25, .int 0, .ref a26, .int 0, .ref a27, .ref a28, .ref a29, .long 0, .ref a30, .ref a31, .ref a32, .ref a33, .ref a34, .ref a35, .ref a36, .ref a37, .ref a38, .int 0, .int 0, .int 0, .long 0, .ref a39, .int 0, .ref a40, .ref a41, .ref a42, .ref a43, .int 0, .int 0, .int 0, .int 0]))] sz) := by
  refine Met.ofW (cc := cX12_table) (maxL := 4) (ret := (some .int)) (by decide) rfl ?_
  intro p e s m args below meth c s₁ B hml hv
  obtain ⟨rfl, hsz, hP, hK, hD0, hN⟩ := hv
  have hx := B.exec
  have hb := B.bytes
  have hr := B.returns
  have hts : ∀ w ∈ lw_gd, w.before _ s = true := fun w h => atoms_spec (ws := .code yX12_table cX12_table 4 (some .int) :: lw_gd) B.pre w (List.mem_cons_of_mem _ h)
  have hown : s.vm.findClass RX12 = some m.cls := findClass_of_methodNamed B.named
  have hlocks := B.notSynchronized
  subst hsz
  have hD := hD0.self (sz := s.heap.size)
  generalize hAe : va_A [(a0, .inr (12, [.ref a1, .int 0, .int 0, .int 0, .int 0, .int 0, .int 0, .int 0, .int (-1), .ref a2, .ref a3, .ref a4, .ref a5, .ref a6, .ref a7, .ref a8, .ref a9, .ref a10, .ref a11, .ref a12, .ref a13, .ref a14, .ref a15, .ref a16, .int 0, .int 0, .int 0, .int 0, .int 0, .int 9999, .ref a17, .ref a18, .ref a19, .int 0, .ref a20, .int 0, .ref a21, .int 0, .int 0, .ref a22, .ref a23, .ref a24, .ref a25, .int 0, .ref a26, .int 0, .ref a27, .ref a28, .ref a29, .long 0, .ref a30, .ref a31, .ref a32, .ref a33, .ref a34, .ref a35, .ref a36, .ref a37, .ref a38, .int 0, .int 0, .int 0, .long 0, .ref a39, .int 0, .ref a40, .ref a41, .ref a42, .ref a43, .int 0, .int 0, .int 0, .int 0]))] s.heap.size = A at hD ⊢
  have hA : ∀ q : Nat, s.heap.size ≤ q → A q := fun q h => by rw [← hAe]; exact Or.inr h
  have hS : va_S A s.heap s.heap [] := va_S.rf
  have hP : va_P D gcl [(a0, .inr (12, [.ref a1, .int 0, .int 0, .int 0, .int 0, .int 0, .int 0, .int 0, .int (-1), .ref a2, .ref a3, .ref a4, .ref a5, .ref a6, .ref a7, .ref a8, .ref a9, .ref a10, .ref a11, .ref a12, .ref a13, .ref a14, .ref a15, .ref a16, .int 0, .int 0, .int 0, .int 0, .int 0, .int 9999, .ref a17, .ref a18, .ref a19, .int 0, .ref a20, .int 0, .ref a21, .int 0, .int 0, .ref a22, .ref a23, .ref a24, .ref a25, .int 0, .ref a26, .int 0, .ref a27, .ref a28, .ref a29, .long 0, .ref a30, .ref a31, .ref a32, .ref a33, .ref a34, .ref a35, .ref a36, .ref a37, .ref a38, .int 0, .int 0, .int 0, .long 0, .ref a39, .int 0, .ref a40, .ref a41, .ref a42, .ref a43, .int 0, .int 0, .int 0, .int 0]))] s.heap := hP
  have hl := lv_entry ([.ref a0, .int x0, .int x1, .int 1]) (n := 4) (Nat.le_of_ble_eq_true rfl)
  rw [lg_entry_eq]
  generalize (lg_sl ([.ref a0, .int x0, .int x1, .int 1]) ++ List.replicate (4 - (lg_sl ([.ref a0, .int x0, .int x1, .int 1])).length) Slot.unset).toArray = ls at hl ⊢
  have hl : lv_has ls 4 [(0, .ref a0), (1, .int x0), (2, .int x1), (3, .int 1)] := hl
  refine lv_aload_n (pc := 0) hx hb dX12_table_0 rfl (lv_at hl 0 rfl) ?_
  refine lv_iload_n (pc := 1) hx hb dX12_table_1 rfl (lv_at hl 1 rfl) ?_
  refine gc_i (pc := 2) (wc := [(a0, .inr (12, [.ref a1, .int 0, .int 0, .int 0, .int 0, .int 0, .int 0, .int 0, .int (-1), .ref a2, .ref a3, .ref a4, .ref a5, .ref a6, .ref a7, .ref a8, .ref a9, .ref a10, .ref a11, .ref a12, .ref a13, .ref a14, .ref a15, .ref a16, .int 0, .int 0, .int 0, .int 0, .int 0, .int 9999, .ref a17, .ref a18, .ref a19, .int 0, .ref a20, .int 0, .ref a21, .int 0, .int 0, .ref a22, .ref a23, .ref a24, .ref a25, .int 0, .ref a26, .int 0, .ref a27, .ref a28, .ref a29, .long 0, .ref a30, .ref a31, .ref a32, .ref a33, .ref a34, .ref a35, .ref a36, .ref a37, .ref a38, .int 0, .int 0, .int 0, .long 0, .ref a39, .int 0, .ref a40, .ref a41, .ref a42, .ref a43, .int 0, .int 0, .int 0, .int 0]))]) (wr := []) hP hD hS hA [0] [] rfl rfl (by decide) (by decide) (by decide) (fun hPc hDc => va_runV (As := [.int x0]) (rest := []) ⟨hx, hb, hml, hown, hts⟩ (cc_57_yX12_isReceiver l D cB cC cI cJ _ a0 a1 a2 a3 a4 a5 a6 a7 a8 a9 a10 a11 a12 a13 a14 a15 a16 a17 a18 a19 a20 a21 a22 a23 a24 a25 a26 a27 a28 a29 a30 a31 a32 a33 a34 a35 a36 a37 a38 a39 a40 a41 a42 a43 x0) ⟨gcwB hts tw_1778 tw_14 tw_1775 hd_yX12_isReceiver ⟨Nat.le_of_ble_eq_true rfl, Nat.le_of_ble_eq_true rfl⟩, hts _ tw_1777, hts _ tp_88⟩ ⟨gblind, va_recv hK hPc (ci := 12) (q0 := 0) rfl rfl, (gpreS hPc hK hDc hN).2⟩ rfl rfl hl.1 rfl (lv_room (Nat.le_of_ble_eq_true rfl)) dX12_table_2 ⟨Nat.le_of_ble_eq_true rfl, Nat.le_of_ble_eq_true rfl⟩) (fun r_2 u_1 H locs hw_3 hP hD hS => ?_)
  have hP : va_P D gcl [(a0, .inr (12, [.ref a1, .int 0, .int 0, .int 0, .int 0, .int 0, .int 0, .int 0, .int (-1), .ref a2, .ref a3, .ref a4, .ref a5, .ref a6, .ref a7, .ref a8, .ref a9, .ref a10, .ref a11, .ref a12, .ref a13, .ref a14, .ref a15, .ref a16, .int 0, .int 0, .int 0, .int 0, .int 0, .int 9999, .ref a17, .ref a18, .ref a19, .int 0, .ref a20, .int 0, .ref a21, .int 0, .int 0, .ref a22, .ref a23, .ref a24, .ref a25, .int 0, .ref a26, .int 0, .ref a27, .ref a28, .ref a29, .long 0, .ref a30, .ref a31, .ref a32, .ref a33, .ref a34, .ref a35, .ref a36, .ref a37, .ref a38, .int 0, .int 0, .int 0, .long 0, .ref a39, .int 0, .ref a40, .ref a41, .ref a42, .ref a43, .int 0, .int 0, .int 0, .int 0]))] H := hP
  have hD : va_D A [(a0, .inr (12, [.ref a1, .int 0, .int 0, .int 0, .int 0, .int 0, .int 0, .int 0, .int (-1), .ref a2, .ref a3, .ref a4, .ref a5, .ref a6, .ref a7, .ref a8, .ref a9, .ref a10, .ref a11, .ref a12, .ref a13, .ref a14, .ref a15, .ref a16, .int 0, .int 0, .int 0, .int 0, .int 0, .int 9999, .ref a17, .ref a18, .ref a19, .int 0, .ref a20, .int 0, .ref a21, .int 0, .int 0, .ref a22, .ref a23, .ref a24, .ref a25, .int 0, .ref a26, .int 0, .ref a27, .ref a28, .ref a29, .long 0, .ref a30, .ref a31, .ref a32, .ref a33, .ref a34, .ref a35, .ref a36, .ref a37, .ref a38, .int 0, .int 0, .int 0, .long 0, .ref a39, .int 0, .ref a40, .ref a41, .ref a42, .ref a43, .int 0, .int 0, .int 0, .int 0]))] := hD
  subst hw_3
  refine lv_if_eq (pc := 5) (tgt := 16) hx hb dX12_table_5 (by decide) (fun _ => ?_) (fun c => absurd (by decide +kernel) c)
  refine lv_ldcw (pc := 16) hx hb hown (hts _ tw_1783) dX12_table_16 ?_
  have hP9 := hP.sub (ws' := []) [] rfl
  have hD9 := hD.sub (ws' := []) [] (by decide) rfl
  refine W.widen (k := 0) (n := 0) (Nat.le_of_ble_eq_true rfl) (Nat.le_of_ble_eq_true rfl) ?_
  exact W.iret (v := (-1000000000)) hx hb hr (fun t ht hW => ⟨⟨(-1000000000), ((fun _ => 0), (fun _ => (fun _ => 0)), (fun _ => (fun _ => 0)), (fun _ => 0), (fun _ => 0)), rfl, rfl, by rw [ht]; exact hP9, hD9⟩, hS.F ht⟩) hS.2.2 dX12_table_19
set_option maxHeartbeats 4000000 in
set_option maxRecDepth 100000 in
theorem cc_61_yX1_isSender (l : Launch) (D : va_G) (cB cC cI cJ : ClassId) (sz : Nat) (a0 a1 a2 a3 : Nat) (x0 : Int32) : Met l yX1_isSender (.code yX1_isSender cX1_isSender 2 (some .boolean) :: lw_gd) ({ frames := 0, cells := 0, slots := 0, locals := 0 }) (gPre D [(cB, .byte), (cC, .char), (cI, .int), (cJ, .long)] [.ref a0, .int x0] [(a0, .inr (1, [.ref a1, .ref a2, .ref a3, .int 0, .int 0, .int 0, .int 0, .int 0, .int 9999, .int 0]))] sz) (va_Qi (fun r _ => r = 0) (gB D (va_A [(a0, .inr (1, [.ref a1, .ref a2, .ref a3, .int 0, .int 0, .int 0, .int 0, .int 0, .int 9999, .int 0]))] sz) (fun u : gEx => [(a0, .inr (1, [.ref a1, .ref a2, .ref a3, .int 0, .int 0, .int 0, .int 0, .int 0, .int 9999, .int 0]))])) (va_A [(a0, .inr (1, [.ref a1, .ref a2, .ref a3, .int 0, .int 0, .int 0, .int 0, .int 0, .int 9999, .int 0]))] sz)) 0 0 (va_A [(a0, .inr (1, [.ref a1, .ref a2, .ref a3, .int 0, .int 0, .int 0, .int 0, .int 0, .int 9999, .int 0]))] sz) := by
  refine Met.ofW (cc := cX1_isSender) (maxL := 2) (ret := (some .boolean)) (by decide) rfl ?_
  intro p e s m args below meth c s₁ B hml hv
  obtain ⟨rfl, hsz, hP, hK, hD0, hN⟩ := hv
  have hx := B.exec
  have hb := B.bytes
  have hr := B.returns
  have hts : ∀ w ∈ lw_gd, w.before _ s = true := fun w h => atoms_spec (ws := .code yX1_isSender cX1_isSender 2 (some .boolean) :: lw_gd) B.pre w (List.mem_cons_of_mem _ h)
  have hown : s.vm.findClass RX1 = some m.cls := findClass_of_methodNamed B.named
  have hlocks := B.notSynchronized
  subst hsz
  have hD := hD0.self (sz := s.heap.size)
  generalize hAe : va_A [(a0, .inr (1, [.ref a1, .ref a2, .ref a3, .int 0, .int 0, .int 0, .int 0, .int 0, .int 9999, .int 0]))] s.heap.size = A at hD ⊢
  have hA : ∀ q : Nat, s.heap.size ≤ q → A q := fun q h => by rw [← hAe]; exact Or.inr h
  have hS : va_S A s.heap s.heap [] := va_S.rf
  have hP : va_P D gcl [(a0, .inr (1, [.ref a1, .ref a2, .ref a3, .int 0, .int 0, .int 0, .int 0, .int 0, .int 9999, .int 0]))] s.heap := hP
  have hl := lv_entry ([.ref a0, .int x0]) (n := 2) (Nat.le_of_ble_eq_true rfl)
  rw [lg_entry_eq]
  generalize (lg_sl ([.ref a0, .int x0]) ++ List.replicate (2 - (lg_sl ([.ref a0, .int x0])).length) Slot.unset).toArray = ls at hl ⊢
  have hl : lv_has ls 2 [(0, .ref a0), (1, .int x0)] := hl
  refine lv_iload_n (pc := 0) hx hb dX1_isSender_0 rfl (lv_at hl 1 rfl) ?_
  refine lv_if_lt (pc := 1) (tgt := 16) hx hb dX1_isSender_1 (by decide) (fun c_1 => ?_) (fun c_1 => ?_)
  ·
    refine lv_iconst (pc := 16) (v := 0) hx hb dX1_isSender_16 (by decide) ?_
    have hP9 := hP.sub (ws' := [(a0, .inr (1, [.ref a1, .ref a2, .ref a3, .int 0, .int 0, .int 0, .int 0, .int 0, .int 9999, .int 0]))]) [0] rfl
    have hD9 := hD.sub (ws' := [(a0, .inr (1, [.ref a1, .ref a2, .ref a3, .int 0, .int 0, .int 0, .int 0, .int 0, .int 9999, .int 0]))]) [0] (by decide) rfl
    refine W.widen (k := 0) (n := 0) (Nat.le_of_ble_eq_true rfl) (Nat.le_of_ble_eq_true rfl) ?_
    exact W.zret (v := 0) hx hb hr (by decide +kernel) (fun t ht hW => ⟨⟨0, ((fun _ => 0), (fun _ => (fun _ => 0)), (fun _ => (fun _ => 0)), (fun _ => 0), (fun _ => 0)), rfl, rfl, by rw [ht]; exact hP9, hD9⟩, hS.F ht⟩) hS.2.2 dX1_isSender_17
  ·
    refine lv_iload_n (pc := 4) hx hb dX1_isSender_4 rfl (lv_at hl 1 rfl) ?_
    refine lv_aload_n (pc := 5) hx hb dX1_isSender_5 rfl (lv_at hl 0 rfl) ?_
    refine va_get (pc := 6) (ci := 1) (v := .int 0) (C := RX1) (T := TX1) (N := 10) hx hb hts iX1 hown hK hP 0 rfl rfl 4 (by decide) (hts _ tw_116) (fun _ h9 => h9) rfl dX1_isSender_6 ?_
    refine lv_icmp_ge (pc := 9) (tgt := 16) hx hb dX1_isSender_9 (by decide) (fun c_2 => ?_) (fun c_2 => ?_)
    ·
      refine lv_iconst (pc := 16) (v := 0) hx hb dX1_isSender_16 (by decide) ?_
      have hP9 := hP.sub (ws' := [(a0, .inr (1, [.ref a1, .ref a2, .ref a3, .int 0, .int 0, .int 0, .int 0, .int 0, .int 9999, .int 0]))]) [0] rfl
      have hD9 := hD.sub (ws' := [(a0, .inr (1, [.ref a1, .ref a2, .ref a3, .int 0, .int 0, .int 0, .int 0, .int 0, .int 9999, .int 0]))]) [0] (by decide) rfl
      refine W.widen (k := 0) (n := 0) (Nat.le_of_ble_eq_true rfl) (Nat.le_of_ble_eq_true rfl) ?_
      exact W.zret (v := 0) hx hb hr (by decide +kernel) (fun t ht hW => ⟨⟨0, ((fun _ => 0), (fun _ => (fun _ => 0)), (fun _ => (fun _ => 0)), (fun _ => 0), (fun _ => 0)), rfl, rfl, by rw [ht]; exact hP9, hD9⟩, hS.F ht⟩) hS.2.2 dX1_isSender_17
    · exact False.elim (by have z0 : (0 : Int32).toInt = 0 := (by decide +kernel); (try simp only [lg_cmp_ge, lg_cmp_le, lg_cmp_gt, lg_cmp_lt, lg_cmp_eq] at c_1 c_2); simp only [q_lt, q_le, q_eq, q_lt64, q_le64, q_eq64, q_wide, z0] at c_1 c_2; omega)
set_option maxHeartbeats 4000000 in
set_option maxRecDepth 100000 in
theorem cc_62_yX11_product (l : Launch) (D : va_G) (cB cC cI cJ : ClassId) (sz : Nat) (a0 a1 a2 a3 a4 a5 a6 a7 a8 a9 a10 a11 a12 a13 a14 a15 a16 : Nat) (x0 x1 : Int32) : Met l yX11_product (.code yX11_product cX11_product 4 (some .int) :: lw_gd) ({ frames := 1, cells := 0, slots := 0, locals := 21 }) (gPre D [(cB, .byte), (cC, .char), (cI, .int), (cJ, .long)] [.ref a0, .int x0, .int x1, .int 0] [(a0, .inr (11, [.ref a1, .ref a2, .ref a3, .ref a4, .ref a5, .ref a6, .ref a7, .ref a8, .ref a9, .ref a10, .int 0, .ref a11, .ref a12, .ref a13])), (a11, .inr (1, [.ref a14, .ref a15, .ref a16, .int 0, .int 0, .int 0, .int 0, .int 0, .int 9999, .int 0]))] sz) (va_Qi (fun r _ => r = (-1000000000)) (gB D (va_A [(a0, .inr (11, [.ref a1, .ref a2, .ref a3, .ref a4, .ref a5, .ref a6, .ref a7, .ref a8, .ref a9, .ref a10, .int 0, .ref a11, .ref a12, .ref a13])), (a11, .inr (1, [.ref a14, .ref a15, .ref a16, .int 0, .int 0, .int 0, .int 0, .int 0, .int 9999, .int 0]))] sz) (fun u : gEx => [])) (va_A [(a0, .inr (11, [.ref a1, .ref a2, .ref a3, .ref a4, .ref a5, .ref a6, .ref a7, .ref a8, .ref a9, .ref a10, .int 0, .ref a11, .ref a12, .ref a13])), (a11, .inr (1, [.ref a14, .ref a15, .ref a16, .int 0, .int 0, .int 0, .int 0, .int 0, .int 9999, .int 0]))] sz)) 0 0 (va_A [(a0, .inr (11, [.ref a1, .ref a2, .ref a3, .ref a4, .ref a5, .ref a6, .ref a7, .ref a8, .ref a9, .ref a10, .int 0, .ref a11, .ref a12, .ref a13])), (a11, .inr (1, [.ref a14, .ref a15, .ref a16, .int 0, .int 0, .int 0, .int 0, .int 0, .int 9999, .int 0]))] sz) := by
  refine Met.ofW (cc := cX11_product) (maxL := 4) (ret := (some .int)) (by decide) rfl ?_
  intro p e s m args below meth c s₁ B hml hv
  obtain ⟨rfl, hsz, hP, hK, hD0, hN⟩ := hv
  have hx := B.exec
  have hb := B.bytes
  have hr := B.returns
  have hts : ∀ w ∈ lw_gd, w.before _ s = true := fun w h => atoms_spec (ws := .code yX11_product cX11_product 4 (some .int) :: lw_gd) B.pre w (List.mem_cons_of_mem _ h)
  have hown : s.vm.findClass RX11 = some m.cls := findClass_of_methodNamed B.named
  have hlocks := B.notSynchronized
  subst hsz
  have hD := hD0.self (sz := s.heap.size)
  generalize hAe : va_A [(a0, .inr (11, [.ref a1, .ref a2, .ref a3, .ref a4, .ref a5, .ref a6, .ref a7, .ref a8, .ref a9, .ref a10, .int 0, .ref a11, .ref a12, .ref a13])), (a11, .inr (1, [.ref a14, .ref a15, .ref a16, .int 0, .int 0, .int 0, .int 0, .int 0, .int 9999, .int 0]))] s.heap.size = A at hD ⊢
  have hA : ∀ q : Nat, s.heap.size ≤ q → A q := fun q h => by rw [← hAe]; exact Or.inr h
  have hS : va_S A s.heap s.heap [] := va_S.rf
  have hP : va_P D gcl [(a0, .inr (11, [.ref a1, .ref a2, .ref a3, .ref a4, .ref a5, .ref a6, .ref a7, .ref a8, .ref a9, .ref a10, .int 0, .ref a11, .ref a12, .ref a13])), (a11, .inr (1, [.ref a14, .ref a15, .ref a16, .int 0, .int 0, .int 0, .int 0, .int 0, .int 9999, .int 0]))] s.heap := hP
  have hl := lv_entry ([.ref a0, .int x0, .int x1, .int 0]) (n := 4) (Nat.le_of_ble_eq_true rfl)
  rw [lg_entry_eq]
  generalize (lg_sl ([.ref a0, .int x0, .int x1, .int 0]) ++ List.replicate (4 - (lg_sl ([.ref a0, .int x0, .int x1, .int 0])).length) Slot.unset).toArray = ls at hl ⊢
  have hl : lv_has ls 4 [(0, .ref a0), (1, .int x0), (2, .int x1), (3, .int 0)] := hl
  refine lv_aload_n (pc := 0) hx hb dX11_product_0 rfl (lv_at hl 0 rfl) ?_
  refine va_get (pc := 1) (ci := 11) (v := .ref a11) (C := RX11) (T := TX11) (N := 14) hx hb hts iX11 hown hK hP 0 rfl rfl 11 (by decide) (hts _ tw_431) (fun _ h9 => h9) rfl dX11_product_1 ?_
  refine lv_iload_n (pc := 4) hx hb dX11_product_4 rfl (lv_at hl 1 rfl) ?_
  refine gc_i (pc := 5) (wc := [(a11, .inr (1, [.ref a14, .ref a15, .ref a16, .int 0, .int 0, .int 0, .int 0, .int 0, .int 9999, .int 0]))]) (wr := [(a0, .inr (11, [.ref a1, .ref a2, .ref a3, .ref a4, .ref a5, .ref a6, .ref a7, .ref a8, .ref a9, .ref a10, .int 0, .ref a11, .ref a12, .ref a13]))]) hP hD hS hA [1] [0] rfl rfl (by decide) (by decide) (by decide) (fun hPc hDc => va_runV (As := [.int x0]) (rest := []) ⟨hx, hb, hml, hown, hts⟩ (cc_61_yX1_isSender l D cB cC cI cJ _ a11 a14 a15 a16 x0) ⟨gcwB hts tw_782 tw_4 tw_779 hd_yX1_isSender ⟨Nat.le_of_ble_eq_true rfl, Nat.le_of_ble_eq_true rfl⟩, hts _ tw_780, hts _ tw_781⟩ ⟨gblind, va_recv hK hPc (ci := 1) (q0 := 0) rfl rfl, (gpreS hPc hK hDc hN).2⟩ rfl rfl hl.1 rfl (lv_room (Nat.le_of_ble_eq_true rfl)) dX11_product_5 ⟨Nat.le_of_ble_eq_true rfl, Nat.le_of_ble_eq_true rfl⟩) (fun r_2 u_1 H locs hw_3 hP hD hS => ?_)
  have hP : va_P D gcl [(a0, .inr (11, [.ref a1, .ref a2, .ref a3, .ref a4, .ref a5, .ref a6, .ref a7, .ref a8, .ref a9, .ref a10, .int 0, .ref a11, .ref a12, .ref a13])), (a11, .inr (1, [.ref a14, .ref a15, .ref a16, .int 0, .int 0, .int 0, .int 0, .int 0, .int 9999, .int 0]))] H := hP
  have hD : va_D A [(a0, .inr (11, [.ref a1, .ref a2, .ref a3, .ref a4, .ref a5, .ref a6, .ref a7, .ref a8, .ref a9, .ref a10, .int 0, .ref a11, .ref a12, .ref a13])), (a11, .inr (1, [.ref a14, .ref a15, .ref a16, .int 0, .int 0, .int 0, .int 0, .int 0, .int 9999, .int 0]))] := hD
  subst hw_3
  refine lv_if_eq (pc := 8) (tgt := 22) hx hb dX11_product_8 (by decide) (fun _ => ?_) (fun c => absurd (by decide +kernel) c)
  refine lv_ldc (pc := 22) hx hb hown (hts _ tw_783) dX11_product_22 ?_
  have hP9 := hP.sub (ws' := []) [] rfl
  have hD9 := hD.sub (ws' := []) [] (by decide) rfl
  refine W.widen (k := 0) (n := 0) (Nat.le_of_ble_eq_true rfl) (Nat.le_of_ble_eq_true rfl) ?_
  exact W.iret (v := (-1000000000)) hx hb hr (fun t ht hW => ⟨⟨(-1000000000), ((fun _ => 0), (fun _ => (fun _ => 0)), (fun _ => (fun _ => 0)), (fun _ => 0), (fun _ => 0)), rfl, rfl, by rw [ht]; exact hP9, hD9⟩, hS.F ht⟩) hS.2.2 dX11_product_24
set_option maxHeartbeats 4000000 in
set_option maxRecDepth 100000 in
theorem cc_63_yX12_isSender (l : Launch) (D : va_G) (cB cC cI cJ : ClassId) (sz : Nat) (a0 a1 a2 a3 a4 a5 a6 a7 a8 a9 a10 a11 a12 a13 a14 a15 a16 a17 a18 a19 a20 a21 a22 a23 a24 a25 a26 a27 a28 a29 a30 a31 a32 a33 a34 a35 a36 a37 a38 a39 a40 a41 a42 a43 : Nat) (x0 : Int32) : Met l yX12_isSender (.code yX12_isSender cX12_isSender 2 (some .boolean) :: lw_gd) ({ frames := 1, cells := 0, slots := 0, locals := 25 }) (gPre D [(cB, .byte), (cC, .char), (cI, .int), (cJ, .long)] [.ref a0, .int x0] [(a0, .inr (12, [.ref a1, .int 0, .int 0, .int 0, .int 0, .int 0, .int 0, .int 0, .int (-1), .ref a2, .ref a3, .ref a4, .ref a5, .ref a6, .ref a7, .ref a8, .ref a9, .ref a10, .ref a11, .ref a12, .ref a13, .ref a14, .ref a15, .ref a16, .int 0, .int 0, .int 0, .int 0, .int 0, .int 9999, .ref a17, .ref a18, .ref a19, .int 0, .ref a20, .int 0, .ref a21, .int 0, .int 0, .ref a22, .ref a23, .ref a24, .ref a25, .int 0, .ref a26, .int 0, .ref a27, .ref a28, .ref a29, .long 0, .ref a30, .ref a31, .ref a32, .ref a33, .ref a34, .ref a35, .ref a36, .ref a37, .ref a38, .int 0, .int 0, .int 0, .long 0, .ref a39, .int 0, .ref a40, .ref a41, .ref a42, .ref a43, .int 0, .int 0, .int 0, .int 0]))] sz) (va_Qi (fun r _ => r = 0) (gB D (va_A [(a0, .inr (12, [.ref a1, .int 0, .int 0, .int 0, .int 0, .int 0, .int 0, .int 0, .int (-1), .ref a2, .ref a3, .ref a4, .ref a5, .ref a6, .ref a7, .ref a8, .ref a9, .ref a10, .ref a11, .ref a12, .ref a13, .ref a14, .ref a15, .ref a16, .int 0, .int 0, .int 0, .int 0, .int 0, .int 9999, .ref a17, .ref a18, .ref a19, .int 0, .ref a20, .int 0, .ref a21, .int 0, .int 0, .ref a22, .ref a23, .ref a24, .ref a25, .int 0, .ref a26, .int 0, .ref a27, .ref a28, .ref a29, .long 0, .ref a30, .ref a31, .ref a32, .ref a33, .ref a34, .ref a35, .ref a36, .ref a37, .ref a38, .int 0, .int 0, .int 0, .long 0, .ref a39, .int 0, .ref a40, .ref a41, .ref a42, .ref a43, .int 0, .int 0, .int 0, .int 0]))] sz) (fun u : gEx => [(a0, .inr (12, [.ref a1, .int 0, .int 0, .int 0, .int 0, .int 0, .int 0, .int 0, .int (-1), .ref a2, .ref a3, .ref a4, .ref a5, .ref a6, .ref a7, .ref a8, .ref a9, .ref a10, .ref a11, .ref a12, .ref a13, .ref a14, .ref a15, .ref a16, .int 0, .int 0, .int 0, .int 0, .int 0, .int 9999, .ref a17, .ref a18, .ref a19, .int 0, .ref a20, .int 0, .ref a21, .int 0, .int 0, .ref a22, .ref a23, .ref a24, .ref a25, .int 0, .ref a26, .int 0, .ref a27, .ref a28, .ref a29, .long 0, .ref a30, .ref a31, .ref a32, .ref a33, .ref a34, .ref a35, .ref a36, .ref a37, .ref a38, .int 0, .int 0, .int 0, .long 0, .ref a39, .int 0, .ref a40, .ref a41, .ref a42, .ref a43, .int 0, .int 0, .int 0, .int 0]))])) (va_A [(a0, .inr (12, [.ref a1, .int 0, .int 0, .int 0, .int 0, .int 0, .int 0, .int 0, .int (-1), .ref a2, .ref a3, .ref a4, .ref a5, .ref a6, .ref a7, .ref a8, .ref a9, .ref a10, .ref a11, .ref a12, .ref a13, .ref a14, .ref a15, .ref a16, .int 0, .int 0, .int 0, .int 0, .int 0, .int 9999, .ref a17, .ref a18, .ref a19, .int 0, .ref a20, .int 0, .ref a21, .int 0, .int 0, .ref a22, .ref a23, .ref a24, .ref a25, .int 0, .ref a26, .int 0, .ref a27, .ref a28, .ref a29, .long 0, .ref a30, .ref a31, .ref a32, .ref a33, .ref a34, .ref a35, .ref a36, .ref a37, .ref a38, .int 0, .int 0, .int 0, .long 0, .ref a39, .int 0, .ref a40, .ref a41, .ref a42, .ref a43, .int 0, .int 0, .int 0, .int 0]))] sz)) 0 0 (va_A [(a0, .inr (12, [.ref a1, .int 0, .int 0, .int 0, .int 0, .int 0, .int 0, .int 0, .int (-1), .ref a2, .ref a3, .ref a4, .ref a5, .ref a6, .ref a7, .ref a8, .ref a9, .ref a10, .ref a11, .ref a12, .ref a13, .ref a14, .ref a15, .ref a16, .int 0, .int 0, .int 0, .int 0, .int 0, .int 9999, .ref a17, .ref a18, .ref a19, .int 0, .ref a20, .int 0, .ref a21, .int 0, .int 0, .ref a22, .ref a23, .ref a24, .ref a25, .int 0, .ref a26, .int 0, .ref a27, .ref a28, .ref a29, .long 0, .ref a30, .ref a31, .ref a32, .ref a33, .ref a34, .ref a35, .ref a36, .ref a37, .ref a38, .int 0, .int 0, .int 0, .long 0, .ref a39, .int 0, .ref a40, .ref a41, .ref a42, .ref a43, .int 0, .int 0, .int 0, .int 0]))] sz) := by
  refine Met.ofW (cc := cX12_isSender) (maxL := 2) (ret := (some .boolean)) (by decide) rfl ?_
  intro p e s m args below meth c s₁ B hml hv
  obtain ⟨rfl, hsz, hP, hK, hD0, hN⟩ := hv
  have hx := B.exec
  have hb := B.bytes
  have hr := B.returns
  have hts : ∀ w ∈ lw_gd, w.before _ s = true := fun w h => atoms_spec (ws := .code yX12_isSender cX12_isSender 2 (some .boolean) :: lw_gd) B.pre w (List.mem_cons_of_mem _ h)
  have hown : s.vm.findClass RX12 = some m.cls := findClass_of_methodNamed B.named
  have hlocks := B.notSynchronized
  subst hsz
  have hD := hD0.self (sz := s.heap.size)
  generalize hAe : va_A [(a0, .inr (12, [.ref a1, .int 0, .int 0, .int 0, .int 0, .int 0, .int 0, .int 0, .int (-1), .ref a2, .ref a3, .ref a4, .ref a5, .ref a6, .ref a7, .ref a8, .ref a9, .ref a10, .ref a11, .ref a12, .ref a13, .ref a14, .ref a15, .ref a16, .int 0, .int 0, .int 0, .int 0, .int 0, .int 9999, .ref a17, .ref a18, .ref a19, .int 0, .ref a20, .int 0, .ref a21, .int 0, .int 0, .ref a22, .ref a23, .ref a24, .ref a25, .int 0, .ref a26, .int 0, .ref a27, .ref a28, .ref a29, .long 0, .ref a30, .ref a31, .ref a32, .ref a33, .ref a34, .ref a35, .ref a36, .ref a37, .ref a38, .int 0, .int 0, .int 0, .long 0, .ref a39, .int 0, .ref a40, .ref a41, .ref a42, .ref a43, .int 0, .int 0, .int 0, .int 0]))] s.heap.size = A at hD ⊢
  have hA : ∀ q : Nat, s.heap.size ≤ q → A q := fun q h => by rw [← hAe]; exact Or.inr h
  have hS : va_S A s.heap s.heap [] := va_S.rf
  have hP : va_P D gcl [(a0, .inr (12, [.ref a1, .int 0, .int 0, .int 0, .int 0, .int 0, .int 0, .int 0, .int (-1), .ref a2, .ref a3, .ref a4, .ref a5, .ref a6, .ref a7, .ref a8, .ref a9, .ref a10, .ref a11, .ref a12, .ref a13, .ref a14, .ref a15, .ref a16, .int 0, .int 0, .int 0, .int 0, .int 0, .int 9999, .ref a17, .ref a18, .ref a19, .int 0, .ref a20, .int 0, .ref a21, .int 0, .int 0, .ref a22, .ref a23, .ref a24, .ref a25, .int 0, .ref a26, .int 0, .ref a27, .ref a28, .ref a29, .long 0, .ref a30, .ref a31, .ref a32, .ref a33, .ref a34, .ref a35, .ref a36, .ref a37, .ref a38, .int 0, .int 0, .int 0, .long 0, .ref a39, .int 0, .ref a40, .ref a41, .ref a42, .ref a43, .int 0, .int 0, .int 0, .int 0]))] s.heap := hP
  have hl := lv_entry ([.ref a0, .int x0]) (n := 2) (Nat.le_of_ble_eq_true rfl)
  rw [lg_entry_eq]
  generalize (lg_sl ([.ref a0, .int x0]) ++ List.replicate (2 - (lg_sl ([.ref a0, .int x0])).length) Slot.unset).toArray = ls at hl ⊢
  have hl : lv_has ls 2 [(0, .ref a0), (1, .int x0)] := hl
  refine lv_iload_n (pc := 0) hx hb dX12_isSender_0 rfl (lv_at hl 1 rfl) ?_
  refine lv_i2l (pc := 1) (v := (x0.toInt64)) hx hb dX12_isSender_1 rfl ?_
  refine lv_lconst (pc := 2) (v := 0) hx hb dX12_isSender_2 (by decide) ?_
  refine lv_aload_n (pc := 3) hx hb dX12_isSender_3 rfl (lv_at hl 0 rfl) ?_
  refine va_get (pc := 4) (ci := 12) (v := .int 0) (C := RX12) (T := TX12) (N := 73) hx hb hts iX12 hown hK hP 0 rfl rfl 25 (by decide) (hts _ tw_1426) (fun _ h9 => h9) rfl dX12_isSender_4 ?_
  refine lv_iconst (pc := 7) (v := 1) hx hb dX12_isSender_7 (by decide) ?_
  refine lv_isub (pc := 8) hx hb dX12_isSender_8 ?_
  refine gI (y := (-1)) (by decide +kernel) ?_
  refine lv_i2l (pc := 9) (v := (-1)) hx hb dX12_isSender_9 (by decide +kernel) ?_
  refine gc_i (pc := 10) (wc := []) (wr := [(a0, .inr (12, [.ref a1, .int 0, .int 0, .int 0, .int 0, .int 0, .int 0, .int 0, .int (-1), .ref a2, .ref a3, .ref a4, .ref a5, .ref a6, .ref a7, .ref a8, .ref a9, .ref a10, .ref a11, .ref a12, .ref a13, .ref a14, .ref a15, .ref a16, .int 0, .int 0, .int 0, .int 0, .int 0, .int 9999, .ref a17, .ref a18, .ref a19, .int 0, .ref a20, .int 0, .ref a21, .int 0, .int 0, .ref a22, .ref a23, .ref a24, .ref a25, .int 0, .ref a26, .int 0, .ref a27, .ref a28, .ref a29, .long 0, .ref a30, .ref a31, .ref a32, .ref a33, .ref a34, .ref a35, .ref a36, .ref a37, .ref a38, .int 0, .int 0, .int 0, .long 0, .ref a39, .int 0, .ref a40, .ref a41, .ref a42, .ref a43, .int 0, .int 0, .int 0, .int 0]))]) hP hD hS hA [] [0] rfl rfl (by decide) (by decide) (by decide) (fun hPc hDc => va_runS (As := [.long (x0.toInt64), .long 0, .long (-1)]) (rest := []) ⟨hx, hb, hml, hown, hts⟩ (cc_56_yX12_isIn l D cB cC cI cJ _ (x0.toInt64)) ⟨gcwB hts tw_1666 tw_14 tw_1664 hd_yX12_isIn ⟨Nat.le_of_ble_eq_true rfl, Nat.le_of_ble_eq_true rfl⟩, hts _ tw_1665⟩ (gpreS hPc hK hDc hN) rfl rfl hl.1 rfl (lv_room (Nat.le_of_ble_eq_true rfl)) dX12_isSender_10 ⟨Nat.le_of_ble_eq_true rfl, Nat.le_of_ble_eq_true rfl⟩) (fun r_2 u_1 H locs hw_3 hP hD hS => ?_)
  have hP : va_P D gcl [(a0, .inr (12, [.ref a1, .int 0, .int 0, .int 0, .int 0, .int 0, .int 0, .int 0, .int (-1), .ref a2, .ref a3, .ref a4, .ref a5, .ref a6, .ref a7, .ref a8, .ref a9, .ref a10, .ref a11, .ref a12, .ref a13, .ref a14, .ref a15, .ref a16, .int 0, .int 0, .int 0, .int 0, .int 0, .int 9999, .ref a17, .ref a18, .ref a19, .int 0, .ref a20, .int 0, .ref a21, .int 0, .int 0, .ref a22, .ref a23, .ref a24, .ref a25, .int 0, .ref a26, .int 0, .ref a27, .ref a28, .ref a29, .long 0, .ref a30, .ref a31, .ref a32, .ref a33, .ref a34, .ref a35, .ref a36, .ref a37, .ref a38, .int 0, .int 0, .int 0, .long 0, .ref a39, .int 0, .ref a40, .ref a41, .ref a42, .ref a43, .int 0, .int 0, .int 0, .int 0]))] H := hP
  have hD : va_D A [(a0, .inr (12, [.ref a1, .int 0, .int 0, .int 0, .int 0, .int 0, .int 0, .int 0, .int (-1), .ref a2, .ref a3, .ref a4, .ref a5, .ref a6, .ref a7, .ref a8, .ref a9, .ref a10, .ref a11, .ref a12, .ref a13, .ref a14, .ref a15, .ref a16, .int 0, .int 0, .int 0, .int 0, .int 0, .int 9999, .ref a17, .ref a18, .ref a19, .int 0, .ref a20, .int 0, .ref a21, .int 0, .int 0, .ref a22, .ref a23, .ref a24, .ref a25, .int 0, .ref a26, .int 0, .ref a27, .ref a28, .ref a29, .long 0, .ref a30, .ref a31, .ref a32, .ref a33, .ref a34, .ref a35, .ref a36, .ref a37, .ref a38, .int 0, .int 0, .int 0, .long 0, .ref a39, .int 0, .ref a40, .ref a41, .ref a42, .ref a43, .int 0, .int 0, .int 0, .int 0]))] := hD
  subst hw_3
  have hP9 := hP.sub (ws' := [(a0, .inr (12, [.ref a1, .int 0, .int 0, .int 0, .int 0, .int 0, .int 0, .int 0, .int (-1), .ref a2, .ref a3, .ref a4, .ref a5, .ref a6, .ref a7, .ref a8, .ref a9, .ref a10, .ref a11, .ref a12, .ref a13, .ref a14, .ref a15, .ref a16, .int 0, .int 0, .int 0, .int 0, .int 0, .int 9999, .ref a17, .ref a18, .ref a19, .int 0, .ref a20, .int 0, .ref a21, .int 0, .int 0, .ref a22, .ref a23, .ref a24, .ref a25, .int 0, .ref a26, .int 0, .ref a27, .ref a28, .ref a29, .long 0, .ref a30, .ref a31, .ref a32, .ref a33, .ref a34, .ref a35, .ref a36, .ref a37, .ref a38, .int 0, .int 0, .int 0, .long 0, .ref a39, .int 0, .ref a40, .ref a41, .ref a42, .ref a43, .int 0, .int 0, .int 0, .int 0]))]) [0] rfl
  have hD9 := hD.sub (ws' := [(a0, .inr (12, [.ref a1, .int 0, .int 0, .int 0, .int 0, .int 0, .int 0, .int 0, .int (-1), .ref a2, .ref a3, .ref a4, .ref a5, .ref a6, .ref a7, .ref a8, .ref a9, .ref a10, .ref a11, .ref a12, .ref a13, .ref a14, .ref a15, .ref a16, .int 0, .int 0, .int 0, .int 0, .int 0, .int 9999, .ref a17, .ref a18, .ref a19, .int 0, .ref a20, .int 0, .ref a21, .int 0, .int 0, .ref a22, .ref a23, .ref a24, .ref a25, .int 0, .ref a26, .int 0, .ref a27, .ref a28, .ref a29, .long 0, .ref a30, .ref a31, .ref a32, .ref a33, .ref a34, .ref a35, .ref a36, .ref a37, .ref a38, .int 0, .int 0, .int 0, .long 0, .ref a39, .int 0, .ref a40, .ref a41, .ref a42, .ref a43, .int 0, .int 0, .int 0, .int 0]))]) [0] (by decide) rfl
  refine W.widen (k := 0) (n := 0) (Nat.le_of_ble_eq_true rfl) (Nat.le_of_ble_eq_true rfl) ?_
  exact W.zret (v := 0) hx hb hr (by decide +kernel) (fun t ht hW => ⟨⟨0, ((fun _ => 0), (fun _ => (fun _ => 0)), (fun _ => (fun _ => 0)), (fun _ => 0), (fun _ => 0)), rfl, rfl, by rw [ht]; exact hP9, hD9⟩, hS.F ht⟩) hS.2.2 dX12_isSender_13
set_option maxHeartbeats 4000000 in
set_option maxRecDepth 100000 in
theorem cc_64_yX12_product (l : Launch) (D : va_G) (cB cC cI cJ : ClassId) (sz : Nat) (a0 a1 a2 a3 a4 a5 a6 a7 a8 a9 a10 a11 a12 a13 a14 a15 a16 a17 a18 a19 a20 a21 a22 a23 a24 a25 a26 a27 a28 a29 a30 a31 a32 a33 a34 a35 a36 a37 a38 a39 a40 a41 a42 a43 : Nat) (x0 x1 : Int32) : Met l yX12_product (.code yX12_product cX12_product 4 (some .int) :: lw_gd) ({ frames := 2, cells := 0, slots := 0, locals := 46 }) (gPre D [(cB, .byte), (cC, .char), (cI, .int), (cJ, .long)] [.ref a0, .int x0, .int x1, .int 0] [(a0, .inr (12, [.ref a1, .int 0, .int 0, .int 0, .int 0, .int 0, .int 0, .int 0, .int (-1), .ref a2, .ref a3, .ref a4, .ref a5, .ref a6, .ref a7, .ref a8, .ref a9, .ref a10, .ref a11, .ref a12, .ref a13, .ref a14, .ref a15, .ref a16, .int 0, .int 0, .int 0, .int 0, .int 0, .int 9999, .ref a17, .ref a18, .ref a19, .int 0, .ref a20, .int 0, .ref a21, .int 0, .int 0, .ref a22, .ref a23, .ref a24, .ref a25, .int 0, .ref a26, .int 0, .ref a27, .ref a28, .ref a29, .long 0, .ref a30, .ref a31, .ref a32, .ref a33, .ref a34, .ref a35, .ref a36, .ref a37, .ref a38, .int 0, .int 0, .int 0, .long 0, .ref a39, .int 0, .ref a40, .ref a41, .ref a42, .ref a43, .int 0, .int 0, .int 0, .int 0]))] sz) (va_Qi (fun r _ => r = (-1000000000)) (gB D (va_A [(a0, .inr (12, [.ref a1, .int 0, .int 0, .int 0, .int 0, .int 0, .int 0, .int 0, .int (-1), .ref a2, .ref a3, .ref a4, .ref a5, .ref a6, .ref a7, .ref a8, .ref a9, .ref a10, .ref a11, .ref a12, .ref a13, .ref a14, .ref a15, .ref a16, .int 0, .int 0, .int 0, .int 0, .int 0, .int 9999, .ref a17, .ref a18, .ref a19, .int 0, .ref a20, .int 0, .ref a21, .int 0, .int 0, .ref a22, .ref a23, .ref a24, .ref a25, .int 0, .ref a26, .int 0, .ref a27, .ref a28, .ref a29, .long 0, .ref a30, .ref a31, .ref a32, .ref a33, .ref a34, .ref a35, .ref a36, .ref a37, .ref a38, .int 0, .int 0, .int 0, .long 0, .ref a39, .int 0, .ref a40, .ref a41, .ref a42, .ref a43, .int 0, .int 0, .int 0, .int 0]))] sz) (fun u : gEx => [])) (va_A [(a0, .inr (12, [.ref a1, .int 0, .int 0, .int 0, .int 0, .int 0, .int 0, .int 0, .int (-1), .ref a2, .ref a3, .ref a4, .ref a5, .ref a6, .ref a7, .ref a8, .ref a9, .ref a10, .ref a11, .ref a12, .ref a13, .ref a14, .ref a15, .ref a16, .int 0, .int 0, .int 0, .int 0, .int 0, .int 9999, .ref a17, .ref a18, .ref a19, .int 0, .ref a20, .int 0, .ref a21, .int 0, .int 0, .ref a22, .ref a23, .ref a24, .ref a25, .int 0, .ref a26, .int 0, .ref a27, .ref a28, .ref a29, .long 0, .ref a30, .ref a31, .ref a32, .ref a33, .ref a34, .ref a35, .ref a36, .ref a37, .ref a38, .int 0, .int 0, .int 0, .long 0, .ref a39, .int 0, .ref a40, .ref a41, .ref a42, .ref a43, .int 0, .int 0, .int 0, .int 0]))] sz)) 0 0 (va_A [(a0, .inr (12, [.ref a1, .int 0, .int 0, .int 0, .int 0, .int 0, .int 0, .int 0, .int (-1), .ref a2, .ref a3, .ref a4, .ref a5, .ref a6, .ref a7, .ref a8, .ref a9, .ref a10, .ref a11, .ref a12, .ref a13, .ref a14, .ref a15, .ref a16, .int 0, .int 0, .int 0, .int 0, .int 0, .int 9999, .ref a17, .ref a18, .ref a19, .int 0, .ref a20, .int 0, .ref a21, .int 0, .int 0, .ref a22, .ref a23, .ref a24, .ref a25, .int 0, .ref a26, .int 0, .ref a27, .ref a28, .ref a29, .long 0, .ref a30, .ref a31, .ref a32, .ref a33, .ref a34, .ref a35, .ref a36, .ref a37, .ref a38, .int 0, .int 0, .int 0, .long 0, .ref a39, .int 0, .ref a40, .ref a41, .ref a42, .ref a43, .int 0, .int 0, .int 0, .int 0]))] sz) := by
  refine Met.ofW (cc := cX12_product) (maxL := 4) (ret := (some .int)) (by decide) rfl ?_
  intro p e s m args below meth c s₁ B hml hv
  obtain ⟨rfl, hsz, hP, hK, hD0, hN⟩ := hv
  have hx := B.exec
  have hb := B.bytes
  have hr := B.returns
  have hts : ∀ w ∈ lw_gd, w.before _ s = true := fun w h => atoms_spec (ws := .code yX12_product cX12_product 4 (some .int) :: lw_gd) B.pre w (List.mem_cons_of_mem _ h)
  have hown : s.vm.findClass RX12 = some m.cls := findClass_of_methodNamed B.named
  have hlocks := B.notSynchronized
  subst hsz
  have hD := hD0.self (sz := s.heap.size)
  generalize hAe : va_A [(a0, .inr (12, [.ref a1, .int 0, .int 0, .int 0, .int 0, .int 0, .int 0, .int 0, .int (-1), .ref a2, .ref a3, .ref a4, .ref a5, .ref a6, .ref a7, .ref a8, .ref a9, .ref a10, .ref a11, .ref a12, .ref a13, .ref a14, .ref a15, .ref a16, .int 0, .int 0, .int 0, .int 0, .int 0, .int 9999, .ref a17, .ref a18, .ref a19, .int 0, .ref a20, .int 0, .ref a21, .int 0, .int 0, .ref a22, .ref a23, .ref a24, .ref a25, .int 0, .ref a26, .int 0, .ref a27, .ref a28, .ref a29, .long 0, .ref a30, .ref a31, .ref a32, .ref a33, .ref a34, .ref a35, .ref a36, .ref a37, .ref a38, .int 0, .int 0, .int 0, .long 0, .ref a39, .int 0, .ref a40, .ref a41, .ref a42, .ref a43, .int 0, .int 0, .int 0, .int 0]))] s.heap.size = A at hD ⊢
  have hA : ∀ q : Nat, s.heap.size ≤ q → A q := fun q h => by rw [← hAe]; exact Or.inr h
  have hS : va_S A s.heap s.heap [] := va_S.rf
  have hP : va_P D gcl [(a0, .inr (12, [.ref a1, .int 0, .int 0, .int 0, .int 0, .int 0, .int 0, .int 0, .int (-1), .ref a2, .ref a3, .ref a4, .ref a5, .ref a6, .ref a7, .ref a8, .ref a9, .ref a10, .ref a11, .ref a12, .ref a13, .ref a14, .ref a15, .ref a16, .int 0, .int 0, .int 0, .int 0, .int 0, .int 9999, .ref a17, .ref a18, .ref a19, .int 0, .ref a20, .int 0, .ref a21, .int 0, .int 0, .ref a22, .ref a23, .ref a24, .ref a25, .int 0, .ref a26, .int 0, .ref a27, .ref a28, .ref a29, .long 0, .ref a30, .ref a31, .ref a32, .ref a33, .ref a34, .ref a35, .ref a36, .ref a37, .ref a38, .int 0, .int 0, .int 0, .long 0, .ref a39, .int 0, .ref a40, .ref a41, .ref a42, .ref a43, .int 0, .int 0, .int 0, .int 0]))] s.heap := hP
  have hl := lv_entry ([.ref a0, .int x0, .int x1, .int 0]) (n := 4) (Nat.le_of_ble_eq_true rfl)
  rw [lg_entry_eq]
  generalize (lg_sl ([.ref a0, .int x0, .int x1, .int 0]) ++ List.replicate (4 - (lg_sl ([.ref a0, .int x0, .int x1, .int 0])).length) Slot.unset).toArray = ls at hl ⊢
  have hl : lv_has ls 4 [(0, .ref a0), (1, .int x0), (2, .int x1), (3, .int 0)] := hl
  refine lv_aload_n (pc := 0) hx hb dX12_product_0 rfl (lv_at hl 0 rfl) ?_
  refine lv_iload_n (pc := 1) hx hb dX12_product_1 rfl (lv_at hl 1 rfl) ?_
  refine gc_i (pc := 2) (wc := [(a0, .inr (12, [.ref a1, .int 0, .int 0, .int 0, .int 0, .int 0, .int 0, .int 0, .int (-1), .ref a2, .ref a3, .ref a4, .ref a5, .ref a6, .ref a7, .ref a8, .ref a9, .ref a10, .ref a11, .ref a12, .ref a13, .ref a14, .ref a15, .ref a16, .int 0, .int 0, .int 0, .int 0, .int 0, .int 9999, .ref a17, .ref a18, .ref a19, .int 0, .ref a20, .int 0, .ref a21, .int 0, .int 0, .ref a22, .ref a23, .ref a24, .ref a25, .int 0, .ref a26, .int 0, .ref a27, .ref a28, .ref a29, .long 0, .ref a30, .ref a31, .ref a32, .ref a33, .ref a34, .ref a35, .ref a36, .ref a37, .ref a38, .int 0, .int 0, .int 0, .long 0, .ref a39, .int 0, .ref a40, .ref a41, .ref a42, .ref a43, .int 0, .int 0, .int 0, .int 0]))]) (wr := []) hP hD hS hA [0] [] rfl rfl (by decide) (by decide) (by decide) (fun hPc hDc => va_runV (As := [.int x0]) (rest := []) ⟨hx, hb, hml, hown, hts⟩ (cc_63_yX12_isSender l D cB cC cI cJ _ a0 a1 a2 a3 a4 a5 a6 a7 a8 a9 a10 a11 a12 a13 a14 a15 a16 a17 a18 a19 a20 a21 a22 a23 a24 a25 a26 a27 a28 a29 a30 a31 a32 a33 a34 a35 a36 a37 a38 a39 a40 a41 a42 a43 x0) ⟨gcwB hts tw_1782 tw_14 tw_1779 hd_yX12_isSender ⟨Nat.le_of_ble_eq_true rfl, Nat.le_of_ble_eq_true rfl⟩, hts _ tw_1781, hts _ tp_89⟩ ⟨gblind, va_recv hK hPc (ci := 12) (q0 := 0) rfl rfl, (gpreS hPc hK hDc hN).2⟩ rfl rfl hl.1 rfl (lv_room (Nat.le_of_ble_eq_true rfl)) dX12_product_2 ⟨Nat.le_of_ble_eq_true rfl, Nat.le_of_ble_eq_true rfl⟩) (fun r_2 u_1 H locs hw_3 hP hD hS => ?_)
  have hP : va_P D gcl [(a0, .inr (12, [.ref a1, .int 0, .int 0, .int 0, .int 0, .int 0, .int 0, .int 0, .int (-1), .ref a2, .ref a3, .ref a4, .ref a5, .ref a6, .ref a7, .ref a8, .ref a9, .ref a10, .ref a11, .ref a12, .ref a13, .ref a14, .ref a15, .ref a16, .int 0, .int 0, .int 0, .int 0, .int 0, .int 9999, .ref a17, .ref a18, .ref a19, .int 0, .ref a20, .int 0, .ref a21, .int 0, .int 0, .ref a22, .ref a23, .ref a24, .ref a25, .int 0, .ref a26, .int 0, .ref a27, .ref a28, .ref a29, .long 0, .ref a30, .ref a31, .ref a32, .ref a33, .ref a34, .ref a35, .ref a36, .ref a37, .ref a38, .int 0, .int 0, .int 0, .long 0, .ref a39, .int 0, .ref a40, .ref a41, .ref a42, .ref a43, .int 0, .int 0, .int 0, .int 0]))] H := hP
  have hD : va_D A [(a0, .inr (12, [.ref a1, .int 0, .int 0, .int 0, .int 0, .int 0, .int 0, .int 0, .int (-1), .ref a2, .ref a3, .ref a4, .ref a5, .ref a6, .ref a7, .ref a8, .ref a9, .ref a10, .ref a11, .ref a12, .ref a13, .ref a14, .ref a15, .ref a16, .int 0, .int 0, .int 0, .int 0, .int 0, .int 9999, .ref a17, .ref a18, .ref a19, .int 0, .ref a20, .int 0, .ref a21, .int 0, .int 0, .ref a22, .ref a23, .ref a24, .ref a25, .int 0, .ref a26, .int 0, .ref a27, .ref a28, .ref a29, .long 0, .ref a30, .ref a31, .ref a32, .ref a33, .ref a34, .ref a35, .ref a36, .ref a37, .ref a38, .int 0, .int 0, .int 0, .long 0, .ref a39, .int 0, .ref a40, .ref a41, .ref a42, .ref a43, .int 0, .int 0, .int 0, .int 0]))] := hD
  subst hw_3
  refine lv_if_eq (pc := 5) (tgt := 16) hx hb dX12_product_5 (by decide) (fun _ => ?_) (fun c => absurd (by decide +kernel) c)
  refine lv_ldcw (pc := 16) hx hb hown (hts _ tw_1783) dX12_product_16 ?_
  have hP9 := hP.sub (ws' := []) [] rfl
  have hD9 := hD.sub (ws' := []) [] (by decide) rfl
  refine W.widen (k := 0) (n := 0) (Nat.le_of_ble_eq_true rfl) (Nat.le_of_ble_eq_true rfl) ?_
  exact W.iret (v := (-1000000000)) hx hb hr (fun t ht hW => ⟨⟨(-1000000000), ((fun _ => 0), (fun _ => (fun _ => 0)), (fun _ => (fun _ => 0)), (fun _ => 0), (fun _ => 0)), rfl, rfl, by rw [ht]; exact hP9, hD9⟩, hS.F ht⟩) hS.2.2 dX12_product_19
set_option maxHeartbeats 4000000 in
set_option maxRecDepth 100000 in
theorem cc_65_yX11_product (l : Launch) (D : va_G) (cB cC cI cJ : ClassId) (sz : Nat) (a0 a1 a2 a3 a4 a5 a6 a7 a8 a9 a10 a11 a12 a13 a14 a15 a16 : Nat) (x0 x1 : Int32) : Met l yX11_product (.code yX11_product cX11_product 4 (some .int) :: lw_gd) ({ frames := 1, cells := 0, slots := 0, locals := 21 }) (gPre D [(cB, .byte), (cC, .char), (cI, .int), (cJ, .long)] [.ref a0, .int x0, .int x1, .int 1] [(a0, .inr (11, [.ref a1, .ref a2, .ref a3, .ref a4, .ref a5, .ref a6, .ref a7, .ref a8, .ref a9, .ref a10, .int 0, .ref a11, .ref a12, .ref a13])), (a11, .inr (1, [.ref a14, .ref a15, .ref a16, .int 0, .int 0, .int 0, .int 0, .int 0, .int 9999, .int 0]))] sz) (va_Qi (fun r _ => r = (-1000000000)) (gB D (va_A [(a0, .inr (11, [.ref a1, .ref a2, .ref a3, .ref a4, .ref a5, .ref a6, .ref a7, .ref a8, .ref a9, .ref a10, .int 0, .ref a11, .ref a12, .ref a13])), (a11, .inr (1, [.ref a14, .ref a15, .ref a16, .int 0, .int 0, .int 0, .int 0, .int 0, .int 9999, .int 0]))] sz) (fun u : gEx => [])) (va_A [(a0, .inr (11, [.ref a1, .ref a2, .ref a3, .ref a4, .ref a5, .ref a6, .ref a7, .ref a8, .ref a9, .ref a10, .int 0, .ref a11, .ref a12, .ref a13])), (a11, .inr (1, [.ref a14, .ref a15, .ref a16, .int 0, .int 0, .int 0, .int 0, .int 0, .int 9999, .int 0]))] sz)) 0 0 (va_A [(a0, .inr (11, [.ref a1, .ref a2, .ref a3, .ref a4, .ref a5, .ref a6, .ref a7, .ref a8, .ref a9, .ref a10, .int 0, .ref a11, .ref a12, .ref a13])), (a11, .inr (1, [.ref a14, .ref a15, .ref a16, .int 0, .int 0, .int 0, .int 0, .int 0, .int 9999, .int 0]))] sz) := by
  refine Met.ofW (cc := cX11_product) (maxL := 4) (ret := (some .int)) (by decide) rfl ?_
  intro p e s m args below meth c s₁ B hml hv
  obtain ⟨rfl, hsz, hP, hK, hD0, hN⟩ := hv
  have hx := B.exec
  have hb := B.bytes
  have hr := B.returns
  have hts : ∀ w ∈ lw_gd, w.before _ s = true := fun w h => atoms_spec (ws := .code yX11_product cX11_product 4 (some .int) :: lw_gd) B.pre w (List.mem_cons_of_mem _ h)
  have hown : s.vm.findClass RX11 = some m.cls := findClass_of_methodNamed B.named
  have hlocks := B.notSynchronized
  subst hsz
  have hD := hD0.self (sz := s.heap.size)
  generalize hAe : va_A [(a0, .inr (11, [.ref a1, .ref a2, .ref a3, .ref a4, .ref a5, .ref a6, .ref a7, .ref a8, .ref a9, .ref a10, .int 0, .ref a11, .ref a12, .ref a13])), (a11, .inr (1, [.ref a14, .ref a15, .ref a16, .int 0, .int 0, .int 0, .int 0, .int 0, .int 9999, .int 0]))] s.heap.size = A at hD ⊢
  have hA : ∀ q : Nat, s.heap.size ≤ q → A q := fun q h => by rw [← hAe]; exact Or.inr h
  have hS : va_S A s.heap s.heap [] := va_S.rf
  have hP : va_P D gcl [(a0, .inr (11, [.ref a1, .ref a2, .ref a3, .ref a4, .ref a5, .ref a6, .ref a7, .ref a8, .ref a9, .ref a10, .int 0, .ref a11, .ref a12, .ref a13])), (a11, .inr (1, [.ref a14, .ref a15, .ref a16, .int 0, .int 0, .int 0, .int 0, .int 0, .int 9999, .int 0]))] s.heap := hP
  have hl := lv_entry ([.ref a0, .int x0, .int x1, .int 1]) (n := 4) (Nat.le_of_ble_eq_true rfl)
  rw [lg_entry_eq]
  generalize (lg_sl ([.ref a0, .int x0, .int x1, .int 1]) ++ List.replicate (4 - (lg_sl ([.ref a0, .int x0, .int x1, .int 1])).length) Slot.unset).toArray = ls at hl ⊢
  have hl : lv_has ls 4 [(0, .ref a0), (1, .int x0), (2, .int x1), (3, .int 1)] := hl
  refine lv_aload_n (pc := 0) hx hb dX11_product_0 rfl (lv_at hl 0 rfl) ?_
  refine va_get (pc := 1) (ci := 11) (v := .ref a11) (C := RX11) (T := TX11) (N := 14) hx hb hts iX11 hown hK hP 0 rfl rfl 11 (by decide) (hts _ tw_431) (fun _ h9 => h9) rfl dX11_product_1 ?_
  refine lv_iload_n (pc := 4) hx hb dX11_product_4 rfl (lv_at hl 1 rfl) ?_
  refine gc_i (pc := 5) (wc := [(a11, .inr (1, [.ref a14, .ref a15, .ref a16, .int 0, .int 0, .int 0, .int 0, .int 0, .int 9999, .int 0]))]) (wr := [(a0, .inr (11, [.ref a1, .ref a2, .ref a3, .ref a4, .ref a5, .ref a6, .ref a7, .ref a8, .ref a9, .ref a10, .int 0, .ref a11, .ref a12, .ref a13]))]) hP hD hS hA [1] [0] rfl rfl (by decide) (by decide) (by decide) (fun hPc hDc => va_runV (As := [.int x0]) (rest := []) ⟨hx, hb, hml, hown, hts⟩ (cc_61_yX1_isSender l D cB cC cI cJ _ a11 a14 a15 a16 x0) ⟨gcwB hts tw_782 tw_4 tw_779 hd_yX1_isSender ⟨Nat.le_of_ble_eq_true rfl, Nat.le_of_ble_eq_true rfl⟩, hts _ tw_780, hts _ tw_781⟩ ⟨gblind, va_recv hK hPc (ci := 1) (q0 := 0) rfl rfl, (gpreS hPc hK hDc hN).2⟩ rfl rfl hl.1 rfl (lv_room (Nat.le_of_ble_eq_true rfl)) dX11_product_5 ⟨Nat.le_of_ble_eq_true rfl, Nat.le_of_ble_eq_true rfl⟩) (fun r_2 u_1 H locs hw_3 hP hD hS => ?_)
  have hP : va_P D gcl [(a0, .inr (11, [.ref a1, .ref a2, .ref a3, .ref a4, .ref a5, .ref a6, .ref a7, .ref a8, .ref a9, .ref a10, .int 0, .ref a11, .ref a12, .ref a13])), (a11, .inr (1, [.ref a14, .ref a15, .ref a16, .int 0, .int 0, .int 0, .int 0, .int 0, .int 9999, .int 0]))] H := hP
  have hD : va_D A [(a0, .inr (11, [.ref a1, .ref a2, .ref a3, .ref a4, .ref a5, .ref a6, .ref a7, .ref a8, .ref a9, .ref a10, .int 0, .ref a11, .ref a12, .ref a13])), (a11, .inr (1, [.ref a14, .ref a15, .ref a16, .int 0, .int 0, .int 0, .int 0, .int 0, .int 9999, .int 0]))] := hD
  subst hw_3
  refine lv_if_eq (pc := 8) (tgt := 22) hx hb dX11_product_8 (by decide) (fun _ => ?_) (fun c => absurd (by decide +kernel) c)
  refine lv_ldc (pc := 22) hx hb hown (hts _ tw_783) dX11_product_22 ?_
  have hP9 := hP.sub (ws' := []) [] rfl
  have hD9 := hD.sub (ws' := []) [] (by decide) rfl
  refine W.widen (k := 0) (n := 0) (Nat.le_of_ble_eq_true rfl) (Nat.le_of_ble_eq_true rfl) ?_
  exact W.iret (v := (-1000000000)) hx hb hr (fun t ht hW => ⟨⟨(-1000000000), ((fun _ => 0), (fun _ => (fun _ => 0)), (fun _ => (fun _ => 0)), (fun _ => 0), (fun _ => 0)), rfl, rfl, by rw [ht]; exact hP9, hD9⟩, hS.F ht⟩) hS.2.2 dX11_product_24
