set_option maxHeartbeats 4000000 in
set_option maxRecDepth 100000 in
theorem cc_24_yX9_length (l : Launch) (D : va_G) (cB cC cI cJ : ClassId) (sz : Nat) (a0 a1 : Nat) : Met l yX9_length (.code yX9_length cX9_length 1 (some .int) :: lw_gd) ({ frames := 0, cells := 0, slots := 0, locals := 0 }) (gPre D [(cB, .byte), (cC, .char), (cI, .int), (cJ, .long)] [.ref a0] [(a0, .inr (9, [.ref a1, .int 0]))] sz) (va_Qi (fun r _ => r = 0) (gB D (va_A [(a0, .inr (9, [.ref a1, .int 0]))] sz) (fun u : gEx => [(a0, .inr (9, [.ref a1, .int 0]))])) (va_A [(a0, .inr (9, [.ref a1, .int 0]))] sz)) 0 0 (va_A [(a0, .inr (9, [.ref a1, .int 0]))] sz) := by
  refine Met.ofW (cc := cX9_length) (maxL := 1) (ret := (some .int)) (by decide) rfl ?_
  intro p e s m args below meth c s₁ B hml hv
  obtain ⟨rfl, hsz, hP, hK, hD0, hN⟩ := hv
  have hx := B.exec
  have hb := B.bytes
  have hr := B.returns
  have hts : ∀ w ∈ lw_gd, w.before _ s = true := fun w h => atoms_spec (ws := .code yX9_length cX9_length 1 (some .int) :: lw_gd) B.pre w (List.mem_cons_of_mem _ h)
  have hown : s.vm.findClass RX9 = some m.cls := findClass_of_methodNamed B.named
  have hlocks := B.notSynchronized
  subst hsz
  have hD := hD0.self (sz := s.heap.size)
  generalize hAe : va_A [(a0, .inr (9, [.ref a1, .int 0]))] s.heap.size = A at hD ⊢
  have hA : ∀ q : Nat, s.heap.size ≤ q → A q := fun q h => by rw [← hAe]; exact Or.inr h
  have hS : va_S A s.heap s.heap [] := va_S.rf
  have hP : va_P D gcl [(a0, .inr (9, [.ref a1, .int 0]))] s.heap := hP
  have hl := lv_entry ([.ref a0]) (n := 1) (Nat.le_of_ble_eq_true rfl)
  rw [lg_entry_eq]
  generalize (lg_sl ([.ref a0]) ++ List.replicate (1 - (lg_sl ([.ref a0])).length) Slot.unset).toArray = ls at hl ⊢
  have hl : lv_has ls 1 [(0, .ref a0)] := hl
  refine lv_aload_n (pc := 0) hx hb dX9_length_0 rfl (lv_at hl 0 rfl) ?_
  refine va_get (pc := 1) (ci := 9) (v := .int 0) (C := RX9) (T := TX9) (N := 2) hx hb hts iX9 hown hK hP 0 rfl rfl 1 (by decide) (hts _ tw_43) (fun _ h9 => h9) rfl dX9_length_1 ?_
  have hP9 := hP.sub (ws' := [(a0, .inr (9, [.ref a1, .int 0]))]) [0] rfl
  have hD9 := hD.sub (ws' := [(a0, .inr (9, [.ref a1, .int 0]))]) [0] (by decide) rfl
  refine W.widen (k := 0) (n := 0) (Nat.le_of_ble_eq_true rfl) (Nat.le_of_ble_eq_true rfl) ?_
  exact W.iret (v := 0) hx hb hr (fun t ht hW => ⟨⟨0, ((fun _ => 0), (fun _ => (fun _ => 0)), (fun _ => (fun _ => 0)), (fun _ => 0), (fun _ => 0)), rfl, rfl, by rw [ht]; exact hP9, hD9⟩, hS.F ht⟩) hS.2.2 dX9_length_4
set_option maxHeartbeats 4000000 in
set_option maxRecDepth 100000 in
theorem cc_25_yX9_cutTo (l : Launch) (D : va_G) (cB cC cI cJ : ClassId) (sz : Nat) (a0 a1 : Nat) (x0 : Int32) : Met l yX9_cutTo (.code yX9_cutTo cX9_cutTo 2 none :: lw_gd) ({ frames := 0, cells := 0, slots := 0, locals := 0 }) (gPre D [(cB, .byte), (cC, .char), (cI, .int), (cJ, .long)] [.ref a0, .int x0] [(a0, .inr (9, [.ref a1, .int 0]))] sz) (va_Qv (fun _ => True) (gB D (va_A [(a0, .inr (9, [.ref a1, .int 0]))] sz) (fun u : gEx => [(a0, .inr (9, [.ref a1, .int x0]))])) (va_A [(a0, .inr (9, [.ref a1, .int 0]))] sz)) 0 0 (va_A [(a0, .inr (9, [.ref a1, .int 0]))] sz) := by
  refine Met.ofW (cc := cX9_cutTo) (maxL := 2) (ret := none) (by decide) rfl ?_
  intro p e s m args below meth c s₁ B hml hv
  obtain ⟨rfl, hsz, hP, hK, hD0, hN⟩ := hv
  have hx := B.exec
  have hb := B.bytes
  have hr := B.returns
  have hts : ∀ w ∈ lw_gd, w.before _ s = true := fun w h => atoms_spec (ws := .code yX9_cutTo cX9_cutTo 2 none :: lw_gd) B.pre w (List.mem_cons_of_mem _ h)
  have hown : s.vm.findClass RX9 = some m.cls := findClass_of_methodNamed B.named
  have hlocks := B.notSynchronized
  subst hsz
  have hD := hD0.self (sz := s.heap.size)
  generalize hAe : va_A [(a0, .inr (9, [.ref a1, .int 0]))] s.heap.size = A at hD ⊢
  have hA : ∀ q : Nat, s.heap.size ≤ q → A q := fun q h => by rw [← hAe]; exact Or.inr h
  have hS : va_S A s.heap s.heap [] := va_S.rf
  have hP : va_P D gcl [(a0, .inr (9, [.ref a1, .int 0]))] s.heap := hP
  have hl := lv_entry ([.ref a0, .int x0]) (n := 2) (Nat.le_of_ble_eq_true rfl)
  rw [lg_entry_eq]
  generalize (lg_sl ([.ref a0, .int x0]) ++ List.replicate (2 - (lg_sl ([.ref a0, .int x0])).length) Slot.unset).toArray = ls at hl ⊢
  have hl : lv_has ls 2 [(0, .ref a0), (1, .int x0)] := hl
  refine lv_aload_n (pc := 0) hx hb dX9_cutTo_0 rfl (lv_at hl 0 rfl) ?_
  refine lv_iload_n (pc := 1) hx hb dX9_cutTo_1 rfl (lv_at hl 1 rfl) ?_
  refine va_put (pc := 2) (ci := 9) (v := .int x0) (ty := .int) (C := RX9) (T := TX9) (N := 2) hx hb hts iX9 tyX9 tyX9_ok nmX9 hown hK hP hD hS 0 rfl rfl 1 (by decide) (hts _ tw_43) (fun _ h9 => h9) rfl (by decide +kernel) rfl rfl (Nat.le_of_ble_eq_true rfl) dX9_cutTo_2 (fun H locs hP hD hS => ?_)
  have hP : va_P D gcl [(a0, .inr (9, [.ref a1, .int x0]))] H := hP
  have hD : va_D A [(a0, .inr (9, [.ref a1, .int x0]))] := hD
  have hP9 := hP.sub (ws' := [(a0, .inr (9, [.ref a1, .int x0]))]) [0] rfl
  have hD9 := hD.sub (ws' := [(a0, .inr (9, [.ref a1, .int x0]))]) [0] (by decide) rfl
  refine W.widen (k := 0) (n := 0) (Nat.le_of_ble_eq_true rfl) (Nat.le_of_ble_eq_true rfl) ?_
  exact W.vret hx hb hr (fun t ht hW => ⟨⟨((fun _ => 0), (fun _ => (fun _ => 0)), (fun _ => (fun _ => 0)), (fun _ => 0), (fun _ => 0)), rfl, trivial, by rw [ht]; exact hP9, hD9⟩, hS.F ht⟩) hS.2.2 dX9_cutTo_5
set_option maxHeartbeats 4000000 in
set_option maxRecDepth 100000 in
theorem cc_26_yX11_end (l : Launch) (D : va_G) (cB cC cI cJ : ClassId) (sz : Nat) (a0 a1 a2 a3 a4 a5 a6 a7 a8 a9 a10 a11 a12 a13 a14 : Nat) (x0 : Int32) : Met l yX11_end (.code yX11_end cX11_end 2 (some .boolean) :: lw_gd) ({ frames := 1, cells := 0, slots := 0, locals := 21 }) (gPre D [(cB, .byte), (cC, .char), (cI, .int), (cJ, .long)] [.ref a0, .int x0] [(a0, .inr (11, [.ref a1, .ref a2, .ref a3, .ref a4, .ref a5, .ref a6, .ref a7, .ref a8, .ref a9, .ref a10, .int 0, .ref a11, .ref a12, .ref a13])), (a2, .inr (9, [.ref a14, .int 0]))] sz) (va_Qi (fun r _ => r = (if x0 < 0 ∨ 0 < x0 then 0 else 1)) (gB D (va_A [(a0, .inr (11, [.ref a1, .ref a2, .ref a3, .ref a4, .ref a5, .ref a6, .ref a7, .ref a8, .ref a9, .ref a10, .int 0, .ref a11, .ref a12, .ref a13])), (a2, .inr (9, [.ref a14, .int 0]))] sz) (fun u : gEx => [])) (va_A [(a0, .inr (11, [.ref a1, .ref a2, .ref a3, .ref a4, .ref a5, .ref a6, .ref a7, .ref a8, .ref a9, .ref a10, .int 0, .ref a11, .ref a12, .ref a13])), (a2, .inr (9, [.ref a14, .int 0]))] sz)) 0 0 (va_A [(a0, .inr (11, [.ref a1, .ref a2, .ref a3, .ref a4, .ref a5, .ref a6, .ref a7, .ref a8, .ref a9, .ref a10, .int 0, .ref a11, .ref a12, .ref a13])), (a2, .inr (9, [.ref a14, .int 0]))] sz) := by
  refine Met.ofW (cc := cX11_end) (maxL := 2) (ret := (some .boolean)) (by decide) rfl ?_
  intro p e s m args below meth c s₁ B hml hv
  obtain ⟨rfl, hsz, hP, hK, hD0, hN⟩ := hv
  have hx := B.exec
  have hb := B.bytes
  have hr := B.returns
  have hts : ∀ w ∈ lw_gd, w.before _ s = true := fun w h => atoms_spec (ws := .code yX11_end cX11_end 2 (some .boolean) :: lw_gd) B.pre w (List.mem_cons_of_mem _ h)
  have hown : s.vm.findClass RX11 = some m.cls := findClass_of_methodNamed B.named
  have hlocks := B.notSynchronized
  subst hsz
  have hD := hD0.self (sz := s.heap.size)
  generalize hAe : va_A [(a0, .inr (11, [.ref a1, .ref a2, .ref a3, .ref a4, .ref a5, .ref a6, .ref a7, .ref a8, .ref a9, .ref a10, .int 0, .ref a11, .ref a12, .ref a13])), (a2, .inr (9, [.ref a14, .int 0]))] s.heap.size = A at hD ⊢
  have hA : ∀ q : Nat, s.heap.size ≤ q → A q := fun q h => by rw [← hAe]; exact Or.inr h
  have hS : va_S A s.heap s.heap [] := va_S.rf
  have hP : va_P D gcl [(a0, .inr (11, [.ref a1, .ref a2, .ref a3, .ref a4, .ref a5, .ref a6, .ref a7, .ref a8, .ref a9, .ref a10, .int 0, .ref a11, .ref a12, .ref a13])), (a2, .inr (9, [.ref a14, .int 0]))] s.heap := hP
  have hl := lv_entry ([.ref a0, .int x0]) (n := 2) (Nat.le_of_ble_eq_true rfl)
  rw [lg_entry_eq]
  generalize (lg_sl ([.ref a0, .int x0]) ++ List.replicate (2 - (lg_sl ([.ref a0, .int x0])).length) Slot.unset).toArray = ls at hl ⊢
  have hl : lv_has ls 2 [(0, .ref a0), (1, .int x0)] := hl
  refine lv_iload_n (pc := 0) hx hb dX11_end_0 rfl (lv_at hl 1 rfl) ?_
  refine lv_if_lt (pc := 1) (tgt := 15) hx hb dX11_end_1 (by decide) (fun c_1 => ?_) (fun c_1 => ?_)
  ·
    refine lv_iconst (pc := 15) (v := 0) hx hb dX11_end_15 (by decide) ?_
    have hP9 := hP.sub (ws' := []) [] rfl
    have hD9 := hD.sub (ws' := []) [] (by decide) rfl
    refine W.widen (k := 0) (n := 0) (Nat.le_of_ble_eq_true rfl) (Nat.le_of_ble_eq_true rfl) ?_
    exact W.zret (v := 0) hx hb hr (by decide +kernel) (fun t ht hW => ⟨⟨0, ((fun _ => 0), (fun _ => (fun _ => 0)), (fun _ => (fun _ => 0)), (fun _ => 0), (fun _ => 0)), rfl, (by show (_ : Int32) = _; first | rfl | decide +kernel | (split <;> rename_i hh <;> first | rfl | (exfalso; have z0 : (0 : Int32).toInt = 0 := (by decide +kernel); have z1 : (1 : Int32).toInt = 1 := (by decide +kernel); have z2 : (9 : Int32).toInt = 9 := (by decide +kernel); have z3 : (100 : Int32).toInt = 100 := (by decide +kernel); have z4 : (0 : Int64).toInt = 0 := (by decide +kernel); (try simp only [lg_cmp_ge, lg_cmp_le, lg_cmp_gt, lg_cmp_lt, lg_cmp_eq] at c_1); simp only [q_lt, q_le, q_eq, q_lt64, q_le64, q_eq64, q_wide, z0, z1, z2, z3, z4] at c_1 hh; omega))), by rw [ht]; exact hP9, hD9⟩, hS.F ht⟩) hS.2.2 dX11_end_16
  ·
    refine lv_iload_n (pc := 4) hx hb dX11_end_4 rfl (lv_at hl 1 rfl) ?_
    refine lv_aload_n (pc := 5) hx hb dX11_end_5 rfl (lv_at hl 0 rfl) ?_
    refine va_get (pc := 6) (ci := 11) (v := .ref a2) (C := RX11) (T := TX11) (N := 14) hx hb hts iX11 hown hK hP 0 rfl rfl 1 (by decide) (hts _ tw_421) (fun _ h9 => h9) rfl dX11_end_6 ?_
    refine gc_i (pc := 9) (wc := [(a2, .inr (9, [.ref a14, .int 0]))]) (wr := [(a0, .inr (11, [.ref a1, .ref a2, .ref a3, .ref a4, .ref a5, .ref a6, .ref a7, .ref a8, .ref a9, .ref a10, .int 0, .ref a11, .ref a12, .ref a13]))]) hP hD hS hA [1] [0] rfl rfl (by decide) (by decide) (by decide) (fun hPc hDc => va_runV (As := []) (rest := [.int x0]) ⟨hx, hb, hml, hown, hts⟩ (cc_24_yX9_length l D cB cC cI cJ _ a2 a14) ⟨gcwB hts tw_478 tw_3 tw_475 hd_yX9_length ⟨Nat.le_of_ble_eq_true rfl, Nat.le_of_ble_eq_true rfl⟩, hts _ tw_476, hts _ tw_477⟩ ⟨gblind, va_recv hK hPc (ci := 9) (q0 := 0) rfl rfl, (gpreS hPc hK hDc hN).2⟩ rfl rfl hl.1 rfl (lv_room (Nat.le_of_ble_eq_true rfl)) dX11_end_9 ⟨Nat.le_of_ble_eq_true rfl, Nat.le_of_ble_eq_true rfl⟩) (fun r_3 u_2 H locs hw_4 hP hD hS => ?_)
    have hP : va_P D gcl [(a0, .inr (11, [.ref a1, .ref a2, .ref a3, .ref a4, .ref a5, .ref a6, .ref a7, .ref a8, .ref a9, .ref a10, .int 0, .ref a11, .ref a12, .ref a13])), (a2, .inr (9, [.ref a14, .int 0]))] H := hP
    have hD : va_D A [(a0, .inr (11, [.ref a1, .ref a2, .ref a3, .ref a4, .ref a5, .ref a6, .ref a7, .ref a8, .ref a9, .ref a10, .int 0, .ref a11, .ref a12, .ref a13])), (a2, .inr (9, [.ref a14, .int 0]))] := hD
    subst hw_4
    refine lv_icmp_le (pc := 12) (tgt := 17) hx hb dX11_end_12 (by decide) (fun c_5 => ?_) (fun c_5 => ?_)
    ·
      refine lv_aload_n (pc := 17) hx hb dX11_end_17 rfl (lv_at hl 0 rfl) ?_
      refine va_get (pc := 18) (ci := 11) (v := .ref a2) (C := RX11) (T := TX11) (N := 14) hx hb hts iX11 hown hK hP 0 rfl rfl 1 (by decide) (hts _ tw_421) (fun _ h9 => h9) rfl dX11_end_18 ?_
      refine lv_iload_n (pc := 21) hx hb dX11_end_21 rfl (lv_at hl 1 rfl) ?_
      refine gc_v (pc := 22) (wc := [(a2, .inr (9, [.ref a14, .int 0]))]) (wr := [(a0, .inr (11, [.ref a1, .ref a2, .ref a3, .ref a4, .ref a5, .ref a6, .ref a7, .ref a8, .ref a9, .ref a10, .int 0, .ref a11, .ref a12, .ref a13]))]) hP hD hS hA [1] [0] rfl rfl (by decide) (by decide) (by decide) (fun hPc hDc => va_runV (As := [.int x0]) (rest := []) ⟨hx, hb, hml, hown, hts⟩ (cc_25_yX9_cutTo l D cB cC cI cJ _ a2 a14 x0) ⟨gcwB hts tw_486 tw_3 tw_483 hd_yX9_cutTo ⟨Nat.le_of_ble_eq_true rfl, Nat.le_of_ble_eq_true rfl⟩, hts _ tw_484, hts _ tw_485⟩ ⟨gblind, va_recv hK hPc (ci := 9) (q0 := 0) rfl rfl, (gpreS hPc hK hDc hN).2⟩ rfl rfl hl.1 rfl (lv_room (Nat.le_of_ble_eq_true rfl)) dX11_end_22 ⟨Nat.le_of_ble_eq_true rfl, Nat.le_of_ble_eq_true rfl⟩) (fun u_6 H locs hw_8 hP hD hS => ?_)
      have hP : va_P D gcl [(a0, .inr (11, [.ref a1, .ref a2, .ref a3, .ref a4, .ref a5, .ref a6, .ref a7, .ref a8, .ref a9, .ref a10, .int 0, .ref a11, .ref a12, .ref a13])), (a2, .inr (9, [.ref a14, .int x0]))] H := hP
      have hD : va_D A [(a0, .inr (11, [.ref a1, .ref a2, .ref a3, .ref a4, .ref a5, .ref a6, .ref a7, .ref a8, .ref a9, .ref a10, .int 0, .ref a11, .ref a12, .ref a13])), (a2, .inr (9, [.ref a14, .int x0]))] := hD
      refine lv_iconst (pc := 25) (v := 1) hx hb dX11_end_25 (by decide) ?_
      have hP9 := hP.sub (ws' := []) [] rfl
      have hD9 := hD.sub (ws' := []) [] (by decide) rfl
      refine W.widen (k := 0) (n := 0) (Nat.le_of_ble_eq_true rfl) (Nat.le_of_ble_eq_true rfl) ?_
      exact W.zret (v := 1) hx hb hr (by decide +kernel) (fun t ht hW => ⟨⟨1, ((fun _ => 0), (fun _ => (fun _ => 0)), (fun _ => (fun _ => 0)), (fun _ => 0), (fun _ => 0)), rfl, (by show (_ : Int32) = _; first | rfl | decide +kernel | (split <;> rename_i hh <;> first | rfl | (exfalso; have z0 : (0 : Int32).toInt = 0 := (by decide +kernel); have z1 : (1 : Int32).toInt = 1 := (by decide +kernel); have z2 : (9 : Int32).toInt = 9 := (by decide +kernel); have z3 : (100 : Int32).toInt = 100 := (by decide +kernel); have z4 : (0 : Int64).toInt = 0 := (by decide +kernel); (try simp only [lg_cmp_ge, lg_cmp_le, lg_cmp_gt, lg_cmp_lt, lg_cmp_eq] at c_1 c_5); simp only [q_lt, q_le, q_eq, q_lt64, q_le64, q_eq64, q_wide, z0, z1, z2, z3, z4] at c_1 c_5 hh; omega))), by rw [ht]; exact hP9, hD9⟩, hS.F ht⟩) hS.2.2 dX11_end_26
    ·
      refine lv_iconst (pc := 15) (v := 0) hx hb dX11_end_15 (by decide) ?_
      have hP9 := hP.sub (ws' := []) [] rfl
      have hD9 := hD.sub (ws' := []) [] (by decide) rfl
      refine W.widen (k := 0) (n := 0) (Nat.le_of_ble_eq_true rfl) (Nat.le_of_ble_eq_true rfl) ?_
      exact W.zret (v := 0) hx hb hr (by decide +kernel) (fun t ht hW => ⟨⟨0, ((fun _ => 0), (fun _ => (fun _ => 0)), (fun _ => (fun _ => 0)), (fun _ => 0), (fun _ => 0)), rfl, (by show (_ : Int32) = _; first | rfl | decide +kernel | (split <;> rename_i hh <;> first | rfl | (exfalso; have z0 : (0 : Int32).toInt = 0 := (by decide +kernel); have z1 : (1 : Int32).toInt = 1 := (by decide +kernel); have z2 : (9 : Int32).toInt = 9 := (by decide +kernel); have z3 : (100 : Int32).toInt = 100 := (by decide +kernel); have z4 : (0 : Int64).toInt = 0 := (by decide +kernel); (try simp only [lg_cmp_ge, lg_cmp_le, lg_cmp_gt, lg_cmp_lt, lg_cmp_eq] at c_1 c_5); simp only [q_lt, q_le, q_eq, q_lt64, q_le64, q_eq64, q_wide, z0, z1, z2, z3, z4] at c_1 c_5 hh; omega))), by rw [ht]; exact hP9, hD9⟩, hS.F ht⟩) hS.2.2 dX11_end_16
set_option maxHeartbeats 4000000 in
set_option maxRecDepth 100000 in
theorem cc_27_yX12_end (l : Launch) (D : va_G) (cB cC cI cJ : ClassId) (sz : Nat) (a0 a1 a2 a3 a4 a5 a6 a7 a8 a9 a10 a11 a12 a13 a14 a15 a16 a17 a18 a19 a20 a21 a22 a23 a24 a25 a26 a27 a28 a29 a30 a31 a32 a33 a34 a35 a36 a37 a38 a39 a40 a41 a42 a43 : Nat) (x0 : Int32) : Met l yX12_end (.code yX12_end cX12_end 2 (some .boolean) :: lw_gd) ({ frames := 0, cells := 0, slots := 0, locals := 0 }) (gPre D [(cB, .byte), (cC, .char), (cI, .int), (cJ, .long)] [.ref a0, .int x0] [(a0, .inr (12, [.ref a1, .int 0, .int 0, .int 0, .int 0, .int 0, .int 0, .int 0, .int (-1), .ref a2, .ref a3, .ref a4, .ref a5, .ref a6, .ref a7, .ref a8, .ref a9, .ref a10, .ref a11, .ref a12, .ref a13, .ref a14, .ref a15, .ref a16, .int 0, .int 0, .int 0, .int 0, .int 0, .int 9999, .ref a17, .ref a18, .ref a19, .int 0, .ref a20, .int 0, .ref a21, .int 0, .int 0, .ref a22, .ref a23, .ref a24, .ref a25, .int 0, .ref a26, .int 0, .ref a27, .ref a28, .ref a29, .long 0, .ref a30, .ref a31, .ref a32, .ref a33, .ref a34, .ref a35, .ref a36, .ref a37, .ref a38, .int 0, .int 0, .int 0, .long 0, .ref a39, .int 0, .ref a40, .ref a41, .ref a42, .ref a43, .int 0, .int 0, .int 0, .int 0]))] sz) (va_Qi (fun r _ => r = (if x0 < 0 ∨ 0 < x0 then 0 else 1)) (gB D (va_A [(a0, .inr (12, [.ref a1, .int 0, .int 0, .int 0, .int 0, .int 0, .int 0, .int 0, .int (-1), .ref a2, .ref a3, .ref a4, .ref a5, .ref a6, .ref a7, .ref a8, .ref a9, .ref a10, .ref a11, .ref a12, .ref a13, .ref a14, .ref a15, .ref a16, .int 0, .int 0, .int 0, .int 0, .int 0, .int 9999, .ref a17, .ref a18, .ref a19, .int 0, .ref a20, .int 0, .ref a21, .int 0, .int 0, .ref a22, .ref a23, .ref a24, .ref a25, .int 0, .ref a26, .int 0, .ref a27, .ref a28, .ref a29, .long 0, .ref a30, .ref a31, .ref a32, .ref a33, .ref a34, .ref a35, .ref a36, .ref a37, .ref a38, .int 0, .int 0, .int 0, .long 0, .ref a39, .int 0, .ref a40, .ref a41, .ref a42, .ref a43, .int 0, .int 0, .int 0, .int 0]))] sz) (fun u : gEx => [])) (va_A [(a0, .inr (12, [.ref a1, .int 0, .int 0, .int 0, .int 0, .int 0, .int 0, .int 0, .int (-1), .ref a2, .ref a3, .ref a4, .ref a5, .ref a6, .ref a7, .ref a8, .ref a9, .ref a10, .ref a11, .ref a12, .ref a13, .ref a14, .ref a15, .ref a16, .int 0, .int 0, .int 0, .int 0, .int 0, .int 9999, .ref a17, .ref a18, .ref a19, .int 0, .ref a20, .int 0, .ref a21, .int 0, .int 0, .ref a22, .ref a23, .ref a24, .ref a25, .int 0, .ref a26, .int 0, .ref a27, .ref a28, .ref a29, .long 0, .ref a30, .ref a31, .ref a32, .ref a33, .ref a34, .ref a35, .ref a36, .ref a37, .ref a38, .int 0, .int 0, .int 0, .long 0, .ref a39, .int 0, .ref a40, .ref a41, .ref a42, .ref a43, .int 0, .int 0, .int 0, .int 0]))] sz)) 0 0 (va_A [(a0, .inr (12, [.ref a1, .int 0, .int 0, .int 0, .int 0, .int 0, .int 0, .int 0, .int (-1), .ref a2, .ref a3, .ref a4, .ref a5, .ref a6, .ref a7, .ref a8, .ref a9, .ref a10, .ref a11, .ref a12, .ref a13, .ref a14, .ref a15, .ref a16, .int 0, .int 0, .int 0, .int 0, .int 0, .int 9999, .ref a17, .ref a18, .ref a19, .int 0, .ref a20, .int 0, .ref a21, .int 0, .int 0, .ref a22, .ref a23, .ref a24, .ref a25, .int 0, .ref a26, .int 0, .ref a27, .ref a28, .ref a29, .long 0, .ref a30, .ref a31, .ref a32, .ref a33, .ref a34, .ref a35, .ref a36, .ref a37, .ref a38, .int 0, .int 0, .int 0, .long 0, .ref a39, .int 0, .ref a40, .ref a41, .ref a42, .ref a43, .int 0, .int 0, .int 0, .int 0]))] sz) := by
  refine Met.ofW (cc := cX12_end) (maxL := 2) (ret := (some .boolean)) (by decide) rfl ?_
  intro p e s m args below meth c s₁ B hml hv
  obtain ⟨rfl, hsz, hP, hK, hD0, hN⟩ := hv
  have hx := B.exec
  have hb := B.bytes
  have hr := B.returns
  have hts : ∀ w ∈ lw_gd, w.before _ s = true := fun w h => atoms_spec (ws := .code yX12_end cX12_end 2 (some .boolean) :: lw_gd) B.pre w (List.mem_cons_of_mem _ h)
  have hown : s.vm.findClass RX12 = some m.cls := findClass_of_methodNamed B.named
  have hlocks := B.notSynchronized
  subst hsz
  have hD := hD0.self (sz := s.heap.size)
  generalize hAe : va_A [(a0, .inr (12, [.ref a1, .int 0, .int 0, .int 0, .int 0, .int 0, .int 0, .int 0, .int (-1), .ref a2, .ref a3, .ref a4, .ref a5, .ref a6, .ref a7, .ref a8, .ref a9, .ref a10, .ref a11, .ref a12, .ref a13, .ref a14, .ref a15, .ref a16, .int 0, .int 0, .int 0, .int 0, .int 0, .int 9999, .ref a17, .ref a18, .ref a19, .int 0, .ref a20, .int 0, .ref a21, .int 0, .int 0, .ref a22, .ref a23, .ref a24, .ref a25, .int 0, .ref a26, .int 0, .ref a27, .ref a28, .ref a29, .long 0, .ref a30, .ref a31, .ref a32, .ref a33, .ref a34, .ref a35, .ref a36, .ref a37, .ref a38, .int 0, .int 0, .int 0, .long 0, .ref a39, .int 0, .ref a40, .ref a41, .ref a42, .ref a43, .int 0, .int 0, .int 0, .int 0]))] s.heap.size = A at hD ⊢
  have hA : ∀ q : Nat, s.heap.size ≤ q → A q := fun q h => by rw [← hAe]; exact Or.inr h
  have hS : va_S A s.heap s.heap [] := va_S.rf
  have hP : va_P D gcl [(a0, .inr (12, [.ref a1, .int 0, .int 0, .int 0, .int 0, .int 0, .int 0, .int 0, .int (-1), .ref a2, .ref a3, .ref a4, .ref a5, .ref a6, .ref a7, .ref a8, .ref a9, .ref a10, .ref a11, .ref a12, .ref a13, .ref a14, .ref a15, .ref a16, .int 0, .int 0, .int 0, .int 0, .int 0, .int 9999, .ref a17, .ref a18, .ref a19, .int 0, .ref a20, .int 0, .ref a21, .int 0, .int 0, .ref a22, .ref a23, .ref a24, .ref a25, .int 0, .ref a26, .int 0, .ref a27, .ref a28, .ref a29, .long 0, .ref a30, .ref a31, .ref a32, .ref a33, .ref a34, .ref a35, .ref a36, .ref a37, .ref a38, .int 0, .int 0, .int 0, .long 0, .ref a39, .int 0, .ref a40, .ref a41, .ref a42, .ref a43, .int 0, .int 0, .int 0, .int 0]))] s.heap := hP
  have hl := lv_entry ([.ref a0, .int x0]) (n := 2) (Nat.le_of_ble_eq_true rfl)
  rw [lg_entry_eq]
  generalize (lg_sl ([.ref a0, .int x0]) ++ List.replicate (2 - (lg_sl ([.ref a0, .int x0])).length) Slot.unset).toArray = ls at hl ⊢
  have hl : lv_has ls 2 [(0, .ref a0), (1, .int x0)] := hl
  refine lv_iload_n (pc := 0) hx hb dX12_end_0 rfl (lv_at hl 1 rfl) ?_
  refine lv_if_lt (pc := 1) (tgt := 12) hx hb dX12_end_1 (by decide) (fun c_1 => ?_) (fun c_1 => ?_)
  ·
    refine lv_iconst (pc := 12) (v := 0) hx hb dX12_end_12 (by decide) ?_
    have hP9 := hP.sub (ws' := []) [] rfl
    have hD9 := hD.sub (ws' := []) [] (by decide) rfl
    refine W.widen (k := 0) (n := 0) (Nat.le_of_ble_eq_true rfl) (Nat.le_of_ble_eq_true rfl) ?_
    exact W.zret (v := 0) hx hb hr (by decide +kernel) (fun t ht hW => ⟨⟨0, ((fun _ => 0), (fun _ => (fun _ => 0)), (fun _ => (fun _ => 0)), (fun _ => 0), (fun _ => 0)), rfl, (by show (_ : Int32) = _; first | rfl | decide +kernel | (split <;> rename_i hh <;> first | rfl | (exfalso; have z0 : (0 : Int32).toInt = 0 := (by decide +kernel); have z1 : (1 : Int32).toInt = 1 := (by decide +kernel); have z2 : (9 : Int32).toInt = 9 := (by decide +kernel); have z3 : (100 : Int32).toInt = 100 := (by decide +kernel); have z4 : (0 : Int64).toInt = 0 := (by decide +kernel); (try simp only [lg_cmp_ge, lg_cmp_le, lg_cmp_gt, lg_cmp_lt, lg_cmp_eq] at c_1); simp only [q_lt, q_le, q_eq, q_lt64, q_le64, q_eq64, q_wide, z0, z1, z2, z3, z4] at c_1 hh; omega))), by rw [ht]; exact hP9, hD9⟩, hS.F ht⟩) hS.2.2 dX12_end_13
  ·
    refine lv_iload_n (pc := 4) hx hb dX12_end_4 rfl (lv_at hl 1 rfl) ?_
    refine lv_aload_n (pc := 5) hx hb dX12_end_5 rfl (lv_at hl 0 rfl) ?_
    refine va_get (pc := 6) (ci := 12) (v := .int 0) (C := RX12) (T := TX12) (N := 73) hx hb hts iX12 hown hK hP 0 rfl rfl 1 (by decide) (hts _ tw_1402) (fun _ h9 => h9) rfl dX12_end_6 ?_
    refine lv_icmp_le (pc := 9) (tgt := 14) hx hb dX12_end_9 (by decide) (fun c_2 => ?_) (fun c_2 => ?_)
    ·
      refine lv_aload_n (pc := 14) hx hb dX12_end_14 rfl (lv_at hl 0 rfl) ?_
      refine lv_iload_n (pc := 15) hx hb dX12_end_15 rfl (lv_at hl 1 rfl) ?_
      refine va_put (pc := 16) (ci := 12) (v := .int x0) (ty := .int) (C := RX12) (T := TX12) (N := 73) hx hb hts iX12 tyX12 tyX12_ok nmX12 hown hK hP hD hS 0 rfl rfl 1 (by decide) (hts _ tw_1402) (fun _ h9 => h9) rfl (by decide +kernel) rfl rfl (Nat.le_of_ble_eq_true rfl) dX12_end_16 (fun H locs hP hD hS => ?_)
      have hP : va_P D gcl [(a0, .inr (12, [.ref a1, .int x0, .int 0, .int 0, .int 0, .int 0, .int 0, .int 0, .int (-1), .ref a2, .ref a3, .ref a4, .ref a5, .ref a6, .ref a7, .ref a8, .ref a9, .ref a10, .ref a11, .ref a12, .ref a13, .ref a14, .ref a15, .ref a16, .int 0, .int 0, .int 0, .int 0, .int 0, .int 9999, .ref a17, .ref a18, .ref a19, .int 0, .ref a20, .int 0, .ref a21, .int 0, .int 0, .ref a22, .ref a23, .ref a24, .ref a25, .int 0, .ref a26, .int 0, .ref a27, .ref a28, .ref a29, .long 0, .ref a30, .ref a31, .ref a32, .ref a33, .ref a34, .ref a35, .ref a36, .ref a37, .ref a38, .int 0, .int 0, .int 0, .long 0, .ref a39, .int 0, .ref a40, .ref a41, .ref a42, .ref a43, .int 0, .int 0, .int 0, .int 0]))] H := hP
      have hD : va_D A [(a0, .inr (12, [.ref a1, .int x0, .int 0, .int 0, .int 0, .int 0, .int 0, .int 0, .int (-1), .ref a2, .ref a3, .ref a4, .ref a5, .ref a6, .ref a7, .ref a8, .ref a9, .ref a10, .ref a11, .ref a12, .ref a13, .ref a14, .ref a15, .ref a16, .int 0, .int 0, .int 0, .int 0, .int 0, .int 9999, .ref a17, .ref a18, .ref a19, .int 0, .ref a20, .int 0, .ref a21, .int 0, .int 0, .ref a22, .ref a23, .ref a24, .ref a25, .int 0, .ref a26, .int 0, .ref a27, .ref a28, .ref a29, .long 0, .ref a30, .ref a31, .ref a32, .ref a33, .ref a34, .ref a35, .ref a36, .ref a37, .ref a38, .int 0, .int 0, .int 0, .long 0, .ref a39, .int 0, .ref a40, .ref a41, .ref a42, .ref a43, .int 0, .int 0, .int 0, .int 0]))] := hD
      refine lv_iconst (pc := 19) (v := 1) hx hb dX12_end_19 (by decide) ?_
      have hP9 := hP.sub (ws' := []) [] rfl
      have hD9 := hD.sub (ws' := []) [] (by decide) rfl
      refine W.widen (k := 0) (n := 0) (Nat.le_of_ble_eq_true rfl) (Nat.le_of_ble_eq_true rfl) ?_
      exact W.zret (v := 1) hx hb hr (by decide +kernel) (fun t ht hW => ⟨⟨1, ((fun _ => 0), (fun _ => (fun _ => 0)), (fun _ => (fun _ => 0)), (fun _ => 0), (fun _ => 0)), rfl, (by show (_ : Int32) = _; first | rfl | decide +kernel | (split <;> rename_i hh <;> first | rfl | (exfalso; have z0 : (0 : Int32).toInt = 0 := (by decide +kernel); have z1 : (1 : Int32).toInt = 1 := (by decide +kernel); have z2 : (9 : Int32).toInt = 9 := (by decide +kernel); have z3 : (100 : Int32).toInt = 100 := (by decide +kernel); have z4 : (0 : Int64).toInt = 0 := (by decide +kernel); (try simp only [lg_cmp_ge, lg_cmp_le, lg_cmp_gt, lg_cmp_lt, lg_cmp_eq] at c_1 c_2); simp only [q_lt, q_le, q_eq, q_lt64, q_le64, q_eq64, q_wide, z0, z1, z2, z3, z4] at c_1 c_2 hh; omega))), by rw [ht]; exact hP9, hD9⟩, hS.F ht⟩) hS.2.2 dX12_end_20
    ·
      refine lv_iconst (pc := 12) (v := 0) hx hb dX12_end_12 (by decide) ?_
      have hP9 := hP.sub (ws' := []) [] rfl
      have hD9 := hD.sub (ws' := []) [] (by decide) rfl
      refine W.widen (k := 0) (n := 0) (Nat.le_of_ble_eq_true rfl) (Nat.le_of_ble_eq_true rfl) ?_
      exact W.zret (v := 0) hx hb hr (by decide +kernel) (fun t ht hW => ⟨⟨0, ((fun _ => 0), (fun _ => (fun _ => 0)), (fun _ => (fun _ => 0)), (fun _ => 0), (fun _ => 0)), rfl, (by show (_ : Int32) = _; first | rfl | decide +kernel | (split <;> rename_i hh <;> first | rfl | (exfalso; have z0 : (0 : Int32).toInt = 0 := (by decide +kernel); have z1 : (1 : Int32).toInt = 1 := (by decide +kernel); have z2 : (9 : Int32).toInt = 9 := (by decide +kernel); have z3 : (100 : Int32).toInt = 100 := (by decide +kernel); have z4 : (0 : Int64).toInt = 0 := (by decide +kernel); (try simp only [lg_cmp_ge, lg_cmp_le, lg_cmp_gt, lg_cmp_lt, lg_cmp_eq] at c_1 c_2); simp only [q_lt, q_le, q_eq, q_lt64, q_le64, q_eq64, q_wide, z0, z1, z2, z3, z4] at c_1 c_2 hh; omega))), by rw [ht]; exact hP9, hD9⟩, hS.F ht⟩) hS.2.2 dX12_end_13
set_option maxHeartbeats 4000000 in
set_option maxRecDepth 100000 in
theorem cc_28_yJ7_fill_53178 (l : Launch) (D : va_G) (cB cC cI cJ : ClassId) (sz : Nat) (a0 : Nat) : Met l yJ7_fill_53178 (.code yJ7_fill_53178 cJ7_fill_53178 4 none :: lw_gd) ({ frames := 0, cells := 0, slots := 0, locals := 0 }) (gPre D [(cB, .byte), (cC, .char), (cI, .int), (cJ, .long)] [.ref a0, .int 0] [(a0, .inl (cI, 30, .inl (fun _ => 0)))] sz) (va_Qv (fun _ => True) (gB D (va_A [(a0, .inl (cI, 30, .inl (fun _ => 0)))] sz) (fun u : gEx => [(a0, .inl (cI, 30, .inl (u.2.1 0)))])) (va_A [(a0, .inl (cI, 30, .inl (fun _ => 0)))] sz)) 0 0 (va_A [(a0, .inl (cI, 30, .inl (fun _ => 0)))] sz) := by
  refine Met.ofW (cc := cJ7_fill_53178) (maxL := 4) (ret := none) (by decide) rfl ?_
  intro p e s m args below meth c s₁ B hml hv
  obtain ⟨rfl, hsz, hP, hK, hD0, hN⟩ := hv
  have hx := B.exec
  have hb := B.bytes
  have hr := B.returns
  have hts : ∀ w ∈ lw_gd, w.before _ s = true := fun w h => atoms_spec (ws := .code yJ7_fill_53178 cJ7_fill_53178 4 none :: lw_gd) B.pre w (List.mem_cons_of_mem _ h)
  have hown : s.vm.findClass RJ7 = some m.cls := findClass_of_methodNamed B.named
  have hlocks := B.notSynchronized
  subst hsz
  have hD := hD0.self (sz := s.heap.size)
  generalize hAe : va_A [(a0, .inl (cI, 30, .inl (fun _ => 0)))] s.heap.size = A at hD ⊢
  have hA : ∀ q : Nat, s.heap.size ≤ q → A q := fun q h => by rw [← hAe]; exact Or.inr h
  have hS : va_S A s.heap s.heap [] := va_S.rf
  have hP : va_P D gcl [(a0, .inl (cI, 30, .inl (fun _ => 0)))] s.heap := hP
  have hl := lv_entry ([.ref a0, .int 0]) (n := 4) (Nat.le_of_ble_eq_true rfl)
  rw [lg_entry_eq]
  generalize (lg_sl ([.ref a0, .int 0]) ++ List.replicate (4 - (lg_sl ([.ref a0, .int 0])).length) Slot.unset).toArray = ls at hl ⊢
  have hl : lv_has ls 4 [(0, .ref a0), (1, .int 0)] := hl
  refine lv_iconst (pc := 0) (v := 0) hx hb dJ7_fill_53178_0 (by decide) ?_
  refine lv_istore_n (pc := 1) (lv' := [(2, .int 0), (0, .ref a0), (1, .int 0)]) hx hb dJ7_fill_53178_1 rfl hl (by decide) rfl (fun ls hl => ?_)
  refine lv_aload_n (pc := 2) hx hb dJ7_fill_53178_2 rfl (lv_at hl 1 rfl) ?_
  refine va_alen (pc := 3) (v := 30) hx hb hK hP 0 2 rfl rfl (by decide +kernel) dJ7_fill_53178_3 ?_
  refine lv_istore_n (pc := 4) (lv' := [(3, .int 30), (2, .int 0), (0, .ref a0), (1, .int 0)]) hx hb dJ7_fill_53178_4 rfl hl (by decide) rfl (fun ls hl => ?_)
  refine lv_iload_n (pc := 5) hx hb dJ7_fill_53178_5 rfl (lv_at hl 1 rfl) ?_
  refine lv_iload_n (pc := 6) hx hb dJ7_fill_53178_6 rfl (lv_at hl 0 rfl) ?_
  refine lv_icmp_ge (pc := 7) (tgt := 20) hx hb dJ7_fill_53178_7 (by decide) (fun c => absurd c (by decide +kernel)) (fun _ => ?_)
  refine lv_aload_n (pc := 10) hx hb dJ7_fill_53178_10 rfl (lv_at hl 2 rfl) ?_
  refine lv_iload_n (pc := 11) hx hb dJ7_fill_53178_11 rfl (lv_at hl 1 rfl) ?_
  refine lv_iload_n (pc := 12) hx hb dJ7_fill_53178_12 rfl (lv_at hl 3 rfl) ?_
  refine g_iastore (pc := 13) hx hb hK hP hD hS 0 2 rfl rfl (gin rfl) dJ7_fill_53178_13 (fun f_1 H locs hP hD hS => ?_)
  have hP : va_P D gcl [(a0, .inl (cI, 30, .inl f_1))] H := hP
  have hD : va_D A [(a0, .inl (cI, 30, .inl f_1))] := hD
  refine lv_iinc (pc := 14) (v := 1) (lv' := [(2, .int 1), (3, .int 30), (0, .ref a0), (1, .int 0)]) hx hb dJ7_fill_53178_14 hl (k := 1) rfl (by decide +kernel) (by decide) rfl (fun ls hl => ?_)
  refine lv_goto (pc := 17) (tgt := 5) hx hb dJ7_fill_53178_17 (by decide) ?_
  refine lv_iload_n (pc := 5) hx hb dJ7_fill_53178_5 rfl (lv_at hl 0 rfl) ?_
  refine lv_iload_n (pc := 6) hx hb dJ7_fill_53178_6 rfl (lv_at hl 1 rfl) ?_
  refine lv_icmp_ge (pc := 7) (tgt := 20) hx hb dJ7_fill_53178_7 (by decide) (fun c => absurd c (by decide +kernel)) (fun _ => ?_)
  refine lv_aload_n (pc := 10) hx hb dJ7_fill_53178_10 rfl (lv_at hl 2 rfl) ?_
  refine lv_iload_n (pc := 11) hx hb dJ7_fill_53178_11 rfl (lv_at hl 0 rfl) ?_
  refine lv_iload_n (pc := 12) hx hb dJ7_fill_53178_12 rfl (lv_at hl 3 rfl) ?_
  refine g_iastore (pc := 13) hx hb hK hP hD hS 0 2 rfl rfl (gin rfl) dJ7_fill_53178_13 (fun f_2 H locs hP hD hS => ?_)
  have hP : va_P D gcl [(a0, .inl (cI, 30, .inl f_2))] H := hP
  have hD : va_D A [(a0, .inl (cI, 30, .inl f_2))] := hD
  refine lv_iinc (pc := 14) (v := 2) (lv' := [(2, .int 2), (3, .int 30), (0, .ref a0), (1, .int 0)]) hx hb dJ7_fill_53178_14 hl (k := 0) rfl (by decide +kernel) (by decide) rfl (fun ls hl => ?_)
  refine lv_goto (pc := 17) (tgt := 5) hx hb dJ7_fill_53178_17 (by decide) ?_
  refine lv_iload_n (pc := 5) hx hb dJ7_fill_53178_5 rfl (lv_at hl 0 rfl) ?_
  refine lv_iload_n (pc := 6) hx hb dJ7_fill_53178_6 rfl (lv_at hl 1 rfl) ?_
  refine lv_icmp_ge (pc := 7) (tgt := 20) hx hb dJ7_fill_53178_7 (by decide) (fun c => absurd c (by decide +kernel)) (fun _ => ?_)
  refine lv_aload_n (pc := 10) hx hb dJ7_fill_53178_10 rfl (lv_at hl 2 rfl) ?_
  refine lv_iload_n (pc := 11) hx hb dJ7_fill_53178_11 rfl (lv_at hl 0 rfl) ?_
  refine lv_iload_n (pc := 12) hx hb dJ7_fill_53178_12 rfl (lv_at hl 3 rfl) ?_
  refine g_iastore (pc := 13) hx hb hK hP hD hS 0 2 rfl rfl (gin rfl) dJ7_fill_53178_13 (fun f_3 H locs hP hD hS => ?_)
  have hP : va_P D gcl [(a0, .inl (cI, 30, .inl f_3))] H := hP
  have hD : va_D A [(a0, .inl (cI, 30, .inl f_3))] := hD
  refine lv_iinc (pc := 14) (v := 3) (lv' := [(2, .int 3), (3, .int 30), (0, .ref a0), (1, .int 0)]) hx hb dJ7_fill_53178_14 hl (k := 0) rfl (by decide +kernel) (by decide) rfl (fun ls hl => ?_)
  refine lv_goto (pc := 17) (tgt := 5) hx hb dJ7_fill_53178_17 (by decide) ?_
  refine lv_iload_n (pc := 5) hx hb dJ7_fill_53178_5 rfl (lv_at hl 0 rfl) ?_
  refine lv_iload_n (pc := 6) hx hb dJ7_fill_53178_6 rfl (lv_at hl 1 rfl) ?_
  refine lv_icmp_ge (pc := 7) (tgt := 20) hx hb dJ7_fill_53178_7 (by decide) (fun c => absurd c (by decide +kernel)) (fun _ => ?_)
  refine lv_aload_n (pc := 10) hx hb dJ7_fill_53178_10 rfl (lv_at hl 2 rfl) ?_
  refine lv_iload_n (pc := 11) hx hb dJ7_fill_53178_11 rfl (lv_at hl 0 rfl) ?_
  refine lv_iload_n (pc := 12) hx hb dJ7_fill_53178_12 rfl (lv_at hl 3 rfl) ?_
  refine g_iastore (pc := 13) hx hb hK hP hD hS 0 2 rfl rfl (gin rfl) dJ7_fill_53178_13 (fun f_4 H locs hP hD hS => ?_)
  have hP : va_P D gcl [(a0, .inl (cI, 30, .inl f_4))] H := hP
  have hD : va_D A [(a0, .inl (cI, 30, .inl f_4))] := hD
  refine lv_iinc (pc := 14) (v := 4) (lv' := [(2, .int 4), (3, .int 30), (0, .ref a0), (1, .int 0)]) hx hb dJ7_fill_53178_14 hl (k := 0) rfl (by decide +kernel) (by decide) rfl (fun ls hl => ?_)
  refine lv_goto (pc := 17) (tgt := 5) hx hb dJ7_fill_53178_17 (by decide) ?_
  refine lv_iload_n (pc := 5) hx hb dJ7_fill_53178_5 rfl (lv_at hl 0 rfl) ?_
  refine lv_iload_n (pc := 6) hx hb dJ7_fill_53178_6 rfl (lv_at hl 1 rfl) ?_
  refine lv_icmp_ge (pc := 7) (tgt := 20) hx hb dJ7_fill_53178_7 (by decide) (fun c => absurd c (by decide +kernel)) (fun _ => ?_)
  refine lv_aload_n (pc := 10) hx hb dJ7_fill_53178_10 rfl (lv_at hl 2 rfl) ?_
  refine lv_iload_n (pc := 11) hx hb dJ7_fill_53178_11 rfl (lv_at hl 0 rfl) ?_
  refine lv_iload_n (pc := 12) hx hb dJ7_fill_53178_12 rfl (lv_at hl 3 rfl) ?_
  refine g_iastore (pc := 13) hx hb hK hP hD hS 0 2 rfl rfl (gin rfl) dJ7_fill_53178_13 (fun f_5 H locs hP hD hS => ?_)
  have hP : va_P D gcl [(a0, .inl (cI, 30, .inl f_5))] H := hP
  have hD : va_D A [(a0, .inl (cI, 30, .inl f_5))] := hD
  refine lv_iinc (pc := 14) (v := 5) (lv' := [(2, .int 5), (3, .int 30), (0, .ref a0), (1, .int 0)]) hx hb dJ7_fill_53178_14 hl (k := 0) rfl (by decide +kernel) (by decide) rfl (fun ls hl => ?_)
  refine lv_goto (pc := 17) (tgt := 5) hx hb dJ7_fill_53178_17 (by decide) ?_
  refine lv_iload_n (pc := 5) hx hb dJ7_fill_53178_5 rfl (lv_at hl 0 rfl) ?_
  refine lv_iload_n (pc := 6) hx hb dJ7_fill_53178_6 rfl (lv_at hl 1 rfl) ?_
  refine lv_icmp_ge (pc := 7) (tgt := 20) hx hb dJ7_fill_53178_7 (by decide) (fun c => absurd c (by decide +kernel)) (fun _ => ?_)
  refine lv_aload_n (pc := 10) hx hb dJ7_fill_53178_10 rfl (lv_at hl 2 rfl) ?_
  refine lv_iload_n (pc := 11) hx hb dJ7_fill_53178_11 rfl (lv_at hl 0 rfl) ?_
  refine lv_iload_n (pc := 12) hx hb dJ7_fill_53178_12 rfl (lv_at hl 3 rfl) ?_
  refine g_iastore (pc := 13) hx hb hK hP hD hS 0 2 rfl rfl (gin rfl) dJ7_fill_53178_13 (fun f_6 H locs hP hD hS => ?_)
  have hP : va_P D gcl [(a0, .inl (cI, 30, .inl f_6))] H := hP
  have hD : va_D A [(a0, .inl (cI, 30, .inl f_6))] := hD
  refine lv_iinc (pc := 14) (v := 6) (lv' := [(2, .int 6), (3, .int 30), (0, .ref a0), (1, .int 0)]) hx hb dJ7_fill_53178_14 hl (k := 0) rfl (by decide +kernel) (by decide) rfl (fun ls hl => ?_)
  refine lv_goto (pc := 17) (tgt := 5) hx hb dJ7_fill_53178_17 (by decide) ?_
  refine lv_iload_n (pc := 5) hx hb dJ7_fill_53178_5 rfl (lv_at hl 0 rfl) ?_
  refine lv_iload_n (pc := 6) hx hb dJ7_fill_53178_6 rfl (lv_at hl 1 rfl) ?_
  refine lv_icmp_ge (pc := 7) (tgt := 20) hx hb dJ7_fill_53178_7 (by decide) (fun c => absurd c (by decide +kernel)) (fun _ => ?_)
  refine lv_aload_n (pc := 10) hx hb dJ7_fill_53178_10 rfl (lv_at hl 2 rfl) ?_
  refine lv_iload_n (pc := 11) hx hb dJ7_fill_53178_11 rfl (lv_at hl 0 rfl) ?_
  refine lv_iload_n (pc := 12) hx hb dJ7_fill_53178_12 rfl (lv_at hl 3 rfl) ?_
  refine g_iastore (pc := 13) hx hb hK hP hD hS 0 2 rfl rfl (gin rfl) dJ7_fill_53178_13 (fun f_7 H locs hP hD hS => ?_)
  have hP : va_P D gcl [(a0, .inl (cI, 30, .inl f_7))] H := hP
  have hD : va_D A [(a0, .inl (cI, 30, .inl f_7))] := hD
  refine lv_iinc (pc := 14) (v := 7) (lv' := [(2, .int 7), (3, .int 30), (0, .ref a0), (1, .int 0)]) hx hb dJ7_fill_53178_14 hl (k := 0) rfl (by decide +kernel) (by decide) rfl (fun ls hl => ?_)
  refine lv_goto (pc := 17) (tgt := 5) hx hb dJ7_fill_53178_17 (by decide) ?_
  refine lv_iload_n (pc := 5) hx hb dJ7_fill_53178_5 rfl (lv_at hl 0 rfl) ?_
  refine lv_iload_n (pc := 6) hx hb dJ7_fill_53178_6 rfl (lv_at hl 1 rfl) ?_
  refine lv_icmp_ge (pc := 7) (tgt := 20) hx hb dJ7_fill_53178_7 (by decide) (fun c => absurd c (by decide +kernel)) (fun _ => ?_)
  refine lv_aload_n (pc := 10) hx hb dJ7_fill_53178_10 rfl (lv_at hl 2 rfl) ?_
  refine lv_iload_n (pc := 11) hx hb dJ7_fill_53178_11 rfl (lv_at hl 0 rfl) ?_
  refine lv_iload_n (pc := 12) hx hb dJ7_fill_53178_12 rfl (lv_at hl 3 rfl) ?_
  refine g_iastore (pc := 13) hx hb hK hP hD hS 0 2 rfl rfl (gin rfl) dJ7_fill_53178_13 (fun f_8 H locs hP hD hS => ?_)
  have hP : va_P D gcl [(a0, .inl (cI, 30, .inl f_8))] H := hP
  have hD : va_D A [(a0, .inl (cI, 30, .inl f_8))] := hD
  refine lv_iinc (pc := 14) (v := 8) (lv' := [(2, .int 8), (3, .int 30), (0, .ref a0), (1, .int 0)]) hx hb dJ7_fill_53178_14 hl (k := 0) rfl (by decide +kernel) (by decide) rfl (fun ls hl => ?_)
  refine lv_goto (pc := 17) (tgt := 5) hx hb dJ7_fill_53178_17 (by decide) ?_
  refine lv_iload_n (pc := 5) hx hb dJ7_fill_53178_5 rfl (lv_at hl 0 rfl) ?_
  refine lv_iload_n (pc := 6) hx hb dJ7_fill_53178_6 rfl (lv_at hl 1 rfl) ?_
  refine lv_icmp_ge (pc := 7) (tgt := 20) hx hb dJ7_fill_53178_7 (by decide) (fun c => absurd c (by decide +kernel)) (fun _ => ?_)
  refine lv_aload_n (pc := 10) hx hb dJ7_fill_53178_10 rfl (lv_at hl 2 rfl) ?_
  refine lv_iload_n (pc := 11) hx hb dJ7_fill_53178_11 rfl (lv_at hl 0 rfl) ?_
  refine lv_iload_n (pc := 12) hx hb dJ7_fill_53178_12 rfl (lv_at hl 3 rfl) ?_
  refine g_iastore (pc := 13) hx hb hK hP hD hS 0 2 rfl rfl (gin rfl) dJ7_fill_53178_13 (fun f_9 H locs hP hD hS => ?_)
  have hP : va_P D gcl [(a0, .inl (cI, 30, .inl f_9))] H := hP
  have hD : va_D A [(a0, .inl (cI, 30, .inl f_9))] := hD
  refine lv_iinc (pc := 14) (v := 9) (lv' := [(2, .int 9), (3, .int 30), (0, .ref a0), (1, .int 0)]) hx hb dJ7_fill_53178_14 hl (k := 0) rfl (by decide +kernel) (by decide) rfl (fun ls hl => ?_)
  refine lv_goto (pc := 17) (tgt := 5) hx hb dJ7_fill_53178_17 (by decide) ?_
  refine lv_iload_n (pc := 5) hx hb dJ7_fill_53178_5 rfl (lv_at hl 0 rfl) ?_
  refine lv_iload_n (pc := 6) hx hb dJ7_fill_53178_6 rfl (lv_at hl 1 rfl) ?_
  refine lv_icmp_ge (pc := 7) (tgt := 20) hx hb dJ7_fill_53178_7 (by decide) (fun c => absurd c (by decide +kernel)) (fun _ => ?_)
  refine lv_aload_n (pc := 10) hx hb dJ7_fill_53178_10 rfl (lv_at hl 2 rfl) ?_
  refine lv_iload_n (pc := 11) hx hb dJ7_fill_53178_11 rfl (lv_at hl 0 rfl) ?_
  refine lv_iload_n (pc := 12) hx hb dJ7_fill_53178_12 rfl (lv_at hl 3 rfl) ?_
  refine g_iastore (pc := 13) hx hb hK hP hD hS 0 2 rfl rfl (gin rfl) dJ7_fill_53178_13 (fun f_10 H locs hP hD hS => ?_)
  have hP : va_P D gcl [(a0, .inl (cI, 30, .inl f_10))] H := hP
  have hD : va_D A [(a0, .inl (cI, 30, .inl f_10))] := hD
  refine lv_iinc (pc := 14) (v := 10) (lv' := [(2, .int 10), (3, .int 30), (0, .ref a0), (1, .int 0)]) hx hb dJ7_fill_53178_14 hl (k := 0) rfl (by decide +kernel) (by decide) rfl (fun ls hl => ?_)
  refine lv_goto (pc := 17) (tgt := 5) hx hb dJ7_fill_53178_17 (by decide) ?_
  refine lv_iload_n (pc := 5) hx hb dJ7_fill_53178_5 rfl (lv_at hl 0 rfl) ?_
  refine lv_iload_n (pc := 6) hx hb dJ7_fill_53178_6 rfl (lv_at hl 1 rfl) ?_
  refine lv_icmp_ge (pc := 7) (tgt := 20) hx hb dJ7_fill_53178_7 (by decide) (fun c => absurd c (by decide +kernel)) (fun _ => ?_)
  refine lv_aload_n (pc := 10) hx hb dJ7_fill_53178_10 rfl (lv_at hl 2 rfl) ?_
  refine lv_iload_n (pc := 11) hx hb dJ7_fill_53178_11 rfl (lv_at hl 0 rfl) ?_
  refine lv_iload_n (pc := 12) hx hb dJ7_fill_53178_12 rfl (lv_at hl 3 rfl) ?_
  refine g_iastore (pc := 13) hx hb hK hP hD hS 0 2 rfl rfl (gin rfl) dJ7_fill_53178_13 (fun f_11 H locs hP hD hS => ?_)
  have hP : va_P D gcl [(a0, .inl (cI, 30, .inl f_11))] H := hP
  have hD : va_D A [(a0, .inl (cI, 30, .inl f_11))] := hD
  refine lv_iinc (pc := 14) (v := 11) (lv' := [(2, .int 11), (3, .int 30), (0, .ref a0), (1, .int 0)]) hx hb dJ7_fill_53178_14 hl (k := 0) rfl (by decide +kernel) (by decide) rfl (fun ls hl => ?_)
  refine lv_goto (pc := 17) (tgt := 5) hx hb dJ7_fill_53178_17 (by decide) ?_
  refine lv_iload_n (pc := 5) hx hb dJ7_fill_53178_5 rfl (lv_at hl 0 rfl) ?_
  refine lv_iload_n (pc := 6) hx hb dJ7_fill_53178_6 rfl (lv_at hl 1 rfl) ?_
  refine lv_icmp_ge (pc := 7) (tgt := 20) hx hb dJ7_fill_53178_7 (by decide) (fun c => absurd c (by decide +kernel)) (fun _ => ?_)
  refine lv_aload_n (pc := 10) hx hb dJ7_fill_53178_10 rfl (lv_at hl 2 rfl) ?_
  refine lv_iload_n (pc := 11) hx hb dJ7_fill_53178_11 rfl (lv_at hl 0 rfl) ?_
  refine lv_iload_n (pc := 12) hx hb dJ7_fill_53178_12 rfl (lv_at hl 3 rfl) ?_
  refine g_iastore (pc := 13) hx hb hK hP hD hS 0 2 rfl rfl (gin rfl) dJ7_fill_53178_13 (fun f_12 H locs hP hD hS => ?_)
  have hP : va_P D gcl [(a0, .inl (cI, 30, .inl f_12))] H := hP
  have hD : va_D A [(a0, .inl (cI, 30, .inl f_12))] := hD
  refine lv_iinc (pc := 14) (v := 12) (lv' := [(2, .int 12), (3, .int 30), (0, .ref a0), (1, .int 0)]) hx hb dJ7_fill_53178_14 hl (k := 0) rfl (by decide +kernel) (by decide) rfl (fun ls hl => ?_)
  refine lv_goto (pc := 17) (tgt := 5) hx hb dJ7_fill_53178_17 (by decide) ?_
  refine lv_iload_n (pc := 5) hx hb dJ7_fill_53178_5 rfl (lv_at hl 0 rfl) ?_
  refine lv_iload_n (pc := 6) hx hb dJ7_fill_53178_6 rfl (lv_at hl 1 rfl) ?_
  refine lv_icmp_ge (pc := 7) (tgt := 20) hx hb dJ7_fill_53178_7 (by decide) (fun c => absurd c (by decide +kernel)) (fun _ => ?_)
  refine lv_aload_n (pc := 10) hx hb dJ7_fill_53178_10 rfl (lv_at hl 2 rfl) ?_
  refine lv_iload_n (pc := 11) hx hb dJ7_fill_53178_11 rfl (lv_at hl 0 rfl) ?_
  refine lv_iload_n (pc := 12) hx hb dJ7_fill_53178_12 rfl (lv_at hl 3 rfl) ?_
  refine g_iastore (pc := 13) hx hb hK hP hD hS 0 2 rfl rfl (gin rfl) dJ7_fill_53178_13 (fun f_13 H locs hP hD hS => ?_)
  have hP : va_P D gcl [(a0, .inl (cI, 30, .inl f_13))] H := hP
  have hD : va_D A [(a0, .inl (cI, 30, .inl f_13))] := hD
  refine lv_iinc (pc := 14) (v := 13) (lv' := [(2, .int 13), (3, .int 30), (0, .ref a0), (1, .int 0)]) hx hb dJ7_fill_53178_14 hl (k := 0) rfl (by decide +kernel) (by decide) rfl (fun ls hl => ?_)
  refine lv_goto (pc := 17) (tgt := 5) hx hb dJ7_fill_53178_17 (by decide) ?_
  refine lv_iload_n (pc := 5) hx hb dJ7_fill_53178_5 rfl (lv_at hl 0 rfl) ?_
  refine lv_iload_n (pc := 6) hx hb dJ7_fill_53178_6 rfl (lv_at hl 1 rfl) ?_
  refine lv_icmp_ge (pc := 7) (tgt := 20) hx hb dJ7_fill_53178_7 (by decide) (fun c => absurd c (by decide +kernel)) (fun _ => ?_)
  refine lv_aload_n (pc := 10) hx hb dJ7_fill_53178_10 rfl (lv_at hl 2 rfl) ?_
  refine lv_iload_n (pc := 11) hx hb dJ7_fill_53178_11 rfl (lv_at hl 0 rfl) ?_
  refine lv_iload_n (pc := 12) hx hb dJ7_fill_53178_12 rfl (lv_at hl 3 rfl) ?_
  refine g_iastore (pc := 13) hx hb hK hP hD hS 0 2 rfl rfl (gin rfl) dJ7_fill_53178_13 (fun f_14 H locs hP hD hS => ?_)
  have hP : va_P D gcl [(a0, .inl (cI, 30, .inl f_14))] H := hP
  have hD : va_D A [(a0, .inl (cI, 30, .inl f_14))] := hD
  refine lv_iinc (pc := 14) (v := 14) (lv' := [(2, .int 14), (3, .int 30), (0, .ref a0), (1, .int 0)]) hx hb dJ7_fill_53178_14 hl (k := 0) rfl (by decide +kernel) (by decide) rfl (fun ls hl => ?_)
  refine lv_goto (pc := 17) (tgt := 5) hx hb dJ7_fill_53178_17 (by decide) ?_
  refine lv_iload_n (pc := 5) hx hb dJ7_fill_53178_5 rfl (lv_at hl 0 rfl) ?_
  refine lv_iload_n (pc := 6) hx hb dJ7_fill_53178_6 rfl (lv_at hl 1 rfl) ?_
  refine lv_icmp_ge (pc := 7) (tgt := 20) hx hb dJ7_fill_53178_7 (by decide) (fun c => absurd c (by decide +kernel)) (fun _ => ?_)
  refine lv_aload_n (pc := 10) hx hb dJ7_fill_53178_10 rfl (lv_at hl 2 rfl) ?_
  refine lv_iload_n (pc := 11) hx hb dJ7_fill_53178_11 rfl (lv_at hl 0 rfl) ?_
  refine lv_iload_n (pc := 12) hx hb dJ7_fill_53178_12 rfl (lv_at hl 3 rfl) ?_
  refine g_iastore (pc := 13) hx hb hK hP hD hS 0 2 rfl rfl (gin rfl) dJ7_fill_53178_13 (fun f_15 H locs hP hD hS => ?_)
  have hP : va_P D gcl [(a0, .inl (cI, 30, .inl f_15))] H := hP
  have hD : va_D A [(a0, .inl (cI, 30, .inl f_15))] := hD
  refine lv_iinc (pc := 14) (v := 15) (lv' := [(2, .int 15), (3, .int 30), (0, .ref a0), (1, .int 0)]) hx hb dJ7_fill_53178_14 hl (k := 0) rfl (by decide +kernel) (by decide) rfl (fun ls hl => ?_)
  refine lv_goto (pc := 17) (tgt := 5) hx hb dJ7_fill_53178_17 (by decide) ?_
  refine lv_iload_n (pc := 5) hx hb dJ7_fill_53178_5 rfl (lv_at hl 0 rfl) ?_
  refine lv_iload_n (pc := 6) hx hb dJ7_fill_53178_6 rfl (lv_at hl 1 rfl) ?_
  refine lv_icmp_ge (pc := 7) (tgt := 20) hx hb dJ7_fill_53178_7 (by decide) (fun c => absurd c (by decide +kernel)) (fun _ => ?_)
  refine lv_aload_n (pc := 10) hx hb dJ7_fill_53178_10 rfl (lv_at hl 2 rfl) ?_
  refine lv_iload_n (pc := 11) hx hb dJ7_fill_53178_11 rfl (lv_at hl 0 rfl) ?_
  refine lv_iload_n (pc := 12) hx hb dJ7_fill_53178_12 rfl (lv_at hl 3 rfl) ?_
  refine g_iastore (pc := 13) hx hb hK hP hD hS 0 2 rfl rfl (gin rfl) dJ7_fill_53178_13 (fun f_16 H locs hP hD hS => ?_)
  have hP : va_P D gcl [(a0, .inl (cI, 30, .inl f_16))] H := hP
  have hD : va_D A [(a0, .inl (cI, 30, .inl f_16))] := hD
  refine lv_iinc (pc := 14) (v := 16) (lv' := [(2, .int 16), (3, .int 30), (0, .ref a0), (1, .int 0)]) hx hb dJ7_fill_53178_14 hl (k := 0) rfl (by decide +kernel) (by decide) rfl (fun ls hl => ?_)
  refine lv_goto (pc := 17) (tgt := 5) hx hb dJ7_fill_53178_17 (by decide) ?_
  refine lv_iload_n (pc := 5) hx hb dJ7_fill_53178_5 rfl (lv_at hl 0 rfl) ?_
  refine lv_iload_n (pc := 6) hx hb dJ7_fill_53178_6 rfl (lv_at hl 1 rfl) ?_
  refine lv_icmp_ge (pc := 7) (tgt := 20) hx hb dJ7_fill_53178_7 (by decide) (fun c => absurd c (by decide +kernel)) (fun _ => ?_)
  refine lv_aload_n (pc := 10) hx hb dJ7_fill_53178_10 rfl (lv_at hl 2 rfl) ?_
  refine lv_iload_n (pc := 11) hx hb dJ7_fill_53178_11 rfl (lv_at hl 0 rfl) ?_
  refine lv_iload_n (pc := 12) hx hb dJ7_fill_53178_12 rfl (lv_at hl 3 rfl) ?_
  refine g_iastore (pc := 13) hx hb hK hP hD hS 0 2 rfl rfl (gin rfl) dJ7_fill_53178_13 (fun f_17 H locs hP hD hS => ?_)
  have hP : va_P D gcl [(a0, .inl (cI, 30, .inl f_17))] H := hP
  have hD : va_D A [(a0, .inl (cI, 30, .inl f_17))] := hD
  refine lv_iinc (pc := 14) (v := 17) (lv' := [(2, .int 17), (3, .int 30), (0, .ref a0), (1, .int 0)]) hx hb dJ7_fill_53178_14 hl (k := 0) rfl (by decide +kernel) (by decide) rfl (fun ls hl => ?_)
  refine lv_goto (pc := 17) (tgt := 5) hx hb dJ7_fill_53178_17 (by decide) ?_
  refine lv_iload_n (pc := 5) hx hb dJ7_fill_53178_5 rfl (lv_at hl 0 rfl) ?_
  refine lv_iload_n (pc := 6) hx hb dJ7_fill_53178_6 rfl (lv_at hl 1 rfl) ?_
  refine lv_icmp_ge (pc := 7) (tgt := 20) hx hb dJ7_fill_53178_7 (by decide) (fun c => absurd c (by decide +kernel)) (fun _ => ?_)
  refine lv_aload_n (pc := 10) hx hb dJ7_fill_53178_10 rfl (lv_at hl 2 rfl) ?_
  refine lv_iload_n (pc := 11) hx hb dJ7_fill_53178_11 rfl (lv_at hl 0 rfl) ?_
  refine lv_iload_n (pc := 12) hx hb dJ7_fill_53178_12 rfl (lv_at hl 3 rfl) ?_
  refine g_iastore (pc := 13) hx hb hK hP hD hS 0 2 rfl rfl (gin rfl) dJ7_fill_53178_13 (fun f_18 H locs hP hD hS => ?_)
  have hP : va_P D gcl [(a0, .inl (cI, 30, .inl f_18))] H := hP
  have hD : va_D A [(a0, .inl (cI, 30, .inl f_18))] := hD
  refine lv_iinc (pc := 14) (v := 18) (lv' := [(2, .int 18), (3, .int 30), (0, .ref a0), (1, .int 0)]) hx hb dJ7_fill_53178_14 hl (k := 0) rfl (by decide +kernel) (by decide) rfl (fun ls hl => ?_)
  refine lv_goto (pc := 17) (tgt := 5) hx hb dJ7_fill_53178_17 (by decide) ?_
  refine lv_iload_n (pc := 5) hx hb dJ7_fill_53178_5 rfl (lv_at hl 0 rfl) ?_
  refine lv_iload_n (pc := 6) hx hb dJ7_fill_53178_6 rfl (lv_at hl 1 rfl) ?_
  refine lv_icmp_ge (pc := 7) (tgt := 20) hx hb dJ7_fill_53178_7 (by decide) (fun c => absurd c (by decide +kernel)) (fun _ => ?_)
  refine lv_aload_n (pc := 10) hx hb dJ7_fill_53178_10 rfl (lv_at hl 2 rfl) ?_
  refine lv_iload_n (pc := 11) hx hb dJ7_fill_53178_11 rfl (lv_at hl 0 rfl) ?_
  refine lv_iload_n (pc := 12) hx hb dJ7_fill_53178_12 rfl (lv_at hl 3 rfl) ?_
  refine g_iastore (pc := 13) hx hb hK hP hD hS 0 2 rfl rfl (gin rfl) dJ7_fill_53178_13 (fun f_19 H locs hP hD hS => ?_)
  have hP : va_P D gcl [(a0, .inl (cI, 30, .inl f_19))] H := hP
  have hD : va_D A [(a0, .inl (cI, 30, .inl f_19))] := hD
  refine lv_iinc (pc := 14) (v := 19) (lv' := [(2, .int 19), (3, .int 30), (0, .ref a0), (1, .int 0)]) hx hb dJ7_fill_53178_14 hl (k := 0) rfl (by decide +kernel) (by decide) rfl (fun ls hl => ?_)
  refine lv_goto (pc := 17) (tgt := 5) hx hb dJ7_fill_53178_17 (by decide) ?_
  refine lv_iload_n (pc := 5) hx hb dJ7_fill_53178_5 rfl (lv_at hl 0 rfl) ?_
  refine lv_iload_n (pc := 6) hx hb dJ7_fill_53178_6 rfl (lv_at hl 1 rfl) ?_
  refine lv_icmp_ge (pc := 7) (tgt := 20) hx hb dJ7_fill_53178_7 (by decide) (fun c => absurd c (by decide +kernel)) (fun _ => ?_)
  refine lv_aload_n (pc := 10) hx hb dJ7_fill_53178_10 rfl (lv_at hl 2 rfl) ?_
  refine lv_iload_n (pc := 11) hx hb dJ7_fill_53178_11 rfl (lv_at hl 0 rfl) ?_
  refine lv_iload_n (pc := 12) hx hb dJ7_fill_53178_12 rfl (lv_at hl 3 rfl) ?_
  refine g_iastore (pc := 13) hx hb hK hP hD hS 0 2 rfl rfl (gin rfl) dJ7_fill_53178_13 (fun f_20 H locs hP hD hS => ?_)
  have hP : va_P D gcl [(a0, .inl (cI, 30, .inl f_20))] H := hP
  have hD : va_D A [(a0, .inl (cI, 30, .inl f_20))] := hD
  refine lv_iinc (pc := 14) (v := 20) (lv' := [(2, .int 20), (3, .int 30), (0, .ref a0), (1, .int 0)]) hx hb dJ7_fill_53178_14 hl (k := 0) rfl (by decide +kernel) (by decide) rfl (fun ls hl => ?_)
  refine lv_goto (pc := 17) (tgt := 5) hx hb dJ7_fill_53178_17 (by decide) ?_
  refine lv_iload_n (pc := 5) hx hb dJ7_fill_53178_5 rfl (lv_at hl 0 rfl) ?_
  refine lv_iload_n (pc := 6) hx hb dJ7_fill_53178_6 rfl (lv_at hl 1 rfl) ?_
  refine lv_icmp_ge (pc := 7) (tgt := 20) hx hb dJ7_fill_53178_7 (by decide) (fun c => absurd c (by decide +kernel)) (fun _ => ?_)
  refine lv_aload_n (pc := 10) hx hb dJ7_fill_53178_10 rfl (lv_at hl 2 rfl) ?_
  refine lv_iload_n (pc := 11) hx hb dJ7_fill_53178_11 rfl (lv_at hl 0 rfl) ?_
  refine lv_iload_n (pc := 12) hx hb dJ7_fill_53178_12 rfl (lv_at hl 3 rfl) ?_
  refine g_iastore (pc := 13) hx hb hK hP hD hS 0 2 rfl rfl (gin rfl) dJ7_fill_53178_13 (fun f_21 H locs hP hD hS => ?_)
  have hP : va_P D gcl [(a0, .inl (cI, 30, .inl f_21))] H := hP
  have hD : va_D A [(a0, .inl (cI, 30, .inl f_21))] := hD
  refine lv_iinc (pc := 14) (v := 21) (lv' := [(2, .int 21), (3, .int 30), (0, .ref a0), (1, .int 0)]) hx hb dJ7_fill_53178_14 hl (k := 0) rfl (by decide +kernel) (by decide) rfl (fun ls hl => ?_)
  refine lv_goto (pc := 17) (tgt := 5) hx hb dJ7_fill_53178_17 (by decide) ?_
  refine lv_iload_n (pc := 5) hx hb dJ7_fill_53178_5 rfl (lv_at hl 0 rfl) ?_
  refine lv_iload_n (pc := 6) hx hb dJ7_fill_53178_6 rfl (lv_at hl 1 rfl) ?_
  refine lv_icmp_ge (pc := 7) (tgt := 20) hx hb dJ7_fill_53178_7 (by decide) (fun c => absurd c (by decide +kernel)) (fun _ => ?_)
  refine lv_aload_n (pc := 10) hx hb dJ7_fill_53178_10 rfl (lv_at hl 2 rfl) ?_
  refine lv_iload_n (pc := 11) hx hb dJ7_fill_53178_11 rfl (lv_at hl 0 rfl) ?_
  refine lv_iload_n (pc := 12) hx hb dJ7_fill_53178_12 rfl (lv_at hl 3 rfl) ?_
  refine g_iastore (pc := 13) hx hb hK hP hD hS 0 2 rfl rfl (gin rfl) dJ7_fill_53178_13 (fun f_22 H locs hP hD hS => ?_)
  have hP : va_P D gcl [(a0, .inl (cI, 30, .inl f_22))] H := hP
  have hD : va_D A [(a0, .inl (cI, 30, .inl f_22))] := hD
  refine lv_iinc (pc := 14) (v := 22) (lv' := [(2, .int 22), (3, .int 30), (0, .ref a0), (1, .int 0)]) hx hb dJ7_fill_53178_14 hl (k := 0) rfl (by decide +kernel) (by decide) rfl (fun ls hl => ?_)
  refine lv_goto (pc := 17) (tgt := 5) hx hb dJ7_fill_53178_17 (by decide) ?_
  refine lv_iload_n (pc := 5) hx hb dJ7_fill_53178_5 rfl (lv_at hl 0 rfl) ?_
  refine lv_iload_n (pc := 6) hx hb dJ7_fill_53178_6 rfl (lv_at hl 1 rfl) ?_
  refine lv_icmp_ge (pc := 7) (tgt := 20) hx hb dJ7_fill_53178_7 (by decide) (fun c => absurd c (by decide +kernel)) (fun _ => ?_)
  refine lv_aload_n (pc := 10) hx hb dJ7_fill_53178_10 rfl (lv_at hl 2 rfl) ?_
  refine lv_iload_n (pc := 11) hx hb dJ7_fill_53178_11 rfl (lv_at hl 0 rfl) ?_
  refine lv_iload_n (pc := 12) hx hb dJ7_fill_53178_12 rfl (lv_at hl 3 rfl) ?_
  refine g_iastore (pc := 13) hx hb hK hP hD hS 0 2 rfl rfl (gin rfl) dJ7_fill_53178_13 (fun f_23 H locs hP hD hS => ?_)
  have hP : va_P D gcl [(a0, .inl (cI, 30, .inl f_23))] H := hP
  have hD : va_D A [(a0, .inl (cI, 30, .inl f_23))] := hD
  refine lv_iinc (pc := 14) (v := 23) (lv' := [(2, .int 23), (3, .int 30), (0, .ref a0), (1, .int 0)]) hx hb dJ7_fill_53178_14 hl (k := 0) rfl (by decide +kernel) (by decide) rfl (fun ls hl => ?_)
  refine lv_goto (pc := 17) (tgt := 5) hx hb dJ7_fill_53178_17 (by decide) ?_
  refine lv_iload_n (pc := 5) hx hb dJ7_fill_53178_5 rfl (lv_at hl 0 rfl) ?_
  refine lv_iload_n (pc := 6) hx hb dJ7_fill_53178_6 rfl (lv_at hl 1 rfl) ?_
  refine lv_icmp_ge (pc := 7) (tgt := 20) hx hb dJ7_fill_53178_7 (by decide) (fun c => absurd c (by decide +kernel)) (fun _ => ?_)
  refine lv_aload_n (pc := 10) hx hb dJ7_fill_53178_10 rfl (lv_at hl 2 rfl) ?_
  refine lv_iload_n (pc := 11) hx hb dJ7_fill_53178_11 rfl (lv_at hl 0 rfl) ?_
  refine lv_iload_n (pc := 12) hx hb dJ7_fill_53178_12 rfl (lv_at hl 3 rfl) ?_
  refine g_iastore (pc := 13) hx hb hK hP hD hS 0 2 rfl rfl (gin rfl) dJ7_fill_53178_13 (fun f_24 H locs hP hD hS => ?_)
  have hP : va_P D gcl [(a0, .inl (cI, 30, .inl f_24))] H := hP
  have hD : va_D A [(a0, .inl (cI, 30, .inl f_24))] := hD
  refine lv_iinc (pc := 14) (v := 24) (lv' := [(2, .int 24), (3, .int 30), (0, .ref a0), (1, .int 0)]) hx hb dJ7_fill_53178_14 hl (k := 0) rfl (by decide +kernel) (by decide) rfl (fun ls hl => ?_)
  refine lv_goto (pc := 17) (tgt := 5) hx hb dJ7_fill_53178_17 (by decide) ?_
  refine lv_iload_n (pc := 5) hx hb dJ7_fill_53178_5 rfl (lv_at hl 0 rfl) ?_
  refine lv_iload_n (pc := 6) hx hb dJ7_fill_53178_6 rfl (lv_at hl 1 rfl) ?_
  refine lv_icmp_ge (pc := 7) (tgt := 20) hx hb dJ7_fill_53178_7 (by decide) (fun c => absurd c (by decide +kernel)) (fun _ => ?_)
  refine lv_aload_n (pc := 10) hx hb dJ7_fill_53178_10 rfl (lv_at hl 2 rfl) ?_
  refine lv_iload_n (pc := 11) hx hb dJ7_fill_53178_11 rfl (lv_at hl 0 rfl) ?_
  refine lv_iload_n (pc := 12) hx hb dJ7_fill_53178_12 rfl (lv_at hl 3 rfl) ?_
  refine g_iastore (pc := 13) hx hb hK hP hD hS 0 2 rfl rfl (gin rfl) dJ7_fill_53178_13 (fun f_25 H locs hP hD hS => ?_)
  have hP : va_P D gcl [(a0, .inl (cI, 30, .inl f_25))] H := hP
  have hD : va_D A [(a0, .inl (cI, 30, .inl f_25))] := hD
  refine lv_iinc (pc := 14) (v := 25) (lv' := [(2, .int 25), (3, .int 30), (0, .ref a0), (1, .int 0)]) hx hb dJ7_fill_53178_14 hl (k := 0) rfl (by decide +kernel) (by decide) rfl (fun ls hl => ?_)
  refine lv_goto (pc := 17) (tgt := 5) hx hb dJ7_fill_53178_17 (by decide) ?_
  refine lv_iload_n (pc := 5) hx hb dJ7_fill_53178_5 rfl (lv_at hl 0 rfl) ?_
  refine lv_iload_n (pc := 6) hx hb dJ7_fill_53178_6 rfl (lv_at hl 1 rfl) ?_
  refine lv_icmp_ge (pc := 7) (tgt := 20) hx hb dJ7_fill_53178_7 (by decide) (fun c => absurd c (by decide +kernel)) (fun _ => ?_)
  refine lv_aload_n (pc := 10) hx hb dJ7_fill_53178_10 rfl (lv_at hl 2 rfl) ?_
  refine lv_iload_n (pc := 11) hx hb dJ7_fill_53178_11 rfl (lv_at hl 0 rfl) ?_
  refine lv_iload_n (pc := 12) hx hb dJ7_fill_53178_12 rfl (lv_at hl 3 rfl) ?_
  refine g_iastore (pc := 13) hx hb hK hP hD hS 0 2 rfl rfl (gin rfl) dJ7_fill_53178_13 (fun f_26 H locs hP hD hS => ?_)
  have hP : va_P D gcl [(a0, .inl (cI, 30, .inl f_26))] H := hP
  have hD : va_D A [(a0, .inl (cI, 30, .inl f_26))] := hD
  refine lv_iinc (pc := 14) (v := 26) (lv' := [(2, .int 26), (3, .int 30), (0, .ref a0), (1, .int 0)]) hx hb dJ7_fill_53178_14 hl (k := 0) rfl (by decide +kernel) (by decide) rfl (fun ls hl => ?_)
  refine lv_goto (pc := 17) (tgt := 5) hx hb dJ7_fill_53178_17 (by decide) ?_
  refine lv_iload_n (pc := 5) hx hb dJ7_fill_53178_5 rfl (lv_at hl 0 rfl) ?_
  refine lv_iload_n (pc := 6) hx hb dJ7_fill_53178_6 rfl (lv_at hl 1 rfl) ?_
  refine lv_icmp_ge (pc := 7) (tgt := 20) hx hb dJ7_fill_53178_7 (by decide) (fun c => absurd c (by decide +kernel)) (fun _ => ?_)
  refine lv_aload_n (pc := 10) hx hb dJ7_fill_53178_10 rfl (lv_at hl 2 rfl) ?_
  refine lv_iload_n (pc := 11) hx hb dJ7_fill_53178_11 rfl (lv_at hl 0 rfl) ?_
  refine lv_iload_n (pc := 12) hx hb dJ7_fill_53178_12 rfl (lv_at hl 3 rfl) ?_
  refine g_iastore (pc := 13) hx hb hK hP hD hS 0 2 rfl rfl (gin rfl) dJ7_fill_53178_13 (fun f_27 H locs hP hD hS => ?_)
  have hP : va_P D gcl [(a0, .inl (cI, 30, .inl f_27))] H := hP
  have hD : va_D A [(a0, .inl (cI, 30, .inl f_27))] := hD
  refine lv_iinc (pc := 14) (v := 27) (lv' := [(2, .int 27), (3, .int 30), (0, .ref a0), (1, .int 0)]) hx hb dJ7_fill_53178_14 hl (k := 0) rfl (by decide +kernel) (by decide) rfl (fun ls hl => ?_)
  refine lv_goto (pc := 17) (tgt := 5) hx hb dJ7_fill_53178_17 (by decide) ?_
  refine lv_iload_n (pc := 5) hx hb dJ7_fill_53178_5 rfl (lv_at hl 0 rfl) ?_
  refine lv_iload_n (pc := 6) hx hb dJ7_fill_53178_6 rfl (lv_at hl 1 rfl) ?_
  refine lv_icmp_ge (pc := 7) (tgt := 20) hx hb dJ7_fill_53178_7 (by decide) (fun c => absurd c (by decide +kernel)) (fun _ => ?_)
  refine lv_aload_n (pc := 10) hx hb dJ7_fill_53178_10 rfl (lv_at hl 2 rfl) ?_
  refine lv_iload_n (pc := 11) hx hb dJ7_fill_53178_11 rfl (lv_at hl 0 rfl) ?_
  refine lv_iload_n (pc := 12) hx hb dJ7_fill_53178_12 rfl (lv_at hl 3 rfl) ?_
  refine g_iastore (pc := 13) hx hb hK hP hD hS 0 2 rfl rfl (gin rfl) dJ7_fill_53178_13 (fun f_28 H locs hP hD hS => ?_)
  have hP : va_P D gcl [(a0, .inl (cI, 30, .inl f_28))] H := hP
  have hD : va_D A [(a0, .inl (cI, 30, .inl f_28))] := hD
  refine lv_iinc (pc := 14) (v := 28) (lv' := [(2, .int 28), (3, .int 30), (0, .ref a0), (1, .int 0)]) hx hb dJ7_fill_53178_14 hl (k := 0) rfl (by decide +kernel) (by decide) rfl (fun ls hl => ?_)
  refine lv_goto (pc := 17) (tgt := 5) hx hb dJ7_fill_53178_17 (by decide) ?_
  refine lv_iload_n (pc := 5) hx hb dJ7_fill_53178_5 rfl (lv_at hl 0 rfl) ?_
  refine lv_iload_n (pc := 6) hx hb dJ7_fill_53178_6 rfl (lv_at hl 1 rfl) ?_
  refine lv_icmp_ge (pc := 7) (tgt := 20) hx hb dJ7_fill_53178_7 (by decide) (fun c => absurd c (by decide +kernel)) (fun _ => ?_)
  refine lv_aload_n (pc := 10) hx hb dJ7_fill_53178_10 rfl (lv_at hl 2 rfl) ?_
  refine lv_iload_n (pc := 11) hx hb dJ7_fill_53178_11 rfl (lv_at hl 0 rfl) ?_
  refine lv_iload_n (pc := 12) hx hb dJ7_fill_53178_12 rfl (lv_at hl 3 rfl) ?_
  refine g_iastore (pc := 13) hx hb hK hP hD hS 0 2 rfl rfl (gin rfl) dJ7_fill_53178_13 (fun f_29 H locs hP hD hS => ?_)
  have hP : va_P D gcl [(a0, .inl (cI, 30, .inl f_29))] H := hP
  have hD : va_D A [(a0, .inl (cI, 30, .inl f_29))] := hD
  refine lv_iinc (pc := 14) (v := 29) (lv' := [(2, .int 29), (3, .int 30), (0, .ref a0), (1, .int 0)]) hx hb dJ7_fill_53178_14 hl (k := 0) rfl (by decide +kernel) (by decide) rfl (fun ls hl => ?_)
  refine lv_goto (pc := 17) (tgt := 5) hx hb dJ7_fill_53178_17 (by decide) ?_
  refine lv_iload_n (pc := 5) hx hb dJ7_fill_53178_5 rfl (lv_at hl 0 rfl) ?_
  refine lv_iload_n (pc := 6) hx hb dJ7_fill_53178_6 rfl (lv_at hl 1 rfl) ?_
  refine lv_icmp_ge (pc := 7) (tgt := 20) hx hb dJ7_fill_53178_7 (by decide) (fun c => absurd c (by decide +kernel)) (fun _ => ?_)
  refine lv_aload_n (pc := 10) hx hb dJ7_fill_53178_10 rfl (lv_at hl 2 rfl) ?_
  refine lv_iload_n (pc := 11) hx hb dJ7_fill_53178_11 rfl (lv_at hl 0 rfl) ?_
  refine lv_iload_n (pc := 12) hx hb dJ7_fill_53178_12 rfl (lv_at hl 3 rfl) ?_
  refine g_iastore (pc := 13) hx hb hK hP hD hS 0 2 rfl rfl (gin rfl) dJ7_fill_53178_13 (fun f_30 H locs hP hD hS => ?_)
  have hP : va_P D gcl [(a0, .inl (cI, 30, .inl f_30))] H := hP
  have hD : va_D A [(a0, .inl (cI, 30, .inl f_30))] := hD
  refine lv_iinc (pc := 14) (v := 30) (lv' := [(2, .int 30), (3, .int 30), (0, .ref a0), (1, .int 0)]) hx hb dJ7_fill_53178_14 hl (k := 0) rfl (by decide +kernel) (by decide) rfl (fun ls hl => ?_)
  refine lv_goto (pc := 17) (tgt := 5) hx hb dJ7_fill_53178_17 (by decide) ?_
  refine lv_iload_n (pc := 5) hx hb dJ7_fill_53178_5 rfl (lv_at hl 0 rfl) ?_
  refine lv_iload_n (pc := 6) hx hb dJ7_fill_53178_6 rfl (lv_at hl 1 rfl) ?_
  refine lv_icmp_ge (pc := 7) (tgt := 20) hx hb dJ7_fill_53178_7 (by decide) (fun _ => ?_) (fun c => absurd (by decide +kernel) c)
  have hP9 := hP.sub (ws' := [(a0, .inl (cI, 30, .inl f_30))]) [0] rfl
  have hD9 := hD.sub (ws' := [(a0, .inl (cI, 30, .inl f_30))]) [0] (by decide) rfl
  refine W.widen (k := 0) (n := 0) (Nat.le_of_ble_eq_true rfl) (Nat.le_of_ble_eq_true rfl) ?_
  exact W.vret hx hb hr (fun t ht hW => ⟨⟨((fun _ => 0), (fun k => [f_30].getD k (fun _ => 0)), (fun _ => (fun _ => 0)), (fun _ => 0), (fun _ => 0)), rfl, trivial, by rw [ht]; exact hP9, hD9⟩, hS.F ht⟩) hS.2.2 dJ7_fill_53178_20
set_option maxHeartbeats 4000000 in
set_option maxRecDepth 100000 in
theorem cc_29_yX8_clear (l : Launch) (D : va_G) (cB cC cI cJ : ClassId) (sz : Nat) (a0 a1 : Nat) : Met l yX8_clear (.code yX8_clear cX8_clear 1 none :: lw_gd) ({ frames := 1, cells := 0, slots := 0, locals := 23 }) (gPre D [(cB, .byte), (cC, .char), (cI, .int), (cJ, .long)] [.ref a0] [(a0, .inr (8, [.ref a1])), (a1, .inl (cI, 30, .inl (fun _ => 0)))] sz) (va_Qv (fun _ => True) (gB D (va_A [(a0, .inr (8, [.ref a1])), (a1, .inl (cI, 30, .inl (fun _ => 0)))] sz) (fun u : gEx => [(a0, .inr (8, [.ref a1])), (a1, .inl (cI, 30, .inl (u.2.1 0)))])) (va_A [(a0, .inr (8, [.ref a1])), (a1, .inl (cI, 30, .inl (fun _ => 0)))] sz)) 0 0 (va_A [(a0, .inr (8, [.ref a1])), (a1, .inl (cI, 30, .inl (fun _ => 0)))] sz) := by
  refine Met.ofW (cc := cX8_clear) (maxL := 1) (ret := none) (by decide) rfl ?_
  intro p e s m args below meth c s₁ B hml hv
  obtain ⟨rfl, hsz, hP, hK, hD0, hN⟩ := hv
  have hx := B.exec
  have hb := B.bytes
  have hr := B.returns
  have hts : ∀ w ∈ lw_gd, w.before _ s = true := fun w h => atoms_spec (ws := .code yX8_clear cX8_clear 1 none :: lw_gd) B.pre w (List.mem_cons_of_mem _ h)
  have hown : s.vm.findClass RX8 = some m.cls := findClass_of_methodNamed B.named
  have hlocks := B.notSynchronized
  subst hsz
  have hD := hD0.self (sz := s.heap.size)
  generalize hAe : va_A [(a0, .inr (8, [.ref a1])), (a1, .inl (cI, 30, .inl (fun _ => 0)))] s.heap.size = A at hD ⊢
  have hA : ∀ q : Nat, s.heap.size ≤ q → A q := fun q h => by rw [← hAe]; exact Or.inr h
  have hS : va_S A s.heap s.heap [] := va_S.rf
  have hP : va_P D gcl [(a0, .inr (8, [.ref a1])), (a1, .inl (cI, 30, .inl (fun _ => 0)))] s.heap := hP
  have hl := lv_entry ([.ref a0]) (n := 1) (Nat.le_of_ble_eq_true rfl)
  rw [lg_entry_eq]
  generalize (lg_sl ([.ref a0]) ++ List.replicate (1 - (lg_sl ([.ref a0])).length) Slot.unset).toArray = ls at hl ⊢
  have hl : lv_has ls 1 [(0, .ref a0)] := hl
  refine lv_aload_n (pc := 0) hx hb dX8_clear_0 rfl (lv_at hl 0 rfl) ?_
  refine va_get (pc := 1) (ci := 8) (v := .ref a1) (C := RX8) (T := TX8) (N := 1) hx hb hts iX8 hown hK hP 0 rfl rfl 0 (by decide) (hts _ tw_62) (fun _ h9 => h9) rfl dX8_clear_1 ?_
  refine lv_iconst (pc := 4) (v := 0) hx hb dX8_clear_4 (by decide) ?_
  refine gc_v (pc := 5) (wc := [(a1, .inl (cI, 30, .inl (fun _ => 0)))]) (wr := [(a0, .inr (8, [.ref a1]))]) hP hD hS hA [1] [0] rfl rfl (by decide) (by decide) (by decide) (fun hPc hDc => va_runS (As := [.ref a1, .int 0]) (rest := []) ⟨hx, hb, hml, hown, hts⟩ (cc_28_yJ7_fill_53178 l D cB cC cI cJ _ a1) ⟨gcwB hts tw_505 tw_10 tw_503 hd_yJ7_fill_53178 ⟨Nat.le_of_ble_eq_true rfl, Nat.le_of_ble_eq_true rfl⟩, hts _ tw_504⟩ (gpreS hPc hK hDc hN) rfl rfl hl.1 rfl (lv_room (Nat.le_of_ble_eq_true rfl)) dX8_clear_5 ⟨Nat.le_of_ble_eq_true rfl, Nat.le_of_ble_eq_true rfl⟩) (fun u_1 H locs hw_3 hP hD hS => ?_)
  have hP : va_P D gcl [(a0, .inr (8, [.ref a1])), (a1, .inl (cI, 30, .inl (u_1.2.1 0)))] H := hP
  have hD : va_D A [(a0, .inr (8, [.ref a1])), (a1, .inl (cI, 30, .inl (u_1.2.1 0)))] := hD
  have hP9 := hP.sub (ws' := [(a0, .inr (8, [.ref a1])), (a1, .inl (cI, 30, .inl (u_1.2.1 0)))]) [0, 1] rfl
  have hD9 := hD.sub (ws' := [(a0, .inr (8, [.ref a1])), (a1, .inl (cI, 30, .inl (u_1.2.1 0)))]) [0, 1] (by decide) rfl
  refine W.widen (k := 0) (n := 0) (Nat.le_of_ble_eq_true rfl) (Nat.le_of_ble_eq_true rfl) ?_
  exact W.vret hx hb hr (fun t ht hW => ⟨⟨((fun _ => 0), (fun k => [(u_1.2.1 0)].getD k (fun _ => 0)), (fun _ => (fun _ => 0)), (fun _ => 0), (fun _ => 0)), rfl, trivial, by rw [ht]; exact hP9, hD9⟩, hS.F ht⟩) hS.2.2 dX8_clear_8
set_option maxHeartbeats 4000000 in
set_option maxRecDepth 100000 in
theorem cc_30_yX5_clear (l : Launch) (D : va_G) (cB cC cI cJ : ClassId) (sz : Nat) (a0 a1 a2 a3 a4 a5 : Nat) : Met l yX5_clear (.code yX5_clear cX5_clear 1 none :: lw_gd) ({ frames := 0, cells := 0, slots := 0, locals := 0 }) (gPre D [(cB, .byte), (cC, .char), (cI, .int), (cJ, .long)] [.ref a0] [(a0, .inr (5, [.ref a1, .ref a2, .ref a3, .ref a4, .ref a5, .int 0, .int 0]))] sz) (va_Qv (fun _ => True) (gB D (va_A [(a0, .inr (5, [.ref a1, .ref a2, .ref a3, .ref a4, .ref a5, .int 0, .int 0]))] sz) (fun u : gEx => [(a0, .inr (5, [.ref a1, .ref a2, .ref a3, .ref a4, .ref a5, .int 0, .int 0]))])) (va_A [(a0, .inr (5, [.ref a1, .ref a2, .ref a3, .ref a4, .ref a5, .int 0, .int 0]))] sz)) 0 0 (va_A [(a0, .inr (5, [.ref a1, .ref a2, .ref a3, .ref a4, .ref a5, .int 0, .int 0]))] sz) := by
  refine Met.ofW (cc := cX5_clear) (maxL := 1) (ret := none) (by decide) rfl ?_
  intro p e s m args below meth c s₁ B hml hv
  obtain ⟨rfl, hsz, hP, hK, hD0, hN⟩ := hv
  have hx := B.exec
  have hb := B.bytes
  have hr := B.returns
  have hts : ∀ w ∈ lw_gd, w.before _ s = true := fun w h => atoms_spec (ws := .code yX5_clear cX5_clear 1 none :: lw_gd) B.pre w (List.mem_cons_of_mem _ h)
  have hown : s.vm.findClass RX5 = some m.cls := findClass_of_methodNamed B.named
  have hlocks := B.notSynchronized
  subst hsz
  have hD := hD0.self (sz := s.heap.size)
  generalize hAe : va_A [(a0, .inr (5, [.ref a1, .ref a2, .ref a3, .ref a4, .ref a5, .int 0, .int 0]))] s.heap.size = A at hD ⊢
  have hA : ∀ q : Nat, s.heap.size ≤ q → A q := fun q h => by rw [← hAe]; exact Or.inr h
  have hS : va_S A s.heap s.heap [] := va_S.rf
  have hP : va_P D gcl [(a0, .inr (5, [.ref a1, .ref a2, .ref a3, .ref a4, .ref a5, .int 0, .int 0]))] s.heap := hP
  have hl := lv_entry ([.ref a0]) (n := 1) (Nat.le_of_ble_eq_true rfl)
  rw [lg_entry_eq]
  generalize (lg_sl ([.ref a0]) ++ List.replicate (1 - (lg_sl ([.ref a0])).length) Slot.unset).toArray = ls at hl ⊢
  have hl : lv_has ls 1 [(0, .ref a0)] := hl
  refine lv_aload_n (pc := 0) hx hb dX5_clear_0 rfl (lv_at hl 0 rfl) ?_
  refine lv_iconst (pc := 1) (v := 0) hx hb dX5_clear_1 (by decide) ?_
  refine va_put (pc := 2) (ci := 5) (v := .int 0) (ty := .int) (C := RX5) (T := TX5) (N := 7) hx hb hts iX5 tyX5 tyX5_ok nmX5 hown hK hP hD hS 0 rfl rfl 5 (by decide) (hts _ tw_78) (fun _ h9 => h9) rfl (by decide +kernel) (by decide +kernel) (by decide +kernel) (Nat.le_of_ble_eq_true rfl) dX5_clear_2 (fun H locs hP hD hS => ?_)
  have hP : va_P D gcl [(a0, .inr (5, [.ref a1, .ref a2, .ref a3, .ref a4, .ref a5, .int 0, .int 0]))] H := hP
  have hD : va_D A [(a0, .inr (5, [.ref a1, .ref a2, .ref a3, .ref a4, .ref a5, .int 0, .int 0]))] := hD
  refine lv_aload_n (pc := 5) hx hb dX5_clear_5 rfl (lv_at hl 0 rfl) ?_
  refine lv_iconst (pc := 6) (v := 0) hx hb dX5_clear_6 (by decide) ?_
  refine va_put (pc := 7) (ci := 5) (v := .int 0) (ty := .int) (C := RX5) (T := TX5) (N := 7) hx hb hts iX5 tyX5 tyX5_ok nmX5 hown hK hP hD hS 0 rfl rfl 6 (by decide) (hts _ tw_79) (fun _ h9 => h9) rfl (by decide +kernel) (by decide +kernel) (by decide +kernel) (Nat.le_of_ble_eq_true rfl) dX5_clear_7 (fun H locs hP hD hS => ?_)
  have hP : va_P D gcl [(a0, .inr (5, [.ref a1, .ref a2, .ref a3, .ref a4, .ref a5, .int 0, .int 0]))] H := hP
  have hD : va_D A [(a0, .inr (5, [.ref a1, .ref a2, .ref a3, .ref a4, .ref a5, .int 0, .int 0]))] := hD
  have hP9 := hP.sub (ws' := [(a0, .inr (5, [.ref a1, .ref a2, .ref a3, .ref a4, .ref a5, .int 0, .int 0]))]) [0] rfl
  have hD9 := hD.sub (ws' := [(a0, .inr (5, [.ref a1, .ref a2, .ref a3, .ref a4, .ref a5, .int 0, .int 0]))]) [0] (by decide) rfl
  refine W.widen (k := 0) (n := 0) (Nat.le_of_ble_eq_true rfl) (Nat.le_of_ble_eq_true rfl) ?_
  exact W.vret hx hb hr (fun t ht hW => ⟨⟨((fun _ => 0), (fun _ => (fun _ => 0)), (fun _ => (fun _ => 0)), (fun _ => 0), (fun _ => 0)), rfl, trivial, by rw [ht]; exact hP9, hD9⟩, hS.F ht⟩) hS.2.2 dX5_clear_10
set_option maxHeartbeats 4000000 in
set_option maxRecDepth 100000 in
theorem cc_31_yX1_clear (l : Launch) (D : va_G) (cB cC cI cJ : ClassId) (sz : Nat) (a0 a1 a2 a3 a4 a5 a6 a7 a8 a9 : Nat) : Met l yX1_clear (.code yX1_clear cX1_clear 1 none :: lw_gd) ({ frames := 2, cells := 0, slots := 0, locals := 43 }) (gPre D [(cB, .byte), (cC, .char), (cI, .int), (cJ, .long)] [.ref a0] [(a0, .inr (1, [.ref a1, .ref a2, .ref a3, .int 0, .int 0, .int 0, .int 0, .int 0, .int 9999, .int 0])), (a1, .inr (8, [.ref a4])), (a4, .inl (cI, 30, .inl (fun _ => 0))), (a2, .inr (5, [.ref a5, .ref a6, .ref a7, .ref a8, .ref a9, .int 0, .int 0]))] sz) (va_Qv (fun _ => True) (gB D (va_A [(a0, .inr (1, [.ref a1, .ref a2, .ref a3, .int 0, .int 0, .int 0, .int 0, .int 0, .int 9999, .int 0])), (a1, .inr (8, [.ref a4])), (a4, .inl (cI, 30, .inl (fun _ => 0))), (a2, .inr (5, [.ref a5, .ref a6, .ref a7, .ref a8, .ref a9, .int 0, .int 0]))] sz) (fun u : gEx => [(a0, .inr (1, [.ref a1, .ref a2, .ref a3, .int 0, .int 0, .int 0, .int 0, .int 0, .int 9999, .int 0])), (a1, .inr (8, [.ref a4])), (a4, .inl (cI, 30, .inl (u.2.1 0))), (a2, .inr (5, [.ref a5, .ref a6, .ref a7, .ref a8, .ref a9, .int 0, .int 0]))])) (va_A [(a0, .inr (1, [.ref a1, .ref a2, .ref a3, .int 0, .int 0, .int 0, .int 0, .int 0, .int 9999, .int 0])), (a1, .inr (8, [.ref a4])), (a4, .inl (cI, 30, .inl (fun _ => 0))), (a2, .inr (5, [.ref a5, .ref a6, .ref a7, .ref a8, .ref a9, .int 0, .int 0]))] sz)) 0 0 (va_A [(a0, .inr (1, [.ref a1, .ref a2, .ref a3, .int 0, .int 0, .int 0, .int 0, .int 0, .int 9999, .int 0])), (a1, .inr (8, [.ref a4])), (a4, .inl (cI, 30, .inl (fun _ => 0))), (a2, .inr (5, [.ref a5, .ref a6, .ref a7, .ref a8, .ref a9, .int 0, .int 0]))] sz) := by
  refine Met.ofW (cc := cX1_clear) (maxL := 1) (ret := none) (by decide) rfl ?_
  intro p e s m args below meth c s₁ B hml hv
  obtain ⟨rfl, hsz, hP, hK, hD0, hN⟩ := hv
  have hx := B.exec
  have hb := B.bytes
  have hr := B.returns
  have hts : ∀ w ∈ lw_gd, w.before _ s = true := fun w h => atoms_spec (ws := .code yX1_clear cX1_clear 1 none :: lw_gd) B.pre w (List.mem_cons_of_mem _ h)
  have hown : s.vm.findClass RX1 = some m.cls := findClass_of_methodNamed B.named
  have hlocks := B.notSynchronized
  subst hsz
  have hD := hD0.self (sz := s.heap.size)
  generalize hAe : va_A [(a0, .inr (1, [.ref a1, .ref a2, .ref a3, .int 0, .int 0, .int 0, .int 0, .int 0, .int 9999, .int 0])), (a1, .inr (8, [.ref a4])), (a4, .inl (cI, 30, .inl (fun _ => 0))), (a2, .inr (5, [.ref a5, .ref a6, .ref a7, .ref a8, .ref a9, .int 0, .int 0]))] s.heap.size = A at hD ⊢
  have hA : ∀ q : Nat, s.heap.size ≤ q → A q := fun q h => by rw [← hAe]; exact Or.inr h
  have hS : va_S A s.heap s.heap [] := va_S.rf
  have hP : va_P D gcl [(a0, .inr (1, [.ref a1, .ref a2, .ref a3, .int 0, .int 0, .int 0, .int 0, .int 0, .int 9999, .int 0])), (a1, .inr (8, [.ref a4])), (a4, .inl (cI, 30, .inl (fun _ => 0))), (a2, .inr (5, [.ref a5, .ref a6, .ref a7, .ref a8, .ref a9, .int 0, .int 0]))] s.heap := hP
  have hl := lv_entry ([.ref a0]) (n := 1) (Nat.le_of_ble_eq_true rfl)
  rw [lg_entry_eq]
  generalize (lg_sl ([.ref a0]) ++ List.replicate (1 - (lg_sl ([.ref a0])).length) Slot.unset).toArray = ls at hl ⊢
  have hl : lv_has ls 1 [(0, .ref a0)] := hl
  refine lv_aload_n (pc := 0) hx hb dX1_clear_0 rfl (lv_at hl 0 rfl) ?_
  refine va_get (pc := 1) (ci := 1) (v := .ref a1) (C := RX1) (T := TX1) (N := 10) hx hb hts iX1 hown hK hP 0 rfl rfl 0 (by decide) (hts _ tw_97) (fun _ h9 => h9) rfl dX1_clear_1 ?_
  refine gc_v (pc := 4) (wc := [(a1, .inr (8, [.ref a4])), (a4, .inl (cI, 30, .inl (fun _ => 0)))]) (wr := [(a0, .inr (1, [.ref a1, .ref a2, .ref a3, .int 0, .int 0, .int 0, .int 0, .int 0, .int 9999, .int 0])), (a2, .inr (5, [.ref a5, .ref a6, .ref a7, .ref a8, .ref a9, .int 0, .int 0]))]) hP hD hS hA [1, 2] [0, 3] rfl rfl (by decide) (by decide) (by decide) (fun hPc hDc => va_runV (As := []) (rest := []) ⟨hx, hb, hml, hown, hts⟩ (cc_29_yX8_clear l D cB cC cI cJ _ a1 a4) ⟨gcwB hts tw_502 tw_5 tw_499 hd_yX8_clear ⟨Nat.le_of_ble_eq_true rfl, Nat.le_of_ble_eq_true rfl⟩, hts _ tw_500, hts _ tw_501⟩ ⟨gblind, va_recv hK hPc (ci := 8) (q0 := 0) rfl rfl, (gpreS hPc hK hDc hN).2⟩ rfl rfl hl.1 rfl (lv_room (Nat.le_of_ble_eq_true rfl)) dX1_clear_4 ⟨Nat.le_of_ble_eq_true rfl, Nat.le_of_ble_eq_true rfl⟩) (fun u_1 H locs hw_3 hP hD hS => ?_)
  have hP : va_P D gcl [(a0, .inr (1, [.ref a1, .ref a2, .ref a3, .int 0, .int 0, .int 0, .int 0, .int 0, .int 9999, .int 0])), (a2, .inr (5, [.ref a5, .ref a6, .ref a7, .ref a8, .ref a9, .int 0, .int 0])), (a1, .inr (8, [.ref a4])), (a4, .inl (cI, 30, .inl (u_1.2.1 0)))] H := hP
  have hD : va_D A [(a0, .inr (1, [.ref a1, .ref a2, .ref a3, .int 0, .int 0, .int 0, .int 0, .int 0, .int 9999, .int 0])), (a2, .inr (5, [.ref a5, .ref a6, .ref a7, .ref a8, .ref a9, .int 0, .int 0])), (a1, .inr (8, [.ref a4])), (a4, .inl (cI, 30, .inl (u_1.2.1 0)))] := hD
  refine lv_aload_n (pc := 7) hx hb dX1_clear_7 rfl (lv_at hl 0 rfl) ?_
  refine va_get (pc := 8) (ci := 1) (v := .ref a2) (C := RX1) (T := TX1) (N := 10) hx hb hts iX1 hown hK hP 0 rfl rfl 1 (by decide) (hts _ tw_105) (fun _ h9 => h9) rfl dX1_clear_8 ?_
  refine gc_v (pc := 11) (wc := [(a2, .inr (5, [.ref a5, .ref a6, .ref a7, .ref a8, .ref a9, .int 0, .int 0]))]) (wr := [(a0, .inr (1, [.ref a1, .ref a2, .ref a3, .int 0, .int 0, .int 0, .int 0, .int 0, .int 9999, .int 0])), (a1, .inr (8, [.ref a4])), (a4, .inl (cI, 30, .inl (u_1.2.1 0)))]) hP hD hS hA [1] [0, 2, 3] rfl rfl (by decide) (by decide) (by decide) (fun hPc hDc => va_runV (As := []) (rest := []) ⟨hx, hb, hml, hown, hts⟩ (cc_30_yX5_clear l D cB cC cI cJ _ a2 a5 a6 a7 a8 a9) ⟨gcwB hts tw_509 tw_6 tw_506 hd_yX5_clear ⟨Nat.le_of_ble_eq_true rfl, Nat.le_of_ble_eq_true rfl⟩, hts _ tw_507, hts _ tw_508⟩ ⟨gblind, va_recv hK hPc (ci := 5) (q0 := 0) rfl rfl, (gpreS hPc hK hDc hN).2⟩ rfl rfl hl.1 rfl (lv_room (Nat.le_of_ble_eq_true rfl)) dX1_clear_11 ⟨Nat.le_of_ble_eq_true rfl, Nat.le_of_ble_eq_true rfl⟩) (fun u_4 H locs hw_6 hP hD hS => ?_)
  have hP : va_P D gcl [(a0, .inr (1, [.ref a1, .ref a2, .ref a3, .int 0, .int 0, .int 0, .int 0, .int 0, .int 9999, .int 0])), (a1, .inr (8, [.ref a4])), (a4, .inl (cI, 30, .inl (u_1.2.1 0))), (a2, .inr (5, [.ref a5, .ref a6, .ref a7, .ref a8, .ref a9, .int 0, .int 0]))] H := hP
  have hD : va_D A [(a0, .inr (1, [.ref a1, .ref a2, .ref a3, .int 0, .int 0, .int 0, .int 0, .int 0, .int 9999, .int 0])), (a1, .inr (8, [.ref a4])), (a4, .inl (cI, 30, .inl (u_1.2.1 0))), (a2, .inr (5, [.ref a5, .ref a6, .ref a7, .ref a8, .ref a9, .int 0, .int 0]))] := hD
  refine lv_aload_n (pc := 14) hx hb dX1_clear_14 rfl (lv_at hl 0 rfl) ?_
  refine lv_iconst (pc := 15) (v := 0) hx hb dX1_clear_15 (by decide) ?_
  refine va_put (pc := 16) (ci := 1) (v := .int 0) (ty := .int) (C := RX1) (T := TX1) (N := 10) hx hb hts iX1 tyX1 tyX1_ok nmX1 hown hK hP hD hS 0 rfl rfl 3 (by decide) (hts _ tw_110) (fun _ h9 => h9) rfl (by decide +kernel) (by decide +kernel) (by decide +kernel) (Nat.le_of_ble_eq_true rfl) dX1_clear_16 (fun H locs hP hD hS => ?_)
  have hP : va_P D gcl [(a0, .inr (1, [.ref a1, .ref a2, .ref a3, .int 0, .int 0, .int 0, .int 0, .int 0, .int 9999, .int 0])), (a1, .inr (8, [.ref a4])), (a4, .inl (cI, 30, .inl (u_1.2.1 0))), (a2, .inr (5, [.ref a5, .ref a6, .ref a7, .ref a8, .ref a9, .int 0, .int 0]))] H := hP
  have hD : va_D A [(a0, .inr (1, [.ref a1, .ref a2, .ref a3, .int 0, .int 0, .int 0, .int 0, .int 0, .int 9999, .int 0])), (a1, .inr (8, [.ref a4])), (a4, .inl (cI, 30, .inl (u_1.2.1 0))), (a2, .inr (5, [.ref a5, .ref a6, .ref a7, .ref a8, .ref a9, .int 0, .int 0]))] := hD
  refine lv_aload_n (pc := 19) hx hb dX1_clear_19 rfl (lv_at hl 0 rfl) ?_
  refine lv_iconst (pc := 20) (v := 0) hx hb dX1_clear_20 (by decide) ?_
  refine va_put (pc := 21) (ci := 1) (v := .int 0) (ty := .int) (C := RX1) (T := TX1) (N := 10) hx hb hts iX1 tyX1 tyX1_ok nmX1 hown hK hP hD hS 0 rfl rfl 4 (by decide) (hts _ tw_116) (fun _ h9 => h9) rfl (by decide +kernel) (by decide +kernel) (by decide +kernel) (Nat.le_of_ble_eq_true rfl) dX1_clear_21 (fun H locs hP hD hS => ?_)
  have hP : va_P D gcl [(a0, .inr (1, [.ref a1, .ref a2, .ref a3, .int 0, .int 0, .int 0, .int 0, .int 0, .int 9999, .int 0])), (a1, .inr (8, [.ref a4])), (a4, .inl (cI, 30, .inl (u_1.2.1 0))), (a2, .inr (5, [.ref a5, .ref a6, .ref a7, .ref a8, .ref a9, .int 0, .int 0]))] H := hP
  have hD : va_D A [(a0, .inr (1, [.ref a1, .ref a2, .ref a3, .int 0, .int 0, .int 0, .int 0, .int 0, .int 9999, .int 0])), (a1, .inr (8, [.ref a4])), (a4, .inl (cI, 30, .inl (u_1.2.1 0))), (a2, .inr (5, [.ref a5, .ref a6, .ref a7, .ref a8, .ref a9, .int 0, .int 0]))] := hD
  refine lv_aload_n (pc := 24) hx hb dX1_clear_24 rfl (lv_at hl 0 rfl) ?_
  refine lv_iconst (pc := 25) (v := 0) hx hb dX1_clear_25 (by decide) ?_
  refine va_put (pc := 26) (ci := 1) (v := .int 0) (ty := .int) (C := RX1) (T := TX1) (N := 10) hx hb hts iX1 tyX1 tyX1_ok nmX1 hown hK hP hD hS 0 rfl rfl 5 (by decide) (hts _ tw_125) (fun _ h9 => h9) rfl (by decide +kernel) (by decide +kernel) (by decide +kernel) (Nat.le_of_ble_eq_true rfl) dX1_clear_26 (fun H locs hP hD hS => ?_)
  have hP : va_P D gcl [(a0, .inr (1, [.ref a1, .ref a2, .ref a3, .int 0, .int 0, .int 0, .int 0, .int 0, .int 9999, .int 0])), (a1, .inr (8, [.ref a4])), (a4, .inl (cI, 30, .inl (u_1.2.1 0))), (a2, .inr (5, [.ref a5, .ref a6, .ref a7, .ref a8, .ref a9, .int 0, .int 0]))] H := hP
  have hD : va_D A [(a0, .inr (1, [.ref a1, .ref a2, .ref a3, .int 0, .int 0, .int 0, .int 0, .int 0, .int 9999, .int 0])), (a1, .inr (8, [.ref a4])), (a4, .inl (cI, 30, .inl (u_1.2.1 0))), (a2, .inr (5, [.ref a5, .ref a6, .ref a7, .ref a8, .ref a9, .int 0, .int 0]))] := hD
  refine lv_aload_n (pc := 29) hx hb dX1_clear_29 rfl (lv_at hl 0 rfl) ?_
  refine lv_iconst (pc := 30) (v := 0) hx hb dX1_clear_30 (by decide) ?_
  refine va_put (pc := 31) (ci := 1) (v := .int 0) (ty := .int) (C := RX1) (T := TX1) (N := 10) hx hb hts iX1 tyX1 tyX1_ok nmX1 hown hK hP hD hS 0 rfl rfl 6 (by decide) (hts _ tw_132) (fun _ h9 => h9) rfl (by decide +kernel) (by decide +kernel) (by decide +kernel) (Nat.le_of_ble_eq_true rfl) dX1_clear_31 (fun H locs hP hD hS => ?_)
  have hP : va_P D gcl [(a0, .inr (1, [.ref a1, .ref a2, .ref a3, .int 0, .int 0, .int 0, .int 0, .int 0, .int 9999, .int 0])), (a1, .inr (8, [.ref a4])), (a4, .inl (cI, 30, .inl (u_1.2.1 0))), (a2, .inr (5, [.ref a5, .ref a6, .ref a7, .ref a8, .ref a9, .int 0, .int 0]))] H := hP
  have hD : va_D A [(a0, .inr (1, [.ref a1, .ref a2, .ref a3, .int 0, .int 0, .int 0, .int 0, .int 0, .int 9999, .int 0])), (a1, .inr (8, [.ref a4])), (a4, .inl (cI, 30, .inl (u_1.2.1 0))), (a2, .inr (5, [.ref a5, .ref a6, .ref a7, .ref a8, .ref a9, .int 0, .int 0]))] := hD
  refine lv_aload_n (pc := 34) hx hb dX1_clear_34 rfl (lv_at hl 0 rfl) ?_
  refine lv_iconst (pc := 35) (v := 0) hx hb dX1_clear_35 (by decide) ?_
  refine va_put (pc := 36) (ci := 1) (v := .int 0) (ty := .int) (C := RX1) (T := TX1) (N := 10) hx hb hts iX1 tyX1 tyX1_ok nmX1 hown hK hP hD hS 0 rfl rfl 7 (by decide) (hts _ tw_135) (fun _ h9 => h9) rfl (by decide +kernel) (by decide +kernel) (by decide +kernel) (Nat.le_of_ble_eq_true rfl) dX1_clear_36 (fun H locs hP hD hS => ?_)
  have hP : va_P D gcl [(a0, .inr (1, [.ref a1, .ref a2, .ref a3, .int 0, .int 0, .int 0, .int 0, .int 0, .int 9999, .int 0])), (a1, .inr (8, [.ref a4])), (a4, .inl (cI, 30, .inl (u_1.2.1 0))), (a2, .inr (5, [.ref a5, .ref a6, .ref a7, .ref a8, .ref a9, .int 0, .int 0]))] H := hP
  have hD : va_D A [(a0, .inr (1, [.ref a1, .ref a2, .ref a3, .int 0, .int 0, .int 0, .int 0, .int 0, .int 9999, .int 0])), (a1, .inr (8, [.ref a4])), (a4, .inl (cI, 30, .inl (u_1.2.1 0))), (a2, .inr (5, [.ref a5, .ref a6, .ref a7, .ref a8, .ref a9, .int 0, .int 0]))] := hD
  refine lv_aload_n (pc := 39) hx hb dX1_clear_39 rfl (lv_at hl 0 rfl) ?_
  refine lv_sipush (pc := 40) (v := 9999) hx hb dX1_clear_40 (by decide) ?_
  refine va_put (pc := 43) (ci := 1) (v := .int 9999) (ty := .int) (C := RX1) (T := TX1) (N := 10) hx hb hts iX1 tyX1 tyX1_ok nmX1 hown hK hP hD hS 0 rfl rfl 8 (by decide) (hts _ tw_139) (fun _ h9 => h9) rfl (by decide +kernel) (by decide +kernel) (by decide +kernel) (Nat.le_of_ble_eq_true rfl) dX1_clear_43 (fun H locs hP hD hS => ?_)
  have hP : va_P D gcl [(a0, .inr (1, [.ref a1, .ref a2, .ref a3, .int 0, .int 0, .int 0, .int 0, .int 0, .int 9999, .int 0])), (a1, .inr (8, [.ref a4])), (a4, .inl (cI, 30, .inl (u_1.2.1 0))), (a2, .inr (5, [.ref a5, .ref a6, .ref a7, .ref a8, .ref a9, .int 0, .int 0]))] H := hP
  have hD : va_D A [(a0, .inr (1, [.ref a1, .ref a2, .ref a3, .int 0, .int 0, .int 0, .int 0, .int 0, .int 9999, .int 0])), (a1, .inr (8, [.ref a4])), (a4, .inl (cI, 30, .inl (u_1.2.1 0))), (a2, .inr (5, [.ref a5, .ref a6, .ref a7, .ref a8, .ref a9, .int 0, .int 0]))] := hD
  refine lv_aload_n (pc := 46) hx hb dX1_clear_46 rfl (lv_at hl 0 rfl) ?_
  refine lv_iconst (pc := 47) (v := 0) hx hb dX1_clear_47 (by decide) ?_
  refine va_put (pc := 48) (ci := 1) (v := .int 0) (ty := .int) (C := RX1) (T := TX1) (N := 10) hx hb hts iX1 tyX1 tyX1_ok nmX1 hown hK hP hD hS 0 rfl rfl 9 (by decide) (hts _ tw_143) (fun _ h9 => h9) rfl (by decide +kernel) (by decide +kernel) (by decide +kernel) (Nat.le_of_ble_eq_true rfl) dX1_clear_48 (fun H locs hP hD hS => ?_)
  have hP : va_P D gcl [(a0, .inr (1, [.ref a1, .ref a2, .ref a3, .int 0, .int 0, .int 0, .int 0, .int 0, .int 9999, .int 0])), (a1, .inr (8, [.ref a4])), (a4, .inl (cI, 30, .inl (u_1.2.1 0))), (a2, .inr (5, [.ref a5, .ref a6, .ref a7, .ref a8, .ref a9, .int 0, .int 0]))] H := hP
  have hD : va_D A [(a0, .inr (1, [.ref a1, .ref a2, .ref a3, .int 0, .int 0, .int 0, .int 0, .int 0, .int 9999, .int 0])), (a1, .inr (8, [.ref a4])), (a4, .inl (cI, 30, .inl (u_1.2.1 0))), (a2, .inr (5, [.ref a5, .ref a6, .ref a7, .ref a8, .ref a9, .int 0, .int 0]))] := hD
  have hP9 := hP.sub (ws' := [(a0, .inr (1, [.ref a1, .ref a2, .ref a3, .int 0, .int 0, .int 0, .int 0, .int 0, .int 9999, .int 0])), (a1, .inr (8, [.ref a4])), (a4, .inl (cI, 30, .inl (u_1.2.1 0))), (a2, .inr (5, [.ref a5, .ref a6, .ref a7, .ref a8, .ref a9, .int 0, .int 0]))]) [0, 1, 2, 3] rfl
  have hD9 := hD.sub (ws' := [(a0, .inr (1, [.ref a1, .ref a2, .ref a3, .int 0, .int 0, .int 0, .int 0, .int 0, .int 9999, .int 0])), (a1, .inr (8, [.ref a4])), (a4, .inl (cI, 30, .inl (u_1.2.1 0))), (a2, .inr (5, [.ref a5, .ref a6, .ref a7, .ref a8, .ref a9, .int 0, .int 0]))]) [0, 1, 2, 3] (by decide) rfl
  refine W.widen (k := 0) (n := 0) (Nat.le_of_ble_eq_true rfl) (Nat.le_of_ble_eq_true rfl) ?_
  exact W.vret hx hb hr (fun t ht hW => ⟨⟨((fun _ => 0), (fun k => [(u_1.2.1 0)].getD k (fun _ => 0)), (fun _ => (fun _ => 0)), (fun _ => 0), (fun _ => 0)), rfl, trivial, by rw [ht]; exact hP9, hD9⟩, hS.F ht⟩) hS.2.2 dX1_clear_51
set_option maxHeartbeats 4000000 in
set_option maxRecDepth 100000 in
theorem cc_32_yX9_at (l : Launch) (D : va_G) (cB cC cI cJ : ClassId) (sz : Nat) (a0 a1 : Nat) : Met l yX9_at (.code yX9_at cX9_at 2 (some .int) :: lw_gd) ({ frames := 0, cells := 0, slots := 0, locals := 0 }) (gPre D [(cB, .byte), (cC, .char), (cI, .int), (cJ, .long)] [.ref a0, .int 0] [(a0, .inr (9, [.ref a1, .int 0]))] sz) (va_Qi (fun r _ => r = (-1)) (gB D (va_A [(a0, .inr (9, [.ref a1, .int 0]))] sz) (fun u : gEx => [(a0, .inr (9, [.ref a1, .int 0]))])) (va_A [(a0, .inr (9, [.ref a1, .int 0]))] sz)) 0 0 (va_A [(a0, .inr (9, [.ref a1, .int 0]))] sz) := by
  refine Met.ofW (cc := cX9_at) (maxL := 2) (ret := (some .int)) (by decide) rfl ?_
  intro p e s m args below meth c s₁ B hml hv
  obtain ⟨rfl, hsz, hP, hK, hD0, hN⟩ := hv
  have hx := B.exec
  have hb := B.bytes
  have hr := B.returns
  have hts : ∀ w ∈ lw_gd, w.before _ s = true := fun w h => atoms_spec (ws := .code yX9_at cX9_at 2 (some .int) :: lw_gd) B.pre w (List.mem_cons_of_mem _ h)
  have hown : s.vm.findClass RX9 = some m.cls := findClass_of_methodNamed B.named
  have hlocks := B.notSynchronized
  subst hsz
  have hD := hD0.self (sz := s.heap.size)
  generalize hAe : va_A [(a0, .inr (9, [.ref a1, .int 0]))] s.heap.size = A at hD ⊢
  have hA : ∀ q : Nat, s.heap.size ≤ q → A q := fun q h => by rw [← hAe]; exact Or.inr h
  have hS : va_S A s.heap s.heap [] := va_S.rf
  have hP : va_P D gcl [(a0, .inr (9, [.ref a1, .int 0]))] s.heap := hP
  have hl := lv_entry ([.ref a0, .int 0]) (n := 2) (Nat.le_of_ble_eq_true rfl)
  rw [lg_entry_eq]
  generalize (lg_sl ([.ref a0, .int 0]) ++ List.replicate (2 - (lg_sl ([.ref a0, .int 0])).length) Slot.unset).toArray = ls at hl ⊢
  have hl : lv_has ls 2 [(0, .ref a0), (1, .int 0)] := hl
  refine lv_iload_n (pc := 0) hx hb dX9_at_0 rfl (lv_at hl 1 rfl) ?_
  refine lv_if_lt (pc := 1) (tgt := 25) hx hb dX9_at_1 (by decide) (fun c => absurd c (by decide +kernel)) (fun _ => ?_)
  refine lv_iload_n (pc := 4) hx hb dX9_at_4 rfl (lv_at hl 1 rfl) ?_
  refine lv_aload_n (pc := 5) hx hb dX9_at_5 rfl (lv_at hl 0 rfl) ?_
  refine va_get (pc := 6) (ci := 9) (v := .int 0) (C := RX9) (T := TX9) (N := 2) hx hb hts iX9 hown hK hP 0 rfl rfl 1 (by decide) (hts _ tw_43) (fun _ h9 => h9) rfl dX9_at_6 ?_
  refine lv_icmp_ge (pc := 9) (tgt := 25) hx hb dX9_at_9 (by decide) (fun _ => ?_) (fun c => absurd (by decide +kernel) c)
  refine lv_iconst (pc := 25) (v := (-1)) hx hb dX9_at_25 (by decide) ?_
  have hP9 := hP.sub (ws' := [(a0, .inr (9, [.ref a1, .int 0]))]) [0] rfl
  have hD9 := hD.sub (ws' := [(a0, .inr (9, [.ref a1, .int 0]))]) [0] (by decide) rfl
  refine W.widen (k := 0) (n := 0) (Nat.le_of_ble_eq_true rfl) (Nat.le_of_ble_eq_true rfl) ?_
  exact W.iret (v := (-1)) hx hb hr (fun t ht hW => ⟨⟨(-1), ((fun _ => 0), (fun _ => (fun _ => 0)), (fun _ => (fun _ => 0)), (fun _ => 0), (fun _ => 0)), rfl, rfl, by rw [ht]; exact hP9, hD9⟩, hS.F ht⟩) hS.2.2 dX9_at_26
set_option maxHeartbeats 4000000 in
set_option maxRecDepth 100000 in
theorem cc_33_yX4_goOn (l : Launch) (D : va_G) (cB cC cI cJ : ClassId) (sz : Nat) (a0 a1 a2 a3 : Nat) : Met l yX4_goOn (.code yX4_goOn cX4_goOn 3 none :: lw_gd) ({ frames := 1, cells := 0, slots := 0, locals := 21 }) (gPre D [(cB, .byte), (cC, .char), (cI, .int), (cJ, .long)] [.ref a0, .int 0, .int 0] [(a0, .inr (4, [.ref a1, .ref a2, .int 0, .int (-1), .int 0, .int 0, .int 0, .int (-1)])), (a1, .inr (9, [.ref a3, .int 0]))] sz) (va_Qv (fun _ => True) (gB D (va_A [(a0, .inr (4, [.ref a1, .ref a2, .int 0, .int (-1), .int 0, .int 0, .int 0, .int (-1)])), (a1, .inr (9, [.ref a3, .int 0]))] sz) (fun u : gEx => [(a0, .inr (4, [.ref a1, .ref a2, .int 0, .int (-1), .int 0, .int 0, .int 0, .int (-1)])), (a1, .inr (9, [.ref a3, .int 0]))])) (va_A [(a0, .inr (4, [.ref a1, .ref a2, .int 0, .int (-1), .int 0, .int 0, .int 0, .int (-1)])), (a1, .inr (9, [.ref a3, .int 0]))] sz)) 0 0 (va_A [(a0, .inr (4, [.ref a1, .ref a2, .int 0, .int (-1), .int 0, .int 0, .int 0, .int (-1)])), (a1, .inr (9, [.ref a3, .int 0]))] sz) := by
  refine Met.ofW (cc := cX4_goOn) (maxL := 3) (ret := none) (by decide) rfl ?_
  intro p e s m args below meth c s₁ B hml hv
  obtain ⟨rfl, hsz, hP, hK, hD0, hN⟩ := hv
  have hx := B.exec
  have hb := B.bytes
  have hr := B.returns
  have hts : ∀ w ∈ lw_gd, w.before _ s = true := fun w h => atoms_spec (ws := .code yX4_goOn cX4_goOn 3 none :: lw_gd) B.pre w (List.mem_cons_of_mem _ h)
  have hown : s.vm.findClass RX4 = some m.cls := findClass_of_methodNamed B.named
  have hlocks := B.notSynchronized
  subst hsz
  have hD := hD0.self (sz := s.heap.size)
  generalize hAe : va_A [(a0, .inr (4, [.ref a1, .ref a2, .int 0, .int (-1), .int 0, .int 0, .int 0, .int (-1)])), (a1, .inr (9, [.ref a3, .int 0]))] s.heap.size = A at hD ⊢
  have hA : ∀ q : Nat, s.heap.size ≤ q → A q := fun q h => by rw [← hAe]; exact Or.inr h
  have hS : va_S A s.heap s.heap [] := va_S.rf
  have hP : va_P D gcl [(a0, .inr (4, [.ref a1, .ref a2, .int 0, .int (-1), .int 0, .int 0, .int 0, .int (-1)])), (a1, .inr (9, [.ref a3, .int 0]))] s.heap := hP
  have hl := lv_entry ([.ref a0, .int 0, .int 0]) (n := 3) (Nat.le_of_ble_eq_true rfl)
  rw [lg_entry_eq]
  generalize (lg_sl ([.ref a0, .int 0, .int 0]) ++ List.replicate (3 - (lg_sl ([.ref a0, .int 0, .int 0])).length) Slot.unset).toArray = ls at hl ⊢
  have hl : lv_has ls 3 [(0, .ref a0), (1, .int 0), (2, .int 0)] := hl
  refine lv_aload_n (pc := 0) hx hb dX4_goOn_0 rfl (lv_at hl 0 rfl) ?_
  refine lv_iload_n (pc := 1) hx hb dX4_goOn_1 rfl (lv_at hl 1 rfl) ?_
  refine va_put (pc := 2) (ci := 4) (v := .int 0) (ty := .int) (C := RX4) (T := TX4) (N := 8) hx hb hts iX4 tyX4 tyX4_ok nmX4 hown hK hP hD hS 0 rfl rfl 2 (by decide) (hts _ tw_170) (fun _ h9 => h9) rfl (by decide +kernel) (by decide +kernel) (by decide +kernel) (Nat.le_of_ble_eq_true rfl) dX4_goOn_2 (fun H locs hP hD hS => ?_)
  have hP : va_P D gcl [(a0, .inr (4, [.ref a1, .ref a2, .int 0, .int (-1), .int 0, .int 0, .int 0, .int (-1)])), (a1, .inr (9, [.ref a3, .int 0]))] H := hP
  have hD : va_D A [(a0, .inr (4, [.ref a1, .ref a2, .int 0, .int (-1), .int 0, .int 0, .int 0, .int (-1)])), (a1, .inr (9, [.ref a3, .int 0]))] := hD
  refine lv_aload_n (pc := 5) hx hb dX4_goOn_5 rfl (lv_at hl 0 rfl) ?_
  refine va_get (pc := 6) (ci := 4) (v := .int 0) (C := RX4) (T := TX4) (N := 8) hx hb hts iX4 hown hK hP 0 rfl rfl 2 (by decide) (hts _ tw_170) (fun _ h9 => h9) rfl dX4_goOn_6 ?_
  refine lv_aload_n (pc := 9) hx hb dX4_goOn_9 rfl (lv_at hl 0 rfl) ?_
  refine va_get (pc := 10) (ci := 4) (v := .ref a1) (C := RX4) (T := TX4) (N := 8) hx hb hts iX4 hown hK hP 0 rfl rfl 0 (by decide) (hts _ tw_167) (fun _ h9 => h9) rfl dX4_goOn_10 ?_
  refine gc_i (pc := 13) (wc := [(a1, .inr (9, [.ref a3, .int 0]))]) (wr := [(a0, .inr (4, [.ref a1, .ref a2, .int 0, .int (-1), .int 0, .int 0, .int 0, .int (-1)]))]) hP hD hS hA [1] [0] rfl rfl (by decide) (by decide) (by decide) (fun hPc hDc => va_runV (As := []) (rest := [.int 0]) ⟨hx, hb, hml, hown, hts⟩ (cc_24_yX9_length l D cB cC cI cJ _ a1 a3) ⟨gcwB hts tw_478 tw_3 tw_514 hd_yX9_length ⟨Nat.le_of_ble_eq_true rfl, Nat.le_of_ble_eq_true rfl⟩, hts _ tw_476, hts _ tw_477⟩ ⟨gblind, va_recv hK hPc (ci := 9) (q0 := 0) rfl rfl, (gpreS hPc hK hDc hN).2⟩ rfl rfl hl.1 rfl (lv_room (Nat.le_of_ble_eq_true rfl)) dX4_goOn_13 ⟨Nat.le_of_ble_eq_true rfl, Nat.le_of_ble_eq_true rfl⟩) (fun r_2 u_1 H locs hw_3 hP hD hS => ?_)
  have hP : va_P D gcl [(a0, .inr (4, [.ref a1, .ref a2, .int 0, .int (-1), .int 0, .int 0, .int 0, .int (-1)])), (a1, .inr (9, [.ref a3, .int 0]))] H := hP
  have hD : va_D A [(a0, .inr (4, [.ref a1, .ref a2, .int 0, .int (-1), .int 0, .int 0, .int 0, .int (-1)])), (a1, .inr (9, [.ref a3, .int 0]))] := hD
  subst hw_3
  refine lv_icmp_ge (pc := 16) (tgt := 49) hx hb dX4_goOn_16 (by decide) (fun _ => ?_) (fun c => absurd (by decide +kernel) c)
  refine lv_aload_n (pc := 49) hx hb dX4_goOn_49 rfl (lv_at hl 0 rfl) ?_
  refine lv_aload_n (pc := 50) hx hb dX4_goOn_50 rfl (lv_at hl 0 rfl) ?_
  refine va_get (pc := 51) (ci := 4) (v := .ref a1) (C := RX4) (T := TX4) (N := 8) hx hb hts iX4 hown hK hP 0 rfl rfl 0 (by decide) (hts _ tw_167) (fun _ h9 => h9) rfl dX4_goOn_51 ?_
  refine lv_aload_n (pc := 54) hx hb dX4_goOn_54 rfl (lv_at hl 0 rfl) ?_
  refine va_get (pc := 55) (ci := 4) (v := .int 0) (C := RX4) (T := TX4) (N := 8) hx hb hts iX4 hown hK hP 0 rfl rfl 2 (by decide) (hts _ tw_170) (fun _ h9 => h9) rfl dX4_goOn_55 ?_
  refine gc_i (pc := 58) (wc := [(a1, .inr (9, [.ref a3, .int 0]))]) (wr := [(a0, .inr (4, [.ref a1, .ref a2, .int 0, .int (-1), .int 0, .int 0, .int 0, .int (-1)]))]) hP hD hS hA [1] [0] rfl rfl (by decide) (by decide) (by decide) (fun hPc hDc => va_runV (As := [.int 0]) (rest := [.ref a0]) ⟨hx, hb, hml, hown, hts⟩ (cc_32_yX9_at l D cB cC cI cJ _ a1 a3) ⟨gcwB hts tw_518 tw_3 tw_515 hd_yX9_at ⟨Nat.le_of_ble_eq_true rfl, Nat.le_of_ble_eq_true rfl⟩, hts _ tw_516, hts _ tw_517⟩ ⟨gblind, va_recv hK hPc (ci := 9) (q0 := 0) rfl rfl, (gpreS hPc hK hDc hN).2⟩ rfl rfl hl.1 rfl (lv_room (Nat.le_of_ble_eq_true rfl)) dX4_goOn_58 ⟨Nat.le_of_ble_eq_true rfl, Nat.le_of_ble_eq_true rfl⟩) (fun r_5 u_4 H locs hw_6 hP hD hS => ?_)
  have hP : va_P D gcl [(a0, .inr (4, [.ref a1, .ref a2, .int 0, .int (-1), .int 0, .int 0, .int 0, .int (-1)])), (a1, .inr (9, [.ref a3, .int 0]))] H := hP
  have hD : va_D A [(a0, .inr (4, [.ref a1, .ref a2, .int 0, .int (-1), .int 0, .int 0, .int 0, .int (-1)])), (a1, .inr (9, [.ref a3, .int 0]))] := hD
  subst hw_6
  refine va_put (pc := 61) (ci := 4) (v := .int (-1)) (ty := .int) (C := RX4) (T := TX4) (N := 8) hx hb hts iX4 tyX4 tyX4_ok nmX4 hown hK hP hD hS 0 rfl rfl 3 (by decide) (hts _ tw_171) (fun _ h9 => h9) rfl (by decide +kernel) (by decide +kernel) (by decide +kernel) (Nat.le_of_ble_eq_true rfl) dX4_goOn_61 (fun H locs hP hD hS => ?_)
  have hP : va_P D gcl [(a0, .inr (4, [.ref a1, .ref a2, .int 0, .int (-1), .int 0, .int 0, .int 0, .int (-1)])), (a1, .inr (9, [.ref a3, .int 0]))] H := hP
  have hD : va_D A [(a0, .inr (4, [.ref a1, .ref a2, .int 0, .int (-1), .int 0, .int 0, .int 0, .int (-1)])), (a1, .inr (9, [.ref a3, .int 0]))] := hD
  refine lv_iload_n (pc := 64) hx hb dX4_goOn_64 rfl (lv_at hl 2 rfl) ?_
  refine lv_if_eq (pc := 65) (tgt := 101) hx hb dX4_goOn_65 (by decide) (fun _ => ?_) (fun c => absurd (by decide +kernel) c)
  have hP9 := hP.sub (ws' := [(a0, .inr (4, [.ref a1, .ref a2, .int 0, .int (-1), .int 0, .int 0, .int 0, .int (-1)])), (a1, .inr (9, [.ref a3, .int 0]))]) [0, 1] rfl
  have hD9 := hD.sub (ws' := [(a0, .inr (4, [.ref a1, .ref a2, .int 0, .int (-1), .int 0, .int 0, .int 0, .int (-1)])), (a1, .inr (9, [.ref a3, .int 0]))]) [0, 1] (by decide) rfl
  refine W.widen (k := 0) (n := 0) (Nat.le_of_ble_eq_true rfl) (Nat.le_of_ble_eq_true rfl) ?_
  exact W.vret hx hb hr (fun t ht hW => ⟨⟨((fun _ => 0), (fun _ => (fun _ => 0)), (fun _ => (fun _ => 0)), (fun _ => 0), (fun _ => 0)), rfl, trivial, by rw [ht]; exact hP9, hD9⟩, hS.F ht⟩) hS.2.2 dX4_goOn_101
set_option maxHeartbeats 4000000 in
set_option maxRecDepth 100000 in
theorem cc_34_yX4_fail (l : Launch) (D : va_G) (cB cC cI cJ : ClassId) (sz : Nat) (a0 a1 a2 : Nat) : Met l yX4_fail (.code yX4_fail cX4_fail 3 (some .boolean) :: lw_gd) ({ frames := 0, cells := 0, slots := 0, locals := 0 }) (gPre D [(cB, .byte), (cC, .char), (cI, .int), (cJ, .long)] [.ref a0, .int 1, .int 0] [(a0, .inr (4, [.ref a1, .ref a2, .int 0, .int (-1), .int 0, .int 0, .int 0, .int (-1)]))] sz) (va_Qi (fun r _ => r = 0) (gB D (va_A [(a0, .inr (4, [.ref a1, .ref a2, .int 0, .int (-1), .int 0, .int 0, .int 0, .int (-1)]))] sz) (fun u : gEx => [(a0, .inr (4, [.ref a1, .ref a2, .int 0, .int (-1), .int 0, .int 0, .int 1, .int 0]))])) (va_A [(a0, .inr (4, [.ref a1, .ref a2, .int 0, .int (-1), .int 0, .int 0, .int 0, .int (-1)]))] sz)) 0 0 (va_A [(a0, .inr (4, [.ref a1, .ref a2, .int 0, .int (-1), .int 0, .int 0, .int 0, .int (-1)]))] sz) := by
  refine Met.ofW (cc := cX4_fail) (maxL := 3) (ret := (some .boolean)) (by decide) rfl ?_
  intro p e s m args below meth c s₁ B hml hv
  obtain ⟨rfl, hsz, hP, hK, hD0, hN⟩ := hv
  have hx := B.exec
  have hb := B.bytes
  have hr := B.returns
  have hts : ∀ w ∈ lw_gd, w.before _ s = true := fun w h => atoms_spec (ws := .code yX4_fail cX4_fail 3 (some .boolean) :: lw_gd) B.pre w (List.mem_cons_of_mem _ h)
  have hown : s.vm.findClass RX4 = some m.cls := findClass_of_methodNamed B.named
  have hlocks := B.notSynchronized
  subst hsz
  have hD := hD0.self (sz := s.heap.size)
  generalize hAe : va_A [(a0, .inr (4, [.ref a1, .ref a2, .int 0, .int (-1), .int 0, .int 0, .int 0, .int (-1)]))] s.heap.size = A at hD ⊢
  have hA : ∀ q : Nat, s.heap.size ≤ q → A q := fun q h => by rw [← hAe]; exact Or.inr h
  have hS : va_S A s.heap s.heap [] := va_S.rf
  have hP : va_P D gcl [(a0, .inr (4, [.ref a1, .ref a2, .int 0, .int (-1), .int 0, .int 0, .int 0, .int (-1)]))] s.heap := hP
  have hl := lv_entry ([.ref a0, .int 1, .int 0]) (n := 3) (Nat.le_of_ble_eq_true rfl)
  rw [lg_entry_eq]
  generalize (lg_sl ([.ref a0, .int 1, .int 0]) ++ List.replicate (3 - (lg_sl ([.ref a0, .int 1, .int 0])).length) Slot.unset).toArray = ls at hl ⊢
  have hl : lv_has ls 3 [(0, .ref a0), (1, .int 1), (2, .int 0)] := hl
  refine lv_aload_n (pc := 0) hx hb dX4_fail_0 rfl (lv_at hl 0 rfl) ?_
  refine lv_iload_n (pc := 1) hx hb dX4_fail_1 rfl (lv_at hl 1 rfl) ?_
  refine va_put (pc := 2) (ci := 4) (v := .int 1) (ty := .int) (C := RX4) (T := TX4) (N := 8) hx hb hts iX4 tyX4 tyX4_ok nmX4 hown hK hP hD hS 0 rfl rfl 6 (by decide) (hts _ tw_174) (fun _ h9 => h9) rfl (by decide +kernel) (by decide +kernel) (by decide +kernel) (Nat.le_of_ble_eq_true rfl) dX4_fail_2 (fun H locs hP hD hS => ?_)
  have hP : va_P D gcl [(a0, .inr (4, [.ref a1, .ref a2, .int 0, .int (-1), .int 0, .int 0, .int 1, .int (-1)]))] H := hP
  have hD : va_D A [(a0, .inr (4, [.ref a1, .ref a2, .int 0, .int (-1), .int 0, .int 0, .int 1, .int (-1)]))] := hD
  refine lv_aload_n (pc := 5) hx hb dX4_fail_5 rfl (lv_at hl 0 rfl) ?_
  refine lv_iload_n (pc := 6) hx hb dX4_fail_6 rfl (lv_at hl 2 rfl) ?_
  refine va_put (pc := 7) (ci := 4) (v := .int 0) (ty := .int) (C := RX4) (T := TX4) (N := 8) hx hb hts iX4 tyX4 tyX4_ok nmX4 hown hK hP hD hS 0 rfl rfl 7 (by decide) (hts _ tw_176) (fun _ h9 => h9) rfl (by decide +kernel) (by decide +kernel) (by decide +kernel) (Nat.le_of_ble_eq_true rfl) dX4_fail_7 (fun H locs hP hD hS => ?_)
  have hP : va_P D gcl [(a0, .inr (4, [.ref a1, .ref a2, .int 0, .int (-1), .int 0, .int 0, .int 1, .int 0]))] H := hP
  have hD : va_D A [(a0, .inr (4, [.ref a1, .ref a2, .int 0, .int (-1), .int 0, .int 0, .int 1, .int 0]))] := hD
  refine lv_iconst (pc := 10) (v := 0) hx hb dX4_fail_10 (by decide) ?_
  have hP9 := hP.sub (ws' := [(a0, .inr (4, [.ref a1, .ref a2, .int 0, .int (-1), .int 0, .int 0, .int 1, .int 0]))]) [0] rfl
  have hD9 := hD.sub (ws' := [(a0, .inr (4, [.ref a1, .ref a2, .int 0, .int (-1), .int 0, .int 0, .int 1, .int 0]))]) [0] (by decide) rfl
  refine W.widen (k := 0) (n := 0) (Nat.le_of_ble_eq_true rfl) (Nat.le_of_ble_eq_true rfl) ?_
  exact W.zret (v := 0) hx hb hr (by decide +kernel) (fun t ht hW => ⟨⟨0, ((fun _ => 0), (fun _ => (fun _ => 0)), (fun _ => (fun _ => 0)), (fun _ => 0), (fun _ => 0)), rfl, rfl, by rw [ht]; exact hP9, hD9⟩, hS.F ht⟩) hS.2.2 dX4_fail_11
set_option maxHeartbeats 4000000 in
set_option maxRecDepth 100000 in
theorem cc_35_yX4_failHere (l : Launch) (D : va_G) (cB cC cI cJ : ClassId) (sz : Nat) (a0 a1 a2 : Nat) : Met l yX4_failHere (.code yX4_failHere cX4_failHere 1 (some .boolean) :: lw_gd) ({ frames := 1, cells := 0, slots := 0, locals := 22 }) (gPre D [(cB, .byte), (cC, .char), (cI, .int), (cJ, .long)] [.ref a0] [(a0, .inr (4, [.ref a1, .ref a2, .int 0, .int (-1), .int 0, .int 0, .int 0, .int (-1)]))] sz) (va_Qi (fun r _ => r = 0) (gB D (va_A [(a0, .inr (4, [.ref a1, .ref a2, .int 0, .int (-1), .int 0, .int 0, .int 0, .int (-1)]))] sz) (fun u : gEx => [(a0, .inr (4, [.ref a1, .ref a2, .int 0, .int (-1), .int 0, .int 0, .int 1, .int 0]))])) (va_A [(a0, .inr (4, [.ref a1, .ref a2, .int 0, .int (-1), .int 0, .int 0, .int 0, .int (-1)]))] sz)) 0 0 (va_A [(a0, .inr (4, [.ref a1, .ref a2, .int 0, .int (-1), .int 0, .int 0, .int 0, .int (-1)]))] sz) := by
  refine Met.ofW (cc := cX4_failHere) (maxL := 1) (ret := (some .boolean)) (by decide) rfl ?_
  intro p e s m args below meth c s₁ B hml hv
  obtain ⟨rfl, hsz, hP, hK, hD0, hN⟩ := hv
  have hx := B.exec
  have hb := B.bytes
  have hr := B.returns
  have hts : ∀ w ∈ lw_gd, w.before _ s = true := fun w h => atoms_spec (ws := .code yX4_failHere cX4_failHere 1 (some .boolean) :: lw_gd) B.pre w (List.mem_cons_of_mem _ h)
  have hown : s.vm.findClass RX4 = some m.cls := findClass_of_methodNamed B.named
  have hlocks := B.notSynchronized
  subst hsz
  have hD := hD0.self (sz := s.heap.size)
  generalize hAe : va_A [(a0, .inr (4, [.ref a1, .ref a2, .int 0, .int (-1), .int 0, .int 0, .int 0, .int (-1)]))] s.heap.size = A at hD ⊢
  have hA : ∀ q : Nat, s.heap.size ≤ q → A q := fun q h => by rw [← hAe]; exact Or.inr h
  have hS : va_S A s.heap s.heap [] := va_S.rf
  have hP : va_P D gcl [(a0, .inr (4, [.ref a1, .ref a2, .int 0, .int (-1), .int 0, .int 0, .int 0, .int (-1)]))] s.heap := hP
  have hl := lv_entry ([.ref a0]) (n := 1) (Nat.le_of_ble_eq_true rfl)
  rw [lg_entry_eq]
  generalize (lg_sl ([.ref a0]) ++ List.replicate (1 - (lg_sl ([.ref a0])).length) Slot.unset).toArray = ls at hl ⊢
  have hl : lv_has ls 1 [(0, .ref a0)] := hl
  refine lv_aload_n (pc := 0) hx hb dX4_failHere_0 rfl (lv_at hl 0 rfl) ?_
  refine lv_iconst (pc := 1) (v := 1) hx hb dX4_failHere_1 (by decide) ?_
  refine lv_aload_n (pc := 2) hx hb dX4_failHere_2 rfl (lv_at hl 0 rfl) ?_
  refine va_get (pc := 3) (ci := 4) (v := .int 0) (C := RX4) (T := TX4) (N := 8) hx hb hts iX4 hown hK hP 0 rfl rfl 2 (by decide) (hts _ tw_170) (fun _ h9 => h9) rfl dX4_failHere_3 ?_
  refine gc_i (pc := 6) (wc := [(a0, .inr (4, [.ref a1, .ref a2, .int 0, .int (-1), .int 0, .int 0, .int 0, .int (-1)]))]) (wr := []) hP hD hS hA [0] [] rfl rfl (by decide) (by decide) (by decide) (fun hPc hDc => va_runV (As := [.int 1, .int 0]) (rest := []) ⟨hx, hb, hml, hown, hts⟩ (cc_34_yX4_fail l D cB cC cI cJ _ a0 a1 a2) ⟨gcwB hts tw_535 tw_2 tw_532 hd_yX4_fail ⟨Nat.le_of_ble_eq_true rfl, Nat.le_of_ble_eq_true rfl⟩, hts _ tw_534, hts _ tp_2⟩ ⟨gblind, va_recv hK hPc (ci := 4) (q0 := 0) rfl rfl, (gpreS hPc hK hDc hN).2⟩ rfl rfl hl.1 rfl (lv_room (Nat.le_of_ble_eq_true rfl)) dX4_failHere_6 ⟨Nat.le_of_ble_eq_true rfl, Nat.le_of_ble_eq_true rfl⟩) (fun r_2 u_1 H locs hw_3 hP hD hS => ?_)
  have hP : va_P D gcl [(a0, .inr (4, [.ref a1, .ref a2, .int 0, .int (-1), .int 0, .int 0, .int 1, .int 0]))] H := hP
  have hD : va_D A [(a0, .inr (4, [.ref a1, .ref a2, .int 0, .int (-1), .int 0, .int 0, .int 1, .int 0]))] := hD
  subst hw_3
  have hP9 := hP.sub (ws' := [(a0, .inr (4, [.ref a1, .ref a2, .int 0, .int (-1), .int 0, .int 0, .int 1, .int 0]))]) [0] rfl
  have hD9 := hD.sub (ws' := [(a0, .inr (4, [.ref a1, .ref a2, .int 0, .int (-1), .int 0, .int 0, .int 1, .int 0]))]) [0] (by decide) rfl
  refine W.widen (k := 0) (n := 0) (Nat.le_of_ble_eq_true rfl) (Nat.le_of_ble_eq_true rfl) ?_
  exact W.zret (v := 0) hx hb hr (by decide +kernel) (fun t ht hW => ⟨⟨0, ((fun _ => 0), (fun _ => (fun _ => 0)), (fun _ => (fun _ => 0)), (fun _ => 0), (fun _ => 0)), rfl, rfl, by rw [ht]; exact hP9, hD9⟩, hS.F ht⟩) hS.2.2 dX4_failHere_9
set_option maxHeartbeats 4000000 in
set_option maxRecDepth 100000 in
theorem cc_36_yX4_readHouse (l : Launch) (D : va_G) (cB cC cI cJ : ClassId) (sz : Nat) (a0 a1 a2 a3 a4 a5 a6 a7 a8 a9 a10 a11 a12 : Nat) : Met l yX4_readHouse (.code yX4_readHouse cX4_readHouse 2 (some .boolean) :: lw_gd) ({ frames := 3, cells := 0, slots := 0, locals := 63 }) (gPre D [(cB, .byte), (cC, .char), (cI, .int), (cJ, .long)] [.ref a0] [(a0, .inr (4, [.ref a1, .ref a2, .int 0, .int (-1), .int 0, .int 0, .int 0, .int (-1)])), (a2, .inr (1, [.ref a3, .ref a4, .ref a5, .int 0, .int 0, .int 0, .int 0, .int 0, .int 9999, .int 0])), (a3, .inr (8, [.ref a6])), (a6, .inl (cI, 30, .inl (fun _ => 0))), (a4, .inr (5, [.ref a7, .ref a8, .ref a9, .ref a10, .ref a11, .int 0, .int 0])), (a1, .inr (9, [.ref a12, .int 0]))] sz) (va_Qi (fun r _ => r = 0) (gB D (va_A [(a0, .inr (4, [.ref a1, .ref a2, .int 0, .int (-1), .int 0, .int 0, .int 0, .int (-1)])), (a2, .inr (1, [.ref a3, .ref a4, .ref a5, .int 0, .int 0, .int 0, .int 0, .int 0, .int 9999, .int 0])), (a3, .inr (8, [.ref a6])), (a6, .inl (cI, 30, .inl (fun _ => 0))), (a4, .inr (5, [.ref a7, .ref a8, .ref a9, .ref a10, .ref a11, .int 0, .int 0])), (a1, .inr (9, [.ref a12, .int 0]))] sz) (fun u : gEx => [(a0, .inr (4, [.ref a1, .ref a2, .int 0, .int (-1), .int 0, .int 0, .int 1, .int 0])), (a2, .inr (1, [.ref a3, .ref a4, .ref a5, .int 0, .int 0, .int 0, .int 0, .int 0, .int 9999, .int 0])), (a3, .inr (8, [.ref a6])), (a6, .inl (cI, 30, .inl (u.2.1 0))), (a4, .inr (5, [.ref a7, .ref a8, .ref a9, .ref a10, .ref a11, .int 0, .int 0])), (a1, .inr (9, [.ref a12, .int 0]))])) (va_A [(a0, .inr (4, [.ref a1, .ref a2, .int 0, .int (-1), .int 0, .int 0, .int 0, .int (-1)])), (a2, .inr (1, [.ref a3, .ref a4, .ref a5, .int 0, .int 0, .int 0, .int 0, .int 0, .int 9999, .int 0])), (a3, .inr (8, [.ref a6])), (a6, .inl (cI, 30, .inl (fun _ => 0))), (a4, .inr (5, [.ref a7, .ref a8, .ref a9, .ref a10, .ref a11, .int 0, .int 0])), (a1, .inr (9, [.ref a12, .int 0]))] sz)) 0 0 (va_A [(a0, .inr (4, [.ref a1, .ref a2, .int 0, .int (-1), .int 0, .int 0, .int 0, .int (-1)])), (a2, .inr (1, [.ref a3, .ref a4, .ref a5, .int 0, .int 0, .int 0, .int 0, .int 0, .int 9999, .int 0])), (a3, .inr (8, [.ref a6])), (a6, .inl (cI, 30, .inl (fun _ => 0))), (a4, .inr (5, [.ref a7, .ref a8, .ref a9, .ref a10, .ref a11, .int 0, .int 0])), (a1, .inr (9, [.ref a12, .int 0]))] sz) := by
  refine Met.ofW (cc := cX4_readHouse) (maxL := 2) (ret := (some .boolean)) (by decide) rfl ?_
  intro p e s m args below meth c s₁ B hml hv
  obtain ⟨rfl, hsz, hP, hK, hD0, hN⟩ := hv
  have hx := B.exec
  have hb := B.bytes
  have hr := B.returns
  have hts : ∀ w ∈ lw_gd, w.before _ s = true := fun w h => atoms_spec (ws := .code yX4_readHouse cX4_readHouse 2 (some .boolean) :: lw_gd) B.pre w (List.mem_cons_of_mem _ h)
  have hown : s.vm.findClass RX4 = some m.cls := findClass_of_methodNamed B.named
  have hlocks := B.notSynchronized
  subst hsz
  have hD := hD0.self (sz := s.heap.size)
  generalize hAe : va_A [(a0, .inr (4, [.ref a1, .ref a2, .int 0, .int (-1), .int 0, .int 0, .int 0, .int (-1)])), (a2, .inr (1, [.ref a3, .ref a4, .ref a5, .int 0, .int 0, .int 0, .int 0, .int 0, .int 9999, .int 0])), (a3, .inr (8, [.ref a6])), (a6, .inl (cI, 30, .inl (fun _ => 0))), (a4, .inr (5, [.ref a7, .ref a8, .ref a9, .ref a10, .ref a11, .int 0, .int 0])), (a1, .inr (9, [.ref a12, .int 0]))] s.heap.size = A at hD ⊢
  have hA : ∀ q : Nat, s.heap.size ≤ q → A q := fun q h => by rw [← hAe]; exact Or.inr h
  have hS : va_S A s.heap s.heap [] := va_S.rf
  have hP : va_P D gcl [(a0, .inr (4, [.ref a1, .ref a2, .int 0, .int (-1), .int 0, .int 0, .int 0, .int (-1)])), (a2, .inr (1, [.ref a3, .ref a4, .ref a5, .int 0, .int 0, .int 0, .int 0, .int 0, .int 9999, .int 0])), (a3, .inr (8, [.ref a6])), (a6, .inl (cI, 30, .inl (fun _ => 0))), (a4, .inr (5, [.ref a7, .ref a8, .ref a9, .ref a10, .ref a11, .int 0, .int 0])), (a1, .inr (9, [.ref a12, .int 0]))] s.heap := hP
  have hl := lv_entry ([.ref a0]) (n := 2) (Nat.le_of_ble_eq_true rfl)
  rw [lg_entry_eq]
  generalize (lg_sl ([.ref a0]) ++ List.replicate (2 - (lg_sl ([.ref a0])).length) Slot.unset).toArray = ls at hl ⊢
  have hl : lv_has ls 2 [(0, .ref a0)] := hl
  refine lv_aload_n (pc := 0) hx hb dX4_readHouse_0 rfl (lv_at hl 0 rfl) ?_
  refine va_get (pc := 1) (ci := 4) (v := .ref a2) (C := RX4) (T := TX4) (N := 8) hx hb hts iX4 hown hK hP 0 rfl rfl 1 (by decide) (hts _ tw_169) (fun _ h9 => h9) rfl dX4_readHouse_1 ?_
  refine gc_v (pc := 4) (wc := [(a2, .inr (1, [.ref a3, .ref a4, .ref a5, .int 0, .int 0, .int 0, .int 0, .int 0, .int 9999, .int 0])), (a3, .inr (8, [.ref a6])), (a6, .inl (cI, 30, .inl (fun _ => 0))), (a4, .inr (5, [.ref a7, .ref a8, .ref a9, .ref a10, .ref a11, .int 0, .int 0]))]) (wr := [(a0, .inr (4, [.ref a1, .ref a2, .int 0, .int (-1), .int 0, .int 0, .int 0, .int (-1)])), (a1, .inr (9, [.ref a12, .int 0]))]) hP hD hS hA [1, 2, 3, 4] [0, 5] rfl rfl (by decide) (by decide) (by decide) (fun hPc hDc => va_runV (As := []) (rest := []) ⟨hx, hb, hml, hown, hts⟩ (cc_31_yX1_clear l D cB cC cI cJ _ a2 a3 a4 a5 a6 a7 a8 a9 a10 a11) ⟨gcwB hts tw_498 tw_4 tw_495 hd_yX1_clear ⟨Nat.le_of_ble_eq_true rfl, Nat.le_of_ble_eq_true rfl⟩, hts _ tw_496, hts _ tw_497⟩ ⟨gblind, va_recv hK hPc (ci := 1) (q0 := 0) rfl rfl, (gpreS hPc hK hDc hN).2⟩ rfl rfl hl.1 rfl (lv_room (Nat.le_of_ble_eq_true rfl)) dX4_readHouse_4 ⟨Nat.le_of_ble_eq_true rfl, Nat.le_of_ble_eq_true rfl⟩) (fun u_1 H locs hw_3 hP hD hS => ?_)
  have hP : va_P D gcl [(a0, .inr (4, [.ref a1, .ref a2, .int 0, .int (-1), .int 0, .int 0, .int 0, .int (-1)])), (a1, .inr (9, [.ref a12, .int 0])), (a2, .inr (1, [.ref a3, .ref a4, .ref a5, .int 0, .int 0, .int 0, .int 0, .int 0, .int 9999, .int 0])), (a3, .inr (8, [.ref a6])), (a6, .inl (cI, 30, .inl (u_1.2.1 0))), (a4, .inr (5, [.ref a7, .ref a8, .ref a9, .ref a10, .ref a11, .int 0, .int 0]))] H := hP
  have hD : va_D A [(a0, .inr (4, [.ref a1, .ref a2, .int 0, .int (-1), .int 0, .int 0, .int 0, .int (-1)])), (a1, .inr (9, [.ref a12, .int 0])), (a2, .inr (1, [.ref a3, .ref a4, .ref a5, .int 0, .int 0, .int 0, .int 0, .int 0, .int 9999, .int 0])), (a3, .inr (8, [.ref a6])), (a6, .inl (cI, 30, .inl (u_1.2.1 0))), (a4, .inr (5, [.ref a7, .ref a8, .ref a9, .ref a10, .ref a11, .int 0, .int 0]))] := hD
  refine lv_aload_n (pc := 7) hx hb dX4_readHouse_7 rfl (lv_at hl 0 rfl) ?_
  refine lv_iconst (pc := 8) (v := 0) hx hb dX4_readHouse_8 (by decide) ?_
  refine va_put (pc := 9) (ci := 4) (v := .int 0) (ty := .int) (C := RX4) (T := TX4) (N := 8) hx hb hts iX4 tyX4 tyX4_ok nmX4 hown hK hP hD hS 0 rfl rfl 5 (by decide) (hts _ tw_173) (fun _ h9 => h9) rfl (by decide +kernel) (by decide +kernel) (by decide +kernel) (Nat.le_of_ble_eq_true rfl) dX4_readHouse_9 (fun H locs hP hD hS => ?_)
  have hP : va_P D gcl [(a0, .inr (4, [.ref a1, .ref a2, .int 0, .int (-1), .int 0, .int 0, .int 0, .int (-1)])), (a1, .inr (9, [.ref a12, .int 0])), (a2, .inr (1, [.ref a3, .ref a4, .ref a5, .int 0, .int 0, .int 0, .int 0, .int 0, .int 9999, .int 0])), (a3, .inr (8, [.ref a6])), (a6, .inl (cI, 30, .inl (u_1.2.1 0))), (a4, .inr (5, [.ref a7, .ref a8, .ref a9, .ref a10, .ref a11, .int 0, .int 0]))] H := hP
  have hD : va_D A [(a0, .inr (4, [.ref a1, .ref a2, .int 0, .int (-1), .int 0, .int 0, .int 0, .int (-1)])), (a1, .inr (9, [.ref a12, .int 0])), (a2, .inr (1, [.ref a3, .ref a4, .ref a5, .int 0, .int 0, .int 0, .int 0, .int 0, .int 9999, .int 0])), (a3, .inr (8, [.ref a6])), (a6, .inl (cI, 30, .inl (u_1.2.1 0))), (a4, .inr (5, [.ref a7, .ref a8, .ref a9, .ref a10, .ref a11, .int 0, .int 0]))] := hD
  refine lv_aload_n (pc := 12) hx hb dX4_readHouse_12 rfl (lv_at hl 0 rfl) ?_
  refine lv_iconst (pc := 13) (v := 0) hx hb dX4_readHouse_13 (by decide) ?_
  refine va_put (pc := 14) (ci := 4) (v := .int 0) (ty := .int) (C := RX4) (T := TX4) (N := 8) hx hb hts iX4 tyX4 tyX4_ok nmX4 hown hK hP hD hS 0 rfl rfl 6 (by decide) (hts _ tw_174) (fun _ h9 => h9) rfl (by decide +kernel) (by decide +kernel) (by decide +kernel) (Nat.le_of_ble_eq_true rfl) dX4_readHouse_14 (fun H locs hP hD hS => ?_)
  have hP : va_P D gcl [(a0, .inr (4, [.ref a1, .ref a2, .int 0, .int (-1), .int 0, .int 0, .int 0, .int (-1)])), (a1, .inr (9, [.ref a12, .int 0])), (a2, .inr (1, [.ref a3, .ref a4, .ref a5, .int 0, .int 0, .int 0, .int 0, .int 0, .int 9999, .int 0])), (a3, .inr (8, [.ref a6])), (a6, .inl (cI, 30, .inl (u_1.2.1 0))), (a4, .inr (5, [.ref a7, .ref a8, .ref a9, .ref a10, .ref a11, .int 0, .int 0]))] H := hP
  have hD : va_D A [(a0, .inr (4, [.ref a1, .ref a2, .int 0, .int (-1), .int 0, .int 0, .int 0, .int (-1)])), (a1, .inr (9, [.ref a12, .int 0])), (a2, .inr (1, [.ref a3, .ref a4, .ref a5, .int 0, .int 0, .int 0, .int 0, .int 0, .int 9999, .int 0])), (a3, .inr (8, [.ref a6])), (a6, .inl (cI, 30, .inl (u_1.2.1 0))), (a4, .inr (5, [.ref a7, .ref a8, .ref a9, .ref a10, .ref a11, .int 0, .int 0]))] := hD
  refine lv_aload_n (pc := 17) hx hb dX4_readHouse_17 rfl (lv_at hl 0 rfl) ?_
  refine lv_iconst (pc := 18) (v := (-1)) hx hb dX4_readHouse_18 (by decide) ?_
  refine va_put (pc := 19) (ci := 4) (v := .int (-1)) (ty := .int) (C := RX4) (T := TX4) (N := 8) hx hb hts iX4 tyX4 tyX4_ok nmX4 hown hK hP hD hS 0 rfl rfl 7 (by decide) (hts _ tw_176) (fun _ h9 => h9) rfl (by decide +kernel) (by decide +kernel) (by decide +kernel) (Nat.le_of_ble_eq_true rfl) dX4_readHouse_19 (fun H locs hP hD hS => ?_)
  have hP : va_P D gcl [(a0, .inr (4, [.ref a1, .ref a2, .int 0, .int (-1), .int 0, .int 0, .int 0, .int (-1)])), (a1, .inr (9, [.ref a12, .int 0])), (a2, .inr (1, [.ref a3, .ref a4, .ref a5, .int 0, .int 0, .int 0, .int 0, .int 0, .int 9999, .int 0])), (a3, .inr (8, [.ref a6])), (a6, .inl (cI, 30, .inl (u_1.2.1 0))), (a4, .inr (5, [.ref a7, .ref a8, .ref a9, .ref a10, .ref a11, .int 0, .int 0]))] H := hP
  have hD : va_D A [(a0, .inr (4, [.ref a1, .ref a2, .int 0, .int (-1), .int 0, .int 0, .int 0, .int (-1)])), (a1, .inr (9, [.ref a12, .int 0])), (a2, .inr (1, [.ref a3, .ref a4, .ref a5, .int 0, .int 0, .int 0, .int 0, .int 0, .int 9999, .int 0])), (a3, .inr (8, [.ref a6])), (a6, .inl (cI, 30, .inl (u_1.2.1 0))), (a4, .inr (5, [.ref a7, .ref a8, .ref a9, .ref a10, .ref a11, .int 0, .int 0]))] := hD
  refine lv_aload_n (pc := 22) hx hb dX4_readHouse_22 rfl (lv_at hl 0 rfl) ?_
  refine lv_iconst (pc := 23) (v := 0) hx hb dX4_readHouse_23 (by decide) ?_
  refine lv_iconst (pc := 24) (v := 0) hx hb dX4_readHouse_24 (by decide) ?_
  refine gc_v (pc := 25) (wc := [(a0, .inr (4, [.ref a1, .ref a2, .int 0, .int (-1), .int 0, .int 0, .int 0, .int (-1)])), (a1, .inr (9, [.ref a12, .int 0]))]) (wr := [(a2, .inr (1, [.ref a3, .ref a4, .ref a5, .int 0, .int 0, .int 0, .int 0, .int 0, .int 9999, .int 0])), (a3, .inr (8, [.ref a6])), (a6, .inl (cI, 30, .inl (u_1.2.1 0))), (a4, .inr (5, [.ref a7, .ref a8, .ref a9, .ref a10, .ref a11, .int 0, .int 0]))]) hP hD hS hA [0, 1] [2, 3, 4, 5] rfl rfl (by decide) (by decide) (by decide) (fun hPc hDc => va_runV (As := [.int 0, .int 0]) (rest := []) ⟨hx, hb, hml, hown, hts⟩ (cc_33_yX4_goOn l D cB cC cI cJ _ a0 a1 a2 a12) ⟨gcwB hts tw_513 tw_2 tw_510 hd_yX4_goOn ⟨Nat.le_of_ble_eq_true rfl, Nat.le_of_ble_eq_true rfl⟩, hts _ tw_512, hts _ tp_0⟩ ⟨gblind, va_recv hK hPc (ci := 4) (q0 := 0) rfl rfl, (gpreS hPc hK hDc hN).2⟩ rfl rfl hl.1 rfl (lv_room (Nat.le_of_ble_eq_true rfl)) dX4_readHouse_25 ⟨Nat.le_of_ble_eq_true rfl, Nat.le_of_ble_eq_true rfl⟩) (fun u_4 H locs hw_6 hP hD hS => ?_)
  have hP : va_P D gcl [(a2, .inr (1, [.ref a3, .ref a4, .ref a5, .int 0, .int 0, .int 0, .int 0, .int 0, .int 9999, .int 0])), (a3, .inr (8, [.ref a6])), (a6, .inl (cI, 30, .inl (u_1.2.1 0))), (a4, .inr (5, [.ref a7, .ref a8, .ref a9, .ref a10, .ref a11, .int 0, .int 0])), (a0, .inr (4, [.ref a1, .ref a2, .int 0, .int (-1), .int 0, .int 0, .int 0, .int (-1)])), (a1, .inr (9, [.ref a12, .int 0]))] H := hP
  have hD : va_D A [(a2, .inr (1, [.ref a3, .ref a4, .ref a5, .int 0, .int 0, .int 0, .int 0, .int 0, .int 9999, .int 0])), (a3, .inr (8, [.ref a6])), (a6, .inl (cI, 30, .inl (u_1.2.1 0))), (a4, .inr (5, [.ref a7, .ref a8, .ref a9, .ref a10, .ref a11, .int 0, .int 0])), (a0, .inr (4, [.ref a1, .ref a2, .int 0, .int (-1), .int 0, .int 0, .int 0, .int (-1)])), (a1, .inr (9, [.ref a12, .int 0]))] := hD
  refine lv_iconst (pc := 28) (v := 0) hx hb dX4_readHouse_28 (by decide) ?_
  refine lv_istore_n (pc := 29) (lv' := [(1, .int 0), (0, .ref a0)]) hx hb dX4_readHouse_29 rfl hl (by decide) rfl (fun ls hl => ?_)
  refine lv_iload_n (pc := 30) hx hb dX4_readHouse_30 rfl (lv_at hl 0 rfl) ?_
  refine lv_bipush (pc := 31) (v := 60) hx hb dX4_readHouse_31 (by decide) ?_
  refine lv_icmp_gt (pc := 33) (tgt := 120) hx hb dX4_readHouse_33 (by decide) (fun c => absurd c (by decide +kernel)) (fun _ => ?_)
  refine lv_aload_n (pc := 36) hx hb dX4_readHouse_36 rfl (lv_at hl 1 rfl) ?_
  refine va_get (pc := 37) (ci := 4) (v := .int (-1)) (C := RX4) (T := TX4) (N := 8) hx hb hts iX4 hown hK hP 4 rfl rfl 3 (by decide) (hts _ tw_171) (fun _ h9 => h9) rfl dX4_readHouse_37 ?_
  refine lv_iconst (pc := 40) (v := (-1)) hx hb dX4_readHouse_40 (by decide) ?_
  refine lv_icmp_ne (pc := 41) (tgt := 61) hx hb dX4_readHouse_41 (by decide) (fun c => absurd (by decide +kernel) c) (fun _ => ?_)
  refine lv_iload_n (pc := 44) hx hb dX4_readHouse_44 rfl (lv_at hl 0 rfl) ?_
  refine lv_if_gt (pc := 45) (tgt := 55) hx hb dX4_readHouse_45 (by decide) (fun c => absurd c (by decide +kernel)) (fun _ => ?_)
  refine lv_aload_n (pc := 48) hx hb dX4_readHouse_48 rfl (lv_at hl 1 rfl) ?_
  refine gc_i (pc := 49) (wc := [(a0, .inr (4, [.ref a1, .ref a2, .int 0, .int (-1), .int 0, .int 0, .int 0, .int (-1)]))]) (wr := [(a2, .inr (1, [.ref a3, .ref a4, .ref a5, .int 0, .int 0, .int 0, .int 0, .int 0, .int 9999, .int 0])), (a3, .inr (8, [.ref a6])), (a6, .inl (cI, 30, .inl (u_1.2.1 0))), (a4, .inr (5, [.ref a7, .ref a8, .ref a9, .ref a10, .ref a11, .int 0, .int 0])), (a1, .inr (9, [.ref a12, .int 0]))]) hP hD hS hA [4] [0, 1, 2, 3, 5] rfl rfl (by decide) (by decide) (by decide) (fun hPc hDc => va_runV (As := []) (rest := []) ⟨hx, hb, hml, hown, hts⟩ (cc_35_yX4_failHere l D cB cC cI cJ _ a0 a1 a2) ⟨gcwB hts tw_531 tw_2 tw_528 hd_yX4_failHere ⟨Nat.le_of_ble_eq_true rfl, Nat.le_of_ble_eq_true rfl⟩, hts _ tw_530, hts _ tp_1⟩ ⟨gblind, va_recv hK hPc (ci := 4) (q0 := 0) rfl rfl, (gpreS hPc hK hDc hN).2⟩ rfl rfl hl.1 rfl (lv_room (Nat.le_of_ble_eq_true rfl)) dX4_readHouse_49 ⟨Nat.le_of_ble_eq_true rfl, Nat.le_of_ble_eq_true rfl⟩) (fun r_8 u_7 H locs hw_9 hP hD hS => ?_)
  have hP : va_P D gcl [(a2, .inr (1, [.ref a3, .ref a4, .ref a5, .int 0, .int 0, .int 0, .int 0, .int 0, .int 9999, .int 0])), (a3, .inr (8, [.ref a6])), (a6, .inl (cI, 30, .inl (u_1.2.1 0))), (a4, .inr (5, [.ref a7, .ref a8, .ref a9, .ref a10, .ref a11, .int 0, .int 0])), (a1, .inr (9, [.ref a12, .int 0])), (a0, .inr (4, [.ref a1, .ref a2, .int 0, .int (-1), .int 0, .int 0, .int 1, .int 0]))] H := hP
  have hD : va_D A [(a2, .inr (1, [.ref a3, .ref a4, .ref a5, .int 0, .int 0, .int 0, .int 0, .int 0, .int 9999, .int 0])), (a3, .inr (8, [.ref a6])), (a6, .inl (cI, 30, .inl (u_1.2.1 0))), (a4, .inr (5, [.ref a7, .ref a8, .ref a9, .ref a10, .ref a11, .int 0, .int 0])), (a1, .inr (9, [.ref a12, .int 0])), (a0, .inr (4, [.ref a1, .ref a2, .int 0, .int (-1), .int 0, .int 0, .int 1, .int 0]))] := hD
  subst hw_9
  refine lv_if_eq (pc := 52) (tgt := 59) hx hb dX4_readHouse_52 (by decide) (fun _ => ?_) (fun c => absurd (by decide +kernel) c)
  refine lv_iconst (pc := 59) (v := 0) hx hb dX4_readHouse_59 (by decide) ?_
  have hP9 := hP.sub (ws' := [(a0, .inr (4, [.ref a1, .ref a2, .int 0, .int (-1), .int 0, .int 0, .int 1, .int 0])), (a2, .inr (1, [.ref a3, .ref a4, .ref a5, .int 0, .int 0, .int 0, .int 0, .int 0, .int 9999, .int 0])), (a3, .inr (8, [.ref a6])), (a6, .inl (cI, 30, .inl (u_1.2.1 0))), (a4, .inr (5, [.ref a7, .ref a8, .ref a9, .ref a10, .ref a11, .int 0, .int 0])), (a1, .inr (9, [.ref a12, .int 0]))]) [5, 0, 1, 2, 3, 4] rfl
  have hD9 := hD.sub (ws' := [(a0, .inr (4, [.ref a1, .ref a2, .int 0, .int (-1), .int 0, .int 0, .int 1, .int 0])), (a2, .inr (1, [.ref a3, .ref a4, .ref a5, .int 0, .int 0, .int 0, .int 0, .int 0, .int 9999, .int 0])), (a3, .inr (8, [.ref a6])), (a6, .inl (cI, 30, .inl (u_1.2.1 0))), (a4, .inr (5, [.ref a7, .ref a8, .ref a9, .ref a10, .ref a11, .int 0, .int 0])), (a1, .inr (9, [.ref a12, .int 0]))]) [5, 0, 1, 2, 3, 4] (by decide) rfl
  refine W.widen (k := 0) (n := 0) (Nat.le_of_ble_eq_true rfl) (Nat.le_of_ble_eq_true rfl) ?_
  exact W.zret (v := 0) hx hb hr (by decide +kernel) (fun t ht hW => ⟨⟨0, ((fun _ => 0), (fun k => [(u_1.2.1 0)].getD k (fun _ => 0)), (fun _ => (fun _ => 0)), (fun _ => 0), (fun _ => 0)), rfl, rfl, by rw [ht]; exact hP9, hD9⟩, hS.F ht⟩) hS.2.2 dX4_readHouse_60
set_option maxHeartbeats 4000000 in
set_option maxRecDepth 100000 in
theorem cc_37_yX9_cutTo (l : Launch) (D : va_G) (cB cC cI cJ : ClassId) (sz : Nat) (a0 a1 : Nat) : Met l yX9_cutTo (.code yX9_cutTo cX9_cutTo 2 none :: lw_gd) ({ frames := 0, cells := 0, slots := 0, locals := 0 }) (gPre D [(cB, .byte), (cC, .char), (cI, .int), (cJ, .long)] [.ref a0, .int 0] [(a0, .inr (9, [.ref a1, .int 0]))] sz) (va_Qv (fun _ => True) (gB D (va_A [(a0, .inr (9, [.ref a1, .int 0]))] sz) (fun u : gEx => [(a0, .inr (9, [.ref a1, .int 0]))])) (va_A [(a0, .inr (9, [.ref a1, .int 0]))] sz)) 0 0 (va_A [(a0, .inr (9, [.ref a1, .int 0]))] sz) := by
  refine Met.ofW (cc := cX9_cutTo) (maxL := 2) (ret := none) (by decide) rfl ?_
  intro p e s m args below meth c s₁ B hml hv
  obtain ⟨rfl, hsz, hP, hK, hD0, hN⟩ := hv
  have hx := B.exec
  have hb := B.bytes
  have hr := B.returns
  have hts : ∀ w ∈ lw_gd, w.before _ s = true := fun w h => atoms_spec (ws := .code yX9_cutTo cX9_cutTo 2 none :: lw_gd) B.pre w (List.mem_cons_of_mem _ h)
  have hown : s.vm.findClass RX9 = some m.cls := findClass_of_methodNamed B.named
  have hlocks := B.notSynchronized
  subst hsz
  have hD := hD0.self (sz := s.heap.size)
  generalize hAe : va_A [(a0, .inr (9, [.ref a1, .int 0]))] s.heap.size = A at hD ⊢
  have hA : ∀ q : Nat, s.heap.size ≤ q → A q := fun q h => by rw [← hAe]; exact Or.inr h
  have hS : va_S A s.heap s.heap [] := va_S.rf
  have hP : va_P D gcl [(a0, .inr (9, [.ref a1, .int 0]))] s.heap := hP
  have hl := lv_entry ([.ref a0, .int 0]) (n := 2) (Nat.le_of_ble_eq_true rfl)
  rw [lg_entry_eq]
  generalize (lg_sl ([.ref a0, .int 0]) ++ List.replicate (2 - (lg_sl ([.ref a0, .int 0])).length) Slot.unset).toArray = ls at hl ⊢
  have hl : lv_has ls 2 [(0, .ref a0), (1, .int 0)] := hl
  refine lv_aload_n (pc := 0) hx hb dX9_cutTo_0 rfl (lv_at hl 0 rfl) ?_
  refine lv_iload_n (pc := 1) hx hb dX9_cutTo_1 rfl (lv_at hl 1 rfl) ?_
  refine va_put (pc := 2) (ci := 9) (v := .int 0) (ty := .int) (C := RX9) (T := TX9) (N := 2) hx hb hts iX9 tyX9 tyX9_ok nmX9 hown hK hP hD hS 0 rfl rfl 1 (by decide) (hts _ tw_43) (fun _ h9 => h9) rfl (by decide +kernel) (by decide +kernel) (by decide +kernel) (Nat.le_of_ble_eq_true rfl) dX9_cutTo_2 (fun H locs hP hD hS => ?_)
  have hP : va_P D gcl [(a0, .inr (9, [.ref a1, .int 0]))] H := hP
  have hD : va_D A [(a0, .inr (9, [.ref a1, .int 0]))] := hD
  have hP9 := hP.sub (ws' := [(a0, .inr (9, [.ref a1, .int 0]))]) [0] rfl
  have hD9 := hD.sub (ws' := [(a0, .inr (9, [.ref a1, .int 0]))]) [0] (by decide) rfl
  refine W.widen (k := 0) (n := 0) (Nat.le_of_ble_eq_true rfl) (Nat.le_of_ble_eq_true rfl) ?_
  exact W.vret hx hb hr (fun t ht hW => ⟨⟨((fun _ => 0), (fun _ => (fun _ => 0)), (fun _ => (fun _ => 0)), (fun _ => 0), (fun _ => 0)), rfl, trivial, by rw [ht]; exact hP9, hD9⟩, hS.F ht⟩) hS.2.2 dX9_cutTo_5
set_option maxHeartbeats 4000000 in
set_option maxRecDepth 100000 in
theorem cc_38_yX11_house (l : Launch) (D : va_G) (cB cC cI cJ : ClassId) (sz : Nat) (a0 a1 a2 a3 a4 a5 a6 a7 a8 a9 a10 a11 a12 a13 a14 a15 a16 a17 a18 a19 a20 a21 a22 a23 a24 : Nat) : Met l yX11_house (.code yX11_house cX11_house 2 (some .int) :: lw_gd) ({ frames := 4, cells := 0, slots := 0, locals := 84 }) (gPre D [(cB, .byte), (cC, .char), (cI, .int), (cJ, .long)] [.ref a0] [(a0, .inr (11, [.ref a1, .ref a2, .ref a3, .ref a4, .ref a5, .ref a6, .ref a7, .ref a8, .ref a9, .ref a10, .int 0, .ref a11, .ref a12, .ref a13])), (a1, .inr (4, [.ref a2, .ref a14, .int 0, .int (-1), .int 0, .int 0, .int 0, .int (-1)])), (a14, .inr (1, [.ref a15, .ref a16, .ref a17, .int 0, .int 0, .int 0, .int 0, .int 0, .int 9999, .int 0])), (a15, .inr (8, [.ref a18])), (a18, .inl (cI, 30, .inl (fun _ => 0))), (a16, .inr (5, [.ref a19, .ref a20, .ref a21, .ref a22, .ref a23, .int 0, .int 0])), (a2, .inr (9, [.ref a24, .int 0]))] sz) (va_Qi (fun r _ => r = (-1)) (gB D (va_A [(a0, .inr (11, [.ref a1, .ref a2, .ref a3, .ref a4, .ref a5, .ref a6, .ref a7, .ref a8, .ref a9, .ref a10, .int 0, .ref a11, .ref a12, .ref a13])), (a1, .inr (4, [.ref a2, .ref a14, .int 0, .int (-1), .int 0, .int 0, .int 0, .int (-1)])), (a14, .inr (1, [.ref a15, .ref a16, .ref a17, .int 0, .int 0, .int 0, .int 0, .int 0, .int 9999, .int 0])), (a15, .inr (8, [.ref a18])), (a18, .inl (cI, 30, .inl (fun _ => 0))), (a16, .inr (5, [.ref a19, .ref a20, .ref a21, .ref a22, .ref a23, .int 0, .int 0])), (a2, .inr (9, [.ref a24, .int 0]))] sz) (fun u : gEx => [])) (va_A [(a0, .inr (11, [.ref a1, .ref a2, .ref a3, .ref a4, .ref a5, .ref a6, .ref a7, .ref a8, .ref a9, .ref a10, .int 0, .ref a11, .ref a12, .ref a13])), (a1, .inr (4, [.ref a2, .ref a14, .int 0, .int (-1), .int 0, .int 0, .int 0, .int (-1)])), (a14, .inr (1, [.ref a15, .ref a16, .ref a17, .int 0, .int 0, .int 0, .int 0, .int 0, .int 9999, .int 0])), (a15, .inr (8, [.ref a18])), (a18, .inl (cI, 30, .inl (fun _ => 0))), (a16, .inr (5, [.ref a19, .ref a20, .ref a21, .ref a22, .ref a23, .int 0, .int 0])), (a2, .inr (9, [.ref a24, .int 0]))] sz)) 0 0 (va_A [(a0, .inr (11, [.ref a1, .ref a2, .ref a3, .ref a4, .ref a5, .ref a6, .ref a7, .ref a8, .ref a9, .ref a10, .int 0, .ref a11, .ref a12, .ref a13])), (a1, .inr (4, [.ref a2, .ref a14, .int 0, .int (-1), .int 0, .int 0, .int 0, .int (-1)])), (a14, .inr (1, [.ref a15, .ref a16, .ref a17, .int 0, .int 0, .int 0, .int 0, .int 0, .int 9999, .int 0])), (a15, .inr (8, [.ref a18])), (a18, .inl (cI, 30, .inl (fun _ => 0))), (a16, .inr (5, [.ref a19, .ref a20, .ref a21, .ref a22, .ref a23, .int 0, .int 0])), (a2, .inr (9, [.ref a24, .int 0]))] sz) := by
  refine Met.ofW (cc := cX11_house) (maxL := 2) (ret := (some .int)) (by decide) rfl ?_
  intro p e s m args below meth c s₁ B hml hv
  obtain ⟨rfl, hsz, hP, hK, hD0, hN⟩ := hv
  have hx := B.exec
  have hb := B.bytes
  have hr := B.returns
  have hts : ∀ w ∈ lw_gd, w.before _ s = true := fun w h => atoms_spec (ws := .code yX11_house cX11_house 2 (some .int) :: lw_gd) B.pre w (List.mem_cons_of_mem _ h)
  have hown : s.vm.findClass RX11 = some m.cls := findClass_of_methodNamed B.named
  have hlocks := B.notSynchronized
  subst hsz
  have hD := hD0.self (sz := s.heap.size)
  generalize hAe : va_A [(a0, .inr (11, [.ref a1, .ref a2, .ref a3, .ref a4, .ref a5, .ref a6, .ref a7, .ref a8, .ref a9, .ref a10, .int 0, .ref a11, .ref a12, .ref a13])), (a1, .inr (4, [.ref a2, .ref a14, .int 0, .int (-1), .int 0, .int 0, .int 0, .int (-1)])), (a14, .inr (1, [.ref a15, .ref a16, .ref a17, .int 0, .int 0, .int 0, .int 0, .int 0, .int 9999, .int 0])), (a15, .inr (8, [.ref a18])), (a18, .inl (cI, 30, .inl (fun _ => 0))), (a16, .inr (5, [.ref a19, .ref a20, .ref a21, .ref a22, .ref a23, .int 0, .int 0])), (a2, .inr (9, [.ref a24, .int 0]))] s.heap.size = A at hD ⊢
  have hA : ∀ q : Nat, s.heap.size ≤ q → A q := fun q h => by rw [← hAe]; exact Or.inr h
  have hS : va_S A s.heap s.heap [] := va_S.rf
  have hP : va_P D gcl [(a0, .inr (11, [.ref a1, .ref a2, .ref a3, .ref a4, .ref a5, .ref a6, .ref a7, .ref a8, .ref a9, .ref a10, .int 0, .ref a11, .ref a12, .ref a13])), (a1, .inr (4, [.ref a2, .ref a14, .int 0, .int (-1), .int 0, .int 0, .int 0, .int (-1)])), (a14, .inr (1, [.ref a15, .ref a16, .ref a17, .int 0, .int 0, .int 0, .int 0, .int 0, .int 9999, .int 0])), (a15, .inr (8, [.ref a18])), (a18, .inl (cI, 30, .inl (fun _ => 0))), (a16, .inr (5, [.ref a19, .ref a20, .ref a21, .ref a22, .ref a23, .int 0, .int 0])), (a2, .inr (9, [.ref a24, .int 0]))] s.heap := hP
  have hl := lv_entry ([.ref a0]) (n := 2) (Nat.le_of_ble_eq_true rfl)
  rw [lg_entry_eq]
  generalize (lg_sl ([.ref a0]) ++ List.replicate (2 - (lg_sl ([.ref a0])).length) Slot.unset).toArray = ls at hl ⊢
  have hl : lv_has ls 2 [(0, .ref a0)] := hl
  refine lv_aload_n (pc := 0) hx hb dX11_house_0 rfl (lv_at hl 0 rfl) ?_
  refine va_get (pc := 1) (ci := 11) (v := .ref a1) (C := RX11) (T := TX11) (N := 14) hx hb hts iX11 hown hK hP 0 rfl rfl 0 (by decide) (hts _ tw_420) (fun _ h9 => h9) rfl dX11_house_1 ?_
  refine gc_i (pc := 4) (wc := [(a1, .inr (4, [.ref a2, .ref a14, .int 0, .int (-1), .int 0, .int 0, .int 0, .int (-1)])), (a14, .inr (1, [.ref a15, .ref a16, .ref a17, .int 0, .int 0, .int 0, .int 0, .int 0, .int 9999, .int 0])), (a15, .inr (8, [.ref a18])), (a18, .inl (cI, 30, .inl (fun _ => 0))), (a16, .inr (5, [.ref a19, .ref a20, .ref a21, .ref a22, .ref a23, .int 0, .int 0])), (a2, .inr (9, [.ref a24, .int 0]))]) (wr := [(a0, .inr (11, [.ref a1, .ref a2, .ref a3, .ref a4, .ref a5, .ref a6, .ref a7, .ref a8, .ref a9, .ref a10, .int 0, .ref a11, .ref a12, .ref a13]))]) hP hD hS hA [1, 2, 3, 4, 5, 6] [0] rfl rfl (by decide) (by decide) (by decide) (fun hPc hDc => va_runV (As := []) (rest := []) ⟨hx, hb, hml, hown, hts⟩ (cc_36_yX4_readHouse l D cB cC cI cJ _ a1 a2 a14 a15 a16 a17 a18 a19 a20 a21 a22 a23 a24) ⟨gcwB hts tw_494 tw_2 tw_491 hd_yX4_readHouse ⟨Nat.le_of_ble_eq_true rfl, Nat.le_of_ble_eq_true rfl⟩, hts _ tw_492, hts _ tw_493⟩ ⟨gblind, va_recv hK hPc (ci := 4) (q0 := 0) rfl rfl, (gpreS hPc hK hDc hN).2⟩ rfl rfl hl.1 rfl (lv_room (Nat.le_of_ble_eq_true rfl)) dX11_house_4 ⟨Nat.le_of_ble_eq_true rfl, Nat.le_of_ble_eq_true rfl⟩) (fun r_2 u_1 H locs hw_3 hP hD hS => ?_)
  have hP : va_P D gcl [(a0, .inr (11, [.ref a1, .ref a2, .ref a3, .ref a4, .ref a5, .ref a6, .ref a7, .ref a8, .ref a9, .ref a10, .int 0, .ref a11, .ref a12, .ref a13])), (a1, .inr (4, [.ref a2, .ref a14, .int 0, .int (-1), .int 0, .int 0, .int 1, .int 0])), (a14, .inr (1, [.ref a15, .ref a16, .ref a17, .int 0, .int 0, .int 0, .int 0, .int 0, .int 9999, .int 0])), (a15, .inr (8, [.ref a18])), (a18, .inl (cI, 30, .inl (u_1.2.1 0))), (a16, .inr (5, [.ref a19, .ref a20, .ref a21, .ref a22, .ref a23, .int 0, .int 0])), (a2, .inr (9, [.ref a24, .int 0]))] H := hP
  have hD : va_D A [(a0, .inr (11, [.ref a1, .ref a2, .ref a3, .ref a4, .ref a5, .ref a6, .ref a7, .ref a8, .ref a9, .ref a10, .int 0, .ref a11, .ref a12, .ref a13])), (a1, .inr (4, [.ref a2, .ref a14, .int 0, .int (-1), .int 0, .int 0, .int 1, .int 0])), (a14, .inr (1, [.ref a15, .ref a16, .ref a17, .int 0, .int 0, .int 0, .int 0, .int 0, .int 9999, .int 0])), (a15, .inr (8, [.ref a18])), (a18, .inl (cI, 30, .inl (u_1.2.1 0))), (a16, .inr (5, [.ref a19, .ref a20, .ref a21, .ref a22, .ref a23, .int 0, .int 0])), (a2, .inr (9, [.ref a24, .int 0]))] := hD
  subst hw_3
  refine lv_istore_n (pc := 7) (lv' := [(1, .int 0), (0, .ref a0)]) hx hb dX11_house_7 rfl hl (by decide) rfl (fun ls hl => ?_)
  refine lv_aload_n (pc := 8) hx hb dX11_house_8 rfl (lv_at hl 1 rfl) ?_
  refine va_get (pc := 9) (ci := 11) (v := .ref a2) (C := RX11) (T := TX11) (N := 14) hx hb hts iX11 hown hK hP 0 rfl rfl 1 (by decide) (hts _ tw_421) (fun _ h9 => h9) rfl dX11_house_9 ?_
  refine lv_iconst (pc := 12) (v := 0) hx hb dX11_house_12 (by decide) ?_
  refine gc_v (pc := 13) (wc := [(a2, .inr (9, [.ref a24, .int 0]))]) (wr := [(a0, .inr (11, [.ref a1, .ref a2, .ref a3, .ref a4, .ref a5, .ref a6, .ref a7, .ref a8, .ref a9, .ref a10, .int 0, .ref a11, .ref a12, .ref a13])), (a1, .inr (4, [.ref a2, .ref a14, .int 0, .int (-1), .int 0, .int 0, .int 1, .int 0])), (a14, .inr (1, [.ref a15, .ref a16, .ref a17, .int 0, .int 0, .int 0, .int 0, .int 0, .int 9999, .int 0])), (a15, .inr (8, [.ref a18])), (a18, .inl (cI, 30, .inl (u_1.2.1 0))), (a16, .inr (5, [.ref a19, .ref a20, .ref a21, .ref a22, .ref a23, .int 0, .int 0]))]) hP hD hS hA [6] [0, 1, 2, 3, 4, 5] rfl rfl (by decide) (by decide) (by decide) (fun hPc hDc => va_runV (As := [.int 0]) (rest := []) ⟨hx, hb, hml, hown, hts⟩ (cc_37_yX9_cutTo l D cB cC cI cJ _ a2 a24) ⟨gcwB hts tw_486 tw_3 tw_483 hd_yX9_cutTo ⟨Nat.le_of_ble_eq_true rfl, Nat.le_of_ble_eq_true rfl⟩, hts _ tw_484, hts _ tw_485⟩ ⟨gblind, va_recv hK hPc (ci := 9) (q0 := 0) rfl rfl, (gpreS hPc hK hDc hN).2⟩ rfl rfl hl.1 rfl (lv_room (Nat.le_of_ble_eq_true rfl)) dX11_house_13 ⟨Nat.le_of_ble_eq_true rfl, Nat.le_of_ble_eq_true rfl⟩) (fun u_4 H locs hw_6 hP hD hS => ?_)
  have hP : va_P D gcl [(a0, .inr (11, [.ref a1, .ref a2, .ref a3, .ref a4, .ref a5, .ref a6, .ref a7, .ref a8, .ref a9, .ref a10, .int 0, .ref a11, .ref a12, .ref a13])), (a1, .inr (4, [.ref a2, .ref a14, .int 0, .int (-1), .int 0, .int 0, .int 1, .int 0])), (a14, .inr (1, [.ref a15, .ref a16, .ref a17, .int 0, .int 0, .int 0, .int 0, .int 0, .int 9999, .int 0])), (a15, .inr (8, [.ref a18])), (a18, .inl (cI, 30, .inl (u_1.2.1 0))), (a16, .inr (5, [.ref a19, .ref a20, .ref a21, .ref a22, .ref a23, .int 0, .int 0])), (a2, .inr (9, [.ref a24, .int 0]))] H := hP
  have hD : va_D A [(a0, .inr (11, [.ref a1, .ref a2, .ref a3, .ref a4, .ref a5, .ref a6, .ref a7, .ref a8, .ref a9, .ref a10, .int 0, .ref a11, .ref a12, .ref a13])), (a1, .inr (4, [.ref a2, .ref a14, .int 0, .int (-1), .int 0, .int 0, .int 1, .int 0])), (a14, .inr (1, [.ref a15, .ref a16, .ref a17, .int 0, .int 0, .int 0, .int 0, .int 0, .int 9999, .int 0])), (a15, .inr (8, [.ref a18])), (a18, .inl (cI, 30, .inl (u_1.2.1 0))), (a16, .inr (5, [.ref a19, .ref a20, .ref a21, .ref a22, .ref a23, .int 0, .int 0])), (a2, .inr (9, [.ref a24, .int 0]))] := hD
  refine lv_iload_n (pc := 16) hx hb dX11_house_16 rfl (lv_at hl 0 rfl) ?_
  refine lv_if_ne (pc := 17) (tgt := 22) hx hb dX11_house_17 (by decide) (fun c => absurd (by decide +kernel) c) (fun _ => ?_)
  refine lv_iconst (pc := 20) (v := (-1)) hx hb dX11_house_20 (by decide) ?_
  have hP9 := hP.sub (ws' := []) [] rfl
  have hD9 := hD.sub (ws' := []) [] (by decide) rfl
  refine W.widen (k := 0) (n := 0) (Nat.le_of_ble_eq_true rfl) (Nat.le_of_ble_eq_true rfl) ?_
  exact W.iret (v := (-1)) hx hb hr (fun t ht hW => ⟨⟨(-1), ((fun _ => 0), (fun _ => (fun _ => 0)), (fun _ => (fun _ => 0)), (fun _ => 0), (fun _ => 0)), rfl, rfl, by rw [ht]; exact hP9, hD9⟩, hS.F ht⟩) hS.2.2 dX11_house_21
set_option maxHeartbeats 4000000 in
set_option maxRecDepth 100000 in
theorem cc_39_yX12_look (l : Launch) (D : va_G) (cB cC cI cJ : ClassId) (sz : Nat) (a0 a1 a2 a3 a4 a5 a6 a7 a8 a9 a10 a11 a12 a13 a14 a15 a16 a17 a18 a19 a20 a21 a22 a23 a24 a25 a26 a27 a28 a29 a30 a31 a32 a33 a34 a35 a36 a37 a38 a39 a40 a41 a42 a43 : Nat) : Met l yX12_look (.code yX12_look cX12_look 1 (some .int) :: lw_gd) ({ frames := 0, cells := 0, slots := 0, locals := 0 }) (gPre D [(cB, .byte), (cC, .char), (cI, .int), (cJ, .long)] [.ref a0] [(a0, .inr (12, [.ref a1, .int 0, .int 0, .int 0, .int (-1), .int 0, .int (-1), .int 0, .int (-1), .ref a2, .ref a3, .ref a4, .ref a5, .ref a6, .ref a7, .ref a8, .ref a9, .ref a10, .ref a11, .ref a12, .ref a13, .ref a14, .ref a15, .ref a16, .int 0, .int 0, .int 0, .int 0, .int 0, .int 9999, .ref a17, .ref a18, .ref a19, .int 0, .ref a20, .int 0, .ref a21, .int 0, .int 0, .ref a22, .ref a23, .ref a24, .ref a25, .int 0, .ref a26, .int 0, .ref a27, .ref a28, .ref a29, .long 0, .ref a30, .ref a31, .ref a32, .ref a33, .ref a34, .ref a35, .ref a36, .ref a37, .ref a38, .int 0, .int 0, .int 0, .long 0, .ref a39, .int 0, .ref a40, .ref a41, .ref a42, .ref a43, .int 0, .int 0, .int 0, .int 0]))] sz) (va_Qi (fun r _ => r = (-1)) (gB D (va_A [(a0, .inr (12, [.ref a1, .int 0, .int 0, .int 0, .int (-1), .int 0, .int (-1), .int 0, .int (-1), .ref a2, .ref a3, .ref a4, .ref a5, .ref a6, .ref a7, .ref a8, .ref a9, .ref a10, .ref a11, .ref a12, .ref a13, .ref a14, .ref a15, .ref a16, .int 0, .int 0, .int 0, .int 0, .int 0, .int 9999, .ref a17, .ref a18, .ref a19, .int 0, .ref a20, .int 0, .ref a21, .int 0, .int 0, .ref a22, .ref a23, .ref a24, .ref a25, .int 0, .ref a26, .int 0, .ref a27, .ref a28, .ref a29, .long 0, .ref a30, .ref a31, .ref a32, .ref a33, .ref a34, .ref a35, .ref a36, .ref a37, .ref a38, .int 0, .int 0, .int 0, .long 0, .ref a39, .int 0, .ref a40, .ref a41, .ref a42, .ref a43, .int 0, .int 0, .int 0, .int 0]))] sz) (fun u : gEx => [(a0, .inr (12, [.ref a1, .int 0, .int 0, .int 0, .int (-1), .int 0, .int (-1), .int 0, .int (-1), .ref a2, .ref a3, .ref a4, .ref a5, .ref a6, .ref a7, .ref a8, .ref a9, .ref a10, .ref a11, .ref a12, .ref a13, .ref a14, .ref a15, .ref a16, .int 0, .int 0, .int 0, .int 0, .int 0, .int 9999, .ref a17, .ref a18, .ref a19, .int 0, .ref a20, .int 0, .ref a21, .int 0, .int 0, .ref a22, .ref a23, .ref a24, .ref a25, .int 0, .ref a26, .int 0, .ref a27, .ref a28, .ref a29, .long 0, .ref a30, .ref a31, .ref a32, .ref a33, .ref a34, .ref a35, .ref a36, .ref a37, .ref a38, .int 0, .int 0, .int 0, .long 0, .ref a39, .int 0, .ref a40, .ref a41, .ref a42, .ref a43, .int 0, .int 0, .int 0, .int 0]))])) (va_A [(a0, .inr (12, [.ref a1, .int 0, .int 0, .int 0, .int (-1), .int 0, .int (-1), .int 0, .int (-1), .ref a2, .ref a3, .ref a4, .ref a5, .ref a6, .ref a7, .ref a8, .ref a9, .ref a10, .ref a11, .ref a12, .ref a13, .ref a14, .ref a15, .ref a16, .int 0, .int 0, .int 0, .int 0, .int 0, .int 9999, .ref a17, .ref a18, .ref a19, .int 0, .ref a20, .int 0, .ref a21, .int 0, .int 0, .ref a22, .ref a23, .ref a24, .ref a25, .int 0, .ref a26, .int 0, .ref a27, .ref a28, .ref a29, .long 0, .ref a30, .ref a31, .ref a32, .ref a33, .ref a34, .ref a35, .ref a36, .ref a37, .ref a38, .int 0, .int 0, .int 0, .long 0, .ref a39, .int 0, .ref a40, .ref a41, .ref a42, .ref a43, .int 0, .int 0, .int 0, .int 0]))] sz)) 0 0 (va_A [(a0, .inr (12, [.ref a1, .int 0, .int 0, .int 0, .int (-1), .int 0, .int (-1), .int 0, .int (-1), .ref a2, .ref a3, .ref a4, .ref a5, .ref a6, .ref a7, .ref a8, .ref a9, .ref a10, .ref a11, .ref a12, .ref a13, .ref a14, .ref a15, .ref a16, .int 0, .int 0, .int 0, .int 0, .int 0, .int 9999, .ref a17, .ref a18, .ref a19, .int 0, .ref a20, .int 0, .ref a21, .int 0, .int 0, .ref a22, .ref a23, .ref a24, .ref a25, .int 0, .ref a26, .int 0, .ref a27, .ref a28, .ref a29, .long 0, .ref a30, .ref a31, .ref a32, .ref a33, .ref a34, .ref a35, .ref a36, .ref a37, .ref a38, .int 0, .int 0, .int 0, .long 0, .ref a39, .int 0, .ref a40, .ref a41, .ref a42, .ref a43, .int 0, .int 0, .int 0, .int 0]))] sz) := by
  refine Met.ofW (cc := cX12_look) (maxL := 1) (ret := (some .int)) (by decide) rfl ?_
  intro p e s m args below meth c s₁ B hml hv
  obtain ⟨rfl, hsz, hP, hK, hD0, hN⟩ := hv
  have hx := B.exec
  have hb := B.bytes
  have hr := B.returns
  have hts : ∀ w ∈ lw_gd, w.before _ s = true := fun w h => atoms_spec (ws := .code yX12_look cX12_look 1 (some .int) :: lw_gd) B.pre w (List.mem_cons_of_mem _ h)
  have hown : s.vm.findClass RX12 = some m.cls := findClass_of_methodNamed B.named
  have hlocks := B.notSynchronized
  subst hsz
  have hD := hD0.self (sz := s.heap.size)
  generalize hAe : va_A [(a0, .inr (12, [.ref a1, .int 0, .int 0, .int 0, .int (-1), .int 0, .int (-1), .int 0, .int (-1), .ref a2, .ref a3, .ref a4, .ref a5, .ref a6, .ref a7, .ref a8, .ref a9, .ref a10, .ref a11, .ref a12, .ref a13, .ref a14, .ref a15, .ref a16, .int 0, .int 0, .int 0, .int 0, .int 0, .int 9999, .ref a17, .ref a18, .ref a19, .int 0, .ref a20, .int 0, .ref a21, .int 0, .int 0, .ref a22, .ref a23, .ref a24, .ref a25, .int 0, .ref a26, .int 0, .ref a27, .ref a28, .ref a29, .long 0, .ref a30, .ref a31, .ref a32, .ref a33, .ref a34, .ref a35, .ref a36, .ref a37, .ref a38, .int 0, .int 0, .int 0, .long 0, .ref a39, .int 0, .ref a40, .ref a41, .ref a42, .ref a43, .int 0, .int 0, .int 0, .int 0]))] s.heap.size = A at hD ⊢
  have hA : ∀ q : Nat, s.heap.size ≤ q → A q := fun q h => by rw [← hAe]; exact Or.inr h
  have hS : va_S A s.heap s.heap [] := va_S.rf
  have hP : va_P D gcl [(a0, .inr (12, [.ref a1, .int 0, .int 0, .int 0, .int (-1), .int 0, .int (-1), .int 0, .int (-1), .ref a2, .ref a3, .ref a4, .ref a5, .ref a6, .ref a7, .ref a8, .ref a9, .ref a10, .ref a11, .ref a12, .ref a13, .ref a14, .ref a15, .ref a16, .int 0, .int 0, .int 0, .int 0, .int 0, .int 9999, .ref a17, .ref a18, .ref a19, .int 0, .ref a20, .int 0, .ref a21, .int 0, .int 0, .ref a22, .ref a23, .ref a24, .ref a25, .int 0, .ref a26, .int 0, .ref a27, .ref a28, .ref a29, .long 0, .ref a30, .ref a31, .ref a32, .ref a33, .ref a34, .ref a35, .ref a36, .ref a37, .ref a38, .int 0, .int 0, .int 0, .long 0, .ref a39, .int 0, .ref a40, .ref a41, .ref a42, .ref a43, .int 0, .int 0, .int 0, .int 0]))] s.heap := hP
  have hl := lv_entry ([.ref a0]) (n := 1) (Nat.le_of_ble_eq_true rfl)
  rw [lg_entry_eq]
  generalize (lg_sl ([.ref a0]) ++ List.replicate (1 - (lg_sl ([.ref a0])).length) Slot.unset).toArray = ls at hl ⊢
  have hl : lv_has ls 1 [(0, .ref a0)] := hl
  refine lv_aload_n (pc := 0) hx hb dX12_look_0 rfl (lv_at hl 0 rfl) ?_
  refine va_get (pc := 1) (ci := 12) (v := .int 0) (C := RX12) (T := TX12) (N := 73) hx hb hts iX12 hown hK hP 0 rfl rfl 2 (by decide) (hts _ tw_1403) (fun _ h9 => h9) rfl dX12_look_1 ?_
  refine lv_aload_n (pc := 4) hx hb dX12_look_4 rfl (lv_at hl 0 rfl) ?_
  refine va_get (pc := 5) (ci := 12) (v := .int 0) (C := RX12) (T := TX12) (N := 73) hx hb hts iX12 hown hK hP 0 rfl rfl 3 (by decide) (hts _ tw_1404) (fun _ h9 => h9) rfl dX12_look_5 ?_
  refine lv_icmp_ge (pc := 8) (tgt := 52) hx hb dX12_look_8 (by decide) (fun _ => ?_) (fun c => absurd (by decide +kernel) c)
  refine lv_aload_n (pc := 52) hx hb dX12_look_52 rfl (lv_at hl 0 rfl) ?_
  refine va_get (pc := 53) (ci := 12) (v := .int 0) (C := RX12) (T := TX12) (N := 73) hx hb hts iX12 hown hK hP 0 rfl rfl 2 (by decide) (hts _ tw_1403) (fun _ h9 => h9) rfl dX12_look_53 ?_
  refine lv_aload_n (pc := 56) hx hb dX12_look_56 rfl (lv_at hl 0 rfl) ?_
  refine va_get (pc := 57) (ci := 12) (v := .int 0) (C := RX12) (T := TX12) (N := 73) hx hb hts iX12 hown hK hP 0 rfl rfl 3 (by decide) (hts _ tw_1404) (fun _ h9 => h9) rfl dX12_look_57 ?_
  refine lv_icmp_ge (pc := 60) (tgt := 75) hx hb dX12_look_60 (by decide) (fun _ => ?_) (fun c => absurd (by decide +kernel) c)
  refine lv_iconst (pc := 75) (v := (-1)) hx hb dX12_look_75 (by decide) ?_
  have hP9 := hP.sub (ws' := [(a0, .inr (12, [.ref a1, .int 0, .int 0, .int 0, .int (-1), .int 0, .int (-1), .int 0, .int (-1), .ref a2, .ref a3, .ref a4, .ref a5, .ref a6, .ref a7, .ref a8, .ref a9, .ref a10, .ref a11, .ref a12, .ref a13, .ref a14, .ref a15, .ref a16, .int 0, .int 0, .int 0, .int 0, .int 0, .int 9999, .ref a17, .ref a18, .ref a19, .int 0, .ref a20, .int 0, .ref a21, .int 0, .int 0, .ref a22, .ref a23, .ref a24, .ref a25, .int 0, .ref a26, .int 0, .ref a27, .ref a28, .ref a29, .long 0, .ref a30, .ref a31, .ref a32, .ref a33, .ref a34, .ref a35, .ref a36, .ref a37, .ref a38, .int 0, .int 0, .int 0, .long 0, .ref a39, .int 0, .ref a40, .ref a41, .ref a42, .ref a43, .int 0, .int 0, .int 0, .int 0]))]) [0] rfl
  have hD9 := hD.sub (ws' := [(a0, .inr (12, [.ref a1, .int 0, .int 0, .int 0, .int (-1), .int 0, .int (-1), .int 0, .int (-1), .ref a2, .ref a3, .ref a4, .ref a5, .ref a6, .ref a7, .ref a8, .ref a9, .ref a10, .ref a11, .ref a12, .ref a13, .ref a14, .ref a15, .ref a16, .int 0, .int 0, .int 0, .int 0, .int 0, .int 9999, .ref a17, .ref a18, .ref a19, .int 0, .ref a20, .int 0, .ref a21, .int 0, .int 0, .ref a22, .ref a23, .ref a24, .ref a25, .int 0, .ref a26, .int 0, .ref a27, .ref a28, .ref a29, .long 0, .ref a30, .ref a31, .ref a32, .ref a33, .ref a34, .ref a35, .ref a36, .ref a37, .ref a38, .int 0, .int 0, .int 0, .long 0, .ref a39, .int 0, .ref a40, .ref a41, .ref a42, .ref a43, .int 0, .int 0, .int 0, .int 0]))]) [0] (by decide) rfl
  refine W.widen (k := 0) (n := 0) (Nat.le_of_ble_eq_true rfl) (Nat.le_of_ble_eq_true rfl) ?_
  exact W.iret (v := (-1)) hx hb hr (fun t ht hW => ⟨⟨(-1), ((fun _ => 0), (fun _ => (fun _ => 0)), (fun _ => (fun _ => 0)), (fun _ => 0), (fun _ => 0)), rfl, rfl, by rw [ht]; exact hP9, hD9⟩, hS.F ht⟩) hS.2.2 dX12_look_76
set_option maxHeartbeats 4000000 in
set_option maxRecDepth 100000 in
theorem cc_40_yX12_isLetter (l : Launch) (D : va_G) (cB cC cI cJ : ClassId) (sz : Nat) : Met l yX12_isLetter (.code yX12_isLetter cX12_isLetter 1 (some .boolean) :: lw_gd) ({ frames := 0, cells := 0, slots := 0, locals := 0 }) (gPre D [(cB, .byte), (cC, .char), (cI, .int), (cJ, .long)] [.int (-1)] [] sz) (va_Qi (fun r _ => r = 0) (gB D (va_A [] sz) (fun u : gEx => [])) (va_A [] sz)) 0 0 (va_A [] sz) := by
  refine Met.ofW (cc := cX12_isLetter) (maxL := 1) (ret := (some .boolean)) (by decide) rfl ?_
  intro p e s m args below meth c s₁ B hml hv
  obtain ⟨rfl, hsz, hP, hK, hD0, hN⟩ := hv
  have hx := B.exec
  have hb := B.bytes
  have hr := B.returns
  have hts : ∀ w ∈ lw_gd, w.before _ s = true := fun w h => atoms_spec (ws := .code yX12_isLetter cX12_isLetter 1 (some .boolean) :: lw_gd) B.pre w (List.mem_cons_of_mem _ h)
  have hown : s.vm.findClass RX12 = some m.cls := findClass_of_methodNamed B.named
  have hlocks := B.notSynchronized
  subst hsz
  have hD := hD0.self (sz := s.heap.size)
  generalize hAe : va_A [] s.heap.size = A at hD ⊢
  have hA : ∀ q : Nat, s.heap.size ≤ q → A q := fun q h => by rw [← hAe]; exact Or.inr h
  have hS : va_S A s.heap s.heap [] := va_S.rf
  have hP : va_P D gcl [] s.heap := hP
  have hl := lv_entry ([.int (-1)]) (n := 1) (Nat.le_of_ble_eq_true rfl)
  rw [lg_entry_eq]
  generalize (lg_sl ([.int (-1)]) ++ List.replicate (1 - (lg_sl ([.int (-1)])).length) Slot.unset).toArray = ls at hl ⊢
  have hl : lv_has ls 1 [(0, .int (-1))] := hl
  refine lv_iload_n (pc := 0) hx hb dX12_isLetter_0 rfl (lv_at hl 0 rfl) ?_
  refine lv_bipush (pc := 1) (v := 97) hx hb dX12_isLetter_1 (by decide) ?_
  refine lv_icmp_lt (pc := 3) (tgt := 16) hx hb dX12_isLetter_3 (by decide) (fun _ => ?_) (fun c => absurd (by decide +kernel) c)
  refine lv_iconst (pc := 16) (v := 0) hx hb dX12_isLetter_16 (by decide) ?_
  have hP9 := hP.sub (ws' := []) [] rfl
  have hD9 := hD.sub (ws' := []) [] (by decide) rfl
  refine W.widen (k := 0) (n := 0) (Nat.le_of_ble_eq_true rfl) (Nat.le_of_ble_eq_true rfl) ?_
  exact W.zret (v := 0) hx hb hr (by decide +kernel) (fun t ht hW => ⟨⟨0, ((fun _ => 0), (fun _ => (fun _ => 0)), (fun _ => (fun _ => 0)), (fun _ => 0), (fun _ => 0)), rfl, rfl, by rw [ht]; exact hP9, hD9⟩, hS.F ht⟩) hS.2.2 dX12_isLetter_17
set_option maxHeartbeats 4000000 in
set_option maxRecDepth 100000 in
theorem cc_41_yX12_isHere (l : Launch) (D : va_G) (cB cC cI cJ : ClassId) (sz : Nat) (a0 a1 a2 a3 a4 a5 a6 a7 a8 a9 a10 a11 a12 a13 a14 a15 a16 a17 a18 a19 a20 a21 a22 a23 a24 a25 a26 a27 a28 a29 a30 a31 a32 a33 a34 a35 a36 a37 a38 a39 a40 a41 a42 a43 : Nat) : Met l yX12_isHere (.code yX12_isHere cX12_isHere 4 (some .boolean) :: lw_gd) ({ frames := 1, cells := 0, slots := 0, locals := 20 }) (gPre D [(cB, .byte), (cC, .char), (cI, .int), (cJ, .long)] [.ref a0, .ref a1] [(a0, .inr (12, [.ref a2, .int 0, .int 0, .int 0, .int (-1), .int 0, .int (-1), .int 0, .int (-1), .ref a1, .ref a3, .ref a4, .ref a5, .ref a6, .ref a7, .ref a8, .ref a9, .ref a10, .ref a11, .ref a12, .ref a13, .ref a14, .ref a15, .ref a16, .int 0, .int 0, .int 0, .int 0, .int 0, .int 9999, .ref a17, .ref a18, .ref a19, .int 0, .ref a20, .int 0, .ref a21, .int 0, .int 0, .ref a22, .ref a23, .ref a24, .ref a25, .int 0, .ref a26, .int 0, .ref a27, .ref a28, .ref a29, .long 0, .ref a30, .ref a31, .ref a32, .ref a33, .ref a34, .ref a35, .ref a36, .ref a37, .ref a38, .int 0, .int 0, .int 0, .long 0, .ref a39, .int 0, .ref a40, .ref a41, .ref a42, .ref a43, .int 0, .int 0, .int 0, .int 0]))] sz) (va_Qi (fun r _ => r = 0) (gB D (va_A [(a0, .inr (12, [.ref a2, .int 0, .int 0, .int 0, .int (-1), .int 0, .int (-1), .int 0, .int (-1), .ref a1, .ref a3, .ref a4, .ref a5, .ref a6, .ref a7, .ref a8, .ref a9, .ref a10, .ref a11, .ref a12, .ref a13, .ref a14, .ref a15, .ref a16, .int 0, .int 0, .int 0, .int 0, .int 0, .int 9999, .ref a17, .ref a18, .ref a19, .int 0, .ref a20, .int 0, .ref a21, .int 0, .int 0, .ref a22, .ref a23, .ref a24, .ref a25, .int 0, .ref a26, .int 0, .ref a27, .ref a28, .ref a29, .long 0, .ref a30, .ref a31, .ref a32, .ref a33, .ref a34, .ref a35, .ref a36, .ref a37, .ref a38, .int 0, .int 0, .int 0, .long 0, .ref a39, .int 0, .ref a40, .ref a41, .ref a42, .ref a43, .int 0, .int 0, .int 0, .int 0]))] sz) (fun u : gEx => [(a0, .inr (12, [.ref a2, .int 0, .int 0, .int 0, .int (-1), .int 0, .int (-1), .int 0, .int (-1), .ref a1, .ref a3, .ref a4, .ref a5, .ref a6, .ref a7, .ref a8, .ref a9, .ref a10, .ref a11, .ref a12, .ref a13, .ref a14, .ref a15, .ref a16, .int 0, .int 0, .int 0, .int 0, .int 0, .int 9999, .ref a17, .ref a18, .ref a19, .int 0, .ref a20, .int 0, .ref a21, .int 0, .int 0, .ref a22, .ref a23, .ref a24, .ref a25, .int 0, .ref a26, .int 0, .ref a27, .ref a28, .ref a29, .long 0, .ref a30, .ref a31, .ref a32, .ref a33, .ref a34, .ref a35, .ref a36, .ref a37, .ref a38, .int 0, .int 0, .int 0, .long 0, .ref a39, .int 0, .ref a40, .ref a41, .ref a42, .ref a43, .int 0, .int 0, .int 0, .int 0]))])) (va_A [(a0, .inr (12, [.ref a2, .int 0, .int 0, .int 0, .int (-1), .int 0, .int (-1), .int 0, .int (-1), .ref a1, .ref a3, .ref a4, .ref a5, .ref a6, .ref a7, .ref a8, .ref a9, .ref a10, .ref a11, .ref a12, .ref a13, .ref a14, .ref a15, .ref a16, .int 0, .int 0, .int 0, .int 0, .int 0, .int 9999, .ref a17, .ref a18, .ref a19, .int 0, .ref a20, .int 0, .ref a21, .int 0, .int 0, .ref a22, .ref a23, .ref a24, .ref a25, .int 0, .ref a26, .int 0, .ref a27, .ref a28, .ref a29, .long 0, .ref a30, .ref a31, .ref a32, .ref a33, .ref a34, .ref a35, .ref a36, .ref a37, .ref a38, .int 0, .int 0, .int 0, .long 0, .ref a39, .int 0, .ref a40, .ref a41, .ref a42, .ref a43, .int 0, .int 0, .int 0, .int 0]))] sz)) 0 0 (va_A [(a0, .inr (12, [.ref a2, .int 0, .int 0, .int 0, .int (-1), .int 0, .int (-1), .int 0, .int (-1), .ref a1, .ref a3, .ref a4, .ref a5, .ref a6, .ref a7, .ref a8, .ref a9, .ref a10, .ref a11, .ref a12, .ref a13, .ref a14, .ref a15, .ref a16, .int 0, .int 0, .int 0, .int 0, .int 0, .int 9999, .ref a17, .ref a18, .ref a19, .int 0, .ref a20, .int 0, .ref a21, .int 0, .int 0, .ref a22, .ref a23, .ref a24, .ref a25, .int 0, .ref a26, .int 0, .ref a27, .ref a28, .ref a29, .long 0, .ref a30, .ref a31, .ref a32, .ref a33, .ref a34, .ref a35, .ref a36, .ref a37, .ref a38, .int 0, .int 0, .int 0, .long 0, .ref a39, .int 0, .ref a40, .ref a41, .ref a42, .ref a43, .int 0, .int 0, .int 0, .int 0]))] sz) := by
  refine Met.ofW (cc := cX12_isHere) (maxL := 4) (ret := (some .boolean)) (by decide) rfl ?_
  intro p e s m args below meth c s₁ B hml hv
  obtain ⟨rfl, hsz, hP, hK, hD0, hN⟩ := hv
  have hx := B.exec
  have hb := B.bytes
  have hr := B.returns
  have hts : ∀ w ∈ lw_gd, w.before _ s = true := fun w h => atoms_spec (ws := .code yX12_isHere cX12_isHere 4 (some .boolean) :: lw_gd) B.pre w (List.mem_cons_of_mem _ h)
  have hown : s.vm.findClass RX12 = some m.cls := findClass_of_methodNamed B.named
  have hlocks := B.notSynchronized
  subst hsz
  have hD := hD0.self (sz := s.heap.size)
  generalize hAe : va_A [(a0, .inr (12, [.ref a2, .int 0, .int 0, .int 0, .int (-1), .int 0, .int (-1), .int 0, .int (-1), .ref a1, .ref a3, .ref a4, .ref a5, .ref a6, .ref a7, .ref a8, .ref a9, .ref a10, .ref a11, .ref a12, .ref a13, .ref a14, .ref a15, .ref a16, .int 0, .int 0, .int 0, .int 0, .int 0, .int 9999, .ref a17, .ref a18, .ref a19, .int 0, .ref a20, .int 0, .ref a21, .int 0, .int 0, .ref a22, .ref a23, .ref a24, .ref a25, .int 0, .ref a26, .int 0, .ref a27, .ref a28, .ref a29, .long 0, .ref a30, .ref a31, .ref a32, .ref a33, .ref a34, .ref a35, .ref a36, .ref a37, .ref a38, .int 0, .int 0, .int 0, .long 0, .ref a39, .int 0, .ref a40, .ref a41, .ref a42, .ref a43, .int 0, .int 0, .int 0, .int 0]))] s.heap.size = A at hD ⊢
  have hA : ∀ q : Nat, s.heap.size ≤ q → A q := fun q h => by rw [← hAe]; exact Or.inr h
  have hS : va_S A s.heap s.heap [] := va_S.rf
  have hP : va_P D gcl [(a0, .inr (12, [.ref a2, .int 0, .int 0, .int 0, .int (-1), .int 0, .int (-1), .int 0, .int (-1), .ref a1, .ref a3, .ref a4, .ref a5, .ref a6, .ref a7, .ref a8, .ref a9, .ref a10, .ref a11, .ref a12, .ref a13, .ref a14, .ref a15, .ref a16, .int 0, .int 0, .int 0, .int 0, .int 0, .int 9999, .ref a17, .ref a18, .ref a19, .int 0, .ref a20, .int 0, .ref a21, .int 0, .int 0, .ref a22, .ref a23, .ref a24, .ref a25, .int 0, .ref a26, .int 0, .ref a27, .ref a28, .ref a29, .long 0, .ref a30, .ref a31, .ref a32, .ref a33, .ref a34, .ref a35, .ref a36, .ref a37, .ref a38, .int 0, .int 0, .int 0, .long 0, .ref a39, .int 0, .ref a40, .ref a41, .ref a42, .ref a43, .int 0, .int 0, .int 0, .int 0]))] s.heap := hP
  have hl := lv_entry ([.ref a0, .ref a1]) (n := 4) (Nat.le_of_ble_eq_true rfl)
  rw [lg_entry_eq]
  generalize (lg_sl ([.ref a0, .ref a1]) ++ List.replicate (4 - (lg_sl ([.ref a0, .ref a1])).length) Slot.unset).toArray = ls at hl ⊢
  have hl : lv_has ls 4 [(0, .ref a0), (1, .ref a1)] := hl
  refine lv_aload_n (pc := 0) hx hb dX12_isHere_0 rfl (lv_at hl 0 rfl) ?_
  refine va_get (pc := 1) (ci := 12) (v := .int 0) (C := RX12) (T := TX12) (N := 73) hx hb hts iX12 hown hK hP 0 rfl rfl 5 (by decide) (hts _ tw_1406) (fun _ h9 => h9) rfl dX12_isHere_1 ?_
  refine lv_if_ne (pc := 4) (tgt := 28) hx hb dX12_isHere_4 (by decide) (fun c => absurd (by decide +kernel) c) (fun _ => ?_)
  refine lv_aload_n (pc := 7) hx hb dX12_isHere_7 rfl (lv_at hl 0 rfl) ?_
  refine gc_i (pc := 8) (wc := [(a0, .inr (12, [.ref a2, .int 0, .int 0, .int 0, .int (-1), .int 0, .int (-1), .int 0, .int (-1), .ref a1, .ref a3, .ref a4, .ref a5, .ref a6, .ref a7, .ref a8, .ref a9, .ref a10, .ref a11, .ref a12, .ref a13, .ref a14, .ref a15, .ref a16, .int 0, .int 0, .int 0, .int 0, .int 0, .int 9999, .ref a17, .ref a18, .ref a19, .int 0, .ref a20, .int 0, .ref a21, .int 0, .int 0, .ref a22, .ref a23, .ref a24, .ref a25, .int 0, .ref a26, .int 0, .ref a27, .ref a28, .ref a29, .long 0, .ref a30, .ref a31, .ref a32, .ref a33, .ref a34, .ref a35, .ref a36, .ref a37, .ref a38, .int 0, .int 0, .int 0, .long 0, .ref a39, .int 0, .ref a40, .ref a41, .ref a42, .ref a43, .int 0, .int 0, .int 0, .int 0]))]) (wr := []) hP hD hS hA [0] [] rfl rfl (by decide) (by decide) (by decide) (fun hPc hDc => va_runV (As := []) (rest := []) ⟨hx, hb, hml, hown, hts⟩ (cc_39_yX12_look l D cB cC cI cJ _ a0 a2 a1 a3 a4 a5 a6 a7 a8 a9 a10 a11 a12 a13 a14 a15 a16 a17 a18 a19 a20 a21 a22 a23 a24 a25 a26 a27 a28 a29 a30 a31 a32 a33 a34 a35 a36 a37 a38 a39 a40 a41 a42 a43) ⟨gcwB hts tw_1649 tw_14 tw_1646 hd_yX12_look ⟨Nat.le_of_ble_eq_true rfl, Nat.le_of_ble_eq_true rfl⟩, hts _ tw_1648, hts _ tp_61⟩ ⟨gblind, va_recv hK hPc (ci := 12) (q0 := 0) rfl rfl, (gpreS hPc hK hDc hN).2⟩ rfl rfl hl.1 rfl (lv_room (Nat.le_of_ble_eq_true rfl)) dX12_isHere_8 ⟨Nat.le_of_ble_eq_true rfl, Nat.le_of_ble_eq_true rfl⟩) (fun r_2 u_1 H locs hw_3 hP hD hS => ?_)
  have hP : va_P D gcl [(a0, .inr (12, [.ref a2, .int 0, .int 0, .int 0, .int (-1), .int 0, .int (-1), .int 0, .int (-1), .ref a1, .ref a3, .ref a4, .ref a5, .ref a6, .ref a7, .ref a8, .ref a9, .ref a10, .ref a11, .ref a12, .ref a13, .ref a14, .ref a15, .ref a16, .int 0, .int 0, .int 0, .int 0, .int 0, .int 9999, .ref a17, .ref a18, .ref a19, .int 0, .ref a20, .int 0, .ref a21, .int 0, .int 0, .ref a22, .ref a23, .ref a24, .ref a25, .int 0, .ref a26, .int 0, .ref a27, .ref a28, .ref a29, .long 0, .ref a30, .ref a31, .ref a32, .ref a33, .ref a34, .ref a35, .ref a36, .ref a37, .ref a38, .int 0, .int 0, .int 0, .long 0, .ref a39, .int 0, .ref a40, .ref a41, .ref a42, .ref a43, .int 0, .int 0, .int 0, .int 0]))] H := hP
  have hD : va_D A [(a0, .inr (12, [.ref a2, .int 0, .int 0, .int 0, .int (-1), .int 0, .int (-1), .int 0, .int (-1), .ref a1, .ref a3, .ref a4, .ref a5, .ref a6, .ref a7, .ref a8, .ref a9, .ref a10, .ref a11, .ref a12, .ref a13, .ref a14, .ref a15, .ref a16, .int 0, .int 0, .int 0, .int 0, .int 0, .int 9999, .ref a17, .ref a18, .ref a19, .int 0, .ref a20, .int 0, .ref a21, .int 0, .int 0, .ref a22, .ref a23, .ref a24, .ref a25, .int 0, .ref a26, .int 0, .ref a27, .ref a28, .ref a29, .long 0, .ref a30, .ref a31, .ref a32, .ref a33, .ref a34, .ref a35, .ref a36, .ref a37, .ref a38, .int 0, .int 0, .int 0, .long 0, .ref a39, .int 0, .ref a40, .ref a41, .ref a42, .ref a43, .int 0, .int 0, .int 0, .int 0]))] := hD
  subst hw_3
  refine gc_i (pc := 11) (wc := []) (wr := [(a0, .inr (12, [.ref a2, .int 0, .int 0, .int 0, .int (-1), .int 0, .int (-1), .int 0, .int (-1), .ref a1, .ref a3, .ref a4, .ref a5, .ref a6, .ref a7, .ref a8, .ref a9, .ref a10, .ref a11, .ref a12, .ref a13, .ref a14, .ref a15, .ref a16, .int 0, .int 0, .int 0, .int 0, .int 0, .int 9999, .ref a17, .ref a18, .ref a19, .int 0, .ref a20, .int 0, .ref a21, .int 0, .int 0, .ref a22, .ref a23, .ref a24, .ref a25, .int 0, .ref a26, .int 0, .ref a27, .ref a28, .ref a29, .long 0, .ref a30, .ref a31, .ref a32, .ref a33, .ref a34, .ref a35, .ref a36, .ref a37, .ref a38, .int 0, .int 0, .int 0, .long 0, .ref a39, .int 0, .ref a40, .ref a41, .ref a42, .ref a43, .int 0, .int 0, .int 0, .int 0]))]) hP hD hS hA [] [0] rfl rfl (by decide) (by decide) (by decide) (fun hPc hDc => va_runS (As := [.int (-1)]) (rest := []) ⟨hx, hb, hml, hown, hts⟩ (cc_40_yX12_isLetter l D cB cC cI cJ _) ⟨gcwB hts tw_1652 tw_14 tw_1650 hd_yX12_isLetter ⟨Nat.le_of_ble_eq_true rfl, Nat.le_of_ble_eq_true rfl⟩, hts _ tw_1651⟩ (gpreS hPc hK hDc hN) rfl rfl hl.1 rfl (lv_room (Nat.le_of_ble_eq_true rfl)) dX12_isHere_11 ⟨Nat.le_of_ble_eq_true rfl, Nat.le_of_ble_eq_true rfl⟩) (fun r_5 u_4 H locs hw_6 hP hD hS => ?_)
  have hP : va_P D gcl [(a0, .inr (12, [.ref a2, .int 0, .int 0, .int 0, .int (-1), .int 0, .int (-1), .int 0, .int (-1), .ref a1, .ref a3, .ref a4, .ref a5, .ref a6, .ref a7, .ref a8, .ref a9, .ref a10, .ref a11, .ref a12, .ref a13, .ref a14, .ref a15, .ref a16, .int 0, .int 0, .int 0, .int 0, .int 0, .int 9999, .ref a17, .ref a18, .ref a19, .int 0, .ref a20, .int 0, .ref a21, .int 0, .int 0, .ref a22, .ref a23, .ref a24, .ref a25, .int 0, .ref a26, .int 0, .ref a27, .ref a28, .ref a29, .long 0, .ref a30, .ref a31, .ref a32, .ref a33, .ref a34, .ref a35, .ref a36, .ref a37, .ref a38, .int 0, .int 0, .int 0, .long 0, .ref a39, .int 0, .ref a40, .ref a41, .ref a42, .ref a43, .int 0, .int 0, .int 0, .int 0]))] H := hP
  have hD : va_D A [(a0, .inr (12, [.ref a2, .int 0, .int 0, .int 0, .int (-1), .int 0, .int (-1), .int 0, .int (-1), .ref a1, .ref a3, .ref a4, .ref a5, .ref a6, .ref a7, .ref a8, .ref a9, .ref a10, .ref a11, .ref a12, .ref a13, .ref a14, .ref a15, .ref a16, .int 0, .int 0, .int 0, .int 0, .int 0, .int 9999, .ref a17, .ref a18, .ref a19, .int 0, .ref a20, .int 0, .ref a21, .int 0, .int 0, .ref a22, .ref a23, .ref a24, .ref a25, .int 0, .ref a26, .int 0, .ref a27, .ref a28, .ref a29, .long 0, .ref a30, .ref a31, .ref a32, .ref a33, .ref a34, .ref a35, .ref a36, .ref a37, .ref a38, .int 0, .int 0, .int 0, .long 0, .ref a39, .int 0, .ref a40, .ref a41, .ref a42, .ref a43, .int 0, .int 0, .int 0, .int 0]))] := hD
  subst hw_6
  refine lv_if_eq (pc := 14) (tgt := 28) hx hb dX12_isHere_14 (by decide) (fun _ => ?_) (fun c => absurd (by decide +kernel) c)
  refine lv_iconst (pc := 28) (v := 0) hx hb dX12_isHere_28 (by decide) ?_
  have hP9 := hP.sub (ws' := [(a0, .inr (12, [.ref a2, .int 0, .int 0, .int 0, .int (-1), .int 0, .int (-1), .int 0, .int (-1), .ref a1, .ref a3, .ref a4, .ref a5, .ref a6, .ref a7, .ref a8, .ref a9, .ref a10, .ref a11, .ref a12, .ref a13, .ref a14, .ref a15, .ref a16, .int 0, .int 0, .int 0, .int 0, .int 0, .int 9999, .ref a17, .ref a18, .ref a19, .int 0, .ref a20, .int 0, .ref a21, .int 0, .int 0, .ref a22, .ref a23, .ref a24, .ref a25, .int 0, .ref a26, .int 0, .ref a27, .ref a28, .ref a29, .long 0, .ref a30, .ref a31, .ref a32, .ref a33, .ref a34, .ref a35, .ref a36, .ref a37, .ref a38, .int 0, .int 0, .int 0, .long 0, .ref a39, .int 0, .ref a40, .ref a41, .ref a42, .ref a43, .int 0, .int 0, .int 0, .int 0]))]) [0] rfl
  have hD9 := hD.sub (ws' := [(a0, .inr (12, [.ref a2, .int 0, .int 0, .int 0, .int (-1), .int 0, .int (-1), .int 0, .int (-1), .ref a1, .ref a3, .ref a4, .ref a5, .ref a6, .ref a7, .ref a8, .ref a9, .ref a10, .ref a11, .ref a12, .ref a13, .ref a14, .ref a15, .ref a16, .int 0, .int 0, .int 0, .int 0, .int 0, .int 9999, .ref a17, .ref a18, .ref a19, .int 0, .ref a20, .int 0, .ref a21, .int 0, .int 0, .ref a22, .ref a23, .ref a24, .ref a25, .int 0, .ref a26, .int 0, .ref a27, .ref a28, .ref a29, .long 0, .ref a30, .ref a31, .ref a32, .ref a33, .ref a34, .ref a35, .ref a36, .ref a37, .ref a38, .int 0, .int 0, .int 0, .long 0, .ref a39, .int 0, .ref a40, .ref a41, .ref a42, .ref a43, .int 0, .int 0, .int 0, .int 0]))]) [0] (by decide) rfl
  refine W.widen (k := 0) (n := 0) (Nat.le_of_ble_eq_true rfl) (Nat.le_of_ble_eq_true rfl) ?_
  exact W.zret (v := 0) hx hb hr (by decide +kernel) (fun t ht hW => ⟨⟨0, ((fun _ => 0), (fun _ => (fun _ => 0)), (fun _ => (fun _ => 0)), (fun _ => 0), (fun _ => 0)), rfl, rfl, by rw [ht]; exact hP9, hD9⟩, hS.F ht⟩) hS.2.2 dX12_isHere_29
