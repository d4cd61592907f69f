set_option maxHeartbeats 4000000 in
set_option maxRecDepth 100000 in
theorem cc_1_yX9_init (l : Launch) (D : va_G) (cB cC cI cJ : ClassId) (sz : Nat) (a0 : Nat) : Met l yX9_init (.code yX9_init cX9_init 1 none :: lw_gd) ({ frames := 1, cells := 1, slots := 1600, locals := 12 }) (gPre D [(cB, .byte), (cC, .char), (cI, .int), (cJ, .long)] [.ref a0] [(a0, .inr (9, [.null, .int 0]))] sz) (va_Qv (fun _ => True) (gB D (va_A [(a0, .inr (9, [.null, .int 0]))] sz) (fun u : gEx => [(a0, .inr (9, [.ref (u.1 0), .int 0])), ((u.1 0), .inl (cB, 1600, .inl (fun _ => 0)))])) (va_A [(a0, .inr (9, [.null, .int 0]))] sz)) 1 1600 (va_A [(a0, .inr (9, [.null, .int 0]))] sz) := by
  refine Met.ofW (cc := cX9_init) (maxL := 1) (ret := none) (by decide) rfl ?_
  intro p e s m args below meth c s₁ B hml hv
  obtain ⟨rfl, hsz, hP, hK, hD0, hN⟩ := hv
  have hx := B.exec
  have hb := B.bytes
  have hr := B.returns
  have hts : ∀ w ∈ lw_gd, w.before _ s = true := fun w h => atoms_spec (ws := .code yX9_init cX9_init 1 none :: lw_gd) B.pre w (List.mem_cons_of_mem _ h)
  have hown : s.vm.findClass RX9 = some m.cls := findClass_of_methodNamed B.named
  have hlocks := B.notSynchronized
  have hin : meth.name = "<init>" := (name_of_methodNamed B.named B.method).1
  subst hsz
  have hD := hD0.self (sz := s.heap.size)
  generalize hAe : va_A [(a0, .inr (9, [.null, .int 0]))] s.heap.size = A at hD ⊢
  have hA : ∀ q : Nat, s.heap.size ≤ q → A q := fun q h => by rw [← hAe]; exact Or.inr h
  have hS : va_S A s.heap s.heap [] := va_S.rf
  replace hP : va_P D gcl [(a0, .inr (9, [.null, .int 0]))] s.heap := hP
  have hl := lv_entry ([.ref a0]) (n := 1) (Nat.le_of_ble_eq_true rfl)
  rw [lg_entry_eq]
  generalize (lg_sl ([.ref a0]) ++ List.replicate (1 - (lg_sl ([.ref a0])).length) Slot.unset).toArray = ls at hl ⊢
  replace hl : lv_has ls 1 [(0, .ref a0)] := hl
  refine lv_aload_n (pc := 0) hx hb dX9_init_0 rfl (lv_at hl 0 rfl) ?_
  refine W.objInit hx hb hown (hts _ tw_41) (hts _ tw_28) (hts _ tw_29) rfl (by rw [hml]; exact hl.1) rfl dX9_init_1 (Nat.le_of_ble_eq_true rfl) (Nat.le_of_ble_eq_true rfl) ?_
  refine W.eq (g2 := F0 m 4 ls []) rfl ?_
  refine lv_aload_n (pc := 4) hx hb dX9_init_4 rfl (lv_at hl 0 rfl) ?_
  refine lv_sipush (pc := 5) (v := 1600) hx hb dX9_init_5 (by decide) ?_
  refine g_newa (pc := 8) (atype := .byte) (ty := .byte) (a0 := (1600, .inl (fun _ => 0))) (N' := 1600) hx hb (hts _ tw_49) rfl (fun _ h => h) hK 0 rfl hP hD hS hA (fun _ => rfl) (by decide +kernel) (by decide +kernel) (by decide +kernel) (Nat.le_of_ble_eq_true rfl) (Nat.le_of_ble_eq_true rfl) dX9_init_8 (fun q_1 H hP hD hS => ?_)
  replace hP : va_P D gcl [(a0, .inr (9, [.null, .int 0])), (q_1, .inl (cB, 1600, .inl (fun _ => 0)))] H := hP
  replace hD : va_D A [(a0, .inr (9, [.null, .int 0])), (q_1, .inl (cB, 1600, .inl (fun _ => 0)))] := hD
  refine va_putF (pc := 10) (ci := 9) (v := .ref q_1) (ty := (.array .byte)) (C := RX9) (T := TX9) (N := 2) hx hb hts iX9 tyX9 tyX9_ok nmX9 hown hK hP hD hS 0 rfl rfl 0 (by decide) (hts _ tw_42) (fun _ h9 => h9) rfl hin rfl (by decide +kernel) rfl rfl (Nat.le_of_ble_eq_true rfl) dX9_init_10 (fun H locs hP hD hS => ?_)
  replace hP : va_P D gcl [(a0, .inr (9, [.ref q_1, .int 0])), (q_1, .inl (cB, 1600, .inl (fun _ => 0)))] H := hP
  replace hD : va_D A [(a0, .inr (9, [.ref q_1, .int 0])), (q_1, .inl (cB, 1600, .inl (fun _ => 0)))] := hD
  refine lv_aload_n (pc := 13) hx hb dX9_init_13 rfl (lv_at hl 0 rfl) ?_
  refine lv_iconst (pc := 14) (v := 0) hx hb dX9_init_14 (by decide) ?_
  as_aux_lemma =>
    refine va_put (pc := 15) (ci := 9) (v := .int 0) (ty := .int) (C := RX9) (T := TX9) (N := 2) hx hb hts iX9 tyX9 tyX9_ok nmX9 hown hK hP hD hS 0 rfl rfl 1 (by decide) (hts _ tw_43) (fun _ h9 => h9) rfl (by decide +kernel) (by decide +kernel) (by decide +kernel) (Nat.le_of_ble_eq_true rfl) dX9_init_15 (fun H locs hP hD hS => ?_)
    replace hP : va_P D gcl [(a0, .inr (9, [.ref q_1, .int 0])), (q_1, .inl (cB, 1600, .inl (fun _ => 0)))] H := hP
    replace hD : va_D A [(a0, .inr (9, [.ref q_1, .int 0])), (q_1, .inl (cB, 1600, .inl (fun _ => 0)))] := hD
    have hP9 := hP.sub (ws' := [(a0, .inr (9, [.ref q_1, .int 0])), (q_1, .inl (cB, 1600, .inl (fun _ => 0)))]) [0, 1] rfl
    have hD9 := hD.sub (ws' := [(a0, .inr (9, [.ref q_1, .int 0])), (q_1, .inl (cB, 1600, .inl (fun _ => 0)))]) [0, 1] (by decide) rfl
    refine W.widen (k := 1) (n := 1600) (Nat.le_of_ble_eq_true rfl) (Nat.le_of_ble_eq_true rfl) ?_
    exact W.vret hx hb hr (fun t ht hW => ⟨⟨((fun k => [q_1].getD k 0), (fun _ => (fun _ => 0)), (fun _ => (fun _ => 0)), (fun _ => 0), (fun _ => 0)), rfl, trivial, by rw [ht]; exact hP9, hD9⟩, hS.F ht⟩) hS.2.2 dX9_init_18
set_option maxHeartbeats 4000000 in
set_option maxRecDepth 100000 in
theorem cc_2_yX8_init (l : Launch) (D : va_G) (cB cC cI cJ : ClassId) (sz : Nat) (a0 : Nat) : Met l yX8_init (.code yX8_init cX8_init 1 none :: lw_gd) ({ frames := 1, cells := 1, slots := 30, locals := 12 }) (gPre D [(cB, .byte), (cC, .char), (cI, .int), (cJ, .long)] [.ref a0] [(a0, .inr (8, [.null]))] sz) (va_Qv (fun _ => True) (gB D (va_A [(a0, .inr (8, [.null]))] sz) (fun u : gEx => [(a0, .inr (8, [.ref (u.1 0)])), ((u.1 0), .inl (cI, 30, .inl (fun _ => 0)))])) (va_A [(a0, .inr (8, [.null]))] sz)) 1 30 (va_A [(a0, .inr (8, [.null]))] sz) := by
  refine Met.ofW (cc := cX8_init) (maxL := 1) (ret := none) (by decide) rfl ?_
  intro p e s m args below meth c s₁ B hml hv
  obtain ⟨rfl, hsz, hP, hK, hD0, hN⟩ := hv
  have hx := B.exec
  have hb := B.bytes
  have hr := B.returns
  have hts : ∀ w ∈ lw_gd, w.before _ s = true := fun w h => atoms_spec (ws := .code yX8_init cX8_init 1 none :: lw_gd) B.pre w (List.mem_cons_of_mem _ h)
  have hown : s.vm.findClass RX8 = some m.cls := findClass_of_methodNamed B.named
  have hlocks := B.notSynchronized
  have hin : meth.name = "<init>" := (name_of_methodNamed B.named B.method).1
  subst hsz
  have hD := hD0.self (sz := s.heap.size)
  generalize hAe : va_A [(a0, .inr (8, [.null]))] s.heap.size = A at hD ⊢
  have hA : ∀ q : Nat, s.heap.size ≤ q → A q := fun q h => by rw [← hAe]; exact Or.inr h
  have hS : va_S A s.heap s.heap [] := va_S.rf
  replace hP : va_P D gcl [(a0, .inr (8, [.null]))] s.heap := hP
  have hl := lv_entry ([.ref a0]) (n := 1) (Nat.le_of_ble_eq_true rfl)
  rw [lg_entry_eq]
  generalize (lg_sl ([.ref a0]) ++ List.replicate (1 - (lg_sl ([.ref a0])).length) Slot.unset).toArray = ls at hl ⊢
  replace hl : lv_has ls 1 [(0, .ref a0)] := hl
  refine lv_aload_n (pc := 0) hx hb dX8_init_0 rfl (lv_at hl 0 rfl) ?_
  refine W.objInit hx hb hown (hts _ tw_61) (hts _ tw_28) (hts _ tw_29) rfl (by rw [hml]; exact hl.1) rfl dX8_init_1 (Nat.le_of_ble_eq_true rfl) (Nat.le_of_ble_eq_true rfl) ?_
  refine W.eq (g2 := F0 m 4 ls []) rfl ?_
  refine lv_aload_n (pc := 4) hx hb dX8_init_4 rfl (lv_at hl 0 rfl) ?_
  refine lv_bipush (pc := 5) (v := 30) hx hb dX8_init_5 (by decide) ?_
  refine g_newa (pc := 7) (atype := .int) (ty := .int) (a0 := (30, .inl (fun _ => 0))) (N' := 30) hx hb (hts _ tw_66) rfl (fun _ h => h) hK 2 rfl hP hD hS hA (fun _ => rfl) (by decide +kernel) (by decide +kernel) (by decide +kernel) (Nat.le_of_ble_eq_true rfl) (Nat.le_of_ble_eq_true rfl) dX8_init_7 (fun q_1 H hP hD hS => ?_)
  replace hP : va_P D gcl [(a0, .inr (8, [.null])), (q_1, .inl (cI, 30, .inl (fun _ => 0)))] H := hP
  replace hD : va_D A [(a0, .inr (8, [.null])), (q_1, .inl (cI, 30, .inl (fun _ => 0)))] := hD
  refine va_putF (pc := 9) (ci := 8) (v := .ref q_1) (ty := (.array .int)) (C := RX8) (T := TX8) (N := 1) hx hb hts iX8 tyX8 tyX8_ok nmX8 hown hK hP hD hS 0 rfl rfl 0 (by decide) (hts _ tw_62) (fun _ h9 => h9) rfl hin rfl (by decide +kernel) rfl rfl (Nat.le_of_ble_eq_true rfl) dX8_init_9 (fun H locs hP hD hS => ?_)
  replace hP : va_P D gcl [(a0, .inr (8, [.ref q_1])), (q_1, .inl (cI, 30, .inl (fun _ => 0)))] H := hP
  replace hD : va_D A [(a0, .inr (8, [.ref q_1])), (q_1, .inl (cI, 30, .inl (fun _ => 0)))] := hD
  have hP9 := hP.sub (ws' := [(a0, .inr (8, [.ref q_1])), (q_1, .inl (cI, 30, .inl (fun _ => 0)))]) [0, 1] rfl
  have hD9 := hD.sub (ws' := [(a0, .inr (8, [.ref q_1])), (q_1, .inl (cI, 30, .inl (fun _ => 0)))]) [0, 1] (by decide) rfl
  refine W.widen (k := 1) (n := 30) (Nat.le_of_ble_eq_true rfl) (Nat.le_of_ble_eq_true rfl) ?_
  exact W.vret hx hb hr (fun t ht hW => ⟨⟨((fun k => [q_1].getD k 0), (fun _ => (fun _ => 0)), (fun _ => (fun _ => 0)), (fun _ => 0), (fun _ => 0)), rfl, trivial, by rw [ht]; exact hP9, hD9⟩, hS.F ht⟩) hS.2.2 dX8_init_12
set_option maxHeartbeats 4000000 in
set_option maxRecDepth 100000 in
theorem cc_3_yX5_init (l : Launch) (D : va_G) (cB cC cI cJ : ClassId) (sz : Nat) (a0 : Nat) : Met l yX5_init (.code yX5_init cX5_init 1 none :: lw_gd) ({ frames := 1, cells := 5, slots := 1688, locals := 12 }) (gPre D [(cB, .byte), (cC, .char), (cI, .int), (cJ, .long)] [.ref a0] [(a0, .inr (5, [.null, .null, .null, .null, .null, .int 0, .int 0]))] sz) (va_Qv (fun _ => True) (gB D (va_A [(a0, .inr (5, [.null, .null, .null, .null, .null, .int 0, .int 0]))] sz) (fun u : gEx => (zS_179 cB cC cI cJ a0 (u.1 0) (u.1 1) (u.1 2) (u.1 3) (u.1 4) 0 0 (u.1 0) (fun _ => 0) (u.1 1) (fun _ => 0) (u.1 2) (fun _ => 0) (u.1 3) (fun _ => 0) (u.1 4) (fun _ => 0)))) (va_A [(a0, .inr (5, [.null, .null, .null, .null, .null, .int 0, .int 0]))] sz)) 5 1688 (va_A [(a0, .inr (5, [.null, .null, .null, .null, .null, .int 0, .int 0]))] sz) := by
  refine Met.ofW (cc := cX5_init) (maxL := 1) (ret := none) (by decide) rfl ?_
  intro p e s m args below meth c s₁ B hml hv
  obtain ⟨rfl, hsz, hP, hK, hD0, hN⟩ := hv
  have hx := B.exec
  have hb := B.bytes
  have hr := B.returns
  have hts : ∀ w ∈ lw_gd, w.before _ s = true := fun w h => atoms_spec (ws := .code yX5_init cX5_init 1 none :: lw_gd) B.pre w (List.mem_cons_of_mem _ h)
  have hown : s.vm.findClass RX5 = some m.cls := findClass_of_methodNamed B.named
  have hlocks := B.notSynchronized
  have hin : meth.name = "<init>" := (name_of_methodNamed B.named B.method).1
  subst hsz
  have hD := hD0.self (sz := s.heap.size)
  generalize hAe : va_A [(a0, .inr (5, [.null, .null, .null, .null, .null, .int 0, .int 0]))] s.heap.size = A at hD ⊢
  have hA : ∀ q : Nat, s.heap.size ≤ q → A q := fun q h => by rw [← hAe]; exact Or.inr h
  have hS : va_S A s.heap s.heap [] := va_S.rf
  replace hP : va_P D gcl [(a0, .inr (5, [.null, .null, .null, .null, .null, .int 0, .int 0]))] s.heap := hP
  have hl := lv_entry ([.ref a0]) (n := 1) (Nat.le_of_ble_eq_true rfl)
  rw [lg_entry_eq]
  generalize (lg_sl ([.ref a0]) ++ List.replicate (1 - (lg_sl ([.ref a0])).length) Slot.unset).toArray = ls at hl ⊢
  replace hl : lv_has ls 1 [(0, .ref a0)] := hl
  refine lv_aload_n (pc := 0) hx hb dX5_init_0 rfl (lv_at hl 0 rfl) ?_
  refine W.objInit hx hb hown (hts _ tw_72) (hts _ tw_28) (hts _ tw_29) rfl (by rw [hml]; exact hl.1) rfl dX5_init_1 (Nat.le_of_ble_eq_true rfl) (Nat.le_of_ble_eq_true rfl) ?_
  refine W.eq (g2 := F0 m 4 ls []) rfl ?_
  refine lv_aload_n (pc := 4) hx hb dX5_init_4 rfl (lv_at hl 0 rfl) ?_
  refine lv_sipush (pc := 5) (v := 1600) hx hb dX5_init_5 (by decide) ?_
  refine g_newa (pc := 8) (atype := .int) (ty := .int) (a0 := (1600, .inl (fun _ => 0))) (N' := 1600) hx hb (hts _ tw_66) rfl (fun _ h => h) hK 2 rfl hP hD hS hA (fun _ => rfl) (by decide +kernel) (by decide +kernel) (by decide +kernel) (Nat.le_of_ble_eq_true rfl) (Nat.le_of_ble_eq_true rfl) dX5_init_8 (fun q_1 H hP hD hS => ?_)
  replace hP : va_P D gcl [(a0, .inr (5, [.null, .null, .null, .null, .null, .int 0, .int 0])), (q_1, .inl (cI, 1600, .inl (fun _ => 0)))] H := hP
  replace hD : va_D A [(a0, .inr (5, [.null, .null, .null, .null, .null, .int 0, .int 0])), (q_1, .inl (cI, 1600, .inl (fun _ => 0)))] := hD
  refine va_putF (pc := 10) (ci := 5) (v := .ref q_1) (ty := (.array .int)) (C := RX5) (T := TX5) (N := 7) hx hb hts iX5 tyX5 tyX5_ok nmX5 hown hK hP hD hS 0 rfl rfl 0 (by decide) (hts _ tw_73) (fun _ h9 => h9) rfl hin rfl (by decide +kernel) rfl rfl (Nat.le_of_ble_eq_true rfl) dX5_init_10 (fun H locs hP hD hS => ?_)
  replace hP : va_P D gcl [(a0, .inr (5, [.ref q_1, .null, .null, .null, .null, .int 0, .int 0])), (q_1, .inl (cI, 1600, .inl (fun _ => 0)))] H := hP
  replace hD : va_D A [(a0, .inr (5, [.ref q_1, .null, .null, .null, .null, .int 0, .int 0])), (q_1, .inl (cI, 1600, .inl (fun _ => 0)))] := hD
  refine lv_aload_n (pc := 13) hx hb dX5_init_13 rfl (lv_at hl 0 rfl) ?_
  refine lv_bipush (pc := 14) (v := 8) hx hb dX5_init_14 (by decide) ?_
  as_aux_lemma =>
    refine g_newa (pc := 16) (atype := .int) (ty := .int) (a0 := (8, .inl (fun _ => 0))) (N' := 8) hx hb (hts _ tw_66) rfl (fun _ h => h) hK 2 rfl hP hD hS hA (fun _ => rfl) (by decide +kernel) (by decide +kernel) (by decide +kernel) (Nat.le_of_ble_eq_true rfl) (Nat.le_of_ble_eq_true rfl) dX5_init_16 (fun q_2 H hP hD hS => ?_)
    replace hP : va_P D gcl [(a0, .inr (5, [.ref q_1, .null, .null, .null, .null, .int 0, .int 0])), (q_1, .inl (cI, 1600, .inl (fun _ => 0))), (q_2, .inl (cI, 8, .inl (fun _ => 0)))] H := hP
    replace hD : va_D A [(a0, .inr (5, [.ref q_1, .null, .null, .null, .null, .int 0, .int 0])), (q_1, .inl (cI, 1600, .inl (fun _ => 0))), (q_2, .inl (cI, 8, .inl (fun _ => 0)))] := hD
    refine va_putF (pc := 18) (ci := 5) (v := .ref q_2) (ty := (.array .int)) (C := RX5) (T := TX5) (N := 7) hx hb hts iX5 tyX5 tyX5_ok nmX5 hown hK hP hD hS 0 rfl rfl 1 (by decide) (hts _ tw_74) (fun _ h9 => h9) rfl hin rfl (by decide +kernel) rfl rfl (Nat.le_of_ble_eq_true rfl) dX5_init_18 (fun H locs hP hD hS => ?_)
    replace hP : va_P D gcl [(a0, .inr (5, [.ref q_1, .ref q_2, .null, .null, .null, .int 0, .int 0])), (q_1, .inl (cI, 1600, .inl (fun _ => 0))), (q_2, .inl (cI, 8, .inl (fun _ => 0)))] H := hP
    replace hD : va_D A [(a0, .inr (5, [.ref q_1, .ref q_2, .null, .null, .null, .int 0, .int 0])), (q_1, .inl (cI, 1600, .inl (fun _ => 0))), (q_2, .inl (cI, 8, .inl (fun _ => 0)))] := hD
    refine lv_aload_n (pc := 21) hx hb dX5_init_21 rfl (lv_at hl 0 rfl) ?_
    refine lv_bipush (pc := 22) (v := 8) hx hb dX5_init_22 (by decide) ?_
    refine g_newa (pc := 24) (atype := .int) (ty := .int) (a0 := (8, .inl (fun _ => 0))) (N' := 8) hx hb (hts _ tw_66) rfl (fun _ h => h) hK 2 rfl hP hD hS hA (fun _ => rfl) (by decide +kernel) (by decide +kernel) (by decide +kernel) (Nat.le_of_ble_eq_true rfl) (Nat.le_of_ble_eq_true rfl) dX5_init_24 (fun q_3 H hP hD hS => ?_)
    replace hP : va_P D gcl [(a0, .inr (5, [.ref q_1, .ref q_2, .null, .null, .null, .int 0, .int 0])), (q_1, .inl (cI, 1600, .inl (fun _ => 0))), (q_2, .inl (cI, 8, .inl (fun _ => 0))), (q_3, .inl (cI, 8, .inl (fun _ => 0)))] H := hP
    replace hD : va_D A [(a0, .inr (5, [.ref q_1, .ref q_2, .null, .null, .null, .int 0, .int 0])), (q_1, .inl (cI, 1600, .inl (fun _ => 0))), (q_2, .inl (cI, 8, .inl (fun _ => 0))), (q_3, .inl (cI, 8, .inl (fun _ => 0)))] := hD
    refine va_putF (pc := 26) (ci := 5) (v := .ref q_3) (ty := (.array .int)) (C := RX5) (T := TX5) (N := 7) hx hb hts iX5 tyX5 tyX5_ok nmX5 hown hK hP hD hS 0 rfl rfl 2 (by decide) (hts _ tw_75) (fun _ h9 => h9) rfl hin rfl (by decide +kernel) rfl rfl (Nat.le_of_ble_eq_true rfl) dX5_init_26 (fun H locs hP hD hS => ?_)
    replace hP : va_P D gcl [(a0, .inr (5, [.ref q_1, .ref q_2, .ref q_3, .null, .null, .int 0, .int 0])), (q_1, .inl (cI, 1600, .inl (fun _ => 0))), (q_2, .inl (cI, 8, .inl (fun _ => 0))), (q_3, .inl (cI, 8, .inl (fun _ => 0)))] H := hP
    replace hD : va_D A [(a0, .inr (5, [.ref q_1, .ref q_2, .ref q_3, .null, .null, .int 0, .int 0])), (q_1, .inl (cI, 1600, .inl (fun _ => 0))), (q_2, .inl (cI, 8, .inl (fun _ => 0))), (q_3, .inl (cI, 8, .inl (fun _ => 0)))] := hD
    refine lv_aload_n (pc := 29) hx hb dX5_init_29 rfl (lv_at hl 0 rfl) ?_
    refine lv_bipush (pc := 30) (v := 8) hx hb dX5_init_30 (by decide) ?_
    refine g_newa (pc := 32) (atype := .int) (ty := .int) (a0 := (8, .inl (fun _ => 0))) (N' := 8) hx hb (hts _ tw_66) rfl (fun _ h => h) hK 2 rfl hP hD hS hA (fun _ => rfl) (by decide +kernel) (by decide +kernel) (by decide +kernel) (Nat.le_of_ble_eq_true rfl) (Nat.le_of_ble_eq_true rfl) dX5_init_32 (fun q_4 H hP hD hS => ?_)
    replace hP : va_P D gcl [(a0, .inr (5, [.ref q_1, .ref q_2, .ref q_3, .null, .null, .int 0, .int 0])), (q_1, .inl (cI, 1600, .inl (fun _ => 0))), (q_2, .inl (cI, 8, .inl (fun _ => 0))), (q_3, .inl (cI, 8, .inl (fun _ => 0))), (q_4, .inl (cI, 8, .inl (fun _ => 0)))] H := hP
    replace hD : va_D A [(a0, .inr (5, [.ref q_1, .ref q_2, .ref q_3, .null, .null, .int 0, .int 0])), (q_1, .inl (cI, 1600, .inl (fun _ => 0))), (q_2, .inl (cI, 8, .inl (fun _ => 0))), (q_3, .inl (cI, 8, .inl (fun _ => 0))), (q_4, .inl (cI, 8, .inl (fun _ => 0)))] := hD
    refine va_putF (pc := 34) (ci := 5) (v := .ref q_4) (ty := (.array .int)) (C := RX5) (T := TX5) (N := 7) hx hb hts iX5 tyX5 tyX5_ok nmX5 hown hK hP hD hS 0 rfl rfl 3 (by decide) (hts _ tw_76) (fun _ h9 => h9) rfl hin rfl (by decide +kernel) rfl rfl (Nat.le_of_ble_eq_true rfl) dX5_init_34 (fun H locs hP hD hS => ?_)
    replace hP : va_P D gcl [(a0, .inr (5, [.ref q_1, .ref q_2, .ref q_3, .ref q_4, .null, .int 0, .int 0])), (q_1, .inl (cI, 1600, .inl (fun _ => 0))), (q_2, .inl (cI, 8, .inl (fun _ => 0))), (q_3, .inl (cI, 8, .inl (fun _ => 0))), (q_4, .inl (cI, 8, .inl (fun _ => 0)))] H := hP
    replace hD : va_D A [(a0, .inr (5, [.ref q_1, .ref q_2, .ref q_3, .ref q_4, .null, .int 0, .int 0])), (q_1, .inl (cI, 1600, .inl (fun _ => 0))), (q_2, .inl (cI, 8, .inl (fun _ => 0))), (q_3, .inl (cI, 8, .inl (fun _ => 0))), (q_4, .inl (cI, 8, .inl (fun _ => 0)))] := hD
    as_aux_lemma =>
      refine lv_aload_n (pc := 37) hx hb dX5_init_37 rfl (lv_at hl 0 rfl) ?_
      refine lv_bipush (pc := 38) (v := 64) hx hb dX5_init_38 (by decide) ?_
      refine g_newa (pc := 40) (atype := .int) (ty := .int) (a0 := (64, .inl (fun _ => 0))) (N' := 64) hx hb (hts _ tw_66) rfl (fun _ h => h) hK 2 rfl hP hD hS hA (fun _ => rfl) (by decide +kernel) (by decide +kernel) (by decide +kernel) (Nat.le_of_ble_eq_true rfl) (Nat.le_of_ble_eq_true rfl) dX5_init_40 (fun q_5 H hP hD hS => ?_)
      replace hP : va_P D gcl [(a0, .inr (5, [.ref q_1, .ref q_2, .ref q_3, .ref q_4, .null, .int 0, .int 0])), (q_1, .inl (cI, 1600, .inl (fun _ => 0))), (q_2, .inl (cI, 8, .inl (fun _ => 0))), (q_3, .inl (cI, 8, .inl (fun _ => 0))), (q_4, .inl (cI, 8, .inl (fun _ => 0))), (q_5, .inl (cI, 64, .inl (fun _ => 0)))] H := hP
      replace hD : va_D A [(a0, .inr (5, [.ref q_1, .ref q_2, .ref q_3, .ref q_4, .null, .int 0, .int 0])), (q_1, .inl (cI, 1600, .inl (fun _ => 0))), (q_2, .inl (cI, 8, .inl (fun _ => 0))), (q_3, .inl (cI, 8, .inl (fun _ => 0))), (q_4, .inl (cI, 8, .inl (fun _ => 0))), (q_5, .inl (cI, 64, .inl (fun _ => 0)))] := hD
      refine va_putF (pc := 42) (ci := 5) (v := .ref q_5) (ty := (.array .int)) (C := RX5) (T := TX5) (N := 7) hx hb hts iX5 tyX5 tyX5_ok nmX5 hown hK hP hD hS 0 rfl rfl 4 (by decide) (hts _ tw_77) (fun _ h9 => h9) rfl hin rfl (by decide +kernel) rfl rfl (Nat.le_of_ble_eq_true rfl) dX5_init_42 (fun H locs hP hD hS => ?_)
      replace hP : va_P D gcl (zS_179 cB cC cI cJ a0 q_1 q_2 q_3 q_4 q_5 0 0 q_1 (fun _ => 0) q_2 (fun _ => 0) q_3 (fun _ => 0) q_4 (fun _ => 0) q_5 (fun _ => 0)) H := hP
      replace hD : va_D A (zS_179 cB cC cI cJ a0 q_1 q_2 q_3 q_4 q_5 0 0 q_1 (fun _ => 0) q_2 (fun _ => 0) q_3 (fun _ => 0) q_4 (fun _ => 0) q_5 (fun _ => 0)) := hD
      refine lv_aload_n (pc := 45) hx hb dX5_init_45 rfl (lv_at hl 0 rfl) ?_
      refine lv_iconst (pc := 46) (v := 0) hx hb dX5_init_46 (by decide) ?_
      refine va_put (pc := 47) (ci := 5) (v := .int 0) (ty := .int) (C := RX5) (T := TX5) (N := 7) hx hb hts iX5 tyX5 tyX5_ok nmX5 hown hK hP hD hS 0 rfl rfl 5 (by decide) (hts _ tw_78) (fun _ h9 => h9) rfl (by decide +kernel) (by decide +kernel) (by decide +kernel) (Nat.le_of_ble_eq_true rfl) dX5_init_47 (fun H locs hP hD hS => ?_)
      replace hP : va_P D gcl (zS_179 cB cC cI cJ a0 q_1 q_2 q_3 q_4 q_5 0 0 q_1 (fun _ => 0) q_2 (fun _ => 0) q_3 (fun _ => 0) q_4 (fun _ => 0) q_5 (fun _ => 0)) H := hP
      replace hD : va_D A (zS_179 cB cC cI cJ a0 q_1 q_2 q_3 q_4 q_5 0 0 q_1 (fun _ => 0) q_2 (fun _ => 0) q_3 (fun _ => 0) q_4 (fun _ => 0) q_5 (fun _ => 0)) := hD
      refine lv_aload_n (pc := 50) hx hb dX5_init_50 rfl (lv_at hl 0 rfl) ?_
      refine lv_iconst (pc := 51) (v := 0) hx hb dX5_init_51 (by decide) ?_
      refine va_put (pc := 52) (ci := 5) (v := .int 0) (ty := .int) (C := RX5) (T := TX5) (N := 7) hx hb hts iX5 tyX5 tyX5_ok nmX5 hown hK hP hD hS 0 rfl rfl 6 (by decide) (hts _ tw_79) (fun _ h9 => h9) rfl (by decide +kernel) (by decide +kernel) (by decide +kernel) (Nat.le_of_ble_eq_true rfl) dX5_init_52 (fun H locs hP hD hS => ?_)
      replace hP : va_P D gcl (zS_179 cB cC cI cJ a0 q_1 q_2 q_3 q_4 q_5 0 0 q_1 (fun _ => 0) q_2 (fun _ => 0) q_3 (fun _ => 0) q_4 (fun _ => 0) q_5 (fun _ => 0)) H := hP
      replace hD : va_D A (zS_179 cB cC cI cJ a0 q_1 q_2 q_3 q_4 q_5 0 0 q_1 (fun _ => 0) q_2 (fun _ => 0) q_3 (fun _ => 0) q_4 (fun _ => 0) q_5 (fun _ => 0)) := hD
      have hP9 := hP.sub (ws' := (zS_179 cB cC cI cJ a0 q_1 q_2 q_3 q_4 q_5 0 0 q_1 (fun _ => 0) q_2 (fun _ => 0) q_3 (fun _ => 0) q_4 (fun _ => 0) q_5 (fun _ => 0))) [0, 1, 2, 3, 4, 5] rfl
      have hD9 := hD.sub (ws' := (zS_179 cB cC cI cJ a0 q_1 q_2 q_3 q_4 q_5 0 0 q_1 (fun _ => 0) q_2 (fun _ => 0) q_3 (fun _ => 0) q_4 (fun _ => 0) q_5 (fun _ => 0))) [0, 1, 2, 3, 4, 5] (by decide) rfl
      as_aux_lemma =>
        refine W.widen (k := 5) (n := 1688) (Nat.le_of_ble_eq_true rfl) (Nat.le_of_ble_eq_true rfl) ?_
        exact W.vret hx hb hr (fun t ht hW => ⟨⟨((fun k => [q_1, q_2, q_3, q_4, q_5].getD k 0), (fun _ => (fun _ => 0)), (fun _ => (fun _ => 0)), (fun _ => 0), (fun _ => 0)), rfl, trivial, by rw [ht]; exact hP9, hD9⟩, hS.F ht⟩) hS.2.2 dX5_init_55
set_option maxHeartbeats 4000000 in
set_option maxRecDepth 100000 in
theorem cc_4_yX1_init (l : Launch) (D : va_G) (cB cC cI cJ : ClassId) (sz : Nat) (a0 : Nat) : Met l yX1_init (.code yX1_init cX1_init 1 none :: lw_gd) ({ frames := 2, cells := 9, slots := 1806, locals := 32 }) (gPre D [(cB, .byte), (cC, .char), (cI, .int), (cJ, .long)] [.ref a0] (zS_180 cB cC cI cJ a0 0 0 0 0 0 0 0) sz) (va_Qv (fun _ => True) (gB D (va_A (zS_180 cB cC cI cJ a0 0 0 0 0 0 0 0) sz) (fun u : gEx => (zS_125 cB cC cI cJ a0 (u.1 0) (u.1 2) (u.1 8) 0 0 0 0 0 9999 0 (u.1 0) (u.1 1) (u.1 1) (fun _ => 0) (u.1 2) (u.1 3) (u.1 4) (u.1 5) (u.1 6) (u.1 7) 0 0 (u.1 3) (fun _ => 0) (u.1 4) (fun _ => 0) (u.1 5) (fun _ => 0) (u.1 6) (fun _ => 0) (u.1 7) (fun _ => 0) (u.1 8) (fun _ => 0)))) (va_A (zS_180 cB cC cI cJ a0 0 0 0 0 0 0 0) sz)) 9 1806 (va_A (zS_180 cB cC cI cJ a0 0 0 0 0 0 0 0) sz) := by
  refine Met.ofW (cc := cX1_init) (maxL := 1) (ret := none) (by decide) rfl ?_
  intro p e s m args below meth c s₁ B hml hv
  obtain ⟨rfl, hsz, hP, hK, hD0, hN⟩ := hv
  have hx := B.exec
  have hb := B.bytes
  have hr := B.returns
  have hts : ∀ w ∈ lw_gd, w.before _ s = true := fun w h => atoms_spec (ws := .code yX1_init cX1_init 1 none :: lw_gd) B.pre w (List.mem_cons_of_mem _ h)
  have hown : s.vm.findClass RX1 = some m.cls := findClass_of_methodNamed B.named
  have hlocks := B.notSynchronized
  have hin : meth.name = "<init>" := (name_of_methodNamed B.named B.method).1
  subst hsz
  have hD := hD0.self (sz := s.heap.size)
  generalize hAe : va_A (zS_180 cB cC cI cJ a0 0 0 0 0 0 0 0) s.heap.size = A at hD ⊢
  have hA : ∀ q : Nat, s.heap.size ≤ q → A q := fun q h => by rw [← hAe]; exact Or.inr h
  have hS : va_S A s.heap s.heap [] := va_S.rf
  replace hP : va_P D gcl (zS_180 cB cC cI cJ a0 0 0 0 0 0 0 0) s.heap := hP
  have hl := lv_entry ([.ref a0]) (n := 1) (Nat.le_of_ble_eq_true rfl)
  rw [lg_entry_eq]
  generalize (lg_sl ([.ref a0]) ++ List.replicate (1 - (lg_sl ([.ref a0])).length) Slot.unset).toArray = ls at hl ⊢
  replace hl : lv_has ls 1 [(0, .ref a0)] := hl
  refine lv_aload_n (pc := 0) hx hb dX1_init_0 rfl (lv_at hl 0 rfl) ?_
  refine W.objInit hx hb hown (hts _ tw_55) (hts _ tw_28) (hts _ tw_29) rfl (by rw [hml]; exact hl.1) rfl dX1_init_1 (Nat.le_of_ble_eq_true rfl) (Nat.le_of_ble_eq_true rfl) ?_
  refine W.eq (g2 := F0 m 4 ls []) rfl ?_
  refine lv_aload_n (pc := 4) hx hb dX1_init_4 rfl (lv_at hl 0 rfl) ?_
  refine va_new (pc := 5) (ci := 8) (fs := [.null]) (C := RX8) (T := TX8) (N := 1) hx hb hts iX8 tyX8 tyX8_ok hown (hts _ tw_56) (hts _ tw_57) (hts _ tw_5) hK hP hD hS hA rfl (gdv_X8) (Nat.le_of_ble_eq_true rfl) (Nat.le_of_ble_eq_true rfl) dX1_init_5 (fun q_1 H hP hD hS => ?_)
  replace hP : va_P D gcl [(a0, .inr (1, [.null, .null, .null, .int 0, .int 0, .int 0, .int 0, .int 0, .int 0, .int 0])), (q_1, .inr (8, [.null]))] H := hP
  replace hD : va_D A [(a0, .inr (1, [.null, .null, .null, .int 0, .int 0, .int 0, .int 0, .int 0, .int 0, .int 0])), (q_1, .inr (8, [.null]))] := hD
  refine lv_dup (pc := 8) hx hb dX1_init_8 rfl ?_
  refine gc_v (pc := 9) (wc := [(q_1, .inr (8, [.null]))]) (wr := (zS_180 cB cC cI cJ a0 0 0 0 0 0 0 0)) hP hD hS hA [1] [0] rfl rfl (by decide) (by decide) (by decide) (fun hPc hDc => va_runIN (As := []) (rest := [.ref q_1, .ref a0]) ⟨hx, hb, hml, hown, hts⟩ (cc_2_yX8_init l D cB cC cI cJ _ q_1) ⟨gcwN hts tw_60 tw_5 (hN _ tn_58) hd_yX8_init ⟨Nat.le_of_ble_eq_true rfl, Nat.le_of_ble_eq_true rfl⟩, rfl, hts _ tw_59⟩ (gpreS hPc hK hDc hN) rfl rfl hl.1 rfl (lv_room (Nat.le_of_ble_eq_true rfl)) dX1_init_9 ⟨Nat.le_of_ble_eq_true rfl, Nat.le_of_ble_eq_true rfl⟩) (fun u_2 H locs hw_4 hP hD hS => ?_)
  replace hP : va_P D gcl [(a0, .inr (1, [.null, .null, .null, .int 0, .int 0, .int 0, .int 0, .int 0, .int 0, .int 0])), (q_1, .inr (8, [.ref (u_2.1 0)])), ((u_2.1 0), .inl (cI, 30, .inl (fun _ => 0)))] H := hP
  replace hD : va_D A [(a0, .inr (1, [.null, .null, .null, .int 0, .int 0, .int 0, .int 0, .int 0, .int 0, .int 0])), (q_1, .inr (8, [.ref (u_2.1 0)])), ((u_2.1 0), .inl (cI, 30, .inl (fun _ => 0)))] := hD
  refine va_putF (pc := 12) (ci := 1) (v := .ref q_1) (ty := (.object "ManyOut$Table")) (C := RX1) (T := TX1) (N := 10) hx hb hts iX1 tyX1 tyX1_ok nmX1 hown hK hP hD hS 0 rfl rfl 0 (by decide) (hts _ tw_97) (fun _ h9 => h9) rfl hin rfl (by decide +kernel) rfl rfl (Nat.le_of_ble_eq_true rfl) dX1_init_12 (fun H locs hP hD hS => ?_)
  replace hP : va_P D gcl [(a0, .inr (1, [.ref q_1, .null, .null, .int 0, .int 0, .int 0, .int 0, .int 0, .int 0, .int 0])), (q_1, .inr (8, [.ref (u_2.1 0)])), ((u_2.1 0), .inl (cI, 30, .inl (fun _ => 0)))] H := hP
  replace hD : va_D A [(a0, .inr (1, [.ref q_1, .null, .null, .int 0, .int 0, .int 0, .int 0, .int 0, .int 0, .int 0])), (q_1, .inr (8, [.ref (u_2.1 0)])), ((u_2.1 0), .inl (cI, 30, .inl (fun _ => 0)))] := hD
  refine lv_aload_n (pc := 15) hx hb dX1_init_15 rfl (lv_at hl 0 rfl) ?_
  as_aux_lemma =>
    refine va_new (pc := 16) (ci := 5) (fs := [.null, .null, .null, .null, .null, .int 0, .int 0]) (C := RX5) (T := TX5) (N := 7) hx hb hts iX5 tyX5 tyX5_ok hown (hts _ tw_67) (hts _ tw_68) (hts _ tw_6) hK hP hD hS hA rfl (gdv_X5) (Nat.le_of_ble_eq_true rfl) (Nat.le_of_ble_eq_true rfl) dX1_init_16 (fun q_5 H hP hD hS => ?_)
    replace hP : va_P D gcl [(a0, .inr (1, [.ref q_1, .null, .null, .int 0, .int 0, .int 0, .int 0, .int 0, .int 0, .int 0])), (q_1, .inr (8, [.ref (u_2.1 0)])), ((u_2.1 0), .inl (cI, 30, .inl (fun _ => 0))), (q_5, .inr (5, [.null, .null, .null, .null, .null, .int 0, .int 0]))] H := hP
    replace hD : va_D A [(a0, .inr (1, [.ref q_1, .null, .null, .int 0, .int 0, .int 0, .int 0, .int 0, .int 0, .int 0])), (q_1, .inr (8, [.ref (u_2.1 0)])), ((u_2.1 0), .inl (cI, 30, .inl (fun _ => 0))), (q_5, .inr (5, [.null, .null, .null, .null, .null, .int 0, .int 0]))] := hD
    refine lv_dup (pc := 19) hx hb dX1_init_19 rfl ?_
    refine gc_v (pc := 20) (wc := [(q_5, .inr (5, [.null, .null, .null, .null, .null, .int 0, .int 0]))]) (wr := [(a0, .inr (1, [.ref q_1, .null, .null, .int 0, .int 0, .int 0, .int 0, .int 0, .int 0, .int 0])), (q_1, .inr (8, [.ref (u_2.1 0)])), ((u_2.1 0), .inl (cI, 30, .inl (fun _ => 0)))]) hP hD hS hA [3] [0, 1, 2] rfl rfl (by decide) (by decide) (by decide) (fun hPc hDc => va_runIN (As := []) (rest := [.ref q_5, .ref a0]) ⟨hx, hb, hml, hown, hts⟩ (cc_3_yX5_init l D cB cC cI cJ _ q_5) ⟨gcwN hts tw_71 tw_6 (hN _ tn_69) hd_yX5_init ⟨Nat.le_of_ble_eq_true rfl, Nat.le_of_ble_eq_true rfl⟩, rfl, hts _ tw_70⟩ (gpreS hPc hK hDc hN) rfl rfl hl.1 rfl (lv_room (Nat.le_of_ble_eq_true rfl)) dX1_init_20 ⟨Nat.le_of_ble_eq_true rfl, Nat.le_of_ble_eq_true rfl⟩) (fun u_6 H locs hw_8 hP hD hS => ?_)
    replace hP : va_P D gcl [(a0, .inr (1, [.ref q_1, .null, .null, .int 0, .int 0, .int 0, .int 0, .int 0, .int 0, .int 0])), (q_1, .inr (8, [.ref (u_2.1 0)])), ((u_2.1 0), .inl (cI, 30, .inl (fun _ => 0))), (q_5, .inr (5, [.ref (u_6.1 0), .ref (u_6.1 1), .ref (u_6.1 2), .ref (u_6.1 3), .ref (u_6.1 4), .int 0, .int 0])), ((u_6.1 0), .inl (cI, 1600, .inl (fun _ => 0))), ((u_6.1 1), .inl (cI, 8, .inl (fun _ => 0))), ((u_6.1 2), .inl (cI, 8, .inl (fun _ => 0))), ((u_6.1 3), .inl (cI, 8, .inl (fun _ => 0))), ((u_6.1 4), .inl (cI, 64, .inl (fun _ => 0)))] H := hP
    replace hD : va_D A [(a0, .inr (1, [.ref q_1, .null, .null, .int 0, .int 0, .int 0, .int 0, .int 0, .int 0, .int 0])), (q_1, .inr (8, [.ref (u_2.1 0)])), ((u_2.1 0), .inl (cI, 30, .inl (fun _ => 0))), (q_5, .inr (5, [.ref (u_6.1 0), .ref (u_6.1 1), .ref (u_6.1 2), .ref (u_6.1 3), .ref (u_6.1 4), .int 0, .int 0])), ((u_6.1 0), .inl (cI, 1600, .inl (fun _ => 0))), ((u_6.1 1), .inl (cI, 8, .inl (fun _ => 0))), ((u_6.1 2), .inl (cI, 8, .inl (fun _ => 0))), ((u_6.1 3), .inl (cI, 8, .inl (fun _ => 0))), ((u_6.1 4), .inl (cI, 64, .inl (fun _ => 0)))] := hD
    refine va_putF (pc := 23) (ci := 1) (v := .ref q_5) (ty := (.object "ManyOut$Rules")) (C := RX1) (T := TX1) (N := 10) hx hb hts iX1 tyX1 tyX1_ok nmX1 hown hK hP hD hS 0 rfl rfl 1 (by decide) (hts _ tw_105) (fun _ h9 => h9) rfl hin rfl (by decide +kernel) rfl rfl (Nat.le_of_ble_eq_true rfl) dX1_init_23 (fun H locs hP hD hS => ?_)
    replace hP : va_P D gcl [(a0, .inr (1, [.ref q_1, .ref q_5, .null, .int 0, .int 0, .int 0, .int 0, .int 0, .int 0, .int 0])), (q_1, .inr (8, [.ref (u_2.1 0)])), ((u_2.1 0), .inl (cI, 30, .inl (fun _ => 0))), (q_5, .inr (5, [.ref (u_6.1 0), .ref (u_6.1 1), .ref (u_6.1 2), .ref (u_6.1 3), .ref (u_6.1 4), .int 0, .int 0])), ((u_6.1 0), .inl (cI, 1600, .inl (fun _ => 0))), ((u_6.1 1), .inl (cI, 8, .inl (fun _ => 0))), ((u_6.1 2), .inl (cI, 8, .inl (fun _ => 0))), ((u_6.1 3), .inl (cI, 8, .inl (fun _ => 0))), ((u_6.1 4), .inl (cI, 64, .inl (fun _ => 0)))] H := hP
    replace hD : va_D A [(a0, .inr (1, [.ref q_1, .ref q_5, .null, .int 0, .int 0, .int 0, .int 0, .int 0, .int 0, .int 0])), (q_1, .inr (8, [.ref (u_2.1 0)])), ((u_2.1 0), .inl (cI, 30, .inl (fun _ => 0))), (q_5, .inr (5, [.ref (u_6.1 0), .ref (u_6.1 1), .ref (u_6.1 2), .ref (u_6.1 3), .ref (u_6.1 4), .int 0, .int 0])), ((u_6.1 0), .inl (cI, 1600, .inl (fun _ => 0))), ((u_6.1 1), .inl (cI, 8, .inl (fun _ => 0))), ((u_6.1 2), .inl (cI, 8, .inl (fun _ => 0))), ((u_6.1 3), .inl (cI, 8, .inl (fun _ => 0))), ((u_6.1 4), .inl (cI, 64, .inl (fun _ => 0)))] := hD
    refine lv_aload_n (pc := 26) hx hb dX1_init_26 rfl (lv_at hl 0 rfl) ?_
    refine lv_bipush (pc := 27) (v := 80) hx hb dX1_init_27 (by decide) ?_
    refine g_newa (pc := 29) (atype := .int) (ty := .int) (a0 := (80, .inl (fun _ => 0))) (N' := 80) hx hb (hts _ tw_66) rfl (fun _ h => h) hK 2 rfl hP hD hS hA (fun _ => rfl) (by decide +kernel) (by decide +kernel) (by decide +kernel) (Nat.le_of_ble_eq_true rfl) (Nat.le_of_ble_eq_true rfl) dX1_init_29 (fun q_9 H hP hD hS => ?_)
    replace hP : va_P D gcl [(a0, .inr (1, [.ref q_1, .ref q_5, .null, .int 0, .int 0, .int 0, .int 0, .int 0, .int 0, .int 0])), (q_1, .inr (8, [.ref (u_2.1 0)])), ((u_2.1 0), .inl (cI, 30, .inl (fun _ => 0))), (q_5, .inr (5, [.ref (u_6.1 0), .ref (u_6.1 1), .ref (u_6.1 2), .ref (u_6.1 3), .ref (u_6.1 4), .int 0, .int 0])), ((u_6.1 0), .inl (cI, 1600, .inl (fun _ => 0))), ((u_6.1 1), .inl (cI, 8, .inl (fun _ => 0))), ((u_6.1 2), .inl (cI, 8, .inl (fun _ => 0))), ((u_6.1 3), .inl (cI, 8, .inl (fun _ => 0))), ((u_6.1 4), .inl (cI, 64, .inl (fun _ => 0))), (q_9, .inl (cI, 80, .inl (fun _ => 0)))] H := hP
    replace hD : va_D A [(a0, .inr (1, [.ref q_1, .ref q_5, .null, .int 0, .int 0, .int 0, .int 0, .int 0, .int 0, .int 0])), (q_1, .inr (8, [.ref (u_2.1 0)])), ((u_2.1 0), .inl (cI, 30, .inl (fun _ => 0))), (q_5, .inr (5, [.ref (u_6.1 0), .ref (u_6.1 1), .ref (u_6.1 2), .ref (u_6.1 3), .ref (u_6.1 4), .int 0, .int 0])), ((u_6.1 0), .inl (cI, 1600, .inl (fun _ => 0))), ((u_6.1 1), .inl (cI, 8, .inl (fun _ => 0))), ((u_6.1 2), .inl (cI, 8, .inl (fun _ => 0))), ((u_6.1 3), .inl (cI, 8, .inl (fun _ => 0))), ((u_6.1 4), .inl (cI, 64, .inl (fun _ => 0))), (q_9, .inl (cI, 80, .inl (fun _ => 0)))] := hD
    refine va_putF (pc := 31) (ci := 1) (v := .ref q_9) (ty := (.array .int)) (C := RX1) (T := TX1) (N := 10) hx hb hts iX1 tyX1 tyX1_ok nmX1 hown hK hP hD hS 0 rfl rfl 2 (by decide) (hts _ tw_108) (fun _ h9 => h9) rfl hin rfl (by decide +kernel) rfl rfl (Nat.le_of_ble_eq_true rfl) dX1_init_31 (fun H locs hP hD hS => ?_)
    replace hP : va_P D gcl (zS_125 cB cC cI cJ a0 q_1 q_5 q_9 0 0 0 0 0 0 0 q_1 (u_2.1 0) (u_2.1 0) (fun _ => 0) q_5 (u_6.1 0) (u_6.1 1) (u_6.1 2) (u_6.1 3) (u_6.1 4) 0 0 (u_6.1 0) (fun _ => 0) (u_6.1 1) (fun _ => 0) (u_6.1 2) (fun _ => 0) (u_6.1 3) (fun _ => 0) (u_6.1 4) (fun _ => 0) q_9 (fun _ => 0)) H := hP
    replace hD : va_D A (zS_125 cB cC cI cJ a0 q_1 q_5 q_9 0 0 0 0 0 0 0 q_1 (u_2.1 0) (u_2.1 0) (fun _ => 0) q_5 (u_6.1 0) (u_6.1 1) (u_6.1 2) (u_6.1 3) (u_6.1 4) 0 0 (u_6.1 0) (fun _ => 0) (u_6.1 1) (fun _ => 0) (u_6.1 2) (fun _ => 0) (u_6.1 3) (fun _ => 0) (u_6.1 4) (fun _ => 0) q_9 (fun _ => 0)) := hD
    refine lv_aload_n (pc := 34) hx hb dX1_init_34 rfl (lv_at hl 0 rfl) ?_
    refine lv_iconst (pc := 35) (v := 0) hx hb dX1_init_35 (by decide) ?_
    as_aux_lemma =>
      refine va_put (pc := 36) (ci := 1) (v := .int 0) (ty := .int) (C := RX1) (T := TX1) (N := 10) hx hb hts iX1 tyX1 tyX1_ok nmX1 hown hK hP hD hS 0 rfl rfl 3 (by decide) (hts _ tw_110) (fun _ h9 => h9) rfl (by decide +kernel) (by decide +kernel) (by decide +kernel) (Nat.le_of_ble_eq_true rfl) dX1_init_36 (fun H locs hP hD hS => ?_)
      replace hP : va_P D gcl (zS_125 cB cC cI cJ a0 q_1 q_5 q_9 0 0 0 0 0 0 0 q_1 (u_2.1 0) (u_2.1 0) (fun _ => 0) q_5 (u_6.1 0) (u_6.1 1) (u_6.1 2) (u_6.1 3) (u_6.1 4) 0 0 (u_6.1 0) (fun _ => 0) (u_6.1 1) (fun _ => 0) (u_6.1 2) (fun _ => 0) (u_6.1 3) (fun _ => 0) (u_6.1 4) (fun _ => 0) q_9 (fun _ => 0)) H := hP
      replace hD : va_D A (zS_125 cB cC cI cJ a0 q_1 q_5 q_9 0 0 0 0 0 0 0 q_1 (u_2.1 0) (u_2.1 0) (fun _ => 0) q_5 (u_6.1 0) (u_6.1 1) (u_6.1 2) (u_6.1 3) (u_6.1 4) 0 0 (u_6.1 0) (fun _ => 0) (u_6.1 1) (fun _ => 0) (u_6.1 2) (fun _ => 0) (u_6.1 3) (fun _ => 0) (u_6.1 4) (fun _ => 0) q_9 (fun _ => 0)) := hD
      refine lv_aload_n (pc := 39) hx hb dX1_init_39 rfl (lv_at hl 0 rfl) ?_
      refine lv_iconst (pc := 40) (v := 0) hx hb dX1_init_40 (by decide) ?_
      refine va_put (pc := 41) (ci := 1) (v := .int 0) (ty := .int) (C := RX1) (T := TX1) (N := 10) hx hb hts iX1 tyX1 tyX1_ok nmX1 hown hK hP hD hS 0 rfl rfl 4 (by decide) (hts _ tw_116) (fun _ h9 => h9) rfl (by decide +kernel) (by decide +kernel) (by decide +kernel) (Nat.le_of_ble_eq_true rfl) dX1_init_41 (fun H locs hP hD hS => ?_)
      replace hP : va_P D gcl (zS_125 cB cC cI cJ a0 q_1 q_5 q_9 0 0 0 0 0 0 0 q_1 (u_2.1 0) (u_2.1 0) (fun _ => 0) q_5 (u_6.1 0) (u_6.1 1) (u_6.1 2) (u_6.1 3) (u_6.1 4) 0 0 (u_6.1 0) (fun _ => 0) (u_6.1 1) (fun _ => 0) (u_6.1 2) (fun _ => 0) (u_6.1 3) (fun _ => 0) (u_6.1 4) (fun _ => 0) q_9 (fun _ => 0)) H := hP
      replace hD : va_D A (zS_125 cB cC cI cJ a0 q_1 q_5 q_9 0 0 0 0 0 0 0 q_1 (u_2.1 0) (u_2.1 0) (fun _ => 0) q_5 (u_6.1 0) (u_6.1 1) (u_6.1 2) (u_6.1 3) (u_6.1 4) 0 0 (u_6.1 0) (fun _ => 0) (u_6.1 1) (fun _ => 0) (u_6.1 2) (fun _ => 0) (u_6.1 3) (fun _ => 0) (u_6.1 4) (fun _ => 0) q_9 (fun _ => 0)) := hD
      refine lv_aload_n (pc := 44) hx hb dX1_init_44 rfl (lv_at hl 0 rfl) ?_
      refine lv_iconst (pc := 45) (v := 0) hx hb dX1_init_45 (by decide) ?_
      refine va_put (pc := 46) (ci := 1) (v := .int 0) (ty := .int) (C := RX1) (T := TX1) (N := 10) hx hb hts iX1 tyX1 tyX1_ok nmX1 hown hK hP hD hS 0 rfl rfl 5 (by decide) (hts _ tw_125) (fun _ h9 => h9) rfl (by decide +kernel) (by decide +kernel) (by decide +kernel) (Nat.le_of_ble_eq_true rfl) dX1_init_46 (fun H locs hP hD hS => ?_)
      replace hP : va_P D gcl (zS_125 cB cC cI cJ a0 q_1 q_5 q_9 0 0 0 0 0 0 0 q_1 (u_2.1 0) (u_2.1 0) (fun _ => 0) q_5 (u_6.1 0) (u_6.1 1) (u_6.1 2) (u_6.1 3) (u_6.1 4) 0 0 (u_6.1 0) (fun _ => 0) (u_6.1 1) (fun _ => 0) (u_6.1 2) (fun _ => 0) (u_6.1 3) (fun _ => 0) (u_6.1 4) (fun _ => 0) q_9 (fun _ => 0)) H := hP
      replace hD : va_D A (zS_125 cB cC cI cJ a0 q_1 q_5 q_9 0 0 0 0 0 0 0 q_1 (u_2.1 0) (u_2.1 0) (fun _ => 0) q_5 (u_6.1 0) (u_6.1 1) (u_6.1 2) (u_6.1 3) (u_6.1 4) 0 0 (u_6.1 0) (fun _ => 0) (u_6.1 1) (fun _ => 0) (u_6.1 2) (fun _ => 0) (u_6.1 3) (fun _ => 0) (u_6.1 4) (fun _ => 0) q_9 (fun _ => 0)) := hD
      refine lv_aload_n (pc := 49) hx hb dX1_init_49 rfl (lv_at hl 0 rfl) ?_
      refine lv_iconst (pc := 50) (v := 0) hx hb dX1_init_50 (by decide) ?_
      refine va_put (pc := 51) (ci := 1) (v := .int 0) (ty := .int) (C := RX1) (T := TX1) (N := 10) hx hb hts iX1 tyX1 tyX1_ok nmX1 hown hK hP hD hS 0 rfl rfl 6 (by decide) (hts _ tw_132) (fun _ h9 => h9) rfl (by decide +kernel) (by decide +kernel) (by decide +kernel) (Nat.le_of_ble_eq_true rfl) dX1_init_51 (fun H locs hP hD hS => ?_)
      replace hP : va_P D gcl (zS_125 cB cC cI cJ a0 q_1 q_5 q_9 0 0 0 0 0 0 0 q_1 (u_2.1 0) (u_2.1 0) (fun _ => 0) q_5 (u_6.1 0) (u_6.1 1) (u_6.1 2) (u_6.1 3) (u_6.1 4) 0 0 (u_6.1 0) (fun _ => 0) (u_6.1 1) (fun _ => 0) (u_6.1 2) (fun _ => 0) (u_6.1 3) (fun _ => 0) (u_6.1 4) (fun _ => 0) q_9 (fun _ => 0)) H := hP
      replace hD : va_D A (zS_125 cB cC cI cJ a0 q_1 q_5 q_9 0 0 0 0 0 0 0 q_1 (u_2.1 0) (u_2.1 0) (fun _ => 0) q_5 (u_6.1 0) (u_6.1 1) (u_6.1 2) (u_6.1 3) (u_6.1 4) 0 0 (u_6.1 0) (fun _ => 0) (u_6.1 1) (fun _ => 0) (u_6.1 2) (fun _ => 0) (u_6.1 3) (fun _ => 0) (u_6.1 4) (fun _ => 0) q_9 (fun _ => 0)) := hD
      as_aux_lemma =>
        refine lv_aload_n (pc := 54) hx hb dX1_init_54 rfl (lv_at hl 0 rfl) ?_
        refine lv_iconst (pc := 55) (v := 0) hx hb dX1_init_55 (by decide) ?_
        refine va_put (pc := 56) (ci := 1) (v := .int 0) (ty := .int) (C := RX1) (T := TX1) (N := 10) hx hb hts iX1 tyX1 tyX1_ok nmX1 hown hK hP hD hS 0 rfl rfl 7 (by decide) (hts _ tw_135) (fun _ h9 => h9) rfl (by decide +kernel) (by decide +kernel) (by decide +kernel) (Nat.le_of_ble_eq_true rfl) dX1_init_56 (fun H locs hP hD hS => ?_)
        replace hP : va_P D gcl (zS_125 cB cC cI cJ a0 q_1 q_5 q_9 0 0 0 0 0 0 0 q_1 (u_2.1 0) (u_2.1 0) (fun _ => 0) q_5 (u_6.1 0) (u_6.1 1) (u_6.1 2) (u_6.1 3) (u_6.1 4) 0 0 (u_6.1 0) (fun _ => 0) (u_6.1 1) (fun _ => 0) (u_6.1 2) (fun _ => 0) (u_6.1 3) (fun _ => 0) (u_6.1 4) (fun _ => 0) q_9 (fun _ => 0)) H := hP
        replace hD : va_D A (zS_125 cB cC cI cJ a0 q_1 q_5 q_9 0 0 0 0 0 0 0 q_1 (u_2.1 0) (u_2.1 0) (fun _ => 0) q_5 (u_6.1 0) (u_6.1 1) (u_6.1 2) (u_6.1 3) (u_6.1 4) 0 0 (u_6.1 0) (fun _ => 0) (u_6.1 1) (fun _ => 0) (u_6.1 2) (fun _ => 0) (u_6.1 3) (fun _ => 0) (u_6.1 4) (fun _ => 0) q_9 (fun _ => 0)) := hD
        refine lv_aload_n (pc := 59) hx hb dX1_init_59 rfl (lv_at hl 0 rfl) ?_
        refine lv_sipush (pc := 60) (v := 9999) hx hb dX1_init_60 (by decide) ?_
        refine va_put (pc := 63) (ci := 1) (v := .int 9999) (ty := .int) (C := RX1) (T := TX1) (N := 10) hx hb hts iX1 tyX1 tyX1_ok nmX1 hown hK hP hD hS 0 rfl rfl 8 (by decide) (hts _ tw_139) (fun _ h9 => h9) rfl (by decide +kernel) (by decide +kernel) (by decide +kernel) (Nat.le_of_ble_eq_true rfl) dX1_init_63 (fun H locs hP hD hS => ?_)
        replace hP : va_P D gcl (zS_125 cB cC cI cJ a0 q_1 q_5 q_9 0 0 0 0 0 9999 0 q_1 (u_2.1 0) (u_2.1 0) (fun _ => 0) q_5 (u_6.1 0) (u_6.1 1) (u_6.1 2) (u_6.1 3) (u_6.1 4) 0 0 (u_6.1 0) (fun _ => 0) (u_6.1 1) (fun _ => 0) (u_6.1 2) (fun _ => 0) (u_6.1 3) (fun _ => 0) (u_6.1 4) (fun _ => 0) q_9 (fun _ => 0)) H := hP
        replace hD : va_D A (zS_125 cB cC cI cJ a0 q_1 q_5 q_9 0 0 0 0 0 9999 0 q_1 (u_2.1 0) (u_2.1 0) (fun _ => 0) q_5 (u_6.1 0) (u_6.1 1) (u_6.1 2) (u_6.1 3) (u_6.1 4) 0 0 (u_6.1 0) (fun _ => 0) (u_6.1 1) (fun _ => 0) (u_6.1 2) (fun _ => 0) (u_6.1 3) (fun _ => 0) (u_6.1 4) (fun _ => 0) q_9 (fun _ => 0)) := hD
        refine lv_aload_n (pc := 66) hx hb dX1_init_66 rfl (lv_at hl 0 rfl) ?_
        refine lv_iconst (pc := 67) (v := 0) hx hb dX1_init_67 (by decide) ?_
        refine va_put (pc := 68) (ci := 1) (v := .int 0) (ty := .int) (C := RX1) (T := TX1) (N := 10) hx hb hts iX1 tyX1 tyX1_ok nmX1 hown hK hP hD hS 0 rfl rfl 9 (by decide) (hts _ tw_143) (fun _ h9 => h9) rfl (by decide +kernel) (by decide +kernel) (by decide +kernel) (Nat.le_of_ble_eq_true rfl) dX1_init_68 (fun H locs hP hD hS => ?_)
        replace hP : va_P D gcl (zS_125 cB cC cI cJ a0 q_1 q_5 q_9 0 0 0 0 0 9999 0 q_1 (u_2.1 0) (u_2.1 0) (fun _ => 0) q_5 (u_6.1 0) (u_6.1 1) (u_6.1 2) (u_6.1 3) (u_6.1 4) 0 0 (u_6.1 0) (fun _ => 0) (u_6.1 1) (fun _ => 0) (u_6.1 2) (fun _ => 0) (u_6.1 3) (fun _ => 0) (u_6.1 4) (fun _ => 0) q_9 (fun _ => 0)) H := hP
        replace hD : va_D A (zS_125 cB cC cI cJ a0 q_1 q_5 q_9 0 0 0 0 0 9999 0 q_1 (u_2.1 0) (u_2.1 0) (fun _ => 0) q_5 (u_6.1 0) (u_6.1 1) (u_6.1 2) (u_6.1 3) (u_6.1 4) 0 0 (u_6.1 0) (fun _ => 0) (u_6.1 1) (fun _ => 0) (u_6.1 2) (fun _ => 0) (u_6.1 3) (fun _ => 0) (u_6.1 4) (fun _ => 0) q_9 (fun _ => 0)) := hD
        have hP9 := hP.sub (ws' := (zS_125 cB cC cI cJ a0 q_1 q_5 q_9 0 0 0 0 0 9999 0 q_1 (u_2.1 0) (u_2.1 0) (fun _ => 0) q_5 (u_6.1 0) (u_6.1 1) (u_6.1 2) (u_6.1 3) (u_6.1 4) 0 0 (u_6.1 0) (fun _ => 0) (u_6.1 1) (fun _ => 0) (u_6.1 2) (fun _ => 0) (u_6.1 3) (fun _ => 0) (u_6.1 4) (fun _ => 0) q_9 (fun _ => 0))) [0, 1, 2, 3, 4, 5, 6, 7, 8, 9] rfl
        have hD9 := hD.sub (ws' := (zS_125 cB cC cI cJ a0 q_1 q_5 q_9 0 0 0 0 0 9999 0 q_1 (u_2.1 0) (u_2.1 0) (fun _ => 0) q_5 (u_6.1 0) (u_6.1 1) (u_6.1 2) (u_6.1 3) (u_6.1 4) 0 0 (u_6.1 0) (fun _ => 0) (u_6.1 1) (fun _ => 0) (u_6.1 2) (fun _ => 0) (u_6.1 3) (fun _ => 0) (u_6.1 4) (fun _ => 0) q_9 (fun _ => 0))) [0, 1, 2, 3, 4, 5, 6, 7, 8, 9] (by decide) rfl
        refine W.widen (k := 9) (n := 1806) (Nat.le_of_ble_eq_true rfl) (Nat.le_of_ble_eq_true rfl) ?_
        exact W.vret hx hb hr (fun t ht hW => ⟨⟨((fun k => [q_1, (u_2.1 0), q_5, (u_6.1 0), (u_6.1 1), (u_6.1 2), (u_6.1 3), (u_6.1 4), q_9].getD k 0), (fun _ => (fun _ => 0)), (fun _ => (fun _ => 0)), (fun _ => 0), (fun _ => 0)), rfl, trivial, by rw [ht]; exact hP9, hD9⟩, hS.F ht⟩) hS.2.2 dX1_init_71
set_option maxHeartbeats 4000000 in
set_option maxRecDepth 100000 in
theorem cc_5_yX4_init (l : Launch) (D : va_G) (cB cC cI cJ : ClassId) (sz : Nat) (a0 : Nat) : Met l yX4_init (.code yX4_init cX4_init 1 none :: lw_gd) ({ frames := 3, cells := 12, slots := 3418, locals := 52 }) (gPre D [(cB, .byte), (cC, .char), (cI, .int), (cJ, .long)] [.ref a0] (zS_184 cB cC cI cJ a0 0 0 0 0 0 0) sz) (va_Qv (fun _ => True) (gB D (va_A (zS_184 cB cC cI cJ a0 0 0 0 0 0 0) sz) (fun u : gEx => (zS_135 cB cC cI cJ a0 (u.1 0) (u.1 2) 0 (-1) 0 0 0 (-1) (u.1 0) (u.1 1) 0 (u.1 1) (fun _ => 0) (u.1 2) (u.1 3) (u.1 5) (u.1 11) 0 0 0 0 0 9999 0 (u.1 3) (u.1 4) (u.1 4) (fun _ => 0) (u.1 5) (u.1 6) (u.1 7) (u.1 8) (u.1 9) (u.1 10) 0 0 (u.1 6) (fun _ => 0) (u.1 7) (fun _ => 0) (u.1 8) (fun _ => 0) (u.1 9) (fun _ => 0) (u.1 10) (fun _ => 0) (u.1 11) (fun _ => 0)))) (va_A (zS_184 cB cC cI cJ a0 0 0 0 0 0 0) sz)) 12 3418 (va_A (zS_184 cB cC cI cJ a0 0 0 0 0 0 0) sz) := by
  refine Met.ofW (cc := cX4_init) (maxL := 1) (ret := none) (by decide) rfl ?_
  intro p e s m args below meth c s₁ B hml hv
  obtain ⟨rfl, hsz, hP, hK, hD0, hN⟩ := hv
  have hx := B.exec
  have hb := B.bytes
  have hr := B.returns
  have hts : ∀ w ∈ lw_gd, w.before _ s = true := fun w h => atoms_spec (ws := .code yX4_init cX4_init 1 none :: lw_gd) B.pre w (List.mem_cons_of_mem _ h)
  have hown : s.vm.findClass RX4 = some m.cls := findClass_of_methodNamed B.named
  have hlocks := B.notSynchronized
  have hin : meth.name = "<init>" := (name_of_methodNamed B.named B.method).1
  subst hsz
  have hD := hD0.self (sz := s.heap.size)
  generalize hAe : va_A (zS_184 cB cC cI cJ a0 0 0 0 0 0 0) s.heap.size = A at hD ⊢
  have hA : ∀ q : Nat, s.heap.size ≤ q → A q := fun q h => by rw [← hAe]; exact Or.inr h
  have hS : va_S A s.heap s.heap [] := va_S.rf
  replace hP : va_P D gcl (zS_184 cB cC cI cJ a0 0 0 0 0 0 0) s.heap := hP
  have hl := lv_entry ([.ref a0]) (n := 1) (Nat.le_of_ble_eq_true rfl)
  rw [lg_entry_eq]
  generalize (lg_sl ([.ref a0]) ++ List.replicate (1 - (lg_sl ([.ref a0])).length) Slot.unset).toArray = ls at hl ⊢
  replace hl : lv_has ls 1 [(0, .ref a0)] := hl
  refine lv_aload_n (pc := 0) hx hb dX4_init_0 rfl (lv_at hl 0 rfl) ?_
  refine W.objInit hx hb hown (hts _ tw_35) (hts _ tw_28) (hts _ tw_29) rfl (by rw [hml]; exact hl.1) rfl dX4_init_1 (Nat.le_of_ble_eq_true rfl) (Nat.le_of_ble_eq_true rfl) ?_
  refine W.eq (g2 := F0 m 4 ls []) rfl ?_
  refine lv_aload_n (pc := 4) hx hb dX4_init_4 rfl (lv_at hl 0 rfl) ?_
  refine va_new (pc := 5) (ci := 9) (fs := [.null, .int 0]) (C := RX9) (T := TX9) (N := 2) hx hb hts iX9 tyX9 tyX9_ok hown (hts _ tw_36) (hts _ tw_37) (hts _ tw_3) hK hP hD hS hA rfl (gdv_X9) (Nat.le_of_ble_eq_true rfl) (Nat.le_of_ble_eq_true rfl) dX4_init_5 (fun q_1 H hP hD hS => ?_)
  replace hP : va_P D gcl [(a0, .inr (4, [.null, .null, .int 0, .int 0, .int 0, .int 0, .int 0, .int 0])), (q_1, .inr (9, [.null, .int 0]))] H := hP
  replace hD : va_D A [(a0, .inr (4, [.null, .null, .int 0, .int 0, .int 0, .int 0, .int 0, .int 0])), (q_1, .inr (9, [.null, .int 0]))] := hD
  refine lv_dup (pc := 8) hx hb dX4_init_8 rfl ?_
  refine gc_v (pc := 9) (wc := [(q_1, .inr (9, [.null, .int 0]))]) (wr := (zS_184 cB cC cI cJ a0 0 0 0 0 0 0)) hP hD hS hA [1] [0] rfl rfl (by decide) (by decide) (by decide) (fun hPc hDc => va_runIN (As := []) (rest := [.ref q_1, .ref a0]) ⟨hx, hb, hml, hown, hts⟩ (cc_1_yX9_init l D cB cC cI cJ _ q_1) ⟨gcwN hts tw_40 tw_3 (hN _ tn_38) hd_yX9_init ⟨Nat.le_of_ble_eq_true rfl, Nat.le_of_ble_eq_true rfl⟩, rfl, hts _ tw_39⟩ (gpreS hPc hK hDc hN) rfl rfl hl.1 rfl (lv_room (Nat.le_of_ble_eq_true rfl)) dX4_init_9 ⟨Nat.le_of_ble_eq_true rfl, Nat.le_of_ble_eq_true rfl⟩) (fun u_2 H locs hw_4 hP hD hS => ?_)
  replace hP : va_P D gcl [(a0, .inr (4, [.null, .null, .int 0, .int 0, .int 0, .int 0, .int 0, .int 0])), (q_1, .inr (9, [.ref (u_2.1 0), .int 0])), ((u_2.1 0), .inl (cB, 1600, .inl (fun _ => 0)))] H := hP
  replace hD : va_D A [(a0, .inr (4, [.null, .null, .int 0, .int 0, .int 0, .int 0, .int 0, .int 0])), (q_1, .inr (9, [.ref (u_2.1 0), .int 0])), ((u_2.1 0), .inl (cB, 1600, .inl (fun _ => 0)))] := hD
  refine va_putF (pc := 12) (ci := 4) (v := .ref q_1) (ty := (.object "ManyOut$Tape")) (C := RX4) (T := TX4) (N := 8) hx hb hts iX4 tyX4 tyX4_ok nmX4 hown hK hP hD hS 0 rfl rfl 0 (by decide) (hts _ tw_167) (fun _ h9 => h9) rfl hin rfl (by decide +kernel) rfl rfl (Nat.le_of_ble_eq_true rfl) dX4_init_12 (fun H locs hP hD hS => ?_)
  replace hP : va_P D gcl [(a0, .inr (4, [.ref q_1, .null, .int 0, .int 0, .int 0, .int 0, .int 0, .int 0])), (q_1, .inr (9, [.ref (u_2.1 0), .int 0])), ((u_2.1 0), .inl (cB, 1600, .inl (fun _ => 0)))] H := hP
  replace hD : va_D A [(a0, .inr (4, [.ref q_1, .null, .int 0, .int 0, .int 0, .int 0, .int 0, .int 0])), (q_1, .inr (9, [.ref (u_2.1 0), .int 0])), ((u_2.1 0), .inl (cB, 1600, .inl (fun _ => 0)))] := hD
  refine lv_aload_n (pc := 15) hx hb dX4_init_15 rfl (lv_at hl 0 rfl) ?_
  as_aux_lemma =>
    refine va_new (pc := 16) (ci := 1) (fs := [.null, .null, .null, .int 0, .int 0, .int 0, .int 0, .int 0, .int 0, .int 0]) (C := RX1) (T := TX1) (N := 10) hx hb hts iX1 tyX1 tyX1_ok hown (hts _ tw_50) (hts _ tw_51) (hts _ tw_4) hK hP hD hS hA rfl (gdv_X1) (Nat.le_of_ble_eq_true rfl) (Nat.le_of_ble_eq_true rfl) dX4_init_16 (fun q_5 H hP hD hS => ?_)
    replace hP : va_P D gcl [(a0, .inr (4, [.ref q_1, .null, .int 0, .int 0, .int 0, .int 0, .int 0, .int 0])), (q_1, .inr (9, [.ref (u_2.1 0), .int 0])), ((u_2.1 0), .inl (cB, 1600, .inl (fun _ => 0))), (q_5, .inr (1, [.null, .null, .null, .int 0, .int 0, .int 0, .int 0, .int 0, .int 0, .int 0]))] H := hP
    replace hD : va_D A [(a0, .inr (4, [.ref q_1, .null, .int 0, .int 0, .int 0, .int 0, .int 0, .int 0])), (q_1, .inr (9, [.ref (u_2.1 0), .int 0])), ((u_2.1 0), .inl (cB, 1600, .inl (fun _ => 0))), (q_5, .inr (1, [.null, .null, .null, .int 0, .int 0, .int 0, .int 0, .int 0, .int 0, .int 0]))] := hD
    refine lv_dup (pc := 19) hx hb dX4_init_19 rfl ?_
    refine gc_v (pc := 20) (wc := (zS_180 cB cC cI cJ q_5 0 0 0 0 0 0 0)) (wr := [(a0, .inr (4, [.ref q_1, .null, .int 0, .int 0, .int 0, .int 0, .int 0, .int 0])), (q_1, .inr (9, [.ref (u_2.1 0), .int 0])), ((u_2.1 0), .inl (cB, 1600, .inl (fun _ => 0)))]) hP hD hS hA [3] [0, 1, 2] rfl rfl (by decide) (by decide) (by decide) (fun hPc hDc => va_runIN (As := []) (rest := [.ref q_5, .ref a0]) ⟨hx, hb, hml, hown, hts⟩ (cc_4_yX1_init l D cB cC cI cJ _ q_5) ⟨gcwN hts tw_54 tw_4 (hN _ tn_52) hd_yX1_init ⟨Nat.le_of_ble_eq_true rfl, Nat.le_of_ble_eq_true rfl⟩, rfl, hts _ tw_53⟩ (gpreS hPc hK hDc hN) rfl rfl hl.1 rfl (lv_room (Nat.le_of_ble_eq_true rfl)) dX4_init_20 ⟨Nat.le_of_ble_eq_true rfl, Nat.le_of_ble_eq_true rfl⟩) (fun u_6 H locs hw_8 hP hD hS => ?_)
    replace hP : va_P D gcl [(a0, .inr (4, [.ref q_1, .null, .int 0, .int 0, .int 0, .int 0, .int 0, .int 0])), (q_1, .inr (9, [.ref (u_2.1 0), .int 0])), ((u_2.1 0), .inl (cB, 1600, .inl (fun _ => 0))), (q_5, .inr (1, [.ref (u_6.1 0), .ref (u_6.1 2), .ref (u_6.1 8), .int 0, .int 0, .int 0, .int 0, .int 0, .int 9999, .int 0])), ((u_6.1 0), .inr (8, [.ref (u_6.1 1)])), ((u_6.1 1), .inl (cI, 30, .inl (fun _ => 0))), ((u_6.1 2), .inr (5, [.ref (u_6.1 3), .ref (u_6.1 4), .ref (u_6.1 5), .ref (u_6.1 6), .ref (u_6.1 7), .int 0, .int 0])), ((u_6.1 3), .inl (cI, 1600, .inl (fun _ => 0))), ((u_6.1 4), .inl (cI, 8, .inl (fun _ => 0))), ((u_6.1 5), .inl (cI, 8, .inl (fun _ => 0))), ((u_6.1 6), .inl (cI, 8, .inl (fun _ => 0))), ((u_6.1 7), .inl (cI, 64, .inl (fun _ => 0))), ((u_6.1 8), .inl (cI, 80, .inl (fun _ => 0)))] H := hP
    replace hD : va_D A [(a0, .inr (4, [.ref q_1, .null, .int 0, .int 0, .int 0, .int 0, .int 0, .int 0])), (q_1, .inr (9, [.ref (u_2.1 0), .int 0])), ((u_2.1 0), .inl (cB, 1600, .inl (fun _ => 0))), (q_5, .inr (1, [.ref (u_6.1 0), .ref (u_6.1 2), .ref (u_6.1 8), .int 0, .int 0, .int 0, .int 0, .int 0, .int 9999, .int 0])), ((u_6.1 0), .inr (8, [.ref (u_6.1 1)])), ((u_6.1 1), .inl (cI, 30, .inl (fun _ => 0))), ((u_6.1 2), .inr (5, [.ref (u_6.1 3), .ref (u_6.1 4), .ref (u_6.1 5), .ref (u_6.1 6), .ref (u_6.1 7), .int 0, .int 0])), ((u_6.1 3), .inl (cI, 1600, .inl (fun _ => 0))), ((u_6.1 4), .inl (cI, 8, .inl (fun _ => 0))), ((u_6.1 5), .inl (cI, 8, .inl (fun _ => 0))), ((u_6.1 6), .inl (cI, 8, .inl (fun _ => 0))), ((u_6.1 7), .inl (cI, 64, .inl (fun _ => 0))), ((u_6.1 8), .inl (cI, 80, .inl (fun _ => 0)))] := hD
    refine va_put (pc := 23) (ci := 4) (v := .ref q_5) (ty := (.object "ManyOut$House")) (C := RX4) (T := TX4) (N := 8) hx hb hts iX4 tyX4 tyX4_ok nmX4 hown hK hP hD hS 0 rfl rfl 1 (by decide) (hts _ tw_169) (fun _ h9 => h9) rfl (by decide +kernel) rfl rfl (Nat.le_of_ble_eq_true rfl) dX4_init_23 (fun H locs hP hD hS => ?_)
    replace hP : va_P D gcl (zS_135 cB cC cI cJ a0 q_1 q_5 0 0 0 0 0 0 q_1 (u_2.1 0) 0 (u_2.1 0) (fun _ => 0) q_5 (u_6.1 0) (u_6.1 2) (u_6.1 8) 0 0 0 0 0 9999 0 (u_6.1 0) (u_6.1 1) (u_6.1 1) (fun _ => 0) (u_6.1 2) (u_6.1 3) (u_6.1 4) (u_6.1 5) (u_6.1 6) (u_6.1 7) 0 0 (u_6.1 3) (fun _ => 0) (u_6.1 4) (fun _ => 0) (u_6.1 5) (fun _ => 0) (u_6.1 6) (fun _ => 0) (u_6.1 7) (fun _ => 0) (u_6.1 8) (fun _ => 0)) H := hP
    replace hD : va_D A (zS_135 cB cC cI cJ a0 q_1 q_5 0 0 0 0 0 0 q_1 (u_2.1 0) 0 (u_2.1 0) (fun _ => 0) q_5 (u_6.1 0) (u_6.1 2) (u_6.1 8) 0 0 0 0 0 9999 0 (u_6.1 0) (u_6.1 1) (u_6.1 1) (fun _ => 0) (u_6.1 2) (u_6.1 3) (u_6.1 4) (u_6.1 5) (u_6.1 6) (u_6.1 7) 0 0 (u_6.1 3) (fun _ => 0) (u_6.1 4) (fun _ => 0) (u_6.1 5) (fun _ => 0) (u_6.1 6) (fun _ => 0) (u_6.1 7) (fun _ => 0) (u_6.1 8) (fun _ => 0)) := hD
    refine lv_aload_n (pc := 26) hx hb dX4_init_26 rfl (lv_at hl 0 rfl) ?_
    refine lv_iconst (pc := 27) (v := 0) hx hb dX4_init_27 (by decide) ?_
    refine va_put (pc := 28) (ci := 4) (v := .int 0) (ty := .int) (C := RX4) (T := TX4) (N := 8) hx hb hts iX4 tyX4 tyX4_ok nmX4 hown hK hP hD hS 0 rfl rfl 2 (by decide) (hts _ tw_170) (fun _ h9 => h9) rfl (by decide +kernel) (by decide +kernel) (by decide +kernel) (Nat.le_of_ble_eq_true rfl) dX4_init_28 (fun H locs hP hD hS => ?_)
    replace hP : va_P D gcl (zS_135 cB cC cI cJ a0 q_1 q_5 0 0 0 0 0 0 q_1 (u_2.1 0) 0 (u_2.1 0) (fun _ => 0) q_5 (u_6.1 0) (u_6.1 2) (u_6.1 8) 0 0 0 0 0 9999 0 (u_6.1 0) (u_6.1 1) (u_6.1 1) (fun _ => 0) (u_6.1 2) (u_6.1 3) (u_6.1 4) (u_6.1 5) (u_6.1 6) (u_6.1 7) 0 0 (u_6.1 3) (fun _ => 0) (u_6.1 4) (fun _ => 0) (u_6.1 5) (fun _ => 0) (u_6.1 6) (fun _ => 0) (u_6.1 7) (fun _ => 0) (u_6.1 8) (fun _ => 0)) H := hP
    replace hD : va_D A (zS_135 cB cC cI cJ a0 q_1 q_5 0 0 0 0 0 0 q_1 (u_2.1 0) 0 (u_2.1 0) (fun _ => 0) q_5 (u_6.1 0) (u_6.1 2) (u_6.1 8) 0 0 0 0 0 9999 0 (u_6.1 0) (u_6.1 1) (u_6.1 1) (fun _ => 0) (u_6.1 2) (u_6.1 3) (u_6.1 4) (u_6.1 5) (u_6.1 6) (u_6.1 7) 0 0 (u_6.1 3) (fun _ => 0) (u_6.1 4) (fun _ => 0) (u_6.1 5) (fun _ => 0) (u_6.1 6) (fun _ => 0) (u_6.1 7) (fun _ => 0) (u_6.1 8) (fun _ => 0)) := hD
    refine lv_aload_n (pc := 31) hx hb dX4_init_31 rfl (lv_at hl 0 rfl) ?_
    refine lv_iconst (pc := 32) (v := (-1)) hx hb dX4_init_32 (by decide) ?_
    refine va_put (pc := 33) (ci := 4) (v := .int (-1)) (ty := .int) (C := RX4) (T := TX4) (N := 8) hx hb hts iX4 tyX4 tyX4_ok nmX4 hown hK hP hD hS 0 rfl rfl 3 (by decide) (hts _ tw_171) (fun _ h9 => h9) rfl (by decide +kernel) (by decide +kernel) (by decide +kernel) (Nat.le_of_ble_eq_true rfl) dX4_init_33 (fun H locs hP hD hS => ?_)
    replace hP : va_P D gcl (zS_135 cB cC cI cJ a0 q_1 q_5 0 (-1) 0 0 0 0 q_1 (u_2.1 0) 0 (u_2.1 0) (fun _ => 0) q_5 (u_6.1 0) (u_6.1 2) (u_6.1 8) 0 0 0 0 0 9999 0 (u_6.1 0) (u_6.1 1) (u_6.1 1) (fun _ => 0) (u_6.1 2) (u_6.1 3) (u_6.1 4) (u_6.1 5) (u_6.1 6) (u_6.1 7) 0 0 (u_6.1 3) (fun _ => 0) (u_6.1 4) (fun _ => 0) (u_6.1 5) (fun _ => 0) (u_6.1 6) (fun _ => 0) (u_6.1 7) (fun _ => 0) (u_6.1 8) (fun _ => 0)) H := hP
    replace hD : va_D A (zS_135 cB cC cI cJ a0 q_1 q_5 0 (-1) 0 0 0 0 q_1 (u_2.1 0) 0 (u_2.1 0) (fun _ => 0) q_5 (u_6.1 0) (u_6.1 2) (u_6.1 8) 0 0 0 0 0 9999 0 (u_6.1 0) (u_6.1 1) (u_6.1 1) (fun _ => 0) (u_6.1 2) (u_6.1 3) (u_6.1 4) (u_6.1 5) (u_6.1 6) (u_6.1 7) 0 0 (u_6.1 3) (fun _ => 0) (u_6.1 4) (fun _ => 0) (u_6.1 5) (fun _ => 0) (u_6.1 6) (fun _ => 0) (u_6.1 7) (fun _ => 0) (u_6.1 8) (fun _ => 0)) := hD
    as_aux_lemma =>
      refine lv_aload_n (pc := 36) hx hb dX4_init_36 rfl (lv_at hl 0 rfl) ?_
      refine lv_iconst (pc := 37) (v := 0) hx hb dX4_init_37 (by decide) ?_
      refine va_put (pc := 38) (ci := 4) (v := .int 0) (ty := .int) (C := RX4) (T := TX4) (N := 8) hx hb hts iX4 tyX4 tyX4_ok nmX4 hown hK hP hD hS 0 rfl rfl 4 (by decide) (hts _ tw_172) (fun _ h9 => h9) rfl (by decide +kernel) (by decide +kernel) (by decide +kernel) (Nat.le_of_ble_eq_true rfl) dX4_init_38 (fun H locs hP hD hS => ?_)
      replace hP : va_P D gcl (zS_135 cB cC cI cJ a0 q_1 q_5 0 (-1) 0 0 0 0 q_1 (u_2.1 0) 0 (u_2.1 0) (fun _ => 0) q_5 (u_6.1 0) (u_6.1 2) (u_6.1 8) 0 0 0 0 0 9999 0 (u_6.1 0) (u_6.1 1) (u_6.1 1) (fun _ => 0) (u_6.1 2) (u_6.1 3) (u_6.1 4) (u_6.1 5) (u_6.1 6) (u_6.1 7) 0 0 (u_6.1 3) (fun _ => 0) (u_6.1 4) (fun _ => 0) (u_6.1 5) (fun _ => 0) (u_6.1 6) (fun _ => 0) (u_6.1 7) (fun _ => 0) (u_6.1 8) (fun _ => 0)) H := hP
      replace hD : va_D A (zS_135 cB cC cI cJ a0 q_1 q_5 0 (-1) 0 0 0 0 q_1 (u_2.1 0) 0 (u_2.1 0) (fun _ => 0) q_5 (u_6.1 0) (u_6.1 2) (u_6.1 8) 0 0 0 0 0 9999 0 (u_6.1 0) (u_6.1 1) (u_6.1 1) (fun _ => 0) (u_6.1 2) (u_6.1 3) (u_6.1 4) (u_6.1 5) (u_6.1 6) (u_6.1 7) 0 0 (u_6.1 3) (fun _ => 0) (u_6.1 4) (fun _ => 0) (u_6.1 5) (fun _ => 0) (u_6.1 6) (fun _ => 0) (u_6.1 7) (fun _ => 0) (u_6.1 8) (fun _ => 0)) := hD
      refine lv_aload_n (pc := 41) hx hb dX4_init_41 rfl (lv_at hl 0 rfl) ?_
      refine lv_iconst (pc := 42) (v := 0) hx hb dX4_init_42 (by decide) ?_
      refine va_put (pc := 43) (ci := 4) (v := .int 0) (ty := .int) (C := RX4) (T := TX4) (N := 8) hx hb hts iX4 tyX4 tyX4_ok nmX4 hown hK hP hD hS 0 rfl rfl 5 (by decide) (hts _ tw_173) (fun _ h9 => h9) rfl (by decide +kernel) (by decide +kernel) (by decide +kernel) (Nat.le_of_ble_eq_true rfl) dX4_init_43 (fun H locs hP hD hS => ?_)
      replace hP : va_P D gcl (zS_135 cB cC cI cJ a0 q_1 q_5 0 (-1) 0 0 0 0 q_1 (u_2.1 0) 0 (u_2.1 0) (fun _ => 0) q_5 (u_6.1 0) (u_6.1 2) (u_6.1 8) 0 0 0 0 0 9999 0 (u_6.1 0) (u_6.1 1) (u_6.1 1) (fun _ => 0) (u_6.1 2) (u_6.1 3) (u_6.1 4) (u_6.1 5) (u_6.1 6) (u_6.1 7) 0 0 (u_6.1 3) (fun _ => 0) (u_6.1 4) (fun _ => 0) (u_6.1 5) (fun _ => 0) (u_6.1 6) (fun _ => 0) (u_6.1 7) (fun _ => 0) (u_6.1 8) (fun _ => 0)) H := hP
      replace hD : va_D A (zS_135 cB cC cI cJ a0 q_1 q_5 0 (-1) 0 0 0 0 q_1 (u_2.1 0) 0 (u_2.1 0) (fun _ => 0) q_5 (u_6.1 0) (u_6.1 2) (u_6.1 8) 0 0 0 0 0 9999 0 (u_6.1 0) (u_6.1 1) (u_6.1 1) (fun _ => 0) (u_6.1 2) (u_6.1 3) (u_6.1 4) (u_6.1 5) (u_6.1 6) (u_6.1 7) 0 0 (u_6.1 3) (fun _ => 0) (u_6.1 4) (fun _ => 0) (u_6.1 5) (fun _ => 0) (u_6.1 6) (fun _ => 0) (u_6.1 7) (fun _ => 0) (u_6.1 8) (fun _ => 0)) := hD
      refine lv_aload_n (pc := 46) hx hb dX4_init_46 rfl (lv_at hl 0 rfl) ?_
      refine lv_iconst (pc := 47) (v := 0) hx hb dX4_init_47 (by decide) ?_
      refine va_put (pc := 48) (ci := 4) (v := .int 0) (ty := .int) (C := RX4) (T := TX4) (N := 8) hx hb hts iX4 tyX4 tyX4_ok nmX4 hown hK hP hD hS 0 rfl rfl 6 (by decide) (hts _ tw_174) (fun _ h9 => h9) rfl (by decide +kernel) (by decide +kernel) (by decide +kernel) (Nat.le_of_ble_eq_true rfl) dX4_init_48 (fun H locs hP hD hS => ?_)
      replace hP : va_P D gcl (zS_135 cB cC cI cJ a0 q_1 q_5 0 (-1) 0 0 0 0 q_1 (u_2.1 0) 0 (u_2.1 0) (fun _ => 0) q_5 (u_6.1 0) (u_6.1 2) (u_6.1 8) 0 0 0 0 0 9999 0 (u_6.1 0) (u_6.1 1) (u_6.1 1) (fun _ => 0) (u_6.1 2) (u_6.1 3) (u_6.1 4) (u_6.1 5) (u_6.1 6) (u_6.1 7) 0 0 (u_6.1 3) (fun _ => 0) (u_6.1 4) (fun _ => 0) (u_6.1 5) (fun _ => 0) (u_6.1 6) (fun _ => 0) (u_6.1 7) (fun _ => 0) (u_6.1 8) (fun _ => 0)) H := hP
      replace hD : va_D A (zS_135 cB cC cI cJ a0 q_1 q_5 0 (-1) 0 0 0 0 q_1 (u_2.1 0) 0 (u_2.1 0) (fun _ => 0) q_5 (u_6.1 0) (u_6.1 2) (u_6.1 8) 0 0 0 0 0 9999 0 (u_6.1 0) (u_6.1 1) (u_6.1 1) (fun _ => 0) (u_6.1 2) (u_6.1 3) (u_6.1 4) (u_6.1 5) (u_6.1 6) (u_6.1 7) 0 0 (u_6.1 3) (fun _ => 0) (u_6.1 4) (fun _ => 0) (u_6.1 5) (fun _ => 0) (u_6.1 6) (fun _ => 0) (u_6.1 7) (fun _ => 0) (u_6.1 8) (fun _ => 0)) := hD
      refine lv_aload_n (pc := 51) hx hb dX4_init_51 rfl (lv_at hl 0 rfl) ?_
      as_aux_lemma =>
        refine lv_iconst (pc := 52) (v := (-1)) hx hb dX4_init_52 (by decide) ?_
        refine va_put (pc := 53) (ci := 4) (v := .int (-1)) (ty := .int) (C := RX4) (T := TX4) (N := 8) hx hb hts iX4 tyX4 tyX4_ok nmX4 hown hK hP hD hS 0 rfl rfl 7 (by decide) (hts _ tw_176) (fun _ h9 => h9) rfl (by decide +kernel) (by decide +kernel) (by decide +kernel) (Nat.le_of_ble_eq_true rfl) dX4_init_53 (fun H locs hP hD hS => ?_)
        replace hP : va_P D gcl (zS_135 cB cC cI cJ a0 q_1 q_5 0 (-1) 0 0 0 (-1) q_1 (u_2.1 0) 0 (u_2.1 0) (fun _ => 0) q_5 (u_6.1 0) (u_6.1 2) (u_6.1 8) 0 0 0 0 0 9999 0 (u_6.1 0) (u_6.1 1) (u_6.1 1) (fun _ => 0) (u_6.1 2) (u_6.1 3) (u_6.1 4) (u_6.1 5) (u_6.1 6) (u_6.1 7) 0 0 (u_6.1 3) (fun _ => 0) (u_6.1 4) (fun _ => 0) (u_6.1 5) (fun _ => 0) (u_6.1 6) (fun _ => 0) (u_6.1 7) (fun _ => 0) (u_6.1 8) (fun _ => 0)) H := hP
        replace hD : va_D A (zS_135 cB cC cI cJ a0 q_1 q_5 0 (-1) 0 0 0 (-1) q_1 (u_2.1 0) 0 (u_2.1 0) (fun _ => 0) q_5 (u_6.1 0) (u_6.1 2) (u_6.1 8) 0 0 0 0 0 9999 0 (u_6.1 0) (u_6.1 1) (u_6.1 1) (fun _ => 0) (u_6.1 2) (u_6.1 3) (u_6.1 4) (u_6.1 5) (u_6.1 6) (u_6.1 7) 0 0 (u_6.1 3) (fun _ => 0) (u_6.1 4) (fun _ => 0) (u_6.1 5) (fun _ => 0) (u_6.1 6) (fun _ => 0) (u_6.1 7) (fun _ => 0) (u_6.1 8) (fun _ => 0)) := hD
        have hP9 := hP.sub (ws' := (zS_135 cB cC cI cJ a0 q_1 q_5 0 (-1) 0 0 0 (-1) q_1 (u_2.1 0) 0 (u_2.1 0) (fun _ => 0) q_5 (u_6.1 0) (u_6.1 2) (u_6.1 8) 0 0 0 0 0 9999 0 (u_6.1 0) (u_6.1 1) (u_6.1 1) (fun _ => 0) (u_6.1 2) (u_6.1 3) (u_6.1 4) (u_6.1 5) (u_6.1 6) (u_6.1 7) 0 0 (u_6.1 3) (fun _ => 0) (u_6.1 4) (fun _ => 0) (u_6.1 5) (fun _ => 0) (u_6.1 6) (fun _ => 0) (u_6.1 7) (fun _ => 0) (u_6.1 8) (fun _ => 0))) [0, 1, 2, 3, 4, 5, 6, 7, 8, 9, 10, 11, 12] rfl
        have hD9 := hD.sub (ws' := (zS_135 cB cC cI cJ a0 q_1 q_5 0 (-1) 0 0 0 (-1) q_1 (u_2.1 0) 0 (u_2.1 0) (fun _ => 0) q_5 (u_6.1 0) (u_6.1 2) (u_6.1 8) 0 0 0 0 0 9999 0 (u_6.1 0) (u_6.1 1) (u_6.1 1) (fun _ => 0) (u_6.1 2) (u_6.1 3) (u_6.1 4) (u_6.1 5) (u_6.1 6) (u_6.1 7) 0 0 (u_6.1 3) (fun _ => 0) (u_6.1 4) (fun _ => 0) (u_6.1 5) (fun _ => 0) (u_6.1 6) (fun _ => 0) (u_6.1 7) (fun _ => 0) (u_6.1 8) (fun _ => 0))) [0, 1, 2, 3, 4, 5, 6, 7, 8, 9, 10, 11, 12] (by decide) rfl
        refine W.widen (k := 12) (n := 3418) (Nat.le_of_ble_eq_true rfl) (Nat.le_of_ble_eq_true rfl) ?_
        exact W.vret hx hb hr (fun t ht hW => ⟨⟨((fun k => [q_1, (u_2.1 0), q_5, (u_6.1 0), (u_6.1 1), (u_6.1 2), (u_6.1 3), (u_6.1 4), (u_6.1 5), (u_6.1 6), (u_6.1 7), (u_6.1 8)].getD k 0), (fun _ => (fun _ => 0)), (fun _ => (fun _ => 0)), (fun _ => 0), (fun _ => 0)), rfl, trivial, by rw [ht]; exact hP9, hD9⟩, hS.F ht⟩) hS.2.2 dX4_init_56
set_option maxHeartbeats 4000000 in
set_option maxRecDepth 100000 in
theorem cc_6_yX10_init (l : Launch) (D : va_G) (cB cC cI cJ : ClassId) (sz : Nat) (a0 : Nat) : Met l yX10_init (.code yX10_init cX10_init 1 none :: lw_gd) ({ frames := 1, cells := 7, slots := 75, locals := 12 }) (gPre D [(cB, .byte), (cC, .char), (cI, .int), (cJ, .long)] [.ref a0] [(a0, .inr (10, [.null, .null, .null, .null, .null, .null, .null, .int 0]))] sz) (va_Qv (fun _ => True) (gB D (va_A [(a0, .inr (10, [.null, .null, .null, .null, .null, .null, .null, .int 0]))] sz) (fun u : gEx => (zS_185 cB cC cI cJ a0 (u.1 0) (u.1 1) (u.1 2) (u.1 3) (u.1 4) (u.1 5) (u.1 6) 0 (u.1 0) (fun _ => 0) (u.1 1) (fun _ => 0) (u.1 2) (fun _ => 0) (u.1 3) (fun _ => 0) (u.1 4) (fun _ => 0) (u.1 5) (fun _ => 0) (u.1 6) (fun _ => 0)))) (va_A [(a0, .inr (10, [.null, .null, .null, .null, .null, .null, .null, .int 0]))] sz)) 7 75 (va_A [(a0, .inr (10, [.null, .null, .null, .null, .null, .null, .null, .int 0]))] sz) := by
  refine Met.ofW (cc := cX10_init) (maxL := 1) (ret := none) (by decide) rfl ?_
  intro p e s m args below meth c s₁ B hml hv
  obtain ⟨rfl, hsz, hP, hK, hD0, hN⟩ := hv
  have hx := B.exec
  have hb := B.bytes
  have hr := B.returns
  have hts : ∀ w ∈ lw_gd, w.before _ s = true := fun w h => atoms_spec (ws := .code yX10_init cX10_init 1 none :: lw_gd) B.pre w (List.mem_cons_of_mem _ h)
  have hown : s.vm.findClass RX10 = some m.cls := findClass_of_methodNamed B.named
  have hlocks := B.notSynchronized
  have hin : meth.name = "<init>" := (name_of_methodNamed B.named B.method).1
  subst hsz
  have hD := hD0.self (sz := s.heap.size)
  generalize hAe : va_A [(a0, .inr (10, [.null, .null, .null, .null, .null, .null, .null, .int 0]))] s.heap.size = A at hD ⊢
  have hA : ∀ q : Nat, s.heap.size ≤ q → A q := fun q h => by rw [← hAe]; exact Or.inr h
  have hS : va_S A s.heap s.heap [] := va_S.rf
  replace hP : va_P D gcl [(a0, .inr (10, [.null, .null, .null, .null, .null, .null, .null, .int 0]))] s.heap := hP
  have hl := lv_entry ([.ref a0]) (n := 1) (Nat.le_of_ble_eq_true rfl)
  rw [lg_entry_eq]
  generalize (lg_sl ([.ref a0]) ++ List.replicate (1 - (lg_sl ([.ref a0])).length) Slot.unset).toArray = ls at hl ⊢
  replace hl : lv_has ls 1 [(0, .ref a0)] := hl
  refine lv_aload_n (pc := 0) hx hb dX10_init_0 rfl (lv_at hl 0 rfl) ?_
  refine W.objInit hx hb hown (hts _ tw_206) (hts _ tw_28) (hts _ tw_29) rfl (by rw [hml]; exact hl.1) rfl dX10_init_1 (Nat.le_of_ble_eq_true rfl) (Nat.le_of_ble_eq_true rfl) ?_
  refine W.eq (g2 := F0 m 4 ls []) rfl ?_
  refine lv_aload_n (pc := 4) hx hb dX10_init_4 rfl (lv_at hl 0 rfl) ?_
  refine lv_bipush (pc := 5) (v := 25) hx hb dX10_init_5 (by decide) ?_
  refine g_newa (pc := 7) (atype := .long) (ty := .long) (a0 := (25, .inr (.inl (fun _ => 0)))) (N' := 25) hx hb (hts _ tw_241) rfl (fun _ h => h) hK 3 rfl hP hD hS hA (fun _ => rfl) (by decide +kernel) (by decide +kernel) (by decide +kernel) (Nat.le_of_ble_eq_true rfl) (Nat.le_of_ble_eq_true rfl) dX10_init_7 (fun q_1 H hP hD hS => ?_)
  replace hP : va_P D gcl [(a0, .inr (10, [.null, .null, .null, .null, .null, .null, .null, .int 0])), (q_1, .inl (cJ, 25, .inr (.inl (fun _ => 0))))] H := hP
  replace hD : va_D A [(a0, .inr (10, [.null, .null, .null, .null, .null, .null, .null, .int 0])), (q_1, .inl (cJ, 25, .inr (.inl (fun _ => 0))))] := hD
  refine va_putF (pc := 9) (ci := 10) (v := .ref q_1) (ty := (.array .long)) (C := RX10) (T := TX10) (N := 8) hx hb hts iX10 tyX10 tyX10_ok nmX10 hown hK hP hD hS 0 rfl rfl 0 (by decide) (hts _ tw_207) (fun _ h9 => h9) rfl hin rfl (by decide +kernel) rfl rfl (Nat.le_of_ble_eq_true rfl) dX10_init_9 (fun H locs hP hD hS => ?_)
  replace hP : va_P D gcl [(a0, .inr (10, [.ref q_1, .null, .null, .null, .null, .null, .null, .int 0])), (q_1, .inl (cJ, 25, .inr (.inl (fun _ => 0))))] H := hP
  replace hD : va_D A [(a0, .inr (10, [.ref q_1, .null, .null, .null, .null, .null, .null, .int 0])), (q_1, .inl (cJ, 25, .inr (.inl (fun _ => 0))))] := hD
  refine lv_aload_n (pc := 12) hx hb dX10_init_12 rfl (lv_at hl 0 rfl) ?_
  refine lv_iconst (pc := 13) (v := 5) hx hb dX10_init_13 (by decide) ?_
  as_aux_lemma =>
    refine g_newa (pc := 14) (atype := .long) (ty := .long) (a0 := (5, .inr (.inl (fun _ => 0)))) (N' := 5) hx hb (hts _ tw_241) rfl (fun _ h => h) hK 3 rfl hP hD hS hA (fun _ => rfl) (by decide +kernel) (by decide +kernel) (by decide +kernel) (Nat.le_of_ble_eq_true rfl) (Nat.le_of_ble_eq_true rfl) dX10_init_14 (fun q_2 H hP hD hS => ?_)
    replace hP : va_P D gcl [(a0, .inr (10, [.ref q_1, .null, .null, .null, .null, .null, .null, .int 0])), (q_1, .inl (cJ, 25, .inr (.inl (fun _ => 0)))), (q_2, .inl (cJ, 5, .inr (.inl (fun _ => 0))))] H := hP
    replace hD : va_D A [(a0, .inr (10, [.ref q_1, .null, .null, .null, .null, .null, .null, .int 0])), (q_1, .inl (cJ, 25, .inr (.inl (fun _ => 0)))), (q_2, .inl (cJ, 5, .inr (.inl (fun _ => 0))))] := hD
    refine va_putF (pc := 16) (ci := 10) (v := .ref q_2) (ty := (.array .long)) (C := RX10) (T := TX10) (N := 8) hx hb hts iX10 tyX10 tyX10_ok nmX10 hown hK hP hD hS 0 rfl rfl 1 (by decide) (hts _ tw_209) (fun _ h9 => h9) rfl hin rfl (by decide +kernel) rfl rfl (Nat.le_of_ble_eq_true rfl) dX10_init_16 (fun H locs hP hD hS => ?_)
    replace hP : va_P D gcl [(a0, .inr (10, [.ref q_1, .ref q_2, .null, .null, .null, .null, .null, .int 0])), (q_1, .inl (cJ, 25, .inr (.inl (fun _ => 0)))), (q_2, .inl (cJ, 5, .inr (.inl (fun _ => 0))))] H := hP
    replace hD : va_D A [(a0, .inr (10, [.ref q_1, .ref q_2, .null, .null, .null, .null, .null, .int 0])), (q_1, .inl (cJ, 25, .inr (.inl (fun _ => 0)))), (q_2, .inl (cJ, 5, .inr (.inl (fun _ => 0))))] := hD
    refine lv_aload_n (pc := 19) hx hb dX10_init_19 rfl (lv_at hl 0 rfl) ?_
    refine lv_bipush (pc := 20) (v := 25) hx hb dX10_init_20 (by decide) ?_
    refine g_newa (pc := 22) (atype := .long) (ty := .long) (a0 := (25, .inr (.inl (fun _ => 0)))) (N' := 25) hx hb (hts _ tw_241) rfl (fun _ h => h) hK 3 rfl hP hD hS hA (fun _ => rfl) (by decide +kernel) (by decide +kernel) (by decide +kernel) (Nat.le_of_ble_eq_true rfl) (Nat.le_of_ble_eq_true rfl) dX10_init_22 (fun q_3 H hP hD hS => ?_)
    replace hP : va_P D gcl [(a0, .inr (10, [.ref q_1, .ref q_2, .null, .null, .null, .null, .null, .int 0])), (q_1, .inl (cJ, 25, .inr (.inl (fun _ => 0)))), (q_2, .inl (cJ, 5, .inr (.inl (fun _ => 0)))), (q_3, .inl (cJ, 25, .inr (.inl (fun _ => 0))))] H := hP
    replace hD : va_D A [(a0, .inr (10, [.ref q_1, .ref q_2, .null, .null, .null, .null, .null, .int 0])), (q_1, .inl (cJ, 25, .inr (.inl (fun _ => 0)))), (q_2, .inl (cJ, 5, .inr (.inl (fun _ => 0)))), (q_3, .inl (cJ, 25, .inr (.inl (fun _ => 0))))] := hD
    refine va_putF (pc := 24) (ci := 10) (v := .ref q_3) (ty := (.array .long)) (C := RX10) (T := TX10) (N := 8) hx hb hts iX10 tyX10 tyX10_ok nmX10 hown hK hP hD hS 0 rfl rfl 2 (by decide) (hts _ tw_210) (fun _ h9 => h9) rfl hin rfl (by decide +kernel) rfl rfl (Nat.le_of_ble_eq_true rfl) dX10_init_24 (fun H locs hP hD hS => ?_)
    replace hP : va_P D gcl [(a0, .inr (10, [.ref q_1, .ref q_2, .ref q_3, .null, .null, .null, .null, .int 0])), (q_1, .inl (cJ, 25, .inr (.inl (fun _ => 0)))), (q_2, .inl (cJ, 5, .inr (.inl (fun _ => 0)))), (q_3, .inl (cJ, 25, .inr (.inl (fun _ => 0))))] H := hP
    replace hD : va_D A [(a0, .inr (10, [.ref q_1, .ref q_2, .ref q_3, .null, .null, .null, .null, .int 0])), (q_1, .inl (cJ, 25, .inr (.inl (fun _ => 0)))), (q_2, .inl (cJ, 5, .inr (.inl (fun _ => 0)))), (q_3, .inl (cJ, 25, .inr (.inl (fun _ => 0))))] := hD
    refine lv_aload_n (pc := 27) hx hb dX10_init_27 rfl (lv_at hl 0 rfl) ?_
    refine lv_iconst (pc := 28) (v := 5) hx hb dX10_init_28 (by decide) ?_
    refine g_newa (pc := 29) (atype := .int) (ty := .int) (a0 := (5, .inl (fun _ => 0))) (N' := 5) hx hb (hts _ tw_66) rfl (fun _ h => h) hK 2 rfl hP hD hS hA (fun _ => rfl) (by decide +kernel) (by decide +kernel) (by decide +kernel) (Nat.le_of_ble_eq_true rfl) (Nat.le_of_ble_eq_true rfl) dX10_init_29 (fun q_4 H hP hD hS => ?_)
    replace hP : va_P D gcl [(a0, .inr (10, [.ref q_1, .ref q_2, .ref q_3, .null, .null, .null, .null, .int 0])), (q_1, .inl (cJ, 25, .inr (.inl (fun _ => 0)))), (q_2, .inl (cJ, 5, .inr (.inl (fun _ => 0)))), (q_3, .inl (cJ, 25, .inr (.inl (fun _ => 0)))), (q_4, .inl (cI, 5, .inl (fun _ => 0)))] H := hP
    replace hD : va_D A [(a0, .inr (10, [.ref q_1, .ref q_2, .ref q_3, .null, .null, .null, .null, .int 0])), (q_1, .inl (cJ, 25, .inr (.inl (fun _ => 0)))), (q_2, .inl (cJ, 5, .inr (.inl (fun _ => 0)))), (q_3, .inl (cJ, 25, .inr (.inl (fun _ => 0)))), (q_4, .inl (cI, 5, .inl (fun _ => 0)))] := hD
    refine va_putF (pc := 31) (ci := 10) (v := .ref q_4) (ty := (.array .int)) (C := RX10) (T := TX10) (N := 8) hx hb hts iX10 tyX10 tyX10_ok nmX10 hown hK hP hD hS 0 rfl rfl 3 (by decide) (hts _ tw_211) (fun _ h9 => h9) rfl hin rfl (by decide +kernel) rfl rfl (Nat.le_of_ble_eq_true rfl) dX10_init_31 (fun H locs hP hD hS => ?_)
    replace hP : va_P D gcl [(a0, .inr (10, [.ref q_1, .ref q_2, .ref q_3, .ref q_4, .null, .null, .null, .int 0])), (q_1, .inl (cJ, 25, .inr (.inl (fun _ => 0)))), (q_2, .inl (cJ, 5, .inr (.inl (fun _ => 0)))), (q_3, .inl (cJ, 25, .inr (.inl (fun _ => 0)))), (q_4, .inl (cI, 5, .inl (fun _ => 0)))] H := hP
    replace hD : va_D A [(a0, .inr (10, [.ref q_1, .ref q_2, .ref q_3, .ref q_4, .null, .null, .null, .int 0])), (q_1, .inl (cJ, 25, .inr (.inl (fun _ => 0)))), (q_2, .inl (cJ, 5, .inr (.inl (fun _ => 0)))), (q_3, .inl (cJ, 25, .inr (.inl (fun _ => 0)))), (q_4, .inl (cI, 5, .inl (fun _ => 0)))] := hD
    as_aux_lemma =>
      refine lv_aload_n (pc := 34) hx hb dX10_init_34 rfl (lv_at hl 0 rfl) ?_
      refine lv_iconst (pc := 35) (v := 5) hx hb dX10_init_35 (by decide) ?_
      refine g_newa (pc := 36) (atype := .int) (ty := .int) (a0 := (5, .inl (fun _ => 0))) (N' := 5) hx hb (hts _ tw_66) rfl (fun _ h => h) hK 2 rfl hP hD hS hA (fun _ => rfl) (by decide +kernel) (by decide +kernel) (by decide +kernel) (Nat.le_of_ble_eq_true rfl) (Nat.le_of_ble_eq_true rfl) dX10_init_36 (fun q_5 H hP hD hS => ?_)
      replace hP : va_P D gcl [(a0, .inr (10, [.ref q_1, .ref q_2, .ref q_3, .ref q_4, .null, .null, .null, .int 0])), (q_1, .inl (cJ, 25, .inr (.inl (fun _ => 0)))), (q_2, .inl (cJ, 5, .inr (.inl (fun _ => 0)))), (q_3, .inl (cJ, 25, .inr (.inl (fun _ => 0)))), (q_4, .inl (cI, 5, .inl (fun _ => 0))), (q_5, .inl (cI, 5, .inl (fun _ => 0)))] H := hP
      replace hD : va_D A [(a0, .inr (10, [.ref q_1, .ref q_2, .ref q_3, .ref q_4, .null, .null, .null, .int 0])), (q_1, .inl (cJ, 25, .inr (.inl (fun _ => 0)))), (q_2, .inl (cJ, 5, .inr (.inl (fun _ => 0)))), (q_3, .inl (cJ, 25, .inr (.inl (fun _ => 0)))), (q_4, .inl (cI, 5, .inl (fun _ => 0))), (q_5, .inl (cI, 5, .inl (fun _ => 0)))] := hD
      refine va_putF (pc := 38) (ci := 10) (v := .ref q_5) (ty := (.array .int)) (C := RX10) (T := TX10) (N := 8) hx hb hts iX10 tyX10 tyX10_ok nmX10 hown hK hP hD hS 0 rfl rfl 4 (by decide) (hts _ tw_213) (fun _ h9 => h9) rfl hin rfl (by decide +kernel) rfl rfl (Nat.le_of_ble_eq_true rfl) dX10_init_38 (fun H locs hP hD hS => ?_)
      replace hP : va_P D gcl [(a0, .inr (10, [.ref q_1, .ref q_2, .ref q_3, .ref q_4, .ref q_5, .null, .null, .int 0])), (q_1, .inl (cJ, 25, .inr (.inl (fun _ => 0)))), (q_2, .inl (cJ, 5, .inr (.inl (fun _ => 0)))), (q_3, .inl (cJ, 25, .inr (.inl (fun _ => 0)))), (q_4, .inl (cI, 5, .inl (fun _ => 0))), (q_5, .inl (cI, 5, .inl (fun _ => 0)))] H := hP
      replace hD : va_D A [(a0, .inr (10, [.ref q_1, .ref q_2, .ref q_3, .ref q_4, .ref q_5, .null, .null, .int 0])), (q_1, .inl (cJ, 25, .inr (.inl (fun _ => 0)))), (q_2, .inl (cJ, 5, .inr (.inl (fun _ => 0)))), (q_3, .inl (cJ, 25, .inr (.inl (fun _ => 0)))), (q_4, .inl (cI, 5, .inl (fun _ => 0))), (q_5, .inl (cI, 5, .inl (fun _ => 0)))] := hD
      refine lv_aload_n (pc := 41) hx hb dX10_init_41 rfl (lv_at hl 0 rfl) ?_
      refine lv_iconst (pc := 42) (v := 5) hx hb dX10_init_42 (by decide) ?_
      refine g_newa (pc := 43) (atype := .int) (ty := .int) (a0 := (5, .inl (fun _ => 0))) (N' := 5) hx hb (hts _ tw_66) rfl (fun _ h => h) hK 2 rfl hP hD hS hA (fun _ => rfl) (by decide +kernel) (by decide +kernel) (by decide +kernel) (Nat.le_of_ble_eq_true rfl) (Nat.le_of_ble_eq_true rfl) dX10_init_43 (fun q_6 H hP hD hS => ?_)
      replace hP : va_P D gcl [(a0, .inr (10, [.ref q_1, .ref q_2, .ref q_3, .ref q_4, .ref q_5, .null, .null, .int 0])), (q_1, .inl (cJ, 25, .inr (.inl (fun _ => 0)))), (q_2, .inl (cJ, 5, .inr (.inl (fun _ => 0)))), (q_3, .inl (cJ, 25, .inr (.inl (fun _ => 0)))), (q_4, .inl (cI, 5, .inl (fun _ => 0))), (q_5, .inl (cI, 5, .inl (fun _ => 0))), (q_6, .inl (cI, 5, .inl (fun _ => 0)))] H := hP
      replace hD : va_D A [(a0, .inr (10, [.ref q_1, .ref q_2, .ref q_3, .ref q_4, .ref q_5, .null, .null, .int 0])), (q_1, .inl (cJ, 25, .inr (.inl (fun _ => 0)))), (q_2, .inl (cJ, 5, .inr (.inl (fun _ => 0)))), (q_3, .inl (cJ, 25, .inr (.inl (fun _ => 0)))), (q_4, .inl (cI, 5, .inl (fun _ => 0))), (q_5, .inl (cI, 5, .inl (fun _ => 0))), (q_6, .inl (cI, 5, .inl (fun _ => 0)))] := hD
      refine va_putF (pc := 45) (ci := 10) (v := .ref q_6) (ty := (.array .int)) (C := RX10) (T := TX10) (N := 8) hx hb hts iX10 tyX10 tyX10_ok nmX10 hown hK hP hD hS 0 rfl rfl 5 (by decide) (hts _ tw_214) (fun _ h9 => h9) rfl hin rfl (by decide +kernel) rfl rfl (Nat.le_of_ble_eq_true rfl) dX10_init_45 (fun H locs hP hD hS => ?_)
      replace hP : va_P D gcl [(a0, .inr (10, [.ref q_1, .ref q_2, .ref q_3, .ref q_4, .ref q_5, .ref q_6, .null, .int 0])), (q_1, .inl (cJ, 25, .inr (.inl (fun _ => 0)))), (q_2, .inl (cJ, 5, .inr (.inl (fun _ => 0)))), (q_3, .inl (cJ, 25, .inr (.inl (fun _ => 0)))), (q_4, .inl (cI, 5, .inl (fun _ => 0))), (q_5, .inl (cI, 5, .inl (fun _ => 0))), (q_6, .inl (cI, 5, .inl (fun _ => 0)))] H := hP
      replace hD : va_D A [(a0, .inr (10, [.ref q_1, .ref q_2, .ref q_3, .ref q_4, .ref q_5, .ref q_6, .null, .int 0])), (q_1, .inl (cJ, 25, .inr (.inl (fun _ => 0)))), (q_2, .inl (cJ, 5, .inr (.inl (fun _ => 0)))), (q_3, .inl (cJ, 25, .inr (.inl (fun _ => 0)))), (q_4, .inl (cI, 5, .inl (fun _ => 0))), (q_5, .inl (cI, 5, .inl (fun _ => 0))), (q_6, .inl (cI, 5, .inl (fun _ => 0)))] := hD
      refine lv_aload_n (pc := 48) hx hb dX10_init_48 rfl (lv_at hl 0 rfl) ?_
      refine lv_iconst (pc := 49) (v := 5) hx hb dX10_init_49 (by decide) ?_
      as_aux_lemma =>
        refine g_newa (pc := 50) (atype := .int) (ty := .int) (a0 := (5, .inl (fun _ => 0))) (N' := 5) hx hb (hts _ tw_66) rfl (fun _ h => h) hK 2 rfl hP hD hS hA (fun _ => rfl) (by decide +kernel) (by decide +kernel) (by decide +kernel) (Nat.le_of_ble_eq_true rfl) (Nat.le_of_ble_eq_true rfl) dX10_init_50 (fun q_7 H hP hD hS => ?_)
        replace hP : va_P D gcl [(a0, .inr (10, [.ref q_1, .ref q_2, .ref q_3, .ref q_4, .ref q_5, .ref q_6, .null, .int 0])), (q_1, .inl (cJ, 25, .inr (.inl (fun _ => 0)))), (q_2, .inl (cJ, 5, .inr (.inl (fun _ => 0)))), (q_3, .inl (cJ, 25, .inr (.inl (fun _ => 0)))), (q_4, .inl (cI, 5, .inl (fun _ => 0))), (q_5, .inl (cI, 5, .inl (fun _ => 0))), (q_6, .inl (cI, 5, .inl (fun _ => 0))), (q_7, .inl (cI, 5, .inl (fun _ => 0)))] H := hP
        replace hD : va_D A [(a0, .inr (10, [.ref q_1, .ref q_2, .ref q_3, .ref q_4, .ref q_5, .ref q_6, .null, .int 0])), (q_1, .inl (cJ, 25, .inr (.inl (fun _ => 0)))), (q_2, .inl (cJ, 5, .inr (.inl (fun _ => 0)))), (q_3, .inl (cJ, 25, .inr (.inl (fun _ => 0)))), (q_4, .inl (cI, 5, .inl (fun _ => 0))), (q_5, .inl (cI, 5, .inl (fun _ => 0))), (q_6, .inl (cI, 5, .inl (fun _ => 0))), (q_7, .inl (cI, 5, .inl (fun _ => 0)))] := hD
        refine va_putF (pc := 52) (ci := 10) (v := .ref q_7) (ty := (.array .int)) (C := RX10) (T := TX10) (N := 8) hx hb hts iX10 tyX10 tyX10_ok nmX10 hown hK hP hD hS 0 rfl rfl 6 (by decide) (hts _ tw_216) (fun _ h9 => h9) rfl hin rfl (by decide +kernel) rfl rfl (Nat.le_of_ble_eq_true rfl) dX10_init_52 (fun H locs hP hD hS => ?_)
        replace hP : va_P D gcl (zS_185 cB cC cI cJ a0 q_1 q_2 q_3 q_4 q_5 q_6 q_7 0 q_1 (fun _ => 0) q_2 (fun _ => 0) q_3 (fun _ => 0) q_4 (fun _ => 0) q_5 (fun _ => 0) q_6 (fun _ => 0) q_7 (fun _ => 0)) H := hP
        replace hD : va_D A (zS_185 cB cC cI cJ a0 q_1 q_2 q_3 q_4 q_5 q_6 q_7 0 q_1 (fun _ => 0) q_2 (fun _ => 0) q_3 (fun _ => 0) q_4 (fun _ => 0) q_5 (fun _ => 0) q_6 (fun _ => 0) q_7 (fun _ => 0)) := hD
        refine lv_aload_n (pc := 55) hx hb dX10_init_55 rfl (lv_at hl 0 rfl) ?_
        refine lv_iconst (pc := 56) (v := 0) hx hb dX10_init_56 (by decide) ?_
        refine va_put (pc := 57) (ci := 10) (v := .int 0) (ty := .int) (C := RX10) (T := TX10) (N := 8) hx hb hts iX10 tyX10 tyX10_ok nmX10 hown hK hP hD hS 0 rfl rfl 7 (by decide) (hts _ tw_220) (fun _ h9 => h9) rfl (by decide +kernel) (by decide +kernel) (by decide +kernel) (Nat.le_of_ble_eq_true rfl) dX10_init_57 (fun H locs hP hD hS => ?_)
        replace hP : va_P D gcl (zS_185 cB cC cI cJ a0 q_1 q_2 q_3 q_4 q_5 q_6 q_7 0 q_1 (fun _ => 0) q_2 (fun _ => 0) q_3 (fun _ => 0) q_4 (fun _ => 0) q_5 (fun _ => 0) q_6 (fun _ => 0) q_7 (fun _ => 0)) H := hP
        replace hD : va_D A (zS_185 cB cC cI cJ a0 q_1 q_2 q_3 q_4 q_5 q_6 q_7 0 q_1 (fun _ => 0) q_2 (fun _ => 0) q_3 (fun _ => 0) q_4 (fun _ => 0) q_5 (fun _ => 0) q_6 (fun _ => 0) q_7 (fun _ => 0)) := hD
        have hP9 := hP.sub (ws' := (zS_185 cB cC cI cJ a0 q_1 q_2 q_3 q_4 q_5 q_6 q_7 0 q_1 (fun _ => 0) q_2 (fun _ => 0) q_3 (fun _ => 0) q_4 (fun _ => 0) q_5 (fun _ => 0) q_6 (fun _ => 0) q_7 (fun _ => 0))) [0, 1, 2, 3, 4, 5, 6, 7] rfl
        have hD9 := hD.sub (ws' := (zS_185 cB cC cI cJ a0 q_1 q_2 q_3 q_4 q_5 q_6 q_7 0 q_1 (fun _ => 0) q_2 (fun _ => 0) q_3 (fun _ => 0) q_4 (fun _ => 0) q_5 (fun _ => 0) q_6 (fun _ => 0) q_7 (fun _ => 0))) [0, 1, 2, 3, 4, 5, 6, 7] (by decide) rfl
        refine W.widen (k := 7) (n := 75) (Nat.le_of_ble_eq_true rfl) (Nat.le_of_ble_eq_true rfl) ?_
        exact W.vret hx hb hr (fun t ht hW => ⟨⟨((fun k => [q_1, q_2, q_3, q_4, q_5, q_6, q_7].getD k 0), (fun _ => (fun _ => 0)), (fun _ => (fun _ => 0)), (fun _ => 0), (fun _ => 0)), rfl, trivial, by rw [ht]; exact hP9, hD9⟩, hS.F ht⟩) hS.2.2 dX10_init_60
set_option maxHeartbeats 4000000 in
set_option maxRecDepth 100000 in
theorem cc_7_yX7_init (l : Launch) (D : va_G) (cB cC cI cJ : ClassId) (sz : Nat) (a0 : Nat) : Met l yX7_init (.code yX7_init cX7_init 1 none :: lw_gd) ({ frames := 2, cells := 15, slots := 199, locals := 32 }) (gPre D [(cB, .byte), (cC, .char), (cI, .int), (cJ, .long)] [.ref a0] [(a0, .inr (7, [.null, .null, .null, .null, .null, .null, .null, .null, .int 0, .long 0, .int 0]))] sz) (va_Qv (fun _ => True) (gB D (va_A [(a0, .inr (7, [.null, .null, .null, .null, .null, .null, .null, .null, .int 0, .long 0, .int 0]))] sz) (fun u : gEx => (zS_176 cB cC cI cJ a0 (u.1 0) (u.1 8) (u.1 9) (u.1 10) (u.1 11) (u.1 12) (u.1 13) (u.1 14) 0 0 0 (u.1 0) (u.1 1) (u.1 2) (u.1 3) (u.1 4) (u.1 5) (u.1 6) (u.1 7) 0 (u.1 1) (fun _ => 0) (u.1 2) (fun _ => 0) (u.1 3) (fun _ => 0) (u.1 4) (fun _ => 0) (u.1 5) (fun _ => 0) (u.1 6) (fun _ => 0) (u.1 7) (fun _ => 0) (u.1 8) (fun _ => 0) (u.1 9) (fun _ => 0) (u.1 10) (fun _ => 0) (u.1 11) (fun _ => 0) (u.1 12) (fun _ => 0) (u.1 13) (fun _ => 0) (u.1 14) (fun _ => 0)))) (va_A [(a0, .inr (7, [.null, .null, .null, .null, .null, .null, .null, .null, .int 0, .long 0, .int 0]))] sz)) 15 199 (va_A [(a0, .inr (7, [.null, .null, .null, .null, .null, .null, .null, .null, .int 0, .long 0, .int 0]))] sz) := by
  refine Met.ofW (cc := cX7_init) (maxL := 1) (ret := none) (by decide) rfl ?_
  intro p e s m args below meth c s₁ B hml hv
  obtain ⟨rfl, hsz, hP, hK, hD0, hN⟩ := hv
  have hx := B.exec
  have hb := B.bytes
  have hr := B.returns
  have hts : ∀ w ∈ lw_gd, w.before _ s = true := fun w h => atoms_spec (ws := .code yX7_init cX7_init 1 none :: lw_gd) B.pre w (List.mem_cons_of_mem _ h)
  have hown : s.vm.findClass RX7 = some m.cls := findClass_of_methodNamed B.named
  have hlocks := B.notSynchronized
  have hin : meth.name = "<init>" := (name_of_methodNamed B.named B.method).1
  subst hsz
  have hD := hD0.self (sz := s.heap.size)
  generalize hAe : va_A [(a0, .inr (7, [.null, .null, .null, .null, .null, .null, .null, .null, .int 0, .long 0, .int 0]))] s.heap.size = A at hD ⊢
  have hA : ∀ q : Nat, s.heap.size ≤ q → A q := fun q h => by rw [← hAe]; exact Or.inr h
  have hS : va_S A s.heap s.heap [] := va_S.rf
  replace hP : va_P D gcl [(a0, .inr (7, [.null, .null, .null, .null, .null, .null, .null, .null, .int 0, .long 0, .int 0]))] s.heap := hP
  have hl := lv_entry ([.ref a0]) (n := 1) (Nat.le_of_ble_eq_true rfl)
  rw [lg_entry_eq]
  generalize (lg_sl ([.ref a0]) ++ List.replicate (1 - (lg_sl ([.ref a0])).length) Slot.unset).toArray = ls at hl ⊢
  replace hl : lv_has ls 1 [(0, .ref a0)] := hl
  refine lv_aload_n (pc := 0) hx hb dX7_init_0 rfl (lv_at hl 0 rfl) ?_
  refine W.objInit hx hb hown (hts _ tw_200) (hts _ tw_28) (hts _ tw_29) rfl (by rw [hml]; exact hl.1) rfl dX7_init_1 (Nat.le_of_ble_eq_true rfl) (Nat.le_of_ble_eq_true rfl) ?_
  refine W.eq (g2 := F0 m 4 ls []) rfl ?_
  refine lv_aload_n (pc := 4) hx hb dX7_init_4 rfl (lv_at hl 0 rfl) ?_
  refine va_new (pc := 5) (ci := 10) (fs := [.null, .null, .null, .null, .null, .null, .null, .int 0]) (C := RX10) (T := TX10) (N := 8) hx hb hts iX10 tyX10 tyX10_ok hown (hts _ tw_201) (hts _ tw_202) (hts _ tw_8) hK hP hD hS hA rfl (gdv_X10) (Nat.le_of_ble_eq_true rfl) (Nat.le_of_ble_eq_true rfl) dX7_init_5 (fun q_1 H hP hD hS => ?_)
  replace hP : va_P D gcl [(a0, .inr (7, [.null, .null, .null, .null, .null, .null, .null, .null, .int 0, .long 0, .int 0])), (q_1, .inr (10, [.null, .null, .null, .null, .null, .null, .null, .int 0]))] H := hP
  replace hD : va_D A [(a0, .inr (7, [.null, .null, .null, .null, .null, .null, .null, .null, .int 0, .long 0, .int 0])), (q_1, .inr (10, [.null, .null, .null, .null, .null, .null, .null, .int 0]))] := hD
  refine lv_dup (pc := 8) hx hb dX7_init_8 rfl ?_
  refine gc_v (pc := 9) (wc := [(q_1, .inr (10, [.null, .null, .null, .null, .null, .null, .null, .int 0]))]) (wr := [(a0, .inr (7, [.null, .null, .null, .null, .null, .null, .null, .null, .int 0, .long 0, .int 0]))]) hP hD hS hA [1] [0] rfl rfl (by decide) (by decide) (by decide) (fun hPc hDc => va_runIN (As := []) (rest := [.ref q_1, .ref a0]) ⟨hx, hb, hml, hown, hts⟩ (cc_6_yX10_init l D cB cC cI cJ _ q_1) ⟨gcwN hts tw_205 tw_8 (hN _ tn_203) hd_yX10_init ⟨Nat.le_of_ble_eq_true rfl, Nat.le_of_ble_eq_true rfl⟩, rfl, hts _ tw_204⟩ (gpreS hPc hK hDc hN) rfl rfl hl.1 rfl (lv_room (Nat.le_of_ble_eq_true rfl)) dX7_init_9 ⟨Nat.le_of_ble_eq_true rfl, Nat.le_of_ble_eq_true rfl⟩) (fun u_2 H locs hw_4 hP hD hS => ?_)
  replace hP : va_P D gcl [(a0, .inr (7, [.null, .null, .null, .null, .null, .null, .null, .null, .int 0, .long 0, .int 0])), (q_1, .inr (10, [.ref (u_2.1 0), .ref (u_2.1 1), .ref (u_2.1 2), .ref (u_2.1 3), .ref (u_2.1 4), .ref (u_2.1 5), .ref (u_2.1 6), .int 0])), ((u_2.1 0), .inl (cJ, 25, .inr (.inl (fun _ => 0)))), ((u_2.1 1), .inl (cJ, 5, .inr (.inl (fun _ => 0)))), ((u_2.1 2), .inl (cJ, 25, .inr (.inl (fun _ => 0)))), ((u_2.1 3), .inl (cI, 5, .inl (fun _ => 0))), ((u_2.1 4), .inl (cI, 5, .inl (fun _ => 0))), ((u_2.1 5), .inl (cI, 5, .inl (fun _ => 0))), ((u_2.1 6), .inl (cI, 5, .inl (fun _ => 0)))] H := hP
  replace hD : va_D A [(a0, .inr (7, [.null, .null, .null, .null, .null, .null, .null, .null, .int 0, .long 0, .int 0])), (q_1, .inr (10, [.ref (u_2.1 0), .ref (u_2.1 1), .ref (u_2.1 2), .ref (u_2.1 3), .ref (u_2.1 4), .ref (u_2.1 5), .ref (u_2.1 6), .int 0])), ((u_2.1 0), .inl (cJ, 25, .inr (.inl (fun _ => 0)))), ((u_2.1 1), .inl (cJ, 5, .inr (.inl (fun _ => 0)))), ((u_2.1 2), .inl (cJ, 25, .inr (.inl (fun _ => 0)))), ((u_2.1 3), .inl (cI, 5, .inl (fun _ => 0))), ((u_2.1 4), .inl (cI, 5, .inl (fun _ => 0))), ((u_2.1 5), .inl (cI, 5, .inl (fun _ => 0))), ((u_2.1 6), .inl (cI, 5, .inl (fun _ => 0)))] := hD
  refine va_putF (pc := 12) (ci := 7) (v := .ref q_1) (ty := (.object "ManyOut$Walk")) (C := RX7) (T := TX7) (N := 11) hx hb hts iX7 tyX7 tyX7_ok nmX7 hown hK hP hD hS 0 rfl rfl 0 (by decide) (hts _ tw_242) (fun _ h9 => h9) rfl hin rfl (by decide +kernel) rfl rfl (Nat.le_of_ble_eq_true rfl) dX7_init_12 (fun H locs hP hD hS => ?_)
  replace hP : va_P D gcl [(a0, .inr (7, [.ref q_1, .null, .null, .null, .null, .null, .null, .null, .int 0, .long 0, .int 0])), (q_1, .inr (10, [.ref (u_2.1 0), .ref (u_2.1 1), .ref (u_2.1 2), .ref (u_2.1 3), .ref (u_2.1 4), .ref (u_2.1 5), .ref (u_2.1 6), .int 0])), ((u_2.1 0), .inl (cJ, 25, .inr (.inl (fun _ => 0)))), ((u_2.1 1), .inl (cJ, 5, .inr (.inl (fun _ => 0)))), ((u_2.1 2), .inl (cJ, 25, .inr (.inl (fun _ => 0)))), ((u_2.1 3), .inl (cI, 5, .inl (fun _ => 0))), ((u_2.1 4), .inl (cI, 5, .inl (fun _ => 0))), ((u_2.1 5), .inl (cI, 5, .inl (fun _ => 0))), ((u_2.1 6), .inl (cI, 5, .inl (fun _ => 0)))] H := hP
  replace hD : va_D A [(a0, .inr (7, [.ref q_1, .null, .null, .null, .null, .null, .null, .null, .int 0, .long 0, .int 0])), (q_1, .inr (10, [.ref (u_2.1 0), .ref (u_2.1 1), .ref (u_2.1 2), .ref (u_2.1 3), .ref (u_2.1 4), .ref (u_2.1 5), .ref (u_2.1 6), .int 0])), ((u_2.1 0), .inl (cJ, 25, .inr (.inl (fun _ => 0)))), ((u_2.1 1), .inl (cJ, 5, .inr (.inl (fun _ => 0)))), ((u_2.1 2), .inl (cJ, 25, .inr (.inl (fun _ => 0)))), ((u_2.1 3), .inl (cI, 5, .inl (fun _ => 0))), ((u_2.1 4), .inl (cI, 5, .inl (fun _ => 0))), ((u_2.1 5), .inl (cI, 5, .inl (fun _ => 0))), ((u_2.1 6), .inl (cI, 5, .inl (fun _ => 0)))] := hD
  refine lv_aload_n (pc := 15) hx hb dX7_init_15 rfl (lv_at hl 0 rfl) ?_
  as_aux_lemma =>
    refine lv_bipush (pc := 16) (v := 10) hx hb dX7_init_16 (by decide) ?_
    refine g_newa (pc := 18) (atype := .long) (ty := .long) (a0 := (10, .inr (.inl (fun _ => 0)))) (N' := 10) hx hb (hts _ tw_241) rfl (fun _ h => h) hK 3 rfl hP hD hS hA (fun _ => rfl) (by decide +kernel) (by decide +kernel) (by decide +kernel) (Nat.le_of_ble_eq_true rfl) (Nat.le_of_ble_eq_true rfl) dX7_init_18 (fun q_5 H hP hD hS => ?_)
    replace hP : va_P D gcl [(a0, .inr (7, [.ref q_1, .null, .null, .null, .null, .null, .null, .null, .int 0, .long 0, .int 0])), (q_1, .inr (10, [.ref (u_2.1 0), .ref (u_2.1 1), .ref (u_2.1 2), .ref (u_2.1 3), .ref (u_2.1 4), .ref (u_2.1 5), .ref (u_2.1 6), .int 0])), ((u_2.1 0), .inl (cJ, 25, .inr (.inl (fun _ => 0)))), ((u_2.1 1), .inl (cJ, 5, .inr (.inl (fun _ => 0)))), ((u_2.1 2), .inl (cJ, 25, .inr (.inl (fun _ => 0)))), ((u_2.1 3), .inl (cI, 5, .inl (fun _ => 0))), ((u_2.1 4), .inl (cI, 5, .inl (fun _ => 0))), ((u_2.1 5), .inl (cI, 5, .inl (fun _ => 0))), ((u_2.1 6), .inl (cI, 5, .inl (fun _ => 0))), (q_5, .inl (cJ, 10, .inr (.inl (fun _ => 0))))] H := hP
    replace hD : va_D A [(a0, .inr (7, [.ref q_1, .null, .null, .null, .null, .null, .null, .null, .int 0, .long 0, .int 0])), (q_1, .inr (10, [.ref (u_2.1 0), .ref (u_2.1 1), .ref (u_2.1 2), .ref (u_2.1 3), .ref (u_2.1 4), .ref (u_2.1 5), .ref (u_2.1 6), .int 0])), ((u_2.1 0), .inl (cJ, 25, .inr (.inl (fun _ => 0)))), ((u_2.1 1), .inl (cJ, 5, .inr (.inl (fun _ => 0)))), ((u_2.1 2), .inl (cJ, 25, .inr (.inl (fun _ => 0)))), ((u_2.1 3), .inl (cI, 5, .inl (fun _ => 0))), ((u_2.1 4), .inl (cI, 5, .inl (fun _ => 0))), ((u_2.1 5), .inl (cI, 5, .inl (fun _ => 0))), ((u_2.1 6), .inl (cI, 5, .inl (fun _ => 0))), (q_5, .inl (cJ, 10, .inr (.inl (fun _ => 0))))] := hD
    refine va_putF (pc := 20) (ci := 7) (v := .ref q_5) (ty := (.array .long)) (C := RX7) (T := TX7) (N := 11) hx hb hts iX7 tyX7 tyX7_ok nmX7 hown hK hP hD hS 0 rfl rfl 1 (by decide) (hts _ tw_243) (fun _ h9 => h9) rfl hin rfl (by decide +kernel) rfl rfl (Nat.le_of_ble_eq_true rfl) dX7_init_20 (fun H locs hP hD hS => ?_)
    replace hP : va_P D gcl [(a0, .inr (7, [.ref q_1, .ref q_5, .null, .null, .null, .null, .null, .null, .int 0, .long 0, .int 0])), (q_1, .inr (10, [.ref (u_2.1 0), .ref (u_2.1 1), .ref (u_2.1 2), .ref (u_2.1 3), .ref (u_2.1 4), .ref (u_2.1 5), .ref (u_2.1 6), .int 0])), ((u_2.1 0), .inl (cJ, 25, .inr (.inl (fun _ => 0)))), ((u_2.1 1), .inl (cJ, 5, .inr (.inl (fun _ => 0)))), ((u_2.1 2), .inl (cJ, 25, .inr (.inl (fun _ => 0)))), ((u_2.1 3), .inl (cI, 5, .inl (fun _ => 0))), ((u_2.1 4), .inl (cI, 5, .inl (fun _ => 0))), ((u_2.1 5), .inl (cI, 5, .inl (fun _ => 0))), ((u_2.1 6), .inl (cI, 5, .inl (fun _ => 0))), (q_5, .inl (cJ, 10, .inr (.inl (fun _ => 0))))] H := hP
    replace hD : va_D A [(a0, .inr (7, [.ref q_1, .ref q_5, .null, .null, .null, .null, .null, .null, .int 0, .long 0, .int 0])), (q_1, .inr (10, [.ref (u_2.1 0), .ref (u_2.1 1), .ref (u_2.1 2), .ref (u_2.1 3), .ref (u_2.1 4), .ref (u_2.1 5), .ref (u_2.1 6), .int 0])), ((u_2.1 0), .inl (cJ, 25, .inr (.inl (fun _ => 0)))), ((u_2.1 1), .inl (cJ, 5, .inr (.inl (fun _ => 0)))), ((u_2.1 2), .inl (cJ, 25, .inr (.inl (fun _ => 0)))), ((u_2.1 3), .inl (cI, 5, .inl (fun _ => 0))), ((u_2.1 4), .inl (cI, 5, .inl (fun _ => 0))), ((u_2.1 5), .inl (cI, 5, .inl (fun _ => 0))), ((u_2.1 6), .inl (cI, 5, .inl (fun _ => 0))), (q_5, .inl (cJ, 10, .inr (.inl (fun _ => 0))))] := hD
    refine lv_aload_n (pc := 23) hx hb dX7_init_23 rfl (lv_at hl 0 rfl) ?_
    refine lv_bipush (pc := 24) (v := 10) hx hb dX7_init_24 (by decide) ?_
    refine g_newa (pc := 26) (atype := .int) (ty := .int) (a0 := (10, .inl (fun _ => 0))) (N' := 10) hx hb (hts _ tw_66) rfl (fun _ h => h) hK 2 rfl hP hD hS hA (fun _ => rfl) (by decide +kernel) (by decide +kernel) (by decide +kernel) (Nat.le_of_ble_eq_true rfl) (Nat.le_of_ble_eq_true rfl) dX7_init_26 (fun q_6 H hP hD hS => ?_)
    replace hP : va_P D gcl [(a0, .inr (7, [.ref q_1, .ref q_5, .null, .null, .null, .null, .null, .null, .int 0, .long 0, .int 0])), (q_1, .inr (10, [.ref (u_2.1 0), .ref (u_2.1 1), .ref (u_2.1 2), .ref (u_2.1 3), .ref (u_2.1 4), .ref (u_2.1 5), .ref (u_2.1 6), .int 0])), ((u_2.1 0), .inl (cJ, 25, .inr (.inl (fun _ => 0)))), ((u_2.1 1), .inl (cJ, 5, .inr (.inl (fun _ => 0)))), ((u_2.1 2), .inl (cJ, 25, .inr (.inl (fun _ => 0)))), ((u_2.1 3), .inl (cI, 5, .inl (fun _ => 0))), ((u_2.1 4), .inl (cI, 5, .inl (fun _ => 0))), ((u_2.1 5), .inl (cI, 5, .inl (fun _ => 0))), ((u_2.1 6), .inl (cI, 5, .inl (fun _ => 0))), (q_5, .inl (cJ, 10, .inr (.inl (fun _ => 0)))), (q_6, .inl (cI, 10, .inl (fun _ => 0)))] H := hP
    replace hD : va_D A [(a0, .inr (7, [.ref q_1, .ref q_5, .null, .null, .null, .null, .null, .null, .int 0, .long 0, .int 0])), (q_1, .inr (10, [.ref (u_2.1 0), .ref (u_2.1 1), .ref (u_2.1 2), .ref (u_2.1 3), .ref (u_2.1 4), .ref (u_2.1 5), .ref (u_2.1 6), .int 0])), ((u_2.1 0), .inl (cJ, 25, .inr (.inl (fun _ => 0)))), ((u_2.1 1), .inl (cJ, 5, .inr (.inl (fun _ => 0)))), ((u_2.1 2), .inl (cJ, 25, .inr (.inl (fun _ => 0)))), ((u_2.1 3), .inl (cI, 5, .inl (fun _ => 0))), ((u_2.1 4), .inl (cI, 5, .inl (fun _ => 0))), ((u_2.1 5), .inl (cI, 5, .inl (fun _ => 0))), ((u_2.1 6), .inl (cI, 5, .inl (fun _ => 0))), (q_5, .inl (cJ, 10, .inr (.inl (fun _ => 0)))), (q_6, .inl (cI, 10, .inl (fun _ => 0)))] := hD
    refine va_putF (pc := 28) (ci := 7) (v := .ref q_6) (ty := (.array .int)) (C := RX7) (T := TX7) (N := 11) hx hb hts iX7 tyX7 tyX7_ok nmX7 hown hK hP hD hS 0 rfl rfl 2 (by decide) (hts _ tw_245) (fun _ h9 => h9) rfl hin rfl (by decide +kernel) rfl rfl (Nat.le_of_ble_eq_true rfl) dX7_init_28 (fun H locs hP hD hS => ?_)
    replace hP : va_P D gcl [(a0, .inr (7, [.ref q_1, .ref q_5, .ref q_6, .null, .null, .null, .null, .null, .int 0, .long 0, .int 0])), (q_1, .inr (10, [.ref (u_2.1 0), .ref (u_2.1 1), .ref (u_2.1 2), .ref (u_2.1 3), .ref (u_2.1 4), .ref (u_2.1 5), .ref (u_2.1 6), .int 0])), ((u_2.1 0), .inl (cJ, 25, .inr (.inl (fun _ => 0)))), ((u_2.1 1), .inl (cJ, 5, .inr (.inl (fun _ => 0)))), ((u_2.1 2), .inl (cJ, 25, .inr (.inl (fun _ => 0)))), ((u_2.1 3), .inl (cI, 5, .inl (fun _ => 0))), ((u_2.1 4), .inl (cI, 5, .inl (fun _ => 0))), ((u_2.1 5), .inl (cI, 5, .inl (fun _ => 0))), ((u_2.1 6), .inl (cI, 5, .inl (fun _ => 0))), (q_5, .inl (cJ, 10, .inr (.inl (fun _ => 0)))), (q_6, .inl (cI, 10, .inl (fun _ => 0)))] H := hP
    replace hD : va_D A [(a0, .inr (7, [.ref q_1, .ref q_5, .ref q_6, .null, .null, .null, .null, .null, .int 0, .long 0, .int 0])), (q_1, .inr (10, [.ref (u_2.1 0), .ref (u_2.1 1), .ref (u_2.1 2), .ref (u_2.1 3), .ref (u_2.1 4), .ref (u_2.1 5), .ref (u_2.1 6), .int 0])), ((u_2.1 0), .inl (cJ, 25, .inr (.inl (fun _ => 0)))), ((u_2.1 1), .inl (cJ, 5, .inr (.inl (fun _ => 0)))), ((u_2.1 2), .inl (cJ, 25, .inr (.inl (fun _ => 0)))), ((u_2.1 3), .inl (cI, 5, .inl (fun _ => 0))), ((u_2.1 4), .inl (cI, 5, .inl (fun _ => 0))), ((u_2.1 5), .inl (cI, 5, .inl (fun _ => 0))), ((u_2.1 6), .inl (cI, 5, .inl (fun _ => 0))), (q_5, .inl (cJ, 10, .inr (.inl (fun _ => 0)))), (q_6, .inl (cI, 10, .inl (fun _ => 0)))] := hD
    refine lv_aload_n (pc := 31) hx hb dX7_init_31 rfl (lv_at hl 0 rfl) ?_
    refine lv_bipush (pc := 32) (v := 40) hx hb dX7_init_32 (by decide) ?_
    refine g_newa (pc := 34) (atype := .long) (ty := .long) (a0 := (40, .inr (.inl (fun _ => 0)))) (N' := 40) hx hb (hts _ tw_241) rfl (fun _ h => h) hK 3 rfl hP hD hS hA (fun _ => rfl) (by decide +kernel) (by decide +kernel) (by decide +kernel) (Nat.le_of_ble_eq_true rfl) (Nat.le_of_ble_eq_true rfl) dX7_init_34 (fun q_7 H hP hD hS => ?_)
    replace hP : va_P D gcl [(a0, .inr (7, [.ref q_1, .ref q_5, .ref q_6, .null, .null, .null, .null, .null, .int 0, .long 0, .int 0])), (q_1, .inr (10, [.ref (u_2.1 0), .ref (u_2.1 1), .ref (u_2.1 2), .ref (u_2.1 3), .ref (u_2.1 4), .ref (u_2.1 5), .ref (u_2.1 6), .int 0])), ((u_2.1 0), .inl (cJ, 25, .inr (.inl (fun _ => 0)))), ((u_2.1 1), .inl (cJ, 5, .inr (.inl (fun _ => 0)))), ((u_2.1 2), .inl (cJ, 25, .inr (.inl (fun _ => 0)))), ((u_2.1 3), .inl (cI, 5, .inl (fun _ => 0))), ((u_2.1 4), .inl (cI, 5, .inl (fun _ => 0))), ((u_2.1 5), .inl (cI, 5, .inl (fun _ => 0))), ((u_2.1 6), .inl (cI, 5, .inl (fun _ => 0))), (q_5, .inl (cJ, 10, .inr (.inl (fun _ => 0)))), (q_6, .inl (cI, 10, .inl (fun _ => 0))), (q_7, .inl (cJ, 40, .inr (.inl (fun _ => 0))))] H := hP
    replace hD : va_D A [(a0, .inr (7, [.ref q_1, .ref q_5, .ref q_6, .null, .null, .null, .null, .null, .int 0, .long 0, .int 0])), (q_1, .inr (10, [.ref (u_2.1 0), .ref (u_2.1 1), .ref (u_2.1 2), .ref (u_2.1 3), .ref (u_2.1 4), .ref (u_2.1 5), .ref (u_2.1 6), .int 0])), ((u_2.1 0), .inl (cJ, 25, .inr (.inl (fun _ => 0)))), ((u_2.1 1), .inl (cJ, 5, .inr (.inl (fun _ => 0)))), ((u_2.1 2), .inl (cJ, 25, .inr (.inl (fun _ => 0)))), ((u_2.1 3), .inl (cI, 5, .inl (fun _ => 0))), ((u_2.1 4), .inl (cI, 5, .inl (fun _ => 0))), ((u_2.1 5), .inl (cI, 5, .inl (fun _ => 0))), ((u_2.1 6), .inl (cI, 5, .inl (fun _ => 0))), (q_5, .inl (cJ, 10, .inr (.inl (fun _ => 0)))), (q_6, .inl (cI, 10, .inl (fun _ => 0))), (q_7, .inl (cJ, 40, .inr (.inl (fun _ => 0))))] := hD
    as_aux_lemma =>
      refine va_putF (pc := 36) (ci := 7) (v := .ref q_7) (ty := (.array .long)) (C := RX7) (T := TX7) (N := 11) hx hb hts iX7 tyX7 tyX7_ok nmX7 hown hK hP hD hS 0 rfl rfl 3 (by decide) (hts _ tw_247) (fun _ h9 => h9) rfl hin rfl (by decide +kernel) rfl rfl (Nat.le_of_ble_eq_true rfl) dX7_init_36 (fun H locs hP hD hS => ?_)
      replace hP : va_P D gcl [(a0, .inr (7, [.ref q_1, .ref q_5, .ref q_6, .ref q_7, .null, .null, .null, .null, .int 0, .long 0, .int 0])), (q_1, .inr (10, [.ref (u_2.1 0), .ref (u_2.1 1), .ref (u_2.1 2), .ref (u_2.1 3), .ref (u_2.1 4), .ref (u_2.1 5), .ref (u_2.1 6), .int 0])), ((u_2.1 0), .inl (cJ, 25, .inr (.inl (fun _ => 0)))), ((u_2.1 1), .inl (cJ, 5, .inr (.inl (fun _ => 0)))), ((u_2.1 2), .inl (cJ, 25, .inr (.inl (fun _ => 0)))), ((u_2.1 3), .inl (cI, 5, .inl (fun _ => 0))), ((u_2.1 4), .inl (cI, 5, .inl (fun _ => 0))), ((u_2.1 5), .inl (cI, 5, .inl (fun _ => 0))), ((u_2.1 6), .inl (cI, 5, .inl (fun _ => 0))), (q_5, .inl (cJ, 10, .inr (.inl (fun _ => 0)))), (q_6, .inl (cI, 10, .inl (fun _ => 0))), (q_7, .inl (cJ, 40, .inr (.inl (fun _ => 0))))] H := hP
      replace hD : va_D A [(a0, .inr (7, [.ref q_1, .ref q_5, .ref q_6, .ref q_7, .null, .null, .null, .null, .int 0, .long 0, .int 0])), (q_1, .inr (10, [.ref (u_2.1 0), .ref (u_2.1 1), .ref (u_2.1 2), .ref (u_2.1 3), .ref (u_2.1 4), .ref (u_2.1 5), .ref (u_2.1 6), .int 0])), ((u_2.1 0), .inl (cJ, 25, .inr (.inl (fun _ => 0)))), ((u_2.1 1), .inl (cJ, 5, .inr (.inl (fun _ => 0)))), ((u_2.1 2), .inl (cJ, 25, .inr (.inl (fun _ => 0)))), ((u_2.1 3), .inl (cI, 5, .inl (fun _ => 0))), ((u_2.1 4), .inl (cI, 5, .inl (fun _ => 0))), ((u_2.1 5), .inl (cI, 5, .inl (fun _ => 0))), ((u_2.1 6), .inl (cI, 5, .inl (fun _ => 0))), (q_5, .inl (cJ, 10, .inr (.inl (fun _ => 0)))), (q_6, .inl (cI, 10, .inl (fun _ => 0))), (q_7, .inl (cJ, 40, .inr (.inl (fun _ => 0))))] := hD
      refine lv_aload_n (pc := 39) hx hb dX7_init_39 rfl (lv_at hl 0 rfl) ?_
      refine lv_bipush (pc := 40) (v := 40) hx hb dX7_init_40 (by decide) ?_
      refine g_newa (pc := 42) (atype := .long) (ty := .long) (a0 := (40, .inr (.inl (fun _ => 0)))) (N' := 40) hx hb (hts _ tw_241) rfl (fun _ h => h) hK 3 rfl hP hD hS hA (fun _ => rfl) (by decide +kernel) (by decide +kernel) (by decide +kernel) (Nat.le_of_ble_eq_true rfl) (Nat.le_of_ble_eq_true rfl) dX7_init_42 (fun q_8 H hP hD hS => ?_)
      replace hP : va_P D gcl [(a0, .inr (7, [.ref q_1, .ref q_5, .ref q_6, .ref q_7, .null, .null, .null, .null, .int 0, .long 0, .int 0])), (q_1, .inr (10, [.ref (u_2.1 0), .ref (u_2.1 1), .ref (u_2.1 2), .ref (u_2.1 3), .ref (u_2.1 4), .ref (u_2.1 5), .ref (u_2.1 6), .int 0])), ((u_2.1 0), .inl (cJ, 25, .inr (.inl (fun _ => 0)))), ((u_2.1 1), .inl (cJ, 5, .inr (.inl (fun _ => 0)))), ((u_2.1 2), .inl (cJ, 25, .inr (.inl (fun _ => 0)))), ((u_2.1 3), .inl (cI, 5, .inl (fun _ => 0))), ((u_2.1 4), .inl (cI, 5, .inl (fun _ => 0))), ((u_2.1 5), .inl (cI, 5, .inl (fun _ => 0))), ((u_2.1 6), .inl (cI, 5, .inl (fun _ => 0))), (q_5, .inl (cJ, 10, .inr (.inl (fun _ => 0)))), (q_6, .inl (cI, 10, .inl (fun _ => 0))), (q_7, .inl (cJ, 40, .inr (.inl (fun _ => 0)))), (q_8, .inl (cJ, 40, .inr (.inl (fun _ => 0))))] H := hP
      replace hD : va_D A [(a0, .inr (7, [.ref q_1, .ref q_5, .ref q_6, .ref q_7, .null, .null, .null, .null, .int 0, .long 0, .int 0])), (q_1, .inr (10, [.ref (u_2.1 0), .ref (u_2.1 1), .ref (u_2.1 2), .ref (u_2.1 3), .ref (u_2.1 4), .ref (u_2.1 5), .ref (u_2.1 6), .int 0])), ((u_2.1 0), .inl (cJ, 25, .inr (.inl (fun _ => 0)))), ((u_2.1 1), .inl (cJ, 5, .inr (.inl (fun _ => 0)))), ((u_2.1 2), .inl (cJ, 25, .inr (.inl (fun _ => 0)))), ((u_2.1 3), .inl (cI, 5, .inl (fun _ => 0))), ((u_2.1 4), .inl (cI, 5, .inl (fun _ => 0))), ((u_2.1 5), .inl (cI, 5, .inl (fun _ => 0))), ((u_2.1 6), .inl (cI, 5, .inl (fun _ => 0))), (q_5, .inl (cJ, 10, .inr (.inl (fun _ => 0)))), (q_6, .inl (cI, 10, .inl (fun _ => 0))), (q_7, .inl (cJ, 40, .inr (.inl (fun _ => 0)))), (q_8, .inl (cJ, 40, .inr (.inl (fun _ => 0))))] := hD
      refine va_putF (pc := 44) (ci := 7) (v := .ref q_8) (ty := (.array .long)) (C := RX7) (T := TX7) (N := 11) hx hb hts iX7 tyX7 tyX7_ok nmX7 hown hK hP hD hS 0 rfl rfl 4 (by decide) (hts _ tw_248) (fun _ h9 => h9) rfl hin rfl (by decide +kernel) rfl rfl (Nat.le_of_ble_eq_true rfl) dX7_init_44 (fun H locs hP hD hS => ?_)
      replace hP : va_P D gcl [(a0, .inr (7, [.ref q_1, .ref q_5, .ref q_6, .ref q_7, .ref q_8, .null, .null, .null, .int 0, .long 0, .int 0])), (q_1, .inr (10, [.ref (u_2.1 0), .ref (u_2.1 1), .ref (u_2.1 2), .ref (u_2.1 3), .ref (u_2.1 4), .ref (u_2.1 5), .ref (u_2.1 6), .int 0])), ((u_2.1 0), .inl (cJ, 25, .inr (.inl (fun _ => 0)))), ((u_2.1 1), .inl (cJ, 5, .inr (.inl (fun _ => 0)))), ((u_2.1 2), .inl (cJ, 25, .inr (.inl (fun _ => 0)))), ((u_2.1 3), .inl (cI, 5, .inl (fun _ => 0))), ((u_2.1 4), .inl (cI, 5, .inl (fun _ => 0))), ((u_2.1 5), .inl (cI, 5, .inl (fun _ => 0))), ((u_2.1 6), .inl (cI, 5, .inl (fun _ => 0))), (q_5, .inl (cJ, 10, .inr (.inl (fun _ => 0)))), (q_6, .inl (cI, 10, .inl (fun _ => 0))), (q_7, .inl (cJ, 40, .inr (.inl (fun _ => 0)))), (q_8, .inl (cJ, 40, .inr (.inl (fun _ => 0))))] H := hP
      replace hD : va_D A [(a0, .inr (7, [.ref q_1, .ref q_5, .ref q_6, .ref q_7, .ref q_8, .null, .null, .null, .int 0, .long 0, .int 0])), (q_1, .inr (10, [.ref (u_2.1 0), .ref (u_2.1 1), .ref (u_2.1 2), .ref (u_2.1 3), .ref (u_2.1 4), .ref (u_2.1 5), .ref (u_2.1 6), .int 0])), ((u_2.1 0), .inl (cJ, 25, .inr (.inl (fun _ => 0)))), ((u_2.1 1), .inl (cJ, 5, .inr (.inl (fun _ => 0)))), ((u_2.1 2), .inl (cJ, 25, .inr (.inl (fun _ => 0)))), ((u_2.1 3), .inl (cI, 5, .inl (fun _ => 0))), ((u_2.1 4), .inl (cI, 5, .inl (fun _ => 0))), ((u_2.1 5), .inl (cI, 5, .inl (fun _ => 0))), ((u_2.1 6), .inl (cI, 5, .inl (fun _ => 0))), (q_5, .inl (cJ, 10, .inr (.inl (fun _ => 0)))), (q_6, .inl (cI, 10, .inl (fun _ => 0))), (q_7, .inl (cJ, 40, .inr (.inl (fun _ => 0)))), (q_8, .inl (cJ, 40, .inr (.inl (fun _ => 0))))] := hD
      refine lv_aload_n (pc := 47) hx hb dX7_init_47 rfl (lv_at hl 0 rfl) ?_
      refine lv_iconst (pc := 48) (v := 5) hx hb dX7_init_48 (by decide) ?_
      refine g_newa (pc := 49) (atype := .int) (ty := .int) (a0 := (5, .inl (fun _ => 0))) (N' := 5) hx hb (hts _ tw_66) rfl (fun _ h => h) hK 2 rfl hP hD hS hA (fun _ => rfl) (by decide +kernel) (by decide +kernel) (by decide +kernel) (Nat.le_of_ble_eq_true rfl) (Nat.le_of_ble_eq_true rfl) dX7_init_49 (fun q_9 H hP hD hS => ?_)
      replace hP : va_P D gcl [(a0, .inr (7, [.ref q_1, .ref q_5, .ref q_6, .ref q_7, .ref q_8, .null, .null, .null, .int 0, .long 0, .int 0])), (q_1, .inr (10, [.ref (u_2.1 0), .ref (u_2.1 1), .ref (u_2.1 2), .ref (u_2.1 3), .ref (u_2.1 4), .ref (u_2.1 5), .ref (u_2.1 6), .int 0])), ((u_2.1 0), .inl (cJ, 25, .inr (.inl (fun _ => 0)))), ((u_2.1 1), .inl (cJ, 5, .inr (.inl (fun _ => 0)))), ((u_2.1 2), .inl (cJ, 25, .inr (.inl (fun _ => 0)))), ((u_2.1 3), .inl (cI, 5, .inl (fun _ => 0))), ((u_2.1 4), .inl (cI, 5, .inl (fun _ => 0))), ((u_2.1 5), .inl (cI, 5, .inl (fun _ => 0))), ((u_2.1 6), .inl (cI, 5, .inl (fun _ => 0))), (q_5, .inl (cJ, 10, .inr (.inl (fun _ => 0)))), (q_6, .inl (cI, 10, .inl (fun _ => 0))), (q_7, .inl (cJ, 40, .inr (.inl (fun _ => 0)))), (q_8, .inl (cJ, 40, .inr (.inl (fun _ => 0)))), (q_9, .inl (cI, 5, .inl (fun _ => 0)))] H := hP
      replace hD : va_D A [(a0, .inr (7, [.ref q_1, .ref q_5, .ref q_6, .ref q_7, .ref q_8, .null, .null, .null, .int 0, .long 0, .int 0])), (q_1, .inr (10, [.ref (u_2.1 0), .ref (u_2.1 1), .ref (u_2.1 2), .ref (u_2.1 3), .ref (u_2.1 4), .ref (u_2.1 5), .ref (u_2.1 6), .int 0])), ((u_2.1 0), .inl (cJ, 25, .inr (.inl (fun _ => 0)))), ((u_2.1 1), .inl (cJ, 5, .inr (.inl (fun _ => 0)))), ((u_2.1 2), .inl (cJ, 25, .inr (.inl (fun _ => 0)))), ((u_2.1 3), .inl (cI, 5, .inl (fun _ => 0))), ((u_2.1 4), .inl (cI, 5, .inl (fun _ => 0))), ((u_2.1 5), .inl (cI, 5, .inl (fun _ => 0))), ((u_2.1 6), .inl (cI, 5, .inl (fun _ => 0))), (q_5, .inl (cJ, 10, .inr (.inl (fun _ => 0)))), (q_6, .inl (cI, 10, .inl (fun _ => 0))), (q_7, .inl (cJ, 40, .inr (.inl (fun _ => 0)))), (q_8, .inl (cJ, 40, .inr (.inl (fun _ => 0)))), (q_9, .inl (cI, 5, .inl (fun _ => 0)))] := hD
      refine va_putF (pc := 51) (ci := 7) (v := .ref q_9) (ty := (.array .int)) (C := RX7) (T := TX7) (N := 11) hx hb hts iX7 tyX7 tyX7_ok nmX7 hown hK hP hD hS 0 rfl rfl 5 (by decide) (hts _ tw_249) (fun _ h9 => h9) rfl hin rfl (by decide +kernel) rfl rfl (Nat.le_of_ble_eq_true rfl) dX7_init_51 (fun H locs hP hD hS => ?_)
      replace hP : va_P D gcl [(a0, .inr (7, [.ref q_1, .ref q_5, .ref q_6, .ref q_7, .ref q_8, .ref q_9, .null, .null, .int 0, .long 0, .int 0])), (q_1, .inr (10, [.ref (u_2.1 0), .ref (u_2.1 1), .ref (u_2.1 2), .ref (u_2.1 3), .ref (u_2.1 4), .ref (u_2.1 5), .ref (u_2.1 6), .int 0])), ((u_2.1 0), .inl (cJ, 25, .inr (.inl (fun _ => 0)))), ((u_2.1 1), .inl (cJ, 5, .inr (.inl (fun _ => 0)))), ((u_2.1 2), .inl (cJ, 25, .inr (.inl (fun _ => 0)))), ((u_2.1 3), .inl (cI, 5, .inl (fun _ => 0))), ((u_2.1 4), .inl (cI, 5, .inl (fun _ => 0))), ((u_2.1 5), .inl (cI, 5, .inl (fun _ => 0))), ((u_2.1 6), .inl (cI, 5, .inl (fun _ => 0))), (q_5, .inl (cJ, 10, .inr (.inl (fun _ => 0)))), (q_6, .inl (cI, 10, .inl (fun _ => 0))), (q_7, .inl (cJ, 40, .inr (.inl (fun _ => 0)))), (q_8, .inl (cJ, 40, .inr (.inl (fun _ => 0)))), (q_9, .inl (cI, 5, .inl (fun _ => 0)))] H := hP
      replace hD : va_D A [(a0, .inr (7, [.ref q_1, .ref q_5, .ref q_6, .ref q_7, .ref q_8, .ref q_9, .null, .null, .int 0, .long 0, .int 0])), (q_1, .inr (10, [.ref (u_2.1 0), .ref (u_2.1 1), .ref (u_2.1 2), .ref (u_2.1 3), .ref (u_2.1 4), .ref (u_2.1 5), .ref (u_2.1 6), .int 0])), ((u_2.1 0), .inl (cJ, 25, .inr (.inl (fun _ => 0)))), ((u_2.1 1), .inl (cJ, 5, .inr (.inl (fun _ => 0)))), ((u_2.1 2), .inl (cJ, 25, .inr (.inl (fun _ => 0)))), ((u_2.1 3), .inl (cI, 5, .inl (fun _ => 0))), ((u_2.1 4), .inl (cI, 5, .inl (fun _ => 0))), ((u_2.1 5), .inl (cI, 5, .inl (fun _ => 0))), ((u_2.1 6), .inl (cI, 5, .inl (fun _ => 0))), (q_5, .inl (cJ, 10, .inr (.inl (fun _ => 0)))), (q_6, .inl (cI, 10, .inl (fun _ => 0))), (q_7, .inl (cJ, 40, .inr (.inl (fun _ => 0)))), (q_8, .inl (cJ, 40, .inr (.inl (fun _ => 0)))), (q_9, .inl (cI, 5, .inl (fun _ => 0)))] := hD
      refine lv_aload_n (pc := 54) hx hb dX7_init_54 rfl (lv_at hl 0 rfl) ?_
      as_aux_lemma =>
        refine lv_iconst (pc := 55) (v := 5) hx hb dX7_init_55 (by decide) ?_
        refine g_newa (pc := 56) (atype := .int) (ty := .int) (a0 := (5, .inl (fun _ => 0))) (N' := 5) hx hb (hts _ tw_66) rfl (fun _ h => h) hK 2 rfl hP hD hS hA (fun _ => rfl) (by decide +kernel) (by decide +kernel) (by decide +kernel) (Nat.le_of_ble_eq_true rfl) (Nat.le_of_ble_eq_true rfl) dX7_init_56 (fun q_10 H hP hD hS => ?_)
        replace hP : va_P D gcl [(a0, .inr (7, [.ref q_1, .ref q_5, .ref q_6, .ref q_7, .ref q_8, .ref q_9, .null, .null, .int 0, .long 0, .int 0])), (q_1, .inr (10, [.ref (u_2.1 0), .ref (u_2.1 1), .ref (u_2.1 2), .ref (u_2.1 3), .ref (u_2.1 4), .ref (u_2.1 5), .ref (u_2.1 6), .int 0])), ((u_2.1 0), .inl (cJ, 25, .inr (.inl (fun _ => 0)))), ((u_2.1 1), .inl (cJ, 5, .inr (.inl (fun _ => 0)))), ((u_2.1 2), .inl (cJ, 25, .inr (.inl (fun _ => 0)))), ((u_2.1 3), .inl (cI, 5, .inl (fun _ => 0))), ((u_2.1 4), .inl (cI, 5, .inl (fun _ => 0))), ((u_2.1 5), .inl (cI, 5, .inl (fun _ => 0))), ((u_2.1 6), .inl (cI, 5, .inl (fun _ => 0))), (q_5, .inl (cJ, 10, .inr (.inl (fun _ => 0)))), (q_6, .inl (cI, 10, .inl (fun _ => 0))), (q_7, .inl (cJ, 40, .inr (.inl (fun _ => 0)))), (q_8, .inl (cJ, 40, .inr (.inl (fun _ => 0)))), (q_9, .inl (cI, 5, .inl (fun _ => 0))), (q_10, .inl (cI, 5, .inl (fun _ => 0)))] H := hP
        replace hD : va_D A [(a0, .inr (7, [.ref q_1, .ref q_5, .ref q_6, .ref q_7, .ref q_8, .ref q_9, .null, .null, .int 0, .long 0, .int 0])), (q_1, .inr (10, [.ref (u_2.1 0), .ref (u_2.1 1), .ref (u_2.1 2), .ref (u_2.1 3), .ref (u_2.1 4), .ref (u_2.1 5), .ref (u_2.1 6), .int 0])), ((u_2.1 0), .inl (cJ, 25, .inr (.inl (fun _ => 0)))), ((u_2.1 1), .inl (cJ, 5, .inr (.inl (fun _ => 0)))), ((u_2.1 2), .inl (cJ, 25, .inr (.inl (fun _ => 0)))), ((u_2.1 3), .inl (cI, 5, .inl (fun _ => 0))), ((u_2.1 4), .inl (cI, 5, .inl (fun _ => 0))), ((u_2.1 5), .inl (cI, 5, .inl (fun _ => 0))), ((u_2.1 6), .inl (cI, 5, .inl (fun _ => 0))), (q_5, .inl (cJ, 10, .inr (.inl (fun _ => 0)))), (q_6, .inl (cI, 10, .inl (fun _ => 0))), (q_7, .inl (cJ, 40, .inr (.inl (fun _ => 0)))), (q_8, .inl (cJ, 40, .inr (.inl (fun _ => 0)))), (q_9, .inl (cI, 5, .inl (fun _ => 0))), (q_10, .inl (cI, 5, .inl (fun _ => 0)))] := hD
        refine va_putF (pc := 58) (ci := 7) (v := .ref q_10) (ty := (.array .int)) (C := RX7) (T := TX7) (N := 11) hx hb hts iX7 tyX7 tyX7_ok nmX7 hown hK hP hD hS 0 rfl rfl 6 (by decide) (hts _ tw_251) (fun _ h9 => h9) rfl hin rfl (by decide +kernel) rfl rfl (Nat.le_of_ble_eq_true rfl) dX7_init_58 (fun H locs hP hD hS => ?_)
        replace hP : va_P D gcl [(a0, .inr (7, [.ref q_1, .ref q_5, .ref q_6, .ref q_7, .ref q_8, .ref q_9, .ref q_10, .null, .int 0, .long 0, .int 0])), (q_1, .inr (10, [.ref (u_2.1 0), .ref (u_2.1 1), .ref (u_2.1 2), .ref (u_2.1 3), .ref (u_2.1 4), .ref (u_2.1 5), .ref (u_2.1 6), .int 0])), ((u_2.1 0), .inl (cJ, 25, .inr (.inl (fun _ => 0)))), ((u_2.1 1), .inl (cJ, 5, .inr (.inl (fun _ => 0)))), ((u_2.1 2), .inl (cJ, 25, .inr (.inl (fun _ => 0)))), ((u_2.1 3), .inl (cI, 5, .inl (fun _ => 0))), ((u_2.1 4), .inl (cI, 5, .inl (fun _ => 0))), ((u_2.1 5), .inl (cI, 5, .inl (fun _ => 0))), ((u_2.1 6), .inl (cI, 5, .inl (fun _ => 0))), (q_5, .inl (cJ, 10, .inr (.inl (fun _ => 0)))), (q_6, .inl (cI, 10, .inl (fun _ => 0))), (q_7, .inl (cJ, 40, .inr (.inl (fun _ => 0)))), (q_8, .inl (cJ, 40, .inr (.inl (fun _ => 0)))), (q_9, .inl (cI, 5, .inl (fun _ => 0))), (q_10, .inl (cI, 5, .inl (fun _ => 0)))] H := hP
        replace hD : va_D A [(a0, .inr (7, [.ref q_1, .ref q_5, .ref q_6, .ref q_7, .ref q_8, .ref q_9, .ref q_10, .null, .int 0, .long 0, .int 0])), (q_1, .inr (10, [.ref (u_2.1 0), .ref (u_2.1 1), .ref (u_2.1 2), .ref (u_2.1 3), .ref (u_2.1 4), .ref (u_2.1 5), .ref (u_2.1 6), .int 0])), ((u_2.1 0), .inl (cJ, 25, .inr (.inl (fun _ => 0)))), ((u_2.1 1), .inl (cJ, 5, .inr (.inl (fun _ => 0)))), ((u_2.1 2), .inl (cJ, 25, .inr (.inl (fun _ => 0)))), ((u_2.1 3), .inl (cI, 5, .inl (fun _ => 0))), ((u_2.1 4), .inl (cI, 5, .inl (fun _ => 0))), ((u_2.1 5), .inl (cI, 5, .inl (fun _ => 0))), ((u_2.1 6), .inl (cI, 5, .inl (fun _ => 0))), (q_5, .inl (cJ, 10, .inr (.inl (fun _ => 0)))), (q_6, .inl (cI, 10, .inl (fun _ => 0))), (q_7, .inl (cJ, 40, .inr (.inl (fun _ => 0)))), (q_8, .inl (cJ, 40, .inr (.inl (fun _ => 0)))), (q_9, .inl (cI, 5, .inl (fun _ => 0))), (q_10, .inl (cI, 5, .inl (fun _ => 0)))] := hD
        refine lv_aload_n (pc := 61) hx hb dX7_init_61 rfl (lv_at hl 0 rfl) ?_
        refine lv_bipush (pc := 62) (v := 6) hx hb dX7_init_62 (by decide) ?_
        refine g_newa (pc := 64) (atype := .int) (ty := .int) (a0 := (6, .inl (fun _ => 0))) (N' := 6) hx hb (hts _ tw_66) rfl (fun _ h => h) hK 2 rfl hP hD hS hA (fun _ => rfl) (by decide +kernel) (by decide +kernel) (by decide +kernel) (Nat.le_of_ble_eq_true rfl) (Nat.le_of_ble_eq_true rfl) dX7_init_64 (fun q_11 H hP hD hS => ?_)
        replace hP : va_P D gcl [(a0, .inr (7, [.ref q_1, .ref q_5, .ref q_6, .ref q_7, .ref q_8, .ref q_9, .ref q_10, .null, .int 0, .long 0, .int 0])), (q_1, .inr (10, [.ref (u_2.1 0), .ref (u_2.1 1), .ref (u_2.1 2), .ref (u_2.1 3), .ref (u_2.1 4), .ref (u_2.1 5), .ref (u_2.1 6), .int 0])), ((u_2.1 0), .inl (cJ, 25, .inr (.inl (fun _ => 0)))), ((u_2.1 1), .inl (cJ, 5, .inr (.inl (fun _ => 0)))), ((u_2.1 2), .inl (cJ, 25, .inr (.inl (fun _ => 0)))), ((u_2.1 3), .inl (cI, 5, .inl (fun _ => 0))), ((u_2.1 4), .inl (cI, 5, .inl (fun _ => 0))), ((u_2.1 5), .inl (cI, 5, .inl (fun _ => 0))), ((u_2.1 6), .inl (cI, 5, .inl (fun _ => 0))), (q_5, .inl (cJ, 10, .inr (.inl (fun _ => 0)))), (q_6, .inl (cI, 10, .inl (fun _ => 0))), (q_7, .inl (cJ, 40, .inr (.inl (fun _ => 0)))), (q_8, .inl (cJ, 40, .inr (.inl (fun _ => 0)))), (q_9, .inl (cI, 5, .inl (fun _ => 0))), (q_10, .inl (cI, 5, .inl (fun _ => 0))), (q_11, .inl (cI, 6, .inl (fun _ => 0)))] H := hP
        replace hD : va_D A [(a0, .inr (7, [.ref q_1, .ref q_5, .ref q_6, .ref q_7, .ref q_8, .ref q_9, .ref q_10, .null, .int 0, .long 0, .int 0])), (q_1, .inr (10, [.ref (u_2.1 0), .ref (u_2.1 1), .ref (u_2.1 2), .ref (u_2.1 3), .ref (u_2.1 4), .ref (u_2.1 5), .ref (u_2.1 6), .int 0])), ((u_2.1 0), .inl (cJ, 25, .inr (.inl (fun _ => 0)))), ((u_2.1 1), .inl (cJ, 5, .inr (.inl (fun _ => 0)))), ((u_2.1 2), .inl (cJ, 25, .inr (.inl (fun _ => 0)))), ((u_2.1 3), .inl (cI, 5, .inl (fun _ => 0))), ((u_2.1 4), .inl (cI, 5, .inl (fun _ => 0))), ((u_2.1 5), .inl (cI, 5, .inl (fun _ => 0))), ((u_2.1 6), .inl (cI, 5, .inl (fun _ => 0))), (q_5, .inl (cJ, 10, .inr (.inl (fun _ => 0)))), (q_6, .inl (cI, 10, .inl (fun _ => 0))), (q_7, .inl (cJ, 40, .inr (.inl (fun _ => 0)))), (q_8, .inl (cJ, 40, .inr (.inl (fun _ => 0)))), (q_9, .inl (cI, 5, .inl (fun _ => 0))), (q_10, .inl (cI, 5, .inl (fun _ => 0))), (q_11, .inl (cI, 6, .inl (fun _ => 0)))] := hD
        refine va_putF (pc := 66) (ci := 7) (v := .ref q_11) (ty := (.array .int)) (C := RX7) (T := TX7) (N := 11) hx hb hts iX7 tyX7 tyX7_ok nmX7 hown hK hP hD hS 0 rfl rfl 7 (by decide) (hts _ tw_253) (fun _ h9 => h9) rfl hin rfl (by decide +kernel) rfl rfl (Nat.le_of_ble_eq_true rfl) dX7_init_66 (fun H locs hP hD hS => ?_)
        replace hP : va_P D gcl (zS_176 cB cC cI cJ a0 q_1 q_5 q_6 q_7 q_8 q_9 q_10 q_11 0 0 0 q_1 (u_2.1 0) (u_2.1 1) (u_2.1 2) (u_2.1 3) (u_2.1 4) (u_2.1 5) (u_2.1 6) 0 (u_2.1 0) (fun _ => 0) (u_2.1 1) (fun _ => 0) (u_2.1 2) (fun _ => 0) (u_2.1 3) (fun _ => 0) (u_2.1 4) (fun _ => 0) (u_2.1 5) (fun _ => 0) (u_2.1 6) (fun _ => 0) q_5 (fun _ => 0) q_6 (fun _ => 0) q_7 (fun _ => 0) q_8 (fun _ => 0) q_9 (fun _ => 0) q_10 (fun _ => 0) q_11 (fun _ => 0)) H := hP
        replace hD : va_D A (zS_176 cB cC cI cJ a0 q_1 q_5 q_6 q_7 q_8 q_9 q_10 q_11 0 0 0 q_1 (u_2.1 0) (u_2.1 1) (u_2.1 2) (u_2.1 3) (u_2.1 4) (u_2.1 5) (u_2.1 6) 0 (u_2.1 0) (fun _ => 0) (u_2.1 1) (fun _ => 0) (u_2.1 2) (fun _ => 0) (u_2.1 3) (fun _ => 0) (u_2.1 4) (fun _ => 0) (u_2.1 5) (fun _ => 0) (u_2.1 6) (fun _ => 0) q_5 (fun _ => 0) q_6 (fun _ => 0) q_7 (fun _ => 0) q_8 (fun _ => 0) q_9 (fun _ => 0) q_10 (fun _ => 0) q_11 (fun _ => 0)) := hD
        refine lv_aload_n (pc := 69) hx hb dX7_init_69 rfl (lv_at hl 0 rfl) ?_
        refine lv_iconst (pc := 70) (v := 0) hx hb dX7_init_70 (by decide) ?_
        refine va_put (pc := 71) (ci := 7) (v := .int 0) (ty := .int) (C := RX7) (T := TX7) (N := 11) hx hb hts iX7 tyX7 tyX7_ok nmX7 hown hK hP hD hS 0 rfl rfl 8 (by decide) (hts _ tw_254) (fun _ h9 => h9) rfl (by decide +kernel) (by decide +kernel) (by decide +kernel) (Nat.le_of_ble_eq_true rfl) dX7_init_71 (fun H locs hP hD hS => ?_)
        replace hP : va_P D gcl (zS_176 cB cC cI cJ a0 q_1 q_5 q_6 q_7 q_8 q_9 q_10 q_11 0 0 0 q_1 (u_2.1 0) (u_2.1 1) (u_2.1 2) (u_2.1 3) (u_2.1 4) (u_2.1 5) (u_2.1 6) 0 (u_2.1 0) (fun _ => 0) (u_2.1 1) (fun _ => 0) (u_2.1 2) (fun _ => 0) (u_2.1 3) (fun _ => 0) (u_2.1 4) (fun _ => 0) (u_2.1 5) (fun _ => 0) (u_2.1 6) (fun _ => 0) q_5 (fun _ => 0) q_6 (fun _ => 0) q_7 (fun _ => 0) q_8 (fun _ => 0) q_9 (fun _ => 0) q_10 (fun _ => 0) q_11 (fun _ => 0)) H := hP
        replace hD : va_D A (zS_176 cB cC cI cJ a0 q_1 q_5 q_6 q_7 q_8 q_9 q_10 q_11 0 0 0 q_1 (u_2.1 0) (u_2.1 1) (u_2.1 2) (u_2.1 3) (u_2.1 4) (u_2.1 5) (u_2.1 6) 0 (u_2.1 0) (fun _ => 0) (u_2.1 1) (fun _ => 0) (u_2.1 2) (fun _ => 0) (u_2.1 3) (fun _ => 0) (u_2.1 4) (fun _ => 0) (u_2.1 5) (fun _ => 0) (u_2.1 6) (fun _ => 0) q_5 (fun _ => 0) q_6 (fun _ => 0) q_7 (fun _ => 0) q_8 (fun _ => 0) q_9 (fun _ => 0) q_10 (fun _ => 0) q_11 (fun _ => 0)) := hD
        as_aux_lemma =>
          refine lv_aload_n (pc := 74) hx hb dX7_init_74 rfl (lv_at hl 0 rfl) ?_
          refine lv_lconst (pc := 75) (v := 0) hx hb dX7_init_75 (by decide) ?_
          refine va_put (pc := 76) (ci := 7) (v := .long 0) (ty := .long) (C := RX7) (T := TX7) (N := 11) hx hb hts iX7 tyX7 tyX7_ok nmX7 hown hK hP hD hS 0 rfl rfl 9 (by decide) (hts _ tw_256) (fun _ h9 => h9) rfl (by decide +kernel) (by decide +kernel) (by decide +kernel) (Nat.le_of_ble_eq_true rfl) dX7_init_76 (fun H locs hP hD hS => ?_)
          replace hP : va_P D gcl (zS_176 cB cC cI cJ a0 q_1 q_5 q_6 q_7 q_8 q_9 q_10 q_11 0 0 0 q_1 (u_2.1 0) (u_2.1 1) (u_2.1 2) (u_2.1 3) (u_2.1 4) (u_2.1 5) (u_2.1 6) 0 (u_2.1 0) (fun _ => 0) (u_2.1 1) (fun _ => 0) (u_2.1 2) (fun _ => 0) (u_2.1 3) (fun _ => 0) (u_2.1 4) (fun _ => 0) (u_2.1 5) (fun _ => 0) (u_2.1 6) (fun _ => 0) q_5 (fun _ => 0) q_6 (fun _ => 0) q_7 (fun _ => 0) q_8 (fun _ => 0) q_9 (fun _ => 0) q_10 (fun _ => 0) q_11 (fun _ => 0)) H := hP
          replace hD : va_D A (zS_176 cB cC cI cJ a0 q_1 q_5 q_6 q_7 q_8 q_9 q_10 q_11 0 0 0 q_1 (u_2.1 0) (u_2.1 1) (u_2.1 2) (u_2.1 3) (u_2.1 4) (u_2.1 5) (u_2.1 6) 0 (u_2.1 0) (fun _ => 0) (u_2.1 1) (fun _ => 0) (u_2.1 2) (fun _ => 0) (u_2.1 3) (fun _ => 0) (u_2.1 4) (fun _ => 0) (u_2.1 5) (fun _ => 0) (u_2.1 6) (fun _ => 0) q_5 (fun _ => 0) q_6 (fun _ => 0) q_7 (fun _ => 0) q_8 (fun _ => 0) q_9 (fun _ => 0) q_10 (fun _ => 0) q_11 (fun _ => 0)) := hD
          refine lv_aload_n (pc := 79) hx hb dX7_init_79 rfl (lv_at hl 0 rfl) ?_
          refine lv_iconst (pc := 80) (v := 0) hx hb dX7_init_80 (by decide) ?_
          refine va_put (pc := 81) (ci := 7) (v := .int 0) (ty := .boolean) (C := RX7) (T := TX7) (N := 11) hx hb hts iX7 tyX7 tyX7_ok nmX7 hown hK hP hD hS 0 rfl rfl 10 (by decide) (hts _ tw_257) (fun _ h9 => h9) rfl (by decide +kernel) (by decide +kernel) (by decide +kernel) (Nat.le_of_ble_eq_true rfl) dX7_init_81 (fun H locs hP hD hS => ?_)
          replace hP : va_P D gcl (zS_176 cB cC cI cJ a0 q_1 q_5 q_6 q_7 q_8 q_9 q_10 q_11 0 0 0 q_1 (u_2.1 0) (u_2.1 1) (u_2.1 2) (u_2.1 3) (u_2.1 4) (u_2.1 5) (u_2.1 6) 0 (u_2.1 0) (fun _ => 0) (u_2.1 1) (fun _ => 0) (u_2.1 2) (fun _ => 0) (u_2.1 3) (fun _ => 0) (u_2.1 4) (fun _ => 0) (u_2.1 5) (fun _ => 0) (u_2.1 6) (fun _ => 0) q_5 (fun _ => 0) q_6 (fun _ => 0) q_7 (fun _ => 0) q_8 (fun _ => 0) q_9 (fun _ => 0) q_10 (fun _ => 0) q_11 (fun _ => 0)) H := hP
          replace hD : va_D A (zS_176 cB cC cI cJ a0 q_1 q_5 q_6 q_7 q_8 q_9 q_10 q_11 0 0 0 q_1 (u_2.1 0) (u_2.1 1) (u_2.1 2) (u_2.1 3) (u_2.1 4) (u_2.1 5) (u_2.1 6) 0 (u_2.1 0) (fun _ => 0) (u_2.1 1) (fun _ => 0) (u_2.1 2) (fun _ => 0) (u_2.1 3) (fun _ => 0) (u_2.1 4) (fun _ => 0) (u_2.1 5) (fun _ => 0) (u_2.1 6) (fun _ => 0) q_5 (fun _ => 0) q_6 (fun _ => 0) q_7 (fun _ => 0) q_8 (fun _ => 0) q_9 (fun _ => 0) q_10 (fun _ => 0) q_11 (fun _ => 0)) := hD
          have hP9 := hP.sub (ws' := (zS_176 cB cC cI cJ a0 q_1 q_5 q_6 q_7 q_8 q_9 q_10 q_11 0 0 0 q_1 (u_2.1 0) (u_2.1 1) (u_2.1 2) (u_2.1 3) (u_2.1 4) (u_2.1 5) (u_2.1 6) 0 (u_2.1 0) (fun _ => 0) (u_2.1 1) (fun _ => 0) (u_2.1 2) (fun _ => 0) (u_2.1 3) (fun _ => 0) (u_2.1 4) (fun _ => 0) (u_2.1 5) (fun _ => 0) (u_2.1 6) (fun _ => 0) q_5 (fun _ => 0) q_6 (fun _ => 0) q_7 (fun _ => 0) q_8 (fun _ => 0) q_9 (fun _ => 0) q_10 (fun _ => 0) q_11 (fun _ => 0))) [0, 1, 2, 3, 4, 5, 6, 7, 8, 9, 10, 11, 12, 13, 14, 15] rfl
          have hD9 := hD.sub (ws' := (zS_176 cB cC cI cJ a0 q_1 q_5 q_6 q_7 q_8 q_9 q_10 q_11 0 0 0 q_1 (u_2.1 0) (u_2.1 1) (u_2.1 2) (u_2.1 3) (u_2.1 4) (u_2.1 5) (u_2.1 6) 0 (u_2.1 0) (fun _ => 0) (u_2.1 1) (fun _ => 0) (u_2.1 2) (fun _ => 0) (u_2.1 3) (fun _ => 0) (u_2.1 4) (fun _ => 0) (u_2.1 5) (fun _ => 0) (u_2.1 6) (fun _ => 0) q_5 (fun _ => 0) q_6 (fun _ => 0) q_7 (fun _ => 0) q_8 (fun _ => 0) q_9 (fun _ => 0) q_10 (fun _ => 0) q_11 (fun _ => 0))) [0, 1, 2, 3, 4, 5, 6, 7, 8, 9, 10, 11, 12, 13, 14, 15] (by decide) rfl
          refine W.widen (k := 15) (n := 199) (Nat.le_of_ble_eq_true rfl) (Nat.le_of_ble_eq_true rfl) ?_
          exact W.vret hx hb hr (fun t ht hW => ⟨⟨((fun k => [q_1, (u_2.1 0), (u_2.1 1), (u_2.1 2), (u_2.1 3), (u_2.1 4), (u_2.1 5), (u_2.1 6), q_5, q_6, q_7, q_8, q_9, q_10, q_11].getD k 0), (fun _ => (fun _ => 0)), (fun _ => (fun _ => 0)), (fun _ => 0), (fun _ => 0)), rfl, trivial, by rw [ht]; exact hP9, hD9⟩, hS.F ht⟩) hS.2.2 dX7_init_84
set_option maxHeartbeats 4000000 in
set_option maxRecDepth 100000 in
theorem cc_8_yJ7_fill_d0a16 (l : Launch) (D : va_G) (cB cC cI cJ : ClassId) (sz : Nat) (a0 : Nat) : Met l yJ7_fill_d0a16 (.code yJ7_fill_d0a16 cJ7_fill_d0a16 5 none :: lw_gd) ({ frames := 0, cells := 0, slots := 0, locals := 0 }) (gPre D [(cB, .byte), (cC, .char), (cI, .int), (cJ, .long)] [.ref a0, .long (-1)] [(a0, .inl (cJ, 32, .inr (.inl (fun _ => 0))))] sz) (va_Qv (fun _ => True) (gB D (va_A [(a0, .inl (cJ, 32, .inr (.inl (fun _ => 0))))] sz) (fun u : gEx => [(a0, .inl (cJ, 32, .inr (.inl (u.2.2.1 0))))])) (va_A [(a0, .inl (cJ, 32, .inr (.inl (fun _ => 0))))] sz)) 0 0 (va_A [(a0, .inl (cJ, 32, .inr (.inl (fun _ => 0))))] sz) := by
  refine Met.ofW (cc := cJ7_fill_d0a16) (maxL := 5) (ret := none) (by decide) rfl ?_
  intro p e s m args below meth c s₁ B hml hv
  obtain ⟨rfl, hsz, hP, hK, hD0, hN⟩ := hv
  have hx := B.exec
  have hb := B.bytes
  have hr := B.returns
  have hts : ∀ w ∈ lw_gd, w.before _ s = true := fun w h => atoms_spec (ws := .code yJ7_fill_d0a16 cJ7_fill_d0a16 5 none :: lw_gd) B.pre w (List.mem_cons_of_mem _ h)
  have hown : s.vm.findClass RJ7 = some m.cls := findClass_of_methodNamed B.named
  have hlocks := B.notSynchronized
  subst hsz
  have hD := hD0.self (sz := s.heap.size)
  generalize hAe : va_A [(a0, .inl (cJ, 32, .inr (.inl (fun _ => 0))))] s.heap.size = A at hD ⊢
  have hA : ∀ q : Nat, s.heap.size ≤ q → A q := fun q h => by rw [← hAe]; exact Or.inr h
  have hS : va_S A s.heap s.heap [] := va_S.rf
  replace hP : va_P D gcl [(a0, .inl (cJ, 32, .inr (.inl (fun _ => 0))))] s.heap := hP
  have hl := lv_entry ([.ref a0, .long (-1)]) (n := 5) (Nat.le_of_ble_eq_true rfl)
  rw [lg_entry_eq]
  generalize (lg_sl ([.ref a0, .long (-1)]) ++ List.replicate (5 - (lg_sl ([.ref a0, .long (-1)])).length) Slot.unset).toArray = ls at hl ⊢
  replace hl : lv_has ls 5 [(0, .ref a0), (1, .long (-1))] := hl
  refine lv_iconst (pc := 0) (v := 0) hx hb dJ7_fill_d0a16_0 (by decide) ?_
  refine lv_istore_n (pc := 1) (lv' := [(3, .int 0), (0, .ref a0), (1, .long (-1))]) hx hb dJ7_fill_d0a16_1 rfl hl (by decide) rfl (fun ls hl => ?_)
  refine lv_aload_n (pc := 2) hx hb dJ7_fill_d0a16_2 rfl (lv_at hl 1 rfl) ?_
  refine va_alen (pc := 3) (v := 32) hx hb hK hP 0 3 rfl rfl (by decide +kernel) dJ7_fill_d0a16_3 ?_
  refine lv_istore (pc := 4) (lv' := [(4, .int 32), (3, .int 0), (0, .ref a0), (1, .long (-1))]) hx hb dJ7_fill_d0a16_4 hl (by decide) rfl (fun ls hl => ?_)
  refine lv_iload_n (pc := 6) hx hb dJ7_fill_d0a16_6 rfl (lv_at hl 1 rfl) ?_
  refine lv_iload (pc := 7) hx hb dJ7_fill_d0a16_7 (lv_at hl 0 rfl) ?_
  refine lv_icmp_ge (pc := 9) (tgt := 22) hx hb dJ7_fill_d0a16_9 (by decide) (fun c => absurd c (by decide +kernel)) (fun _ => ?_)
  refine lv_aload_n (pc := 12) hx hb dJ7_fill_d0a16_12 rfl (lv_at hl 2 rfl) ?_
  as_aux_lemma =>
    refine lv_iload_n (pc := 13) hx hb dJ7_fill_d0a16_13 rfl (lv_at hl 1 rfl) ?_
    refine lv_lload_n (pc := 14) hx hb dJ7_fill_d0a16_14 rfl (lv_at hl 3 rfl) ?_
    refine g_lastore (pc := 15) hx hb hK hP hD hS 0 3 rfl rfl (gin rfl) dJ7_fill_d0a16_15 (fun g_1 H locs hP hD hS => ?_)
    replace hP : va_P D gcl [(a0, .inl (cJ, 32, .inr (.inl g_1)))] H := hP
    replace hD : va_D A [(a0, .inl (cJ, 32, .inr (.inl g_1)))] := hD
    refine lv_iinc (pc := 16) (v := 1) (lv' := [(3, .int 1), (4, .int 32), (0, .ref a0), (1, .long (-1))]) hx hb dJ7_fill_d0a16_16 hl (k := 1) rfl (by decide +kernel) (by decide) rfl (fun ls hl => ?_)
    refine lv_goto (pc := 19) (tgt := 6) hx hb dJ7_fill_d0a16_19 (by decide) ?_
    refine lv_iload_n (pc := 6) hx hb dJ7_fill_d0a16_6 rfl (lv_at hl 0 rfl) ?_
    refine lv_iload (pc := 7) hx hb dJ7_fill_d0a16_7 (lv_at hl 1 rfl) ?_
    refine lv_icmp_ge (pc := 9) (tgt := 22) hx hb dJ7_fill_d0a16_9 (by decide) (fun c => absurd c (by decide +kernel)) (fun _ => ?_)
    refine lv_aload_n (pc := 12) hx hb dJ7_fill_d0a16_12 rfl (lv_at hl 2 rfl) ?_
    refine lv_iload_n (pc := 13) hx hb dJ7_fill_d0a16_13 rfl (lv_at hl 0 rfl) ?_
    as_aux_lemma =>
      refine lv_lload_n (pc := 14) hx hb dJ7_fill_d0a16_14 rfl (lv_at hl 3 rfl) ?_
      refine g_lastore (pc := 15) hx hb hK hP hD hS 0 3 rfl rfl (gin rfl) dJ7_fill_d0a16_15 (fun g_2 H locs hP hD hS => ?_)
      replace hP : va_P D gcl [(a0, .inl (cJ, 32, .inr (.inl g_2)))] H := hP
      replace hD : va_D A [(a0, .inl (cJ, 32, .inr (.inl g_2)))] := hD
      refine lv_iinc (pc := 16) (v := 2) (lv' := [(3, .int 2), (4, .int 32), (0, .ref a0), (1, .long (-1))]) hx hb dJ7_fill_d0a16_16 hl (k := 0) rfl (by decide +kernel) (by decide) rfl (fun ls hl => ?_)
      refine lv_goto (pc := 19) (tgt := 6) hx hb dJ7_fill_d0a16_19 (by decide) ?_
      refine lv_iload_n (pc := 6) hx hb dJ7_fill_d0a16_6 rfl (lv_at hl 0 rfl) ?_
      refine lv_iload (pc := 7) hx hb dJ7_fill_d0a16_7 (lv_at hl 1 rfl) ?_
      refine lv_icmp_ge (pc := 9) (tgt := 22) hx hb dJ7_fill_d0a16_9 (by decide) (fun c => absurd c (by decide +kernel)) (fun _ => ?_)
      refine lv_aload_n (pc := 12) hx hb dJ7_fill_d0a16_12 rfl (lv_at hl 2 rfl) ?_
      refine lv_iload_n (pc := 13) hx hb dJ7_fill_d0a16_13 rfl (lv_at hl 0 rfl) ?_
      refine lv_lload_n (pc := 14) hx hb dJ7_fill_d0a16_14 rfl (lv_at hl 3 rfl) ?_
      as_aux_lemma =>
        refine g_lastore (pc := 15) hx hb hK hP hD hS 0 3 rfl rfl (gin rfl) dJ7_fill_d0a16_15 (fun g_3 H locs hP hD hS => ?_)
        replace hP : va_P D gcl [(a0, .inl (cJ, 32, .inr (.inl g_3)))] H := hP
        replace hD : va_D A [(a0, .inl (cJ, 32, .inr (.inl g_3)))] := hD
        refine lv_iinc (pc := 16) (v := 3) (lv' := [(3, .int 3), (4, .int 32), (0, .ref a0), (1, .long (-1))]) hx hb dJ7_fill_d0a16_16 hl (k := 0) rfl (by decide +kernel) (by decide) rfl (fun ls hl => ?_)
        refine lv_goto (pc := 19) (tgt := 6) hx hb dJ7_fill_d0a16_19 (by decide) ?_
        refine lv_iload_n (pc := 6) hx hb dJ7_fill_d0a16_6 rfl (lv_at hl 0 rfl) ?_
        refine lv_iload (pc := 7) hx hb dJ7_fill_d0a16_7 (lv_at hl 1 rfl) ?_
        refine lv_icmp_ge (pc := 9) (tgt := 22) hx hb dJ7_fill_d0a16_9 (by decide) (fun c => absurd c (by decide +kernel)) (fun _ => ?_)
        refine lv_aload_n (pc := 12) hx hb dJ7_fill_d0a16_12 rfl (lv_at hl 2 rfl) ?_
        refine lv_iload_n (pc := 13) hx hb dJ7_fill_d0a16_13 rfl (lv_at hl 0 rfl) ?_
        refine lv_lload_n (pc := 14) hx hb dJ7_fill_d0a16_14 rfl (lv_at hl 3 rfl) ?_
        refine g_lastore (pc := 15) hx hb hK hP hD hS 0 3 rfl rfl (gin rfl) dJ7_fill_d0a16_15 (fun g_4 H locs hP hD hS => ?_)
        replace hP : va_P D gcl [(a0, .inl (cJ, 32, .inr (.inl g_4)))] H := hP
        replace hD : va_D A [(a0, .inl (cJ, 32, .inr (.inl g_4)))] := hD
        as_aux_lemma =>
          refine lv_iinc (pc := 16) (v := 4) (lv' := [(3, .int 4), (4, .int 32), (0, .ref a0), (1, .long (-1))]) hx hb dJ7_fill_d0a16_16 hl (k := 0) rfl (by decide +kernel) (by decide) rfl (fun ls hl => ?_)
          refine lv_goto (pc := 19) (tgt := 6) hx hb dJ7_fill_d0a16_19 (by decide) ?_
          refine lv_iload_n (pc := 6) hx hb dJ7_fill_d0a16_6 rfl (lv_at hl 0 rfl) ?_
          refine lv_iload (pc := 7) hx hb dJ7_fill_d0a16_7 (lv_at hl 1 rfl) ?_
          refine lv_icmp_ge (pc := 9) (tgt := 22) hx hb dJ7_fill_d0a16_9 (by decide) (fun c => absurd c (by decide +kernel)) (fun _ => ?_)
          refine lv_aload_n (pc := 12) hx hb dJ7_fill_d0a16_12 rfl (lv_at hl 2 rfl) ?_
          refine lv_iload_n (pc := 13) hx hb dJ7_fill_d0a16_13 rfl (lv_at hl 0 rfl) ?_
          refine lv_lload_n (pc := 14) hx hb dJ7_fill_d0a16_14 rfl (lv_at hl 3 rfl) ?_
          refine g_lastore (pc := 15) hx hb hK hP hD hS 0 3 rfl rfl (gin rfl) dJ7_fill_d0a16_15 (fun g_5 H locs hP hD hS => ?_)
          replace hP : va_P D gcl [(a0, .inl (cJ, 32, .inr (.inl g_5)))] H := hP
          replace hD : va_D A [(a0, .inl (cJ, 32, .inr (.inl g_5)))] := hD
          refine lv_iinc (pc := 16) (v := 5) (lv' := [(3, .int 5), (4, .int 32), (0, .ref a0), (1, .long (-1))]) hx hb dJ7_fill_d0a16_16 hl (k := 0) rfl (by decide +kernel) (by decide) rfl (fun ls hl => ?_)
          as_aux_lemma =>
            refine lv_goto (pc := 19) (tgt := 6) hx hb dJ7_fill_d0a16_19 (by decide) ?_
            refine lv_iload_n (pc := 6) hx hb dJ7_fill_d0a16_6 rfl (lv_at hl 0 rfl) ?_
            refine lv_iload (pc := 7) hx hb dJ7_fill_d0a16_7 (lv_at hl 1 rfl) ?_
            refine lv_icmp_ge (pc := 9) (tgt := 22) hx hb dJ7_fill_d0a16_9 (by decide) (fun c => absurd c (by decide +kernel)) (fun _ => ?_)
            refine lv_aload_n (pc := 12) hx hb dJ7_fill_d0a16_12 rfl (lv_at hl 2 rfl) ?_
            refine lv_iload_n (pc := 13) hx hb dJ7_fill_d0a16_13 rfl (lv_at hl 0 rfl) ?_
            refine lv_lload_n (pc := 14) hx hb dJ7_fill_d0a16_14 rfl (lv_at hl 3 rfl) ?_
            refine g_lastore (pc := 15) hx hb hK hP hD hS 0 3 rfl rfl (gin rfl) dJ7_fill_d0a16_15 (fun g_6 H locs hP hD hS => ?_)
            replace hP : va_P D gcl [(a0, .inl (cJ, 32, .inr (.inl g_6)))] H := hP
            replace hD : va_D A [(a0, .inl (cJ, 32, .inr (.inl g_6)))] := hD
            refine lv_iinc (pc := 16) (v := 6) (lv' := [(3, .int 6), (4, .int 32), (0, .ref a0), (1, .long (-1))]) hx hb dJ7_fill_d0a16_16 hl (k := 0) rfl (by decide +kernel) (by decide) rfl (fun ls hl => ?_)
            refine lv_goto (pc := 19) (tgt := 6) hx hb dJ7_fill_d0a16_19 (by decide) ?_
            as_aux_lemma =>
              refine lv_iload_n (pc := 6) hx hb dJ7_fill_d0a16_6 rfl (lv_at hl 0 rfl) ?_
              refine lv_iload (pc := 7) hx hb dJ7_fill_d0a16_7 (lv_at hl 1 rfl) ?_
              refine lv_icmp_ge (pc := 9) (tgt := 22) hx hb dJ7_fill_d0a16_9 (by decide) (fun c => absurd c (by decide +kernel)) (fun _ => ?_)
              refine lv_aload_n (pc := 12) hx hb dJ7_fill_d0a16_12 rfl (lv_at hl 2 rfl) ?_
              refine lv_iload_n (pc := 13) hx hb dJ7_fill_d0a16_13 rfl (lv_at hl 0 rfl) ?_
              refine lv_lload_n (pc := 14) hx hb dJ7_fill_d0a16_14 rfl (lv_at hl 3 rfl) ?_
              refine g_lastore (pc := 15) hx hb hK hP hD hS 0 3 rfl rfl (gin rfl) dJ7_fill_d0a16_15 (fun g_7 H locs hP hD hS => ?_)
              replace hP : va_P D gcl [(a0, .inl (cJ, 32, .inr (.inl g_7)))] H := hP
              replace hD : va_D A [(a0, .inl (cJ, 32, .inr (.inl g_7)))] := hD
              refine lv_iinc (pc := 16) (v := 7) (lv' := [(3, .int 7), (4, .int 32), (0, .ref a0), (1, .long (-1))]) hx hb dJ7_fill_d0a16_16 hl (k := 0) rfl (by decide +kernel) (by decide) rfl (fun ls hl => ?_)
              refine lv_goto (pc := 19) (tgt := 6) hx hb dJ7_fill_d0a16_19 (by decide) ?_
              refine lv_iload_n (pc := 6) hx hb dJ7_fill_d0a16_6 rfl (lv_at hl 0 rfl) ?_
              as_aux_lemma =>
                refine lv_iload (pc := 7) hx hb dJ7_fill_d0a16_7 (lv_at hl 1 rfl) ?_
                refine lv_icmp_ge (pc := 9) (tgt := 22) hx hb dJ7_fill_d0a16_9 (by decide) (fun c => absurd c (by decide +kernel)) (fun _ => ?_)
                refine lv_aload_n (pc := 12) hx hb dJ7_fill_d0a16_12 rfl (lv_at hl 2 rfl) ?_
                refine lv_iload_n (pc := 13) hx hb dJ7_fill_d0a16_13 rfl (lv_at hl 0 rfl) ?_
                refine lv_lload_n (pc := 14) hx hb dJ7_fill_d0a16_14 rfl (lv_at hl 3 rfl) ?_
                refine g_lastore (pc := 15) hx hb hK hP hD hS 0 3 rfl rfl (gin rfl) dJ7_fill_d0a16_15 (fun g_8 H locs hP hD hS => ?_)
                replace hP : va_P D gcl [(a0, .inl (cJ, 32, .inr (.inl g_8)))] H := hP
                replace hD : va_D A [(a0, .inl (cJ, 32, .inr (.inl g_8)))] := hD
                refine lv_iinc (pc := 16) (v := 8) (lv' := [(3, .int 8), (4, .int 32), (0, .ref a0), (1, .long (-1))]) hx hb dJ7_fill_d0a16_16 hl (k := 0) rfl (by decide +kernel) (by decide) rfl (fun ls hl => ?_)
                refine lv_goto (pc := 19) (tgt := 6) hx hb dJ7_fill_d0a16_19 (by decide) ?_
                refine lv_iload_n (pc := 6) hx hb dJ7_fill_d0a16_6 rfl (lv_at hl 0 rfl) ?_
                refine lv_iload (pc := 7) hx hb dJ7_fill_d0a16_7 (lv_at hl 1 rfl) ?_
                as_aux_lemma =>
                  refine lv_icmp_ge (pc := 9) (tgt := 22) hx hb dJ7_fill_d0a16_9 (by decide) (fun c => absurd c (by decide +kernel)) (fun _ => ?_)
                  refine lv_aload_n (pc := 12) hx hb dJ7_fill_d0a16_12 rfl (lv_at hl 2 rfl) ?_
                  refine lv_iload_n (pc := 13) hx hb dJ7_fill_d0a16_13 rfl (lv_at hl 0 rfl) ?_
                  refine lv_lload_n (pc := 14) hx hb dJ7_fill_d0a16_14 rfl (lv_at hl 3 rfl) ?_
                  refine g_lastore (pc := 15) hx hb hK hP hD hS 0 3 rfl rfl (gin rfl) dJ7_fill_d0a16_15 (fun g_9 H locs hP hD hS => ?_)
                  replace hP : va_P D gcl [(a0, .inl (cJ, 32, .inr (.inl g_9)))] H := hP
                  replace hD : va_D A [(a0, .inl (cJ, 32, .inr (.inl g_9)))] := hD
                  refine lv_iinc (pc := 16) (v := 9) (lv' := [(3, .int 9), (4, .int 32), (0, .ref a0), (1, .long (-1))]) hx hb dJ7_fill_d0a16_16 hl (k := 0) rfl (by decide +kernel) (by decide) rfl (fun ls hl => ?_)
                  refine lv_goto (pc := 19) (tgt := 6) hx hb dJ7_fill_d0a16_19 (by decide) ?_
                  refine lv_iload_n (pc := 6) hx hb dJ7_fill_d0a16_6 rfl (lv_at hl 0 rfl) ?_
                  refine lv_iload (pc := 7) hx hb dJ7_fill_d0a16_7 (lv_at hl 1 rfl) ?_
                  refine lv_icmp_ge (pc := 9) (tgt := 22) hx hb dJ7_fill_d0a16_9 (by decide) (fun c => absurd c (by decide +kernel)) (fun _ => ?_)
                  as_aux_lemma =>
                    refine lv_aload_n (pc := 12) hx hb dJ7_fill_d0a16_12 rfl (lv_at hl 2 rfl) ?_
                    refine lv_iload_n (pc := 13) hx hb dJ7_fill_d0a16_13 rfl (lv_at hl 0 rfl) ?_
                    refine lv_lload_n (pc := 14) hx hb dJ7_fill_d0a16_14 rfl (lv_at hl 3 rfl) ?_
                    refine g_lastore (pc := 15) hx hb hK hP hD hS 0 3 rfl rfl (gin rfl) dJ7_fill_d0a16_15 (fun g_10 H locs hP hD hS => ?_)
                    replace hP : va_P D gcl [(a0, .inl (cJ, 32, .inr (.inl g_10)))] H := hP
                    replace hD : va_D A [(a0, .inl (cJ, 32, .inr (.inl g_10)))] := hD
                    refine lv_iinc (pc := 16) (v := 10) (lv' := [(3, .int 10), (4, .int 32), (0, .ref a0), (1, .long (-1))]) hx hb dJ7_fill_d0a16_16 hl (k := 0) rfl (by decide +kernel) (by decide) rfl (fun ls hl => ?_)
                    refine lv_goto (pc := 19) (tgt := 6) hx hb dJ7_fill_d0a16_19 (by decide) ?_
                    refine lv_iload_n (pc := 6) hx hb dJ7_fill_d0a16_6 rfl (lv_at hl 0 rfl) ?_
                    refine lv_iload (pc := 7) hx hb dJ7_fill_d0a16_7 (lv_at hl 1 rfl) ?_
                    refine lv_icmp_ge (pc := 9) (tgt := 22) hx hb dJ7_fill_d0a16_9 (by decide) (fun c => absurd c (by decide +kernel)) (fun _ => ?_)
                    refine lv_aload_n (pc := 12) hx hb dJ7_fill_d0a16_12 rfl (lv_at hl 2 rfl) ?_
                    as_aux_lemma =>
                      refine lv_iload_n (pc := 13) hx hb dJ7_fill_d0a16_13 rfl (lv_at hl 0 rfl) ?_
                      refine lv_lload_n (pc := 14) hx hb dJ7_fill_d0a16_14 rfl (lv_at hl 3 rfl) ?_
                      refine g_lastore (pc := 15) hx hb hK hP hD hS 0 3 rfl rfl (gin rfl) dJ7_fill_d0a16_15 (fun g_11 H locs hP hD hS => ?_)
                      replace hP : va_P D gcl [(a0, .inl (cJ, 32, .inr (.inl g_11)))] H := hP
                      replace hD : va_D A [(a0, .inl (cJ, 32, .inr (.inl g_11)))] := hD
                      refine lv_iinc (pc := 16) (v := 11) (lv' := [(3, .int 11), (4, .int 32), (0, .ref a0), (1, .long (-1))]) hx hb dJ7_fill_d0a16_16 hl (k := 0) rfl (by decide +kernel) (by decide) rfl (fun ls hl => ?_)
                      refine lv_goto (pc := 19) (tgt := 6) hx hb dJ7_fill_d0a16_19 (by decide) ?_
                      refine lv_iload_n (pc := 6) hx hb dJ7_fill_d0a16_6 rfl (lv_at hl 0 rfl) ?_
                      refine lv_iload (pc := 7) hx hb dJ7_fill_d0a16_7 (lv_at hl 1 rfl) ?_
                      refine lv_icmp_ge (pc := 9) (tgt := 22) hx hb dJ7_fill_d0a16_9 (by decide) (fun c => absurd c (by decide +kernel)) (fun _ => ?_)
                      refine lv_aload_n (pc := 12) hx hb dJ7_fill_d0a16_12 rfl (lv_at hl 2 rfl) ?_
                      refine lv_iload_n (pc := 13) hx hb dJ7_fill_d0a16_13 rfl (lv_at hl 0 rfl) ?_
                      as_aux_lemma =>
                        refine lv_lload_n (pc := 14) hx hb dJ7_fill_d0a16_14 rfl (lv_at hl 3 rfl) ?_
                        refine g_lastore (pc := 15) hx hb hK hP hD hS 0 3 rfl rfl (gin rfl) dJ7_fill_d0a16_15 (fun g_12 H locs hP hD hS => ?_)
                        replace hP : va_P D gcl [(a0, .inl (cJ, 32, .inr (.inl g_12)))] H := hP
                        replace hD : va_D A [(a0, .inl (cJ, 32, .inr (.inl g_12)))] := hD
                        refine lv_iinc (pc := 16) (v := 12) (lv' := [(3, .int 12), (4, .int 32), (0, .ref a0), (1, .long (-1))]) hx hb dJ7_fill_d0a16_16 hl (k := 0) rfl (by decide +kernel) (by decide) rfl (fun ls hl => ?_)
                        refine lv_goto (pc := 19) (tgt := 6) hx hb dJ7_fill_d0a16_19 (by decide) ?_
                        refine lv_iload_n (pc := 6) hx hb dJ7_fill_d0a16_6 rfl (lv_at hl 0 rfl) ?_
                        refine lv_iload (pc := 7) hx hb dJ7_fill_d0a16_7 (lv_at hl 1 rfl) ?_
                        refine lv_icmp_ge (pc := 9) (tgt := 22) hx hb dJ7_fill_d0a16_9 (by decide) (fun c => absurd c (by decide +kernel)) (fun _ => ?_)
                        refine lv_aload_n (pc := 12) hx hb dJ7_fill_d0a16_12 rfl (lv_at hl 2 rfl) ?_
                        refine lv_iload_n (pc := 13) hx hb dJ7_fill_d0a16_13 rfl (lv_at hl 0 rfl) ?_
                        refine lv_lload_n (pc := 14) hx hb dJ7_fill_d0a16_14 rfl (lv_at hl 3 rfl) ?_
                        as_aux_lemma =>
                          refine g_lastore (pc := 15) hx hb hK hP hD hS 0 3 rfl rfl (gin rfl) dJ7_fill_d0a16_15 (fun g_13 H locs hP hD hS => ?_)
                          replace hP : va_P D gcl [(a0, .inl (cJ, 32, .inr (.inl g_13)))] H := hP
                          replace hD : va_D A [(a0, .inl (cJ, 32, .inr (.inl g_13)))] := hD
                          refine lv_iinc (pc := 16) (v := 13) (lv' := [(3, .int 13), (4, .int 32), (0, .ref a0), (1, .long (-1))]) hx hb dJ7_fill_d0a16_16 hl (k := 0) rfl (by decide +kernel) (by decide) rfl (fun ls hl => ?_)
                          refine lv_goto (pc := 19) (tgt := 6) hx hb dJ7_fill_d0a16_19 (by decide) ?_
                          refine lv_iload_n (pc := 6) hx hb dJ7_fill_d0a16_6 rfl (lv_at hl 0 rfl) ?_
                          refine lv_iload (pc := 7) hx hb dJ7_fill_d0a16_7 (lv_at hl 1 rfl) ?_
                          refine lv_icmp_ge (pc := 9) (tgt := 22) hx hb dJ7_fill_d0a16_9 (by decide) (fun c => absurd c (by decide +kernel)) (fun _ => ?_)
                          refine lv_aload_n (pc := 12) hx hb dJ7_fill_d0a16_12 rfl (lv_at hl 2 rfl) ?_
                          refine lv_iload_n (pc := 13) hx hb dJ7_fill_d0a16_13 rfl (lv_at hl 0 rfl) ?_
                          refine lv_lload_n (pc := 14) hx hb dJ7_fill_d0a16_14 rfl (lv_at hl 3 rfl) ?_
                          refine g_lastore (pc := 15) hx hb hK hP hD hS 0 3 rfl rfl (gin rfl) dJ7_fill_d0a16_15 (fun g_14 H locs hP hD hS => ?_)
                          replace hP : va_P D gcl [(a0, .inl (cJ, 32, .inr (.inl g_14)))] H := hP
                          replace hD : va_D A [(a0, .inl (cJ, 32, .inr (.inl g_14)))] := hD
                          as_aux_lemma =>
                            refine lv_iinc (pc := 16) (v := 14) (lv' := [(3, .int 14), (4, .int 32), (0, .ref a0), (1, .long (-1))]) hx hb dJ7_fill_d0a16_16 hl (k := 0) rfl (by decide +kernel) (by decide) rfl (fun ls hl => ?_)
                            refine lv_goto (pc := 19) (tgt := 6) hx hb dJ7_fill_d0a16_19 (by decide) ?_
                            refine lv_iload_n (pc := 6) hx hb dJ7_fill_d0a16_6 rfl (lv_at hl 0 rfl) ?_
                            refine lv_iload (pc := 7) hx hb dJ7_fill_d0a16_7 (lv_at hl 1 rfl) ?_
                            refine lv_icmp_ge (pc := 9) (tgt := 22) hx hb dJ7_fill_d0a16_9 (by decide) (fun c => absurd c (by decide +kernel)) (fun _ => ?_)
                            refine lv_aload_n (pc := 12) hx hb dJ7_fill_d0a16_12 rfl (lv_at hl 2 rfl) ?_
                            refine lv_iload_n (pc := 13) hx hb dJ7_fill_d0a16_13 rfl (lv_at hl 0 rfl) ?_
                            refine lv_lload_n (pc := 14) hx hb dJ7_fill_d0a16_14 rfl (lv_at hl 3 rfl) ?_
                            refine g_lastore (pc := 15) hx hb hK hP hD hS 0 3 rfl rfl (gin rfl) dJ7_fill_d0a16_15 (fun g_15 H locs hP hD hS => ?_)
                            replace hP : va_P D gcl [(a0, .inl (cJ, 32, .inr (.inl g_15)))] H := hP
                            replace hD : va_D A [(a0, .inl (cJ, 32, .inr (.inl g_15)))] := hD
                            refine lv_iinc (pc := 16) (v := 15) (lv' := [(3, .int 15), (4, .int 32), (0, .ref a0), (1, .long (-1))]) hx hb dJ7_fill_d0a16_16 hl (k := 0) rfl (by decide +kernel) (by decide) rfl (fun ls hl => ?_)
                            as_aux_lemma =>
                              refine lv_goto (pc := 19) (tgt := 6) hx hb dJ7_fill_d0a16_19 (by decide) ?_
                              refine lv_iload_n (pc := 6) hx hb dJ7_fill_d0a16_6 rfl (lv_at hl 0 rfl) ?_
                              refine lv_iload (pc := 7) hx hb dJ7_fill_d0a16_7 (lv_at hl 1 rfl) ?_
                              refine lv_icmp_ge (pc := 9) (tgt := 22) hx hb dJ7_fill_d0a16_9 (by decide) (fun c => absurd c (by decide +kernel)) (fun _ => ?_)
                              refine lv_aload_n (pc := 12) hx hb dJ7_fill_d0a16_12 rfl (lv_at hl 2 rfl) ?_
                              refine lv_iload_n (pc := 13) hx hb dJ7_fill_d0a16_13 rfl (lv_at hl 0 rfl) ?_
                              refine lv_lload_n (pc := 14) hx hb dJ7_fill_d0a16_14 rfl (lv_at hl 3 rfl) ?_
                              refine g_lastore (pc := 15) hx hb hK hP hD hS 0 3 rfl rfl (gin rfl) dJ7_fill_d0a16_15 (fun g_16 H locs hP hD hS => ?_)
                              replace hP : va_P D gcl [(a0, .inl (cJ, 32, .inr (.inl g_16)))] H := hP
                              replace hD : va_D A [(a0, .inl (cJ, 32, .inr (.inl g_16)))] := hD
                              refine lv_iinc (pc := 16) (v := 16) (lv' := [(3, .int 16), (4, .int 32), (0, .ref a0), (1, .long (-1))]) hx hb dJ7_fill_d0a16_16 hl (k := 0) rfl (by decide +kernel) (by decide) rfl (fun ls hl => ?_)
                              refine lv_goto (pc := 19) (tgt := 6) hx hb dJ7_fill_d0a16_19 (by decide) ?_
                              as_aux_lemma =>
                                refine lv_iload_n (pc := 6) hx hb dJ7_fill_d0a16_6 rfl (lv_at hl 0 rfl) ?_
                                refine lv_iload (pc := 7) hx hb dJ7_fill_d0a16_7 (lv_at hl 1 rfl) ?_
                                refine lv_icmp_ge (pc := 9) (tgt := 22) hx hb dJ7_fill_d0a16_9 (by decide) (fun c => absurd c (by decide +kernel)) (fun _ => ?_)
                                refine lv_aload_n (pc := 12) hx hb dJ7_fill_d0a16_12 rfl (lv_at hl 2 rfl) ?_
                                refine lv_iload_n (pc := 13) hx hb dJ7_fill_d0a16_13 rfl (lv_at hl 0 rfl) ?_
                                refine lv_lload_n (pc := 14) hx hb dJ7_fill_d0a16_14 rfl (lv_at hl 3 rfl) ?_
                                refine g_lastore (pc := 15) hx hb hK hP hD hS 0 3 rfl rfl (gin rfl) dJ7_fill_d0a16_15 (fun g_17 H locs hP hD hS => ?_)
                                replace hP : va_P D gcl [(a0, .inl (cJ, 32, .inr (.inl g_17)))] H := hP
                                replace hD : va_D A [(a0, .inl (cJ, 32, .inr (.inl g_17)))] := hD
                                refine lv_iinc (pc := 16) (v := 17) (lv' := [(3, .int 17), (4, .int 32), (0, .ref a0), (1, .long (-1))]) hx hb dJ7_fill_d0a16_16 hl (k := 0) rfl (by decide +kernel) (by decide) rfl (fun ls hl => ?_)
                                refine lv_goto (pc := 19) (tgt := 6) hx hb dJ7_fill_d0a16_19 (by decide) ?_
                                refine lv_iload_n (pc := 6) hx hb dJ7_fill_d0a16_6 rfl (lv_at hl 0 rfl) ?_
                                as_aux_lemma =>
                                  refine lv_iload (pc := 7) hx hb dJ7_fill_d0a16_7 (lv_at hl 1 rfl) ?_
                                  refine lv_icmp_ge (pc := 9) (tgt := 22) hx hb dJ7_fill_d0a16_9 (by decide) (fun c => absurd c (by decide +kernel)) (fun _ => ?_)
                                  refine lv_aload_n (pc := 12) hx hb dJ7_fill_d0a16_12 rfl (lv_at hl 2 rfl) ?_
                                  refine lv_iload_n (pc := 13) hx hb dJ7_fill_d0a16_13 rfl (lv_at hl 0 rfl) ?_
                                  refine lv_lload_n (pc := 14) hx hb dJ7_fill_d0a16_14 rfl (lv_at hl 3 rfl) ?_
                                  refine g_lastore (pc := 15) hx hb hK hP hD hS 0 3 rfl rfl (gin rfl) dJ7_fill_d0a16_15 (fun g_18 H locs hP hD hS => ?_)
                                  replace hP : va_P D gcl [(a0, .inl (cJ, 32, .inr (.inl g_18)))] H := hP
                                  replace hD : va_D A [(a0, .inl (cJ, 32, .inr (.inl g_18)))] := hD
                                  refine lv_iinc (pc := 16) (v := 18) (lv' := [(3, .int 18), (4, .int 32), (0, .ref a0), (1, .long (-1))]) hx hb dJ7_fill_d0a16_16 hl (k := 0) rfl (by decide +kernel) (by decide) rfl (fun ls hl => ?_)
                                  refine lv_goto (pc := 19) (tgt := 6) hx hb dJ7_fill_d0a16_19 (by decide) ?_
                                  refine lv_iload_n (pc := 6) hx hb dJ7_fill_d0a16_6 rfl (lv_at hl 0 rfl) ?_
                                  refine lv_iload (pc := 7) hx hb dJ7_fill_d0a16_7 (lv_at hl 1 rfl) ?_
                                  as_aux_lemma =>
                                    refine lv_icmp_ge (pc := 9) (tgt := 22) hx hb dJ7_fill_d0a16_9 (by decide) (fun c => absurd c (by decide +kernel)) (fun _ => ?_)
                                    refine lv_aload_n (pc := 12) hx hb dJ7_fill_d0a16_12 rfl (lv_at hl 2 rfl) ?_
                                    refine lv_iload_n (pc := 13) hx hb dJ7_fill_d0a16_13 rfl (lv_at hl 0 rfl) ?_
                                    refine lv_lload_n (pc := 14) hx hb dJ7_fill_d0a16_14 rfl (lv_at hl 3 rfl) ?_
                                    refine g_lastore (pc := 15) hx hb hK hP hD hS 0 3 rfl rfl (gin rfl) dJ7_fill_d0a16_15 (fun g_19 H locs hP hD hS => ?_)
                                    replace hP : va_P D gcl [(a0, .inl (cJ, 32, .inr (.inl g_19)))] H := hP
                                    replace hD : va_D A [(a0, .inl (cJ, 32, .inr (.inl g_19)))] := hD
                                    refine lv_iinc (pc := 16) (v := 19) (lv' := [(3, .int 19), (4, .int 32), (0, .ref a0), (1, .long (-1))]) hx hb dJ7_fill_d0a16_16 hl (k := 0) rfl (by decide +kernel) (by decide) rfl (fun ls hl => ?_)
                                    refine lv_goto (pc := 19) (tgt := 6) hx hb dJ7_fill_d0a16_19 (by decide) ?_
                                    refine lv_iload_n (pc := 6) hx hb dJ7_fill_d0a16_6 rfl (lv_at hl 0 rfl) ?_
                                    refine lv_iload (pc := 7) hx hb dJ7_fill_d0a16_7 (lv_at hl 1 rfl) ?_
                                    refine lv_icmp_ge (pc := 9) (tgt := 22) hx hb dJ7_fill_d0a16_9 (by decide) (fun c => absurd c (by decide +kernel)) (fun _ => ?_)
                                    as_aux_lemma =>
                                      refine lv_aload_n (pc := 12) hx hb dJ7_fill_d0a16_12 rfl (lv_at hl 2 rfl) ?_
                                      refine lv_iload_n (pc := 13) hx hb dJ7_fill_d0a16_13 rfl (lv_at hl 0 rfl) ?_
                                      refine lv_lload_n (pc := 14) hx hb dJ7_fill_d0a16_14 rfl (lv_at hl 3 rfl) ?_
                                      refine g_lastore (pc := 15) hx hb hK hP hD hS 0 3 rfl rfl (gin rfl) dJ7_fill_d0a16_15 (fun g_20 H locs hP hD hS => ?_)
                                      replace hP : va_P D gcl [(a0, .inl (cJ, 32, .inr (.inl g_20)))] H := hP
                                      replace hD : va_D A [(a0, .inl (cJ, 32, .inr (.inl g_20)))] := hD
                                      refine lv_iinc (pc := 16) (v := 20) (lv' := [(3, .int 20), (4, .int 32), (0, .ref a0), (1, .long (-1))]) hx hb dJ7_fill_d0a16_16 hl (k := 0) rfl (by decide +kernel) (by decide) rfl (fun ls hl => ?_)
                                      refine lv_goto (pc := 19) (tgt := 6) hx hb dJ7_fill_d0a16_19 (by decide) ?_
                                      refine lv_iload_n (pc := 6) hx hb dJ7_fill_d0a16_6 rfl (lv_at hl 0 rfl) ?_
                                      refine lv_iload (pc := 7) hx hb dJ7_fill_d0a16_7 (lv_at hl 1 rfl) ?_
                                      refine lv_icmp_ge (pc := 9) (tgt := 22) hx hb dJ7_fill_d0a16_9 (by decide) (fun c => absurd c (by decide +kernel)) (fun _ => ?_)
                                      refine lv_aload_n (pc := 12) hx hb dJ7_fill_d0a16_12 rfl (lv_at hl 2 rfl) ?_
                                      as_aux_lemma =>
                                        refine lv_iload_n (pc := 13) hx hb dJ7_fill_d0a16_13 rfl (lv_at hl 0 rfl) ?_
                                        refine lv_lload_n (pc := 14) hx hb dJ7_fill_d0a16_14 rfl (lv_at hl 3 rfl) ?_
                                        refine g_lastore (pc := 15) hx hb hK hP hD hS 0 3 rfl rfl (gin rfl) dJ7_fill_d0a16_15 (fun g_21 H locs hP hD hS => ?_)
                                        replace hP : va_P D gcl [(a0, .inl (cJ, 32, .inr (.inl g_21)))] H := hP
                                        replace hD : va_D A [(a0, .inl (cJ, 32, .inr (.inl g_21)))] := hD
                                        refine lv_iinc (pc := 16) (v := 21) (lv' := [(3, .int 21), (4, .int 32), (0, .ref a0), (1, .long (-1))]) hx hb dJ7_fill_d0a16_16 hl (k := 0) rfl (by decide +kernel) (by decide) rfl (fun ls hl => ?_)
                                        refine lv_goto (pc := 19) (tgt := 6) hx hb dJ7_fill_d0a16_19 (by decide) ?_
                                        refine lv_iload_n (pc := 6) hx hb dJ7_fill_d0a16_6 rfl (lv_at hl 0 rfl) ?_
                                        refine lv_iload (pc := 7) hx hb dJ7_fill_d0a16_7 (lv_at hl 1 rfl) ?_
                                        refine lv_icmp_ge (pc := 9) (tgt := 22) hx hb dJ7_fill_d0a16_9 (by decide) (fun c => absurd c (by decide +kernel)) (fun _ => ?_)
                                        refine lv_aload_n (pc := 12) hx hb dJ7_fill_d0a16_12 rfl (lv_at hl 2 rfl) ?_
                                        refine lv_iload_n (pc := 13) hx hb dJ7_fill_d0a16_13 rfl (lv_at hl 0 rfl) ?_
                                        as_aux_lemma =>
                                          refine lv_lload_n (pc := 14) hx hb dJ7_fill_d0a16_14 rfl (lv_at hl 3 rfl) ?_
                                          refine g_lastore (pc := 15) hx hb hK hP hD hS 0 3 rfl rfl (gin rfl) dJ7_fill_d0a16_15 (fun g_22 H locs hP hD hS => ?_)
                                          replace hP : va_P D gcl [(a0, .inl (cJ, 32, .inr (.inl g_22)))] H := hP
                                          replace hD : va_D A [(a0, .inl (cJ, 32, .inr (.inl g_22)))] := hD
                                          refine lv_iinc (pc := 16) (v := 22) (lv' := [(3, .int 22), (4, .int 32), (0, .ref a0), (1, .long (-1))]) hx hb dJ7_fill_d0a16_16 hl (k := 0) rfl (by decide +kernel) (by decide) rfl (fun ls hl => ?_)
                                          refine lv_goto (pc := 19) (tgt := 6) hx hb dJ7_fill_d0a16_19 (by decide) ?_
                                          refine lv_iload_n (pc := 6) hx hb dJ7_fill_d0a16_6 rfl (lv_at hl 0 rfl) ?_
                                          refine lv_iload (pc := 7) hx hb dJ7_fill_d0a16_7 (lv_at hl 1 rfl) ?_
                                          refine lv_icmp_ge (pc := 9) (tgt := 22) hx hb dJ7_fill_d0a16_9 (by decide) (fun c => absurd c (by decide +kernel)) (fun _ => ?_)
                                          refine lv_aload_n (pc := 12) hx hb dJ7_fill_d0a16_12 rfl (lv_at hl 2 rfl) ?_
                                          refine lv_iload_n (pc := 13) hx hb dJ7_fill_d0a16_13 rfl (lv_at hl 0 rfl) ?_
                                          refine lv_lload_n (pc := 14) hx hb dJ7_fill_d0a16_14 rfl (lv_at hl 3 rfl) ?_
                                          as_aux_lemma =>
                                            refine g_lastore (pc := 15) hx hb hK hP hD hS 0 3 rfl rfl (gin rfl) dJ7_fill_d0a16_15 (fun g_23 H locs hP hD hS => ?_)
                                            replace hP : va_P D gcl [(a0, .inl (cJ, 32, .inr (.inl g_23)))] H := hP
                                            replace hD : va_D A [(a0, .inl (cJ, 32, .inr (.inl g_23)))] := hD
                                            refine lv_iinc (pc := 16) (v := 23) (lv' := [(3, .int 23), (4, .int 32), (0, .ref a0), (1, .long (-1))]) hx hb dJ7_fill_d0a16_16 hl (k := 0) rfl (by decide +kernel) (by decide) rfl (fun ls hl => ?_)
                                            refine lv_goto (pc := 19) (tgt := 6) hx hb dJ7_fill_d0a16_19 (by decide) ?_
                                            refine lv_iload_n (pc := 6) hx hb dJ7_fill_d0a16_6 rfl (lv_at hl 0 rfl) ?_
                                            refine lv_iload (pc := 7) hx hb dJ7_fill_d0a16_7 (lv_at hl 1 rfl) ?_
                                            refine lv_icmp_ge (pc := 9) (tgt := 22) hx hb dJ7_fill_d0a16_9 (by decide) (fun c => absurd c (by decide +kernel)) (fun _ => ?_)
                                            refine lv_aload_n (pc := 12) hx hb dJ7_fill_d0a16_12 rfl (lv_at hl 2 rfl) ?_
                                            refine lv_iload_n (pc := 13) hx hb dJ7_fill_d0a16_13 rfl (lv_at hl 0 rfl) ?_
                                            refine lv_lload_n (pc := 14) hx hb dJ7_fill_d0a16_14 rfl (lv_at hl 3 rfl) ?_
                                            refine g_lastore (pc := 15) hx hb hK hP hD hS 0 3 rfl rfl (gin rfl) dJ7_fill_d0a16_15 (fun g_24 H locs hP hD hS => ?_)
                                            replace hP : va_P D gcl [(a0, .inl (cJ, 32, .inr (.inl g_24)))] H := hP
                                            replace hD : va_D A [(a0, .inl (cJ, 32, .inr (.inl g_24)))] := hD
                                            as_aux_lemma =>
                                              refine lv_iinc (pc := 16) (v := 24) (lv' := [(3, .int 24), (4, .int 32), (0, .ref a0), (1, .long (-1))]) hx hb dJ7_fill_d0a16_16 hl (k := 0) rfl (by decide +kernel) (by decide) rfl (fun ls hl => ?_)
                                              refine lv_goto (pc := 19) (tgt := 6) hx hb dJ7_fill_d0a16_19 (by decide) ?_
                                              refine lv_iload_n (pc := 6) hx hb dJ7_fill_d0a16_6 rfl (lv_at hl 0 rfl) ?_
                                              refine lv_iload (pc := 7) hx hb dJ7_fill_d0a16_7 (lv_at hl 1 rfl) ?_
                                              refine lv_icmp_ge (pc := 9) (tgt := 22) hx hb dJ7_fill_d0a16_9 (by decide) (fun c => absurd c (by decide +kernel)) (fun _ => ?_)
                                              refine lv_aload_n (pc := 12) hx hb dJ7_fill_d0a16_12 rfl (lv_at hl 2 rfl) ?_
                                              refine lv_iload_n (pc := 13) hx hb dJ7_fill_d0a16_13 rfl (lv_at hl 0 rfl) ?_
                                              refine lv_lload_n (pc := 14) hx hb dJ7_fill_d0a16_14 rfl (lv_at hl 3 rfl) ?_
                                              refine g_lastore (pc := 15) hx hb hK hP hD hS 0 3 rfl rfl (gin rfl) dJ7_fill_d0a16_15 (fun g_25 H locs hP hD hS => ?_)
                                              replace hP : va_P D gcl [(a0, .inl (cJ, 32, .inr (.inl g_25)))] H := hP
                                              replace hD : va_D A [(a0, .inl (cJ, 32, .inr (.inl g_25)))] := hD
                                              refine lv_iinc (pc := 16) (v := 25) (lv' := [(3, .int 25), (4, .int 32), (0, .ref a0), (1, .long (-1))]) hx hb dJ7_fill_d0a16_16 hl (k := 0) rfl (by decide +kernel) (by decide) rfl (fun ls hl => ?_)
                                              as_aux_lemma =>
                                                refine lv_goto (pc := 19) (tgt := 6) hx hb dJ7_fill_d0a16_19 (by decide) ?_
                                                refine lv_iload_n (pc := 6) hx hb dJ7_fill_d0a16_6 rfl (lv_at hl 0 rfl) ?_
                                                refine lv_iload (pc := 7) hx hb dJ7_fill_d0a16_7 (lv_at hl 1 rfl) ?_
                                                refine lv_icmp_ge (pc := 9) (tgt := 22) hx hb dJ7_fill_d0a16_9 (by decide) (fun c => absurd c (by decide +kernel)) (fun _ => ?_)
                                                refine lv_aload_n (pc := 12) hx hb dJ7_fill_d0a16_12 rfl (lv_at hl 2 rfl) ?_
                                                refine lv_iload_n (pc := 13) hx hb dJ7_fill_d0a16_13 rfl (lv_at hl 0 rfl) ?_
                                                refine lv_lload_n (pc := 14) hx hb dJ7_fill_d0a16_14 rfl (lv_at hl 3 rfl) ?_
                                                refine g_lastore (pc := 15) hx hb hK hP hD hS 0 3 rfl rfl (gin rfl) dJ7_fill_d0a16_15 (fun g_26 H locs hP hD hS => ?_)
                                                replace hP : va_P D gcl [(a0, .inl (cJ, 32, .inr (.inl g_26)))] H := hP
                                                replace hD : va_D A [(a0, .inl (cJ, 32, .inr (.inl g_26)))] := hD
                                                refine lv_iinc (pc := 16) (v := 26) (lv' := [(3, .int 26), (4, .int 32), (0, .ref a0), (1, .long (-1))]) hx hb dJ7_fill_d0a16_16 hl (k := 0) rfl (by decide +kernel) (by decide) rfl (fun ls hl => ?_)
                                                refine lv_goto (pc := 19) (tgt := 6) hx hb dJ7_fill_d0a16_19 (by decide) ?_
                                                as_aux_lemma =>
                                                  refine lv_iload_n (pc := 6) hx hb dJ7_fill_d0a16_6 rfl (lv_at hl 0 rfl) ?_
                                                  refine lv_iload (pc := 7) hx hb dJ7_fill_d0a16_7 (lv_at hl 1 rfl) ?_
                                                  refine lv_icmp_ge (pc := 9) (tgt := 22) hx hb dJ7_fill_d0a16_9 (by decide) (fun c => absurd c (by decide +kernel)) (fun _ => ?_)
                                                  refine lv_aload_n (pc := 12) hx hb dJ7_fill_d0a16_12 rfl (lv_at hl 2 rfl) ?_
                                                  refine lv_iload_n (pc := 13) hx hb dJ7_fill_d0a16_13 rfl (lv_at hl 0 rfl) ?_
                                                  refine lv_lload_n (pc := 14) hx hb dJ7_fill_d0a16_14 rfl (lv_at hl 3 rfl) ?_
                                                  refine g_lastore (pc := 15) hx hb hK hP hD hS 0 3 rfl rfl (gin rfl) dJ7_fill_d0a16_15 (fun g_27 H locs hP hD hS => ?_)
                                                  replace hP : va_P D gcl [(a0, .inl (cJ, 32, .inr (.inl g_27)))] H := hP
                                                  replace hD : va_D A [(a0, .inl (cJ, 32, .inr (.inl g_27)))] := hD
                                                  refine lv_iinc (pc := 16) (v := 27) (lv' := [(3, .int 27), (4, .int 32), (0, .ref a0), (1, .long (-1))]) hx hb dJ7_fill_d0a16_16 hl (k := 0) rfl (by decide +kernel) (by decide) rfl (fun ls hl => ?_)
                                                  refine lv_goto (pc := 19) (tgt := 6) hx hb dJ7_fill_d0a16_19 (by decide) ?_
                                                  refine lv_iload_n (pc := 6) hx hb dJ7_fill_d0a16_6 rfl (lv_at hl 0 rfl) ?_
                                                  as_aux_lemma =>
                                                    refine lv_iload (pc := 7) hx hb dJ7_fill_d0a16_7 (lv_at hl 1 rfl) ?_
                                                    refine lv_icmp_ge (pc := 9) (tgt := 22) hx hb dJ7_fill_d0a16_9 (by decide) (fun c => absurd c (by decide +kernel)) (fun _ => ?_)
                                                    refine lv_aload_n (pc := 12) hx hb dJ7_fill_d0a16_12 rfl (lv_at hl 2 rfl) ?_
                                                    refine lv_iload_n (pc := 13) hx hb dJ7_fill_d0a16_13 rfl (lv_at hl 0 rfl) ?_
                                                    refine lv_lload_n (pc := 14) hx hb dJ7_fill_d0a16_14 rfl (lv_at hl 3 rfl) ?_
                                                    refine g_lastore (pc := 15) hx hb hK hP hD hS 0 3 rfl rfl (gin rfl) dJ7_fill_d0a16_15 (fun g_28 H locs hP hD hS => ?_)
                                                    replace hP : va_P D gcl [(a0, .inl (cJ, 32, .inr (.inl g_28)))] H := hP
                                                    replace hD : va_D A [(a0, .inl (cJ, 32, .inr (.inl g_28)))] := hD
                                                    refine lv_iinc (pc := 16) (v := 28) (lv' := [(3, .int 28), (4, .int 32), (0, .ref a0), (1, .long (-1))]) hx hb dJ7_fill_d0a16_16 hl (k := 0) rfl (by decide +kernel) (by decide) rfl (fun ls hl => ?_)
                                                    refine lv_goto (pc := 19) (tgt := 6) hx hb dJ7_fill_d0a16_19 (by decide) ?_
                                                    refine lv_iload_n (pc := 6) hx hb dJ7_fill_d0a16_6 rfl (lv_at hl 0 rfl) ?_
                                                    refine lv_iload (pc := 7) hx hb dJ7_fill_d0a16_7 (lv_at hl 1 rfl) ?_
                                                    as_aux_lemma =>
                                                      refine lv_icmp_ge (pc := 9) (tgt := 22) hx hb dJ7_fill_d0a16_9 (by decide) (fun c => absurd c (by decide +kernel)) (fun _ => ?_)
                                                      refine lv_aload_n (pc := 12) hx hb dJ7_fill_d0a16_12 rfl (lv_at hl 2 rfl) ?_
                                                      refine lv_iload_n (pc := 13) hx hb dJ7_fill_d0a16_13 rfl (lv_at hl 0 rfl) ?_
                                                      refine lv_lload_n (pc := 14) hx hb dJ7_fill_d0a16_14 rfl (lv_at hl 3 rfl) ?_
                                                      refine g_lastore (pc := 15) hx hb hK hP hD hS 0 3 rfl rfl (gin rfl) dJ7_fill_d0a16_15 (fun g_29 H locs hP hD hS => ?_)
                                                      replace hP : va_P D gcl [(a0, .inl (cJ, 32, .inr (.inl g_29)))] H := hP
                                                      replace hD : va_D A [(a0, .inl (cJ, 32, .inr (.inl g_29)))] := hD
                                                      refine lv_iinc (pc := 16) (v := 29) (lv' := [(3, .int 29), (4, .int 32), (0, .ref a0), (1, .long (-1))]) hx hb dJ7_fill_d0a16_16 hl (k := 0) rfl (by decide +kernel) (by decide) rfl (fun ls hl => ?_)
                                                      refine lv_goto (pc := 19) (tgt := 6) hx hb dJ7_fill_d0a16_19 (by decide) ?_
                                                      refine lv_iload_n (pc := 6) hx hb dJ7_fill_d0a16_6 rfl (lv_at hl 0 rfl) ?_
                                                      refine lv_iload (pc := 7) hx hb dJ7_fill_d0a16_7 (lv_at hl 1 rfl) ?_
                                                      refine lv_icmp_ge (pc := 9) (tgt := 22) hx hb dJ7_fill_d0a16_9 (by decide) (fun c => absurd c (by decide +kernel)) (fun _ => ?_)
                                                      as_aux_lemma =>
                                                        refine lv_aload_n (pc := 12) hx hb dJ7_fill_d0a16_12 rfl (lv_at hl 2 rfl) ?_
                                                        refine lv_iload_n (pc := 13) hx hb dJ7_fill_d0a16_13 rfl (lv_at hl 0 rfl) ?_
                                                        refine lv_lload_n (pc := 14) hx hb dJ7_fill_d0a16_14 rfl (lv_at hl 3 rfl) ?_
                                                        refine g_lastore (pc := 15) hx hb hK hP hD hS 0 3 rfl rfl (gin rfl) dJ7_fill_d0a16_15 (fun g_30 H locs hP hD hS => ?_)
                                                        replace hP : va_P D gcl [(a0, .inl (cJ, 32, .inr (.inl g_30)))] H := hP
                                                        replace hD : va_D A [(a0, .inl (cJ, 32, .inr (.inl g_30)))] := hD
                                                        refine lv_iinc (pc := 16) (v := 30) (lv' := [(3, .int 30), (4, .int 32), (0, .ref a0), (1, .long (-1))]) hx hb dJ7_fill_d0a16_16 hl (k := 0) rfl (by decide +kernel) (by decide) rfl (fun ls hl => ?_)
                                                        refine lv_goto (pc := 19) (tgt := 6) hx hb dJ7_fill_d0a16_19 (by decide) ?_
                                                        refine lv_iload_n (pc := 6) hx hb dJ7_fill_d0a16_6 rfl (lv_at hl 0 rfl) ?_
                                                        refine lv_iload (pc := 7) hx hb dJ7_fill_d0a16_7 (lv_at hl 1 rfl) ?_
                                                        refine lv_icmp_ge (pc := 9) (tgt := 22) hx hb dJ7_fill_d0a16_9 (by decide) (fun c => absurd c (by decide +kernel)) (fun _ => ?_)
                                                        refine lv_aload_n (pc := 12) hx hb dJ7_fill_d0a16_12 rfl (lv_at hl 2 rfl) ?_
                                                        as_aux_lemma =>
                                                          refine lv_iload_n (pc := 13) hx hb dJ7_fill_d0a16_13 rfl (lv_at hl 0 rfl) ?_
                                                          refine lv_lload_n (pc := 14) hx hb dJ7_fill_d0a16_14 rfl (lv_at hl 3 rfl) ?_
                                                          refine g_lastore (pc := 15) hx hb hK hP hD hS 0 3 rfl rfl (gin rfl) dJ7_fill_d0a16_15 (fun g_31 H locs hP hD hS => ?_)
                                                          replace hP : va_P D gcl [(a0, .inl (cJ, 32, .inr (.inl g_31)))] H := hP
                                                          replace hD : va_D A [(a0, .inl (cJ, 32, .inr (.inl g_31)))] := hD
                                                          refine lv_iinc (pc := 16) (v := 31) (lv' := [(3, .int 31), (4, .int 32), (0, .ref a0), (1, .long (-1))]) hx hb dJ7_fill_d0a16_16 hl (k := 0) rfl (by decide +kernel) (by decide) rfl (fun ls hl => ?_)
                                                          refine lv_goto (pc := 19) (tgt := 6) hx hb dJ7_fill_d0a16_19 (by decide) ?_
                                                          refine lv_iload_n (pc := 6) hx hb dJ7_fill_d0a16_6 rfl (lv_at hl 0 rfl) ?_
                                                          refine lv_iload (pc := 7) hx hb dJ7_fill_d0a16_7 (lv_at hl 1 rfl) ?_
                                                          refine lv_icmp_ge (pc := 9) (tgt := 22) hx hb dJ7_fill_d0a16_9 (by decide) (fun c => absurd c (by decide +kernel)) (fun _ => ?_)
                                                          refine lv_aload_n (pc := 12) hx hb dJ7_fill_d0a16_12 rfl (lv_at hl 2 rfl) ?_
                                                          refine lv_iload_n (pc := 13) hx hb dJ7_fill_d0a16_13 rfl (lv_at hl 0 rfl) ?_
                                                          as_aux_lemma =>
                                                            refine lv_lload_n (pc := 14) hx hb dJ7_fill_d0a16_14 rfl (lv_at hl 3 rfl) ?_
                                                            refine g_lastore (pc := 15) hx hb hK hP hD hS 0 3 rfl rfl (gin rfl) dJ7_fill_d0a16_15 (fun g_32 H locs hP hD hS => ?_)
                                                            replace hP : va_P D gcl [(a0, .inl (cJ, 32, .inr (.inl g_32)))] H := hP
                                                            replace hD : va_D A [(a0, .inl (cJ, 32, .inr (.inl g_32)))] := hD
                                                            refine lv_iinc (pc := 16) (v := 32) (lv' := [(3, .int 32), (4, .int 32), (0, .ref a0), (1, .long (-1))]) hx hb dJ7_fill_d0a16_16 hl (k := 0) rfl (by decide +kernel) (by decide) rfl (fun ls hl => ?_)
                                                            refine lv_goto (pc := 19) (tgt := 6) hx hb dJ7_fill_d0a16_19 (by decide) ?_
                                                            refine lv_iload_n (pc := 6) hx hb dJ7_fill_d0a16_6 rfl (lv_at hl 0 rfl) ?_
                                                            refine lv_iload (pc := 7) hx hb dJ7_fill_d0a16_7 (lv_at hl 1 rfl) ?_
                                                            refine lv_icmp_ge (pc := 9) (tgt := 22) hx hb dJ7_fill_d0a16_9 (by decide) (fun _ => ?_) (fun c => absurd (by decide +kernel) c)
                                                            have hP9 := hP.sub (ws' := [(a0, .inl (cJ, 32, .inr (.inl g_32)))]) [0] rfl
                                                            have hD9 := hD.sub (ws' := [(a0, .inl (cJ, 32, .inr (.inl g_32)))]) [0] (by decide) rfl
                                                            refine W.widen (k := 0) (n := 0) (Nat.le_of_ble_eq_true rfl) (Nat.le_of_ble_eq_true rfl) ?_
                                                            exact W.vret hx hb hr (fun t ht hW => ⟨⟨((fun _ => 0), (fun _ => (fun _ => 0)), (fun k => [g_32].getD k (fun _ => 0)), (fun _ => 0), (fun _ => 0)), rfl, trivial, by rw [ht]; exact hP9, hD9⟩, hS.F ht⟩) hS.2.2 dJ7_fill_d0a16_22
set_option maxHeartbeats 4000000 in
set_option maxRecDepth 100000 in
theorem cc_9_yX6_init (l : Launch) (D : va_G) (cB cC cI cJ : ClassId) (sz : Nat) (a0 : Nat) : Met l yX6_init (.code yX6_init cX6_init 1 none :: lw_gd) ({ frames := 2, cells := 10, slots := 120, locals := 32 }) (gPre D [(cB, .byte), (cC, .char), (cI, .int), (cJ, .long)] [.ref a0] [(a0, .inr (6, [.null, .null, .null, .long 0]))] sz) (va_Qv (fun _ => True) (gB D (va_A [(a0, .inr (6, [.null, .null, .null, .long 0]))] sz) (fun u : gEx => (zS_181 cB cC cI cJ a0 (u.1 0) (u.1 8) (u.1 9) 0 (u.1 0) (u.1 1) (u.1 2) (u.1 3) (u.1 4) (u.1 5) (u.1 6) (u.1 7) 0 (u.1 1) (fun _ => 0) (u.1 2) (fun _ => 0) (u.1 3) (fun _ => 0) (u.1 4) (fun _ => 0) (u.1 5) (fun _ => 0) (u.1 6) (fun _ => 0) (u.1 7) (fun _ => 0) (u.1 8) (fun _ => 0) (u.1 9) (u.2.2.1 0)))) (va_A [(a0, .inr (6, [.null, .null, .null, .long 0]))] sz)) 10 120 (va_A [(a0, .inr (6, [.null, .null, .null, .long 0]))] sz) := by
  refine Met.ofW (cc := cX6_init) (maxL := 1) (ret := none) (by decide) rfl ?_
  intro p e s m args below meth c s₁ B hml hv
  obtain ⟨rfl, hsz, hP, hK, hD0, hN⟩ := hv
  have hx := B.exec
  have hb := B.bytes
  have hr := B.returns
  have hts : ∀ w ∈ lw_gd, w.before _ s = true := fun w h => atoms_spec (ws := .code yX6_init cX6_init 1 none :: lw_gd) B.pre w (List.mem_cons_of_mem _ h)
  have hown : s.vm.findClass RX6 = some m.cls := findClass_of_methodNamed B.named
  have hlocks := B.notSynchronized
  have hin : meth.name = "<init>" := (name_of_methodNamed B.named B.method).1
  subst hsz
  have hD := hD0.self (sz := s.heap.size)
  generalize hAe : va_A [(a0, .inr (6, [.null, .null, .null, .long 0]))] s.heap.size = A at hD ⊢
  have hA : ∀ q : Nat, s.heap.size ≤ q → A q := fun q h => by rw [← hAe]; exact Or.inr h
  have hS : va_S A s.heap s.heap [] := va_S.rf
  replace hP : va_P D gcl [(a0, .inr (6, [.null, .null, .null, .long 0]))] s.heap := hP
  have hl := lv_entry ([.ref a0]) (n := 1) (Nat.le_of_ble_eq_true rfl)
  rw [lg_entry_eq]
  generalize (lg_sl ([.ref a0]) ++ List.replicate (1 - (lg_sl ([.ref a0])).length) Slot.unset).toArray = ls at hl ⊢
  replace hl : lv_has ls 1 [(0, .ref a0)] := hl
  refine lv_aload_n (pc := 0) hx hb dX6_init_0 rfl (lv_at hl 0 rfl) ?_
  refine W.objInit hx hb hown (hts _ tw_286) (hts _ tw_28) (hts _ tw_29) rfl (by rw [hml]; exact hl.1) rfl dX6_init_1 (Nat.le_of_ble_eq_true rfl) (Nat.le_of_ble_eq_true rfl) ?_
  refine W.eq (g2 := F0 m 4 ls []) rfl ?_
  refine lv_aload_n (pc := 4) hx hb dX6_init_4 rfl (lv_at hl 0 rfl) ?_
  refine va_new (pc := 5) (ci := 10) (fs := [.null, .null, .null, .null, .null, .null, .null, .int 0]) (C := RX10) (T := TX10) (N := 8) hx hb hts iX10 tyX10 tyX10_ok hown (hts _ tw_287) (hts _ tw_202) (hts _ tw_8) hK hP hD hS hA rfl (gdv_X10) (Nat.le_of_ble_eq_true rfl) (Nat.le_of_ble_eq_true rfl) dX6_init_5 (fun q_1 H hP hD hS => ?_)
  replace hP : va_P D gcl [(a0, .inr (6, [.null, .null, .null, .long 0])), (q_1, .inr (10, [.null, .null, .null, .null, .null, .null, .null, .int 0]))] H := hP
  replace hD : va_D A [(a0, .inr (6, [.null, .null, .null, .long 0])), (q_1, .inr (10, [.null, .null, .null, .null, .null, .null, .null, .int 0]))] := hD
  refine lv_dup (pc := 8) hx hb dX6_init_8 rfl ?_
  refine gc_v (pc := 9) (wc := [(q_1, .inr (10, [.null, .null, .null, .null, .null, .null, .null, .int 0]))]) (wr := [(a0, .inr (6, [.null, .null, .null, .long 0]))]) hP hD hS hA [1] [0] rfl rfl (by decide) (by decide) (by decide) (fun hPc hDc => va_runIN (As := []) (rest := [.ref q_1, .ref a0]) ⟨hx, hb, hml, hown, hts⟩ (cc_6_yX10_init l D cB cC cI cJ _ q_1) ⟨gcwN hts tw_205 tw_8 (hN _ tn_288) hd_yX10_init ⟨Nat.le_of_ble_eq_true rfl, Nat.le_of_ble_eq_true rfl⟩, rfl, hts _ tw_204⟩ (gpreS hPc hK hDc hN) rfl rfl hl.1 rfl (lv_room (Nat.le_of_ble_eq_true rfl)) dX6_init_9 ⟨Nat.le_of_ble_eq_true rfl, Nat.le_of_ble_eq_true rfl⟩) (fun u_2 H locs hw_4 hP hD hS => ?_)
  replace hP : va_P D gcl [(a0, .inr (6, [.null, .null, .null, .long 0])), (q_1, .inr (10, [.ref (u_2.1 0), .ref (u_2.1 1), .ref (u_2.1 2), .ref (u_2.1 3), .ref (u_2.1 4), .ref (u_2.1 5), .ref (u_2.1 6), .int 0])), ((u_2.1 0), .inl (cJ, 25, .inr (.inl (fun _ => 0)))), ((u_2.1 1), .inl (cJ, 5, .inr (.inl (fun _ => 0)))), ((u_2.1 2), .inl (cJ, 25, .inr (.inl (fun _ => 0)))), ((u_2.1 3), .inl (cI, 5, .inl (fun _ => 0))), ((u_2.1 4), .inl (cI, 5, .inl (fun _ => 0))), ((u_2.1 5), .inl (cI, 5, .inl (fun _ => 0))), ((u_2.1 6), .inl (cI, 5, .inl (fun _ => 0)))] H := hP
  replace hD : va_D A [(a0, .inr (6, [.null, .null, .null, .long 0])), (q_1, .inr (10, [.ref (u_2.1 0), .ref (u_2.1 1), .ref (u_2.1 2), .ref (u_2.1 3), .ref (u_2.1 4), .ref (u_2.1 5), .ref (u_2.1 6), .int 0])), ((u_2.1 0), .inl (cJ, 25, .inr (.inl (fun _ => 0)))), ((u_2.1 1), .inl (cJ, 5, .inr (.inl (fun _ => 0)))), ((u_2.1 2), .inl (cJ, 25, .inr (.inl (fun _ => 0)))), ((u_2.1 3), .inl (cI, 5, .inl (fun _ => 0))), ((u_2.1 4), .inl (cI, 5, .inl (fun _ => 0))), ((u_2.1 5), .inl (cI, 5, .inl (fun _ => 0))), ((u_2.1 6), .inl (cI, 5, .inl (fun _ => 0)))] := hD
  refine va_putF (pc := 12) (ci := 6) (v := .ref q_1) (ty := (.object "ManyOut$Walk")) (C := RX6) (T := TX6) (N := 4) hx hb hts iX6 tyX6 tyX6_ok nmX6 hown hK hP hD hS 0 rfl rfl 0 (by decide) (hts _ tw_293) (fun _ h9 => h9) rfl hin rfl (by decide +kernel) rfl rfl (Nat.le_of_ble_eq_true rfl) dX6_init_12 (fun H locs hP hD hS => ?_)
  replace hP : va_P D gcl [(a0, .inr (6, [.ref q_1, .null, .null, .long 0])), (q_1, .inr (10, [.ref (u_2.1 0), .ref (u_2.1 1), .ref (u_2.1 2), .ref (u_2.1 3), .ref (u_2.1 4), .ref (u_2.1 5), .ref (u_2.1 6), .int 0])), ((u_2.1 0), .inl (cJ, 25, .inr (.inl (fun _ => 0)))), ((u_2.1 1), .inl (cJ, 5, .inr (.inl (fun _ => 0)))), ((u_2.1 2), .inl (cJ, 25, .inr (.inl (fun _ => 0)))), ((u_2.1 3), .inl (cI, 5, .inl (fun _ => 0))), ((u_2.1 4), .inl (cI, 5, .inl (fun _ => 0))), ((u_2.1 5), .inl (cI, 5, .inl (fun _ => 0))), ((u_2.1 6), .inl (cI, 5, .inl (fun _ => 0)))] H := hP
  replace hD : va_D A [(a0, .inr (6, [.ref q_1, .null, .null, .long 0])), (q_1, .inr (10, [.ref (u_2.1 0), .ref (u_2.1 1), .ref (u_2.1 2), .ref (u_2.1 3), .ref (u_2.1 4), .ref (u_2.1 5), .ref (u_2.1 6), .int 0])), ((u_2.1 0), .inl (cJ, 25, .inr (.inl (fun _ => 0)))), ((u_2.1 1), .inl (cJ, 5, .inr (.inl (fun _ => 0)))), ((u_2.1 2), .inl (cJ, 25, .inr (.inl (fun _ => 0)))), ((u_2.1 3), .inl (cI, 5, .inl (fun _ => 0))), ((u_2.1 4), .inl (cI, 5, .inl (fun _ => 0))), ((u_2.1 5), .inl (cI, 5, .inl (fun _ => 0))), ((u_2.1 6), .inl (cI, 5, .inl (fun _ => 0)))] := hD
  refine lv_aload_n (pc := 15) hx hb dX6_init_15 rfl (lv_at hl 0 rfl) ?_
  as_aux_lemma =>
    refine lv_iconst (pc := 16) (v := 5) hx hb dX6_init_16 (by decide) ?_
    refine g_newa (pc := 17) (atype := .int) (ty := .int) (a0 := (5, .inl (fun _ => 0))) (N' := 5) hx hb (hts _ tw_66) rfl (fun _ h => h) hK 2 rfl hP hD hS hA (fun _ => rfl) (by decide +kernel) (by decide +kernel) (by decide +kernel) (Nat.le_of_ble_eq_true rfl) (Nat.le_of_ble_eq_true rfl) dX6_init_17 (fun q_5 H hP hD hS => ?_)
    replace hP : va_P D gcl [(a0, .inr (6, [.ref q_1, .null, .null, .long 0])), (q_1, .inr (10, [.ref (u_2.1 0), .ref (u_2.1 1), .ref (u_2.1 2), .ref (u_2.1 3), .ref (u_2.1 4), .ref (u_2.1 5), .ref (u_2.1 6), .int 0])), ((u_2.1 0), .inl (cJ, 25, .inr (.inl (fun _ => 0)))), ((u_2.1 1), .inl (cJ, 5, .inr (.inl (fun _ => 0)))), ((u_2.1 2), .inl (cJ, 25, .inr (.inl (fun _ => 0)))), ((u_2.1 3), .inl (cI, 5, .inl (fun _ => 0))), ((u_2.1 4), .inl (cI, 5, .inl (fun _ => 0))), ((u_2.1 5), .inl (cI, 5, .inl (fun _ => 0))), ((u_2.1 6), .inl (cI, 5, .inl (fun _ => 0))), (q_5, .inl (cI, 5, .inl (fun _ => 0)))] H := hP
    replace hD : va_D A [(a0, .inr (6, [.ref q_1, .null, .null, .long 0])), (q_1, .inr (10, [.ref (u_2.1 0), .ref (u_2.1 1), .ref (u_2.1 2), .ref (u_2.1 3), .ref (u_2.1 4), .ref (u_2.1 5), .ref (u_2.1 6), .int 0])), ((u_2.1 0), .inl (cJ, 25, .inr (.inl (fun _ => 0)))), ((u_2.1 1), .inl (cJ, 5, .inr (.inl (fun _ => 0)))), ((u_2.1 2), .inl (cJ, 25, .inr (.inl (fun _ => 0)))), ((u_2.1 3), .inl (cI, 5, .inl (fun _ => 0))), ((u_2.1 4), .inl (cI, 5, .inl (fun _ => 0))), ((u_2.1 5), .inl (cI, 5, .inl (fun _ => 0))), ((u_2.1 6), .inl (cI, 5, .inl (fun _ => 0))), (q_5, .inl (cI, 5, .inl (fun _ => 0)))] := hD
    refine va_putF (pc := 19) (ci := 6) (v := .ref q_5) (ty := (.array .int)) (C := RX6) (T := TX6) (N := 4) hx hb hts iX6 tyX6 tyX6_ok nmX6 hown hK hP hD hS 0 rfl rfl 1 (by decide) (hts _ tw_294) (fun _ h9 => h9) rfl hin rfl (by decide +kernel) rfl rfl (Nat.le_of_ble_eq_true rfl) dX6_init_19 (fun H locs hP hD hS => ?_)
    replace hP : va_P D gcl [(a0, .inr (6, [.ref q_1, .ref q_5, .null, .long 0])), (q_1, .inr (10, [.ref (u_2.1 0), .ref (u_2.1 1), .ref (u_2.1 2), .ref (u_2.1 3), .ref (u_2.1 4), .ref (u_2.1 5), .ref (u_2.1 6), .int 0])), ((u_2.1 0), .inl (cJ, 25, .inr (.inl (fun _ => 0)))), ((u_2.1 1), .inl (cJ, 5, .inr (.inl (fun _ => 0)))), ((u_2.1 2), .inl (cJ, 25, .inr (.inl (fun _ => 0)))), ((u_2.1 3), .inl (cI, 5, .inl (fun _ => 0))), ((u_2.1 4), .inl (cI, 5, .inl (fun _ => 0))), ((u_2.1 5), .inl (cI, 5, .inl (fun _ => 0))), ((u_2.1 6), .inl (cI, 5, .inl (fun _ => 0))), (q_5, .inl (cI, 5, .inl (fun _ => 0)))] H := hP
    replace hD : va_D A [(a0, .inr (6, [.ref q_1, .ref q_5, .null, .long 0])), (q_1, .inr (10, [.ref (u_2.1 0), .ref (u_2.1 1), .ref (u_2.1 2), .ref (u_2.1 3), .ref (u_2.1 4), .ref (u_2.1 5), .ref (u_2.1 6), .int 0])), ((u_2.1 0), .inl (cJ, 25, .inr (.inl (fun _ => 0)))), ((u_2.1 1), .inl (cJ, 5, .inr (.inl (fun _ => 0)))), ((u_2.1 2), .inl (cJ, 25, .inr (.inl (fun _ => 0)))), ((u_2.1 3), .inl (cI, 5, .inl (fun _ => 0))), ((u_2.1 4), .inl (cI, 5, .inl (fun _ => 0))), ((u_2.1 5), .inl (cI, 5, .inl (fun _ => 0))), ((u_2.1 6), .inl (cI, 5, .inl (fun _ => 0))), (q_5, .inl (cI, 5, .inl (fun _ => 0)))] := hD
    refine lv_aload_n (pc := 22) hx hb dX6_init_22 rfl (lv_at hl 0 rfl) ?_
    refine lv_bipush (pc := 23) (v := 32) hx hb dX6_init_23 (by decide) ?_
    refine g_newa (pc := 25) (atype := .long) (ty := .long) (a0 := (32, .inr (.inl (fun _ => 0)))) (N' := 32) hx hb (hts _ tw_241) rfl (fun _ h => h) hK 3 rfl hP hD hS hA (fun _ => rfl) (by decide +kernel) (by decide +kernel) (by decide +kernel) (Nat.le_of_ble_eq_true rfl) (Nat.le_of_ble_eq_true rfl) dX6_init_25 (fun q_6 H hP hD hS => ?_)
    replace hP : va_P D gcl [(a0, .inr (6, [.ref q_1, .ref q_5, .null, .long 0])), (q_1, .inr (10, [.ref (u_2.1 0), .ref (u_2.1 1), .ref (u_2.1 2), .ref (u_2.1 3), .ref (u_2.1 4), .ref (u_2.1 5), .ref (u_2.1 6), .int 0])), ((u_2.1 0), .inl (cJ, 25, .inr (.inl (fun _ => 0)))), ((u_2.1 1), .inl (cJ, 5, .inr (.inl (fun _ => 0)))), ((u_2.1 2), .inl (cJ, 25, .inr (.inl (fun _ => 0)))), ((u_2.1 3), .inl (cI, 5, .inl (fun _ => 0))), ((u_2.1 4), .inl (cI, 5, .inl (fun _ => 0))), ((u_2.1 5), .inl (cI, 5, .inl (fun _ => 0))), ((u_2.1 6), .inl (cI, 5, .inl (fun _ => 0))), (q_5, .inl (cI, 5, .inl (fun _ => 0))), (q_6, .inl (cJ, 32, .inr (.inl (fun _ => 0))))] H := hP
    replace hD : va_D A [(a0, .inr (6, [.ref q_1, .ref q_5, .null, .long 0])), (q_1, .inr (10, [.ref (u_2.1 0), .ref (u_2.1 1), .ref (u_2.1 2), .ref (u_2.1 3), .ref (u_2.1 4), .ref (u_2.1 5), .ref (u_2.1 6), .int 0])), ((u_2.1 0), .inl (cJ, 25, .inr (.inl (fun _ => 0)))), ((u_2.1 1), .inl (cJ, 5, .inr (.inl (fun _ => 0)))), ((u_2.1 2), .inl (cJ, 25, .inr (.inl (fun _ => 0)))), ((u_2.1 3), .inl (cI, 5, .inl (fun _ => 0))), ((u_2.1 4), .inl (cI, 5, .inl (fun _ => 0))), ((u_2.1 5), .inl (cI, 5, .inl (fun _ => 0))), ((u_2.1 6), .inl (cI, 5, .inl (fun _ => 0))), (q_5, .inl (cI, 5, .inl (fun _ => 0))), (q_6, .inl (cJ, 32, .inr (.inl (fun _ => 0))))] := hD
    refine va_putF (pc := 27) (ci := 6) (v := .ref q_6) (ty := (.array .long)) (C := RX6) (T := TX6) (N := 4) hx hb hts iX6 tyX6 tyX6_ok nmX6 hown hK hP hD hS 0 rfl rfl 2 (by decide) (hts _ tw_296) (fun _ h9 => h9) rfl hin rfl (by decide +kernel) rfl rfl (Nat.le_of_ble_eq_true rfl) dX6_init_27 (fun H locs hP hD hS => ?_)
    replace hP : va_P D gcl (zS_181 cB cC cI cJ a0 q_1 q_5 q_6 0 q_1 (u_2.1 0) (u_2.1 1) (u_2.1 2) (u_2.1 3) (u_2.1 4) (u_2.1 5) (u_2.1 6) 0 (u_2.1 0) (fun _ => 0) (u_2.1 1) (fun _ => 0) (u_2.1 2) (fun _ => 0) (u_2.1 3) (fun _ => 0) (u_2.1 4) (fun _ => 0) (u_2.1 5) (fun _ => 0) (u_2.1 6) (fun _ => 0) q_5 (fun _ => 0) q_6 (fun _ => 0)) H := hP
    replace hD : va_D A (zS_181 cB cC cI cJ a0 q_1 q_5 q_6 0 q_1 (u_2.1 0) (u_2.1 1) (u_2.1 2) (u_2.1 3) (u_2.1 4) (u_2.1 5) (u_2.1 6) 0 (u_2.1 0) (fun _ => 0) (u_2.1 1) (fun _ => 0) (u_2.1 2) (fun _ => 0) (u_2.1 3) (fun _ => 0) (u_2.1 4) (fun _ => 0) (u_2.1 5) (fun _ => 0) (u_2.1 6) (fun _ => 0) q_5 (fun _ => 0) q_6 (fun _ => 0)) := hD
    refine lv_aload_n (pc := 30) hx hb dX6_init_30 rfl (lv_at hl 0 rfl) ?_
    refine lv_lconst (pc := 31) (v := 0) hx hb dX6_init_31 (by decide) ?_
    refine va_put (pc := 32) (ci := 6) (v := .long 0) (ty := .long) (C := RX6) (T := TX6) (N := 4) hx hb hts iX6 tyX6 tyX6_ok nmX6 hown hK hP hD hS 0 rfl rfl 3 (by decide) (hts _ tw_297) (fun _ h9 => h9) rfl (by decide +kernel) (by decide +kernel) (by decide +kernel) (Nat.le_of_ble_eq_true rfl) dX6_init_32 (fun H locs hP hD hS => ?_)
    replace hP : va_P D gcl (zS_181 cB cC cI cJ a0 q_1 q_5 q_6 0 q_1 (u_2.1 0) (u_2.1 1) (u_2.1 2) (u_2.1 3) (u_2.1 4) (u_2.1 5) (u_2.1 6) 0 (u_2.1 0) (fun _ => 0) (u_2.1 1) (fun _ => 0) (u_2.1 2) (fun _ => 0) (u_2.1 3) (fun _ => 0) (u_2.1 4) (fun _ => 0) (u_2.1 5) (fun _ => 0) (u_2.1 6) (fun _ => 0) q_5 (fun _ => 0) q_6 (fun _ => 0)) H := hP
    replace hD : va_D A (zS_181 cB cC cI cJ a0 q_1 q_5 q_6 0 q_1 (u_2.1 0) (u_2.1 1) (u_2.1 2) (u_2.1 3) (u_2.1 4) (u_2.1 5) (u_2.1 6) 0 (u_2.1 0) (fun _ => 0) (u_2.1 1) (fun _ => 0) (u_2.1 2) (fun _ => 0) (u_2.1 3) (fun _ => 0) (u_2.1 4) (fun _ => 0) (u_2.1 5) (fun _ => 0) (u_2.1 6) (fun _ => 0) q_5 (fun _ => 0) q_6 (fun _ => 0)) := hD
    as_aux_lemma =>
      refine lv_aload_n (pc := 35) hx hb dX6_init_35 rfl (lv_at hl 0 rfl) ?_
      refine va_get (pc := 36) (ci := 6) (v := .ref q_6) (C := RX6) (T := TX6) (N := 4) hx hb hts iX6 hown hK hP 0 rfl rfl 2 (by decide) (hts _ tw_296) (fun _ h9 => h9) rfl dX6_init_36 ?_
      refine lv_ldc2 (pc := 39) hx hb hown (hts _ tw_289) dX6_init_39 ?_
      refine gc_v (pc := 42) (wc := [(q_6, .inl (cJ, 32, .inr (.inl (fun _ => 0))))]) (wr := [(a0, .inr (6, [.ref q_1, .ref q_5, .ref q_6, .long 0])), (q_1, .inr (10, [.ref (u_2.1 0), .ref (u_2.1 1), .ref (u_2.1 2), .ref (u_2.1 3), .ref (u_2.1 4), .ref (u_2.1 5), .ref (u_2.1 6), .int 0])), ((u_2.1 0), .inl (cJ, 25, .inr (.inl (fun _ => 0)))), ((u_2.1 1), .inl (cJ, 5, .inr (.inl (fun _ => 0)))), ((u_2.1 2), .inl (cJ, 25, .inr (.inl (fun _ => 0)))), ((u_2.1 3), .inl (cI, 5, .inl (fun _ => 0))), ((u_2.1 4), .inl (cI, 5, .inl (fun _ => 0))), ((u_2.1 5), .inl (cI, 5, .inl (fun _ => 0))), ((u_2.1 6), .inl (cI, 5, .inl (fun _ => 0))), (q_5, .inl (cI, 5, .inl (fun _ => 0)))]) hP hD hS hA [10] [0, 1, 2, 3, 4, 5, 6, 7, 8, 9] rfl rfl (by decide) (by decide) (by decide) (fun hPc hDc => va_runS (As := [.ref q_6, .long (-1)]) (rest := []) ⟨hx, hb, hml, hown, hts⟩ (cc_8_yJ7_fill_d0a16 l D cB cC cI cJ _ q_6) ⟨gcwB hts tw_292 tw_10 tw_290 hd_yJ7_fill_d0a16 ⟨Nat.le_of_ble_eq_true rfl, Nat.le_of_ble_eq_true rfl⟩, hts _ tw_291⟩ (gpreS hPc hK hDc hN) rfl rfl hl.1 rfl (lv_room (Nat.le_of_ble_eq_true rfl)) dX6_init_42 ⟨Nat.le_of_ble_eq_true rfl, Nat.le_of_ble_eq_true rfl⟩) (fun u_7 H locs hw_9 hP hD hS => ?_)
      replace hP : va_P D gcl (zS_181 cB cC cI cJ a0 q_1 q_5 q_6 0 q_1 (u_2.1 0) (u_2.1 1) (u_2.1 2) (u_2.1 3) (u_2.1 4) (u_2.1 5) (u_2.1 6) 0 (u_2.1 0) (fun _ => 0) (u_2.1 1) (fun _ => 0) (u_2.1 2) (fun _ => 0) (u_2.1 3) (fun _ => 0) (u_2.1 4) (fun _ => 0) (u_2.1 5) (fun _ => 0) (u_2.1 6) (fun _ => 0) q_5 (fun _ => 0) q_6 (u_7.2.2.1 0)) H := hP
      replace hD : va_D A (zS_181 cB cC cI cJ a0 q_1 q_5 q_6 0 q_1 (u_2.1 0) (u_2.1 1) (u_2.1 2) (u_2.1 3) (u_2.1 4) (u_2.1 5) (u_2.1 6) 0 (u_2.1 0) (fun _ => 0) (u_2.1 1) (fun _ => 0) (u_2.1 2) (fun _ => 0) (u_2.1 3) (fun _ => 0) (u_2.1 4) (fun _ => 0) (u_2.1 5) (fun _ => 0) (u_2.1 6) (fun _ => 0) q_5 (fun _ => 0) q_6 (u_7.2.2.1 0)) := hD
      have hP9 := hP.sub (ws' := (zS_181 cB cC cI cJ a0 q_1 q_5 q_6 0 q_1 (u_2.1 0) (u_2.1 1) (u_2.1 2) (u_2.1 3) (u_2.1 4) (u_2.1 5) (u_2.1 6) 0 (u_2.1 0) (fun _ => 0) (u_2.1 1) (fun _ => 0) (u_2.1 2) (fun _ => 0) (u_2.1 3) (fun _ => 0) (u_2.1 4) (fun _ => 0) (u_2.1 5) (fun _ => 0) (u_2.1 6) (fun _ => 0) q_5 (fun _ => 0) q_6 (u_7.2.2.1 0))) [0, 1, 2, 3, 4, 5, 6, 7, 8, 9, 10] rfl
      have hD9 := hD.sub (ws' := (zS_181 cB cC cI cJ a0 q_1 q_5 q_6 0 q_1 (u_2.1 0) (u_2.1 1) (u_2.1 2) (u_2.1 3) (u_2.1 4) (u_2.1 5) (u_2.1 6) 0 (u_2.1 0) (fun _ => 0) (u_2.1 1) (fun _ => 0) (u_2.1 2) (fun _ => 0) (u_2.1 3) (fun _ => 0) (u_2.1 4) (fun _ => 0) (u_2.1 5) (fun _ => 0) (u_2.1 6) (fun _ => 0) q_5 (fun _ => 0) q_6 (u_7.2.2.1 0))) [0, 1, 2, 3, 4, 5, 6, 7, 8, 9, 10] (by decide) rfl
      refine W.widen (k := 10) (n := 120) (Nat.le_of_ble_eq_true rfl) (Nat.le_of_ble_eq_true rfl) ?_
      exact W.vret hx hb hr (fun t ht hW => ⟨⟨((fun k => [q_1, (u_2.1 0), (u_2.1 1), (u_2.1 2), (u_2.1 3), (u_2.1 4), (u_2.1 5), (u_2.1 6), q_5, q_6].getD k 0), (fun _ => (fun _ => 0)), (fun k => [(u_7.2.2.1 0)].getD k (fun _ => 0)), (fun _ => 0), (fun _ => 0)), rfl, trivial, by rw [ht]; exact hP9, hD9⟩, hS.F ht⟩) hS.2.2 dX6_init_45
set_option maxHeartbeats 4000000 in
set_option maxRecDepth 100000 in
theorem cc_10_yX0_init (l : Launch) (D : va_G) (cB cC cI cJ : ClassId) (sz : Nat) (a0 : Nat) : Met l yX0_init (.code yX0_init cX0_init 1 none :: lw_gd) ({ frames := 1, cells := 2, slots := 261, locals := 12 }) (gPre D [(cB, .byte), (cC, .char), (cI, .int), (cJ, .long)] [.ref a0] (zS_186 cB cC cI cJ a0 0 0 0 0 0) sz) (va_Qv (fun _ => True) (gB D (va_A (zS_186 cB cC cI cJ a0 0 0 0 0 0) sz) (fun u : gEx => (zS_150 cB cC cI cJ a0 (u.1 0) (u.1 1) 0 0 0 0 0 (u.1 0) (fun _ => 0) (u.1 1) (fun _ => 0)))) (va_A (zS_186 cB cC cI cJ a0 0 0 0 0 0) sz)) 2 261 (va_A (zS_186 cB cC cI cJ a0 0 0 0 0 0) sz) := by
  refine Met.ofW (cc := cX0_init) (maxL := 1) (ret := none) (by decide) rfl ?_
  intro p e s m args below meth c s₁ B hml hv
  obtain ⟨rfl, hsz, hP, hK, hD0, hN⟩ := hv
  have hx := B.exec
  have hb := B.bytes
  have hr := B.returns
  have hts : ∀ w ∈ lw_gd, w.before _ s = true := fun w h => atoms_spec (ws := .code yX0_init cX0_init 1 none :: lw_gd) B.pre w (List.mem_cons_of_mem _ h)
  have hown : s.vm.findClass RX0 = some m.cls := findClass_of_methodNamed B.named
  have hlocks := B.notSynchronized
  have hin : meth.name = "<init>" := (name_of_methodNamed B.named B.method).1
  subst hsz
  have hD := hD0.self (sz := s.heap.size)
  generalize hAe : va_A (zS_186 cB cC cI cJ a0 0 0 0 0 0) s.heap.size = A at hD ⊢
  have hA : ∀ q : Nat, s.heap.size ≤ q → A q := fun q h => by rw [← hAe]; exact Or.inr h
  have hS : va_S A s.heap s.heap [] := va_S.rf
  replace hP : va_P D gcl (zS_186 cB cC cI cJ a0 0 0 0 0 0) s.heap := hP
  have hl := lv_entry ([.ref a0]) (n := 1) (Nat.le_of_ble_eq_true rfl)
  rw [lg_entry_eq]
  generalize (lg_sl ([.ref a0]) ++ List.replicate (1 - (lg_sl ([.ref a0])).length) Slot.unset).toArray = ls at hl ⊢
  replace hl : lv_has ls 1 [(0, .ref a0)] := hl
  refine lv_aload_n (pc := 0) hx hb dX0_init_0 rfl (lv_at hl 0 rfl) ?_
  refine W.objInit hx hb hown (hts _ tw_313) (hts _ tw_28) (hts _ tw_29) rfl (by rw [hml]; exact hl.1) rfl dX0_init_1 (Nat.le_of_ble_eq_true rfl) (Nat.le_of_ble_eq_true rfl) ?_
  refine W.eq (g2 := F0 m 4 ls []) rfl ?_
  refine lv_aload_n (pc := 4) hx hb dX0_init_4 rfl (lv_at hl 0 rfl) ?_
  refine lv_sipush (pc := 5) (v := 256) hx hb dX0_init_5 (by decide) ?_
  refine g_newa (pc := 8) (atype := .long) (ty := .long) (a0 := (256, .inr (.inl (fun _ => 0)))) (N' := 256) hx hb (hts _ tw_241) rfl (fun _ h => h) hK 3 rfl hP hD hS hA (fun _ => rfl) (by decide +kernel) (by decide +kernel) (by decide +kernel) (Nat.le_of_ble_eq_true rfl) (Nat.le_of_ble_eq_true rfl) dX0_init_8 (fun q_1 H hP hD hS => ?_)
  replace hP : va_P D gcl [(a0, .inr (0, [.null, .null, .int 0, .int 0, .long 0, .int 0, .int 0])), (q_1, .inl (cJ, 256, .inr (.inl (fun _ => 0))))] H := hP
  replace hD : va_D A [(a0, .inr (0, [.null, .null, .int 0, .int 0, .long 0, .int 0, .int 0])), (q_1, .inl (cJ, 256, .inr (.inl (fun _ => 0))))] := hD
  refine va_putF (pc := 10) (ci := 0) (v := .ref q_1) (ty := (.array .long)) (C := RX0) (T := TX0) (N := 7) hx hb hts iX0 tyX0 tyX0_ok nmX0 hown hK hP hD hS 0 rfl rfl 0 (by decide) (hts _ tw_314) (fun _ h9 => h9) rfl hin rfl (by decide +kernel) rfl rfl (Nat.le_of_ble_eq_true rfl) dX0_init_10 (fun H locs hP hD hS => ?_)
  replace hP : va_P D gcl [(a0, .inr (0, [.ref q_1, .null, .int 0, .int 0, .long 0, .int 0, .int 0])), (q_1, .inl (cJ, 256, .inr (.inl (fun _ => 0))))] H := hP
  replace hD : va_D A [(a0, .inr (0, [.ref q_1, .null, .int 0, .int 0, .long 0, .int 0, .int 0])), (q_1, .inl (cJ, 256, .inr (.inl (fun _ => 0))))] := hD
  refine lv_aload_n (pc := 13) hx hb dX0_init_13 rfl (lv_at hl 0 rfl) ?_
  refine lv_iconst (pc := 14) (v := 5) hx hb dX0_init_14 (by decide) ?_
  as_aux_lemma =>
    refine g_newa (pc := 15) (atype := .int) (ty := .int) (a0 := (5, .inl (fun _ => 0))) (N' := 5) hx hb (hts _ tw_66) rfl (fun _ h => h) hK 2 rfl hP hD hS hA (fun _ => rfl) (by decide +kernel) (by decide +kernel) (by decide +kernel) (Nat.le_of_ble_eq_true rfl) (Nat.le_of_ble_eq_true rfl) dX0_init_15 (fun q_2 H hP hD hS => ?_)
    replace hP : va_P D gcl [(a0, .inr (0, [.ref q_1, .null, .int 0, .int 0, .long 0, .int 0, .int 0])), (q_1, .inl (cJ, 256, .inr (.inl (fun _ => 0)))), (q_2, .inl (cI, 5, .inl (fun _ => 0)))] H := hP
    replace hD : va_D A [(a0, .inr (0, [.ref q_1, .null, .int 0, .int 0, .long 0, .int 0, .int 0])), (q_1, .inl (cJ, 256, .inr (.inl (fun _ => 0)))), (q_2, .inl (cI, 5, .inl (fun _ => 0)))] := hD
    refine va_putF (pc := 17) (ci := 0) (v := .ref q_2) (ty := (.array .int)) (C := RX0) (T := TX0) (N := 7) hx hb hts iX0 tyX0 tyX0_ok nmX0 hown hK hP hD hS 0 rfl rfl 1 (by decide) (hts _ tw_315) (fun _ h9 => h9) rfl hin rfl (by decide +kernel) rfl rfl (Nat.le_of_ble_eq_true rfl) dX0_init_17 (fun H locs hP hD hS => ?_)
    replace hP : va_P D gcl (zS_150 cB cC cI cJ a0 q_1 q_2 0 0 0 0 0 q_1 (fun _ => 0) q_2 (fun _ => 0)) H := hP
    replace hD : va_D A (zS_150 cB cC cI cJ a0 q_1 q_2 0 0 0 0 0 q_1 (fun _ => 0) q_2 (fun _ => 0)) := hD
    refine lv_aload_n (pc := 20) hx hb dX0_init_20 rfl (lv_at hl 0 rfl) ?_
    refine lv_iconst (pc := 21) (v := 0) hx hb dX0_init_21 (by decide) ?_
    refine va_put (pc := 22) (ci := 0) (v := .int 0) (ty := .int) (C := RX0) (T := TX0) (N := 7) hx hb hts iX0 tyX0 tyX0_ok nmX0 hown hK hP hD hS 0 rfl rfl 2 (by decide) (hts _ tw_316) (fun _ h9 => h9) rfl (by decide +kernel) (by decide +kernel) (by decide +kernel) (Nat.le_of_ble_eq_true rfl) dX0_init_22 (fun H locs hP hD hS => ?_)
    replace hP : va_P D gcl (zS_150 cB cC cI cJ a0 q_1 q_2 0 0 0 0 0 q_1 (fun _ => 0) q_2 (fun _ => 0)) H := hP
    replace hD : va_D A (zS_150 cB cC cI cJ a0 q_1 q_2 0 0 0 0 0 q_1 (fun _ => 0) q_2 (fun _ => 0)) := hD
    refine lv_aload_n (pc := 25) hx hb dX0_init_25 rfl (lv_at hl 0 rfl) ?_
    refine lv_iconst (pc := 26) (v := 0) hx hb dX0_init_26 (by decide) ?_
    refine va_put (pc := 27) (ci := 0) (v := .int 0) (ty := .boolean) (C := RX0) (T := TX0) (N := 7) hx hb hts iX0 tyX0 tyX0_ok nmX0 hown hK hP hD hS 0 rfl rfl 3 (by decide) (hts _ tw_317) (fun _ h9 => h9) rfl (by decide +kernel) (by decide +kernel) (by decide +kernel) (Nat.le_of_ble_eq_true rfl) dX0_init_27 (fun H locs hP hD hS => ?_)
    replace hP : va_P D gcl (zS_150 cB cC cI cJ a0 q_1 q_2 0 0 0 0 0 q_1 (fun _ => 0) q_2 (fun _ => 0)) H := hP
    replace hD : va_D A (zS_150 cB cC cI cJ a0 q_1 q_2 0 0 0 0 0 q_1 (fun _ => 0) q_2 (fun _ => 0)) := hD
    refine lv_aload_n (pc := 30) hx hb dX0_init_30 rfl (lv_at hl 0 rfl) ?_
    refine lv_lconst (pc := 31) (v := 0) hx hb dX0_init_31 (by decide) ?_
    as_aux_lemma =>
      refine va_put (pc := 32) (ci := 0) (v := .long 0) (ty := .long) (C := RX0) (T := TX0) (N := 7) hx hb hts iX0 tyX0 tyX0_ok nmX0 hown hK hP hD hS 0 rfl rfl 4 (by decide) (hts _ tw_318) (fun _ h9 => h9) rfl (by decide +kernel) (by decide +kernel) (by decide +kernel) (Nat.le_of_ble_eq_true rfl) dX0_init_32 (fun H locs hP hD hS => ?_)
      replace hP : va_P D gcl (zS_150 cB cC cI cJ a0 q_1 q_2 0 0 0 0 0 q_1 (fun _ => 0) q_2 (fun _ => 0)) H := hP
      replace hD : va_D A (zS_150 cB cC cI cJ a0 q_1 q_2 0 0 0 0 0 q_1 (fun _ => 0) q_2 (fun _ => 0)) := hD
      refine lv_aload_n (pc := 35) hx hb dX0_init_35 rfl (lv_at hl 0 rfl) ?_
      refine lv_iconst (pc := 36) (v := 0) hx hb dX0_init_36 (by decide) ?_
      refine va_put (pc := 37) (ci := 0) (v := .int 0) (ty := .int) (C := RX0) (T := TX0) (N := 7) hx hb hts iX0 tyX0 tyX0_ok nmX0 hown hK hP hD hS 0 rfl rfl 5 (by decide) (hts _ tw_320) (fun _ h9 => h9) rfl (by decide +kernel) (by decide +kernel) (by decide +kernel) (Nat.le_of_ble_eq_true rfl) dX0_init_37 (fun H locs hP hD hS => ?_)
      replace hP : va_P D gcl (zS_150 cB cC cI cJ a0 q_1 q_2 0 0 0 0 0 q_1 (fun _ => 0) q_2 (fun _ => 0)) H := hP
      replace hD : va_D A (zS_150 cB cC cI cJ a0 q_1 q_2 0 0 0 0 0 q_1 (fun _ => 0) q_2 (fun _ => 0)) := hD
      refine lv_aload_n (pc := 40) hx hb dX0_init_40 rfl (lv_at hl 0 rfl) ?_
      refine lv_iconst (pc := 41) (v := 0) hx hb dX0_init_41 (by decide) ?_
      refine va_put (pc := 42) (ci := 0) (v := .int 0) (ty := .int) (C := RX0) (T := TX0) (N := 7) hx hb hts iX0 tyX0 tyX0_ok nmX0 hown hK hP hD hS 0 rfl rfl 6 (by decide) (hts _ tw_322) (fun _ h9 => h9) rfl (by decide +kernel) (by decide +kernel) (by decide +kernel) (Nat.le_of_ble_eq_true rfl) dX0_init_42 (fun H locs hP hD hS => ?_)
      replace hP : va_P D gcl (zS_150 cB cC cI cJ a0 q_1 q_2 0 0 0 0 0 q_1 (fun _ => 0) q_2 (fun _ => 0)) H := hP
      replace hD : va_D A (zS_150 cB cC cI cJ a0 q_1 q_2 0 0 0 0 0 q_1 (fun _ => 0) q_2 (fun _ => 0)) := hD
      have hP9 := hP.sub (ws' := (zS_150 cB cC cI cJ a0 q_1 q_2 0 0 0 0 0 q_1 (fun _ => 0) q_2 (fun _ => 0))) [0, 1, 2] rfl
      have hD9 := hD.sub (ws' := (zS_150 cB cC cI cJ a0 q_1 q_2 0 0 0 0 0 q_1 (fun _ => 0) q_2 (fun _ => 0))) [0, 1, 2] (by decide) rfl
      refine W.widen (k := 2) (n := 261) (Nat.le_of_ble_eq_true rfl) (Nat.le_of_ble_eq_true rfl) ?_
      exact W.vret hx hb hr (fun t ht hW => ⟨⟨((fun k => [q_1, q_2].getD k 0), (fun _ => (fun _ => 0)), (fun _ => (fun _ => 0)), (fun _ => 0), (fun _ => 0)), rfl, trivial, by rw [ht]; exact hP9, hD9⟩, hS.F ht⟩) hS.2.2 dX0_init_45
set_option maxHeartbeats 4000000 in
set_option maxRecDepth 100000 in
theorem cc_11_yX3_init (l : Launch) (D : va_G) (cB cC cI cJ : ClassId) (sz : Nat) (a0 : Nat) : Met l yX3_init (.code yX3_init cX3_init 1 none :: lw_gd) ({ frames := 2, cells := 13, slots := 108, locals := 32 }) (gPre D [(cB, .byte), (cC, .char), (cI, .int), (cJ, .long)] [.ref a0] [(a0, .inr (3, [.null, .null, .null, .null, .null, .null, .long 0, .int 0, .long 0, .long 0]))] sz) (va_Qv (fun _ => True) (gB D (va_A [(a0, .inr (3, [.null, .null, .null, .null, .null, .null, .long 0, .int 0, .long 0, .long 0]))] sz) (fun u : gEx => (zS_168 cB cC cI cJ a0 (u.1 0) (u.1 8) (u.1 9) (u.1 10) (u.1 11) (u.1 12) 0 0 (-1) (-1) (u.1 0) (u.1 1) (u.1 2) (u.1 3) (u.1 4) (u.1 5) (u.1 6) (u.1 7) 0 (u.1 1) (fun _ => 0) (u.1 2) (fun _ => 0) (u.1 3) (fun _ => 0) (u.1 4) (fun _ => 0) (u.1 5) (fun _ => 0) (u.1 6) (fun _ => 0) (u.1 7) (fun _ => 0) (u.1 8) (fun _ => 0) (u.1 9) (fun _ => 0) (u.1 10) (fun _ => 0) (u.1 11) (fun _ => 0) (u.1 12) (fun _ => 0)))) (va_A [(a0, .inr (3, [.null, .null, .null, .null, .null, .null, .long 0, .int 0, .long 0, .long 0]))] sz)) 13 108 (va_A [(a0, .inr (3, [.null, .null, .null, .null, .null, .null, .long 0, .int 0, .long 0, .long 0]))] sz) := by
  refine Met.ofW (cc := cX3_init) (maxL := 1) (ret := none) (by decide) rfl ?_
  intro p e s m args below meth c s₁ B hml hv
  obtain ⟨rfl, hsz, hP, hK, hD0, hN⟩ := hv
  have hx := B.exec
  have hb := B.bytes
  have hr := B.returns
  have hts : ∀ w ∈ lw_gd, w.before _ s = true := fun w h => atoms_spec (ws := .code yX3_init cX3_init 1 none :: lw_gd) B.pre w (List.mem_cons_of_mem _ h)
  have hown : s.vm.findClass RX3 = some m.cls := findClass_of_methodNamed B.named
  have hlocks := B.notSynchronized
  have hin : meth.name = "<init>" := (name_of_methodNamed B.named B.method).1
  subst hsz
  have hD := hD0.self (sz := s.heap.size)
  generalize hAe : va_A [(a0, .inr (3, [.null, .null, .null, .null, .null, .null, .long 0, .int 0, .long 0, .long 0]))] s.heap.size = A at hD ⊢
  have hA : ∀ q : Nat, s.heap.size ≤ q → A q := fun q h => by rw [← hAe]; exact Or.inr h
  have hS : va_S A s.heap s.heap [] := va_S.rf
  replace hP : va_P D gcl [(a0, .inr (3, [.null, .null, .null, .null, .null, .null, .long 0, .int 0, .long 0, .long 0]))] s.heap := hP
  have hl := lv_entry ([.ref a0]) (n := 1) (Nat.le_of_ble_eq_true rfl)
  rw [lg_entry_eq]
  generalize (lg_sl ([.ref a0]) ++ List.replicate (1 - (lg_sl ([.ref a0])).length) Slot.unset).toArray = ls at hl ⊢
  replace hl : lv_has ls 1 [(0, .ref a0)] := hl
  refine lv_aload_n (pc := 0) hx hb dX3_init_0 rfl (lv_at hl 0 rfl) ?_
  refine W.objInit hx hb hown (hts _ tw_344) (hts _ tw_28) (hts _ tw_29) rfl (by rw [hml]; exact hl.1) rfl dX3_init_1 (Nat.le_of_ble_eq_true rfl) (Nat.le_of_ble_eq_true rfl) ?_
  refine W.eq (g2 := F0 m 4 ls []) rfl ?_
  refine lv_aload_n (pc := 4) hx hb dX3_init_4 rfl (lv_at hl 0 rfl) ?_
  refine va_new (pc := 5) (ci := 10) (fs := [.null, .null, .null, .null, .null, .null, .null, .int 0]) (C := RX10) (T := TX10) (N := 8) hx hb hts iX10 tyX10 tyX10_ok hown (hts _ tw_345) (hts _ tw_202) (hts _ tw_8) hK hP hD hS hA rfl (gdv_X10) (Nat.le_of_ble_eq_true rfl) (Nat.le_of_ble_eq_true rfl) dX3_init_5 (fun q_1 H hP hD hS => ?_)
  replace hP : va_P D gcl [(a0, .inr (3, [.null, .null, .null, .null, .null, .null, .long 0, .int 0, .long 0, .long 0])), (q_1, .inr (10, [.null, .null, .null, .null, .null, .null, .null, .int 0]))] H := hP
  replace hD : va_D A [(a0, .inr (3, [.null, .null, .null, .null, .null, .null, .long 0, .int 0, .long 0, .long 0])), (q_1, .inr (10, [.null, .null, .null, .null, .null, .null, .null, .int 0]))] := hD
  refine lv_dup (pc := 8) hx hb dX3_init_8 rfl ?_
  refine gc_v (pc := 9) (wc := [(q_1, .inr (10, [.null, .null, .null, .null, .null, .null, .null, .int 0]))]) (wr := [(a0, .inr (3, [.null, .null, .null, .null, .null, .null, .long 0, .int 0, .long 0, .long 0]))]) hP hD hS hA [1] [0] rfl rfl (by decide) (by decide) (by decide) (fun hPc hDc => va_runIN (As := []) (rest := [.ref q_1, .ref a0]) ⟨hx, hb, hml, hown, hts⟩ (cc_6_yX10_init l D cB cC cI cJ _ q_1) ⟨gcwN hts tw_205 tw_8 (hN _ tn_346) hd_yX10_init ⟨Nat.le_of_ble_eq_true rfl, Nat.le_of_ble_eq_true rfl⟩, rfl, hts _ tw_204⟩ (gpreS hPc hK hDc hN) rfl rfl hl.1 rfl (lv_room (Nat.le_of_ble_eq_true rfl)) dX3_init_9 ⟨Nat.le_of_ble_eq_true rfl, Nat.le_of_ble_eq_true rfl⟩) (fun u_2 H locs hw_4 hP hD hS => ?_)
  replace hP : va_P D gcl [(a0, .inr (3, [.null, .null, .null, .null, .null, .null, .long 0, .int 0, .long 0, .long 0])), (q_1, .inr (10, [.ref (u_2.1 0), .ref (u_2.1 1), .ref (u_2.1 2), .ref (u_2.1 3), .ref (u_2.1 4), .ref (u_2.1 5), .ref (u_2.1 6), .int 0])), ((u_2.1 0), .inl (cJ, 25, .inr (.inl (fun _ => 0)))), ((u_2.1 1), .inl (cJ, 5, .inr (.inl (fun _ => 0)))), ((u_2.1 2), .inl (cJ, 25, .inr (.inl (fun _ => 0)))), ((u_2.1 3), .inl (cI, 5, .inl (fun _ => 0))), ((u_2.1 4), .inl (cI, 5, .inl (fun _ => 0))), ((u_2.1 5), .inl (cI, 5, .inl (fun _ => 0))), ((u_2.1 6), .inl (cI, 5, .inl (fun _ => 0)))] H := hP
  replace hD : va_D A [(a0, .inr (3, [.null, .null, .null, .null, .null, .null, .long 0, .int 0, .long 0, .long 0])), (q_1, .inr (10, [.ref (u_2.1 0), .ref (u_2.1 1), .ref (u_2.1 2), .ref (u_2.1 3), .ref (u_2.1 4), .ref (u_2.1 5), .ref (u_2.1 6), .int 0])), ((u_2.1 0), .inl (cJ, 25, .inr (.inl (fun _ => 0)))), ((u_2.1 1), .inl (cJ, 5, .inr (.inl (fun _ => 0)))), ((u_2.1 2), .inl (cJ, 25, .inr (.inl (fun _ => 0)))), ((u_2.1 3), .inl (cI, 5, .inl (fun _ => 0))), ((u_2.1 4), .inl (cI, 5, .inl (fun _ => 0))), ((u_2.1 5), .inl (cI, 5, .inl (fun _ => 0))), ((u_2.1 6), .inl (cI, 5, .inl (fun _ => 0)))] := hD
  refine va_putF (pc := 12) (ci := 3) (v := .ref q_1) (ty := (.object "ManyOut$Walk")) (C := RX3) (T := TX3) (N := 10) hx hb hts iX3 tyX3 tyX3_ok nmX3 hown hK hP hD hS 0 rfl rfl 0 (by decide) (hts _ tw_348) (fun _ h9 => h9) rfl hin rfl (by decide +kernel) rfl rfl (Nat.le_of_ble_eq_true rfl) dX3_init_12 (fun H locs hP hD hS => ?_)
  replace hP : va_P D gcl [(a0, .inr (3, [.ref q_1, .null, .null, .null, .null, .null, .long 0, .int 0, .long 0, .long 0])), (q_1, .inr (10, [.ref (u_2.1 0), .ref (u_2.1 1), .ref (u_2.1 2), .ref (u_2.1 3), .ref (u_2.1 4), .ref (u_2.1 5), .ref (u_2.1 6), .int 0])), ((u_2.1 0), .inl (cJ, 25, .inr (.inl (fun _ => 0)))), ((u_2.1 1), .inl (cJ, 5, .inr (.inl (fun _ => 0)))), ((u_2.1 2), .inl (cJ, 25, .inr (.inl (fun _ => 0)))), ((u_2.1 3), .inl (cI, 5, .inl (fun _ => 0))), ((u_2.1 4), .inl (cI, 5, .inl (fun _ => 0))), ((u_2.1 5), .inl (cI, 5, .inl (fun _ => 0))), ((u_2.1 6), .inl (cI, 5, .inl (fun _ => 0)))] H := hP
  replace hD : va_D A [(a0, .inr (3, [.ref q_1, .null, .null, .null, .null, .null, .long 0, .int 0, .long 0, .long 0])), (q_1, .inr (10, [.ref (u_2.1 0), .ref (u_2.1 1), .ref (u_2.1 2), .ref (u_2.1 3), .ref (u_2.1 4), .ref (u_2.1 5), .ref (u_2.1 6), .int 0])), ((u_2.1 0), .inl (cJ, 25, .inr (.inl (fun _ => 0)))), ((u_2.1 1), .inl (cJ, 5, .inr (.inl (fun _ => 0)))), ((u_2.1 2), .inl (cJ, 25, .inr (.inl (fun _ => 0)))), ((u_2.1 3), .inl (cI, 5, .inl (fun _ => 0))), ((u_2.1 4), .inl (cI, 5, .inl (fun _ => 0))), ((u_2.1 5), .inl (cI, 5, .inl (fun _ => 0))), ((u_2.1 6), .inl (cI, 5, .inl (fun _ => 0)))] := hD
  refine lv_aload_n (pc := 15) hx hb dX3_init_15 rfl (lv_at hl 0 rfl) ?_
  as_aux_lemma =>
    refine lv_iconst (pc := 16) (v := 5) hx hb dX3_init_16 (by decide) ?_
    refine g_newa (pc := 17) (atype := .int) (ty := .int) (a0 := (5, .inl (fun _ => 0))) (N' := 5) hx hb (hts _ tw_66) rfl (fun _ h => h) hK 2 rfl hP hD hS hA (fun _ => rfl) (by decide +kernel) (by decide +kernel) (by decide +kernel) (Nat.le_of_ble_eq_true rfl) (Nat.le_of_ble_eq_true rfl) dX3_init_17 (fun q_5 H hP hD hS => ?_)
    replace hP : va_P D gcl [(a0, .inr (3, [.ref q_1, .null, .null, .null, .null, .null, .long 0, .int 0, .long 0, .long 0])), (q_1, .inr (10, [.ref (u_2.1 0), .ref (u_2.1 1), .ref (u_2.1 2), .ref (u_2.1 3), .ref (u_2.1 4), .ref (u_2.1 5), .ref (u_2.1 6), .int 0])), ((u_2.1 0), .inl (cJ, 25, .inr (.inl (fun _ => 0)))), ((u_2.1 1), .inl (cJ, 5, .inr (.inl (fun _ => 0)))), ((u_2.1 2), .inl (cJ, 25, .inr (.inl (fun _ => 0)))), ((u_2.1 3), .inl (cI, 5, .inl (fun _ => 0))), ((u_2.1 4), .inl (cI, 5, .inl (fun _ => 0))), ((u_2.1 5), .inl (cI, 5, .inl (fun _ => 0))), ((u_2.1 6), .inl (cI, 5, .inl (fun _ => 0))), (q_5, .inl (cI, 5, .inl (fun _ => 0)))] H := hP
    replace hD : va_D A [(a0, .inr (3, [.ref q_1, .null, .null, .null, .null, .null, .long 0, .int 0, .long 0, .long 0])), (q_1, .inr (10, [.ref (u_2.1 0), .ref (u_2.1 1), .ref (u_2.1 2), .ref (u_2.1 3), .ref (u_2.1 4), .ref (u_2.1 5), .ref (u_2.1 6), .int 0])), ((u_2.1 0), .inl (cJ, 25, .inr (.inl (fun _ => 0)))), ((u_2.1 1), .inl (cJ, 5, .inr (.inl (fun _ => 0)))), ((u_2.1 2), .inl (cJ, 25, .inr (.inl (fun _ => 0)))), ((u_2.1 3), .inl (cI, 5, .inl (fun _ => 0))), ((u_2.1 4), .inl (cI, 5, .inl (fun _ => 0))), ((u_2.1 5), .inl (cI, 5, .inl (fun _ => 0))), ((u_2.1 6), .inl (cI, 5, .inl (fun _ => 0))), (q_5, .inl (cI, 5, .inl (fun _ => 0)))] := hD
    refine va_putF (pc := 19) (ci := 3) (v := .ref q_5) (ty := (.array .int)) (C := RX3) (T := TX3) (N := 10) hx hb hts iX3 tyX3 tyX3_ok nmX3 hown hK hP hD hS 0 rfl rfl 1 (by decide) (hts _ tw_349) (fun _ h9 => h9) rfl hin rfl (by decide +kernel) rfl rfl (Nat.le_of_ble_eq_true rfl) dX3_init_19 (fun H locs hP hD hS => ?_)
    replace hP : va_P D gcl [(a0, .inr (3, [.ref q_1, .ref q_5, .null, .null, .null, .null, .long 0, .int 0, .long 0, .long 0])), (q_1, .inr (10, [.ref (u_2.1 0), .ref (u_2.1 1), .ref (u_2.1 2), .ref (u_2.1 3), .ref (u_2.1 4), .ref (u_2.1 5), .ref (u_2.1 6), .int 0])), ((u_2.1 0), .inl (cJ, 25, .inr (.inl (fun _ => 0)))), ((u_2.1 1), .inl (cJ, 5, .inr (.inl (fun _ => 0)))), ((u_2.1 2), .inl (cJ, 25, .inr (.inl (fun _ => 0)))), ((u_2.1 3), .inl (cI, 5, .inl (fun _ => 0))), ((u_2.1 4), .inl (cI, 5, .inl (fun _ => 0))), ((u_2.1 5), .inl (cI, 5, .inl (fun _ => 0))), ((u_2.1 6), .inl (cI, 5, .inl (fun _ => 0))), (q_5, .inl (cI, 5, .inl (fun _ => 0)))] H := hP
    replace hD : va_D A [(a0, .inr (3, [.ref q_1, .ref q_5, .null, .null, .null, .null, .long 0, .int 0, .long 0, .long 0])), (q_1, .inr (10, [.ref (u_2.1 0), .ref (u_2.1 1), .ref (u_2.1 2), .ref (u_2.1 3), .ref (u_2.1 4), .ref (u_2.1 5), .ref (u_2.1 6), .int 0])), ((u_2.1 0), .inl (cJ, 25, .inr (.inl (fun _ => 0)))), ((u_2.1 1), .inl (cJ, 5, .inr (.inl (fun _ => 0)))), ((u_2.1 2), .inl (cJ, 25, .inr (.inl (fun _ => 0)))), ((u_2.1 3), .inl (cI, 5, .inl (fun _ => 0))), ((u_2.1 4), .inl (cI, 5, .inl (fun _ => 0))), ((u_2.1 5), .inl (cI, 5, .inl (fun _ => 0))), ((u_2.1 6), .inl (cI, 5, .inl (fun _ => 0))), (q_5, .inl (cI, 5, .inl (fun _ => 0)))] := hD
    refine lv_aload_n (pc := 22) hx hb dX3_init_22 rfl (lv_at hl 0 rfl) ?_
    refine lv_iconst (pc := 23) (v := 5) hx hb dX3_init_23 (by decide) ?_
    refine g_newa (pc := 24) (atype := .int) (ty := .int) (a0 := (5, .inl (fun _ => 0))) (N' := 5) hx hb (hts _ tw_66) rfl (fun _ h => h) hK 2 rfl hP hD hS hA (fun _ => rfl) (by decide +kernel) (by decide +kernel) (by decide +kernel) (Nat.le_of_ble_eq_true rfl) (Nat.le_of_ble_eq_true rfl) dX3_init_24 (fun q_6 H hP hD hS => ?_)
    replace hP : va_P D gcl [(a0, .inr (3, [.ref q_1, .ref q_5, .null, .null, .null, .null, .long 0, .int 0, .long 0, .long 0])), (q_1, .inr (10, [.ref (u_2.1 0), .ref (u_2.1 1), .ref (u_2.1 2), .ref (u_2.1 3), .ref (u_2.1 4), .ref (u_2.1 5), .ref (u_2.1 6), .int 0])), ((u_2.1 0), .inl (cJ, 25, .inr (.inl (fun _ => 0)))), ((u_2.1 1), .inl (cJ, 5, .inr (.inl (fun _ => 0)))), ((u_2.1 2), .inl (cJ, 25, .inr (.inl (fun _ => 0)))), ((u_2.1 3), .inl (cI, 5, .inl (fun _ => 0))), ((u_2.1 4), .inl (cI, 5, .inl (fun _ => 0))), ((u_2.1 5), .inl (cI, 5, .inl (fun _ => 0))), ((u_2.1 6), .inl (cI, 5, .inl (fun _ => 0))), (q_5, .inl (cI, 5, .inl (fun _ => 0))), (q_6, .inl (cI, 5, .inl (fun _ => 0)))] H := hP
    replace hD : va_D A [(a0, .inr (3, [.ref q_1, .ref q_5, .null, .null, .null, .null, .long 0, .int 0, .long 0, .long 0])), (q_1, .inr (10, [.ref (u_2.1 0), .ref (u_2.1 1), .ref (u_2.1 2), .ref (u_2.1 3), .ref (u_2.1 4), .ref (u_2.1 5), .ref (u_2.1 6), .int 0])), ((u_2.1 0), .inl (cJ, 25, .inr (.inl (fun _ => 0)))), ((u_2.1 1), .inl (cJ, 5, .inr (.inl (fun _ => 0)))), ((u_2.1 2), .inl (cJ, 25, .inr (.inl (fun _ => 0)))), ((u_2.1 3), .inl (cI, 5, .inl (fun _ => 0))), ((u_2.1 4), .inl (cI, 5, .inl (fun _ => 0))), ((u_2.1 5), .inl (cI, 5, .inl (fun _ => 0))), ((u_2.1 6), .inl (cI, 5, .inl (fun _ => 0))), (q_5, .inl (cI, 5, .inl (fun _ => 0))), (q_6, .inl (cI, 5, .inl (fun _ => 0)))] := hD
    refine va_putF (pc := 26) (ci := 3) (v := .ref q_6) (ty := (.array .int)) (C := RX3) (T := TX3) (N := 10) hx hb hts iX3 tyX3 tyX3_ok nmX3 hown hK hP hD hS 0 rfl rfl 2 (by decide) (hts _ tw_351) (fun _ h9 => h9) rfl hin rfl (by decide +kernel) rfl rfl (Nat.le_of_ble_eq_true rfl) dX3_init_26 (fun H locs hP hD hS => ?_)
    replace hP : va_P D gcl [(a0, .inr (3, [.ref q_1, .ref q_5, .ref q_6, .null, .null, .null, .long 0, .int 0, .long 0, .long 0])), (q_1, .inr (10, [.ref (u_2.1 0), .ref (u_2.1 1), .ref (u_2.1 2), .ref (u_2.1 3), .ref (u_2.1 4), .ref (u_2.1 5), .ref (u_2.1 6), .int 0])), ((u_2.1 0), .inl (cJ, 25, .inr (.inl (fun _ => 0)))), ((u_2.1 1), .inl (cJ, 5, .inr (.inl (fun _ => 0)))), ((u_2.1 2), .inl (cJ, 25, .inr (.inl (fun _ => 0)))), ((u_2.1 3), .inl (cI, 5, .inl (fun _ => 0))), ((u_2.1 4), .inl (cI, 5, .inl (fun _ => 0))), ((u_2.1 5), .inl (cI, 5, .inl (fun _ => 0))), ((u_2.1 6), .inl (cI, 5, .inl (fun _ => 0))), (q_5, .inl (cI, 5, .inl (fun _ => 0))), (q_6, .inl (cI, 5, .inl (fun _ => 0)))] H := hP
    replace hD : va_D A [(a0, .inr (3, [.ref q_1, .ref q_5, .ref q_6, .null, .null, .null, .long 0, .int 0, .long 0, .long 0])), (q_1, .inr (10, [.ref (u_2.1 0), .ref (u_2.1 1), .ref (u_2.1 2), .ref (u_2.1 3), .ref (u_2.1 4), .ref (u_2.1 5), .ref (u_2.1 6), .int 0])), ((u_2.1 0), .inl (cJ, 25, .inr (.inl (fun _ => 0)))), ((u_2.1 1), .inl (cJ, 5, .inr (.inl (fun _ => 0)))), ((u_2.1 2), .inl (cJ, 25, .inr (.inl (fun _ => 0)))), ((u_2.1 3), .inl (cI, 5, .inl (fun _ => 0))), ((u_2.1 4), .inl (cI, 5, .inl (fun _ => 0))), ((u_2.1 5), .inl (cI, 5, .inl (fun _ => 0))), ((u_2.1 6), .inl (cI, 5, .inl (fun _ => 0))), (q_5, .inl (cI, 5, .inl (fun _ => 0))), (q_6, .inl (cI, 5, .inl (fun _ => 0)))] := hD
    refine lv_aload_n (pc := 29) hx hb dX3_init_29 rfl (lv_at hl 0 rfl) ?_
    refine lv_iconst (pc := 30) (v := 5) hx hb dX3_init_30 (by decide) ?_
    refine g_newa (pc := 31) (atype := .int) (ty := .int) (a0 := (5, .inl (fun _ => 0))) (N' := 5) hx hb (hts _ tw_66) rfl (fun _ h => h) hK 2 rfl hP hD hS hA (fun _ => rfl) (by decide +kernel) (by decide +kernel) (by decide +kernel) (Nat.le_of_ble_eq_true rfl) (Nat.le_of_ble_eq_true rfl) dX3_init_31 (fun q_7 H hP hD hS => ?_)
    replace hP : va_P D gcl [(a0, .inr (3, [.ref q_1, .ref q_5, .ref q_6, .null, .null, .null, .long 0, .int 0, .long 0, .long 0])), (q_1, .inr (10, [.ref (u_2.1 0), .ref (u_2.1 1), .ref (u_2.1 2), .ref (u_2.1 3), .ref (u_2.1 4), .ref (u_2.1 5), .ref (u_2.1 6), .int 0])), ((u_2.1 0), .inl (cJ, 25, .inr (.inl (fun _ => 0)))), ((u_2.1 1), .inl (cJ, 5, .inr (.inl (fun _ => 0)))), ((u_2.1 2), .inl (cJ, 25, .inr (.inl (fun _ => 0)))), ((u_2.1 3), .inl (cI, 5, .inl (fun _ => 0))), ((u_2.1 4), .inl (cI, 5, .inl (fun _ => 0))), ((u_2.1 5), .inl (cI, 5, .inl (fun _ => 0))), ((u_2.1 6), .inl (cI, 5, .inl (fun _ => 0))), (q_5, .inl (cI, 5, .inl (fun _ => 0))), (q_6, .inl (cI, 5, .inl (fun _ => 0))), (q_7, .inl (cI, 5, .inl (fun _ => 0)))] H := hP
    replace hD : va_D A [(a0, .inr (3, [.ref q_1, .ref q_5, .ref q_6, .null, .null, .null, .long 0, .int 0, .long 0, .long 0])), (q_1, .inr (10, [.ref (u_2.1 0), .ref (u_2.1 1), .ref (u_2.1 2), .ref (u_2.1 3), .ref (u_2.1 4), .ref (u_2.1 5), .ref (u_2.1 6), .int 0])), ((u_2.1 0), .inl (cJ, 25, .inr (.inl (fun _ => 0)))), ((u_2.1 1), .inl (cJ, 5, .inr (.inl (fun _ => 0)))), ((u_2.1 2), .inl (cJ, 25, .inr (.inl (fun _ => 0)))), ((u_2.1 3), .inl (cI, 5, .inl (fun _ => 0))), ((u_2.1 4), .inl (cI, 5, .inl (fun _ => 0))), ((u_2.1 5), .inl (cI, 5, .inl (fun _ => 0))), ((u_2.1 6), .inl (cI, 5, .inl (fun _ => 0))), (q_5, .inl (cI, 5, .inl (fun _ => 0))), (q_6, .inl (cI, 5, .inl (fun _ => 0))), (q_7, .inl (cI, 5, .inl (fun _ => 0)))] := hD
    as_aux_lemma =>
      refine va_putF (pc := 33) (ci := 3) (v := .ref q_7) (ty := (.array .int)) (C := RX3) (T := TX3) (N := 10) hx hb hts iX3 tyX3 tyX3_ok nmX3 hown hK hP hD hS 0 rfl rfl 3 (by decide) (hts _ tw_352) (fun _ h9 => h9) rfl hin rfl (by decide +kernel) rfl rfl (Nat.le_of_ble_eq_true rfl) dX3_init_33 (fun H locs hP hD hS => ?_)
      replace hP : va_P D gcl [(a0, .inr (3, [.ref q_1, .ref q_5, .ref q_6, .ref q_7, .null, .null, .long 0, .int 0, .long 0, .long 0])), (q_1, .inr (10, [.ref (u_2.1 0), .ref (u_2.1 1), .ref (u_2.1 2), .ref (u_2.1 3), .ref (u_2.1 4), .ref (u_2.1 5), .ref (u_2.1 6), .int 0])), ((u_2.1 0), .inl (cJ, 25, .inr (.inl (fun _ => 0)))), ((u_2.1 1), .inl (cJ, 5, .inr (.inl (fun _ => 0)))), ((u_2.1 2), .inl (cJ, 25, .inr (.inl (fun _ => 0)))), ((u_2.1 3), .inl (cI, 5, .inl (fun _ => 0))), ((u_2.1 4), .inl (cI, 5, .inl (fun _ => 0))), ((u_2.1 5), .inl (cI, 5, .inl (fun _ => 0))), ((u_2.1 6), .inl (cI, 5, .inl (fun _ => 0))), (q_5, .inl (cI, 5, .inl (fun _ => 0))), (q_6, .inl (cI, 5, .inl (fun _ => 0))), (q_7, .inl (cI, 5, .inl (fun _ => 0)))] H := hP
      replace hD : va_D A [(a0, .inr (3, [.ref q_1, .ref q_5, .ref q_6, .ref q_7, .null, .null, .long 0, .int 0, .long 0, .long 0])), (q_1, .inr (10, [.ref (u_2.1 0), .ref (u_2.1 1), .ref (u_2.1 2), .ref (u_2.1 3), .ref (u_2.1 4), .ref (u_2.1 5), .ref (u_2.1 6), .int 0])), ((u_2.1 0), .inl (cJ, 25, .inr (.inl (fun _ => 0)))), ((u_2.1 1), .inl (cJ, 5, .inr (.inl (fun _ => 0)))), ((u_2.1 2), .inl (cJ, 25, .inr (.inl (fun _ => 0)))), ((u_2.1 3), .inl (cI, 5, .inl (fun _ => 0))), ((u_2.1 4), .inl (cI, 5, .inl (fun _ => 0))), ((u_2.1 5), .inl (cI, 5, .inl (fun _ => 0))), ((u_2.1 6), .inl (cI, 5, .inl (fun _ => 0))), (q_5, .inl (cI, 5, .inl (fun _ => 0))), (q_6, .inl (cI, 5, .inl (fun _ => 0))), (q_7, .inl (cI, 5, .inl (fun _ => 0)))] := hD
      refine lv_aload_n (pc := 36) hx hb dX3_init_36 rfl (lv_at hl 0 rfl) ?_
      refine lv_iconst (pc := 37) (v := 5) hx hb dX3_init_37 (by decide) ?_
      refine g_newa (pc := 38) (atype := .int) (ty := .int) (a0 := (5, .inl (fun _ => 0))) (N' := 5) hx hb (hts _ tw_66) rfl (fun _ h => h) hK 2 rfl hP hD hS hA (fun _ => rfl) (by decide +kernel) (by decide +kernel) (by decide +kernel) (Nat.le_of_ble_eq_true rfl) (Nat.le_of_ble_eq_true rfl) dX3_init_38 (fun q_8 H hP hD hS => ?_)
      replace hP : va_P D gcl [(a0, .inr (3, [.ref q_1, .ref q_5, .ref q_6, .ref q_7, .null, .null, .long 0, .int 0, .long 0, .long 0])), (q_1, .inr (10, [.ref (u_2.1 0), .ref (u_2.1 1), .ref (u_2.1 2), .ref (u_2.1 3), .ref (u_2.1 4), .ref (u_2.1 5), .ref (u_2.1 6), .int 0])), ((u_2.1 0), .inl (cJ, 25, .inr (.inl (fun _ => 0)))), ((u_2.1 1), .inl (cJ, 5, .inr (.inl (fun _ => 0)))), ((u_2.1 2), .inl (cJ, 25, .inr (.inl (fun _ => 0)))), ((u_2.1 3), .inl (cI, 5, .inl (fun _ => 0))), ((u_2.1 4), .inl (cI, 5, .inl (fun _ => 0))), ((u_2.1 5), .inl (cI, 5, .inl (fun _ => 0))), ((u_2.1 6), .inl (cI, 5, .inl (fun _ => 0))), (q_5, .inl (cI, 5, .inl (fun _ => 0))), (q_6, .inl (cI, 5, .inl (fun _ => 0))), (q_7, .inl (cI, 5, .inl (fun _ => 0))), (q_8, .inl (cI, 5, .inl (fun _ => 0)))] H := hP
      replace hD : va_D A [(a0, .inr (3, [.ref q_1, .ref q_5, .ref q_6, .ref q_7, .null, .null, .long 0, .int 0, .long 0, .long 0])), (q_1, .inr (10, [.ref (u_2.1 0), .ref (u_2.1 1), .ref (u_2.1 2), .ref (u_2.1 3), .ref (u_2.1 4), .ref (u_2.1 5), .ref (u_2.1 6), .int 0])), ((u_2.1 0), .inl (cJ, 25, .inr (.inl (fun _ => 0)))), ((u_2.1 1), .inl (cJ, 5, .inr (.inl (fun _ => 0)))), ((u_2.1 2), .inl (cJ, 25, .inr (.inl (fun _ => 0)))), ((u_2.1 3), .inl (cI, 5, .inl (fun _ => 0))), ((u_2.1 4), .inl (cI, 5, .inl (fun _ => 0))), ((u_2.1 5), .inl (cI, 5, .inl (fun _ => 0))), ((u_2.1 6), .inl (cI, 5, .inl (fun _ => 0))), (q_5, .inl (cI, 5, .inl (fun _ => 0))), (q_6, .inl (cI, 5, .inl (fun _ => 0))), (q_7, .inl (cI, 5, .inl (fun _ => 0))), (q_8, .inl (cI, 5, .inl (fun _ => 0)))] := hD
      refine va_putF (pc := 40) (ci := 3) (v := .ref q_8) (ty := (.array .int)) (C := RX3) (T := TX3) (N := 10) hx hb hts iX3 tyX3 tyX3_ok nmX3 hown hK hP hD hS 0 rfl rfl 4 (by decide) (hts _ tw_353) (fun _ h9 => h9) rfl hin rfl (by decide +kernel) rfl rfl (Nat.le_of_ble_eq_true rfl) dX3_init_40 (fun H locs hP hD hS => ?_)
      replace hP : va_P D gcl [(a0, .inr (3, [.ref q_1, .ref q_5, .ref q_6, .ref q_7, .ref q_8, .null, .long 0, .int 0, .long 0, .long 0])), (q_1, .inr (10, [.ref (u_2.1 0), .ref (u_2.1 1), .ref (u_2.1 2), .ref (u_2.1 3), .ref (u_2.1 4), .ref (u_2.1 5), .ref (u_2.1 6), .int 0])), ((u_2.1 0), .inl (cJ, 25, .inr (.inl (fun _ => 0)))), ((u_2.1 1), .inl (cJ, 5, .inr (.inl (fun _ => 0)))), ((u_2.1 2), .inl (cJ, 25, .inr (.inl (fun _ => 0)))), ((u_2.1 3), .inl (cI, 5, .inl (fun _ => 0))), ((u_2.1 4), .inl (cI, 5, .inl (fun _ => 0))), ((u_2.1 5), .inl (cI, 5, .inl (fun _ => 0))), ((u_2.1 6), .inl (cI, 5, .inl (fun _ => 0))), (q_5, .inl (cI, 5, .inl (fun _ => 0))), (q_6, .inl (cI, 5, .inl (fun _ => 0))), (q_7, .inl (cI, 5, .inl (fun _ => 0))), (q_8, .inl (cI, 5, .inl (fun _ => 0)))] H := hP
      replace hD : va_D A [(a0, .inr (3, [.ref q_1, .ref q_5, .ref q_6, .ref q_7, .ref q_8, .null, .long 0, .int 0, .long 0, .long 0])), (q_1, .inr (10, [.ref (u_2.1 0), .ref (u_2.1 1), .ref (u_2.1 2), .ref (u_2.1 3), .ref (u_2.1 4), .ref (u_2.1 5), .ref (u_2.1 6), .int 0])), ((u_2.1 0), .inl (cJ, 25, .inr (.inl (fun _ => 0)))), ((u_2.1 1), .inl (cJ, 5, .inr (.inl (fun _ => 0)))), ((u_2.1 2), .inl (cJ, 25, .inr (.inl (fun _ => 0)))), ((u_2.1 3), .inl (cI, 5, .inl (fun _ => 0))), ((u_2.1 4), .inl (cI, 5, .inl (fun _ => 0))), ((u_2.1 5), .inl (cI, 5, .inl (fun _ => 0))), ((u_2.1 6), .inl (cI, 5, .inl (fun _ => 0))), (q_5, .inl (cI, 5, .inl (fun _ => 0))), (q_6, .inl (cI, 5, .inl (fun _ => 0))), (q_7, .inl (cI, 5, .inl (fun _ => 0))), (q_8, .inl (cI, 5, .inl (fun _ => 0)))] := hD
      refine lv_aload_n (pc := 43) hx hb dX3_init_43 rfl (lv_at hl 0 rfl) ?_
      refine lv_iconst (pc := 44) (v := 5) hx hb dX3_init_44 (by decide) ?_
      refine g_newa (pc := 45) (atype := .long) (ty := .long) (a0 := (5, .inr (.inl (fun _ => 0)))) (N' := 5) hx hb (hts _ tw_241) rfl (fun _ h => h) hK 3 rfl hP hD hS hA (fun _ => rfl) (by decide +kernel) (by decide +kernel) (by decide +kernel) (Nat.le_of_ble_eq_true rfl) (Nat.le_of_ble_eq_true rfl) dX3_init_45 (fun q_9 H hP hD hS => ?_)
      replace hP : va_P D gcl [(a0, .inr (3, [.ref q_1, .ref q_5, .ref q_6, .ref q_7, .ref q_8, .null, .long 0, .int 0, .long 0, .long 0])), (q_1, .inr (10, [.ref (u_2.1 0), .ref (u_2.1 1), .ref (u_2.1 2), .ref (u_2.1 3), .ref (u_2.1 4), .ref (u_2.1 5), .ref (u_2.1 6), .int 0])), ((u_2.1 0), .inl (cJ, 25, .inr (.inl (fun _ => 0)))), ((u_2.1 1), .inl (cJ, 5, .inr (.inl (fun _ => 0)))), ((u_2.1 2), .inl (cJ, 25, .inr (.inl (fun _ => 0)))), ((u_2.1 3), .inl (cI, 5, .inl (fun _ => 0))), ((u_2.1 4), .inl (cI, 5, .inl (fun _ => 0))), ((u_2.1 5), .inl (cI, 5, .inl (fun _ => 0))), ((u_2.1 6), .inl (cI, 5, .inl (fun _ => 0))), (q_5, .inl (cI, 5, .inl (fun _ => 0))), (q_6, .inl (cI, 5, .inl (fun _ => 0))), (q_7, .inl (cI, 5, .inl (fun _ => 0))), (q_8, .inl (cI, 5, .inl (fun _ => 0))), (q_9, .inl (cJ, 5, .inr (.inl (fun _ => 0))))] H := hP
      replace hD : va_D A [(a0, .inr (3, [.ref q_1, .ref q_5, .ref q_6, .ref q_7, .ref q_8, .null, .long 0, .int 0, .long 0, .long 0])), (q_1, .inr (10, [.ref (u_2.1 0), .ref (u_2.1 1), .ref (u_2.1 2), .ref (u_2.1 3), .ref (u_2.1 4), .ref (u_2.1 5), .ref (u_2.1 6), .int 0])), ((u_2.1 0), .inl (cJ, 25, .inr (.inl (fun _ => 0)))), ((u_2.1 1), .inl (cJ, 5, .inr (.inl (fun _ => 0)))), ((u_2.1 2), .inl (cJ, 25, .inr (.inl (fun _ => 0)))), ((u_2.1 3), .inl (cI, 5, .inl (fun _ => 0))), ((u_2.1 4), .inl (cI, 5, .inl (fun _ => 0))), ((u_2.1 5), .inl (cI, 5, .inl (fun _ => 0))), ((u_2.1 6), .inl (cI, 5, .inl (fun _ => 0))), (q_5, .inl (cI, 5, .inl (fun _ => 0))), (q_6, .inl (cI, 5, .inl (fun _ => 0))), (q_7, .inl (cI, 5, .inl (fun _ => 0))), (q_8, .inl (cI, 5, .inl (fun _ => 0))), (q_9, .inl (cJ, 5, .inr (.inl (fun _ => 0))))] := hD
      refine va_putF (pc := 47) (ci := 3) (v := .ref q_9) (ty := (.array .long)) (C := RX3) (T := TX3) (N := 10) hx hb hts iX3 tyX3 tyX3_ok nmX3 hown hK hP hD hS 0 rfl rfl 5 (by decide) (hts _ tw_354) (fun _ h9 => h9) rfl hin rfl (by decide +kernel) rfl rfl (Nat.le_of_ble_eq_true rfl) dX3_init_47 (fun H locs hP hD hS => ?_)
      replace hP : va_P D gcl (zS_168 cB cC cI cJ a0 q_1 q_5 q_6 q_7 q_8 q_9 0 0 0 0 q_1 (u_2.1 0) (u_2.1 1) (u_2.1 2) (u_2.1 3) (u_2.1 4) (u_2.1 5) (u_2.1 6) 0 (u_2.1 0) (fun _ => 0) (u_2.1 1) (fun _ => 0) (u_2.1 2) (fun _ => 0) (u_2.1 3) (fun _ => 0) (u_2.1 4) (fun _ => 0) (u_2.1 5) (fun _ => 0) (u_2.1 6) (fun _ => 0) q_5 (fun _ => 0) q_6 (fun _ => 0) q_7 (fun _ => 0) q_8 (fun _ => 0) q_9 (fun _ => 0)) H := hP
      replace hD : va_D A (zS_168 cB cC cI cJ a0 q_1 q_5 q_6 q_7 q_8 q_9 0 0 0 0 q_1 (u_2.1 0) (u_2.1 1) (u_2.1 2) (u_2.1 3) (u_2.1 4) (u_2.1 5) (u_2.1 6) 0 (u_2.1 0) (fun _ => 0) (u_2.1 1) (fun _ => 0) (u_2.1 2) (fun _ => 0) (u_2.1 3) (fun _ => 0) (u_2.1 4) (fun _ => 0) (u_2.1 5) (fun _ => 0) (u_2.1 6) (fun _ => 0) q_5 (fun _ => 0) q_6 (fun _ => 0) q_7 (fun _ => 0) q_8 (fun _ => 0) q_9 (fun _ => 0)) := hD
      refine lv_aload_n (pc := 50) hx hb dX3_init_50 rfl (lv_at hl 0 rfl) ?_
      as_aux_lemma =>
        refine lv_lconst (pc := 51) (v := 0) hx hb dX3_init_51 (by decide) ?_
        refine va_put (pc := 52) (ci := 3) (v := .long 0) (ty := .long) (C := RX3) (T := TX3) (N := 10) hx hb hts iX3 tyX3 tyX3_ok nmX3 hown hK hP hD hS 0 rfl rfl 6 (by decide) (hts _ tw_355) (fun _ h9 => h9) rfl (by decide +kernel) (by decide +kernel) (by decide +kernel) (Nat.le_of_ble_eq_true rfl) dX3_init_52 (fun H locs hP hD hS => ?_)
        replace hP : va_P D gcl (zS_168 cB cC cI cJ a0 q_1 q_5 q_6 q_7 q_8 q_9 0 0 0 0 q_1 (u_2.1 0) (u_2.1 1) (u_2.1 2) (u_2.1 3) (u_2.1 4) (u_2.1 5) (u_2.1 6) 0 (u_2.1 0) (fun _ => 0) (u_2.1 1) (fun _ => 0) (u_2.1 2) (fun _ => 0) (u_2.1 3) (fun _ => 0) (u_2.1 4) (fun _ => 0) (u_2.1 5) (fun _ => 0) (u_2.1 6) (fun _ => 0) q_5 (fun _ => 0) q_6 (fun _ => 0) q_7 (fun _ => 0) q_8 (fun _ => 0) q_9 (fun _ => 0)) H := hP
        replace hD : va_D A (zS_168 cB cC cI cJ a0 q_1 q_5 q_6 q_7 q_8 q_9 0 0 0 0 q_1 (u_2.1 0) (u_2.1 1) (u_2.1 2) (u_2.1 3) (u_2.1 4) (u_2.1 5) (u_2.1 6) 0 (u_2.1 0) (fun _ => 0) (u_2.1 1) (fun _ => 0) (u_2.1 2) (fun _ => 0) (u_2.1 3) (fun _ => 0) (u_2.1 4) (fun _ => 0) (u_2.1 5) (fun _ => 0) (u_2.1 6) (fun _ => 0) q_5 (fun _ => 0) q_6 (fun _ => 0) q_7 (fun _ => 0) q_8 (fun _ => 0) q_9 (fun _ => 0)) := hD
        refine lv_aload_n (pc := 55) hx hb dX3_init_55 rfl (lv_at hl 0 rfl) ?_
        refine lv_iconst (pc := 56) (v := 0) hx hb dX3_init_56 (by decide) ?_
        refine va_put (pc := 57) (ci := 3) (v := .int 0) (ty := .boolean) (C := RX3) (T := TX3) (N := 10) hx hb hts iX3 tyX3 tyX3_ok nmX3 hown hK hP hD hS 0 rfl rfl 7 (by decide) (hts _ tw_356) (fun _ h9 => h9) rfl (by decide +kernel) (by decide +kernel) (by decide +kernel) (Nat.le_of_ble_eq_true rfl) dX3_init_57 (fun H locs hP hD hS => ?_)
        replace hP : va_P D gcl (zS_168 cB cC cI cJ a0 q_1 q_5 q_6 q_7 q_8 q_9 0 0 0 0 q_1 (u_2.1 0) (u_2.1 1) (u_2.1 2) (u_2.1 3) (u_2.1 4) (u_2.1 5) (u_2.1 6) 0 (u_2.1 0) (fun _ => 0) (u_2.1 1) (fun _ => 0) (u_2.1 2) (fun _ => 0) (u_2.1 3) (fun _ => 0) (u_2.1 4) (fun _ => 0) (u_2.1 5) (fun _ => 0) (u_2.1 6) (fun _ => 0) q_5 (fun _ => 0) q_6 (fun _ => 0) q_7 (fun _ => 0) q_8 (fun _ => 0) q_9 (fun _ => 0)) H := hP
        replace hD : va_D A (zS_168 cB cC cI cJ a0 q_1 q_5 q_6 q_7 q_8 q_9 0 0 0 0 q_1 (u_2.1 0) (u_2.1 1) (u_2.1 2) (u_2.1 3) (u_2.1 4) (u_2.1 5) (u_2.1 6) 0 (u_2.1 0) (fun _ => 0) (u_2.1 1) (fun _ => 0) (u_2.1 2) (fun _ => 0) (u_2.1 3) (fun _ => 0) (u_2.1 4) (fun _ => 0) (u_2.1 5) (fun _ => 0) (u_2.1 6) (fun _ => 0) q_5 (fun _ => 0) q_6 (fun _ => 0) q_7 (fun _ => 0) q_8 (fun _ => 0) q_9 (fun _ => 0)) := hD
        refine lv_aload_n (pc := 60) hx hb dX3_init_60 rfl (lv_at hl 0 rfl) ?_
        refine lv_ldc2 (pc := 61) hx hb hown (hts _ tw_347) dX3_init_61 ?_
        refine va_put (pc := 64) (ci := 3) (v := .long (-1)) (ty := .long) (C := RX3) (T := TX3) (N := 10) hx hb hts iX3 tyX3 tyX3_ok nmX3 hown hK hP hD hS 0 rfl rfl 8 (by decide) (hts _ tw_358) (fun _ h9 => h9) rfl (by decide +kernel) (by decide +kernel) (by decide +kernel) (Nat.le_of_ble_eq_true rfl) dX3_init_64 (fun H locs hP hD hS => ?_)
        replace hP : va_P D gcl (zS_168 cB cC cI cJ a0 q_1 q_5 q_6 q_7 q_8 q_9 0 0 (-1) 0 q_1 (u_2.1 0) (u_2.1 1) (u_2.1 2) (u_2.1 3) (u_2.1 4) (u_2.1 5) (u_2.1 6) 0 (u_2.1 0) (fun _ => 0) (u_2.1 1) (fun _ => 0) (u_2.1 2) (fun _ => 0) (u_2.1 3) (fun _ => 0) (u_2.1 4) (fun _ => 0) (u_2.1 5) (fun _ => 0) (u_2.1 6) (fun _ => 0) q_5 (fun _ => 0) q_6 (fun _ => 0) q_7 (fun _ => 0) q_8 (fun _ => 0) q_9 (fun _ => 0)) H := hP
        replace hD : va_D A (zS_168 cB cC cI cJ a0 q_1 q_5 q_6 q_7 q_8 q_9 0 0 (-1) 0 q_1 (u_2.1 0) (u_2.1 1) (u_2.1 2) (u_2.1 3) (u_2.1 4) (u_2.1 5) (u_2.1 6) 0 (u_2.1 0) (fun _ => 0) (u_2.1 1) (fun _ => 0) (u_2.1 2) (fun _ => 0) (u_2.1 3) (fun _ => 0) (u_2.1 4) (fun _ => 0) (u_2.1 5) (fun _ => 0) (u_2.1 6) (fun _ => 0) q_5 (fun _ => 0) q_6 (fun _ => 0) q_7 (fun _ => 0) q_8 (fun _ => 0) q_9 (fun _ => 0)) := hD
        refine lv_aload_n (pc := 67) hx hb dX3_init_67 rfl (lv_at hl 0 rfl) ?_
        refine lv_ldc2 (pc := 68) hx hb hown (hts _ tw_347) dX3_init_68 ?_
        as_aux_lemma =>
          refine va_put (pc := 71) (ci := 3) (v := .long (-1)) (ty := .long) (C := RX3) (T := TX3) (N := 10) hx hb hts iX3 tyX3 tyX3_ok nmX3 hown hK hP hD hS 0 rfl rfl 9 (by decide) (hts _ tw_359) (fun _ h9 => h9) rfl (by decide +kernel) (by decide +kernel) (by decide +kernel) (Nat.le_of_ble_eq_true rfl) dX3_init_71 (fun H locs hP hD hS => ?_)
          replace hP : va_P D gcl (zS_168 cB cC cI cJ a0 q_1 q_5 q_6 q_7 q_8 q_9 0 0 (-1) (-1) q_1 (u_2.1 0) (u_2.1 1) (u_2.1 2) (u_2.1 3) (u_2.1 4) (u_2.1 5) (u_2.1 6) 0 (u_2.1 0) (fun _ => 0) (u_2.1 1) (fun _ => 0) (u_2.1 2) (fun _ => 0) (u_2.1 3) (fun _ => 0) (u_2.1 4) (fun _ => 0) (u_2.1 5) (fun _ => 0) (u_2.1 6) (fun _ => 0) q_5 (fun _ => 0) q_6 (fun _ => 0) q_7 (fun _ => 0) q_8 (fun _ => 0) q_9 (fun _ => 0)) H := hP
          replace hD : va_D A (zS_168 cB cC cI cJ a0 q_1 q_5 q_6 q_7 q_8 q_9 0 0 (-1) (-1) q_1 (u_2.1 0) (u_2.1 1) (u_2.1 2) (u_2.1 3) (u_2.1 4) (u_2.1 5) (u_2.1 6) 0 (u_2.1 0) (fun _ => 0) (u_2.1 1) (fun _ => 0) (u_2.1 2) (fun _ => 0) (u_2.1 3) (fun _ => 0) (u_2.1 4) (fun _ => 0) (u_2.1 5) (fun _ => 0) (u_2.1 6) (fun _ => 0) q_5 (fun _ => 0) q_6 (fun _ => 0) q_7 (fun _ => 0) q_8 (fun _ => 0) q_9 (fun _ => 0)) := hD
          have hP9 := hP.sub (ws' := (zS_168 cB cC cI cJ a0 q_1 q_5 q_6 q_7 q_8 q_9 0 0 (-1) (-1) q_1 (u_2.1 0) (u_2.1 1) (u_2.1 2) (u_2.1 3) (u_2.1 4) (u_2.1 5) (u_2.1 6) 0 (u_2.1 0) (fun _ => 0) (u_2.1 1) (fun _ => 0) (u_2.1 2) (fun _ => 0) (u_2.1 3) (fun _ => 0) (u_2.1 4) (fun _ => 0) (u_2.1 5) (fun _ => 0) (u_2.1 6) (fun _ => 0) q_5 (fun _ => 0) q_6 (fun _ => 0) q_7 (fun _ => 0) q_8 (fun _ => 0) q_9 (fun _ => 0))) [0, 1, 2, 3, 4, 5, 6, 7, 8, 9, 10, 11, 12, 13] rfl
          have hD9 := hD.sub (ws' := (zS_168 cB cC cI cJ a0 q_1 q_5 q_6 q_7 q_8 q_9 0 0 (-1) (-1) q_1 (u_2.1 0) (u_2.1 1) (u_2.1 2) (u_2.1 3) (u_2.1 4) (u_2.1 5) (u_2.1 6) 0 (u_2.1 0) (fun _ => 0) (u_2.1 1) (fun _ => 0) (u_2.1 2) (fun _ => 0) (u_2.1 3) (fun _ => 0) (u_2.1 4) (fun _ => 0) (u_2.1 5) (fun _ => 0) (u_2.1 6) (fun _ => 0) q_5 (fun _ => 0) q_6 (fun _ => 0) q_7 (fun _ => 0) q_8 (fun _ => 0) q_9 (fun _ => 0))) [0, 1, 2, 3, 4, 5, 6, 7, 8, 9, 10, 11, 12, 13] (by decide) rfl
          refine W.widen (k := 13) (n := 108) (Nat.le_of_ble_eq_true rfl) (Nat.le_of_ble_eq_true rfl) ?_
          exact W.vret hx hb hr (fun t ht hW => ⟨⟨((fun k => [q_1, (u_2.1 0), (u_2.1 1), (u_2.1 2), (u_2.1 3), (u_2.1 4), (u_2.1 5), (u_2.1 6), q_5, q_6, q_7, q_8, q_9].getD k 0), (fun _ => (fun _ => 0)), (fun _ => (fun _ => 0)), (fun _ => 0), (fun _ => 0)), rfl, trivial, by rw [ht]; exact hP9, hD9⟩, hS.F ht⟩) hS.2.2 dX3_init_74
set_option maxHeartbeats 4000000 in
set_option maxRecDepth 100000 in
theorem cc_12_yX2_init (l : Launch) (D : va_G) (cB cC cI cJ : ClassId) (sz : Nat) (a0 : Nat) : Met l yX2_init (.code yX2_init cX2_init 1 none :: lw_gd) ({ frames := 2, cells := 4, slots := 176, locals := 32 }) (gPre D [(cB, .byte), (cC, .char), (cI, .int), (cJ, .long)] [.ref a0] (zS_182 cB cC cI cJ a0 0 0 0 0 0) sz) (va_Qv (fun _ => True) (gB D (va_A (zS_182 cB cC cI cJ a0 0 0 0 0 0) sz) (fun u : gEx => (zS_151 cB cC cI cJ a0 (u.1 0) (u.1 2) (u.1 3) 0 0 0 0 0 (u.1 0) (u.1 1) (u.1 1) (fun _ => 0) (u.1 2) (fun _ => 0) (u.1 3) (fun _ => 0)))) (va_A (zS_182 cB cC cI cJ a0 0 0 0 0 0) sz)) 4 176 (va_A (zS_182 cB cC cI cJ a0 0 0 0 0 0) sz) := by
  refine Met.ofW (cc := cX2_init) (maxL := 1) (ret := none) (by decide) rfl ?_
  intro p e s m args below meth c s₁ B hml hv
  obtain ⟨rfl, hsz, hP, hK, hD0, hN⟩ := hv
  have hx := B.exec
  have hb := B.bytes
  have hr := B.returns
  have hts : ∀ w ∈ lw_gd, w.before _ s = true := fun w h => atoms_spec (ws := .code yX2_init cX2_init 1 none :: lw_gd) B.pre w (List.mem_cons_of_mem _ h)
  have hown : s.vm.findClass RX2 = some m.cls := findClass_of_methodNamed B.named
  have hlocks := B.notSynchronized
  have hin : meth.name = "<init>" := (name_of_methodNamed B.named B.method).1
  subst hsz
  have hD := hD0.self (sz := s.heap.size)
  generalize hAe : va_A (zS_182 cB cC cI cJ a0 0 0 0 0 0) s.heap.size = A at hD ⊢
  have hA : ∀ q : Nat, s.heap.size ≤ q → A q := fun q h => by rw [← hAe]; exact Or.inr h
  have hS : va_S A s.heap s.heap [] := va_S.rf
  replace hP : va_P D gcl (zS_182 cB cC cI cJ a0 0 0 0 0 0) s.heap := hP
  have hl := lv_entry ([.ref a0]) (n := 1) (Nat.le_of_ble_eq_true rfl)
  rw [lg_entry_eq]
  generalize (lg_sl ([.ref a0]) ++ List.replicate (1 - (lg_sl ([.ref a0])).length) Slot.unset).toArray = ls at hl ⊢
  replace hl : lv_has ls 1 [(0, .ref a0)] := hl
  refine lv_aload_n (pc := 0) hx hb dX2_init_0 rfl (lv_at hl 0 rfl) ?_
  refine W.objInit hx hb hown (hts _ tw_388) (hts _ tw_28) (hts _ tw_29) rfl (by rw [hml]; exact hl.1) rfl dX2_init_1 (Nat.le_of_ble_eq_true rfl) (Nat.le_of_ble_eq_true rfl) ?_
  refine W.eq (g2 := F0 m 4 ls []) rfl ?_
  refine lv_aload_n (pc := 4) hx hb dX2_init_4 rfl (lv_at hl 0 rfl) ?_
  refine va_new (pc := 5) (ci := 8) (fs := [.null]) (C := RX8) (T := TX8) (N := 1) hx hb hts iX8 tyX8 tyX8_ok hown (hts _ tw_389) (hts _ tw_57) (hts _ tw_5) hK hP hD hS hA rfl (gdv_X8) (Nat.le_of_ble_eq_true rfl) (Nat.le_of_ble_eq_true rfl) dX2_init_5 (fun q_1 H hP hD hS => ?_)
  replace hP : va_P D gcl [(a0, .inr (2, [.null, .null, .null, .int 0, .int 0, .int 0, .int 0, .int 0])), (q_1, .inr (8, [.null]))] H := hP
  replace hD : va_D A [(a0, .inr (2, [.null, .null, .null, .int 0, .int 0, .int 0, .int 0, .int 0])), (q_1, .inr (8, [.null]))] := hD
  refine lv_dup (pc := 8) hx hb dX2_init_8 rfl ?_
  refine gc_v (pc := 9) (wc := [(q_1, .inr (8, [.null]))]) (wr := (zS_182 cB cC cI cJ a0 0 0 0 0 0)) hP hD hS hA [1] [0] rfl rfl (by decide) (by decide) (by decide) (fun hPc hDc => va_runIN (As := []) (rest := [.ref q_1, .ref a0]) ⟨hx, hb, hml, hown, hts⟩ (cc_2_yX8_init l D cB cC cI cJ _ q_1) ⟨gcwN hts tw_60 tw_5 (hN _ tn_390) hd_yX8_init ⟨Nat.le_of_ble_eq_true rfl, Nat.le_of_ble_eq_true rfl⟩, rfl, hts _ tw_59⟩ (gpreS hPc hK hDc hN) rfl rfl hl.1 rfl (lv_room (Nat.le_of_ble_eq_true rfl)) dX2_init_9 ⟨Nat.le_of_ble_eq_true rfl, Nat.le_of_ble_eq_true rfl⟩) (fun u_2 H locs hw_4 hP hD hS => ?_)
  replace hP : va_P D gcl [(a0, .inr (2, [.null, .null, .null, .int 0, .int 0, .int 0, .int 0, .int 0])), (q_1, .inr (8, [.ref (u_2.1 0)])), ((u_2.1 0), .inl (cI, 30, .inl (fun _ => 0)))] H := hP
  replace hD : va_D A [(a0, .inr (2, [.null, .null, .null, .int 0, .int 0, .int 0, .int 0, .int 0])), (q_1, .inr (8, [.ref (u_2.1 0)])), ((u_2.1 0), .inl (cI, 30, .inl (fun _ => 0)))] := hD
  refine va_putF (pc := 12) (ci := 2) (v := .ref q_1) (ty := (.object "ManyOut$Table")) (C := RX2) (T := TX2) (N := 8) hx hb hts iX2 tyX2 tyX2_ok nmX2 hown hK hP hD hS 0 rfl rfl 0 (by decide) (hts _ tw_391) (fun _ h9 => h9) rfl hin rfl (by decide +kernel) rfl rfl (Nat.le_of_ble_eq_true rfl) dX2_init_12 (fun H locs hP hD hS => ?_)
  replace hP : va_P D gcl [(a0, .inr (2, [.ref q_1, .null, .null, .int 0, .int 0, .int 0, .int 0, .int 0])), (q_1, .inr (8, [.ref (u_2.1 0)])), ((u_2.1 0), .inl (cI, 30, .inl (fun _ => 0)))] H := hP
  replace hD : va_D A [(a0, .inr (2, [.ref q_1, .null, .null, .int 0, .int 0, .int 0, .int 0, .int 0])), (q_1, .inr (8, [.ref (u_2.1 0)])), ((u_2.1 0), .inl (cI, 30, .inl (fun _ => 0)))] := hD
  refine lv_aload_n (pc := 15) hx hb dX2_init_15 rfl (lv_at hl 0 rfl) ?_
  as_aux_lemma =>
    refine lv_bipush (pc := 16) (v := 25) hx hb dX2_init_16 (by decide) ?_
    refine g_newa (pc := 18) (atype := .long) (ty := .long) (a0 := (25, .inr (.inl (fun _ => 0)))) (N' := 25) hx hb (hts _ tw_241) rfl (fun _ h => h) hK 3 rfl hP hD hS hA (fun _ => rfl) (by decide +kernel) (by decide +kernel) (by decide +kernel) (Nat.le_of_ble_eq_true rfl) (Nat.le_of_ble_eq_true rfl) dX2_init_18 (fun q_5 H hP hD hS => ?_)
    replace hP : va_P D gcl [(a0, .inr (2, [.ref q_1, .null, .null, .int 0, .int 0, .int 0, .int 0, .int 0])), (q_1, .inr (8, [.ref (u_2.1 0)])), ((u_2.1 0), .inl (cI, 30, .inl (fun _ => 0))), (q_5, .inl (cJ, 25, .inr (.inl (fun _ => 0))))] H := hP
    replace hD : va_D A [(a0, .inr (2, [.ref q_1, .null, .null, .int 0, .int 0, .int 0, .int 0, .int 0])), (q_1, .inr (8, [.ref (u_2.1 0)])), ((u_2.1 0), .inl (cI, 30, .inl (fun _ => 0))), (q_5, .inl (cJ, 25, .inr (.inl (fun _ => 0))))] := hD
    refine va_putF (pc := 20) (ci := 2) (v := .ref q_5) (ty := (.array .long)) (C := RX2) (T := TX2) (N := 8) hx hb hts iX2 tyX2 tyX2_ok nmX2 hown hK hP hD hS 0 rfl rfl 1 (by decide) (hts _ tw_393) (fun _ h9 => h9) rfl hin rfl (by decide +kernel) rfl rfl (Nat.le_of_ble_eq_true rfl) dX2_init_20 (fun H locs hP hD hS => ?_)
    replace hP : va_P D gcl [(a0, .inr (2, [.ref q_1, .ref q_5, .null, .int 0, .int 0, .int 0, .int 0, .int 0])), (q_1, .inr (8, [.ref (u_2.1 0)])), ((u_2.1 0), .inl (cI, 30, .inl (fun _ => 0))), (q_5, .inl (cJ, 25, .inr (.inl (fun _ => 0))))] H := hP
    replace hD : va_D A [(a0, .inr (2, [.ref q_1, .ref q_5, .null, .int 0, .int 0, .int 0, .int 0, .int 0])), (q_1, .inr (8, [.ref (u_2.1 0)])), ((u_2.1 0), .inl (cI, 30, .inl (fun _ => 0))), (q_5, .inl (cJ, 25, .inr (.inl (fun _ => 0))))] := hD
    refine lv_aload_n (pc := 23) hx hb dX2_init_23 rfl (lv_at hl 0 rfl) ?_
    refine lv_bipush (pc := 24) (v := 120) hx hb dX2_init_24 (by decide) ?_
    refine g_newa (pc := 26) (atype := .int) (ty := .int) (a0 := (120, .inl (fun _ => 0))) (N' := 120) hx hb (hts _ tw_66) rfl (fun _ h => h) hK 2 rfl hP hD hS hA (fun _ => rfl) (by decide +kernel) (by decide +kernel) (by decide +kernel) (Nat.le_of_ble_eq_true rfl) (Nat.le_of_ble_eq_true rfl) dX2_init_26 (fun q_6 H hP hD hS => ?_)
    replace hP : va_P D gcl [(a0, .inr (2, [.ref q_1, .ref q_5, .null, .int 0, .int 0, .int 0, .int 0, .int 0])), (q_1, .inr (8, [.ref (u_2.1 0)])), ((u_2.1 0), .inl (cI, 30, .inl (fun _ => 0))), (q_5, .inl (cJ, 25, .inr (.inl (fun _ => 0)))), (q_6, .inl (cI, 120, .inl (fun _ => 0)))] H := hP
    replace hD : va_D A [(a0, .inr (2, [.ref q_1, .ref q_5, .null, .int 0, .int 0, .int 0, .int 0, .int 0])), (q_1, .inr (8, [.ref (u_2.1 0)])), ((u_2.1 0), .inl (cI, 30, .inl (fun _ => 0))), (q_5, .inl (cJ, 25, .inr (.inl (fun _ => 0)))), (q_6, .inl (cI, 120, .inl (fun _ => 0)))] := hD
    refine va_putF (pc := 28) (ci := 2) (v := .ref q_6) (ty := (.array .int)) (C := RX2) (T := TX2) (N := 8) hx hb hts iX2 tyX2 tyX2_ok nmX2 hown hK hP hD hS 0 rfl rfl 2 (by decide) (hts _ tw_394) (fun _ h9 => h9) rfl hin rfl (by decide +kernel) rfl rfl (Nat.le_of_ble_eq_true rfl) dX2_init_28 (fun H locs hP hD hS => ?_)
    replace hP : va_P D gcl (zS_151 cB cC cI cJ a0 q_1 q_5 q_6 0 0 0 0 0 q_1 (u_2.1 0) (u_2.1 0) (fun _ => 0) q_5 (fun _ => 0) q_6 (fun _ => 0)) H := hP
    replace hD : va_D A (zS_151 cB cC cI cJ a0 q_1 q_5 q_6 0 0 0 0 0 q_1 (u_2.1 0) (u_2.1 0) (fun _ => 0) q_5 (fun _ => 0) q_6 (fun _ => 0)) := hD
    refine lv_aload_n (pc := 31) hx hb dX2_init_31 rfl (lv_at hl 0 rfl) ?_
    refine lv_iconst (pc := 32) (v := 0) hx hb dX2_init_32 (by decide) ?_
    refine va_put (pc := 33) (ci := 2) (v := .int 0) (ty := .int) (C := RX2) (T := TX2) (N := 8) hx hb hts iX2 tyX2 tyX2_ok nmX2 hown hK hP hD hS 0 rfl rfl 3 (by decide) (hts _ tw_395) (fun _ h9 => h9) rfl (by decide +kernel) (by decide +kernel) (by decide +kernel) (Nat.le_of_ble_eq_true rfl) dX2_init_33 (fun H locs hP hD hS => ?_)
    replace hP : va_P D gcl (zS_151 cB cC cI cJ a0 q_1 q_5 q_6 0 0 0 0 0 q_1 (u_2.1 0) (u_2.1 0) (fun _ => 0) q_5 (fun _ => 0) q_6 (fun _ => 0)) H := hP
    replace hD : va_D A (zS_151 cB cC cI cJ a0 q_1 q_5 q_6 0 0 0 0 0 q_1 (u_2.1 0) (u_2.1 0) (fun _ => 0) q_5 (fun _ => 0) q_6 (fun _ => 0)) := hD
    as_aux_lemma =>
      refine lv_aload_n (pc := 36) hx hb dX2_init_36 rfl (lv_at hl 0 rfl) ?_
      refine lv_iconst (pc := 37) (v := 0) hx hb dX2_init_37 (by decide) ?_
      refine va_put (pc := 38) (ci := 2) (v := .int 0) (ty := .int) (C := RX2) (T := TX2) (N := 8) hx hb hts iX2 tyX2 tyX2_ok nmX2 hown hK hP hD hS 0 rfl rfl 4 (by decide) (hts _ tw_396) (fun _ h9 => h9) rfl (by decide +kernel) (by decide +kernel) (by decide +kernel) (Nat.le_of_ble_eq_true rfl) dX2_init_38 (fun H locs hP hD hS => ?_)
      replace hP : va_P D gcl (zS_151 cB cC cI cJ a0 q_1 q_5 q_6 0 0 0 0 0 q_1 (u_2.1 0) (u_2.1 0) (fun _ => 0) q_5 (fun _ => 0) q_6 (fun _ => 0)) H := hP
      replace hD : va_D A (zS_151 cB cC cI cJ a0 q_1 q_5 q_6 0 0 0 0 0 q_1 (u_2.1 0) (u_2.1 0) (fun _ => 0) q_5 (fun _ => 0) q_6 (fun _ => 0)) := hD
      refine lv_aload_n (pc := 41) hx hb dX2_init_41 rfl (lv_at hl 0 rfl) ?_
      refine lv_iconst (pc := 42) (v := 0) hx hb dX2_init_42 (by decide) ?_
      refine va_put (pc := 43) (ci := 2) (v := .int 0) (ty := .int) (C := RX2) (T := TX2) (N := 8) hx hb hts iX2 tyX2 tyX2_ok nmX2 hown hK hP hD hS 0 rfl rfl 5 (by decide) (hts _ tw_397) (fun _ h9 => h9) rfl (by decide +kernel) (by decide +kernel) (by decide +kernel) (Nat.le_of_ble_eq_true rfl) dX2_init_43 (fun H locs hP hD hS => ?_)
      replace hP : va_P D gcl (zS_151 cB cC cI cJ a0 q_1 q_5 q_6 0 0 0 0 0 q_1 (u_2.1 0) (u_2.1 0) (fun _ => 0) q_5 (fun _ => 0) q_6 (fun _ => 0)) H := hP
      replace hD : va_D A (zS_151 cB cC cI cJ a0 q_1 q_5 q_6 0 0 0 0 0 q_1 (u_2.1 0) (u_2.1 0) (fun _ => 0) q_5 (fun _ => 0) q_6 (fun _ => 0)) := hD
      refine lv_aload_n (pc := 46) hx hb dX2_init_46 rfl (lv_at hl 0 rfl) ?_
      refine lv_iconst (pc := 47) (v := 0) hx hb dX2_init_47 (by decide) ?_
      refine va_put (pc := 48) (ci := 2) (v := .int 0) (ty := .int) (C := RX2) (T := TX2) (N := 8) hx hb hts iX2 tyX2 tyX2_ok nmX2 hown hK hP hD hS 0 rfl rfl 6 (by decide) (hts _ tw_399) (fun _ h9 => h9) rfl (by decide +kernel) (by decide +kernel) (by decide +kernel) (Nat.le_of_ble_eq_true rfl) dX2_init_48 (fun H locs hP hD hS => ?_)
      replace hP : va_P D gcl (zS_151 cB cC cI cJ a0 q_1 q_5 q_6 0 0 0 0 0 q_1 (u_2.1 0) (u_2.1 0) (fun _ => 0) q_5 (fun _ => 0) q_6 (fun _ => 0)) H := hP
      replace hD : va_D A (zS_151 cB cC cI cJ a0 q_1 q_5 q_6 0 0 0 0 0 q_1 (u_2.1 0) (u_2.1 0) (fun _ => 0) q_5 (fun _ => 0) q_6 (fun _ => 0)) := hD
      refine lv_aload_n (pc := 51) hx hb dX2_init_51 rfl (lv_at hl 0 rfl) ?_
      as_aux_lemma =>
        refine lv_iconst (pc := 52) (v := 0) hx hb dX2_init_52 (by decide) ?_
        refine va_put (pc := 53) (ci := 2) (v := .int 0) (ty := .int) (C := RX2) (T := TX2) (N := 8) hx hb hts iX2 tyX2 tyX2_ok nmX2 hown hK hP hD hS 0 rfl rfl 7 (by decide) (hts _ tw_401) (fun _ h9 => h9) rfl (by decide +kernel) (by decide +kernel) (by decide +kernel) (Nat.le_of_ble_eq_true rfl) dX2_init_53 (fun H locs hP hD hS => ?_)
        replace hP : va_P D gcl (zS_151 cB cC cI cJ a0 q_1 q_5 q_6 0 0 0 0 0 q_1 (u_2.1 0) (u_2.1 0) (fun _ => 0) q_5 (fun _ => 0) q_6 (fun _ => 0)) H := hP
        replace hD : va_D A (zS_151 cB cC cI cJ a0 q_1 q_5 q_6 0 0 0 0 0 q_1 (u_2.1 0) (u_2.1 0) (fun _ => 0) q_5 (fun _ => 0) q_6 (fun _ => 0)) := hD
        have hP9 := hP.sub (ws' := (zS_151 cB cC cI cJ a0 q_1 q_5 q_6 0 0 0 0 0 q_1 (u_2.1 0) (u_2.1 0) (fun _ => 0) q_5 (fun _ => 0) q_6 (fun _ => 0))) [0, 1, 2, 3, 4] rfl
        have hD9 := hD.sub (ws' := (zS_151 cB cC cI cJ a0 q_1 q_5 q_6 0 0 0 0 0 q_1 (u_2.1 0) (u_2.1 0) (fun _ => 0) q_5 (fun _ => 0) q_6 (fun _ => 0))) [0, 1, 2, 3, 4] (by decide) rfl
        refine W.widen (k := 4) (n := 176) (Nat.le_of_ble_eq_true rfl) (Nat.le_of_ble_eq_true rfl) ?_
        exact W.vret hx hb hr (fun t ht hW => ⟨⟨((fun k => [q_1, (u_2.1 0), q_5, q_6].getD k 0), (fun _ => (fun _ => 0)), (fun _ => (fun _ => 0)), (fun _ => 0), (fun _ => 0)), rfl, trivial, by rw [ht]; exact hP9, hD9⟩, hS.F ht⟩) hS.2.2 dX2_init_56
