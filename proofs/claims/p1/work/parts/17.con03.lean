set_option maxHeartbeats 4000000 in
set_option maxRecDepth 100000 in
theorem cc_15_yX9_hasRoom (l : Launch) (D : va_G) (cB cC cI cJ : ClassId) (sz : Nat) (a0 a1 : Nat) : Met l yX9_hasRoom (.code yX9_hasRoom cX9_hasRoom 2 (some .boolean) :: lw_gd) ({ frames := 0, cells := 0, slots := 0, locals := 0 }) (gPre D [(cB, .byte), (cC, .char), (cI, .int), (cJ, .long)] [.ref a0, .int 20] [(a0, .inr (9, [.ref a1, .int 0]))] sz) (va_Qi (fun r _ => r = 1) (gB D (va_A [(a0, .inr (9, [.ref a1, .int 0]))] sz) (fun u : gEx => [(a0, .inr (9, [.ref a1, .int 0]))])) (va_A [(a0, .inr (9, [.ref a1, .int 0]))] sz)) 0 0 (va_A [(a0, .inr (9, [.ref a1, .int 0]))] sz) := by
  refine Met.ofW (cc := cX9_hasRoom) (maxL := 2) (ret := (some .boolean)) (by decide) rfl ?_
  intro p e s m args below meth c s₁ B hml hv
  obtain ⟨rfl, hsz, hP, hK, hD0, hN⟩ := hv
  have hx := B.exec
  have hb := B.bytes
  have hr := B.returns
  have hts : ∀ w ∈ lw_gd, w.before _ s = true := fun w h => atoms_spec (ws := .code yX9_hasRoom cX9_hasRoom 2 (some .boolean) :: lw_gd) B.pre w (List.mem_cons_of_mem _ h)
  have hown : s.vm.findClass RX9 = some m.cls := findClass_of_methodNamed B.named
  have hlocks := B.notSynchronized
  subst hsz
  have hD := hD0.self (sz := s.heap.size)
  generalize hAe : va_A [(a0, .inr (9, [.ref a1, .int 0]))] s.heap.size = A at hD ⊢
  have hA : ∀ q : Nat, s.heap.size ≤ q → A q := fun q h => by rw [← hAe]; exact Or.inr h
  have hS : va_S A s.heap s.heap [] := va_S.rf
  have hP : va_P D gcl [(a0, .inr (9, [.ref a1, .int 0]))] s.heap := hP
  have hl := lv_entry ([.ref a0, .int 20]) (n := 2) (Nat.le_of_ble_eq_true rfl)
  rw [lg_entry_eq]
  generalize (lg_sl ([.ref a0, .int 20]) ++ List.replicate (2 - (lg_sl ([.ref a0, .int 20])).length) Slot.unset).toArray = ls at hl ⊢
  have hl : lv_has ls 2 [(0, .ref a0), (1, .int 20)] := hl
  refine lv_aload_n (pc := 0) hx hb dX9_hasRoom_0 rfl (lv_at hl 0 rfl) ?_
  refine va_get (pc := 1) (ci := 9) (v := .int 0) (C := RX9) (T := TX9) (N := 2) hx hb hts iX9 hown hK hP 0 rfl rfl 1 (by decide) (hts _ tw_43) (fun _ h9 => h9) rfl dX9_hasRoom_1 ?_
  refine lv_iload_n (pc := 4) hx hb dX9_hasRoom_4 rfl (lv_at hl 1 rfl) ?_
  refine lv_iadd (pc := 5) hx hb dX9_hasRoom_5 ?_
  refine gI (y := 20) (by decide +kernel) ?_
  refine lv_sipush (pc := 6) (v := 1600) hx hb dX9_hasRoom_6 (by decide) ?_
  refine lv_icmp_gt (pc := 9) (tgt := 16) hx hb dX9_hasRoom_9 (by decide) (fun c => absurd c (by decide +kernel)) (fun _ => ?_)
  refine lv_iconst (pc := 12) (v := 1) hx hb dX9_hasRoom_12 (by decide) ?_
  refine lv_goto (pc := 13) (tgt := 17) hx hb dX9_hasRoom_13 (by decide) ?_
  have hP9 := hP.sub (ws' := [(a0, .inr (9, [.ref a1, .int 0]))]) [0] rfl
  have hD9 := hD.sub (ws' := [(a0, .inr (9, [.ref a1, .int 0]))]) [0] (by decide) rfl
  refine W.widen (k := 0) (n := 0) (Nat.le_of_ble_eq_true rfl) (Nat.le_of_ble_eq_true rfl) ?_
  exact W.zret (v := 1) hx hb hr (by decide +kernel) (fun t ht hW => ⟨⟨1, ((fun _ => 0), (fun _ => (fun _ => 0)), (fun _ => (fun _ => 0)), (fun _ => 0), (fun _ => 0)), rfl, rfl, by rw [ht]; exact hP9, hD9⟩, hS.F ht⟩) hS.2.2 dX9_hasRoom_17
set_option maxHeartbeats 4000000 in
set_option maxRecDepth 100000 in
theorem cc_16_yX9_addNumber (l : Launch) (D : va_G) (cB cC cI cJ : ClassId) (sz : Nat) (a0 a1 : Nat) (x0 : Int32) : Met l yX9_addNumber (.code yX9_addNumber cX9_addNumber 3 none :: lw_gd) ({ frames := 0, cells := 0, slots := 0, locals := 0 }) (gPre D [(cB, .byte), (cC, .char), (cI, .int), (cJ, .long)] [.ref a0, .int x0] [(a0, .inr (9, [.ref a1, .int 0])), (a1, .inl (cB, 1600, .inl (fun _ => 0)))] sz) (va_Qv (fun _ => True) (gB D (va_A [(a0, .inr (9, [.ref a1, .int 0])), (a1, .inl (cB, 1600, .inl (fun _ => 0)))] sz) (fun u : gEx => [(a0, .inr (9, [.ref a1, .int 4])), (a1, .inl (cB, 1600, .inl (u.2.1 0)))])) (va_A [(a0, .inr (9, [.ref a1, .int 0])), (a1, .inl (cB, 1600, .inl (fun _ => 0)))] sz)) 0 0 (va_A [(a0, .inr (9, [.ref a1, .int 0])), (a1, .inl (cB, 1600, .inl (fun _ => 0)))] sz) := by
  refine Met.ofW (cc := cX9_addNumber) (maxL := 3) (ret := none) (by decide) rfl ?_
  intro p e s m args below meth c s₁ B hml hv
  obtain ⟨rfl, hsz, hP, hK, hD0, hN⟩ := hv
  have hx := B.exec
  have hb := B.bytes
  have hr := B.returns
  have hts : ∀ w ∈ lw_gd, w.before _ s = true := fun w h => atoms_spec (ws := .code yX9_addNumber cX9_addNumber 3 none :: lw_gd) B.pre w (List.mem_cons_of_mem _ h)
  have hown : s.vm.findClass RX9 = some m.cls := findClass_of_methodNamed B.named
  have hlocks := B.notSynchronized
  subst hsz
  have hD := hD0.self (sz := s.heap.size)
  generalize hAe : va_A [(a0, .inr (9, [.ref a1, .int 0])), (a1, .inl (cB, 1600, .inl (fun _ => 0)))] s.heap.size = A at hD ⊢
  have hA : ∀ q : Nat, s.heap.size ≤ q → A q := fun q h => by rw [← hAe]; exact Or.inr h
  have hS : va_S A s.heap s.heap [] := va_S.rf
  have hP : va_P D gcl [(a0, .inr (9, [.ref a1, .int 0])), (a1, .inl (cB, 1600, .inl (fun _ => 0)))] s.heap := hP
  have hl := lv_entry ([.ref a0, .int x0]) (n := 3) (Nat.le_of_ble_eq_true rfl)
  rw [lg_entry_eq]
  generalize (lg_sl ([.ref a0, .int x0]) ++ List.replicate (3 - (lg_sl ([.ref a0, .int x0])).length) Slot.unset).toArray = ls at hl ⊢
  have hl : lv_has ls 3 [(0, .ref a0), (1, .int x0)] := hl
  refine lv_bipush (pc := 0) (v := 24) hx hb dX9_addNumber_0 (by decide) ?_
  refine lv_istore_n (pc := 2) (lv' := [(2, .int 24), (0, .ref a0), (1, .int x0)]) hx hb dX9_addNumber_2 rfl hl (by decide) rfl (fun ls hl => ?_)
  refine lv_iload_n (pc := 3) hx hb dX9_addNumber_3 rfl (lv_at hl 0 rfl) ?_
  refine lv_if_lt (pc := 4) (tgt := 46) hx hb dX9_addNumber_4 (by decide) (fun c => absurd c (by decide +kernel)) (fun _ => ?_)
  refine lv_aload_n (pc := 7) hx hb dX9_addNumber_7 rfl (lv_at hl 1 rfl) ?_
  refine va_get (pc := 8) (ci := 9) (v := .int 0) (C := RX9) (T := TX9) (N := 2) hx hb hts iX9 hown hK hP 0 rfl rfl 1 (by decide) (hts _ tw_43) (fun _ h9 => h9) rfl dX9_addNumber_8 ?_
  refine lv_sipush (pc := 11) (v := 1600) hx hb dX9_addNumber_11 (by decide) ?_
  refine lv_icmp_ge (pc := 14) (tgt := 46) hx hb dX9_addNumber_14 (by decide) (fun c => absurd c (by decide +kernel)) (fun _ => ?_)
  refine lv_aload_n (pc := 17) hx hb dX9_addNumber_17 rfl (lv_at hl 1 rfl) ?_
  refine va_get (pc := 18) (ci := 9) (v := .ref a1) (C := RX9) (T := TX9) (N := 2) hx hb hts iX9 hown hK hP 0 rfl rfl 0 (by decide) (hts _ tw_42) (fun _ h9 => h9) rfl dX9_addNumber_18 ?_
  refine lv_aload_n (pc := 21) hx hb dX9_addNumber_21 rfl (lv_at hl 1 rfl) ?_
  refine va_get (pc := 22) (ci := 9) (v := .int 0) (C := RX9) (T := TX9) (N := 2) hx hb hts iX9 hown hK hP 0 rfl rfl 1 (by decide) (hts _ tw_43) (fun _ h9 => h9) rfl dX9_addNumber_22 ?_
  refine lv_iload_n (pc := 25) hx hb dX9_addNumber_25 rfl (lv_at hl 2 rfl) ?_
  refine lv_iload_n (pc := 26) hx hb dX9_addNumber_26 rfl (lv_at hl 0 rfl) ?_
  refine lv_ishr (pc := 27) hx hb dX9_addNumber_27 ?_
  refine lv_topi (fun x_1 ex_1 => ?_)
  refine lv_i2b (pc := 28) hx hb dX9_addNumber_28 rfl ?_
  refine lv_topi (fun x_2 ex_2 => ?_)
  refine g_bastore (pc := 29) hx hb hK hP hD hS 1 0 rfl rfl (gin rfl) dX9_addNumber_29 (fun f_3 H locs hP hD hS => ?_)
  have hP : va_P D gcl [(a0, .inr (9, [.ref a1, .int 0])), (a1, .inl (cB, 1600, .inl f_3))] H := hP
  have hD : va_D A [(a0, .inr (9, [.ref a1, .int 0])), (a1, .inl (cB, 1600, .inl f_3))] := hD
  refine lv_aload_n (pc := 30) hx hb dX9_addNumber_30 rfl (lv_at hl 1 rfl) ?_
  refine lv_dup (pc := 31) hx hb dX9_addNumber_31 rfl ?_
  refine va_get (pc := 32) (ci := 9) (v := .int 0) (C := RX9) (T := TX9) (N := 2) hx hb hts iX9 hown hK hP 0 rfl rfl 1 (by decide) (hts _ tw_43) (fun _ h9 => h9) rfl dX9_addNumber_32 ?_
  refine lv_iconst (pc := 35) (v := 1) hx hb dX9_addNumber_35 (by decide) ?_
  refine lv_iadd (pc := 36) hx hb dX9_addNumber_36 ?_
  refine gI (y := 1) (by decide +kernel) ?_
  refine va_put (pc := 37) (ci := 9) (v := .int 1) (ty := .int) (C := RX9) (T := TX9) (N := 2) hx hb hts iX9 tyX9 tyX9_ok nmX9 hown hK hP hD hS 0 rfl rfl 1 (by decide) (hts _ tw_43) (fun _ h9 => h9) rfl (by decide +kernel) (by decide +kernel) (by decide +kernel) (Nat.le_of_ble_eq_true rfl) dX9_addNumber_37 (fun H locs hP hD hS => ?_)
  have hP : va_P D gcl [(a0, .inr (9, [.ref a1, .int 1])), (a1, .inl (cB, 1600, .inl f_3))] H := hP
  have hD : va_D A [(a0, .inr (9, [.ref a1, .int 1])), (a1, .inl (cB, 1600, .inl f_3))] := hD
  refine lv_iinc (pc := 40) (v := 16) (lv' := [(2, .int 16), (0, .ref a0), (1, .int x0)]) hx hb dX9_addNumber_40 hl (k := 0) rfl (by decide +kernel) (by decide) rfl (fun ls hl => ?_)
  refine lv_goto (pc := 43) (tgt := 3) hx hb dX9_addNumber_43 (by decide) ?_
  refine lv_iload_n (pc := 3) hx hb dX9_addNumber_3 rfl (lv_at hl 0 rfl) ?_
  refine lv_if_lt (pc := 4) (tgt := 46) hx hb dX9_addNumber_4 (by decide) (fun c => absurd c (by decide +kernel)) (fun _ => ?_)
  refine lv_aload_n (pc := 7) hx hb dX9_addNumber_7 rfl (lv_at hl 1 rfl) ?_
  refine va_get (pc := 8) (ci := 9) (v := .int 1) (C := RX9) (T := TX9) (N := 2) hx hb hts iX9 hown hK hP 0 rfl rfl 1 (by decide) (hts _ tw_43) (fun _ h9 => h9) rfl dX9_addNumber_8 ?_
  refine lv_sipush (pc := 11) (v := 1600) hx hb dX9_addNumber_11 (by decide) ?_
  refine lv_icmp_ge (pc := 14) (tgt := 46) hx hb dX9_addNumber_14 (by decide) (fun c => absurd c (by decide +kernel)) (fun _ => ?_)
  refine lv_aload_n (pc := 17) hx hb dX9_addNumber_17 rfl (lv_at hl 1 rfl) ?_
  refine va_get (pc := 18) (ci := 9) (v := .ref a1) (C := RX9) (T := TX9) (N := 2) hx hb hts iX9 hown hK hP 0 rfl rfl 0 (by decide) (hts _ tw_42) (fun _ h9 => h9) rfl dX9_addNumber_18 ?_
  refine lv_aload_n (pc := 21) hx hb dX9_addNumber_21 rfl (lv_at hl 1 rfl) ?_
  refine va_get (pc := 22) (ci := 9) (v := .int 1) (C := RX9) (T := TX9) (N := 2) hx hb hts iX9 hown hK hP 0 rfl rfl 1 (by decide) (hts _ tw_43) (fun _ h9 => h9) rfl dX9_addNumber_22 ?_
  refine lv_iload_n (pc := 25) hx hb dX9_addNumber_25 rfl (lv_at hl 2 rfl) ?_
  refine lv_iload_n (pc := 26) hx hb dX9_addNumber_26 rfl (lv_at hl 0 rfl) ?_
  refine lv_ishr (pc := 27) hx hb dX9_addNumber_27 ?_
  refine lv_topi (fun x_4 ex_4 => ?_)
  refine lv_i2b (pc := 28) hx hb dX9_addNumber_28 rfl ?_
  refine lv_topi (fun x_5 ex_5 => ?_)
  refine g_bastore (pc := 29) hx hb hK hP hD hS 1 0 rfl rfl (gin rfl) dX9_addNumber_29 (fun f_6 H locs hP hD hS => ?_)
  have hP : va_P D gcl [(a0, .inr (9, [.ref a1, .int 1])), (a1, .inl (cB, 1600, .inl f_6))] H := hP
  have hD : va_D A [(a0, .inr (9, [.ref a1, .int 1])), (a1, .inl (cB, 1600, .inl f_6))] := hD
  refine lv_aload_n (pc := 30) hx hb dX9_addNumber_30 rfl (lv_at hl 1 rfl) ?_
  refine lv_dup (pc := 31) hx hb dX9_addNumber_31 rfl ?_
  refine va_get (pc := 32) (ci := 9) (v := .int 1) (C := RX9) (T := TX9) (N := 2) hx hb hts iX9 hown hK hP 0 rfl rfl 1 (by decide) (hts _ tw_43) (fun _ h9 => h9) rfl dX9_addNumber_32 ?_
  refine lv_iconst (pc := 35) (v := 1) hx hb dX9_addNumber_35 (by decide) ?_
  refine lv_iadd (pc := 36) hx hb dX9_addNumber_36 ?_
  refine gI (y := 2) (by decide +kernel) ?_
  refine va_put (pc := 37) (ci := 9) (v := .int 2) (ty := .int) (C := RX9) (T := TX9) (N := 2) hx hb hts iX9 tyX9 tyX9_ok nmX9 hown hK hP hD hS 0 rfl rfl 1 (by decide) (hts _ tw_43) (fun _ h9 => h9) rfl (by decide +kernel) (by decide +kernel) (by decide +kernel) (Nat.le_of_ble_eq_true rfl) dX9_addNumber_37 (fun H locs hP hD hS => ?_)
  have hP : va_P D gcl [(a0, .inr (9, [.ref a1, .int 2])), (a1, .inl (cB, 1600, .inl f_6))] H := hP
  have hD : va_D A [(a0, .inr (9, [.ref a1, .int 2])), (a1, .inl (cB, 1600, .inl f_6))] := hD
  refine lv_iinc (pc := 40) (v := 8) (lv' := [(2, .int 8), (0, .ref a0), (1, .int x0)]) hx hb dX9_addNumber_40 hl (k := 0) rfl (by decide +kernel) (by decide) rfl (fun ls hl => ?_)
  refine lv_goto (pc := 43) (tgt := 3) hx hb dX9_addNumber_43 (by decide) ?_
  refine lv_iload_n (pc := 3) hx hb dX9_addNumber_3 rfl (lv_at hl 0 rfl) ?_
  refine lv_if_lt (pc := 4) (tgt := 46) hx hb dX9_addNumber_4 (by decide) (fun c => absurd c (by decide +kernel)) (fun _ => ?_)
  refine lv_aload_n (pc := 7) hx hb dX9_addNumber_7 rfl (lv_at hl 1 rfl) ?_
  refine va_get (pc := 8) (ci := 9) (v := .int 2) (C := RX9) (T := TX9) (N := 2) hx hb hts iX9 hown hK hP 0 rfl rfl 1 (by decide) (hts _ tw_43) (fun _ h9 => h9) rfl dX9_addNumber_8 ?_
  refine lv_sipush (pc := 11) (v := 1600) hx hb dX9_addNumber_11 (by decide) ?_
  refine lv_icmp_ge (pc := 14) (tgt := 46) hx hb dX9_addNumber_14 (by decide) (fun c => absurd c (by decide +kernel)) (fun _ => ?_)
  refine lv_aload_n (pc := 17) hx hb dX9_addNumber_17 rfl (lv_at hl 1 rfl) ?_
  refine va_get (pc := 18) (ci := 9) (v := .ref a1) (C := RX9) (T := TX9) (N := 2) hx hb hts iX9 hown hK hP 0 rfl rfl 0 (by decide) (hts _ tw_42) (fun _ h9 => h9) rfl dX9_addNumber_18 ?_
  refine lv_aload_n (pc := 21) hx hb dX9_addNumber_21 rfl (lv_at hl 1 rfl) ?_
  refine va_get (pc := 22) (ci := 9) (v := .int 2) (C := RX9) (T := TX9) (N := 2) hx hb hts iX9 hown hK hP 0 rfl rfl 1 (by decide) (hts _ tw_43) (fun _ h9 => h9) rfl dX9_addNumber_22 ?_
  refine lv_iload_n (pc := 25) hx hb dX9_addNumber_25 rfl (lv_at hl 2 rfl) ?_
  refine lv_iload_n (pc := 26) hx hb dX9_addNumber_26 rfl (lv_at hl 0 rfl) ?_
  refine lv_ishr (pc := 27) hx hb dX9_addNumber_27 ?_
  refine lv_topi (fun x_7 ex_7 => ?_)
  refine lv_i2b (pc := 28) hx hb dX9_addNumber_28 rfl ?_
  refine lv_topi (fun x_8 ex_8 => ?_)
  refine g_bastore (pc := 29) hx hb hK hP hD hS 1 0 rfl rfl (gin rfl) dX9_addNumber_29 (fun f_9 H locs hP hD hS => ?_)
  have hP : va_P D gcl [(a0, .inr (9, [.ref a1, .int 2])), (a1, .inl (cB, 1600, .inl f_9))] H := hP
  have hD : va_D A [(a0, .inr (9, [.ref a1, .int 2])), (a1, .inl (cB, 1600, .inl f_9))] := hD
  refine lv_aload_n (pc := 30) hx hb dX9_addNumber_30 rfl (lv_at hl 1 rfl) ?_
  refine lv_dup (pc := 31) hx hb dX9_addNumber_31 rfl ?_
  refine va_get (pc := 32) (ci := 9) (v := .int 2) (C := RX9) (T := TX9) (N := 2) hx hb hts iX9 hown hK hP 0 rfl rfl 1 (by decide) (hts _ tw_43) (fun _ h9 => h9) rfl dX9_addNumber_32 ?_
  refine lv_iconst (pc := 35) (v := 1) hx hb dX9_addNumber_35 (by decide) ?_
  refine lv_iadd (pc := 36) hx hb dX9_addNumber_36 ?_
  refine gI (y := 3) (by decide +kernel) ?_
  refine va_put (pc := 37) (ci := 9) (v := .int 3) (ty := .int) (C := RX9) (T := TX9) (N := 2) hx hb hts iX9 tyX9 tyX9_ok nmX9 hown hK hP hD hS 0 rfl rfl 1 (by decide) (hts _ tw_43) (fun _ h9 => h9) rfl (by decide +kernel) (by decide +kernel) (by decide +kernel) (Nat.le_of_ble_eq_true rfl) dX9_addNumber_37 (fun H locs hP hD hS => ?_)
  have hP : va_P D gcl [(a0, .inr (9, [.ref a1, .int 3])), (a1, .inl (cB, 1600, .inl f_9))] H := hP
  have hD : va_D A [(a0, .inr (9, [.ref a1, .int 3])), (a1, .inl (cB, 1600, .inl f_9))] := hD
  refine lv_iinc (pc := 40) (v := 0) (lv' := [(2, .int 0), (0, .ref a0), (1, .int x0)]) hx hb dX9_addNumber_40 hl (k := 0) rfl (by decide +kernel) (by decide) rfl (fun ls hl => ?_)
  refine lv_goto (pc := 43) (tgt := 3) hx hb dX9_addNumber_43 (by decide) ?_
  refine lv_iload_n (pc := 3) hx hb dX9_addNumber_3 rfl (lv_at hl 0 rfl) ?_
  refine lv_if_lt (pc := 4) (tgt := 46) hx hb dX9_addNumber_4 (by decide) (fun c => absurd c (by decide +kernel)) (fun _ => ?_)
  refine lv_aload_n (pc := 7) hx hb dX9_addNumber_7 rfl (lv_at hl 1 rfl) ?_
  refine va_get (pc := 8) (ci := 9) (v := .int 3) (C := RX9) (T := TX9) (N := 2) hx hb hts iX9 hown hK hP 0 rfl rfl 1 (by decide) (hts _ tw_43) (fun _ h9 => h9) rfl dX9_addNumber_8 ?_
  refine lv_sipush (pc := 11) (v := 1600) hx hb dX9_addNumber_11 (by decide) ?_
  refine lv_icmp_ge (pc := 14) (tgt := 46) hx hb dX9_addNumber_14 (by decide) (fun c => absurd c (by decide +kernel)) (fun _ => ?_)
  refine lv_aload_n (pc := 17) hx hb dX9_addNumber_17 rfl (lv_at hl 1 rfl) ?_
  refine va_get (pc := 18) (ci := 9) (v := .ref a1) (C := RX9) (T := TX9) (N := 2) hx hb hts iX9 hown hK hP 0 rfl rfl 0 (by decide) (hts _ tw_42) (fun _ h9 => h9) rfl dX9_addNumber_18 ?_
  refine lv_aload_n (pc := 21) hx hb dX9_addNumber_21 rfl (lv_at hl 1 rfl) ?_
  refine va_get (pc := 22) (ci := 9) (v := .int 3) (C := RX9) (T := TX9) (N := 2) hx hb hts iX9 hown hK hP 0 rfl rfl 1 (by decide) (hts _ tw_43) (fun _ h9 => h9) rfl dX9_addNumber_22 ?_
  refine lv_iload_n (pc := 25) hx hb dX9_addNumber_25 rfl (lv_at hl 2 rfl) ?_
  refine lv_iload_n (pc := 26) hx hb dX9_addNumber_26 rfl (lv_at hl 0 rfl) ?_
  refine lv_ishr (pc := 27) hx hb dX9_addNumber_27 ?_
  refine lv_topi (fun x_10 ex_10 => ?_)
  refine lv_i2b (pc := 28) hx hb dX9_addNumber_28 rfl ?_
  refine lv_topi (fun x_11 ex_11 => ?_)
  refine g_bastore (pc := 29) hx hb hK hP hD hS 1 0 rfl rfl (gin rfl) dX9_addNumber_29 (fun f_12 H locs hP hD hS => ?_)
  have hP : va_P D gcl [(a0, .inr (9, [.ref a1, .int 3])), (a1, .inl (cB, 1600, .inl f_12))] H := hP
  have hD : va_D A [(a0, .inr (9, [.ref a1, .int 3])), (a1, .inl (cB, 1600, .inl f_12))] := hD
  refine lv_aload_n (pc := 30) hx hb dX9_addNumber_30 rfl (lv_at hl 1 rfl) ?_
  refine lv_dup (pc := 31) hx hb dX9_addNumber_31 rfl ?_
  refine va_get (pc := 32) (ci := 9) (v := .int 3) (C := RX9) (T := TX9) (N := 2) hx hb hts iX9 hown hK hP 0 rfl rfl 1 (by decide) (hts _ tw_43) (fun _ h9 => h9) rfl dX9_addNumber_32 ?_
  refine lv_iconst (pc := 35) (v := 1) hx hb dX9_addNumber_35 (by decide) ?_
  refine lv_iadd (pc := 36) hx hb dX9_addNumber_36 ?_
  refine gI (y := 4) (by decide +kernel) ?_
  refine va_put (pc := 37) (ci := 9) (v := .int 4) (ty := .int) (C := RX9) (T := TX9) (N := 2) hx hb hts iX9 tyX9 tyX9_ok nmX9 hown hK hP hD hS 0 rfl rfl 1 (by decide) (hts _ tw_43) (fun _ h9 => h9) rfl (by decide +kernel) (by decide +kernel) (by decide +kernel) (Nat.le_of_ble_eq_true rfl) dX9_addNumber_37 (fun H locs hP hD hS => ?_)
  have hP : va_P D gcl [(a0, .inr (9, [.ref a1, .int 4])), (a1, .inl (cB, 1600, .inl f_12))] H := hP
  have hD : va_D A [(a0, .inr (9, [.ref a1, .int 4])), (a1, .inl (cB, 1600, .inl f_12))] := hD
  refine lv_iinc (pc := 40) (v := (-8)) (lv' := [(2, .int (-8)), (0, .ref a0), (1, .int x0)]) hx hb dX9_addNumber_40 hl (k := 0) rfl (by decide +kernel) (by decide) rfl (fun ls hl => ?_)
  refine lv_goto (pc := 43) (tgt := 3) hx hb dX9_addNumber_43 (by decide) ?_
  refine lv_iload_n (pc := 3) hx hb dX9_addNumber_3 rfl (lv_at hl 0 rfl) ?_
  refine lv_if_lt (pc := 4) (tgt := 46) hx hb dX9_addNumber_4 (by decide) (fun _ => ?_) (fun c => absurd (by decide +kernel) c)
  have hP9 := hP.sub (ws' := [(a0, .inr (9, [.ref a1, .int 4])), (a1, .inl (cB, 1600, .inl f_12))]) [0, 1] rfl
  have hD9 := hD.sub (ws' := [(a0, .inr (9, [.ref a1, .int 4])), (a1, .inl (cB, 1600, .inl f_12))]) [0, 1] (by decide) rfl
  refine W.widen (k := 0) (n := 0) (Nat.le_of_ble_eq_true rfl) (Nat.le_of_ble_eq_true rfl) ?_
  exact W.vret hx hb hr (fun t ht hW => ⟨⟨((fun _ => 0), (fun k => [f_12].getD k (fun _ => 0)), (fun _ => (fun _ => 0)), (fun _ => 0), (fun _ => 0)), rfl, trivial, by rw [ht]; exact hP9, hD9⟩, hS.F ht⟩) hS.2.2 dX9_addNumber_46
set_option maxHeartbeats 4000000 in
set_option maxRecDepth 100000 in
theorem cc_17_yX9_addNumber (l : Launch) (D : va_G) (cB cC cI cJ : ClassId) (sz : Nat) (a0 a1 : Nat) (x0 : Int32) (f0 : Nat → Int32) : Met l yX9_addNumber (.code yX9_addNumber cX9_addNumber 3 none :: lw_gd) ({ frames := 0, cells := 0, slots := 0, locals := 0 }) (gPre D [(cB, .byte), (cC, .char), (cI, .int), (cJ, .long)] [.ref a0, .int x0] [(a0, .inr (9, [.ref a1, .int 4])), (a1, .inl (cB, 1600, .inl f0))] sz) (va_Qv (fun _ => True) (gB D (va_A [(a0, .inr (9, [.ref a1, .int 4])), (a1, .inl (cB, 1600, .inl f0))] sz) (fun u : gEx => [(a0, .inr (9, [.ref a1, .int 8])), (a1, .inl (cB, 1600, .inl (u.2.1 0)))])) (va_A [(a0, .inr (9, [.ref a1, .int 4])), (a1, .inl (cB, 1600, .inl f0))] sz)) 0 0 (va_A [(a0, .inr (9, [.ref a1, .int 4])), (a1, .inl (cB, 1600, .inl f0))] sz) := by
  refine Met.ofW (cc := cX9_addNumber) (maxL := 3) (ret := none) (by decide) rfl ?_
  intro p e s m args below meth c s₁ B hml hv
  obtain ⟨rfl, hsz, hP, hK, hD0, hN⟩ := hv
  have hx := B.exec
  have hb := B.bytes
  have hr := B.returns
  have hts : ∀ w ∈ lw_gd, w.before _ s = true := fun w h => atoms_spec (ws := .code yX9_addNumber cX9_addNumber 3 none :: lw_gd) B.pre w (List.mem_cons_of_mem _ h)
  have hown : s.vm.findClass RX9 = some m.cls := findClass_of_methodNamed B.named
  have hlocks := B.notSynchronized
  subst hsz
  have hD := hD0.self (sz := s.heap.size)
  generalize hAe : va_A [(a0, .inr (9, [.ref a1, .int 4])), (a1, .inl (cB, 1600, .inl f0))] s.heap.size = A at hD ⊢
  have hA : ∀ q : Nat, s.heap.size ≤ q → A q := fun q h => by rw [← hAe]; exact Or.inr h
  have hS : va_S A s.heap s.heap [] := va_S.rf
  have hP : va_P D gcl [(a0, .inr (9, [.ref a1, .int 4])), (a1, .inl (cB, 1600, .inl f0))] s.heap := hP
  have hl := lv_entry ([.ref a0, .int x0]) (n := 3) (Nat.le_of_ble_eq_true rfl)
  rw [lg_entry_eq]
  generalize (lg_sl ([.ref a0, .int x0]) ++ List.replicate (3 - (lg_sl ([.ref a0, .int x0])).length) Slot.unset).toArray = ls at hl ⊢
  have hl : lv_has ls 3 [(0, .ref a0), (1, .int x0)] := hl
  refine lv_bipush (pc := 0) (v := 24) hx hb dX9_addNumber_0 (by decide) ?_
  refine lv_istore_n (pc := 2) (lv' := [(2, .int 24), (0, .ref a0), (1, .int x0)]) hx hb dX9_addNumber_2 rfl hl (by decide) rfl (fun ls hl => ?_)
  refine lv_iload_n (pc := 3) hx hb dX9_addNumber_3 rfl (lv_at hl 0 rfl) ?_
  refine lv_if_lt (pc := 4) (tgt := 46) hx hb dX9_addNumber_4 (by decide) (fun c => absurd c (by decide +kernel)) (fun _ => ?_)
  refine lv_aload_n (pc := 7) hx hb dX9_addNumber_7 rfl (lv_at hl 1 rfl) ?_
  refine va_get (pc := 8) (ci := 9) (v := .int 4) (C := RX9) (T := TX9) (N := 2) hx hb hts iX9 hown hK hP 0 rfl rfl 1 (by decide) (hts _ tw_43) (fun _ h9 => h9) rfl dX9_addNumber_8 ?_
  refine lv_sipush (pc := 11) (v := 1600) hx hb dX9_addNumber_11 (by decide) ?_
  refine lv_icmp_ge (pc := 14) (tgt := 46) hx hb dX9_addNumber_14 (by decide) (fun c => absurd c (by decide +kernel)) (fun _ => ?_)
  refine lv_aload_n (pc := 17) hx hb dX9_addNumber_17 rfl (lv_at hl 1 rfl) ?_
  refine va_get (pc := 18) (ci := 9) (v := .ref a1) (C := RX9) (T := TX9) (N := 2) hx hb hts iX9 hown hK hP 0 rfl rfl 0 (by decide) (hts _ tw_42) (fun _ h9 => h9) rfl dX9_addNumber_18 ?_
  refine lv_aload_n (pc := 21) hx hb dX9_addNumber_21 rfl (lv_at hl 1 rfl) ?_
  refine va_get (pc := 22) (ci := 9) (v := .int 4) (C := RX9) (T := TX9) (N := 2) hx hb hts iX9 hown hK hP 0 rfl rfl 1 (by decide) (hts _ tw_43) (fun _ h9 => h9) rfl dX9_addNumber_22 ?_
  refine lv_iload_n (pc := 25) hx hb dX9_addNumber_25 rfl (lv_at hl 2 rfl) ?_
  refine lv_iload_n (pc := 26) hx hb dX9_addNumber_26 rfl (lv_at hl 0 rfl) ?_
  refine lv_ishr (pc := 27) hx hb dX9_addNumber_27 ?_
  refine lv_topi (fun x_1 ex_1 => ?_)
  refine lv_i2b (pc := 28) hx hb dX9_addNumber_28 rfl ?_
  refine lv_topi (fun x_2 ex_2 => ?_)
  refine g_bastore (pc := 29) hx hb hK hP hD hS 1 0 rfl rfl (gin rfl) dX9_addNumber_29 (fun f_3 H locs hP hD hS => ?_)
  have hP : va_P D gcl [(a0, .inr (9, [.ref a1, .int 4])), (a1, .inl (cB, 1600, .inl f_3))] H := hP
  have hD : va_D A [(a0, .inr (9, [.ref a1, .int 4])), (a1, .inl (cB, 1600, .inl f_3))] := hD
  refine lv_aload_n (pc := 30) hx hb dX9_addNumber_30 rfl (lv_at hl 1 rfl) ?_
  refine lv_dup (pc := 31) hx hb dX9_addNumber_31 rfl ?_
  refine va_get (pc := 32) (ci := 9) (v := .int 4) (C := RX9) (T := TX9) (N := 2) hx hb hts iX9 hown hK hP 0 rfl rfl 1 (by decide) (hts _ tw_43) (fun _ h9 => h9) rfl dX9_addNumber_32 ?_
  refine lv_iconst (pc := 35) (v := 1) hx hb dX9_addNumber_35 (by decide) ?_
  refine lv_iadd (pc := 36) hx hb dX9_addNumber_36 ?_
  refine gI (y := 5) (by decide +kernel) ?_
  refine va_put (pc := 37) (ci := 9) (v := .int 5) (ty := .int) (C := RX9) (T := TX9) (N := 2) hx hb hts iX9 tyX9 tyX9_ok nmX9 hown hK hP hD hS 0 rfl rfl 1 (by decide) (hts _ tw_43) (fun _ h9 => h9) rfl (by decide +kernel) (by decide +kernel) (by decide +kernel) (Nat.le_of_ble_eq_true rfl) dX9_addNumber_37 (fun H locs hP hD hS => ?_)
  have hP : va_P D gcl [(a0, .inr (9, [.ref a1, .int 5])), (a1, .inl (cB, 1600, .inl f_3))] H := hP
  have hD : va_D A [(a0, .inr (9, [.ref a1, .int 5])), (a1, .inl (cB, 1600, .inl f_3))] := hD
  refine lv_iinc (pc := 40) (v := 16) (lv' := [(2, .int 16), (0, .ref a0), (1, .int x0)]) hx hb dX9_addNumber_40 hl (k := 0) rfl (by decide +kernel) (by decide) rfl (fun ls hl => ?_)
  refine lv_goto (pc := 43) (tgt := 3) hx hb dX9_addNumber_43 (by decide) ?_
  refine lv_iload_n (pc := 3) hx hb dX9_addNumber_3 rfl (lv_at hl 0 rfl) ?_
  refine lv_if_lt (pc := 4) (tgt := 46) hx hb dX9_addNumber_4 (by decide) (fun c => absurd c (by decide +kernel)) (fun _ => ?_)
  refine lv_aload_n (pc := 7) hx hb dX9_addNumber_7 rfl (lv_at hl 1 rfl) ?_
  refine va_get (pc := 8) (ci := 9) (v := .int 5) (C := RX9) (T := TX9) (N := 2) hx hb hts iX9 hown hK hP 0 rfl rfl 1 (by decide) (hts _ tw_43) (fun _ h9 => h9) rfl dX9_addNumber_8 ?_
  refine lv_sipush (pc := 11) (v := 1600) hx hb dX9_addNumber_11 (by decide) ?_
  refine lv_icmp_ge (pc := 14) (tgt := 46) hx hb dX9_addNumber_14 (by decide) (fun c => absurd c (by decide +kernel)) (fun _ => ?_)
  refine lv_aload_n (pc := 17) hx hb dX9_addNumber_17 rfl (lv_at hl 1 rfl) ?_
  refine va_get (pc := 18) (ci := 9) (v := .ref a1) (C := RX9) (T := TX9) (N := 2) hx hb hts iX9 hown hK hP 0 rfl rfl 0 (by decide) (hts _ tw_42) (fun _ h9 => h9) rfl dX9_addNumber_18 ?_
  refine lv_aload_n (pc := 21) hx hb dX9_addNumber_21 rfl (lv_at hl 1 rfl) ?_
  refine va_get (pc := 22) (ci := 9) (v := .int 5) (C := RX9) (T := TX9) (N := 2) hx hb hts iX9 hown hK hP 0 rfl rfl 1 (by decide) (hts _ tw_43) (fun _ h9 => h9) rfl dX9_addNumber_22 ?_
  refine lv_iload_n (pc := 25) hx hb dX9_addNumber_25 rfl (lv_at hl 2 rfl) ?_
  refine lv_iload_n (pc := 26) hx hb dX9_addNumber_26 rfl (lv_at hl 0 rfl) ?_
  refine lv_ishr (pc := 27) hx hb dX9_addNumber_27 ?_
  refine lv_topi (fun x_4 ex_4 => ?_)
  refine lv_i2b (pc := 28) hx hb dX9_addNumber_28 rfl ?_
  refine lv_topi (fun x_5 ex_5 => ?_)
  refine g_bastore (pc := 29) hx hb hK hP hD hS 1 0 rfl rfl (gin rfl) dX9_addNumber_29 (fun f_6 H locs hP hD hS => ?_)
  have hP : va_P D gcl [(a0, .inr (9, [.ref a1, .int 5])), (a1, .inl (cB, 1600, .inl f_6))] H := hP
  have hD : va_D A [(a0, .inr (9, [.ref a1, .int 5])), (a1, .inl (cB, 1600, .inl f_6))] := hD
  refine lv_aload_n (pc := 30) hx hb dX9_addNumber_30 rfl (lv_at hl 1 rfl) ?_
  refine lv_dup (pc := 31) hx hb dX9_addNumber_31 rfl ?_
  refine va_get (pc := 32) (ci := 9) (v := .int 5) (C := RX9) (T := TX9) (N := 2) hx hb hts iX9 hown hK hP 0 rfl rfl 1 (by decide) (hts _ tw_43) (fun _ h9 => h9) rfl dX9_addNumber_32 ?_
  refine lv_iconst (pc := 35) (v := 1) hx hb dX9_addNumber_35 (by decide) ?_
  refine lv_iadd (pc := 36) hx hb dX9_addNumber_36 ?_
  refine gI (y := 6) (by decide +kernel) ?_
  refine va_put (pc := 37) (ci := 9) (v := .int 6) (ty := .int) (C := RX9) (T := TX9) (N := 2) hx hb hts iX9 tyX9 tyX9_ok nmX9 hown hK hP hD hS 0 rfl rfl 1 (by decide) (hts _ tw_43) (fun _ h9 => h9) rfl (by decide +kernel) (by decide +kernel) (by decide +kernel) (Nat.le_of_ble_eq_true rfl) dX9_addNumber_37 (fun H locs hP hD hS => ?_)
  have hP : va_P D gcl [(a0, .inr (9, [.ref a1, .int 6])), (a1, .inl (cB, 1600, .inl f_6))] H := hP
  have hD : va_D A [(a0, .inr (9, [.ref a1, .int 6])), (a1, .inl (cB, 1600, .inl f_6))] := hD
  refine lv_iinc (pc := 40) (v := 8) (lv' := [(2, .int 8), (0, .ref a0), (1, .int x0)]) hx hb dX9_addNumber_40 hl (k := 0) rfl (by decide +kernel) (by decide) rfl (fun ls hl => ?_)
  refine lv_goto (pc := 43) (tgt := 3) hx hb dX9_addNumber_43 (by decide) ?_
  refine lv_iload_n (pc := 3) hx hb dX9_addNumber_3 rfl (lv_at hl 0 rfl) ?_
  refine lv_if_lt (pc := 4) (tgt := 46) hx hb dX9_addNumber_4 (by decide) (fun c => absurd c (by decide +kernel)) (fun _ => ?_)
  refine lv_aload_n (pc := 7) hx hb dX9_addNumber_7 rfl (lv_at hl 1 rfl) ?_
  refine va_get (pc := 8) (ci := 9) (v := .int 6) (C := RX9) (T := TX9) (N := 2) hx hb hts iX9 hown hK hP 0 rfl rfl 1 (by decide) (hts _ tw_43) (fun _ h9 => h9) rfl dX9_addNumber_8 ?_
  refine lv_sipush (pc := 11) (v := 1600) hx hb dX9_addNumber_11 (by decide) ?_
  refine lv_icmp_ge (pc := 14) (tgt := 46) hx hb dX9_addNumber_14 (by decide) (fun c => absurd c (by decide +kernel)) (fun _ => ?_)
  refine lv_aload_n (pc := 17) hx hb dX9_addNumber_17 rfl (lv_at hl 1 rfl) ?_
  refine va_get (pc := 18) (ci := 9) (v := .ref a1) (C := RX9) (T := TX9) (N := 2) hx hb hts iX9 hown hK hP 0 rfl rfl 0 (by decide) (hts _ tw_42) (fun _ h9 => h9) rfl dX9_addNumber_18 ?_
  refine lv_aload_n (pc := 21) hx hb dX9_addNumber_21 rfl (lv_at hl 1 rfl) ?_
  refine va_get (pc := 22) (ci := 9) (v := .int 6) (C := RX9) (T := TX9) (N := 2) hx hb hts iX9 hown hK hP 0 rfl rfl 1 (by decide) (hts _ tw_43) (fun _ h9 => h9) rfl dX9_addNumber_22 ?_
  refine lv_iload_n (pc := 25) hx hb dX9_addNumber_25 rfl (lv_at hl 2 rfl) ?_
  refine lv_iload_n (pc := 26) hx hb dX9_addNumber_26 rfl (lv_at hl 0 rfl) ?_
  refine lv_ishr (pc := 27) hx hb dX9_addNumber_27 ?_
  refine lv_topi (fun x_7 ex_7 => ?_)
  refine lv_i2b (pc := 28) hx hb dX9_addNumber_28 rfl ?_
  refine lv_topi (fun x_8 ex_8 => ?_)
  refine g_bastore (pc := 29) hx hb hK hP hD hS 1 0 rfl rfl (gin rfl) dX9_addNumber_29 (fun f_9 H locs hP hD hS => ?_)
  have hP : va_P D gcl [(a0, .inr (9, [.ref a1, .int 6])), (a1, .inl (cB, 1600, .inl f_9))] H := hP
  have hD : va_D A [(a0, .inr (9, [.ref a1, .int 6])), (a1, .inl (cB, 1600, .inl f_9))] := hD
  refine lv_aload_n (pc := 30) hx hb dX9_addNumber_30 rfl (lv_at hl 1 rfl) ?_
  refine lv_dup (pc := 31) hx hb dX9_addNumber_31 rfl ?_
  refine va_get (pc := 32) (ci := 9) (v := .int 6) (C := RX9) (T := TX9) (N := 2) hx hb hts iX9 hown hK hP 0 rfl rfl 1 (by decide) (hts _ tw_43) (fun _ h9 => h9) rfl dX9_addNumber_32 ?_
  refine lv_iconst (pc := 35) (v := 1) hx hb dX9_addNumber_35 (by decide) ?_
  refine lv_iadd (pc := 36) hx hb dX9_addNumber_36 ?_
  refine gI (y := 7) (by decide +kernel) ?_
  refine va_put (pc := 37) (ci := 9) (v := .int 7) (ty := .int) (C := RX9) (T := TX9) (N := 2) hx hb hts iX9 tyX9 tyX9_ok nmX9 hown hK hP hD hS 0 rfl rfl 1 (by decide) (hts _ tw_43) (fun _ h9 => h9) rfl (by decide +kernel) (by decide +kernel) (by decide +kernel) (Nat.le_of_ble_eq_true rfl) dX9_addNumber_37 (fun H locs hP hD hS => ?_)
  have hP : va_P D gcl [(a0, .inr (9, [.ref a1, .int 7])), (a1, .inl (cB, 1600, .inl f_9))] H := hP
  have hD : va_D A [(a0, .inr (9, [.ref a1, .int 7])), (a1, .inl (cB, 1600, .inl f_9))] := hD
  refine lv_iinc (pc := 40) (v := 0) (lv' := [(2, .int 0), (0, .ref a0), (1, .int x0)]) hx hb dX9_addNumber_40 hl (k := 0) rfl (by decide +kernel) (by decide) rfl (fun ls hl => ?_)
  refine lv_goto (pc := 43) (tgt := 3) hx hb dX9_addNumber_43 (by decide) ?_
  refine lv_iload_n (pc := 3) hx hb dX9_addNumber_3 rfl (lv_at hl 0 rfl) ?_
  refine lv_if_lt (pc := 4) (tgt := 46) hx hb dX9_addNumber_4 (by decide) (fun c => absurd c (by decide +kernel)) (fun _ => ?_)
  refine lv_aload_n (pc := 7) hx hb dX9_addNumber_7 rfl (lv_at hl 1 rfl) ?_
  refine va_get (pc := 8) (ci := 9) (v := .int 7) (C := RX9) (T := TX9) (N := 2) hx hb hts iX9 hown hK hP 0 rfl rfl 1 (by decide) (hts _ tw_43) (fun _ h9 => h9) rfl dX9_addNumber_8 ?_
  refine lv_sipush (pc := 11) (v := 1600) hx hb dX9_addNumber_11 (by decide) ?_
  refine lv_icmp_ge (pc := 14) (tgt := 46) hx hb dX9_addNumber_14 (by decide) (fun c => absurd c (by decide +kernel)) (fun _ => ?_)
  refine lv_aload_n (pc := 17) hx hb dX9_addNumber_17 rfl (lv_at hl 1 rfl) ?_
  refine va_get (pc := 18) (ci := 9) (v := .ref a1) (C := RX9) (T := TX9) (N := 2) hx hb hts iX9 hown hK hP 0 rfl rfl 0 (by decide) (hts _ tw_42) (fun _ h9 => h9) rfl dX9_addNumber_18 ?_
  refine lv_aload_n (pc := 21) hx hb dX9_addNumber_21 rfl (lv_at hl 1 rfl) ?_
  refine va_get (pc := 22) (ci := 9) (v := .int 7) (C := RX9) (T := TX9) (N := 2) hx hb hts iX9 hown hK hP 0 rfl rfl 1 (by decide) (hts _ tw_43) (fun _ h9 => h9) rfl dX9_addNumber_22 ?_
  refine lv_iload_n (pc := 25) hx hb dX9_addNumber_25 rfl (lv_at hl 2 rfl) ?_
  refine lv_iload_n (pc := 26) hx hb dX9_addNumber_26 rfl (lv_at hl 0 rfl) ?_
  refine lv_ishr (pc := 27) hx hb dX9_addNumber_27 ?_
  refine lv_topi (fun x_10 ex_10 => ?_)
  refine lv_i2b (pc := 28) hx hb dX9_addNumber_28 rfl ?_
  refine lv_topi (fun x_11 ex_11 => ?_)
  refine g_bastore (pc := 29) hx hb hK hP hD hS 1 0 rfl rfl (gin rfl) dX9_addNumber_29 (fun f_12 H locs hP hD hS => ?_)
  have hP : va_P D gcl [(a0, .inr (9, [.ref a1, .int 7])), (a1, .inl (cB, 1600, .inl f_12))] H := hP
  have hD : va_D A [(a0, .inr (9, [.ref a1, .int 7])), (a1, .inl (cB, 1600, .inl f_12))] := hD
  refine lv_aload_n (pc := 30) hx hb dX9_addNumber_30 rfl (lv_at hl 1 rfl) ?_
  refine lv_dup (pc := 31) hx hb dX9_addNumber_31 rfl ?_
  refine va_get (pc := 32) (ci := 9) (v := .int 7) (C := RX9) (T := TX9) (N := 2) hx hb hts iX9 hown hK hP 0 rfl rfl 1 (by decide) (hts _ tw_43) (fun _ h9 => h9) rfl dX9_addNumber_32 ?_
  refine lv_iconst (pc := 35) (v := 1) hx hb dX9_addNumber_35 (by decide) ?_
  refine lv_iadd (pc := 36) hx hb dX9_addNumber_36 ?_
  refine gI (y := 8) (by decide +kernel) ?_
  refine va_put (pc := 37) (ci := 9) (v := .int 8) (ty := .int) (C := RX9) (T := TX9) (N := 2) hx hb hts iX9 tyX9 tyX9_ok nmX9 hown hK hP hD hS 0 rfl rfl 1 (by decide) (hts _ tw_43) (fun _ h9 => h9) rfl (by decide +kernel) (by decide +kernel) (by decide +kernel) (Nat.le_of_ble_eq_true rfl) dX9_addNumber_37 (fun H locs hP hD hS => ?_)
  have hP : va_P D gcl [(a0, .inr (9, [.ref a1, .int 8])), (a1, .inl (cB, 1600, .inl f_12))] H := hP
  have hD : va_D A [(a0, .inr (9, [.ref a1, .int 8])), (a1, .inl (cB, 1600, .inl f_12))] := hD
  refine lv_iinc (pc := 40) (v := (-8)) (lv' := [(2, .int (-8)), (0, .ref a0), (1, .int x0)]) hx hb dX9_addNumber_40 hl (k := 0) rfl (by decide +kernel) (by decide) rfl (fun ls hl => ?_)
  refine lv_goto (pc := 43) (tgt := 3) hx hb dX9_addNumber_43 (by decide) ?_
  refine lv_iload_n (pc := 3) hx hb dX9_addNumber_3 rfl (lv_at hl 0 rfl) ?_
  refine lv_if_lt (pc := 4) (tgt := 46) hx hb dX9_addNumber_4 (by decide) (fun _ => ?_) (fun c => absurd (by decide +kernel) c)
  have hP9 := hP.sub (ws' := [(a0, .inr (9, [.ref a1, .int 8])), (a1, .inl (cB, 1600, .inl f_12))]) [0, 1] rfl
  have hD9 := hD.sub (ws' := [(a0, .inr (9, [.ref a1, .int 8])), (a1, .inl (cB, 1600, .inl f_12))]) [0, 1] (by decide) rfl
  refine W.widen (k := 0) (n := 0) (Nat.le_of_ble_eq_true rfl) (Nat.le_of_ble_eq_true rfl) ?_
  exact W.vret hx hb hr (fun t ht hW => ⟨⟨((fun _ => 0), (fun k => [f_12].getD k (fun _ => 0)), (fun _ => (fun _ => 0)), (fun _ => 0), (fun _ => 0)), rfl, trivial, by rw [ht]; exact hP9, hD9⟩, hS.F ht⟩) hS.2.2 dX9_addNumber_46
set_option maxHeartbeats 4000000 in
set_option maxRecDepth 100000 in
theorem cc_18_yX9_addNumber (l : Launch) (D : va_G) (cB cC cI cJ : ClassId) (sz : Nat) (a0 a1 : Nat) (x0 : Int32) (f0 : Nat → Int32) : Met l yX9_addNumber (.code yX9_addNumber cX9_addNumber 3 none :: lw_gd) ({ frames := 0, cells := 0, slots := 0, locals := 0 }) (gPre D [(cB, .byte), (cC, .char), (cI, .int), (cJ, .long)] [.ref a0, .int x0] [(a0, .inr (9, [.ref a1, .int 8])), (a1, .inl (cB, 1600, .inl f0))] sz) (va_Qv (fun _ => True) (gB D (va_A [(a0, .inr (9, [.ref a1, .int 8])), (a1, .inl (cB, 1600, .inl f0))] sz) (fun u : gEx => [(a0, .inr (9, [.ref a1, .int 12])), (a1, .inl (cB, 1600, .inl (u.2.1 0)))])) (va_A [(a0, .inr (9, [.ref a1, .int 8])), (a1, .inl (cB, 1600, .inl f0))] sz)) 0 0 (va_A [(a0, .inr (9, [.ref a1, .int 8])), (a1, .inl (cB, 1600, .inl f0))] sz) := by
  refine Met.ofW (cc := cX9_addNumber) (maxL := 3) (ret := none) (by decide) rfl ?_
  intro p e s m args below meth c s₁ B hml hv
  obtain ⟨rfl, hsz, hP, hK, hD0, hN⟩ := hv
  have hx := B.exec
  have hb := B.bytes
  have hr := B.returns
  have hts : ∀ w ∈ lw_gd, w.before _ s = true := fun w h => atoms_spec (ws := .code yX9_addNumber cX9_addNumber 3 none :: lw_gd) B.pre w (List.mem_cons_of_mem _ h)
  have hown : s.vm.findClass RX9 = some m.cls := findClass_of_methodNamed B.named
  have hlocks := B.notSynchronized
  subst hsz
  have hD := hD0.self (sz := s.heap.size)
  generalize hAe : va_A [(a0, .inr (9, [.ref a1, .int 8])), (a1, .inl (cB, 1600, .inl f0))] s.heap.size = A at hD ⊢
  have hA : ∀ q : Nat, s.heap.size ≤ q → A q := fun q h => by rw [← hAe]; exact Or.inr h
  have hS : va_S A s.heap s.heap [] := va_S.rf
  have hP : va_P D gcl [(a0, .inr (9, [.ref a1, .int 8])), (a1, .inl (cB, 1600, .inl f0))] s.heap := hP
  have hl := lv_entry ([.ref a0, .int x0]) (n := 3) (Nat.le_of_ble_eq_true rfl)
  rw [lg_entry_eq]
  generalize (lg_sl ([.ref a0, .int x0]) ++ List.replicate (3 - (lg_sl ([.ref a0, .int x0])).length) Slot.unset).toArray = ls at hl ⊢
  have hl : lv_has ls 3 [(0, .ref a0), (1, .int x0)] := hl
  refine lv_bipush (pc := 0) (v := 24) hx hb dX9_addNumber_0 (by decide) ?_
  refine lv_istore_n (pc := 2) (lv' := [(2, .int 24), (0, .ref a0), (1, .int x0)]) hx hb dX9_addNumber_2 rfl hl (by decide) rfl (fun ls hl => ?_)
  refine lv_iload_n (pc := 3) hx hb dX9_addNumber_3 rfl (lv_at hl 0 rfl) ?_
  refine lv_if_lt (pc := 4) (tgt := 46) hx hb dX9_addNumber_4 (by decide) (fun c => absurd c (by decide +kernel)) (fun _ => ?_)
  refine lv_aload_n (pc := 7) hx hb dX9_addNumber_7 rfl (lv_at hl 1 rfl) ?_
  refine va_get (pc := 8) (ci := 9) (v := .int 8) (C := RX9) (T := TX9) (N := 2) hx hb hts iX9 hown hK hP 0 rfl rfl 1 (by decide) (hts _ tw_43) (fun _ h9 => h9) rfl dX9_addNumber_8 ?_
  refine lv_sipush (pc := 11) (v := 1600) hx hb dX9_addNumber_11 (by decide) ?_
  refine lv_icmp_ge (pc := 14) (tgt := 46) hx hb dX9_addNumber_14 (by decide) (fun c => absurd c (by decide +kernel)) (fun _ => ?_)
  refine lv_aload_n (pc := 17) hx hb dX9_addNumber_17 rfl (lv_at hl 1 rfl) ?_
  refine va_get (pc := 18) (ci := 9) (v := .ref a1) (C := RX9) (T := TX9) (N := 2) hx hb hts iX9 hown hK hP 0 rfl rfl 0 (by decide) (hts _ tw_42) (fun _ h9 => h9) rfl dX9_addNumber_18 ?_
  refine lv_aload_n (pc := 21) hx hb dX9_addNumber_21 rfl (lv_at hl 1 rfl) ?_
  refine va_get (pc := 22) (ci := 9) (v := .int 8) (C := RX9) (T := TX9) (N := 2) hx hb hts iX9 hown hK hP 0 rfl rfl 1 (by decide) (hts _ tw_43) (fun _ h9 => h9) rfl dX9_addNumber_22 ?_
  refine lv_iload_n (pc := 25) hx hb dX9_addNumber_25 rfl (lv_at hl 2 rfl) ?_
  refine lv_iload_n (pc := 26) hx hb dX9_addNumber_26 rfl (lv_at hl 0 rfl) ?_
  refine lv_ishr (pc := 27) hx hb dX9_addNumber_27 ?_
  refine lv_topi (fun x_1 ex_1 => ?_)
  refine lv_i2b (pc := 28) hx hb dX9_addNumber_28 rfl ?_
  refine lv_topi (fun x_2 ex_2 => ?_)
  refine g_bastore (pc := 29) hx hb hK hP hD hS 1 0 rfl rfl (gin rfl) dX9_addNumber_29 (fun f_3 H locs hP hD hS => ?_)
  have hP : va_P D gcl [(a0, .inr (9, [.ref a1, .int 8])), (a1, .inl (cB, 1600, .inl f_3))] H := hP
  have hD : va_D A [(a0, .inr (9, [.ref a1, .int 8])), (a1, .inl (cB, 1600, .inl f_3))] := hD
  refine lv_aload_n (pc := 30) hx hb dX9_addNumber_30 rfl (lv_at hl 1 rfl) ?_
  refine lv_dup (pc := 31) hx hb dX9_addNumber_31 rfl ?_
  refine va_get (pc := 32) (ci := 9) (v := .int 8) (C := RX9) (T := TX9) (N := 2) hx hb hts iX9 hown hK hP 0 rfl rfl 1 (by decide) (hts _ tw_43) (fun _ h9 => h9) rfl dX9_addNumber_32 ?_
  refine lv_iconst (pc := 35) (v := 1) hx hb dX9_addNumber_35 (by decide) ?_
  refine lv_iadd (pc := 36) hx hb dX9_addNumber_36 ?_
  refine gI (y := 9) (by decide +kernel) ?_
  refine va_put (pc := 37) (ci := 9) (v := .int 9) (ty := .int) (C := RX9) (T := TX9) (N := 2) hx hb hts iX9 tyX9 tyX9_ok nmX9 hown hK hP hD hS 0 rfl rfl 1 (by decide) (hts _ tw_43) (fun _ h9 => h9) rfl (by decide +kernel) (by decide +kernel) (by decide +kernel) (Nat.le_of_ble_eq_true rfl) dX9_addNumber_37 (fun H locs hP hD hS => ?_)
  have hP : va_P D gcl [(a0, .inr (9, [.ref a1, .int 9])), (a1, .inl (cB, 1600, .inl f_3))] H := hP
  have hD : va_D A [(a0, .inr (9, [.ref a1, .int 9])), (a1, .inl (cB, 1600, .inl f_3))] := hD
  refine lv_iinc (pc := 40) (v := 16) (lv' := [(2, .int 16), (0, .ref a0), (1, .int x0)]) hx hb dX9_addNumber_40 hl (k := 0) rfl (by decide +kernel) (by decide) rfl (fun ls hl => ?_)
  refine lv_goto (pc := 43) (tgt := 3) hx hb dX9_addNumber_43 (by decide) ?_
  refine lv_iload_n (pc := 3) hx hb dX9_addNumber_3 rfl (lv_at hl 0 rfl) ?_
  refine lv_if_lt (pc := 4) (tgt := 46) hx hb dX9_addNumber_4 (by decide) (fun c => absurd c (by decide +kernel)) (fun _ => ?_)
  refine lv_aload_n (pc := 7) hx hb dX9_addNumber_7 rfl (lv_at hl 1 rfl) ?_
  refine va_get (pc := 8) (ci := 9) (v := .int 9) (C := RX9) (T := TX9) (N := 2) hx hb hts iX9 hown hK hP 0 rfl rfl 1 (by decide) (hts _ tw_43) (fun _ h9 => h9) rfl dX9_addNumber_8 ?_
  refine lv_sipush (pc := 11) (v := 1600) hx hb dX9_addNumber_11 (by decide) ?_
  refine lv_icmp_ge (pc := 14) (tgt := 46) hx hb dX9_addNumber_14 (by decide) (fun c => absurd c (by decide +kernel)) (fun _ => ?_)
  refine lv_aload_n (pc := 17) hx hb dX9_addNumber_17 rfl (lv_at hl 1 rfl) ?_
  refine va_get (pc := 18) (ci := 9) (v := .ref a1) (C := RX9) (T := TX9) (N := 2) hx hb hts iX9 hown hK hP 0 rfl rfl 0 (by decide) (hts _ tw_42) (fun _ h9 => h9) rfl dX9_addNumber_18 ?_
  refine lv_aload_n (pc := 21) hx hb dX9_addNumber_21 rfl (lv_at hl 1 rfl) ?_
  refine va_get (pc := 22) (ci := 9) (v := .int 9) (C := RX9) (T := TX9) (N := 2) hx hb hts iX9 hown hK hP 0 rfl rfl 1 (by decide) (hts _ tw_43) (fun _ h9 => h9) rfl dX9_addNumber_22 ?_
  refine lv_iload_n (pc := 25) hx hb dX9_addNumber_25 rfl (lv_at hl 2 rfl) ?_
  refine lv_iload_n (pc := 26) hx hb dX9_addNumber_26 rfl (lv_at hl 0 rfl) ?_
  refine lv_ishr (pc := 27) hx hb dX9_addNumber_27 ?_
  refine lv_topi (fun x_4 ex_4 => ?_)
  refine lv_i2b (pc := 28) hx hb dX9_addNumber_28 rfl ?_
  refine lv_topi (fun x_5 ex_5 => ?_)
  refine g_bastore (pc := 29) hx hb hK hP hD hS 1 0 rfl rfl (gin rfl) dX9_addNumber_29 (fun f_6 H locs hP hD hS => ?_)
  have hP : va_P D gcl [(a0, .inr (9, [.ref a1, .int 9])), (a1, .inl (cB, 1600, .inl f_6))] H := hP
  have hD : va_D A [(a0, .inr (9, [.ref a1, .int 9])), (a1, .inl (cB, 1600, .inl f_6))] := hD
  refine lv_aload_n (pc := 30) hx hb dX9_addNumber_30 rfl (lv_at hl 1 rfl) ?_
  refine lv_dup (pc := 31) hx hb dX9_addNumber_31 rfl ?_
  refine va_get (pc := 32) (ci := 9) (v := .int 9) (C := RX9) (T := TX9) (N := 2) hx hb hts iX9 hown hK hP 0 rfl rfl 1 (by decide) (hts _ tw_43) (fun _ h9 => h9) rfl dX9_addNumber_32 ?_
  refine lv_iconst (pc := 35) (v := 1) hx hb dX9_addNumber_35 (by decide) ?_
  refine lv_iadd (pc := 36) hx hb dX9_addNumber_36 ?_
  refine gI (y := 10) (by decide +kernel) ?_
  refine va_put (pc := 37) (ci := 9) (v := .int 10) (ty := .int) (C := RX9) (T := TX9) (N := 2) hx hb hts iX9 tyX9 tyX9_ok nmX9 hown hK hP hD hS 0 rfl rfl 1 (by decide) (hts _ tw_43) (fun _ h9 => h9) rfl (by decide +kernel) (by decide +kernel) (by decide +kernel) (Nat.le_of_ble_eq_true rfl) dX9_addNumber_37 (fun H locs hP hD hS => ?_)
  have hP : va_P D gcl [(a0, .inr (9, [.ref a1, .int 10])), (a1, .inl (cB, 1600, .inl f_6))] H := hP
  have hD : va_D A [(a0, .inr (9, [.ref a1, .int 10])), (a1, .inl (cB, 1600, .inl f_6))] := hD
  refine lv_iinc (pc := 40) (v := 8) (lv' := [(2, .int 8), (0, .ref a0), (1, .int x0)]) hx hb dX9_addNumber_40 hl (k := 0) rfl (by decide +kernel) (by decide) rfl (fun ls hl => ?_)
  refine lv_goto (pc := 43) (tgt := 3) hx hb dX9_addNumber_43 (by decide) ?_
  refine lv_iload_n (pc := 3) hx hb dX9_addNumber_3 rfl (lv_at hl 0 rfl) ?_
  refine lv_if_lt (pc := 4) (tgt := 46) hx hb dX9_addNumber_4 (by decide) (fun c => absurd c (by decide +kernel)) (fun _ => ?_)
  refine lv_aload_n (pc := 7) hx hb dX9_addNumber_7 rfl (lv_at hl 1 rfl) ?_
  refine va_get (pc := 8) (ci := 9) (v := .int 10) (C := RX9) (T := TX9) (N := 2) hx hb hts iX9 hown hK hP 0 rfl rfl 1 (by decide) (hts _ tw_43) (fun _ h9 => h9) rfl dX9_addNumber_8 ?_
  refine lv_sipush (pc := 11) (v := 1600) hx hb dX9_addNumber_11 (by decide) ?_
  refine lv_icmp_ge (pc := 14) (tgt := 46) hx hb dX9_addNumber_14 (by decide) (fun c => absurd c (by decide +kernel)) (fun _ => ?_)
  refine lv_aload_n (pc := 17) hx hb dX9_addNumber_17 rfl (lv_at hl 1 rfl) ?_
  refine va_get (pc := 18) (ci := 9) (v := .ref a1) (C := RX9) (T := TX9) (N := 2) hx hb hts iX9 hown hK hP 0 rfl rfl 0 (by decide) (hts _ tw_42) (fun _ h9 => h9) rfl dX9_addNumber_18 ?_
  refine lv_aload_n (pc := 21) hx hb dX9_addNumber_21 rfl (lv_at hl 1 rfl) ?_
  refine va_get (pc := 22) (ci := 9) (v := .int 10) (C := RX9) (T := TX9) (N := 2) hx hb hts iX9 hown hK hP 0 rfl rfl 1 (by decide) (hts _ tw_43) (fun _ h9 => h9) rfl dX9_addNumber_22 ?_
  refine lv_iload_n (pc := 25) hx hb dX9_addNumber_25 rfl (lv_at hl 2 rfl) ?_
  refine lv_iload_n (pc := 26) hx hb dX9_addNumber_26 rfl (lv_at hl 0 rfl) ?_
  refine lv_ishr (pc := 27) hx hb dX9_addNumber_27 ?_
  refine lv_topi (fun x_7 ex_7 => ?_)
  refine lv_i2b (pc := 28) hx hb dX9_addNumber_28 rfl ?_
  refine lv_topi (fun x_8 ex_8 => ?_)
  refine g_bastore (pc := 29) hx hb hK hP hD hS 1 0 rfl rfl (gin rfl) dX9_addNumber_29 (fun f_9 H locs hP hD hS => ?_)
  have hP : va_P D gcl [(a0, .inr (9, [.ref a1, .int 10])), (a1, .inl (cB, 1600, .inl f_9))] H := hP
  have hD : va_D A [(a0, .inr (9, [.ref a1, .int 10])), (a1, .inl (cB, 1600, .inl f_9))] := hD
  refine lv_aload_n (pc := 30) hx hb dX9_addNumber_30 rfl (lv_at hl 1 rfl) ?_
  refine lv_dup (pc := 31) hx hb dX9_addNumber_31 rfl ?_
  refine va_get (pc := 32) (ci := 9) (v := .int 10) (C := RX9) (T := TX9) (N := 2) hx hb hts iX9 hown hK hP 0 rfl rfl 1 (by decide) (hts _ tw_43) (fun _ h9 => h9) rfl dX9_addNumber_32 ?_
  refine lv_iconst (pc := 35) (v := 1) hx hb dX9_addNumber_35 (by decide) ?_
  refine lv_iadd (pc := 36) hx hb dX9_addNumber_36 ?_
  refine gI (y := 11) (by decide +kernel) ?_
  refine va_put (pc := 37) (ci := 9) (v := .int 11) (ty := .int) (C := RX9) (T := TX9) (N := 2) hx hb hts iX9 tyX9 tyX9_ok nmX9 hown hK hP hD hS 0 rfl rfl 1 (by decide) (hts _ tw_43) (fun _ h9 => h9) rfl (by decide +kernel) (by decide +kernel) (by decide +kernel) (Nat.le_of_ble_eq_true rfl) dX9_addNumber_37 (fun H locs hP hD hS => ?_)
  have hP : va_P D gcl [(a0, .inr (9, [.ref a1, .int 11])), (a1, .inl (cB, 1600, .inl f_9))] H := hP
  have hD : va_D A [(a0, .inr (9, [.ref a1, .int 11])), (a1, .inl (cB, 1600, .inl f_9))] := hD
  refine lv_iinc (pc := 40) (v := 0) (lv' := [(2, .int 0), (0, .ref a0), (1, .int x0)]) hx hb dX9_addNumber_40 hl (k := 0) rfl (by decide +kernel) (by decide) rfl (fun ls hl => ?_)
  refine lv_goto (pc := 43) (tgt := 3) hx hb dX9_addNumber_43 (by decide) ?_
  refine lv_iload_n (pc := 3) hx hb dX9_addNumber_3 rfl (lv_at hl 0 rfl) ?_
  refine lv_if_lt (pc := 4) (tgt := 46) hx hb dX9_addNumber_4 (by decide) (fun c => absurd c (by decide +kernel)) (fun _ => ?_)
  refine lv_aload_n (pc := 7) hx hb dX9_addNumber_7 rfl (lv_at hl 1 rfl) ?_
  refine va_get (pc := 8) (ci := 9) (v := .int 11) (C := RX9) (T := TX9) (N := 2) hx hb hts iX9 hown hK hP 0 rfl rfl 1 (by decide) (hts _ tw_43) (fun _ h9 => h9) rfl dX9_addNumber_8 ?_
  refine lv_sipush (pc := 11) (v := 1600) hx hb dX9_addNumber_11 (by decide) ?_
  refine lv_icmp_ge (pc := 14) (tgt := 46) hx hb dX9_addNumber_14 (by decide) (fun c => absurd c (by decide +kernel)) (fun _ => ?_)
  refine lv_aload_n (pc := 17) hx hb dX9_addNumber_17 rfl (lv_at hl 1 rfl) ?_
  refine va_get (pc := 18) (ci := 9) (v := .ref a1) (C := RX9) (T := TX9) (N := 2) hx hb hts iX9 hown hK hP 0 rfl rfl 0 (by decide) (hts _ tw_42) (fun _ h9 => h9) rfl dX9_addNumber_18 ?_
  refine lv_aload_n (pc := 21) hx hb dX9_addNumber_21 rfl (lv_at hl 1 rfl) ?_
  refine va_get (pc := 22) (ci := 9) (v := .int 11) (C := RX9) (T := TX9) (N := 2) hx hb hts iX9 hown hK hP 0 rfl rfl 1 (by decide) (hts _ tw_43) (fun _ h9 => h9) rfl dX9_addNumber_22 ?_
  refine lv_iload_n (pc := 25) hx hb dX9_addNumber_25 rfl (lv_at hl 2 rfl) ?_
  refine lv_iload_n (pc := 26) hx hb dX9_addNumber_26 rfl (lv_at hl 0 rfl) ?_
  refine lv_ishr (pc := 27) hx hb dX9_addNumber_27 ?_
  refine lv_topi (fun x_10 ex_10 => ?_)
  refine lv_i2b (pc := 28) hx hb dX9_addNumber_28 rfl ?_
  refine lv_topi (fun x_11 ex_11 => ?_)
  refine g_bastore (pc := 29) hx hb hK hP hD hS 1 0 rfl rfl (gin rfl) dX9_addNumber_29 (fun f_12 H locs hP hD hS => ?_)
  have hP : va_P D gcl [(a0, .inr (9, [.ref a1, .int 11])), (a1, .inl (cB, 1600, .inl f_12))] H := hP
  have hD : va_D A [(a0, .inr (9, [.ref a1, .int 11])), (a1, .inl (cB, 1600, .inl f_12))] := hD
  refine lv_aload_n (pc := 30) hx hb dX9_addNumber_30 rfl (lv_at hl 1 rfl) ?_
  refine lv_dup (pc := 31) hx hb dX9_addNumber_31 rfl ?_
  refine va_get (pc := 32) (ci := 9) (v := .int 11) (C := RX9) (T := TX9) (N := 2) hx hb hts iX9 hown hK hP 0 rfl rfl 1 (by decide) (hts _ tw_43) (fun _ h9 => h9) rfl dX9_addNumber_32 ?_
  refine lv_iconst (pc := 35) (v := 1) hx hb dX9_addNumber_35 (by decide) ?_
  refine lv_iadd (pc := 36) hx hb dX9_addNumber_36 ?_
  refine gI (y := 12) (by decide +kernel) ?_
  refine va_put (pc := 37) (ci := 9) (v := .int 12) (ty := .int) (C := RX9) (T := TX9) (N := 2) hx hb hts iX9 tyX9 tyX9_ok nmX9 hown hK hP hD hS 0 rfl rfl 1 (by decide) (hts _ tw_43) (fun _ h9 => h9) rfl (by decide +kernel) (by decide +kernel) (by decide +kernel) (Nat.le_of_ble_eq_true rfl) dX9_addNumber_37 (fun H locs hP hD hS => ?_)
  have hP : va_P D gcl [(a0, .inr (9, [.ref a1, .int 12])), (a1, .inl (cB, 1600, .inl f_12))] H := hP
  have hD : va_D A [(a0, .inr (9, [.ref a1, .int 12])), (a1, .inl (cB, 1600, .inl f_12))] := hD
  refine lv_iinc (pc := 40) (v := (-8)) (lv' := [(2, .int (-8)), (0, .ref a0), (1, .int x0)]) hx hb dX9_addNumber_40 hl (k := 0) rfl (by decide +kernel) (by decide) rfl (fun ls hl => ?_)
  refine lv_goto (pc := 43) (tgt := 3) hx hb dX9_addNumber_43 (by decide) ?_
  refine lv_iload_n (pc := 3) hx hb dX9_addNumber_3 rfl (lv_at hl 0 rfl) ?_
  refine lv_if_lt (pc := 4) (tgt := 46) hx hb dX9_addNumber_4 (by decide) (fun _ => ?_) (fun c => absurd (by decide +kernel) c)
  have hP9 := hP.sub (ws' := [(a0, .inr (9, [.ref a1, .int 12])), (a1, .inl (cB, 1600, .inl f_12))]) [0, 1] rfl
  have hD9 := hD.sub (ws' := [(a0, .inr (9, [.ref a1, .int 12])), (a1, .inl (cB, 1600, .inl f_12))]) [0, 1] (by decide) rfl
  refine W.widen (k := 0) (n := 0) (Nat.le_of_ble_eq_true rfl) (Nat.le_of_ble_eq_true rfl) ?_
  exact W.vret hx hb hr (fun t ht hW => ⟨⟨((fun _ => 0), (fun k => [f_12].getD k (fun _ => 0)), (fun _ => (fun _ => 0)), (fun _ => 0), (fun _ => 0)), rfl, trivial, by rw [ht]; exact hP9, hD9⟩, hS.F ht⟩) hS.2.2 dX9_addNumber_46
set_option maxHeartbeats 4000000 in
set_option maxRecDepth 100000 in
theorem cc_19_yX9_addNumber (l : Launch) (D : va_G) (cB cC cI cJ : ClassId) (sz : Nat) (a0 a1 : Nat) (x0 : Int32) (f0 : Nat → Int32) : Met l yX9_addNumber (.code yX9_addNumber cX9_addNumber 3 none :: lw_gd) ({ frames := 0, cells := 0, slots := 0, locals := 0 }) (gPre D [(cB, .byte), (cC, .char), (cI, .int), (cJ, .long)] [.ref a0, .int x0] [(a0, .inr (9, [.ref a1, .int 12])), (a1, .inl (cB, 1600, .inl f0))] sz) (va_Qv (fun _ => True) (gB D (va_A [(a0, .inr (9, [.ref a1, .int 12])), (a1, .inl (cB, 1600, .inl f0))] sz) (fun u : gEx => [(a0, .inr (9, [.ref a1, .int 16])), (a1, .inl (cB, 1600, .inl (u.2.1 0)))])) (va_A [(a0, .inr (9, [.ref a1, .int 12])), (a1, .inl (cB, 1600, .inl f0))] sz)) 0 0 (va_A [(a0, .inr (9, [.ref a1, .int 12])), (a1, .inl (cB, 1600, .inl f0))] sz) := by
  refine Met.ofW (cc := cX9_addNumber) (maxL := 3) (ret := none) (by decide) rfl ?_
  intro p e s m args below meth c s₁ B hml hv
  obtain ⟨rfl, hsz, hP, hK, hD0, hN⟩ := hv
  have hx := B.exec
  have hb := B.bytes
  have hr := B.returns
  have hts : ∀ w ∈ lw_gd, w.before _ s = true := fun w h => atoms_spec (ws := .code yX9_addNumber cX9_addNumber 3 none :: lw_gd) B.pre w (List.mem_cons_of_mem _ h)
  have hown : s.vm.findClass RX9 = some m.cls := findClass_of_methodNamed B.named
  have hlocks := B.notSynchronized
  subst hsz
  have hD := hD0.self (sz := s.heap.size)
  generalize hAe : va_A [(a0, .inr (9, [.ref a1, .int 12])), (a1, .inl (cB, 1600, .inl f0))] s.heap.size = A at hD ⊢
  have hA : ∀ q : Nat, s.heap.size ≤ q → A q := fun q h => by rw [← hAe]; exact Or.inr h
  have hS : va_S A s.heap s.heap [] := va_S.rf
  have hP : va_P D gcl [(a0, .inr (9, [.ref a1, .int 12])), (a1, .inl (cB, 1600, .inl f0))] s.heap := hP
  have hl := lv_entry ([.ref a0, .int x0]) (n := 3) (Nat.le_of_ble_eq_true rfl)
  rw [lg_entry_eq]
  generalize (lg_sl ([.ref a0, .int x0]) ++ List.replicate (3 - (lg_sl ([.ref a0, .int x0])).length) Slot.unset).toArray = ls at hl ⊢
  have hl : lv_has ls 3 [(0, .ref a0), (1, .int x0)] := hl
  refine lv_bipush (pc := 0) (v := 24) hx hb dX9_addNumber_0 (by decide) ?_
  refine lv_istore_n (pc := 2) (lv' := [(2, .int 24), (0, .ref a0), (1, .int x0)]) hx hb dX9_addNumber_2 rfl hl (by decide) rfl (fun ls hl => ?_)
  refine lv_iload_n (pc := 3) hx hb dX9_addNumber_3 rfl (lv_at hl 0 rfl) ?_
  refine lv_if_lt (pc := 4) (tgt := 46) hx hb dX9_addNumber_4 (by decide) (fun c => absurd c (by decide +kernel)) (fun _ => ?_)
  refine lv_aload_n (pc := 7) hx hb dX9_addNumber_7 rfl (lv_at hl 1 rfl) ?_
  refine va_get (pc := 8) (ci := 9) (v := .int 12) (C := RX9) (T := TX9) (N := 2) hx hb hts iX9 hown hK hP 0 rfl rfl 1 (by decide) (hts _ tw_43) (fun _ h9 => h9) rfl dX9_addNumber_8 ?_
  refine lv_sipush (pc := 11) (v := 1600) hx hb dX9_addNumber_11 (by decide) ?_
  refine lv_icmp_ge (pc := 14) (tgt := 46) hx hb dX9_addNumber_14 (by decide) (fun c => absurd c (by decide +kernel)) (fun _ => ?_)
  refine lv_aload_n (pc := 17) hx hb dX9_addNumber_17 rfl (lv_at hl 1 rfl) ?_
  refine va_get (pc := 18) (ci := 9) (v := .ref a1) (C := RX9) (T := TX9) (N := 2) hx hb hts iX9 hown hK hP 0 rfl rfl 0 (by decide) (hts _ tw_42) (fun _ h9 => h9) rfl dX9_addNumber_18 ?_
  refine lv_aload_n (pc := 21) hx hb dX9_addNumber_21 rfl (lv_at hl 1 rfl) ?_
  refine va_get (pc := 22) (ci := 9) (v := .int 12) (C := RX9) (T := TX9) (N := 2) hx hb hts iX9 hown hK hP 0 rfl rfl 1 (by decide) (hts _ tw_43) (fun _ h9 => h9) rfl dX9_addNumber_22 ?_
  refine lv_iload_n (pc := 25) hx hb dX9_addNumber_25 rfl (lv_at hl 2 rfl) ?_
  refine lv_iload_n (pc := 26) hx hb dX9_addNumber_26 rfl (lv_at hl 0 rfl) ?_
  refine lv_ishr (pc := 27) hx hb dX9_addNumber_27 ?_
  refine lv_topi (fun x_1 ex_1 => ?_)
  refine lv_i2b (pc := 28) hx hb dX9_addNumber_28 rfl ?_
  refine lv_topi (fun x_2 ex_2 => ?_)
  refine g_bastore (pc := 29) hx hb hK hP hD hS 1 0 rfl rfl (gin rfl) dX9_addNumber_29 (fun f_3 H locs hP hD hS => ?_)
  have hP : va_P D gcl [(a0, .inr (9, [.ref a1, .int 12])), (a1, .inl (cB, 1600, .inl f_3))] H := hP
  have hD : va_D A [(a0, .inr (9, [.ref a1, .int 12])), (a1, .inl (cB, 1600, .inl f_3))] := hD
  refine lv_aload_n (pc := 30) hx hb dX9_addNumber_30 rfl (lv_at hl 1 rfl) ?_
  refine lv_dup (pc := 31) hx hb dX9_addNumber_31 rfl ?_
  refine va_get (pc := 32) (ci := 9) (v := .int 12) (C := RX9) (T := TX9) (N := 2) hx hb hts iX9 hown hK hP 0 rfl rfl 1 (by decide) (hts _ tw_43) (fun _ h9 => h9) rfl dX9_addNumber_32 ?_
  refine lv_iconst (pc := 35) (v := 1) hx hb dX9_addNumber_35 (by decide) ?_
  refine lv_iadd (pc := 36) hx hb dX9_addNumber_36 ?_
  refine gI (y := 13) (by decide +kernel) ?_
  refine va_put (pc := 37) (ci := 9) (v := .int 13) (ty := .int) (C := RX9) (T := TX9) (N := 2) hx hb hts iX9 tyX9 tyX9_ok nmX9 hown hK hP hD hS 0 rfl rfl 1 (by decide) (hts _ tw_43) (fun _ h9 => h9) rfl (by decide +kernel) (by decide +kernel) (by decide +kernel) (Nat.le_of_ble_eq_true rfl) dX9_addNumber_37 (fun H locs hP hD hS => ?_)
  have hP : va_P D gcl [(a0, .inr (9, [.ref a1, .int 13])), (a1, .inl (cB, 1600, .inl f_3))] H := hP
  have hD : va_D A [(a0, .inr (9, [.ref a1, .int 13])), (a1, .inl (cB, 1600, .inl f_3))] := hD
  refine lv_iinc (pc := 40) (v := 16) (lv' := [(2, .int 16), (0, .ref a0), (1, .int x0)]) hx hb dX9_addNumber_40 hl (k := 0) rfl (by decide +kernel) (by decide) rfl (fun ls hl => ?_)
  refine lv_goto (pc := 43) (tgt := 3) hx hb dX9_addNumber_43 (by decide) ?_
  refine lv_iload_n (pc := 3) hx hb dX9_addNumber_3 rfl (lv_at hl 0 rfl) ?_
  refine lv_if_lt (pc := 4) (tgt := 46) hx hb dX9_addNumber_4 (by decide) (fun c => absurd c (by decide +kernel)) (fun _ => ?_)
  refine lv_aload_n (pc := 7) hx hb dX9_addNumber_7 rfl (lv_at hl 1 rfl) ?_
  refine va_get (pc := 8) (ci := 9) (v := .int 13) (C := RX9) (T := TX9) (N := 2) hx hb hts iX9 hown hK hP 0 rfl rfl 1 (by decide) (hts _ tw_43) (fun _ h9 => h9) rfl dX9_addNumber_8 ?_
  refine lv_sipush (pc := 11) (v := 1600) hx hb dX9_addNumber_11 (by decide) ?_
  refine lv_icmp_ge (pc := 14) (tgt := 46) hx hb dX9_addNumber_14 (by decide) (fun c => absurd c (by decide +kernel)) (fun _ => ?_)
  refine lv_aload_n (pc := 17) hx hb dX9_addNumber_17 rfl (lv_at hl 1 rfl) ?_
  refine va_get (pc := 18) (ci := 9) (v := .ref a1) (C := RX9) (T := TX9) (N := 2) hx hb hts iX9 hown hK hP 0 rfl rfl 0 (by decide) (hts _ tw_42) (fun _ h9 => h9) rfl dX9_addNumber_18 ?_
  refine lv_aload_n (pc := 21) hx hb dX9_addNumber_21 rfl (lv_at hl 1 rfl) ?_
  refine va_get (pc := 22) (ci := 9) (v := .int 13) (C := RX9) (T := TX9) (N := 2) hx hb hts iX9 hown hK hP 0 rfl rfl 1 (by decide) (hts _ tw_43) (fun _ h9 => h9) rfl dX9_addNumber_22 ?_
  refine lv_iload_n (pc := 25) hx hb dX9_addNumber_25 rfl (lv_at hl 2 rfl) ?_
  refine lv_iload_n (pc := 26) hx hb dX9_addNumber_26 rfl (lv_at hl 0 rfl) ?_
  refine lv_ishr (pc := 27) hx hb dX9_addNumber_27 ?_
  refine lv_topi (fun x_4 ex_4 => ?_)
  refine lv_i2b (pc := 28) hx hb dX9_addNumber_28 rfl ?_
  refine lv_topi (fun x_5 ex_5 => ?_)
  refine g_bastore (pc := 29) hx hb hK hP hD hS 1 0 rfl rfl (gin rfl) dX9_addNumber_29 (fun f_6 H locs hP hD hS => ?_)
  have hP : va_P D gcl [(a0, .inr (9, [.ref a1, .int 13])), (a1, .inl (cB, 1600, .inl f_6))] H := hP
  have hD : va_D A [(a0, .inr (9, [.ref a1, .int 13])), (a1, .inl (cB, 1600, .inl f_6))] := hD
  refine lv_aload_n (pc := 30) hx hb dX9_addNumber_30 rfl (lv_at hl 1 rfl) ?_
  refine lv_dup (pc := 31) hx hb dX9_addNumber_31 rfl ?_
  refine va_get (pc := 32) (ci := 9) (v := .int 13) (C := RX9) (T := TX9) (N := 2) hx hb hts iX9 hown hK hP 0 rfl rfl 1 (by decide) (hts _ tw_43) (fun _ h9 => h9) rfl dX9_addNumber_32 ?_
  refine lv_iconst (pc := 35) (v := 1) hx hb dX9_addNumber_35 (by decide) ?_
  refine lv_iadd (pc := 36) hx hb dX9_addNumber_36 ?_
  refine gI (y := 14) (by decide +kernel) ?_
  refine va_put (pc := 37) (ci := 9) (v := .int 14) (ty := .int) (C := RX9) (T := TX9) (N := 2) hx hb hts iX9 tyX9 tyX9_ok nmX9 hown hK hP hD hS 0 rfl rfl 1 (by decide) (hts _ tw_43) (fun _ h9 => h9) rfl (by decide +kernel) (by decide +kernel) (by decide +kernel) (Nat.le_of_ble_eq_true rfl) dX9_addNumber_37 (fun H locs hP hD hS => ?_)
  have hP : va_P D gcl [(a0, .inr (9, [.ref a1, .int 14])), (a1, .inl (cB, 1600, .inl f_6))] H := hP
  have hD : va_D A [(a0, .inr (9, [.ref a1, .int 14])), (a1, .inl (cB, 1600, .inl f_6))] := hD
  refine lv_iinc (pc := 40) (v := 8) (lv' := [(2, .int 8), (0, .ref a0), (1, .int x0)]) hx hb dX9_addNumber_40 hl (k := 0) rfl (by decide +kernel) (by decide) rfl (fun ls hl => ?_)
  refine lv_goto (pc := 43) (tgt := 3) hx hb dX9_addNumber_43 (by decide) ?_
  refine lv_iload_n (pc := 3) hx hb dX9_addNumber_3 rfl (lv_at hl 0 rfl) ?_
  refine lv_if_lt (pc := 4) (tgt := 46) hx hb dX9_addNumber_4 (by decide) (fun c => absurd c (by decide +kernel)) (fun _ => ?_)
  refine lv_aload_n (pc := 7) hx hb dX9_addNumber_7 rfl (lv_at hl 1 rfl) ?_
  refine va_get (pc := 8) (ci := 9) (v := .int 14) (C := RX9) (T := TX9) (N := 2) hx hb hts iX9 hown hK hP 0 rfl rfl 1 (by decide) (hts _ tw_43) (fun _ h9 => h9) rfl dX9_addNumber_8 ?_
  refine lv_sipush (pc := 11) (v := 1600) hx hb dX9_addNumber_11 (by decide) ?_
  refine lv_icmp_ge (pc := 14) (tgt := 46) hx hb dX9_addNumber_14 (by decide) (fun c => absurd c (by decide +kernel)) (fun _ => ?_)
  refine lv_aload_n (pc := 17) hx hb dX9_addNumber_17 rfl (lv_at hl 1 rfl) ?_
  refine va_get (pc := 18) (ci := 9) (v := .ref a1) (C := RX9) (T := TX9) (N := 2) hx hb hts iX9 hown hK hP 0 rfl rfl 0 (by decide) (hts _ tw_42) (fun _ h9 => h9) rfl dX9_addNumber_18 ?_
  refine lv_aload_n (pc := 21) hx hb dX9_addNumber_21 rfl (lv_at hl 1 rfl) ?_
  refine va_get (pc := 22) (ci := 9) (v := .int 14) (C := RX9) (T := TX9) (N := 2) hx hb hts iX9 hown hK hP 0 rfl rfl 1 (by decide) (hts _ tw_43) (fun _ h9 => h9) rfl dX9_addNumber_22 ?_
  refine lv_iload_n (pc := 25) hx hb dX9_addNumber_25 rfl (lv_at hl 2 rfl) ?_
  refine lv_iload_n (pc := 26) hx hb dX9_addNumber_26 rfl (lv_at hl 0 rfl) ?_
  refine lv_ishr (pc := 27) hx hb dX9_addNumber_27 ?_
  refine lv_topi (fun x_7 ex_7 => ?_)
  refine lv_i2b (pc := 28) hx hb dX9_addNumber_28 rfl ?_
  refine lv_topi (fun x_8 ex_8 => ?_)
  refine g_bastore (pc := 29) hx hb hK hP hD hS 1 0 rfl rfl (gin rfl) dX9_addNumber_29 (fun f_9 H locs hP hD hS => ?_)
  have hP : va_P D gcl [(a0, .inr (9, [.ref a1, .int 14])), (a1, .inl (cB, 1600, .inl f_9))] H := hP
  have hD : va_D A [(a0, .inr (9, [.ref a1, .int 14])), (a1, .inl (cB, 1600, .inl f_9))] := hD
  refine lv_aload_n (pc := 30) hx hb dX9_addNumber_30 rfl (lv_at hl 1 rfl) ?_
  refine lv_dup (pc := 31) hx hb dX9_addNumber_31 rfl ?_
  refine va_get (pc := 32) (ci := 9) (v := .int 14) (C := RX9) (T := TX9) (N := 2) hx hb hts iX9 hown hK hP 0 rfl rfl 1 (by decide) (hts _ tw_43) (fun _ h9 => h9) rfl dX9_addNumber_32 ?_
  refine lv_iconst (pc := 35) (v := 1) hx hb dX9_addNumber_35 (by decide) ?_
  refine lv_iadd (pc := 36) hx hb dX9_addNumber_36 ?_
  refine gI (y := 15) (by decide +kernel) ?_
  refine va_put (pc := 37) (ci := 9) (v := .int 15) (ty := .int) (C := RX9) (T := TX9) (N := 2) hx hb hts iX9 tyX9 tyX9_ok nmX9 hown hK hP hD hS 0 rfl rfl 1 (by decide) (hts _ tw_43) (fun _ h9 => h9) rfl (by decide +kernel) (by decide +kernel) (by decide +kernel) (Nat.le_of_ble_eq_true rfl) dX9_addNumber_37 (fun H locs hP hD hS => ?_)
  have hP : va_P D gcl [(a0, .inr (9, [.ref a1, .int 15])), (a1, .inl (cB, 1600, .inl f_9))] H := hP
  have hD : va_D A [(a0, .inr (9, [.ref a1, .int 15])), (a1, .inl (cB, 1600, .inl f_9))] := hD
  refine lv_iinc (pc := 40) (v := 0) (lv' := [(2, .int 0), (0, .ref a0), (1, .int x0)]) hx hb dX9_addNumber_40 hl (k := 0) rfl (by decide +kernel) (by decide) rfl (fun ls hl => ?_)
  refine lv_goto (pc := 43) (tgt := 3) hx hb dX9_addNumber_43 (by decide) ?_
  refine lv_iload_n (pc := 3) hx hb dX9_addNumber_3 rfl (lv_at hl 0 rfl) ?_
  refine lv_if_lt (pc := 4) (tgt := 46) hx hb dX9_addNumber_4 (by decide) (fun c => absurd c (by decide +kernel)) (fun _ => ?_)
  refine lv_aload_n (pc := 7) hx hb dX9_addNumber_7 rfl (lv_at hl 1 rfl) ?_
  refine va_get (pc := 8) (ci := 9) (v := .int 15) (C := RX9) (T := TX9) (N := 2) hx hb hts iX9 hown hK hP 0 rfl rfl 1 (by decide) (hts _ tw_43) (fun _ h9 => h9) rfl dX9_addNumber_8 ?_
  refine lv_sipush (pc := 11) (v := 1600) hx hb dX9_addNumber_11 (by decide) ?_
  refine lv_icmp_ge (pc := 14) (tgt := 46) hx hb dX9_addNumber_14 (by decide) (fun c => absurd c (by decide +kernel)) (fun _ => ?_)
  refine lv_aload_n (pc := 17) hx hb dX9_addNumber_17 rfl (lv_at hl 1 rfl) ?_
  refine va_get (pc := 18) (ci := 9) (v := .ref a1) (C := RX9) (T := TX9) (N := 2) hx hb hts iX9 hown hK hP 0 rfl rfl 0 (by decide) (hts _ tw_42) (fun _ h9 => h9) rfl dX9_addNumber_18 ?_
  refine lv_aload_n (pc := 21) hx hb dX9_addNumber_21 rfl (lv_at hl 1 rfl) ?_
  refine va_get (pc := 22) (ci := 9) (v := .int 15) (C := RX9) (T := TX9) (N := 2) hx hb hts iX9 hown hK hP 0 rfl rfl 1 (by decide) (hts _ tw_43) (fun _ h9 => h9) rfl dX9_addNumber_22 ?_
  refine lv_iload_n (pc := 25) hx hb dX9_addNumber_25 rfl (lv_at hl 2 rfl) ?_
  refine lv_iload_n (pc := 26) hx hb dX9_addNumber_26 rfl (lv_at hl 0 rfl) ?_
  refine lv_ishr (pc := 27) hx hb dX9_addNumber_27 ?_
  refine lv_topi (fun x_10 ex_10 => ?_)
  refine lv_i2b (pc := 28) hx hb dX9_addNumber_28 rfl ?_
  refine lv_topi (fun x_11 ex_11 => ?_)
  refine g_bastore (pc := 29) hx hb hK hP hD hS 1 0 rfl rfl (gin rfl) dX9_addNumber_29 (fun f_12 H locs hP hD hS => ?_)
  have hP : va_P D gcl [(a0, .inr (9, [.ref a1, .int 15])), (a1, .inl (cB, 1600, .inl f_12))] H := hP
  have hD : va_D A [(a0, .inr (9, [.ref a1, .int 15])), (a1, .inl (cB, 1600, .inl f_12))] := hD
  refine lv_aload_n (pc := 30) hx hb dX9_addNumber_30 rfl (lv_at hl 1 rfl) ?_
  refine lv_dup (pc := 31) hx hb dX9_addNumber_31 rfl ?_
  refine va_get (pc := 32) (ci := 9) (v := .int 15) (C := RX9) (T := TX9) (N := 2) hx hb hts iX9 hown hK hP 0 rfl rfl 1 (by decide) (hts _ tw_43) (fun _ h9 => h9) rfl dX9_addNumber_32 ?_
  refine lv_iconst (pc := 35) (v := 1) hx hb dX9_addNumber_35 (by decide) ?_
  refine lv_iadd (pc := 36) hx hb dX9_addNumber_36 ?_
  refine gI (y := 16) (by decide +kernel) ?_
  refine va_put (pc := 37) (ci := 9) (v := .int 16) (ty := .int) (C := RX9) (T := TX9) (N := 2) hx hb hts iX9 tyX9 tyX9_ok nmX9 hown hK hP hD hS 0 rfl rfl 1 (by decide) (hts _ tw_43) (fun _ h9 => h9) rfl (by decide +kernel) (by decide +kernel) (by decide +kernel) (Nat.le_of_ble_eq_true rfl) dX9_addNumber_37 (fun H locs hP hD hS => ?_)
  have hP : va_P D gcl [(a0, .inr (9, [.ref a1, .int 16])), (a1, .inl (cB, 1600, .inl f_12))] H := hP
  have hD : va_D A [(a0, .inr (9, [.ref a1, .int 16])), (a1, .inl (cB, 1600, .inl f_12))] := hD
  refine lv_iinc (pc := 40) (v := (-8)) (lv' := [(2, .int (-8)), (0, .ref a0), (1, .int x0)]) hx hb dX9_addNumber_40 hl (k := 0) rfl (by decide +kernel) (by decide) rfl (fun ls hl => ?_)
  refine lv_goto (pc := 43) (tgt := 3) hx hb dX9_addNumber_43 (by decide) ?_
  refine lv_iload_n (pc := 3) hx hb dX9_addNumber_3 rfl (lv_at hl 0 rfl) ?_
  refine lv_if_lt (pc := 4) (tgt := 46) hx hb dX9_addNumber_4 (by decide) (fun _ => ?_) (fun c => absurd (by decide +kernel) c)
  have hP9 := hP.sub (ws' := [(a0, .inr (9, [.ref a1, .int 16])), (a1, .inl (cB, 1600, .inl f_12))]) [0, 1] rfl
  have hD9 := hD.sub (ws' := [(a0, .inr (9, [.ref a1, .int 16])), (a1, .inl (cB, 1600, .inl f_12))]) [0, 1] (by decide) rfl
  refine W.widen (k := 0) (n := 0) (Nat.le_of_ble_eq_true rfl) (Nat.le_of_ble_eq_true rfl) ?_
  exact W.vret hx hb hr (fun t ht hW => ⟨⟨((fun _ => 0), (fun k => [f_12].getD k (fun _ => 0)), (fun _ => (fun _ => 0)), (fun _ => 0), (fun _ => 0)), rfl, trivial, by rw [ht]; exact hP9, hD9⟩, hS.F ht⟩) hS.2.2 dX9_addNumber_46
set_option maxHeartbeats 4000000 in
set_option maxRecDepth 100000 in
theorem cc_20_yX9_addNumber (l : Launch) (D : va_G) (cB cC cI cJ : ClassId) (sz : Nat) (a0 a1 : Nat) (x0 : Int32) (f0 : Nat → Int32) : Met l yX9_addNumber (.code yX9_addNumber cX9_addNumber 3 none :: lw_gd) ({ frames := 0, cells := 0, slots := 0, locals := 0 }) (gPre D [(cB, .byte), (cC, .char), (cI, .int), (cJ, .long)] [.ref a0, .int x0] [(a0, .inr (9, [.ref a1, .int 16])), (a1, .inl (cB, 1600, .inl f0))] sz) (va_Qv (fun _ => True) (gB D (va_A [(a0, .inr (9, [.ref a1, .int 16])), (a1, .inl (cB, 1600, .inl f0))] sz) (fun u : gEx => [(a0, .inr (9, [.ref a1, .int 20])), (a1, .inl (cB, 1600, .inl (u.2.1 0)))])) (va_A [(a0, .inr (9, [.ref a1, .int 16])), (a1, .inl (cB, 1600, .inl f0))] sz)) 0 0 (va_A [(a0, .inr (9, [.ref a1, .int 16])), (a1, .inl (cB, 1600, .inl f0))] sz) := by
  refine Met.ofW (cc := cX9_addNumber) (maxL := 3) (ret := none) (by decide) rfl ?_
  intro p e s m args below meth c s₁ B hml hv
  obtain ⟨rfl, hsz, hP, hK, hD0, hN⟩ := hv
  have hx := B.exec
  have hb := B.bytes
  have hr := B.returns
  have hts : ∀ w ∈ lw_gd, w.before _ s = true := fun w h => atoms_spec (ws := .code yX9_addNumber cX9_addNumber 3 none :: lw_gd) B.pre w (List.mem_cons_of_mem _ h)
  have hown : s.vm.findClass RX9 = some m.cls := findClass_of_methodNamed B.named
  have hlocks := B.notSynchronized
  subst hsz
  have hD := hD0.self (sz := s.heap.size)
  generalize hAe : va_A [(a0, .inr (9, [.ref a1, .int 16])), (a1, .inl (cB, 1600, .inl f0))] s.heap.size = A at hD ⊢
  have hA : ∀ q : Nat, s.heap.size ≤ q → A q := fun q h => by rw [← hAe]; exact Or.inr h
  have hS : va_S A s.heap s.heap [] := va_S.rf
  have hP : va_P D gcl [(a0, .inr (9, [.ref a1, .int 16])), (a1, .inl (cB, 1600, .inl f0))] s.heap := hP
  have hl := lv_entry ([.ref a0, .int x0]) (n := 3) (Nat.le_of_ble_eq_true rfl)
  rw [lg_entry_eq]
  generalize (lg_sl ([.ref a0, .int x0]) ++ List.replicate (3 - (lg_sl ([.ref a0, .int x0])).length) Slot.unset).toArray = ls at hl ⊢
  have hl : lv_has ls 3 [(0, .ref a0), (1, .int x0)] := hl
  refine lv_bipush (pc := 0) (v := 24) hx hb dX9_addNumber_0 (by decide) ?_
  refine lv_istore_n (pc := 2) (lv' := [(2, .int 24), (0, .ref a0), (1, .int x0)]) hx hb dX9_addNumber_2 rfl hl (by decide) rfl (fun ls hl => ?_)
  refine lv_iload_n (pc := 3) hx hb dX9_addNumber_3 rfl (lv_at hl 0 rfl) ?_
  refine lv_if_lt (pc := 4) (tgt := 46) hx hb dX9_addNumber_4 (by decide) (fun c => absurd c (by decide +kernel)) (fun _ => ?_)
  refine lv_aload_n (pc := 7) hx hb dX9_addNumber_7 rfl (lv_at hl 1 rfl) ?_
  refine va_get (pc := 8) (ci := 9) (v := .int 16) (C := RX9) (T := TX9) (N := 2) hx hb hts iX9 hown hK hP 0 rfl rfl 1 (by decide) (hts _ tw_43) (fun _ h9 => h9) rfl dX9_addNumber_8 ?_
  refine lv_sipush (pc := 11) (v := 1600) hx hb dX9_addNumber_11 (by decide) ?_
  refine lv_icmp_ge (pc := 14) (tgt := 46) hx hb dX9_addNumber_14 (by decide) (fun c => absurd c (by decide +kernel)) (fun _ => ?_)
  refine lv_aload_n (pc := 17) hx hb dX9_addNumber_17 rfl (lv_at hl 1 rfl) ?_
  refine va_get (pc := 18) (ci := 9) (v := .ref a1) (C := RX9) (T := TX9) (N := 2) hx hb hts iX9 hown hK hP 0 rfl rfl 0 (by decide) (hts _ tw_42) (fun _ h9 => h9) rfl dX9_addNumber_18 ?_
  refine lv_aload_n (pc := 21) hx hb dX9_addNumber_21 rfl (lv_at hl 1 rfl) ?_
  refine va_get (pc := 22) (ci := 9) (v := .int 16) (C := RX9) (T := TX9) (N := 2) hx hb hts iX9 hown hK hP 0 rfl rfl 1 (by decide) (hts _ tw_43) (fun _ h9 => h9) rfl dX9_addNumber_22 ?_
  refine lv_iload_n (pc := 25) hx hb dX9_addNumber_25 rfl (lv_at hl 2 rfl) ?_
  refine lv_iload_n (pc := 26) hx hb dX9_addNumber_26 rfl (lv_at hl 0 rfl) ?_
  refine lv_ishr (pc := 27) hx hb dX9_addNumber_27 ?_
  refine lv_topi (fun x_1 ex_1 => ?_)
  refine lv_i2b (pc := 28) hx hb dX9_addNumber_28 rfl ?_
  refine lv_topi (fun x_2 ex_2 => ?_)
  refine g_bastore (pc := 29) hx hb hK hP hD hS 1 0 rfl rfl (gin rfl) dX9_addNumber_29 (fun f_3 H locs hP hD hS => ?_)
  have hP : va_P D gcl [(a0, .inr (9, [.ref a1, .int 16])), (a1, .inl (cB, 1600, .inl f_3))] H := hP
  have hD : va_D A [(a0, .inr (9, [.ref a1, .int 16])), (a1, .inl (cB, 1600, .inl f_3))] := hD
  refine lv_aload_n (pc := 30) hx hb dX9_addNumber_30 rfl (lv_at hl 1 rfl) ?_
  refine lv_dup (pc := 31) hx hb dX9_addNumber_31 rfl ?_
  refine va_get (pc := 32) (ci := 9) (v := .int 16) (C := RX9) (T := TX9) (N := 2) hx hb hts iX9 hown hK hP 0 rfl rfl 1 (by decide) (hts _ tw_43) (fun _ h9 => h9) rfl dX9_addNumber_32 ?_
  refine lv_iconst (pc := 35) (v := 1) hx hb dX9_addNumber_35 (by decide) ?_
  refine lv_iadd (pc := 36) hx hb dX9_addNumber_36 ?_
  refine gI (y := 17) (by decide +kernel) ?_
  refine va_put (pc := 37) (ci := 9) (v := .int 17) (ty := .int) (C := RX9) (T := TX9) (N := 2) hx hb hts iX9 tyX9 tyX9_ok nmX9 hown hK hP hD hS 0 rfl rfl 1 (by decide) (hts _ tw_43) (fun _ h9 => h9) rfl (by decide +kernel) (by decide +kernel) (by decide +kernel) (Nat.le_of_ble_eq_true rfl) dX9_addNumber_37 (fun H locs hP hD hS => ?_)
  have hP : va_P D gcl [(a0, .inr (9, [.ref a1, .int 17])), (a1, .inl (cB, 1600, .inl f_3))] H := hP
  have hD : va_D A [(a0, .inr (9, [.ref a1, .int 17])), (a1, .inl (cB, 1600, .inl f_3))] := hD
  refine lv_iinc (pc := 40) (v := 16) (lv' := [(2, .int 16), (0, .ref a0), (1, .int x0)]) hx hb dX9_addNumber_40 hl (k := 0) rfl (by decide +kernel) (by decide) rfl (fun ls hl => ?_)
  refine lv_goto (pc := 43) (tgt := 3) hx hb dX9_addNumber_43 (by decide) ?_
  refine lv_iload_n (pc := 3) hx hb dX9_addNumber_3 rfl (lv_at hl 0 rfl) ?_
  refine lv_if_lt (pc := 4) (tgt := 46) hx hb dX9_addNumber_4 (by decide) (fun c => absurd c (by decide +kernel)) (fun _ => ?_)
  refine lv_aload_n (pc := 7) hx hb dX9_addNumber_7 rfl (lv_at hl 1 rfl) ?_
  refine va_get (pc := 8) (ci := 9) (v := .int 17) (C := RX9) (T := TX9) (N := 2) hx hb hts iX9 hown hK hP 0 rfl rfl 1 (by decide) (hts _ tw_43) (fun _ h9 => h9) rfl dX9_addNumber_8 ?_
  refine lv_sipush (pc := 11) (v := 1600) hx hb dX9_addNumber_11 (by decide) ?_
  refine lv_icmp_ge (pc := 14) (tgt := 46) hx hb dX9_addNumber_14 (by decide) (fun c => absurd c (by decide +kernel)) (fun _ => ?_)
  refine lv_aload_n (pc := 17) hx hb dX9_addNumber_17 rfl (lv_at hl 1 rfl) ?_
  refine va_get (pc := 18) (ci := 9) (v := .ref a1) (C := RX9) (T := TX9) (N := 2) hx hb hts iX9 hown hK hP 0 rfl rfl 0 (by decide) (hts _ tw_42) (fun _ h9 => h9) rfl dX9_addNumber_18 ?_
  refine lv_aload_n (pc := 21) hx hb dX9_addNumber_21 rfl (lv_at hl 1 rfl) ?_
  refine va_get (pc := 22) (ci := 9) (v := .int 17) (C := RX9) (T := TX9) (N := 2) hx hb hts iX9 hown hK hP 0 rfl rfl 1 (by decide) (hts _ tw_43) (fun _ h9 => h9) rfl dX9_addNumber_22 ?_
  refine lv_iload_n (pc := 25) hx hb dX9_addNumber_25 rfl (lv_at hl 2 rfl) ?_
  refine lv_iload_n (pc := 26) hx hb dX9_addNumber_26 rfl (lv_at hl 0 rfl) ?_
  refine lv_ishr (pc := 27) hx hb dX9_addNumber_27 ?_
  refine lv_topi (fun x_4 ex_4 => ?_)
  refine lv_i2b (pc := 28) hx hb dX9_addNumber_28 rfl ?_
  refine lv_topi (fun x_5 ex_5 => ?_)
  refine g_bastore (pc := 29) hx hb hK hP hD hS 1 0 rfl rfl (gin rfl) dX9_addNumber_29 (fun f_6 H locs hP hD hS => ?_)
  have hP : va_P D gcl [(a0, .inr (9, [.ref a1, .int 17])), (a1, .inl (cB, 1600, .inl f_6))] H := hP
  have hD : va_D A [(a0, .inr (9, [.ref a1, .int 17])), (a1, .inl (cB, 1600, .inl f_6))] := hD
  refine lv_aload_n (pc := 30) hx hb dX9_addNumber_30 rfl (lv_at hl 1 rfl) ?_
  refine lv_dup (pc := 31) hx hb dX9_addNumber_31 rfl ?_
  refine va_get (pc := 32) (ci := 9) (v := .int 17) (C := RX9) (T := TX9) (N := 2) hx hb hts iX9 hown hK hP 0 rfl rfl 1 (by decide) (hts _ tw_43) (fun _ h9 => h9) rfl dX9_addNumber_32 ?_
  refine lv_iconst (pc := 35) (v := 1) hx hb dX9_addNumber_35 (by decide) ?_
  refine lv_iadd (pc := 36) hx hb dX9_addNumber_36 ?_
  refine gI (y := 18) (by decide +kernel) ?_
  refine va_put (pc := 37) (ci := 9) (v := .int 18) (ty := .int) (C := RX9) (T := TX9) (N := 2) hx hb hts iX9 tyX9 tyX9_ok nmX9 hown hK hP hD hS 0 rfl rfl 1 (by decide) (hts _ tw_43) (fun _ h9 => h9) rfl (by decide +kernel) (by decide +kernel) (by decide +kernel) (Nat.le_of_ble_eq_true rfl) dX9_addNumber_37 (fun H locs hP hD hS => ?_)
  have hP : va_P D gcl [(a0, .inr (9, [.ref a1, .int 18])), (a1, .inl (cB, 1600, .inl f_6))] H := hP
  have hD : va_D A [(a0, .inr (9, [.ref a1, .int 18])), (a1, .inl (cB, 1600, .inl f_6))] := hD
  refine lv_iinc (pc := 40) (v := 8) (lv' := [(2, .int 8), (0, .ref a0), (1, .int x0)]) hx hb dX9_addNumber_40 hl (k := 0) rfl (by decide +kernel) (by decide) rfl (fun ls hl => ?_)
  refine lv_goto (pc := 43) (tgt := 3) hx hb dX9_addNumber_43 (by decide) ?_
  refine lv_iload_n (pc := 3) hx hb dX9_addNumber_3 rfl (lv_at hl 0 rfl) ?_
  refine lv_if_lt (pc := 4) (tgt := 46) hx hb dX9_addNumber_4 (by decide) (fun c => absurd c (by decide +kernel)) (fun _ => ?_)
  refine lv_aload_n (pc := 7) hx hb dX9_addNumber_7 rfl (lv_at hl 1 rfl) ?_
  refine va_get (pc := 8) (ci := 9) (v := .int 18) (C := RX9) (T := TX9) (N := 2) hx hb hts iX9 hown hK hP 0 rfl rfl 1 (by decide) (hts _ tw_43) (fun _ h9 => h9) rfl dX9_addNumber_8 ?_
  refine lv_sipush (pc := 11) (v := 1600) hx hb dX9_addNumber_11 (by decide) ?_
  refine lv_icmp_ge (pc := 14) (tgt := 46) hx hb dX9_addNumber_14 (by decide) (fun c => absurd c (by decide +kernel)) (fun _ => ?_)
  refine lv_aload_n (pc := 17) hx hb dX9_addNumber_17 rfl (lv_at hl 1 rfl) ?_
  refine va_get (pc := 18) (ci := 9) (v := .ref a1) (C := RX9) (T := TX9) (N := 2) hx hb hts iX9 hown hK hP 0 rfl rfl 0 (by decide) (hts _ tw_42) (fun _ h9 => h9) rfl dX9_addNumber_18 ?_
  refine lv_aload_n (pc := 21) hx hb dX9_addNumber_21 rfl (lv_at hl 1 rfl) ?_
  refine va_get (pc := 22) (ci := 9) (v := .int 18) (C := RX9) (T := TX9) (N := 2) hx hb hts iX9 hown hK hP 0 rfl rfl 1 (by decide) (hts _ tw_43) (fun _ h9 => h9) rfl dX9_addNumber_22 ?_
  refine lv_iload_n (pc := 25) hx hb dX9_addNumber_25 rfl (lv_at hl 2 rfl) ?_
  refine lv_iload_n (pc := 26) hx hb dX9_addNumber_26 rfl (lv_at hl 0 rfl) ?_
  refine lv_ishr (pc := 27) hx hb dX9_addNumber_27 ?_
  refine lv_topi (fun x_7 ex_7 => ?_)
  refine lv_i2b (pc := 28) hx hb dX9_addNumber_28 rfl ?_
  refine lv_topi (fun x_8 ex_8 => ?_)
  refine g_bastore (pc := 29) hx hb hK hP hD hS 1 0 rfl rfl (gin rfl) dX9_addNumber_29 (fun f_9 H locs hP hD hS => ?_)
  have hP : va_P D gcl [(a0, .inr (9, [.ref a1, .int 18])), (a1, .inl (cB, 1600, .inl f_9))] H := hP
  have hD : va_D A [(a0, .inr (9, [.ref a1, .int 18])), (a1, .inl (cB, 1600, .inl f_9))] := hD
  refine lv_aload_n (pc := 30) hx hb dX9_addNumber_30 rfl (lv_at hl 1 rfl) ?_
  refine lv_dup (pc := 31) hx hb dX9_addNumber_31 rfl ?_
  refine va_get (pc := 32) (ci := 9) (v := .int 18) (C := RX9) (T := TX9) (N := 2) hx hb hts iX9 hown hK hP 0 rfl rfl 1 (by decide) (hts _ tw_43) (fun _ h9 => h9) rfl dX9_addNumber_32 ?_
  refine lv_iconst (pc := 35) (v := 1) hx hb dX9_addNumber_35 (by decide) ?_
  refine lv_iadd (pc := 36) hx hb dX9_addNumber_36 ?_
  refine gI (y := 19) (by decide +kernel) ?_
  refine va_put (pc := 37) (ci := 9) (v := .int 19) (ty := .int) (C := RX9) (T := TX9) (N := 2) hx hb hts iX9 tyX9 tyX9_ok nmX9 hown hK hP hD hS 0 rfl rfl 1 (by decide) (hts _ tw_43) (fun _ h9 => h9) rfl (by decide +kernel) (by decide +kernel) (by decide +kernel) (Nat.le_of_ble_eq_true rfl) dX9_addNumber_37 (fun H locs hP hD hS => ?_)
  have hP : va_P D gcl [(a0, .inr (9, [.ref a1, .int 19])), (a1, .inl (cB, 1600, .inl f_9))] H := hP
  have hD : va_D A [(a0, .inr (9, [.ref a1, .int 19])), (a1, .inl (cB, 1600, .inl f_9))] := hD
  refine lv_iinc (pc := 40) (v := 0) (lv' := [(2, .int 0), (0, .ref a0), (1, .int x0)]) hx hb dX9_addNumber_40 hl (k := 0) rfl (by decide +kernel) (by decide) rfl (fun ls hl => ?_)
  refine lv_goto (pc := 43) (tgt := 3) hx hb dX9_addNumber_43 (by decide) ?_
  refine lv_iload_n (pc := 3) hx hb dX9_addNumber_3 rfl (lv_at hl 0 rfl) ?_
  refine lv_if_lt (pc := 4) (tgt := 46) hx hb dX9_addNumber_4 (by decide) (fun c => absurd c (by decide +kernel)) (fun _ => ?_)
  refine lv_aload_n (pc := 7) hx hb dX9_addNumber_7 rfl (lv_at hl 1 rfl) ?_
  refine va_get (pc := 8) (ci := 9) (v := .int 19) (C := RX9) (T := TX9) (N := 2) hx hb hts iX9 hown hK hP 0 rfl rfl 1 (by decide) (hts _ tw_43) (fun _ h9 => h9) rfl dX9_addNumber_8 ?_
  refine lv_sipush (pc := 11) (v := 1600) hx hb dX9_addNumber_11 (by decide) ?_
  refine lv_icmp_ge (pc := 14) (tgt := 46) hx hb dX9_addNumber_14 (by decide) (fun c => absurd c (by decide +kernel)) (fun _ => ?_)
  refine lv_aload_n (pc := 17) hx hb dX9_addNumber_17 rfl (lv_at hl 1 rfl) ?_
  refine va_get (pc := 18) (ci := 9) (v := .ref a1) (C := RX9) (T := TX9) (N := 2) hx hb hts iX9 hown hK hP 0 rfl rfl 0 (by decide) (hts _ tw_42) (fun _ h9 => h9) rfl dX9_addNumber_18 ?_
  refine lv_aload_n (pc := 21) hx hb dX9_addNumber_21 rfl (lv_at hl 1 rfl) ?_
  refine va_get (pc := 22) (ci := 9) (v := .int 19) (C := RX9) (T := TX9) (N := 2) hx hb hts iX9 hown hK hP 0 rfl rfl 1 (by decide) (hts _ tw_43) (fun _ h9 => h9) rfl dX9_addNumber_22 ?_
  refine lv_iload_n (pc := 25) hx hb dX9_addNumber_25 rfl (lv_at hl 2 rfl) ?_
  refine lv_iload_n (pc := 26) hx hb dX9_addNumber_26 rfl (lv_at hl 0 rfl) ?_
  refine lv_ishr (pc := 27) hx hb dX9_addNumber_27 ?_
  refine lv_topi (fun x_10 ex_10 => ?_)
  refine lv_i2b (pc := 28) hx hb dX9_addNumber_28 rfl ?_
  refine lv_topi (fun x_11 ex_11 => ?_)
  refine g_bastore (pc := 29) hx hb hK hP hD hS 1 0 rfl rfl (gin rfl) dX9_addNumber_29 (fun f_12 H locs hP hD hS => ?_)
  have hP : va_P D gcl [(a0, .inr (9, [.ref a1, .int 19])), (a1, .inl (cB, 1600, .inl f_12))] H := hP
  have hD : va_D A [(a0, .inr (9, [.ref a1, .int 19])), (a1, .inl (cB, 1600, .inl f_12))] := hD
  refine lv_aload_n (pc := 30) hx hb dX9_addNumber_30 rfl (lv_at hl 1 rfl) ?_
  refine lv_dup (pc := 31) hx hb dX9_addNumber_31 rfl ?_
  refine va_get (pc := 32) (ci := 9) (v := .int 19) (C := RX9) (T := TX9) (N := 2) hx hb hts iX9 hown hK hP 0 rfl rfl 1 (by decide) (hts _ tw_43) (fun _ h9 => h9) rfl dX9_addNumber_32 ?_
  refine lv_iconst (pc := 35) (v := 1) hx hb dX9_addNumber_35 (by decide) ?_
  refine lv_iadd (pc := 36) hx hb dX9_addNumber_36 ?_
  refine gI (y := 20) (by decide +kernel) ?_
  refine va_put (pc := 37) (ci := 9) (v := .int 20) (ty := .int) (C := RX9) (T := TX9) (N := 2) hx hb hts iX9 tyX9 tyX9_ok nmX9 hown hK hP hD hS 0 rfl rfl 1 (by decide) (hts _ tw_43) (fun _ h9 => h9) rfl (by decide +kernel) (by decide +kernel) (by decide +kernel) (Nat.le_of_ble_eq_true rfl) dX9_addNumber_37 (fun H locs hP hD hS => ?_)
  have hP : va_P D gcl [(a0, .inr (9, [.ref a1, .int 20])), (a1, .inl (cB, 1600, .inl f_12))] H := hP
  have hD : va_D A [(a0, .inr (9, [.ref a1, .int 20])), (a1, .inl (cB, 1600, .inl f_12))] := hD
  refine lv_iinc (pc := 40) (v := (-8)) (lv' := [(2, .int (-8)), (0, .ref a0), (1, .int x0)]) hx hb dX9_addNumber_40 hl (k := 0) rfl (by decide +kernel) (by decide) rfl (fun ls hl => ?_)
  refine lv_goto (pc := 43) (tgt := 3) hx hb dX9_addNumber_43 (by decide) ?_
  refine lv_iload_n (pc := 3) hx hb dX9_addNumber_3 rfl (lv_at hl 0 rfl) ?_
  refine lv_if_lt (pc := 4) (tgt := 46) hx hb dX9_addNumber_4 (by decide) (fun _ => ?_) (fun c => absurd (by decide +kernel) c)
  have hP9 := hP.sub (ws' := [(a0, .inr (9, [.ref a1, .int 20])), (a1, .inl (cB, 1600, .inl f_12))]) [0, 1] rfl
  have hD9 := hD.sub (ws' := [(a0, .inr (9, [.ref a1, .int 20])), (a1, .inl (cB, 1600, .inl f_12))]) [0, 1] (by decide) rfl
  refine W.widen (k := 0) (n := 0) (Nat.le_of_ble_eq_true rfl) (Nat.le_of_ble_eq_true rfl) ?_
  exact W.vret hx hb hr (fun t ht hW => ⟨⟨((fun _ => 0), (fun k => [f_12].getD k (fun _ => 0)), (fun _ => (fun _ => 0)), (fun _ => 0), (fun _ => 0)), rfl, trivial, by rw [ht]; exact hP9, hD9⟩, hS.F ht⟩) hS.2.2 dX9_addNumber_46
set_option maxHeartbeats 4000000 in
set_option maxRecDepth 100000 in
theorem cc_21_yX9_length (l : Launch) (D : va_G) (cB cC cI cJ : ClassId) (sz : Nat) (a0 a1 : Nat) : Met l yX9_length (.code yX9_length cX9_length 1 (some .int) :: lw_gd) ({ frames := 0, cells := 0, slots := 0, locals := 0 }) (gPre D [(cB, .byte), (cC, .char), (cI, .int), (cJ, .long)] [.ref a0] [(a0, .inr (9, [.ref a1, .int 20]))] sz) (va_Qi (fun r _ => r = 20) (gB D (va_A [(a0, .inr (9, [.ref a1, .int 20]))] sz) (fun u : gEx => [(a0, .inr (9, [.ref a1, .int 20]))])) (va_A [(a0, .inr (9, [.ref a1, .int 20]))] sz)) 0 0 (va_A [(a0, .inr (9, [.ref a1, .int 20]))] sz) := by
  refine Met.ofW (cc := cX9_length) (maxL := 1) (ret := (some .int)) (by decide) rfl ?_
  intro p e s m args below meth c s₁ B hml hv
  obtain ⟨rfl, hsz, hP, hK, hD0, hN⟩ := hv
  have hx := B.exec
  have hb := B.bytes
  have hr := B.returns
  have hts : ∀ w ∈ lw_gd, w.before _ s = true := fun w h => atoms_spec (ws := .code yX9_length cX9_length 1 (some .int) :: lw_gd) B.pre w (List.mem_cons_of_mem _ h)
  have hown : s.vm.findClass RX9 = some m.cls := findClass_of_methodNamed B.named
  have hlocks := B.notSynchronized
  subst hsz
  have hD := hD0.self (sz := s.heap.size)
  generalize hAe : va_A [(a0, .inr (9, [.ref a1, .int 20]))] s.heap.size = A at hD ⊢
  have hA : ∀ q : Nat, s.heap.size ≤ q → A q := fun q h => by rw [← hAe]; exact Or.inr h
  have hS : va_S A s.heap s.heap [] := va_S.rf
  have hP : va_P D gcl [(a0, .inr (9, [.ref a1, .int 20]))] s.heap := hP
  have hl := lv_entry ([.ref a0]) (n := 1) (Nat.le_of_ble_eq_true rfl)
  rw [lg_entry_eq]
  generalize (lg_sl ([.ref a0]) ++ List.replicate (1 - (lg_sl ([.ref a0])).length) Slot.unset).toArray = ls at hl ⊢
  have hl : lv_has ls 1 [(0, .ref a0)] := hl
  refine lv_aload_n (pc := 0) hx hb dX9_length_0 rfl (lv_at hl 0 rfl) ?_
  refine va_get (pc := 1) (ci := 9) (v := .int 20) (C := RX9) (T := TX9) (N := 2) hx hb hts iX9 hown hK hP 0 rfl rfl 1 (by decide) (hts _ tw_43) (fun _ h9 => h9) rfl dX9_length_1 ?_
  have hP9 := hP.sub (ws' := [(a0, .inr (9, [.ref a1, .int 20]))]) [0] rfl
  have hD9 := hD.sub (ws' := [(a0, .inr (9, [.ref a1, .int 20]))]) [0] (by decide) rfl
  refine W.widen (k := 0) (n := 0) (Nat.le_of_ble_eq_true rfl) (Nat.le_of_ble_eq_true rfl) ?_
  exact W.iret (v := 20) hx hb hr (fun t ht hW => ⟨⟨20, ((fun _ => 0), (fun _ => (fun _ => 0)), (fun _ => (fun _ => 0)), (fun _ => 0), (fun _ => 0)), rfl, rfl, by rw [ht]; exact hP9, hD9⟩, hS.F ht⟩) hS.2.2 dX9_length_4
set_option maxHeartbeats 4000000 in
set_option maxRecDepth 100000 in
theorem cc_22_yX11_feed (l : Launch) (D : va_G) (cB cC cI cJ : ClassId) (sz : Nat) (a0 a1 a2 a3 a4 a5 a6 a7 a8 a9 a10 a11 a12 a13 a14 : Nat) (x0 x1 x2 x3 x4 : Int32) : Met l yX11_feed (.code yX11_feed cX11_feed 6 (some .int) :: lw_gd) ({ frames := 1, cells := 0, slots := 0, locals := 22 }) (gPre D [(cB, .byte), (cC, .char), (cI, .int), (cJ, .long)] [.ref a0, .int x0, .int x1, .int x2, .int x3, .int x4] [(a0, .inr (11, [.ref a1, .ref a2, .ref a3, .ref a4, .ref a5, .ref a6, .ref a7, .ref a8, .ref a9, .ref a10, .int 0, .ref a11, .ref a12, .ref a13])), (a2, .inr (9, [.ref a14, .int 0])), (a14, .inl (cB, 1600, .inl (fun _ => 0)))] sz) (va_Qi (fun r _ => r = 20) (gB D (va_A [(a0, .inr (11, [.ref a1, .ref a2, .ref a3, .ref a4, .ref a5, .ref a6, .ref a7, .ref a8, .ref a9, .ref a10, .int 0, .ref a11, .ref a12, .ref a13])), (a2, .inr (9, [.ref a14, .int 0])), (a14, .inl (cB, 1600, .inl (fun _ => 0)))] sz) (fun u : gEx => [])) (va_A [(a0, .inr (11, [.ref a1, .ref a2, .ref a3, .ref a4, .ref a5, .ref a6, .ref a7, .ref a8, .ref a9, .ref a10, .int 0, .ref a11, .ref a12, .ref a13])), (a2, .inr (9, [.ref a14, .int 0])), (a14, .inl (cB, 1600, .inl (fun _ => 0)))] sz)) 0 0 (va_A [(a0, .inr (11, [.ref a1, .ref a2, .ref a3, .ref a4, .ref a5, .ref a6, .ref a7, .ref a8, .ref a9, .ref a10, .int 0, .ref a11, .ref a12, .ref a13])), (a2, .inr (9, [.ref a14, .int 0])), (a14, .inl (cB, 1600, .inl (fun _ => 0)))] sz) := by
  refine Met.ofW (cc := cX11_feed) (maxL := 6) (ret := (some .int)) (by decide) rfl ?_
  intro p e s m args below meth c s₁ B hml hv
  obtain ⟨rfl, hsz, hP, hK, hD0, hN⟩ := hv
  have hx := B.exec
  have hb := B.bytes
  have hr := B.returns
  have hts : ∀ w ∈ lw_gd, w.before _ s = true := fun w h => atoms_spec (ws := .code yX11_feed cX11_feed 6 (some .int) :: lw_gd) B.pre w (List.mem_cons_of_mem _ h)
  have hown : s.vm.findClass RX11 = some m.cls := findClass_of_methodNamed B.named
  have hlocks := B.notSynchronized
  subst hsz
  have hD := hD0.self (sz := s.heap.size)
  generalize hAe : va_A [(a0, .inr (11, [.ref a1, .ref a2, .ref a3, .ref a4, .ref a5, .ref a6, .ref a7, .ref a8, .ref a9, .ref a10, .int 0, .ref a11, .ref a12, .ref a13])), (a2, .inr (9, [.ref a14, .int 0])), (a14, .inl (cB, 1600, .inl (fun _ => 0)))] s.heap.size = A at hD ⊢
  have hA : ∀ q : Nat, s.heap.size ≤ q → A q := fun q h => by rw [← hAe]; exact Or.inr h
  have hS : va_S A s.heap s.heap [] := va_S.rf
  have hP : va_P D gcl [(a0, .inr (11, [.ref a1, .ref a2, .ref a3, .ref a4, .ref a5, .ref a6, .ref a7, .ref a8, .ref a9, .ref a10, .int 0, .ref a11, .ref a12, .ref a13])), (a2, .inr (9, [.ref a14, .int 0])), (a14, .inl (cB, 1600, .inl (fun _ => 0)))] s.heap := hP
  have hl := lv_entry ([.ref a0, .int x0, .int x1, .int x2, .int x3, .int x4]) (n := 6) (Nat.le_of_ble_eq_true rfl)
  rw [lg_entry_eq]
  generalize (lg_sl ([.ref a0, .int x0, .int x1, .int x2, .int x3, .int x4]) ++ List.replicate (6 - (lg_sl ([.ref a0, .int x0, .int x1, .int x2, .int x3, .int x4])).length) Slot.unset).toArray = ls at hl ⊢
  have hl : lv_has ls 6 [(0, .ref a0), (1, .int x0), (2, .int x1), (3, .int x2), (4, .int x3), (5, .int x4)] := hl
  refine lv_aload_n (pc := 0) hx hb dX11_feed_0 rfl (lv_at hl 0 rfl) ?_
  refine va_get (pc := 1) (ci := 11) (v := .ref a2) (C := RX11) (T := TX11) (N := 14) hx hb hts iX11 hown hK hP 0 rfl rfl 1 (by decide) (hts _ tw_421) (fun _ h9 => h9) rfl dX11_feed_1 ?_
  refine lv_bipush (pc := 4) (v := 20) hx hb dX11_feed_4 (by decide) ?_
  refine gc_i (pc := 6) (wc := [(a2, .inr (9, [.ref a14, .int 0]))]) (wr := [(a0, .inr (11, [.ref a1, .ref a2, .ref a3, .ref a4, .ref a5, .ref a6, .ref a7, .ref a8, .ref a9, .ref a10, .int 0, .ref a11, .ref a12, .ref a13])), (a14, .inl (cB, 1600, .inl (fun _ => 0)))]) hP hD hS hA [1] [0, 2] rfl rfl (by decide) (by decide) (by decide) (fun hPc hDc => va_runV (As := [.int 20]) (rest := []) ⟨hx, hb, hml, hown, hts⟩ (cc_15_yX9_hasRoom l D cB cC cI cJ _ a2 a14) ⟨gcwB hts tw_470 tw_3 tw_467 hd_yX9_hasRoom ⟨Nat.le_of_ble_eq_true rfl, Nat.le_of_ble_eq_true rfl⟩, hts _ tw_468, hts _ tw_469⟩ ⟨gblind, va_recv hK hPc (ci := 9) (q0 := 0) rfl rfl, (gpreS hPc hK hDc hN).2⟩ rfl rfl hl.1 rfl (lv_room (Nat.le_of_ble_eq_true rfl)) dX11_feed_6 ⟨Nat.le_of_ble_eq_true rfl, Nat.le_of_ble_eq_true rfl⟩) (fun r_2 u_1 H locs hw_3 hP hD hS => ?_)
  have hP : va_P D gcl [(a0, .inr (11, [.ref a1, .ref a2, .ref a3, .ref a4, .ref a5, .ref a6, .ref a7, .ref a8, .ref a9, .ref a10, .int 0, .ref a11, .ref a12, .ref a13])), (a14, .inl (cB, 1600, .inl (fun _ => 0))), (a2, .inr (9, [.ref a14, .int 0]))] H := hP
  have hD : va_D A [(a0, .inr (11, [.ref a1, .ref a2, .ref a3, .ref a4, .ref a5, .ref a6, .ref a7, .ref a8, .ref a9, .ref a10, .int 0, .ref a11, .ref a12, .ref a13])), (a14, .inl (cB, 1600, .inl (fun _ => 0))), (a2, .inr (9, [.ref a14, .int 0]))] := hD
  subst hw_3
  refine lv_if_ne (pc := 9) (tgt := 14) hx hb dX11_feed_9 (by decide) (fun _ => ?_) (fun c => absurd c (by decide +kernel))
  refine lv_aload_n (pc := 14) hx hb dX11_feed_14 rfl (lv_at hl 0 rfl) ?_
  refine va_get (pc := 15) (ci := 11) (v := .ref a2) (C := RX11) (T := TX11) (N := 14) hx hb hts iX11 hown hK hP 0 rfl rfl 1 (by decide) (hts _ tw_421) (fun _ h9 => h9) rfl dX11_feed_15 ?_
  refine lv_iload_n (pc := 18) hx hb dX11_feed_18 rfl (lv_at hl 1 rfl) ?_
  refine gc_v (pc := 19) (wc := [(a2, .inr (9, [.ref a14, .int 0])), (a14, .inl (cB, 1600, .inl (fun _ => 0)))]) (wr := [(a0, .inr (11, [.ref a1, .ref a2, .ref a3, .ref a4, .ref a5, .ref a6, .ref a7, .ref a8, .ref a9, .ref a10, .int 0, .ref a11, .ref a12, .ref a13]))]) hP hD hS hA [2, 1] [0] rfl rfl (by decide) (by decide) (by decide) (fun hPc hDc => va_runV (As := [.int x0]) (rest := []) ⟨hx, hb, hml, hown, hts⟩ (cc_16_yX9_addNumber l D cB cC cI cJ _ a2 a14 x0) ⟨gcwB hts tw_474 tw_3 tw_471 hd_yX9_addNumber ⟨Nat.le_of_ble_eq_true rfl, Nat.le_of_ble_eq_true rfl⟩, hts _ tw_472, hts _ tw_473⟩ ⟨gblind, va_recv hK hPc (ci := 9) (q0 := 0) rfl rfl, (gpreS hPc hK hDc hN).2⟩ rfl rfl hl.1 rfl (lv_room (Nat.le_of_ble_eq_true rfl)) dX11_feed_19 ⟨Nat.le_of_ble_eq_true rfl, Nat.le_of_ble_eq_true rfl⟩) (fun u_4 H locs hw_6 hP hD hS => ?_)
  have hP : va_P D gcl [(a0, .inr (11, [.ref a1, .ref a2, .ref a3, .ref a4, .ref a5, .ref a6, .ref a7, .ref a8, .ref a9, .ref a10, .int 0, .ref a11, .ref a12, .ref a13])), (a2, .inr (9, [.ref a14, .int 4])), (a14, .inl (cB, 1600, .inl (u_4.2.1 0)))] H := hP
  have hD : va_D A [(a0, .inr (11, [.ref a1, .ref a2, .ref a3, .ref a4, .ref a5, .ref a6, .ref a7, .ref a8, .ref a9, .ref a10, .int 0, .ref a11, .ref a12, .ref a13])), (a2, .inr (9, [.ref a14, .int 4])), (a14, .inl (cB, 1600, .inl (u_4.2.1 0)))] := hD
  refine lv_aload_n (pc := 22) hx hb dX11_feed_22 rfl (lv_at hl 0 rfl) ?_
  refine va_get (pc := 23) (ci := 11) (v := .ref a2) (C := RX11) (T := TX11) (N := 14) hx hb hts iX11 hown hK hP 0 rfl rfl 1 (by decide) (hts _ tw_421) (fun _ h9 => h9) rfl dX11_feed_23 ?_
  refine lv_iload_n (pc := 26) hx hb dX11_feed_26 rfl (lv_at hl 2 rfl) ?_
  refine gc_v (pc := 27) (wc := [(a2, .inr (9, [.ref a14, .int 4])), (a14, .inl (cB, 1600, .inl (u_4.2.1 0)))]) (wr := [(a0, .inr (11, [.ref a1, .ref a2, .ref a3, .ref a4, .ref a5, .ref a6, .ref a7, .ref a8, .ref a9, .ref a10, .int 0, .ref a11, .ref a12, .ref a13]))]) hP hD hS hA [1, 2] [0] rfl rfl (by decide) (by decide) (by decide) (fun hPc hDc => va_runV (As := [.int x1]) (rest := []) ⟨hx, hb, hml, hown, hts⟩ (cc_17_yX9_addNumber l D cB cC cI cJ _ a2 a14 x1 (u_4.2.1 0)) ⟨gcwB hts tw_474 tw_3 tw_471 hd_yX9_addNumber ⟨Nat.le_of_ble_eq_true rfl, Nat.le_of_ble_eq_true rfl⟩, hts _ tw_472, hts _ tw_473⟩ ⟨gblind, va_recv hK hPc (ci := 9) (q0 := 0) rfl rfl, (gpreS hPc hK hDc hN).2⟩ rfl rfl hl.1 rfl (lv_room (Nat.le_of_ble_eq_true rfl)) dX11_feed_27 ⟨Nat.le_of_ble_eq_true rfl, Nat.le_of_ble_eq_true rfl⟩) (fun u_7 H locs hw_9 hP hD hS => ?_)
  have hP : va_P D gcl [(a0, .inr (11, [.ref a1, .ref a2, .ref a3, .ref a4, .ref a5, .ref a6, .ref a7, .ref a8, .ref a9, .ref a10, .int 0, .ref a11, .ref a12, .ref a13])), (a2, .inr (9, [.ref a14, .int 8])), (a14, .inl (cB, 1600, .inl (u_7.2.1 0)))] H := hP
  have hD : va_D A [(a0, .inr (11, [.ref a1, .ref a2, .ref a3, .ref a4, .ref a5, .ref a6, .ref a7, .ref a8, .ref a9, .ref a10, .int 0, .ref a11, .ref a12, .ref a13])), (a2, .inr (9, [.ref a14, .int 8])), (a14, .inl (cB, 1600, .inl (u_7.2.1 0)))] := hD
  refine lv_aload_n (pc := 30) hx hb dX11_feed_30 rfl (lv_at hl 0 rfl) ?_
  refine va_get (pc := 31) (ci := 11) (v := .ref a2) (C := RX11) (T := TX11) (N := 14) hx hb hts iX11 hown hK hP 0 rfl rfl 1 (by decide) (hts _ tw_421) (fun _ h9 => h9) rfl dX11_feed_31 ?_
  refine lv_iload_n (pc := 34) hx hb dX11_feed_34 rfl (lv_at hl 3 rfl) ?_
  refine gc_v (pc := 35) (wc := [(a2, .inr (9, [.ref a14, .int 8])), (a14, .inl (cB, 1600, .inl (u_7.2.1 0)))]) (wr := [(a0, .inr (11, [.ref a1, .ref a2, .ref a3, .ref a4, .ref a5, .ref a6, .ref a7, .ref a8, .ref a9, .ref a10, .int 0, .ref a11, .ref a12, .ref a13]))]) hP hD hS hA [1, 2] [0] rfl rfl (by decide) (by decide) (by decide) (fun hPc hDc => va_runV (As := [.int x2]) (rest := []) ⟨hx, hb, hml, hown, hts⟩ (cc_18_yX9_addNumber l D cB cC cI cJ _ a2 a14 x2 (u_7.2.1 0)) ⟨gcwB hts tw_474 tw_3 tw_471 hd_yX9_addNumber ⟨Nat.le_of_ble_eq_true rfl, Nat.le_of_ble_eq_true rfl⟩, hts _ tw_472, hts _ tw_473⟩ ⟨gblind, va_recv hK hPc (ci := 9) (q0 := 0) rfl rfl, (gpreS hPc hK hDc hN).2⟩ rfl rfl hl.1 rfl (lv_room (Nat.le_of_ble_eq_true rfl)) dX11_feed_35 ⟨Nat.le_of_ble_eq_true rfl, Nat.le_of_ble_eq_true rfl⟩) (fun u_10 H locs hw_12 hP hD hS => ?_)
  have hP : va_P D gcl [(a0, .inr (11, [.ref a1, .ref a2, .ref a3, .ref a4, .ref a5, .ref a6, .ref a7, .ref a8, .ref a9, .ref a10, .int 0, .ref a11, .ref a12, .ref a13])), (a2, .inr (9, [.ref a14, .int 12])), (a14, .inl (cB, 1600, .inl (u_10.2.1 0)))] H := hP
  have hD : va_D A [(a0, .inr (11, [.ref a1, .ref a2, .ref a3, .ref a4, .ref a5, .ref a6, .ref a7, .ref a8, .ref a9, .ref a10, .int 0, .ref a11, .ref a12, .ref a13])), (a2, .inr (9, [.ref a14, .int 12])), (a14, .inl (cB, 1600, .inl (u_10.2.1 0)))] := hD
  refine lv_aload_n (pc := 38) hx hb dX11_feed_38 rfl (lv_at hl 0 rfl) ?_
  refine va_get (pc := 39) (ci := 11) (v := .ref a2) (C := RX11) (T := TX11) (N := 14) hx hb hts iX11 hown hK hP 0 rfl rfl 1 (by decide) (hts _ tw_421) (fun _ h9 => h9) rfl dX11_feed_39 ?_
  refine lv_iload (pc := 42) hx hb dX11_feed_42 (lv_at hl 4 rfl) ?_
  refine gc_v (pc := 44) (wc := [(a2, .inr (9, [.ref a14, .int 12])), (a14, .inl (cB, 1600, .inl (u_10.2.1 0)))]) (wr := [(a0, .inr (11, [.ref a1, .ref a2, .ref a3, .ref a4, .ref a5, .ref a6, .ref a7, .ref a8, .ref a9, .ref a10, .int 0, .ref a11, .ref a12, .ref a13]))]) hP hD hS hA [1, 2] [0] rfl rfl (by decide) (by decide) (by decide) (fun hPc hDc => va_runV (As := [.int x3]) (rest := []) ⟨hx, hb, hml, hown, hts⟩ (cc_19_yX9_addNumber l D cB cC cI cJ _ a2 a14 x3 (u_10.2.1 0)) ⟨gcwB hts tw_474 tw_3 tw_471 hd_yX9_addNumber ⟨Nat.le_of_ble_eq_true rfl, Nat.le_of_ble_eq_true rfl⟩, hts _ tw_472, hts _ tw_473⟩ ⟨gblind, va_recv hK hPc (ci := 9) (q0 := 0) rfl rfl, (gpreS hPc hK hDc hN).2⟩ rfl rfl hl.1 rfl (lv_room (Nat.le_of_ble_eq_true rfl)) dX11_feed_44 ⟨Nat.le_of_ble_eq_true rfl, Nat.le_of_ble_eq_true rfl⟩) (fun u_13 H locs hw_15 hP hD hS => ?_)
  have hP : va_P D gcl [(a0, .inr (11, [.ref a1, .ref a2, .ref a3, .ref a4, .ref a5, .ref a6, .ref a7, .ref a8, .ref a9, .ref a10, .int 0, .ref a11, .ref a12, .ref a13])), (a2, .inr (9, [.ref a14, .int 16])), (a14, .inl (cB, 1600, .inl (u_13.2.1 0)))] H := hP
  have hD : va_D A [(a0, .inr (11, [.ref a1, .ref a2, .ref a3, .ref a4, .ref a5, .ref a6, .ref a7, .ref a8, .ref a9, .ref a10, .int 0, .ref a11, .ref a12, .ref a13])), (a2, .inr (9, [.ref a14, .int 16])), (a14, .inl (cB, 1600, .inl (u_13.2.1 0)))] := hD
  refine lv_aload_n (pc := 47) hx hb dX11_feed_47 rfl (lv_at hl 0 rfl) ?_
  refine va_get (pc := 48) (ci := 11) (v := .ref a2) (C := RX11) (T := TX11) (N := 14) hx hb hts iX11 hown hK hP 0 rfl rfl 1 (by decide) (hts _ tw_421) (fun _ h9 => h9) rfl dX11_feed_48 ?_
  refine lv_iload (pc := 51) hx hb dX11_feed_51 (lv_at hl 5 rfl) ?_
  refine gc_v (pc := 53) (wc := [(a2, .inr (9, [.ref a14, .int 16])), (a14, .inl (cB, 1600, .inl (u_13.2.1 0)))]) (wr := [(a0, .inr (11, [.ref a1, .ref a2, .ref a3, .ref a4, .ref a5, .ref a6, .ref a7, .ref a8, .ref a9, .ref a10, .int 0, .ref a11, .ref a12, .ref a13]))]) hP hD hS hA [1, 2] [0] rfl rfl (by decide) (by decide) (by decide) (fun hPc hDc => va_runV (As := [.int x4]) (rest := []) ⟨hx, hb, hml, hown, hts⟩ (cc_20_yX9_addNumber l D cB cC cI cJ _ a2 a14 x4 (u_13.2.1 0)) ⟨gcwB hts tw_474 tw_3 tw_471 hd_yX9_addNumber ⟨Nat.le_of_ble_eq_true rfl, Nat.le_of_ble_eq_true rfl⟩, hts _ tw_472, hts _ tw_473⟩ ⟨gblind, va_recv hK hPc (ci := 9) (q0 := 0) rfl rfl, (gpreS hPc hK hDc hN).2⟩ rfl rfl hl.1 rfl (lv_room (Nat.le_of_ble_eq_true rfl)) dX11_feed_53 ⟨Nat.le_of_ble_eq_true rfl, Nat.le_of_ble_eq_true rfl⟩) (fun u_16 H locs hw_18 hP hD hS => ?_)
  have hP : va_P D gcl [(a0, .inr (11, [.ref a1, .ref a2, .ref a3, .ref a4, .ref a5, .ref a6, .ref a7, .ref a8, .ref a9, .ref a10, .int 0, .ref a11, .ref a12, .ref a13])), (a2, .inr (9, [.ref a14, .int 20])), (a14, .inl (cB, 1600, .inl (u_16.2.1 0)))] H := hP
  have hD : va_D A [(a0, .inr (11, [.ref a1, .ref a2, .ref a3, .ref a4, .ref a5, .ref a6, .ref a7, .ref a8, .ref a9, .ref a10, .int 0, .ref a11, .ref a12, .ref a13])), (a2, .inr (9, [.ref a14, .int 20])), (a14, .inl (cB, 1600, .inl (u_16.2.1 0)))] := hD
  refine lv_aload_n (pc := 56) hx hb dX11_feed_56 rfl (lv_at hl 0 rfl) ?_
  refine va_get (pc := 57) (ci := 11) (v := .ref a2) (C := RX11) (T := TX11) (N := 14) hx hb hts iX11 hown hK hP 0 rfl rfl 1 (by decide) (hts _ tw_421) (fun _ h9 => h9) rfl dX11_feed_57 ?_
  refine gc_i (pc := 60) (wc := [(a2, .inr (9, [.ref a14, .int 20]))]) (wr := [(a0, .inr (11, [.ref a1, .ref a2, .ref a3, .ref a4, .ref a5, .ref a6, .ref a7, .ref a8, .ref a9, .ref a10, .int 0, .ref a11, .ref a12, .ref a13])), (a14, .inl (cB, 1600, .inl (u_16.2.1 0)))]) hP hD hS hA [1] [0, 2] rfl rfl (by decide) (by decide) (by decide) (fun hPc hDc => va_runV (As := []) (rest := []) ⟨hx, hb, hml, hown, hts⟩ (cc_21_yX9_length l D cB cC cI cJ _ a2 a14) ⟨gcwB hts tw_478 tw_3 tw_475 hd_yX9_length ⟨Nat.le_of_ble_eq_true rfl, Nat.le_of_ble_eq_true rfl⟩, hts _ tw_476, hts _ tw_477⟩ ⟨gblind, va_recv hK hPc (ci := 9) (q0 := 0) rfl rfl, (gpreS hPc hK hDc hN).2⟩ rfl rfl hl.1 rfl (lv_room (Nat.le_of_ble_eq_true rfl)) dX11_feed_60 ⟨Nat.le_of_ble_eq_true rfl, Nat.le_of_ble_eq_true rfl⟩) (fun r_20 u_19 H locs hw_21 hP hD hS => ?_)
  have hP : va_P D gcl [(a0, .inr (11, [.ref a1, .ref a2, .ref a3, .ref a4, .ref a5, .ref a6, .ref a7, .ref a8, .ref a9, .ref a10, .int 0, .ref a11, .ref a12, .ref a13])), (a14, .inl (cB, 1600, .inl (u_16.2.1 0))), (a2, .inr (9, [.ref a14, .int 20]))] H := hP
  have hD : va_D A [(a0, .inr (11, [.ref a1, .ref a2, .ref a3, .ref a4, .ref a5, .ref a6, .ref a7, .ref a8, .ref a9, .ref a10, .int 0, .ref a11, .ref a12, .ref a13])), (a14, .inl (cB, 1600, .inl (u_16.2.1 0))), (a2, .inr (9, [.ref a14, .int 20]))] := hD
  subst hw_21
  have hP9 := hP.sub (ws' := []) [] rfl
  have hD9 := hD.sub (ws' := []) [] (by decide) rfl
  refine W.widen (k := 0) (n := 0) (Nat.le_of_ble_eq_true rfl) (Nat.le_of_ble_eq_true rfl) ?_
  exact W.iret (v := 20) hx hb hr (fun t ht hW => ⟨⟨20, ((fun _ => 0), (fun _ => (fun _ => 0)), (fun _ => (fun _ => 0)), (fun _ => 0), (fun _ => 0)), rfl, rfl, by rw [ht]; exact hP9, hD9⟩, hS.F ht⟩) hS.2.2 dX11_feed_63
set_option maxHeartbeats 4000000 in
set_option maxRecDepth 100000 in
theorem cc_23_yX12_feed (l : Launch) (D : va_G) (cB cC cI cJ : ClassId) (sz : Nat) (a0 a1 a2 a3 a4 a5 a6 a7 a8 a9 a10 a11 a12 a13 a14 a15 a16 a17 a18 a19 a20 a21 a22 a23 a24 a25 a26 a27 a28 a29 a30 a31 a32 a33 a34 a35 a36 a37 a38 a39 a40 a41 a42 a43 : Nat) (x0 x1 x2 x3 x4 : Int32) : Met l yX12_feed (.code yX12_feed cX12_feed 8 (some .int) :: lw_gd) ({ frames := 0, cells := 0, slots := 0, locals := 0 }) (gPre D [(cB, .byte), (cC, .char), (cI, .int), (cJ, .long)] [.ref a0, .int x0, .int x1, .int x2, .int x3, .int x4] [(a0, .inr (12, [.ref a1, .int 0, .int 0, .int 0, .int 0, .int 0, .int 0, .int 0, .int (-1), .ref a2, .ref a3, .ref a4, .ref a5, .ref a6, .ref a7, .ref a8, .ref a9, .ref a10, .ref a11, .ref a12, .ref a13, .ref a14, .ref a15, .ref a16, .int 0, .int 0, .int 0, .int 0, .int 0, .int 9999, .ref a17, .ref a18, .ref a19, .int 0, .ref a20, .int 0, .ref a21, .int 0, .int 0, .ref a22, .ref a23, .ref a24, .ref a25, .int 0, .ref a26, .int 0, .ref a27, .ref a28, .ref a29, .long 0, .ref a30, .ref a31, .ref a32, .ref a33, .ref a34, .ref a35, .ref a36, .ref a37, .ref a38, .int 0, .int 0, .int 0, .long 0, .ref a39, .int 0, .ref a40, .ref a41, .ref a42, .ref a43, .int 0, .int 0, .int 0, .int 0])), (a1, .inl (cI, 1600, .inl (fun _ => 0)))] sz) (va_Qi (fun r _ => r = 20) (gB D (va_A [(a0, .inr (12, [.ref a1, .int 0, .int 0, .int 0, .int 0, .int 0, .int 0, .int 0, .int (-1), .ref a2, .ref a3, .ref a4, .ref a5, .ref a6, .ref a7, .ref a8, .ref a9, .ref a10, .ref a11, .ref a12, .ref a13, .ref a14, .ref a15, .ref a16, .int 0, .int 0, .int 0, .int 0, .int 0, .int 9999, .ref a17, .ref a18, .ref a19, .int 0, .ref a20, .int 0, .ref a21, .int 0, .int 0, .ref a22, .ref a23, .ref a24, .ref a25, .int 0, .ref a26, .int 0, .ref a27, .ref a28, .ref a29, .long 0, .ref a30, .ref a31, .ref a32, .ref a33, .ref a34, .ref a35, .ref a36, .ref a37, .ref a38, .int 0, .int 0, .int 0, .long 0, .ref a39, .int 0, .ref a40, .ref a41, .ref a42, .ref a43, .int 0, .int 0, .int 0, .int 0])), (a1, .inl (cI, 1600, .inl (fun _ => 0)))] sz) (fun u : gEx => [])) (va_A [(a0, .inr (12, [.ref a1, .int 0, .int 0, .int 0, .int 0, .int 0, .int 0, .int 0, .int (-1), .ref a2, .ref a3, .ref a4, .ref a5, .ref a6, .ref a7, .ref a8, .ref a9, .ref a10, .ref a11, .ref a12, .ref a13, .ref a14, .ref a15, .ref a16, .int 0, .int 0, .int 0, .int 0, .int 0, .int 9999, .ref a17, .ref a18, .ref a19, .int 0, .ref a20, .int 0, .ref a21, .int 0, .int 0, .ref a22, .ref a23, .ref a24, .ref a25, .int 0, .ref a26, .int 0, .ref a27, .ref a28, .ref a29, .long 0, .ref a30, .ref a31, .ref a32, .ref a33, .ref a34, .ref a35, .ref a36, .ref a37, .ref a38, .int 0, .int 0, .int 0, .long 0, .ref a39, .int 0, .ref a40, .ref a41, .ref a42, .ref a43, .int 0, .int 0, .int 0, .int 0])), (a1, .inl (cI, 1600, .inl (fun _ => 0)))] sz)) 0 0 (va_A [(a0, .inr (12, [.ref a1, .int 0, .int 0, .int 0, .int 0, .int 0, .int 0, .int 0, .int (-1), .ref a2, .ref a3, .ref a4, .ref a5, .ref a6, .ref a7, .ref a8, .ref a9, .ref a10, .ref a11, .ref a12, .ref a13, .ref a14, .ref a15, .ref a16, .int 0, .int 0, .int 0, .int 0, .int 0, .int 9999, .ref a17, .ref a18, .ref a19, .int 0, .ref a20, .int 0, .ref a21, .int 0, .int 0, .ref a22, .ref a23, .ref a24, .ref a25, .int 0, .ref a26, .int 0, .ref a27, .ref a28, .ref a29, .long 0, .ref a30, .ref a31, .ref a32, .ref a33, .ref a34, .ref a35, .ref a36, .ref a37, .ref a38, .int 0, .int 0, .int 0, .long 0, .ref a39, .int 0, .ref a40, .ref a41, .ref a42, .ref a43, .int 0, .int 0, .int 0, .int 0])), (a1, .inl (cI, 1600, .inl (fun _ => 0)))] sz) := by
  refine Met.ofW (cc := cX12_feed) (maxL := 8) (ret := (some .int)) (by decide) rfl ?_
  intro p e s m args below meth c s₁ B hml hv
  obtain ⟨rfl, hsz, hP, hK, hD0, hN⟩ := hv
  have hx := B.exec
  have hb := B.bytes
  have hr := B.returns
  have hts : ∀ w ∈ lw_gd, w.before _ s = true := fun w h => atoms_spec (ws := .code yX12_feed cX12_feed 8 (some .int) :: lw_gd) B.pre w (List.mem_cons_of_mem _ h)
  have hown : s.vm.findClass RX12 = some m.cls := findClass_of_methodNamed B.named
  have hlocks := B.notSynchronized
  subst hsz
  have hD := hD0.self (sz := s.heap.size)
  generalize hAe : va_A [(a0, .inr (12, [.ref a1, .int 0, .int 0, .int 0, .int 0, .int 0, .int 0, .int 0, .int (-1), .ref a2, .ref a3, .ref a4, .ref a5, .ref a6, .ref a7, .ref a8, .ref a9, .ref a10, .ref a11, .ref a12, .ref a13, .ref a14, .ref a15, .ref a16, .int 0, .int 0, .int 0, .int 0, .int 0, .int 9999, .ref a17, .ref a18, .ref a19, .int 0, .ref a20, .int 0, .ref a21, .int 0, .int 0, .ref a22, .ref a23, .ref a24, .ref a25, .int 0, .ref a26, .int 0, .ref a27, .ref a28, .ref a29, .long 0, .ref a30, .ref a31, .ref a32, .ref a33, .ref a34, .ref a35, .ref a36, .ref a37, .ref a38, .int 0, .int 0, .int 0, .long 0, .ref a39, .int 0, .ref a40, .ref a41, .ref a42, .ref a43, .int 0, .int 0, .int 0, .int 0])), (a1, .inl (cI, 1600, .inl (fun _ => 0)))] s.heap.size = A at hD ⊢
  have hA : ∀ q : Nat, s.heap.size ≤ q → A q := fun q h => by rw [← hAe]; exact Or.inr h
  have hS : va_S A s.heap s.heap [] := va_S.rf
  have hP : va_P D gcl [(a0, .inr (12, [.ref a1, .int 0, .int 0, .int 0, .int 0, .int 0, .int 0, .int 0, .int (-1), .ref a2, .ref a3, .ref a4, .ref a5, .ref a6, .ref a7, .ref a8, .ref a9, .ref a10, .ref a11, .ref a12, .ref a13, .ref a14, .ref a15, .ref a16, .int 0, .int 0, .int 0, .int 0, .int 0, .int 9999, .ref a17, .ref a18, .ref a19, .int 0, .ref a20, .int 0, .ref a21, .int 0, .int 0, .ref a22, .ref a23, .ref a24, .ref a25, .int 0, .ref a26, .int 0, .ref a27, .ref a28, .ref a29, .long 0, .ref a30, .ref a31, .ref a32, .ref a33, .ref a34, .ref a35, .ref a36, .ref a37, .ref a38, .int 0, .int 0, .int 0, .long 0, .ref a39, .int 0, .ref a40, .ref a41, .ref a42, .ref a43, .int 0, .int 0, .int 0, .int 0])), (a1, .inl (cI, 1600, .inl (fun _ => 0)))] s.heap := hP
  have hl := lv_entry ([.ref a0, .int x0, .int x1, .int x2, .int x3, .int x4]) (n := 8) (Nat.le_of_ble_eq_true rfl)
  rw [lg_entry_eq]
  generalize (lg_sl ([.ref a0, .int x0, .int x1, .int x2, .int x3, .int x4]) ++ List.replicate (8 - (lg_sl ([.ref a0, .int x0, .int x1, .int x2, .int x3, .int x4])).length) Slot.unset).toArray = ls at hl ⊢
  have hl : lv_has ls 8 [(0, .ref a0), (1, .int x0), (2, .int x1), (3, .int x2), (4, .int x3), (5, .int x4)] := hl
  refine lv_aload_n (pc := 0) hx hb dX12_feed_0 rfl (lv_at hl 0 rfl) ?_
  refine va_get (pc := 1) (ci := 12) (v := .int 0) (C := RX12) (T := TX12) (N := 73) hx hb hts iX12 hown hK hP 0 rfl rfl 1 (by decide) (hts _ tw_1402) (fun _ h9 => h9) rfl dX12_feed_1 ?_
  refine lv_bipush (pc := 4) (v := 20) hx hb dX12_feed_4 (by decide) ?_
  refine lv_iadd (pc := 6) hx hb dX12_feed_6 ?_
  refine gI (y := 20) (by decide +kernel) ?_
  refine lv_sipush (pc := 7) (v := 1600) hx hb dX12_feed_7 (by decide) ?_
  refine lv_icmp_le (pc := 10) (tgt := 15) hx hb dX12_feed_10 (by decide) (fun _ => ?_) (fun c => absurd (by decide +kernel) c)
  refine lv_iconst (pc := 15) (v := 0) hx hb dX12_feed_15 (by decide) ?_
  refine lv_istore (pc := 16) (lv' := [(6, .int 0), (0, .ref a0), (1, .int x0), (2, .int x1), (3, .int x2), (4, .int x3), (5, .int x4)]) hx hb dX12_feed_16 hl (by decide) rfl (fun ls hl => ?_)
  refine lv_iload (pc := 18) hx hb dX12_feed_18 (lv_at hl 0 rfl) ?_
  refine lv_bipush (pc := 20) (v := 20) hx hb dX12_feed_20 (by decide) ?_
  refine lv_icmp_ge (pc := 22) (tgt := 114) hx hb dX12_feed_22 (by decide) (fun c => absurd c (by decide +kernel)) (fun _ => ?_)
  refine lv_iload (pc := 25) hx hb dX12_feed_25 (lv_at hl 0 rfl) ?_
  refine lv_iconst (pc := 27) (v := 4) hx hb dX12_feed_27 (by decide) ?_
  refine lv_icmp_ge (pc := 28) (tgt := 35) hx hb dX12_feed_28 (by decide) (fun c => absurd c (by decide +kernel)) (fun _ => ?_)
  refine lv_iload_n (pc := 31) hx hb dX12_feed_31 rfl (lv_at hl 2 rfl) ?_
  refine lv_goto (pc := 32) (tgt := 71) hx hb dX12_feed_32 (by decide) ?_
  refine lv_istore (pc := 71) (lv' := [(7, .int x0), (6, .int 0), (0, .ref a0), (1, .int x0), (2, .int x1), (3, .int x2), (4, .int x3), (5, .int x4)]) hx hb dX12_feed_71 hl (by decide) rfl (fun ls hl => ?_)
  refine lv_aload_n (pc := 73) hx hb dX12_feed_73 rfl (lv_at hl 2 rfl) ?_
  refine va_get (pc := 74) (ci := 12) (v := .ref a1) (C := RX12) (T := TX12) (N := 73) hx hb hts iX12 hown hK hP 0 rfl rfl 0 (by decide) (hts _ tw_1401) (fun _ h9 => h9) rfl dX12_feed_74 ?_
  refine lv_aload_n (pc := 77) hx hb dX12_feed_77 rfl (lv_at hl 2 rfl) ?_
  refine va_get (pc := 78) (ci := 12) (v := .int 0) (C := RX12) (T := TX12) (N := 73) hx hb hts iX12 hown hK hP 0 rfl rfl 1 (by decide) (hts _ tw_1402) (fun _ h9 => h9) rfl dX12_feed_78 ?_
  refine lv_iload (pc := 81) hx hb dX12_feed_81 (lv_at hl 0 rfl) ?_
  refine lv_bipush (pc := 83) (v := 8) hx hb dX12_feed_83 (by decide) ?_
  refine lv_iconst (pc := 85) (v := 3) hx hb dX12_feed_85 (by decide) ?_
  refine lv_iload (pc := 86) hx hb dX12_feed_86 (lv_at hl 1 rfl) ?_
  refine lv_iconst (pc := 88) (v := 4) hx hb dX12_feed_88 (by decide) ?_
  refine lv_irem (pc := 89) hx hb dX12_feed_89 (by decide +kernel) ?_
  refine gI (y := 0) (by decide +kernel) ?_
  refine lv_isub (pc := 90) hx hb dX12_feed_90 ?_
  refine gI (y := 3) (by decide +kernel) ?_
  refine lv_imul (pc := 91) hx hb dX12_feed_91 ?_
  refine gI (y := 24) (by decide +kernel) ?_
  refine lv_ishr (pc := 92) hx hb dX12_feed_92 ?_
  refine lv_topi (fun x_1 ex_1 => ?_)
  refine lv_sipush (pc := 93) (v := 255) hx hb dX12_feed_93 (by decide) ?_
  refine lv_iand (pc := 96) hx hb dX12_feed_96 ?_
  refine lv_topi (fun x_2 ex_2 => ?_)
  refine g_iastore (pc := 97) hx hb hK hP hD hS 1 2 rfl rfl (gin rfl) dX12_feed_97 (fun f_3 H locs hP hD hS => ?_)
  have hP : va_P D gcl [(a0, .inr (12, [.ref a1, .int 0, .int 0, .int 0, .int 0, .int 0, .int 0, .int 0, .int (-1), .ref a2, .ref a3, .ref a4, .ref a5, .ref a6, .ref a7, .ref a8, .ref a9, .ref a10, .ref a11, .ref a12, .ref a13, .ref a14, .ref a15, .ref a16, .int 0, .int 0, .int 0, .int 0, .int 0, .int 9999, .ref a17, .ref a18, .ref a19, .int 0, .ref a20, .int 0, .ref a21, .int 0, .int 0, .ref a22, .ref a23, .ref a24, .ref a25, .int 0, .ref a26, .int 0, .ref a27, .ref a28, .ref a29, .long 0, .ref a30, .ref a31, .ref a32, .ref a33, .ref a34, .ref a35, .ref a36, .ref a37, .ref a38, .int 0, .int 0, .int 0, .long 0, .ref a39, .int 0, .ref a40, .ref a41, .ref a42, .ref a43, .int 0, .int 0, .int 0, .int 0])), (a1, .inl (cI, 1600, .inl f_3))] H := hP
  have hD : va_D A [(a0, .inr (12, [.ref a1, .int 0, .int 0, .int 0, .int 0, .int 0, .int 0, .int 0, .int (-1), .ref a2, .ref a3, .ref a4, .ref a5, .ref a6, .ref a7, .ref a8, .ref a9, .ref a10, .ref a11, .ref a12, .ref a13, .ref a14, .ref a15, .ref a16, .int 0, .int 0, .int 0, .int 0, .int 0, .int 9999, .ref a17, .ref a18, .ref a19, .int 0, .ref a20, .int 0, .ref a21, .int 0, .int 0, .ref a22, .ref a23, .ref a24, .ref a25, .int 0, .ref a26, .int 0, .ref a27, .ref a28, .ref a29, .long 0, .ref a30, .ref a31, .ref a32, .ref a33, .ref a34, .ref a35, .ref a36, .ref a37, .ref a38, .int 0, .int 0, .int 0, .long 0, .ref a39, .int 0, .ref a40, .ref a41, .ref a42, .ref a43, .int 0, .int 0, .int 0, .int 0])), (a1, .inl (cI, 1600, .inl f_3))] := hD
  refine lv_aload_n (pc := 98) hx hb dX12_feed_98 rfl (lv_at hl 2 rfl) ?_
  refine lv_dup (pc := 99) hx hb dX12_feed_99 rfl ?_
  refine va_get (pc := 100) (ci := 12) (v := .int 0) (C := RX12) (T := TX12) (N := 73) hx hb hts iX12 hown hK hP 0 rfl rfl 1 (by decide) (hts _ tw_1402) (fun _ h9 => h9) rfl dX12_feed_100 ?_
  refine lv_iconst (pc := 103) (v := 1) hx hb dX12_feed_103 (by decide) ?_
  refine lv_iadd (pc := 104) hx hb dX12_feed_104 ?_
  refine gI (y := 1) (by decide +kernel) ?_
  refine va_put (pc := 105) (ci := 12) (v := .int 1) (ty := .int) (C := RX12) (T := TX12) (N := 73) hx hb hts iX12 tyX12 tyX12_ok nmX12 hown hK hP hD hS 0 rfl rfl 1 (by decide) (hts _ tw_1402) (fun _ h9 => h9) rfl (by decide +kernel) (by decide +kernel) (by decide +kernel) (Nat.le_of_ble_eq_true rfl) dX12_feed_105 (fun H locs hP hD hS => ?_)
  have hP : va_P D gcl [(a0, .inr (12, [.ref a1, .int 1, .int 0, .int 0, .int 0, .int 0, .int 0, .int 0, .int (-1), .ref a2, .ref a3, .ref a4, .ref a5, .ref a6, .ref a7, .ref a8, .ref a9, .ref a10, .ref a11, .ref a12, .ref a13, .ref a14, .ref a15, .ref a16, .int 0, .int 0, .int 0, .int 0, .int 0, .int 9999, .ref a17, .ref a18, .ref a19, .int 0, .ref a20, .int 0, .ref a21, .int 0, .int 0, .ref a22, .ref a23, .ref a24, .ref a25, .int 0, .ref a26, .int 0, .ref a27, .ref a28, .ref a29, .long 0, .ref a30, .ref a31, .ref a32, .ref a33, .ref a34, .ref a35, .ref a36, .ref a37, .ref a38, .int 0, .int 0, .int 0, .long 0, .ref a39, .int 0, .ref a40, .ref a41, .ref a42, .ref a43, .int 0, .int 0, .int 0, .int 0])), (a1, .inl (cI, 1600, .inl f_3))] H := hP
  have hD : va_D A [(a0, .inr (12, [.ref a1, .int 1, .int 0, .int 0, .int 0, .int 0, .int 0, .int 0, .int (-1), .ref a2, .ref a3, .ref a4, .ref a5, .ref a6, .ref a7, .ref a8, .ref a9, .ref a10, .ref a11, .ref a12, .ref a13, .ref a14, .ref a15, .ref a16, .int 0, .int 0, .int 0, .int 0, .int 0, .int 9999, .ref a17, .ref a18, .ref a19, .int 0, .ref a20, .int 0, .ref a21, .int 0, .int 0, .ref a22, .ref a23, .ref a24, .ref a25, .int 0, .ref a26, .int 0, .ref a27, .ref a28, .ref a29, .long 0, .ref a30, .ref a31, .ref a32, .ref a33, .ref a34, .ref a35, .ref a36, .ref a37, .ref a38, .int 0, .int 0, .int 0, .long 0, .ref a39, .int 0, .ref a40, .ref a41, .ref a42, .ref a43, .int 0, .int 0, .int 0, .int 0])), (a1, .inl (cI, 1600, .inl f_3))] := hD
  refine lv_iinc (pc := 108) (v := 1) (lv' := [(6, .int 1), (7, .int x0), (0, .ref a0), (1, .int x0), (2, .int x1), (3, .int x2), (4, .int x3), (5, .int x4)]) hx hb dX12_feed_108 hl (k := 1) rfl (by decide +kernel) (by decide) rfl (fun ls hl => ?_)
  refine lv_goto (pc := 111) (tgt := 18) hx hb dX12_feed_111 (by decide) ?_
  refine lv_iload (pc := 18) hx hb dX12_feed_18 (lv_at hl 0 rfl) ?_
  refine lv_bipush (pc := 20) (v := 20) hx hb dX12_feed_20 (by decide) ?_
  refine lv_icmp_ge (pc := 22) (tgt := 114) hx hb dX12_feed_22 (by decide) (fun c => absurd c (by decide +kernel)) (fun _ => ?_)
  refine lv_iload (pc := 25) hx hb dX12_feed_25 (lv_at hl 0 rfl) ?_
  refine lv_iconst (pc := 27) (v := 4) hx hb dX12_feed_27 (by decide) ?_
  refine lv_icmp_ge (pc := 28) (tgt := 35) hx hb dX12_feed_28 (by decide) (fun c => absurd c (by decide +kernel)) (fun _ => ?_)
  refine lv_iload_n (pc := 31) hx hb dX12_feed_31 rfl (lv_at hl 3 rfl) ?_
  refine lv_goto (pc := 32) (tgt := 71) hx hb dX12_feed_32 (by decide) ?_
  refine lv_istore (pc := 71) (lv' := [(7, .int x0), (6, .int 1), (0, .ref a0), (1, .int x0), (2, .int x1), (3, .int x2), (4, .int x3), (5, .int x4)]) hx hb dX12_feed_71 hl (by decide) rfl (fun ls hl => ?_)
  refine lv_aload_n (pc := 73) hx hb dX12_feed_73 rfl (lv_at hl 2 rfl) ?_
  refine va_get (pc := 74) (ci := 12) (v := .ref a1) (C := RX12) (T := TX12) (N := 73) hx hb hts iX12 hown hK hP 0 rfl rfl 0 (by decide) (hts _ tw_1401) (fun _ h9 => h9) rfl dX12_feed_74 ?_
  refine lv_aload_n (pc := 77) hx hb dX12_feed_77 rfl (lv_at hl 2 rfl) ?_
  refine va_get (pc := 78) (ci := 12) (v := .int 1) (C := RX12) (T := TX12) (N := 73) hx hb hts iX12 hown hK hP 0 rfl rfl 1 (by decide) (hts _ tw_1402) (fun _ h9 => h9) rfl dX12_feed_78 ?_
  refine lv_iload (pc := 81) hx hb dX12_feed_81 (lv_at hl 0 rfl) ?_
  refine lv_bipush (pc := 83) (v := 8) hx hb dX12_feed_83 (by decide) ?_
  refine lv_iconst (pc := 85) (v := 3) hx hb dX12_feed_85 (by decide) ?_
  refine lv_iload (pc := 86) hx hb dX12_feed_86 (lv_at hl 1 rfl) ?_
  refine lv_iconst (pc := 88) (v := 4) hx hb dX12_feed_88 (by decide) ?_
  refine lv_irem (pc := 89) hx hb dX12_feed_89 (by decide +kernel) ?_
  refine gI (y := 1) (by decide +kernel) ?_
  refine lv_isub (pc := 90) hx hb dX12_feed_90 ?_
  refine gI (y := 2) (by decide +kernel) ?_
  refine lv_imul (pc := 91) hx hb dX12_feed_91 ?_
  refine gI (y := 16) (by decide +kernel) ?_
  refine lv_ishr (pc := 92) hx hb dX12_feed_92 ?_
  refine lv_topi (fun x_4 ex_4 => ?_)
  refine lv_sipush (pc := 93) (v := 255) hx hb dX12_feed_93 (by decide) ?_
  refine lv_iand (pc := 96) hx hb dX12_feed_96 ?_
  refine lv_topi (fun x_5 ex_5 => ?_)
  refine g_iastore (pc := 97) hx hb hK hP hD hS 1 2 rfl rfl (gin rfl) dX12_feed_97 (fun f_6 H locs hP hD hS => ?_)
  have hP : va_P D gcl [(a0, .inr (12, [.ref a1, .int 1, .int 0, .int 0, .int 0, .int 0, .int 0, .int 0, .int (-1), .ref a2, .ref a3, .ref a4, .ref a5, .ref a6, .ref a7, .ref a8, .ref a9, .ref a10, .ref a11, .ref a12, .ref a13, .ref a14, .ref a15, .ref a16, .int 0, .int 0, .int 0, .int 0, .int 0, .int 9999, .ref a17, .ref a18, .ref a19, .int 0, .ref a20, .int 0, .ref a21, .int 0, .int 0, .ref a22, .ref a23, .ref a24, .ref a25, .int 0, .ref a26, .int 0, .ref a27, .ref a28, .ref a29, .long 0, .ref a30, .ref a31, .ref a32, .ref a33, .ref a34, .ref a35, .ref a36, .ref a37, .ref a38, .int 0, .int 0, .int 0, .long 0, .ref a39, .int 0, .ref a40, .ref a41, .ref a42, .ref a43, .int 0, .int 0, .int 0, .int 0])), (a1, .inl (cI, 1600, .inl f_6))] H := hP
  have hD : va_D A [(a0, .inr (12, [.ref a1, .int 1, .int 0, .int 0, .int 0, .int 0, .int 0, .int 0, .int (-1), .ref a2, .ref a3, .ref a4, .ref a5, .ref a6, .ref a7, .ref a8, .ref a9, .ref a10, .ref a11, .ref a12, .ref a13, .ref a14, .ref a15, .ref a16, .int 0, .int 0, .int 0, .int 0, .int 0, .int 9999, .ref a17, .ref a18, .ref a19, .int 0, .ref a20, .int 0, .ref a21, .int 0, .int 0, .ref a22, .ref a23, .ref a24, .ref a25, .int 0, .ref a26, .int 0, .ref a27, .ref a28, .ref a29, .long 0, .ref a30, .ref a31, .ref a32, .ref a33, .ref a34, .ref a35, .ref a36, .ref a37, .ref a38, .int 0, .int 0, .int 0, .long 0, .ref a39, .int 0, .ref a40, .ref a41, .ref a42, .ref a43, .int 0, .int 0, .int 0, .int 0])), (a1, .inl (cI, 1600, .inl f_6))] := hD
  refine lv_aload_n (pc := 98) hx hb dX12_feed_98 rfl (lv_at hl 2 rfl) ?_
  refine lv_dup (pc := 99) hx hb dX12_feed_99 rfl ?_
  refine va_get (pc := 100) (ci := 12) (v := .int 1) (C := RX12) (T := TX12) (N := 73) hx hb hts iX12 hown hK hP 0 rfl rfl 1 (by decide) (hts _ tw_1402) (fun _ h9 => h9) rfl dX12_feed_100 ?_
  refine lv_iconst (pc := 103) (v := 1) hx hb dX12_feed_103 (by decide) ?_
  refine lv_iadd (pc := 104) hx hb dX12_feed_104 ?_
  refine gI (y := 2) (by decide +kernel) ?_
  refine va_put (pc := 105) (ci := 12) (v := .int 2) (ty := .int) (C := RX12) (T := TX12) (N := 73) hx hb hts iX12 tyX12 tyX12_ok nmX12 hown hK hP hD hS 0 rfl rfl 1 (by decide) (hts _ tw_1402) (fun _ h9 => h9) rfl (by decide +kernel) (by decide +kernel) (by decide +kernel) (Nat.le_of_ble_eq_true rfl) dX12_feed_105 (fun H locs hP hD hS => ?_)
  have hP : va_P D gcl [(a0, .inr (12, [.ref a1, .int 2, .int 0, .int 0, .int 0, .int 0, .int 0, .int 0, .int (-1), .ref a2, .ref a3, .ref a4, .ref a5, .ref a6, .ref a7, .ref a8, .ref a9, .ref a10, .ref a11, .ref a12, .ref a13, .ref a14, .ref a15, .ref a16, .int 0, .int 0, .int 0, .int 0, .int 0, .int 9999, .ref a17, .ref a18, .ref a19, .int 0, .ref a20, .int 0, .ref a21, .int 0, .int 0, .ref a22, .ref a23, .ref a24, .ref a25, .int 0, .ref a26, .int 0, .ref a27, .ref a28, .ref a29, .long 0, .ref a30, .ref a31, .ref a32, .ref a33, .ref a34, .ref a35, .ref a36, .ref a37, .ref a38, .int 0, .int 0, .int 0, .long 0, .ref a39, .int 0, .ref a40, .ref a41, .ref a42, .ref a43, .int 0, .int 0, .int 0, .int 0])), (a1, .inl (cI, 1600, .inl f_6))] H := hP
  have hD : va_D A [(a0, .inr (12, [.ref a1, .int 2, .int 0, .int 0, .int 0, .int 0, .int 0, .int 0, .int (-1), .ref a2, .ref a3, .ref a4, .ref a5, .ref a6, .ref a7, .ref a8, .ref a9, .ref a10, .ref a11, .ref a12, .ref a13, .ref a14, .ref a15, .ref a16, .int 0, .int 0, .int 0, .int 0, .int 0, .int 9999, .ref a17, .ref a18, .ref a19, .int 0, .ref a20, .int 0, .ref a21, .int 0, .int 0, .ref a22, .ref a23, .ref a24, .ref a25, .int 0, .ref a26, .int 0, .ref a27, .ref a28, .ref a29, .long 0, .ref a30, .ref a31, .ref a32, .ref a33, .ref a34, .ref a35, .ref a36, .ref a37, .ref a38, .int 0, .int 0, .int 0, .long 0, .ref a39, .int 0, .ref a40, .ref a41, .ref a42, .ref a43, .int 0, .int 0, .int 0, .int 0])), (a1, .inl (cI, 1600, .inl f_6))] := hD
  refine lv_iinc (pc := 108) (v := 2) (lv' := [(6, .int 2), (7, .int x0), (0, .ref a0), (1, .int x0), (2, .int x1), (3, .int x2), (4, .int x3), (5, .int x4)]) hx hb dX12_feed_108 hl (k := 1) rfl (by decide +kernel) (by decide) rfl (fun ls hl => ?_)
  refine lv_goto (pc := 111) (tgt := 18) hx hb dX12_feed_111 (by decide) ?_
  refine lv_iload (pc := 18) hx hb dX12_feed_18 (lv_at hl 0 rfl) ?_
  refine lv_bipush (pc := 20) (v := 20) hx hb dX12_feed_20 (by decide) ?_
  refine lv_icmp_ge (pc := 22) (tgt := 114) hx hb dX12_feed_22 (by decide) (fun c => absurd c (by decide +kernel)) (fun _ => ?_)
  refine lv_iload (pc := 25) hx hb dX12_feed_25 (lv_at hl 0 rfl) ?_
  refine lv_iconst (pc := 27) (v := 4) hx hb dX12_feed_27 (by decide) ?_
  refine lv_icmp_ge (pc := 28) (tgt := 35) hx hb dX12_feed_28 (by decide) (fun c => absurd c (by decide +kernel)) (fun _ => ?_)
  refine lv_iload_n (pc := 31) hx hb dX12_feed_31 rfl (lv_at hl 3 rfl) ?_
  refine lv_goto (pc := 32) (tgt := 71) hx hb dX12_feed_32 (by decide) ?_
  refine lv_istore (pc := 71) (lv' := [(7, .int x0), (6, .int 2), (0, .ref a0), (1, .int x0), (2, .int x1), (3, .int x2), (4, .int x3), (5, .int x4)]) hx hb dX12_feed_71 hl (by decide) rfl (fun ls hl => ?_)
  refine lv_aload_n (pc := 73) hx hb dX12_feed_73 rfl (lv_at hl 2 rfl) ?_
  refine va_get (pc := 74) (ci := 12) (v := .ref a1) (C := RX12) (T := TX12) (N := 73) hx hb hts iX12 hown hK hP 0 rfl rfl 0 (by decide) (hts _ tw_1401) (fun _ h9 => h9) rfl dX12_feed_74 ?_
  refine lv_aload_n (pc := 77) hx hb dX12_feed_77 rfl (lv_at hl 2 rfl) ?_
  refine va_get (pc := 78) (ci := 12) (v := .int 2) (C := RX12) (T := TX12) (N := 73) hx hb hts iX12 hown hK hP 0 rfl rfl 1 (by decide) (hts _ tw_1402) (fun _ h9 => h9) rfl dX12_feed_78 ?_
  refine lv_iload (pc := 81) hx hb dX12_feed_81 (lv_at hl 0 rfl) ?_
  refine lv_bipush (pc := 83) (v := 8) hx hb dX12_feed_83 (by decide) ?_
  refine lv_iconst (pc := 85) (v := 3) hx hb dX12_feed_85 (by decide) ?_
  refine lv_iload (pc := 86) hx hb dX12_feed_86 (lv_at hl 1 rfl) ?_
  refine lv_iconst (pc := 88) (v := 4) hx hb dX12_feed_88 (by decide) ?_
  refine lv_irem (pc := 89) hx hb dX12_feed_89 (by decide +kernel) ?_
  refine gI (y := 2) (by decide +kernel) ?_
  refine lv_isub (pc := 90) hx hb dX12_feed_90 ?_
  refine gI (y := 1) (by decide +kernel) ?_
  refine lv_imul (pc := 91) hx hb dX12_feed_91 ?_
  refine gI (y := 8) (by decide +kernel) ?_
  refine lv_ishr (pc := 92) hx hb dX12_feed_92 ?_
  refine lv_topi (fun x_7 ex_7 => ?_)
  refine lv_sipush (pc := 93) (v := 255) hx hb dX12_feed_93 (by decide) ?_
  refine lv_iand (pc := 96) hx hb dX12_feed_96 ?_
  refine lv_topi (fun x_8 ex_8 => ?_)
  refine g_iastore (pc := 97) hx hb hK hP hD hS 1 2 rfl rfl (gin rfl) dX12_feed_97 (fun f_9 H locs hP hD hS => ?_)
  have hP : va_P D gcl [(a0, .inr (12, [.ref a1, .int 2, .int 0, .int 0, .int 0, .int 0, .int 0, .int 0, .int (-1), .ref a2, .ref a3, .ref a4, .ref a5, .ref a6, .ref a7, .ref a8, .ref a9, .ref a10, .ref a11, .ref a12, .ref a13, .ref a14, .ref a15, .ref a16, .int 0, .int 0, .int 0, .int 0, .int 0, .int 9999, .ref a17, .ref a18, .ref a19, .int 0, .ref a20, .int 0, .ref a21, .int 0, .int 0, .ref a22, .ref a23, .ref a24, .ref a25, .int 0, .ref a26, .int 0, .ref a27, .ref a28, .ref a29, .long 0, .ref a30, .ref a31, .ref a32, .ref a33, .ref a34, .ref a35, .ref a36, .ref a37, .ref a38, .int 0, .int 0, .int 0, .long 0, .ref a39, .int 0, .ref a40, .ref a41, .ref a42, .ref a43, .int 0, .int 0, .int 0, .int 0])), (a1, .inl (cI, 1600, .inl f_9))] H := hP
  have hD : va_D A [(a0, .inr (12, [.ref a1, .int 2, .int 0, .int 0, .int 0, .int 0, .int 0, .int 0, .int (-1), .ref a2, .ref a3, .ref a4, .ref a5, .ref a6, .ref a7, .ref a8, .ref a9, .ref a10, .ref a11, .ref a12, .ref a13, .ref a14, .ref a15, .ref a16, .int 0, .int 0, .int 0, .int 0, .int 0, .int 9999, .ref a17, .ref a18, .ref a19, .int 0, .ref a20, .int 0, .ref a21, .int 0, .int 0, .ref a22, .ref a23, .ref a24, .ref a25, .int 0, .ref a26, .int 0, .ref a27, .ref a28, .ref a29, .long 0, .ref a30, .ref a31, .ref a32, .ref a33, .ref a34, .ref a35, .ref a36, .ref a37, .ref a38, .int 0, .int 0, .int 0, .long 0, .ref a39, .int 0, .ref a40, .ref a41, .ref a42, .ref a43, .int 0, .int 0, .int 0, .int 0])), (a1, .inl (cI, 1600, .inl f_9))] := hD
  refine lv_aload_n (pc := 98) hx hb dX12_feed_98 rfl (lv_at hl 2 rfl) ?_
  refine lv_dup (pc := 99) hx hb dX12_feed_99 rfl ?_
  refine va_get (pc := 100) (ci := 12) (v := .int 2) (C := RX12) (T := TX12) (N := 73) hx hb hts iX12 hown hK hP 0 rfl rfl 1 (by decide) (hts _ tw_1402) (fun _ h9 => h9) rfl dX12_feed_100 ?_
  refine lv_iconst (pc := 103) (v := 1) hx hb dX12_feed_103 (by decide) ?_
  refine lv_iadd (pc := 104) hx hb dX12_feed_104 ?_
  refine gI (y := 3) (by decide +kernel) ?_
  refine va_put (pc := 105) (ci := 12) (v := .int 3) (ty := .int) (C := RX12) (T := TX12) (N := 73) hx hb hts iX12 tyX12 tyX12_ok nmX12 hown hK hP hD hS 0 rfl rfl 1 (by decide) (hts _ tw_1402) (fun _ h9 => h9) rfl (by decide +kernel) (by decide +kernel) (by decide +kernel) (Nat.le_of_ble_eq_true rfl) dX12_feed_105 (fun H locs hP hD hS => ?_)
  have hP : va_P D gcl [(a0, .inr (12, [.ref a1, .int 3, .int 0, .int 0, .int 0, .int 0, .int 0, .int 0, .int (-1), .ref a2, .ref a3, .ref a4, .ref a5, .ref a6, .ref a7, .ref a8, .ref a9, .ref a10, .ref a11, .ref a12, .ref a13, .ref a14, .ref a15, .ref a16, .int 0, .int 0, .int 0, .int 0, .int 0, .int 9999, .ref a17, .ref a18, .ref a19, .int 0, .ref a20, .int 0, .ref a21, .int 0, .int 0, .ref a22, .ref a23, .ref a24, .ref a25, .int 0, .ref a26, .int 0, .ref a27, .ref a28, .ref a29, .long 0, .ref a30, .ref a31, .ref a32, .ref a33, .ref a34, .ref a35, .ref a36, .ref a37, .ref a38, .int 0, .int 0, .int 0, .long 0, .ref a39, .int 0, .ref a40, .ref a41, .ref a42, .ref a43, .int 0, .int 0, .int 0, .int 0])), (a1, .inl (cI, 1600, .inl f_9))] H := hP
  have hD : va_D A [(a0, .inr (12, [.ref a1, .int 3, .int 0, .int 0, .int 0, .int 0, .int 0, .int 0, .int (-1), .ref a2, .ref a3, .ref a4, .ref a5, .ref a6, .ref a7, .ref a8, .ref a9, .ref a10, .ref a11, .ref a12, .ref a13, .ref a14, .ref a15, .ref a16, .int 0, .int 0, .int 0, .int 0, .int 0, .int 9999, .ref a17, .ref a18, .ref a19, .int 0, .ref a20, .int 0, .ref a21, .int 0, .int 0, .ref a22, .ref a23, .ref a24, .ref a25, .int 0, .ref a26, .int 0, .ref a27, .ref a28, .ref a29, .long 0, .ref a30, .ref a31, .ref a32, .ref a33, .ref a34, .ref a35, .ref a36, .ref a37, .ref a38, .int 0, .int 0, .int 0, .long 0, .ref a39, .int 0, .ref a40, .ref a41, .ref a42, .ref a43, .int 0, .int 0, .int 0, .int 0])), (a1, .inl (cI, 1600, .inl f_9))] := hD
  refine lv_iinc (pc := 108) (v := 3) (lv' := [(6, .int 3), (7, .int x0), (0, .ref a0), (1, .int x0), (2, .int x1), (3, .int x2), (4, .int x3), (5, .int x4)]) hx hb dX12_feed_108 hl (k := 1) rfl (by decide +kernel) (by decide) rfl (fun ls hl => ?_)
  refine lv_goto (pc := 111) (tgt := 18) hx hb dX12_feed_111 (by decide) ?_
  refine lv_iload (pc := 18) hx hb dX12_feed_18 (lv_at hl 0 rfl) ?_
  refine lv_bipush (pc := 20) (v := 20) hx hb dX12_feed_20 (by decide) ?_
  refine lv_icmp_ge (pc := 22) (tgt := 114) hx hb dX12_feed_22 (by decide) (fun c => absurd c (by decide +kernel)) (fun _ => ?_)
  refine lv_iload (pc := 25) hx hb dX12_feed_25 (lv_at hl 0 rfl) ?_
  refine lv_iconst (pc := 27) (v := 4) hx hb dX12_feed_27 (by decide) ?_
  refine lv_icmp_ge (pc := 28) (tgt := 35) hx hb dX12_feed_28 (by decide) (fun c => absurd c (by decide +kernel)) (fun _ => ?_)
  refine lv_iload_n (pc := 31) hx hb dX12_feed_31 rfl (lv_at hl 3 rfl) ?_
  refine lv_goto (pc := 32) (tgt := 71) hx hb dX12_feed_32 (by decide) ?_
  refine lv_istore (pc := 71) (lv' := [(7, .int x0), (6, .int 3), (0, .ref a0), (1, .int x0), (2, .int x1), (3, .int x2), (4, .int x3), (5, .int x4)]) hx hb dX12_feed_71 hl (by decide) rfl (fun ls hl => ?_)
  refine lv_aload_n (pc := 73) hx hb dX12_feed_73 rfl (lv_at hl 2 rfl) ?_
  refine va_get (pc := 74) (ci := 12) (v := .ref a1) (C := RX12) (T := TX12) (N := 73) hx hb hts iX12 hown hK hP 0 rfl rfl 0 (by decide) (hts _ tw_1401) (fun _ h9 => h9) rfl dX12_feed_74 ?_
  refine lv_aload_n (pc := 77) hx hb dX12_feed_77 rfl (lv_at hl 2 rfl) ?_
  refine va_get (pc := 78) (ci := 12) (v := .int 3) (C := RX12) (T := TX12) (N := 73) hx hb hts iX12 hown hK hP 0 rfl rfl 1 (by decide) (hts _ tw_1402) (fun _ h9 => h9) rfl dX12_feed_78 ?_
  refine lv_iload (pc := 81) hx hb dX12_feed_81 (lv_at hl 0 rfl) ?_
  refine lv_bipush (pc := 83) (v := 8) hx hb dX12_feed_83 (by decide) ?_
  refine lv_iconst (pc := 85) (v := 3) hx hb dX12_feed_85 (by decide) ?_
  refine lv_iload (pc := 86) hx hb dX12_feed_86 (lv_at hl 1 rfl) ?_
  refine lv_iconst (pc := 88) (v := 4) hx hb dX12_feed_88 (by decide) ?_
  refine lv_irem (pc := 89) hx hb dX12_feed_89 (by decide +kernel) ?_
  refine gI (y := 3) (by decide +kernel) ?_
  refine lv_isub (pc := 90) hx hb dX12_feed_90 ?_
  refine gI (y := 0) (by decide +kernel) ?_
  refine lv_imul (pc := 91) hx hb dX12_feed_91 ?_
  refine gI (y := 0) (by decide +kernel) ?_
  refine lv_ishr (pc := 92) hx hb dX12_feed_92 ?_
  refine lv_topi (fun x_10 ex_10 => ?_)
  refine lv_sipush (pc := 93) (v := 255) hx hb dX12_feed_93 (by decide) ?_
  refine lv_iand (pc := 96) hx hb dX12_feed_96 ?_
  refine lv_topi (fun x_11 ex_11 => ?_)
  refine g_iastore (pc := 97) hx hb hK hP hD hS 1 2 rfl rfl (gin rfl) dX12_feed_97 (fun f_12 H locs hP hD hS => ?_)
  have hP : va_P D gcl [(a0, .inr (12, [.ref a1, .int 3, .int 0, .int 0, .int 0, .int 0, .int 0, .int 0, .int (-1), .ref a2, .ref a3, .ref a4, .ref a5, .ref a6, .ref a7, .ref a8, .ref a9, .ref a10, .ref a11, .ref a12, .ref a13, .ref a14, .ref a15, .ref a16, .int 0, .int 0, .int 0, .int 0, .int 0, .int 9999, .ref a17, .ref a18, .ref a19, .int 0, .ref a20, .int 0, .ref a21, .int 0, .int 0, .ref a22, .ref a23, .ref a24, .ref a25, .int 0, .ref a26, .int 0, .ref a27, .ref a28, .ref a29, .long 0, .ref a30, .ref a31, .ref a32, .ref a33, .ref a34, .ref a35, .ref a36, .ref a37, .ref a38, .int 0, .int 0, .int 0, .long 0, .ref a39, .int 0, .ref a40, .ref a41, .ref a42, .ref a43, .int 0, .int 0, .int 0, .int 0])), (a1, .inl (cI, 1600, .inl f_12))] H := hP
  have hD : va_D A [(a0, .inr (12, [.ref a1, .int 3, .int 0, .int 0, .int 0, .int 0, .int 0, .int 0, .int (-1), .ref a2, .ref a3, .ref a4, .ref a5, .ref a6, .ref a7, .ref a8, .ref a9, .ref a10, .ref a11, .ref a12, .ref a13, .ref a14, .ref a15, .ref a16, .int 0, .int 0, .int 0, .int 0, .int 0, .int 9999, .ref a17, .ref a18, .ref a19, .int 0, .ref a20, .int 0, .ref a21, .int 0, .int 0, .ref a22, .ref a23, .ref a24, .ref a25, .int 0, .ref a26, .int 0, .ref a27, .ref a28, .ref a29, .long 0, .ref a30, .ref a31, .ref a32, .ref a33, .ref a34, .ref a35, .ref a36, .ref a37, .ref a38, .int 0, .int 0, .int 0, .long 0, .ref a39, .int 0, .ref a40, .ref a41, .ref a42, .ref a43, .int 0, .int 0, .int 0, .int 0])), (a1, .inl (cI, 1600, .inl f_12))] := hD
  refine lv_aload_n (pc := 98) hx hb dX12_feed_98 rfl (lv_at hl 2 rfl) ?_
  refine lv_dup (pc := 99) hx hb dX12_feed_99 rfl ?_
  refine va_get (pc := 100) (ci := 12) (v := .int 3) (C := RX12) (T := TX12) (N := 73) hx hb hts iX12 hown hK hP 0 rfl rfl 1 (by decide) (hts _ tw_1402) (fun _ h9 => h9) rfl dX12_feed_100 ?_
  refine lv_iconst (pc := 103) (v := 1) hx hb dX12_feed_103 (by decide) ?_
  refine lv_iadd (pc := 104) hx hb dX12_feed_104 ?_
  refine gI (y := 4) (by decide +kernel) ?_
  refine va_put (pc := 105) (ci := 12) (v := .int 4) (ty := .int) (C := RX12) (T := TX12) (N := 73) hx hb hts iX12 tyX12 tyX12_ok nmX12 hown hK hP hD hS 0 rfl rfl 1 (by decide) (hts _ tw_1402) (fun _ h9 => h9) rfl (by decide +kernel) (by decide +kernel) (by decide +kernel) (Nat.le_of_ble_eq_true rfl) dX12_feed_105 (fun H locs hP hD hS => ?_)
  have hP : va_P D gcl [(a0, .inr (12, [.ref a1, .int 4, .int 0, .int 0, .int 0, .int 0, .int 0, .int 0, .int (-1), .ref a2, .ref a3, .ref a4, .ref a5, .ref a6, .ref a7, .ref a8, .ref a9, .ref a10, .ref a11, .ref a12, .ref a13, .ref a14, .ref a15, .ref a16, .int 0, .int 0, .int 0, .int 0, .int 0, .int 9999, .ref a17, .ref a18, .ref a19, .int 0, .ref a20, .int 0, .ref a21, .int 0, .int 0, .ref a22, .ref a23, .ref a24, .ref a25, .int 0, .ref a26, .int 0, .ref a27, .ref a28, .ref a29, .long 0, .ref a30, .ref a31, .ref a32, .ref a33, .ref a34, .ref a35, .ref a36, .ref a37, .ref a38, .int 0, .int 0, .int 0, .long 0, .ref a39, .int 0, .ref a40, .ref a41, .ref a42, .ref a43, .int 0, .int 0, .int 0, .int 0])), (a1, .inl (cI, 1600, .inl f_12))] H := hP
  have hD : va_D A [(a0, .inr (12, [.ref a1, .int 4, .int 0, .int 0, .int 0, .int 0, .int 0, .int 0, .int (-1), .ref a2, .ref a3, .ref a4, .ref a5, .ref a6, .ref a7, .ref a8, .ref a9, .ref a10, .ref a11, .ref a12, .ref a13, .ref a14, .ref a15, .ref a16, .int 0, .int 0, .int 0, .int 0, .int 0, .int 9999, .ref a17, .ref a18, .ref a19, .int 0, .ref a20, .int 0, .ref a21, .int 0, .int 0, .ref a22, .ref a23, .ref a24, .ref a25, .int 0, .ref a26, .int 0, .ref a27, .ref a28, .ref a29, .long 0, .ref a30, .ref a31, .ref a32, .ref a33, .ref a34, .ref a35, .ref a36, .ref a37, .ref a38, .int 0, .int 0, .int 0, .long 0, .ref a39, .int 0, .ref a40, .ref a41, .ref a42, .ref a43, .int 0, .int 0, .int 0, .int 0])), (a1, .inl (cI, 1600, .inl f_12))] := hD
  refine lv_iinc (pc := 108) (v := 4) (lv' := [(6, .int 4), (7, .int x0), (0, .ref a0), (1, .int x0), (2, .int x1), (3, .int x2), (4, .int x3), (5, .int x4)]) hx hb dX12_feed_108 hl (k := 1) rfl (by decide +kernel) (by decide) rfl (fun ls hl => ?_)
  refine lv_goto (pc := 111) (tgt := 18) hx hb dX12_feed_111 (by decide) ?_
  refine lv_iload (pc := 18) hx hb dX12_feed_18 (lv_at hl 0 rfl) ?_
  refine lv_bipush (pc := 20) (v := 20) hx hb dX12_feed_20 (by decide) ?_
  refine lv_icmp_ge (pc := 22) (tgt := 114) hx hb dX12_feed_22 (by decide) (fun c => absurd c (by decide +kernel)) (fun _ => ?_)
  refine lv_iload (pc := 25) hx hb dX12_feed_25 (lv_at hl 0 rfl) ?_
  refine lv_iconst (pc := 27) (v := 4) hx hb dX12_feed_27 (by decide) ?_
  refine lv_icmp_ge (pc := 28) (tgt := 35) hx hb dX12_feed_28 (by decide) (fun _ => ?_) (fun c => absurd (by decide +kernel) c)
  refine lv_iload (pc := 35) hx hb dX12_feed_35 (lv_at hl 0 rfl) ?_
  refine lv_bipush (pc := 37) (v := 8) hx hb dX12_feed_37 (by decide) ?_
  refine lv_icmp_ge (pc := 39) (tgt := 46) hx hb dX12_feed_39 (by decide) (fun c => absurd c (by decide +kernel)) (fun _ => ?_)
  refine lv_iload_n (pc := 42) hx hb dX12_feed_42 rfl (lv_at hl 4 rfl) ?_
  refine lv_goto (pc := 43) (tgt := 71) hx hb dX12_feed_43 (by decide) ?_
  refine lv_istore (pc := 71) (lv' := [(7, .int x1), (6, .int 4), (0, .ref a0), (1, .int x0), (2, .int x1), (3, .int x2), (4, .int x3), (5, .int x4)]) hx hb dX12_feed_71 hl (by decide) rfl (fun ls hl => ?_)
  refine lv_aload_n (pc := 73) hx hb dX12_feed_73 rfl (lv_at hl 2 rfl) ?_
  refine va_get (pc := 74) (ci := 12) (v := .ref a1) (C := RX12) (T := TX12) (N := 73) hx hb hts iX12 hown hK hP 0 rfl rfl 0 (by decide) (hts _ tw_1401) (fun _ h9 => h9) rfl dX12_feed_74 ?_
  refine lv_aload_n (pc := 77) hx hb dX12_feed_77 rfl (lv_at hl 2 rfl) ?_
  refine va_get (pc := 78) (ci := 12) (v := .int 4) (C := RX12) (T := TX12) (N := 73) hx hb hts iX12 hown hK hP 0 rfl rfl 1 (by decide) (hts _ tw_1402) (fun _ h9 => h9) rfl dX12_feed_78 ?_
  refine lv_iload (pc := 81) hx hb dX12_feed_81 (lv_at hl 0 rfl) ?_
  refine lv_bipush (pc := 83) (v := 8) hx hb dX12_feed_83 (by decide) ?_
  refine lv_iconst (pc := 85) (v := 3) hx hb dX12_feed_85 (by decide) ?_
  refine lv_iload (pc := 86) hx hb dX12_feed_86 (lv_at hl 1 rfl) ?_
  refine lv_iconst (pc := 88) (v := 4) hx hb dX12_feed_88 (by decide) ?_
  refine lv_irem (pc := 89) hx hb dX12_feed_89 (by decide +kernel) ?_
  refine gI (y := 0) (by decide +kernel) ?_
  refine lv_isub (pc := 90) hx hb dX12_feed_90 ?_
  refine gI (y := 3) (by decide +kernel) ?_
  refine lv_imul (pc := 91) hx hb dX12_feed_91 ?_
  refine gI (y := 24) (by decide +kernel) ?_
  refine lv_ishr (pc := 92) hx hb dX12_feed_92 ?_
  refine lv_topi (fun x_13 ex_13 => ?_)
  refine lv_sipush (pc := 93) (v := 255) hx hb dX12_feed_93 (by decide) ?_
  refine lv_iand (pc := 96) hx hb dX12_feed_96 ?_
  refine lv_topi (fun x_14 ex_14 => ?_)
  refine g_iastore (pc := 97) hx hb hK hP hD hS 1 2 rfl rfl (gin rfl) dX12_feed_97 (fun f_15 H locs hP hD hS => ?_)
  have hP : va_P D gcl [(a0, .inr (12, [.ref a1, .int 4, .int 0, .int 0, .int 0, .int 0, .int 0, .int 0, .int (-1), .ref a2, .ref a3, .ref a4, .ref a5, .ref a6, .ref a7, .ref a8, .ref a9, .ref a10, .ref a11, .ref a12, .ref a13, .ref a14, .ref a15, .ref a16, .int 0, .int 0, .int 0, .int 0, .int 0, .int 9999, .ref a17, .ref a18, .ref a19, .int 0, .ref a20, .int 0, .ref a21, .int 0, .int 0, .ref a22, .ref a23, .ref a24, .ref a25, .int 0, .ref a26, .int 0, .ref a27, .ref a28, .ref a29, .long 0, .ref a30, .ref a31, .ref a32, .ref a33, .ref a34, .ref a35, .ref a36, .ref a37, .ref a38, .int 0, .int 0, .int 0, .long 0, .ref a39, .int 0, .ref a40, .ref a41, .ref a42, .ref a43, .int 0, .int 0, .int 0, .int 0])), (a1, .inl (cI, 1600, .inl f_15))] H := hP
  have hD : va_D A [(a0, .inr (12, [.ref a1, .int 4, .int 0, .int 0, .int 0, .int 0, .int 0, .int 0, .int (-1), .ref a2, .ref a3, .ref a4, .ref a5, .ref a6, .ref a7, .ref a8, .ref a9, .ref a10, .ref a11, .ref a12, .ref a13, .ref a14, .ref a15, .ref a16, .int 0, .int 0, .int 0, .int 0, .int 0, .int 9999, .ref a17, .ref a18, .ref a19, .int 0, .ref a20, .int 0, .ref a21, .int 0, .int 0, .ref a22, .ref a23, .ref a24, .ref a25, .int 0, .ref a26, .int 0, .ref a27, .ref a28, .ref a29, .long 0, .ref a30, .ref a31, .ref a32, .ref a33, .ref a34, .ref a35, .ref a36, .ref a37, .ref a38, .int 0, .int 0, .int 0, .long 0, .ref a39, .int 0, .ref a40, .ref a41, .ref a42, .ref a43, .int 0, .int 0, .int 0, .int 0])), (a1, .inl (cI, 1600, .inl f_15))] := hD
  refine lv_aload_n (pc := 98) hx hb dX12_feed_98 rfl (lv_at hl 2 rfl) ?_
  refine lv_dup (pc := 99) hx hb dX12_feed_99 rfl ?_
  refine va_get (pc := 100) (ci := 12) (v := .int 4) (C := RX12) (T := TX12) (N := 73) hx hb hts iX12 hown hK hP 0 rfl rfl 1 (by decide) (hts _ tw_1402) (fun _ h9 => h9) rfl dX12_feed_100 ?_
  refine lv_iconst (pc := 103) (v := 1) hx hb dX12_feed_103 (by decide) ?_
  refine lv_iadd (pc := 104) hx hb dX12_feed_104 ?_
  refine gI (y := 5) (by decide +kernel) ?_
  refine va_put (pc := 105) (ci := 12) (v := .int 5) (ty := .int) (C := RX12) (T := TX12) (N := 73) hx hb hts iX12 tyX12 tyX12_ok nmX12 hown hK hP hD hS 0 rfl rfl 1 (by decide) (hts _ tw_1402) (fun _ h9 => h9) rfl (by decide +kernel) (by decide +kernel) (by decide +kernel) (Nat.le_of_ble_eq_true rfl) dX12_feed_105 (fun H locs hP hD hS => ?_)
  have hP : va_P D gcl [(a0, .inr (12, [.ref a1, .int 5, .int 0, .int 0, .int 0, .int 0, .int 0, .int 0, .int (-1), .ref a2, .ref a3, .ref a4, .ref a5, .ref a6, .ref a7, .ref a8, .ref a9, .ref a10, .ref a11, .ref a12, .ref a13, .ref a14, .ref a15, .ref a16, .int 0, .int 0, .int 0, .int 0, .int 0, .int 9999, .ref a17, .ref a18, .ref a19, .int 0, .ref a20, .int 0, .ref a21, .int 0, .int 0, .ref a22, .ref a23, .ref a24, .ref a25, .int 0, .ref a26, .int 0, .ref a27, .ref a28, .ref a29, .long 0, .ref a30, .ref a31, .ref a32, .ref a33, .ref a34, .ref a35, .ref a36, .ref a37, .ref a38, .int 0, .int 0, .int 0, .long 0, .ref a39, .int 0, .ref a40, .ref a41, .ref a42, .ref a43, .int 0, .int 0, .int 0, .int 0])), (a1, .inl (cI, 1600, .inl f_15))] H := hP
  have hD : va_D A [(a0, .inr (12, [.ref a1, .int 5, .int 0, .int 0, .int 0, .int 0, .int 0, .int 0, .int (-1), .ref a2, .ref a3, .ref a4, .ref a5, .ref a6, .ref a7, .ref a8, .ref a9, .ref a10, .ref a11, .ref a12, .ref a13, .ref a14, .ref a15, .ref a16, .int 0, .int 0, .int 0, .int 0, .int 0, .int 9999, .ref a17, .ref a18, .ref a19, .int 0, .ref a20, .int 0, .ref a21, .int 0, .int 0, .ref a22, .ref a23, .ref a24, .ref a25, .int 0, .ref a26, .int 0, .ref a27, .ref a28, .ref a29, .long 0, .ref a30, .ref a31, .ref a32, .ref a33, .ref a34, .ref a35, .ref a36, .ref a37, .ref a38, .int 0, .int 0, .int 0, .long 0, .ref a39, .int 0, .ref a40, .ref a41, .ref a42, .ref a43, .int 0, .int 0, .int 0, .int 0])), (a1, .inl (cI, 1600, .inl f_15))] := hD
  refine lv_iinc (pc := 108) (v := 5) (lv' := [(6, .int 5), (7, .int x1), (0, .ref a0), (1, .int x0), (2, .int x1), (3, .int x2), (4, .int x3), (5, .int x4)]) hx hb dX12_feed_108 hl (k := 1) rfl (by decide +kernel) (by decide) rfl (fun ls hl => ?_)
  refine lv_goto (pc := 111) (tgt := 18) hx hb dX12_feed_111 (by decide) ?_
  refine lv_iload (pc := 18) hx hb dX12_feed_18 (lv_at hl 0 rfl) ?_
  refine lv_bipush (pc := 20) (v := 20) hx hb dX12_feed_20 (by decide) ?_
  refine lv_icmp_ge (pc := 22) (tgt := 114) hx hb dX12_feed_22 (by decide) (fun c => absurd c (by decide +kernel)) (fun _ => ?_)
  refine lv_iload (pc := 25) hx hb dX12_feed_25 (lv_at hl 0 rfl) ?_
  refine lv_iconst (pc := 27) (v := 4) hx hb dX12_feed_27 (by decide) ?_
  refine lv_icmp_ge (pc := 28) (tgt := 35) hx hb dX12_feed_28 (by decide) (fun _ => ?_) (fun c => absurd (by decide +kernel) c)
  refine lv_iload (pc := 35) hx hb dX12_feed_35 (lv_at hl 0 rfl) ?_
  refine lv_bipush (pc := 37) (v := 8) hx hb dX12_feed_37 (by decide) ?_
  refine lv_icmp_ge (pc := 39) (tgt := 46) hx hb dX12_feed_39 (by decide) (fun c => absurd c (by decide +kernel)) (fun _ => ?_)
  refine lv_iload_n (pc := 42) hx hb dX12_feed_42 rfl (lv_at hl 4 rfl) ?_
  refine lv_goto (pc := 43) (tgt := 71) hx hb dX12_feed_43 (by decide) ?_
  refine lv_istore (pc := 71) (lv' := [(7, .int x1), (6, .int 5), (0, .ref a0), (1, .int x0), (2, .int x1), (3, .int x2), (4, .int x3), (5, .int x4)]) hx hb dX12_feed_71 hl (by decide) rfl (fun ls hl => ?_)
  refine lv_aload_n (pc := 73) hx hb dX12_feed_73 rfl (lv_at hl 2 rfl) ?_
  refine va_get (pc := 74) (ci := 12) (v := .ref a1) (C := RX12) (T := TX12) (N := 73) hx hb hts iX12 hown hK hP 0 rfl rfl 0 (by decide) (hts _ tw_1401) (fun _ h9 => h9) rfl dX12_feed_74 ?_
  refine lv_aload_n (pc := 77) hx hb dX12_feed_77 rfl (lv_at hl 2 rfl) ?_
  refine va_get (pc := 78) (ci := 12) (v := .int 5) (C := RX12) (T := TX12) (N := 73) hx hb hts iX12 hown hK hP 0 rfl rfl 1 (by decide) (hts _ tw_1402) (fun _ h9 => h9) rfl dX12_feed_78 ?_
  refine lv_iload (pc := 81) hx hb dX12_feed_81 (lv_at hl 0 rfl) ?_
  refine lv_bipush (pc := 83) (v := 8) hx hb dX12_feed_83 (by decide) ?_
  refine lv_iconst (pc := 85) (v := 3) hx hb dX12_feed_85 (by decide) ?_
  refine lv_iload (pc := 86) hx hb dX12_feed_86 (lv_at hl 1 rfl) ?_
  refine lv_iconst (pc := 88) (v := 4) hx hb dX12_feed_88 (by decide) ?_
  refine lv_irem (pc := 89) hx hb dX12_feed_89 (by decide +kernel) ?_
  refine gI (y := 1) (by decide +kernel) ?_
  refine lv_isub (pc := 90) hx hb dX12_feed_90 ?_
  refine gI (y := 2) (by decide +kernel) ?_
  refine lv_imul (pc := 91) hx hb dX12_feed_91 ?_
  refine gI (y := 16) (by decide +kernel) ?_
  refine lv_ishr (pc := 92) hx hb dX12_feed_92 ?_
  refine lv_topi (fun x_16 ex_16 => ?_)
  refine lv_sipush (pc := 93) (v := 255) hx hb dX12_feed_93 (by decide) ?_
  refine lv_iand (pc := 96) hx hb dX12_feed_96 ?_
  refine lv_topi (fun x_17 ex_17 => ?_)
  refine g_iastore (pc := 97) hx hb hK hP hD hS 1 2 rfl rfl (gin rfl) dX12_feed_97 (fun f_18 H locs hP hD hS => ?_)
  have hP : va_P D gcl [(a0, .inr (12, [.ref a1, .int 5, .int 0, .int 0, .int 0, .int 0, .int 0, .int 0, .int (-1), .ref a2, .ref a3, .ref a4, .ref a5, .ref a6, .ref a7, .ref a8, .ref a9, .ref a10, .ref a11, .ref a12, .ref a13, .ref a14, .ref a15, .ref a16, .int 0, .int 0, .int 0, .int 0, .int 0, .int 9999, .ref a17, .ref a18, .ref a19, .int 0, .ref a20, .int 0, .ref a21, .int 0, .int 0, .ref a22, .ref a23, .ref a24, .ref a25, .int 0, .ref a26, .int 0, .ref a27, .ref a28, .ref a29, .long 0, .ref a30, .ref a31, .ref a32, .ref a33, .ref a34, .ref a35, .ref a36, .ref a37, .ref a38, .int 0, .int 0, .int 0, .long 0, .ref a39, .int 0, .ref a40, .ref a41, .ref a42, .ref a43, .int 0, .int 0, .int 0, .int 0])), (a1, .inl (cI, 1600, .inl f_18))] H := hP
  have hD : va_D A [(a0, .inr (12, [.ref a1, .int 5, .int 0, .int 0, .int 0, .int 0, .int 0, .int 0, .int (-1), .ref a2, .ref a3, .ref a4, .ref a5, .ref a6, .ref a7, .ref a8, .ref a9, .ref a10, .ref a11, .ref a12, .ref a13, .ref a14, .ref a15, .ref a16, .int 0, .int 0, .int 0, .int 0, .int 0, .int 9999, .ref a17, .ref a18, .ref a19, .int 0, .ref a20, .int 0, .ref a21, .int 0, .int 0, .ref a22, .ref a23, .ref a24, .ref a25, .int 0, .ref a26, .int 0, .ref a27, .ref a28, .ref a29, .long 0, .ref a30, .ref a31, .ref a32, .ref a33, .ref a34, .ref a35, .ref a36, .ref a37, .ref a38, .int 0, .int 0, .int 0, .long 0, .ref a39, .int 0, .ref a40, .ref a41, .ref a42, .ref a43, .int 0, .int 0, .int 0, .int 0])), (a1, .inl (cI, 1600, .inl f_18))] := hD
  refine lv_aload_n (pc := 98) hx hb dX12_feed_98 rfl (lv_at hl 2 rfl) ?_
  refine lv_dup (pc := 99) hx hb dX12_feed_99 rfl ?_
  refine va_get (pc := 100) (ci := 12) (v := .int 5) (C := RX12) (T := TX12) (N := 73) hx hb hts iX12 hown hK hP 0 rfl rfl 1 (by decide) (hts _ tw_1402) (fun _ h9 => h9) rfl dX12_feed_100 ?_
  refine lv_iconst (pc := 103) (v := 1) hx hb dX12_feed_103 (by decide) ?_
  refine lv_iadd (pc := 104) hx hb dX12_feed_104 ?_
  refine gI (y := 6) (by decide +kernel) ?_
  refine va_put (pc := 105) (ci := 12) (v := .int 6) (ty := .int) (C := RX12) (T := TX12) (N := 73) hx hb hts iX12 tyX12 tyX12_ok nmX12 hown hK hP hD hS 0 rfl rfl 1 (by decide) (hts _ tw_1402) (fun _ h9 => h9) rfl (by decide +kernel) (by decide +kernel) (by decide +kernel) (Nat.le_of_ble_eq_true rfl) dX12_feed_105 (fun H locs hP hD hS => ?_)
  have hP : va_P D gcl [(a0, .inr (12, [.ref a1, .int 6, .int 0, .int 0, .int 0, .int 0, .int 0, .int 0, .int (-1), .ref a2, .ref a3, .ref a4, .ref a5, .ref a6, .ref a7, .ref a8, .ref a9, .ref a10, .ref a11, .ref a12, .ref a13, .ref a14, .ref a15, .ref a16, .int 0, .int 0, .int 0, .int 0, .int 0, .int 9999, .ref a17, .ref a18, .ref a19, .int 0, .ref a20, .int 0, .ref a21, .int 0, .int 0, .ref a22, .ref a23, .ref a24, .ref a25, .int 0, .ref a26, .int 0, .ref a27, .ref a28, .ref a29, .long 0, .ref a30, .ref a31, .ref a32, .ref a33, .ref a34, .ref a35, .ref a36, .ref a37, .ref a38, .int 0, .int 0, .int 0, .long 0, .ref a39, .int 0, .ref a40, .ref a41, .ref a42, .ref a43, .int 0, .int 0, .int 0, .int 0])), (a1, .inl (cI, 1600, .inl f_18))] H := hP
  have hD : va_D A [(a0, .inr (12, [.ref a1, .int 6, .int 0, .int 0, .int 0, .int 0, .int 0, .int 0, .int (-1), .ref a2, .ref a3, .ref a4, .ref a5, .ref a6, .ref a7, .ref a8, .ref a9, .ref a10, .ref a11, .ref a12, .ref a13, .ref a14, .ref a15, .ref a16, .int 0, .int 0, .int 0, .int 0, .int 0, .int 9999, .ref a17, .ref a18, .ref a19, .int 0, .ref a20, .int 0, .ref a21, .int 0, .int 0, .ref a22, .ref a23, .ref a24, .ref a25, .int 0, .ref a26, .int 0, .ref a27, .ref a28, .ref a29, .long 0, .ref a30, .ref a31, .ref a32, .ref a33, .ref a34, .ref a35, .ref a36, .ref a37, .ref a38, .int 0, .int 0, .int 0, .long 0, .ref a39, .int 0, .ref a40, .ref a41, .ref a42, .ref a43, .int 0, .int 0, .int 0, .int 0])), (a1, .inl (cI, 1600, .inl f_18))] := hD
  refine lv_iinc (pc := 108) (v := 6) (lv' := [(6, .int 6), (7, .int x1), (0, .ref a0), (1, .int x0), (2, .int x1), (3, .int x2), (4, .int x3), (5, .int x4)]) hx hb dX12_feed_108 hl (k := 1) rfl (by decide +kernel) (by decide) rfl (fun ls hl => ?_)
  refine lv_goto (pc := 111) (tgt := 18) hx hb dX12_feed_111 (by decide) ?_
  refine lv_iload (pc := 18) hx hb dX12_feed_18 (lv_at hl 0 rfl) ?_
  refine lv_bipush (pc := 20) (v := 20) hx hb dX12_feed_20 (by decide) ?_
  refine lv_icmp_ge (pc := 22) (tgt := 114) hx hb dX12_feed_22 (by decide) (fun c => absurd c (by decide +kernel)) (fun _ => ?_)
  refine lv_iload (pc := 25) hx hb dX12_feed_25 (lv_at hl 0 rfl) ?_
  refine lv_iconst (pc := 27) (v := 4) hx hb dX12_feed_27 (by decide) ?_
  refine lv_icmp_ge (pc := 28) (tgt := 35) hx hb dX12_feed_28 (by decide) (fun _ => ?_) (fun c => absurd (by decide +kernel) c)
  refine lv_iload (pc := 35) hx hb dX12_feed_35 (lv_at hl 0 rfl) ?_
  refine lv_bipush (pc := 37) (v := 8) hx hb dX12_feed_37 (by decide) ?_
  refine lv_icmp_ge (pc := 39) (tgt := 46) hx hb dX12_feed_39 (by decide) (fun c => absurd c (by decide +kernel)) (fun _ => ?_)
  refine lv_iload_n (pc := 42) hx hb dX12_feed_42 rfl (lv_at hl 4 rfl) ?_
  refine lv_goto (pc := 43) (tgt := 71) hx hb dX12_feed_43 (by decide) ?_
  refine lv_istore (pc := 71) (lv' := [(7, .int x1), (6, .int 6), (0, .ref a0), (1, .int x0), (2, .int x1), (3, .int x2), (4, .int x3), (5, .int x4)]) hx hb dX12_feed_71 hl (by decide) rfl (fun ls hl => ?_)
  refine lv_aload_n (pc := 73) hx hb dX12_feed_73 rfl (lv_at hl 2 rfl) ?_
  refine va_get (pc := 74) (ci := 12) (v := .ref a1) (C := RX12) (T := TX12) (N := 73) hx hb hts iX12 hown hK hP 0 rfl rfl 0 (by decide) (hts _ tw_1401) (fun _ h9 => h9) rfl dX12_feed_74 ?_
  refine lv_aload_n (pc := 77) hx hb dX12_feed_77 rfl (lv_at hl 2 rfl) ?_
  refine va_get (pc := 78) (ci := 12) (v := .int 6) (C := RX12) (T := TX12) (N := 73) hx hb hts iX12 hown hK hP 0 rfl rfl 1 (by decide) (hts _ tw_1402) (fun _ h9 => h9) rfl dX12_feed_78 ?_
  refine lv_iload (pc := 81) hx hb dX12_feed_81 (lv_at hl 0 rfl) ?_
  refine lv_bipush (pc := 83) (v := 8) hx hb dX12_feed_83 (by decide) ?_
  refine lv_iconst (pc := 85) (v := 3) hx hb dX12_feed_85 (by decide) ?_
  refine lv_iload (pc := 86) hx hb dX12_feed_86 (lv_at hl 1 rfl) ?_
  refine lv_iconst (pc := 88) (v := 4) hx hb dX12_feed_88 (by decide) ?_
  refine lv_irem (pc := 89) hx hb dX12_feed_89 (by decide +kernel) ?_
  refine gI (y := 2) (by decide +kernel) ?_
  refine lv_isub (pc := 90) hx hb dX12_feed_90 ?_
  refine gI (y := 1) (by decide +kernel) ?_
  refine lv_imul (pc := 91) hx hb dX12_feed_91 ?_
  refine gI (y := 8) (by decide +kernel) ?_
  refine lv_ishr (pc := 92) hx hb dX12_feed_92 ?_
  refine lv_topi (fun x_19 ex_19 => ?_)
  refine lv_sipush (pc := 93) (v := 255) hx hb dX12_feed_93 (by decide) ?_
  refine lv_iand (pc := 96) hx hb dX12_feed_96 ?_
  refine lv_topi (fun x_20 ex_20 => ?_)
  refine g_iastore (pc := 97) hx hb hK hP hD hS 1 2 rfl rfl (gin rfl) dX12_feed_97 (fun f_21 H locs hP hD hS => ?_)
  have hP : va_P D gcl [(a0, .inr (12, [.ref a1, .int 6, .int 0, .int 0, .int 0, .int 0, .int 0, .int 0, .int (-1), .ref a2, .ref a3, .ref a4, .ref a5, .ref a6, .ref a7, .ref a8, .ref a9, .ref a10, .ref a11, .ref a12, .ref a13, .ref a14, .ref a15, .ref a16, .int 0, .int 0, .int 0, .int 0, .int 0, .int 9999, .ref a17, .ref a18, .ref a19, .int 0, .ref a20, .int 0, .ref a21, .int 0, .int 0, .ref a22, .ref a23, .ref a24, .ref a25, .int 0, .ref a26, .int 0, .ref a27, .ref a28, .ref a29, .long 0, .ref a30, .ref a31, .ref a32, .ref a33, .ref a34, .ref a35, .ref a36, .ref a37, .ref a38, .int 0, .int 0, .int 0, .long 0, .ref a39, .int 0, .ref a40, .ref a41, .ref a42, .ref a43, .int 0, .int 0, .int 0, .int 0])), (a1, .inl (cI, 1600, .inl f_21))] H := hP
  have hD : va_D A [(a0, .inr (12, [.ref a1, .int 6, .int 0, .int 0, .int 0, .int 0, .int 0, .int 0, .int (-1), .ref a2, .ref a3, .ref a4, .ref a5, .ref a6, .ref a7, .ref a8, .ref a9, .ref a10, .ref a11, .ref a12, .ref a13, .ref a14, .ref a15, .ref a16, .int 0, .int 0, .int 0, .int 0, .int 0, .int 9999, .ref a17, .ref a18, .ref a19, .int 0, .ref a20, .int 0, .ref a21, .int 0, .int 0, .ref a22, .ref a23, .ref a24, .ref a25, .int 0, .ref a26, .int 0, .ref a27, .ref a28, .ref a29, .long 0, .ref a30, .ref a31, .ref a32, .ref a33, .ref a34, .ref a35, .ref a36, .ref a37, .ref a38, .int 0, .int 0, .int 0, .long 0, .ref a39, .int 0, .ref a40, .ref a41, .ref a42, .ref a43, .int 0, .int 0, .int 0, .int 0])), (a1, .inl (cI, 1600, .inl f_21))] := hD
  refine lv_aload_n (pc := 98) hx hb dX12_feed_98 rfl (lv_at hl 2 rfl) ?_
  refine lv_dup (pc := 99) hx hb dX12_feed_99 rfl ?_
  refine va_get (pc := 100) (ci := 12) (v := .int 6) (C := RX12) (T := TX12) (N := 73) hx hb hts iX12 hown hK hP 0 rfl rfl 1 (by decide) (hts _ tw_1402) (fun _ h9 => h9) rfl dX12_feed_100 ?_
  refine lv_iconst (pc := 103) (v := 1) hx hb dX12_feed_103 (by decide) ?_
  refine lv_iadd (pc := 104) hx hb dX12_feed_104 ?_
  refine gI (y := 7) (by decide +kernel) ?_
  refine va_put (pc := 105) (ci := 12) (v := .int 7) (ty := .int) (C := RX12) (T := TX12) (N := 73) hx hb hts iX12 tyX12 tyX12_ok nmX12 hown hK hP hD hS 0 rfl rfl 1 (by decide) (hts _ tw_1402) (fun _ h9 => h9) rfl (by decide +kernel) (by decide +kernel) (by decide +kernel) (Nat.le_of_ble_eq_true rfl) dX12_feed_105 (fun H locs hP hD hS => ?_)
  have hP : va_P D gcl [(a0, .inr (12, [.ref a1, .int 7, .int 0, .int 0, .int 0, .int 0, .int 0, .int 0, .int (-1), .ref a2, .ref a3, .ref a4, .ref a5, .ref a6, .ref a7, .ref a8, .ref a9, .ref a10, .ref a11, .ref a12, .ref a13, .ref a14, .ref a15, .ref a16, .int 0, .int 0, .int 0, .int 0, .int 0, .int 9999, .ref a17, .ref a18, .ref a19, .int 0, .ref a20, .int 0, .ref a21, .int 0, .int 0, .ref a22, .ref a23, .ref a24, .ref a25, .int 0, .ref a26, .int 0, .ref a27, .ref a28, .ref a29, .long 0, .ref a30, .ref a31, .ref a32, .ref a33, .ref a34, .ref a35, .ref a36, .ref a37, .ref a38, .int 0, .int 0, .int 0, .long 0, .ref a39, .int 0, .ref a40, .ref a41, .ref a42, .ref a43, .int 0, .int 0, .int 0, .int 0])), (a1, .inl (cI, 1600, .inl f_21))] H := hP
  have hD : va_D A [(a0, .inr (12, [.ref a1, .int 7, .int 0, .int 0, .int 0, .int 0, .int 0, .int 0, .int (-1), .ref a2, .ref a3, .ref a4, .ref a5, .ref a6, .ref a7, .ref a8, .ref a9, .ref a10, .ref a11, .ref a12, .ref a13, .ref a14, .ref a15, .ref a16, .int 0, .int 0, .int 0, .int 0, .int 0, .int 9999, .ref a17, .ref a18, .ref a19, .int 0, .ref a20, .int 0, .ref a21, .int 0, .int 0, .ref a22, .ref a23, .ref a24, .ref a25, .int 0, .ref a26, .int 0, .ref a27, .ref a28, .ref a29, .long 0, .ref a30, .ref a31, .ref a32, .ref a33, .ref a34, .ref a35, .ref a36, .ref a37, .ref a38, .int 0, .int 0, .int 0, .long 0, .ref a39, .int 0, .ref a40, .ref a41, .ref a42, .ref a43, .int 0, .int 0, .int 0, .int 0])), (a1, .inl (cI, 1600, .inl f_21))] := hD
  refine lv_iinc (pc := 108) (v := 7) (lv' := [(6, .int 7), (7, .int x1), (0, .ref a0), (1, .int x0), (2, .int x1), (3, .int x2), (4, .int x3), (5, .int x4)]) hx hb dX12_feed_108 hl (k := 1) rfl (by decide +kernel) (by decide) rfl (fun ls hl => ?_)
  refine lv_goto (pc := 111) (tgt := 18) hx hb dX12_feed_111 (by decide) ?_
  refine lv_iload (pc := 18) hx hb dX12_feed_18 (lv_at hl 0 rfl) ?_
  refine lv_bipush (pc := 20) (v := 20) hx hb dX12_feed_20 (by decide) ?_
  refine lv_icmp_ge (pc := 22) (tgt := 114) hx hb dX12_feed_22 (by decide) (fun c => absurd c (by decide +kernel)) (fun _ => ?_)
  refine lv_iload (pc := 25) hx hb dX12_feed_25 (lv_at hl 0 rfl) ?_
  refine lv_iconst (pc := 27) (v := 4) hx hb dX12_feed_27 (by decide) ?_
  refine lv_icmp_ge (pc := 28) (tgt := 35) hx hb dX12_feed_28 (by decide) (fun _ => ?_) (fun c => absurd (by decide +kernel) c)
  refine lv_iload (pc := 35) hx hb dX12_feed_35 (lv_at hl 0 rfl) ?_
  refine lv_bipush (pc := 37) (v := 8) hx hb dX12_feed_37 (by decide) ?_
  refine lv_icmp_ge (pc := 39) (tgt := 46) hx hb dX12_feed_39 (by decide) (fun c => absurd c (by decide +kernel)) (fun _ => ?_)
  refine lv_iload_n (pc := 42) hx hb dX12_feed_42 rfl (lv_at hl 4 rfl) ?_
  refine lv_goto (pc := 43) (tgt := 71) hx hb dX12_feed_43 (by decide) ?_
  refine lv_istore (pc := 71) (lv' := [(7, .int x1), (6, .int 7), (0, .ref a0), (1, .int x0), (2, .int x1), (3, .int x2), (4, .int x3), (5, .int x4)]) hx hb dX12_feed_71 hl (by decide) rfl (fun ls hl => ?_)
  refine lv_aload_n (pc := 73) hx hb dX12_feed_73 rfl (lv_at hl 2 rfl) ?_
  refine va_get (pc := 74) (ci := 12) (v := .ref a1) (C := RX12) (T := TX12) (N := 73) hx hb hts iX12 hown hK hP 0 rfl rfl 0 (by decide) (hts _ tw_1401) (fun _ h9 => h9) rfl dX12_feed_74 ?_
  refine lv_aload_n (pc := 77) hx hb dX12_feed_77 rfl (lv_at hl 2 rfl) ?_
  refine va_get (pc := 78) (ci := 12) (v := .int 7) (C := RX12) (T := TX12) (N := 73) hx hb hts iX12 hown hK hP 0 rfl rfl 1 (by decide) (hts _ tw_1402) (fun _ h9 => h9) rfl dX12_feed_78 ?_
  refine lv_iload (pc := 81) hx hb dX12_feed_81 (lv_at hl 0 rfl) ?_
  refine lv_bipush (pc := 83) (v := 8) hx hb dX12_feed_83 (by decide) ?_
  refine lv_iconst (pc := 85) (v := 3) hx hb dX12_feed_85 (by decide) ?_
  refine lv_iload (pc := 86) hx hb dX12_feed_86 (lv_at hl 1 rfl) ?_
  refine lv_iconst (pc := 88) (v := 4) hx hb dX12_feed_88 (by decide) ?_
  refine lv_irem (pc := 89) hx hb dX12_feed_89 (by decide +kernel) ?_
  refine gI (y := 3) (by decide +kernel) ?_
  refine lv_isub (pc := 90) hx hb dX12_feed_90 ?_
  refine gI (y := 0) (by decide +kernel) ?_
  refine lv_imul (pc := 91) hx hb dX12_feed_91 ?_
  refine gI (y := 0) (by decide +kernel) ?_
  refine lv_ishr (pc := 92) hx hb dX12_feed_92 ?_
  refine lv_topi (fun x_22 ex_22 => ?_)
  refine lv_sipush (pc := 93) (v := 255) hx hb dX12_feed_93 (by decide) ?_
  refine lv_iand (pc := 96) hx hb dX12_feed_96 ?_
  refine lv_topi (fun x_23 ex_23 => ?_)
  refine g_iastore (pc := 97) hx hb hK hP hD hS 1 2 rfl rfl (gin rfl) dX12_feed_97 (fun f_24 H locs hP hD hS => ?_)
  have hP : va_P D gcl [(a0, .inr (12, [.ref a1, .int 7, .int 0, .int 0, .int 0, .int 0, .int 0, .int 0, .int (-1), .ref a2, .ref a3, .ref a4, .ref a5, .ref a6, .ref a7, .ref a8, .ref a9, .ref a10, .ref a11, .ref a12, .ref a13, .ref a14, .ref a15, .ref a16, .int 0, .int 0, .int 0, .int 0, .int 0, .int 9999, .ref a17, .ref a18, .ref a19, .int 0, .ref a20, .int 0, .ref a21, .int 0, .int 0, .ref a22, .ref a23, .ref a24, .ref a25, .int 0, .ref a26, .int 0, .ref a27, .ref a28, .ref a29, .long 0, .ref a30, .ref a31, .ref a32, .ref a33, .ref a34, .ref a35, .ref a36, .ref a37, .ref a38, .int 0, .int 0, .int 0, .long 0, .ref a39, .int 0, .ref a40, .ref a41, .ref a42, .ref a43, .int 0, .int 0, .int 0, .int 0])), (a1, .inl (cI, 1600, .inl f_24))] H := hP
  have hD : va_D A [(a0, .inr (12, [.ref a1, .int 7, .int 0, .int 0, .int 0, .int 0, .int 0, .int 0, .int (-1), .ref a2, .ref a3, .ref a4, .ref a5, .ref a6, .ref a7, .ref a8, .ref a9, .ref a10, .ref a11, .ref a12, .ref a13, .ref a14, .ref a15, .ref a16, .int 0, .int 0, .int 0, .int 0, .int 0, .int 9999, .ref a17, .ref a18, .ref a19, .int 0, .ref a20, .int 0, .ref a21, .int 0, .int 0, .ref a22, .ref a23, .ref a24, .ref a25, .int 0, .ref a26, .int 0, .ref a27, .ref a28, .ref a29, .long 0, .ref a30, .ref a31, .ref a32, .ref a33, .ref a34, .ref a35, .ref a36, .ref a37, .ref a38, .int 0, .int 0, .int 0, .long 0, .ref a39, .int 0, .ref a40, .ref a41, .ref a42, .ref a43, .int 0, .int 0, .int 0, .int 0])), (a1, .inl (cI, 1600, .inl f_24))] := hD
  refine lv_aload_n (pc := 98) hx hb dX12_feed_98 rfl (lv_at hl 2 rfl) ?_
  refine lv_dup (pc := 99) hx hb dX12_feed_99 rfl ?_
  refine va_get (pc := 100) (ci := 12) (v := .int 7) (C := RX12) (T := TX12) (N := 73) hx hb hts iX12 hown hK hP 0 rfl rfl 1 (by decide) (hts _ tw_1402) (fun _ h9 => h9) rfl dX12_feed_100 ?_
  refine lv_iconst (pc := 103) (v := 1) hx hb dX12_feed_103 (by decide) ?_
  refine lv_iadd (pc := 104) hx hb dX12_feed_104 ?_
  refine gI (y := 8) (by decide +kernel) ?_
  refine va_put (pc := 105) (ci := 12) (v := .int 8) (ty := .int) (C := RX12) (T := TX12) (N := 73) hx hb hts iX12 tyX12 tyX12_ok nmX12 hown hK hP hD hS 0 rfl rfl 1 (by decide) (hts _ tw_1402) (fun _ h9 => h9) rfl (by decide +kernel) (by decide +kernel) (by decide +kernel) (Nat.le_of_ble_eq_true rfl) dX12_feed_105 (fun H locs hP hD hS => ?_)
  have hP : va_P D gcl [(a0, .inr (12, [.ref a1, .int 8, .int 0, .int 0, .int 0, .int 0, .int 0, .int 0, .int (-1), .ref a2, .ref a3, .ref a4, .ref a5, .ref a6, .ref a7, .ref a8, .ref a9, .ref a10, .ref a11, .ref a12, .ref a13, .ref a14, .ref a15, .ref a16, .int 0, .int 0, .int 0, .int 0, .int 0, .int 9999, .ref a17, .ref a18, .ref a19, .int 0, .ref a20, .int 0, .ref a21, .int 0, .int 0, .ref a22, .ref a23, .ref a24, .ref a25, .int 0, .ref a26, .int 0, .ref a27, .ref a28, .ref a29, .long 0, .ref a30, .ref a31, .ref a32, .ref a33, .ref a34, .ref a35, .ref a36, .ref a37, .ref a38, .int 0, .int 0, .int 0, .long 0, .ref a39, .int 0, .ref a40, .ref a41, .ref a42, .ref a43, .int 0, .int 0, .int 0, .int 0])), (a1, .inl (cI, 1600, .inl f_24))] H := hP
  have hD : va_D A [(a0, .inr (12, [.ref a1, .int 8, .int 0, .int 0, .int 0, .int 0, .int 0, .int 0, .int (-1), .ref a2, .ref a3, .ref a4, .ref a5, .ref a6, .ref a7, .ref a8, .ref a9, .ref a10, .ref a11, .ref a12, .ref a13, .ref a14, .ref a15, .ref a16, .int 0, .int 0, .int 0, .int 0, .int 0, .int 9999, .ref a17, .ref a18, .ref a19, .int 0, .ref a20, .int 0, .ref a21, .int 0, .int 0, .ref a22, .ref a23, .ref a24, .ref a25, .int 0, .ref a26, .int 0, .ref a27, .ref a28, .ref a29, .long 0, .ref a30, .ref a31, .ref a32, .ref a33, .ref a34, .ref a35, .ref a36, .ref a37, .ref a38, .int 0, .int 0, .int 0, .long 0, .ref a39, .int 0, .ref a40, .ref a41, .ref a42, .ref a43, .int 0, .int 0, .int 0, .int 0])), (a1, .inl (cI, 1600, .inl f_24))] := hD
  refine lv_iinc (pc := 108) (v := 8) (lv' := [(6, .int 8), (7, .int x1), (0, .ref a0), (1, .int x0), (2, .int x1), (3, .int x2), (4, .int x3), (5, .int x4)]) hx hb dX12_feed_108 hl (k := 1) rfl (by decide +kernel) (by decide) rfl (fun ls hl => ?_)
  refine lv_goto (pc := 111) (tgt := 18) hx hb dX12_feed_111 (by decide) ?_
  refine lv_iload (pc := 18) hx hb dX12_feed_18 (lv_at hl 0 rfl) ?_
  refine lv_bipush (pc := 20) (v := 20) hx hb dX12_feed_20 (by decide) ?_
  refine lv_icmp_ge (pc := 22) (tgt := 114) hx hb dX12_feed_22 (by decide) (fun c => absurd c (by decide +kernel)) (fun _ => ?_)
  refine lv_iload (pc := 25) hx hb dX12_feed_25 (lv_at hl 0 rfl) ?_
  refine lv_iconst (pc := 27) (v := 4) hx hb dX12_feed_27 (by decide) ?_
  refine lv_icmp_ge (pc := 28) (tgt := 35) hx hb dX12_feed_28 (by decide) (fun _ => ?_) (fun c => absurd (by decide +kernel) c)
  refine lv_iload (pc := 35) hx hb dX12_feed_35 (lv_at hl 0 rfl) ?_
  refine lv_bipush (pc := 37) (v := 8) hx hb dX12_feed_37 (by decide) ?_
  refine lv_icmp_ge (pc := 39) (tgt := 46) hx hb dX12_feed_39 (by decide) (fun _ => ?_) (fun c => absurd (by decide +kernel) c)
  refine lv_iload (pc := 46) hx hb dX12_feed_46 (lv_at hl 0 rfl) ?_
  refine lv_bipush (pc := 48) (v := 12) hx hb dX12_feed_48 (by decide) ?_
  refine lv_icmp_ge (pc := 50) (tgt := 57) hx hb dX12_feed_50 (by decide) (fun c => absurd c (by decide +kernel)) (fun _ => ?_)
  refine lv_iload_n (pc := 53) hx hb dX12_feed_53 rfl (lv_at hl 5 rfl) ?_
  refine lv_goto (pc := 54) (tgt := 71) hx hb dX12_feed_54 (by decide) ?_
  refine lv_istore (pc := 71) (lv' := [(7, .int x2), (6, .int 8), (0, .ref a0), (1, .int x0), (2, .int x1), (3, .int x2), (4, .int x3), (5, .int x4)]) hx hb dX12_feed_71 hl (by decide) rfl (fun ls hl => ?_)
  refine lv_aload_n (pc := 73) hx hb dX12_feed_73 rfl (lv_at hl 2 rfl) ?_
  refine va_get (pc := 74) (ci := 12) (v := .ref a1) (C := RX12) (T := TX12) (N := 73) hx hb hts iX12 hown hK hP 0 rfl rfl 0 (by decide) (hts _ tw_1401) (fun _ h9 => h9) rfl dX12_feed_74 ?_
  refine lv_aload_n (pc := 77) hx hb dX12_feed_77 rfl (lv_at hl 2 rfl) ?_
  refine va_get (pc := 78) (ci := 12) (v := .int 8) (C := RX12) (T := TX12) (N := 73) hx hb hts iX12 hown hK hP 0 rfl rfl 1 (by decide) (hts _ tw_1402) (fun _ h9 => h9) rfl dX12_feed_78 ?_
  refine lv_iload (pc := 81) hx hb dX12_feed_81 (lv_at hl 0 rfl) ?_
  refine lv_bipush (pc := 83) (v := 8) hx hb dX12_feed_83 (by decide) ?_
  refine lv_iconst (pc := 85) (v := 3) hx hb dX12_feed_85 (by decide) ?_
  refine lv_iload (pc := 86) hx hb dX12_feed_86 (lv_at hl 1 rfl) ?_
  refine lv_iconst (pc := 88) (v := 4) hx hb dX12_feed_88 (by decide) ?_
  refine lv_irem (pc := 89) hx hb dX12_feed_89 (by decide +kernel) ?_
  refine gI (y := 0) (by decide +kernel) ?_
  refine lv_isub (pc := 90) hx hb dX12_feed_90 ?_
  refine gI (y := 3) (by decide +kernel) ?_
  refine lv_imul (pc := 91) hx hb dX12_feed_91 ?_
  refine gI (y := 24) (by decide +kernel) ?_
  refine lv_ishr (pc := 92) hx hb dX12_feed_92 ?_
  refine lv_topi (fun x_25 ex_25 => ?_)
  refine lv_sipush (pc := 93) (v := 255) hx hb dX12_feed_93 (by decide) ?_
  refine lv_iand (pc := 96) hx hb dX12_feed_96 ?_
  refine lv_topi (fun x_26 ex_26 => ?_)
  refine g_iastore (pc := 97) hx hb hK hP hD hS 1 2 rfl rfl (gin rfl) dX12_feed_97 (fun f_27 H locs hP hD hS => ?_)
  have hP : va_P D gcl [(a0, .inr (12, [.ref a1, .int 8, .int 0, .int 0, .int 0, .int 0, .int 0, .int 0, .int (-1), .ref a2, .ref a3, .ref a4, .ref a5, .ref a6, .ref a7, .ref a8, .ref a9, .ref a10, .ref a11, .ref a12, .ref a13, .ref a14, .ref a15, .ref a16, .int 0, .int 0, .int 0, .int 0, .int 0, .int 9999, .ref a17, .ref a18, .ref a19, .int 0, .ref a20, .int 0, .ref a21, .int 0, .int 0, .ref a22, .ref a23, .ref a24, .ref a25, .int 0, .ref a26, .int 0, .ref a27, .ref a28, .ref a29, .long 0, .ref a30, .ref a31, .ref a32, .ref a33, .ref a34, .ref a35, .ref a36, .ref a37, .ref a38, .int 0, .int 0, .int 0, .long 0, .ref a39, .int 0, .ref a40, .ref a41, .ref a42, .ref a43, .int 0, .int 0, .int 0, .int 0])), (a1, .inl (cI, 1600, .inl f_27))] H := hP
  have hD : va_D A [(a0, .inr (12, [.ref a1, .int 8, .int 0, .int 0, .int 0, .int 0, .int 0, .int 0, .int (-1), .ref a2, .ref a3, .ref a4, .ref a5, .ref a6, .ref a7, .ref a8, .ref a9, .ref a10, .ref a11, .ref a12, .ref a13, .ref a14, .ref a15, .ref a16, .int 0, .int 0, .int 0, .int 0, .int 0, .int 9999, .ref a17, .ref a18, .ref a19, .int 0, .ref a20, .int 0, .ref a21, .int 0, .int 0, .ref a22, .ref a23, .ref a24, .ref a25, .int 0, .ref a26, .int 0, .ref a27, .ref a28, .ref a29, .long 0, .ref a30, .ref a31, .ref a32, .ref a33, .ref a34, .ref a35, .ref a36, .ref a37, .ref a38, .int 0, .int 0, .int 0, .long 0, .ref a39, .int 0, .ref a40, .ref a41, .ref a42, .ref a43, .int 0, .int 0, .int 0, .int 0])), (a1, .inl (cI, 1600, .inl f_27))] := hD
  refine lv_aload_n (pc := 98) hx hb dX12_feed_98 rfl (lv_at hl 2 rfl) ?_
  refine lv_dup (pc := 99) hx hb dX12_feed_99 rfl ?_
  refine va_get (pc := 100) (ci := 12) (v := .int 8) (C := RX12) (T := TX12) (N := 73) hx hb hts iX12 hown hK hP 0 rfl rfl 1 (by decide) (hts _ tw_1402) (fun _ h9 => h9) rfl dX12_feed_100 ?_
  refine lv_iconst (pc := 103) (v := 1) hx hb dX12_feed_103 (by decide) ?_
  refine lv_iadd (pc := 104) hx hb dX12_feed_104 ?_
  refine gI (y := 9) (by decide +kernel) ?_
  refine va_put (pc := 105) (ci := 12) (v := .int 9) (ty := .int) (C := RX12) (T := TX12) (N := 73) hx hb hts iX12 tyX12 tyX12_ok nmX12 hown hK hP hD hS 0 rfl rfl 1 (by decide) (hts _ tw_1402) (fun _ h9 => h9) rfl (by decide +kernel) (by decide +kernel) (by decide +kernel) (Nat.le_of_ble_eq_true rfl) dX12_feed_105 (fun H locs hP hD hS => ?_)
  have hP : va_P D gcl [(a0, .inr (12, [.ref a1, .int 9, .int 0, .int 0, .int 0, .int 0, .int 0, .int 0, .int (-1), .ref a2, .ref a3, .ref a4, .ref a5, .ref a6, .ref a7, .ref a8, .ref a9, .ref a10, .ref a11, .ref a12, .ref a13, .ref a14, .ref a15, .ref a16, .int 0, .int 0, .int 0, .int 0, .int 0, .int 9999, .ref a17, .ref a18, .ref a19, .int 0, .ref a20, .int 0, .ref a21, .int 0, .int 0, .ref a22, .ref a23, .ref a24, .ref a25, .int 0, .ref a26, .int 0, .ref a27, .ref a28, .ref a29, .long 0, .ref a30, .ref a31, .ref a32, .ref a33, .ref a34, .ref a35, .ref a36, .ref a37, .ref a38, .int 0, .int 0, .int 0, .long 0, .ref a39, .int 0, .ref a40, .ref a41, .ref a42, .ref a43, .int 0, .int 0, .int 0, .int 0])), (a1, .inl (cI, 1600, .inl f_27))] H := hP
  have hD : va_D A [(a0, .inr (12, [.ref a1, .int 9, .int 0, .int 0, .int 0, .int 0, .int 0, .int 0, .int (-1), .ref a2, .ref a3, .ref a4, .ref a5, .ref a6, .ref a7, .ref a8, .ref a9, .ref a10, .ref a11, .ref a12, .ref a13, .ref a14, .ref a15, .ref a16, .int 0, .int 0, .int 0, .int 0, .int 0, .int 9999, .ref a17, .ref a18, .ref a19, .int 0, .ref a20, .int 0, .ref a21, .int 0, .int 0, .ref a22, .ref a23, .ref a24, .ref a25, .int 0, .ref a26, .int 0, .ref a27, .ref a28, .ref a29, .long 0, .ref a30, .ref a31, .ref a32, .ref a33, .ref a34, .ref a35, .ref a36, .ref a37, .ref a38, .int 0, .int 0, .int 0, .long 0, .ref a39, .int 0, .ref a40, .ref a41, .ref a42, .ref a43, .int 0, .int 0, .int 0, .int 0])), (a1, .inl (cI, 1600, .inl f_27))] := hD
  refine lv_iinc (pc := 108) (v := 9) (lv' := [(6, .int 9), (7, .int x2), (0, .ref a0), (1, .int x0), (2, .int x1), (3, .int x2), (4, .int x3), (5, .int x4)]) hx hb dX12_feed_108 hl (k := 1) rfl (by decide +kernel) (by decide) rfl (fun ls hl => ?_)
  refine lv_goto (pc := 111) (tgt := 18) hx hb dX12_feed_111 (by decide) ?_
  refine lv_iload (pc := 18) hx hb dX12_feed_18 (lv_at hl 0 rfl) ?_
  refine lv_bipush (pc := 20) (v := 20) hx hb dX12_feed_20 (by decide) ?_
  refine lv_icmp_ge (pc := 22) (tgt := 114) hx hb dX12_feed_22 (by decide) (fun c => absurd c (by decide +kernel)) (fun _ => ?_)
  refine lv_iload (pc := 25) hx hb dX12_feed_25 (lv_at hl 0 rfl) ?_
  refine lv_iconst (pc := 27) (v := 4) hx hb dX12_feed_27 (by decide) ?_
  refine lv_icmp_ge (pc := 28) (tgt := 35) hx hb dX12_feed_28 (by decide) (fun _ => ?_) (fun c => absurd (by decide +kernel) c)
  refine lv_iload (pc := 35) hx hb dX12_feed_35 (lv_at hl 0 rfl) ?_
  refine lv_bipush (pc := 37) (v := 8) hx hb dX12_feed_37 (by decide) ?_
  refine lv_icmp_ge (pc := 39) (tgt := 46) hx hb dX12_feed_39 (by decide) (fun _ => ?_) (fun c => absurd (by decide +kernel) c)
  refine lv_iload (pc := 46) hx hb dX12_feed_46 (lv_at hl 0 rfl) ?_
  refine lv_bipush (pc := 48) (v := 12) hx hb dX12_feed_48 (by decide) ?_
  refine lv_icmp_ge (pc := 50) (tgt := 57) hx hb dX12_feed_50 (by decide) (fun c => absurd c (by decide +kernel)) (fun _ => ?_)
  refine lv_iload_n (pc := 53) hx hb dX12_feed_53 rfl (lv_at hl 5 rfl) ?_
  refine lv_goto (pc := 54) (tgt := 71) hx hb dX12_feed_54 (by decide) ?_
  refine lv_istore (pc := 71) (lv' := [(7, .int x2), (6, .int 9), (0, .ref a0), (1, .int x0), (2, .int x1), (3, .int x2), (4, .int x3), (5, .int x4)]) hx hb dX12_feed_71 hl (by decide) rfl (fun ls hl => ?_)
  refine lv_aload_n (pc := 73) hx hb dX12_feed_73 rfl (lv_at hl 2 rfl) ?_
  refine va_get (pc := 74) (ci := 12) (v := .ref a1) (C := RX12) (T := TX12) (N := 73) hx hb hts iX12 hown hK hP 0 rfl rfl 0 (by decide) (hts _ tw_1401) (fun _ h9 => h9) rfl dX12_feed_74 ?_
  refine lv_aload_n (pc := 77) hx hb dX12_feed_77 rfl (lv_at hl 2 rfl) ?_
  refine va_get (pc := 78) (ci := 12) (v := .int 9) (C := RX12) (T := TX12) (N := 73) hx hb hts iX12 hown hK hP 0 rfl rfl 1 (by decide) (hts _ tw_1402) (fun _ h9 => h9) rfl dX12_feed_78 ?_
  refine lv_iload (pc := 81) hx hb dX12_feed_81 (lv_at hl 0 rfl) ?_
  refine lv_bipush (pc := 83) (v := 8) hx hb dX12_feed_83 (by decide) ?_
  refine lv_iconst (pc := 85) (v := 3) hx hb dX12_feed_85 (by decide) ?_
  refine lv_iload (pc := 86) hx hb dX12_feed_86 (lv_at hl 1 rfl) ?_
  refine lv_iconst (pc := 88) (v := 4) hx hb dX12_feed_88 (by decide) ?_
  refine lv_irem (pc := 89) hx hb dX12_feed_89 (by decide +kernel) ?_
  refine gI (y := 1) (by decide +kernel) ?_
  refine lv_isub (pc := 90) hx hb dX12_feed_90 ?_
  refine gI (y := 2) (by decide +kernel) ?_
  refine lv_imul (pc := 91) hx hb dX12_feed_91 ?_
  refine gI (y := 16) (by decide +kernel) ?_
  refine lv_ishr (pc := 92) hx hb dX12_feed_92 ?_
  refine lv_topi (fun x_28 ex_28 => ?_)
  refine lv_sipush (pc := 93) (v := 255) hx hb dX12_feed_93 (by decide) ?_
  refine lv_iand (pc := 96) hx hb dX12_feed_96 ?_
  refine lv_topi (fun x_29 ex_29 => ?_)
  refine g_iastore (pc := 97) hx hb hK hP hD hS 1 2 rfl rfl (gin rfl) dX12_feed_97 (fun f_30 H locs hP hD hS => ?_)
  have hP : va_P D gcl [(a0, .inr (12, [.ref a1, .int 9, .int 0, .int 0, .int 0, .int 0, .int 0, .int 0, .int (-1), .ref a2, .ref a3, .ref a4, .ref a5, .ref a6, .ref a7, .ref a8, .ref a9, .ref a10, .ref a11, .ref a12, .ref a13, .ref a14, .ref a15, .ref a16, .int 0, .int 0, .int 0, .int 0, .int 0, .int 9999, .ref a17, .ref a18, .ref a19, .int 0, .ref a20, .int 0, .ref a21, .int 0, .int 0, .ref a22, .ref a23, .ref a24, .ref a25, .int 0, .ref a26, .int 0, .ref a27, .ref a28, .ref a29, .long 0, .ref a30, .ref a31, .ref a32, .ref a33, .ref a34, .ref a35, .ref a36, .ref a37, .ref a38, .int 0, .int 0, .int 0, .long 0, .ref a39, .int 0, .ref a40, .ref a41, .ref a42, .ref a43, .int 0, .int 0, .int 0, .int 0])), (a1, .inl (cI, 1600, .inl f_30))] H := hP
  have hD : va_D A [(a0, .inr (12, [.ref a1, .int 9, .int 0, .int 0, .int 0, .int 0, .int 0, .int 0, .int (-1), .ref a2, .ref a3, .ref a4, .ref a5, .ref a6, .ref a7, .ref a8, .ref a9, .ref a10, .ref a11, .ref a12, .ref a13, .ref a14, .ref a15, .ref a16, .int 0, .int 0, .int 0, .int 0, .int 0, .int 9999, .ref a17, .ref a18, .ref a19, .int 0, .ref a20, .int 0, .ref a21, .int 0, .int 0, .ref a22, .ref a23, .ref a24, .ref a25, .int 0, .ref a26, .int 0, .ref a27, .ref a28, .ref a29, .long 0, .ref a30, .ref a31, .ref a32, .ref a33, .ref a34, .ref a35, .ref a36, .ref a37, .ref a38, .int 0, .int 0, .int 0, .long 0, .ref a39, .int 0, .ref a40, .ref a41, .ref a42, .ref a43, .int 0, .int 0, .int 0, .int 0])), (a1, .inl (cI, 1600, .inl f_30))] := hD
  refine lv_aload_n (pc := 98) hx hb dX12_feed_98 rfl (lv_at hl 2 rfl) ?_
  refine lv_dup (pc := 99) hx hb dX12_feed_99 rfl ?_
  refine va_get (pc := 100) (ci := 12) (v := .int 9) (C := RX12) (T := TX12) (N := 73) hx hb hts iX12 hown hK hP 0 rfl rfl 1 (by decide) (hts _ tw_1402) (fun _ h9 => h9) rfl dX12_feed_100 ?_
  refine lv_iconst (pc := 103) (v := 1) hx hb dX12_feed_103 (by decide) ?_
  refine lv_iadd (pc := 104) hx hb dX12_feed_104 ?_
  refine gI (y := 10) (by decide +kernel) ?_
  refine va_put (pc := 105) (ci := 12) (v := .int 10) (ty := .int) (C := RX12) (T := TX12) (N := 73) hx hb hts iX12 tyX12 tyX12_ok nmX12 hown hK hP hD hS 0 rfl rfl 1 (by decide) (hts _ tw_1402) (fun _ h9 => h9) rfl (by decide +kernel) (by decide +kernel) (by decide +kernel) (Nat.le_of_ble_eq_true rfl) dX12_feed_105 (fun H locs hP hD hS => ?_)
  have hP : va_P D gcl [(a0, .inr (12, [.ref a1, .int 10, .int 0, .int 0, .int 0, .int 0, .int 0, .int 0, .int (-1), .ref a2, .ref a3, .ref a4, .ref a5, .ref a6, .ref a7, .ref a8, .ref a9, .ref a10, .ref a11, .ref a12, .ref a13, .ref a14, .ref a15, .ref a16, .int 0, .int 0, .int 0, .int 0, .int 0, .int 9999, .ref a17, .ref a18, .ref a19, .int 0, .ref a20, .int 0, .ref a21, .int 0, .int 0, .ref a22, .ref a23, .ref a24, .ref a25, .int 0, .ref a26, .int 0, .ref a27, .ref a28, .ref a29, .long 0, .ref a30, .ref a31, .ref a32, .ref a33, .ref a34, .ref a35, .ref a36, .ref a37, .ref a38, .int 0, .int 0, .int 0, .long 0, .ref a39, .int 0, .ref a40, .ref a41, .ref a42, .ref a43, .int 0, .int 0, .int 0, .int 0])), (a1, .inl (cI, 1600, .inl f_30))] H := hP
  have hD : va_D A [(a0, .inr (12, [.ref a1, .int 10, .int 0, .int 0, .int 0, .int 0, .int 0, .int 0, .int (-1), .ref a2, .ref a3, .ref a4, .ref a5, .ref a6, .ref a7, .ref a8, .ref a9, .ref a10, .ref a11, .ref a12, .ref a13, .ref a14, .ref a15, .ref a16, .int 0, .int 0, .int 0, .int 0, .int 0, .int 9999, .ref a17, .ref a18, .ref a19, .int 0, .ref a20, .int 0, .ref a21, .int 0, .int 0, .ref a22, .ref a23, .ref a24, .ref a25, .int 0, .ref a26, .int 0, .ref a27, .ref a28, .ref a29, .long 0, .ref a30, .ref a31, .ref a32, .ref a33, .ref a34, .ref a35, .ref a36, .ref a37, .ref a38, .int 0, .int 0, .int 0, .long 0, .ref a39, .int 0, .ref a40, .ref a41, .ref a42, .ref a43, .int 0, .int 0, .int 0, .int 0])), (a1, .inl (cI, 1600, .inl f_30))] := hD
  refine lv_iinc (pc := 108) (v := 10) (lv' := [(6, .int 10), (7, .int x2), (0, .ref a0), (1, .int x0), (2, .int x1), (3, .int x2), (4, .int x3), (5, .int x4)]) hx hb dX12_feed_108 hl (k := 1) rfl (by decide +kernel) (by decide) rfl (fun ls hl => ?_)
  refine lv_goto (pc := 111) (tgt := 18) hx hb dX12_feed_111 (by decide) ?_
  refine lv_iload (pc := 18) hx hb dX12_feed_18 (lv_at hl 0 rfl) ?_
  refine lv_bipush (pc := 20) (v := 20) hx hb dX12_feed_20 (by decide) ?_
  refine lv_icmp_ge (pc := 22) (tgt := 114) hx hb dX12_feed_22 (by decide) (fun c => absurd c (by decide +kernel)) (fun _ => ?_)
  refine lv_iload (pc := 25) hx hb dX12_feed_25 (lv_at hl 0 rfl) ?_
  refine lv_iconst (pc := 27) (v := 4) hx hb dX12_feed_27 (by decide) ?_
  refine lv_icmp_ge (pc := 28) (tgt := 35) hx hb dX12_feed_28 (by decide) (fun _ => ?_) (fun c => absurd (by decide +kernel) c)
  refine lv_iload (pc := 35) hx hb dX12_feed_35 (lv_at hl 0 rfl) ?_
  refine lv_bipush (pc := 37) (v := 8) hx hb dX12_feed_37 (by decide) ?_
  refine lv_icmp_ge (pc := 39) (tgt := 46) hx hb dX12_feed_39 (by decide) (fun _ => ?_) (fun c => absurd (by decide +kernel) c)
  refine lv_iload (pc := 46) hx hb dX12_feed_46 (lv_at hl 0 rfl) ?_
  refine lv_bipush (pc := 48) (v := 12) hx hb dX12_feed_48 (by decide) ?_
  refine lv_icmp_ge (pc := 50) (tgt := 57) hx hb dX12_feed_50 (by decide) (fun c => absurd c (by decide +kernel)) (fun _ => ?_)
  refine lv_iload_n (pc := 53) hx hb dX12_feed_53 rfl (lv_at hl 5 rfl) ?_
  refine lv_goto (pc := 54) (tgt := 71) hx hb dX12_feed_54 (by decide) ?_
  refine lv_istore (pc := 71) (lv' := [(7, .int x2), (6, .int 10), (0, .ref a0), (1, .int x0), (2, .int x1), (3, .int x2), (4, .int x3), (5, .int x4)]) hx hb dX12_feed_71 hl (by decide) rfl (fun ls hl => ?_)
  refine lv_aload_n (pc := 73) hx hb dX12_feed_73 rfl (lv_at hl 2 rfl) ?_
  refine va_get (pc := 74) (ci := 12) (v := .ref a1) (C := RX12) (T := TX12) (N := 73) hx hb hts iX12 hown hK hP 0 rfl rfl 0 (by decide) (hts _ tw_1401) (fun _ h9 => h9) rfl dX12_feed_74 ?_
  refine lv_aload_n (pc := 77) hx hb dX12_feed_77 rfl (lv_at hl 2 rfl) ?_
  refine va_get (pc := 78) (ci := 12) (v := .int 10) (C := RX12) (T := TX12) (N := 73) hx hb hts iX12 hown hK hP 0 rfl rfl 1 (by decide) (hts _ tw_1402) (fun _ h9 => h9) rfl dX12_feed_78 ?_
  refine lv_iload (pc := 81) hx hb dX12_feed_81 (lv_at hl 0 rfl) ?_
  refine lv_bipush (pc := 83) (v := 8) hx hb dX12_feed_83 (by decide) ?_
  refine lv_iconst (pc := 85) (v := 3) hx hb dX12_feed_85 (by decide) ?_
  refine lv_iload (pc := 86) hx hb dX12_feed_86 (lv_at hl 1 rfl) ?_
  refine lv_iconst (pc := 88) (v := 4) hx hb dX12_feed_88 (by decide) ?_
  refine lv_irem (pc := 89) hx hb dX12_feed_89 (by decide +kernel) ?_
  refine gI (y := 2) (by decide +kernel) ?_
  refine lv_isub (pc := 90) hx hb dX12_feed_90 ?_
  refine gI (y := 1) (by decide +kernel) ?_
  refine lv_imul (pc := 91) hx hb dX12_feed_91 ?_
  refine gI (y := 8) (by decide +kernel) ?_
  refine lv_ishr (pc := 92) hx hb dX12_feed_92 ?_
  refine lv_topi (fun x_31 ex_31 => ?_)
  refine lv_sipush (pc := 93) (v := 255) hx hb dX12_feed_93 (by decide) ?_
  refine lv_iand (pc := 96) hx hb dX12_feed_96 ?_
  refine lv_topi (fun x_32 ex_32 => ?_)
  refine g_iastore (pc := 97) hx hb hK hP hD hS 1 2 rfl rfl (gin rfl) dX12_feed_97 (fun f_33 H locs hP hD hS => ?_)
  have hP : va_P D gcl [(a0, .inr (12, [.ref a1, .int 10, .int 0, .int 0, .int 0, .int 0, .int 0, .int 0, .int (-1), .ref a2, .ref a3, .ref a4, .ref a5, .ref a6, .ref a7, .ref a8, .ref a9, .ref a10, .ref a11, .ref a12, .ref a13, .ref a14, .ref a15, .ref a16, .int 0, .int 0, .int 0, .int 0, .int 0, .int 9999, .ref a17, .ref a18, .ref a19, .int 0, .ref a20, .int 0, .ref a21, .int 0, .int 0, .ref a22, .ref a23, .ref a24, .ref a25, .int 0, .ref a26, .int 0, .ref a27, .ref a28, .ref a29, .long 0, .ref a30, .ref a31, .ref a32, .ref a33, .ref a34, .ref a35, .ref a36, .ref a37, .ref a38, .int 0, .int 0, .int 0, .long 0, .ref a39, .int 0, .ref a40, .ref a41, .ref a42, .ref a43, .int 0, .int 0, .int 0, .int 0])), (a1, .inl (cI, 1600, .inl f_33))] H := hP
  have hD : va_D A [(a0, .inr (12, [.ref a1, .int 10, .int 0, .int 0, .int 0, .int 0, .int 0, .int 0, .int (-1), .ref a2, .ref a3, .ref a4, .ref a5, .ref a6, .ref a7, .ref a8, .ref a9, .ref a10, .ref a11, .ref a12, .ref a13, .ref a14, .ref a15, .ref a16, .int 0, .int 0, .int 0, .int 0, .int 0, .int 9999, .ref a17, .ref a18, .ref a19, .int 0, .ref a20, .int 0, .ref a21, .int 0, .int 0, .ref a22, .ref a23, .ref a24, .ref a25, .int 0, .ref a26, .int 0, .ref a27, .ref a28, .ref a29, .long 0, .ref a30, .ref a31, .ref a32, .ref a33, .ref a34, .ref a35, .ref a36, .ref a37, .ref a38, .int 0, .int 0, .int 0, .long 0, .ref a39, .int 0, .ref a40, .ref a41, .ref a42, .ref a43, .int 0, .int 0, .int 0, .int 0])), (a1, .inl (cI, 1600, .inl f_33))] := hD
  refine lv_aload_n (pc := 98) hx hb dX12_feed_98 rfl (lv_at hl 2 rfl) ?_
  refine lv_dup (pc := 99) hx hb dX12_feed_99 rfl ?_
  refine va_get (pc := 100) (ci := 12) (v := .int 10) (C := RX12) (T := TX12) (N := 73) hx hb hts iX12 hown hK hP 0 rfl rfl 1 (by decide) (hts _ tw_1402) (fun _ h9 => h9) rfl dX12_feed_100 ?_
  refine lv_iconst (pc := 103) (v := 1) hx hb dX12_feed_103 (by decide) ?_
  refine lv_iadd (pc := 104) hx hb dX12_feed_104 ?_
  refine gI (y := 11) (by decide +kernel) ?_
  refine va_put (pc := 105) (ci := 12) (v := .int 11) (ty := .int) (C := RX12) (T := TX12) (N := 73) hx hb hts iX12 tyX12 tyX12_ok nmX12 hown hK hP hD hS 0 rfl rfl 1 (by decide) (hts _ tw_1402) (fun _ h9 => h9) rfl (by decide +kernel) (by decide +kernel) (by decide +kernel) (Nat.le_of_ble_eq_true rfl) dX12_feed_105 (fun H locs hP hD hS => ?_)
  have hP : va_P D gcl [(a0, .inr (12, [.ref a1, .int 11, .int 0, .int 0, .int 0, .int 0, .int 0, .int 0, .int (-1), .ref a2, .ref a3, .ref a4, .ref a5, .ref a6, .ref a7, .ref a8, .ref a9, .ref a10, .ref a11, .ref a12, .ref a13, .ref a14, .ref a15, .ref a16, .int 0, .int 0, .int 0, .int 0, .int 0, .int 9999, .ref a17, .ref a18, .ref a19, .int 0, .ref a20, .int 0, .ref a21, .int 0, .int 0, .ref a22, .ref a23, .ref a24, .ref a25, .int 0, .ref a26, .int 0, .ref a27, .ref a28, .ref a29, .long 0, .ref a30, .ref a31, .ref a32, .ref a33, .ref a34, .ref a35, .ref a36, .ref a37, .ref a38, .int 0, .int 0, .int 0, .long 0, .ref a39, .int 0, .ref a40, .ref a41, .ref a42, .ref a43, .int 0, .int 0, .int 0, .int 0])), (a1, .inl (cI, 1600, .inl f_33))] H := hP
  have hD : va_D A [(a0, .inr (12, [.ref a1, .int 11, .int 0, .int 0, .int 0, .int 0, .int 0, .int 0, .int (-1), .ref a2, .ref a3, .ref a4, .ref a5, .ref a6, .ref a7, .ref a8, .ref a9, .ref a10, .ref a11, .ref a12, .ref a13, .ref a14, .ref a15, .ref a16, .int 0, .int 0, .int 0, .int 0, .int 0, .int 9999, .ref a17, .ref a18, .ref a19, .int 0, .ref a20, .int 0, .ref a21, .int 0, .int 0, .ref a22, .ref a23, .ref a24, .ref a25, .int 0, .ref a26, .int 0, .ref a27, .ref a28, .ref a29, .long 0, .ref a30, .ref a31, .ref a32, .ref a33, .ref a34, .ref a35, .ref a36, .ref a37, .ref a38, .int 0, .int 0, .int 0, .long 0, .ref a39, .int 0, .ref a40, .ref a41, .ref a42, .ref a43, .int 0, .int 0, .int 0, .int 0])), (a1, .inl (cI, 1600, .inl f_33))] := hD
  refine lv_iinc (pc := 108) (v := 11) (lv' := [(6, .int 11), (7, .int x2), (0, .ref a0), (1, .int x0), (2, .int x1), (3, .int x2), (4, .int x3), (5, .int x4)]) hx hb dX12_feed_108 hl (k := 1) rfl (by decide +kernel) (by decide) rfl (fun ls hl => ?_)
  refine lv_goto (pc := 111) (tgt := 18) hx hb dX12_feed_111 (by decide) ?_
  refine lv_iload (pc := 18) hx hb dX12_feed_18 (lv_at hl 0 rfl) ?_
  refine lv_bipush (pc := 20) (v := 20) hx hb dX12_feed_20 (by decide) ?_
  refine lv_icmp_ge (pc := 22) (tgt := 114) hx hb dX12_feed_22 (by decide) (fun c => absurd c (by decide +kernel)) (fun _ => ?_)
  refine lv_iload (pc := 25) hx hb dX12_feed_25 (lv_at hl 0 rfl) ?_
  refine lv_iconst (pc := 27) (v := 4) hx hb dX12_feed_27 (by decide) ?_
  refine lv_icmp_ge (pc := 28) (tgt := 35) hx hb dX12_feed_28 (by decide) (fun _ => ?_) (fun c => absurd (by decide +kernel) c)
  refine lv_iload (pc := 35) hx hb dX12_feed_35 (lv_at hl 0 rfl) ?_
  refine lv_bipush (pc := 37) (v := 8) hx hb dX12_feed_37 (by decide) ?_
  refine lv_icmp_ge (pc := 39) (tgt := 46) hx hb dX12_feed_39 (by decide) (fun _ => ?_) (fun c => absurd (by decide +kernel) c)
  refine lv_iload (pc := 46) hx hb dX12_feed_46 (lv_at hl 0 rfl) ?_
  refine lv_bipush (pc := 48) (v := 12) hx hb dX12_feed_48 (by decide) ?_
  refine lv_icmp_ge (pc := 50) (tgt := 57) hx hb dX12_feed_50 (by decide) (fun c => absurd c (by decide +kernel)) (fun _ => ?_)
  refine lv_iload_n (pc := 53) hx hb dX12_feed_53 rfl (lv_at hl 5 rfl) ?_
  refine lv_goto (pc := 54) (tgt := 71) hx hb dX12_feed_54 (by decide) ?_
  refine lv_istore (pc := 71) (lv' := [(7, .int x2), (6, .int 11), (0, .ref a0), (1, .int x0), (2, .int x1), (3, .int x2), (4, .int x3), (5, .int x4)]) hx hb dX12_feed_71 hl (by decide) rfl (fun ls hl => ?_)
  refine lv_aload_n (pc := 73) hx hb dX12_feed_73 rfl (lv_at hl 2 rfl) ?_
  refine va_get (pc := 74) (ci := 12) (v := .ref a1) (C := RX12) (T := TX12) (N := 73) hx hb hts iX12 hown hK hP 0 rfl rfl 0 (by decide) (hts _ tw_1401) (fun _ h9 => h9) rfl dX12_feed_74 ?_
  refine lv_aload_n (pc := 77) hx hb dX12_feed_77 rfl (lv_at hl 2 rfl) ?_
  refine va_get (pc := 78) (ci := 12) (v := .int 11) (C := RX12) (T := TX12) (N := 73) hx hb hts iX12 hown hK hP 0 rfl rfl 1 (by decide) (hts _ tw_1402) (fun _ h9 => h9) rfl dX12_feed_78 ?_
  refine lv_iload (pc := 81) hx hb dX12_feed_81 (lv_at hl 0 rfl) ?_
  refine lv_bipush (pc := 83) (v := 8) hx hb dX12_feed_83 (by decide) ?_
  refine lv_iconst (pc := 85) (v := 3) hx hb dX12_feed_85 (by decide) ?_
  refine lv_iload (pc := 86) hx hb dX12_feed_86 (lv_at hl 1 rfl) ?_
  refine lv_iconst (pc := 88) (v := 4) hx hb dX12_feed_88 (by decide) ?_
  refine lv_irem (pc := 89) hx hb dX12_feed_89 (by decide +kernel) ?_
  refine gI (y := 3) (by decide +kernel) ?_
  refine lv_isub (pc := 90) hx hb dX12_feed_90 ?_
  refine gI (y := 0) (by decide +kernel) ?_
  refine lv_imul (pc := 91) hx hb dX12_feed_91 ?_
  refine gI (y := 0) (by decide +kernel) ?_
  refine lv_ishr (pc := 92) hx hb dX12_feed_92 ?_
  refine lv_topi (fun x_34 ex_34 => ?_)
  refine lv_sipush (pc := 93) (v := 255) hx hb dX12_feed_93 (by decide) ?_
  refine lv_iand (pc := 96) hx hb dX12_feed_96 ?_
  refine lv_topi (fun x_35 ex_35 => ?_)
  refine g_iastore (pc := 97) hx hb hK hP hD hS 1 2 rfl rfl (gin rfl) dX12_feed_97 (fun f_36 H locs hP hD hS => ?_)
  have hP : va_P D gcl [(a0, .inr (12, [.ref a1, .int 11, .int 0, .int 0, .int 0, .int 0, .int 0, .int 0, .int (-1), .ref a2, .ref a3, .ref a4, .ref a5, .ref a6, .ref a7, .ref a8, .ref a9, .ref a10, .ref a11, .ref a12, .ref a13, .ref a14, .ref a15, .ref a16, .int 0, .int 0, .int 0, .int 0, .int 0, .int 9999, .ref a17, .ref a18, .ref a19, .int 0, .ref a20, .int 0, .ref a21, .int 0, .int 0, .ref a22, .ref a23, .ref a24, .ref a25, .int 0, .ref a26, .int 0, .ref a27, .ref a28, .ref a29, .long 0, .ref a30, .ref a31, .ref a32, .ref a33, .ref a34, .ref a35, .ref a36, .ref a37, .ref a38, .int 0, .int 0, .int 0, .long 0, .ref a39, .int 0, .ref a40, .ref a41, .ref a42, .ref a43, .int 0, .int 0, .int 0, .int 0])), (a1, .inl (cI, 1600, .inl f_36))] H := hP
  have hD : va_D A [(a0, .inr (12, [.ref a1, .int 11, .int 0, .int 0, .int 0, .int 0, .int 0, .int 0, .int (-1), .ref a2, .ref a3, .ref a4, .ref a5, .ref a6, .ref a7, .ref a8, .ref a9, .ref a10, .ref a11, .ref a12, .ref a13, .ref a14, .ref a15, .ref a16, .int 0, .int 0, .int 0, .int 0, .int 0, .int 9999, .ref a17, .ref a18, .ref a19, .int 0, .ref a20, .int 0, .ref a21, .int 0, .int 0, .ref a22, .ref a23, .ref a24, .ref a25, .int 0, .ref a26, .int 0, .ref a27, .ref a28, .ref a29, .long 0, .ref a30, .ref a31, .ref a32, .ref a33, .ref a34, .ref a35, .ref a36, .ref a37, .ref a38, .int 0, .int 0, .int 0, .long 0, .ref a39, .int 0, .ref a40, .ref a41, .ref a42, .ref a43, .int 0, .int 0, .int 0, .int 0])), (a1, .inl (cI, 1600, .inl f_36))] := hD
  refine lv_aload_n (pc := 98) hx hb dX12_feed_98 rfl (lv_at hl 2 rfl) ?_
  refine lv_dup (pc := 99) hx hb dX12_feed_99 rfl ?_
  refine va_get (pc := 100) (ci := 12) (v := .int 11) (C := RX12) (T := TX12) (N := 73) hx hb hts iX12 hown hK hP 0 rfl rfl 1 (by decide) (hts _ tw_1402) (fun _ h9 => h9) rfl dX12_feed_100 ?_
  refine lv_iconst (pc := 103) (v := 1) hx hb dX12_feed_103 (by decide) ?_
  refine lv_iadd (pc := 104) hx hb dX12_feed_104 ?_
  refine gI (y := 12) (by decide +kernel) ?_
  refine va_put (pc := 105) (ci := 12) (v := .int 12) (ty := .int) (C := RX12) (T := TX12) (N := 73) hx hb hts iX12 tyX12 tyX12_ok nmX12 hown hK hP hD hS 0 rfl rfl 1 (by decide) (hts _ tw_1402) (fun _ h9 => h9) rfl (by decide +kernel) (by decide +kernel) (by decide +kernel) (Nat.le_of_ble_eq_true rfl) dX12_feed_105 (fun H locs hP hD hS => ?_)
  have hP : va_P D gcl [(a0, .inr (12, [.ref a1, .int 12, .int 0, .int 0, .int 0, .int 0, .int 0, .int 0, .int (-1), .ref a2, .ref a3, .ref a4, .ref a5, .ref a6, .ref a7, .ref a8, .ref a9, .ref a10, .ref a11, .ref a12, .ref a13, .ref a14, .ref a15, .ref a16, .int 0, .int 0, .int 0, .int 0, .int 0, .int 9999, .ref a17, .ref a18, .ref a19, .int 0, .ref a20, .int 0, .ref a21, .int 0, .int 0, .ref a22, .ref a23, .ref a24, .ref a25, .int 0, .ref a26, .int 0, .ref a27, .ref a28, .ref a29, .long 0, .ref a30, .ref a31, .ref a32, .ref a33, .ref a34, .ref a35, .ref a36, .ref a37, .ref a38, .int 0, .int 0, .int 0, .long 0, .ref a39, .int 0, .ref a40, .ref a41, .ref a42, .ref a43, .int 0, .int 0, .int 0, .int 0])), (a1, .inl (cI, 1600, .inl f_36))] H := hP
  have hD : va_D A [(a0, .inr (12, [.ref a1, .int 12, .int 0, .int 0, .int 0, .int 0, .int 0, .int 0, .int (-1), .ref a2, .ref a3, .ref a4, .ref a5, .ref a6, .ref a7, .ref a8, .ref a9, .ref a10, .ref a11, .ref a12, .ref a13, .ref a14, .ref a15, .ref a16, .int 0, .int 0, .int 0, .int 0, .int 0, .int 9999, .ref a17, .ref a18, .ref a19, .int 0, .ref a20, .int 0, .ref a21, .int 0, .int 0, .ref a22, .ref a23, .ref a24, .ref a25, .int 0, .ref a26, .int 0, .ref a27, .ref a28, .ref a29, .long 0, .ref a30, .ref a31, .ref a32, .ref a33, .ref a34, .ref a35, .ref a36, .ref a37, .ref a38, .int 0, .int 0, .int 0, .long 0, .ref a39, .int 0, .ref a40, .ref a41, .ref a42, .ref a43, .int 0, .int 0, .int 0, .int 0])), (a1, .inl (cI, 1600, .inl f_36))] := hD
  refine lv_iinc (pc := 108) (v := 12) (lv' := [(6, .int 12), (7, .int x2), (0, .ref a0), (1, .int x0), (2, .int x1), (3, .int x2), (4, .int x3), (5, .int x4)]) hx hb dX12_feed_108 hl (k := 1) rfl (by decide +kernel) (by decide) rfl (fun ls hl => ?_)
  refine lv_goto (pc := 111) (tgt := 18) hx hb dX12_feed_111 (by decide) ?_
  refine lv_iload (pc := 18) hx hb dX12_feed_18 (lv_at hl 0 rfl) ?_
  refine lv_bipush (pc := 20) (v := 20) hx hb dX12_feed_20 (by decide) ?_
  refine lv_icmp_ge (pc := 22) (tgt := 114) hx hb dX12_feed_22 (by decide) (fun c => absurd c (by decide +kernel)) (fun _ => ?_)
  refine lv_iload (pc := 25) hx hb dX12_feed_25 (lv_at hl 0 rfl) ?_
  refine lv_iconst (pc := 27) (v := 4) hx hb dX12_feed_27 (by decide) ?_
  refine lv_icmp_ge (pc := 28) (tgt := 35) hx hb dX12_feed_28 (by decide) (fun _ => ?_) (fun c => absurd (by decide +kernel) c)
  refine lv_iload (pc := 35) hx hb dX12_feed_35 (lv_at hl 0 rfl) ?_
  refine lv_bipush (pc := 37) (v := 8) hx hb dX12_feed_37 (by decide) ?_
  refine lv_icmp_ge (pc := 39) (tgt := 46) hx hb dX12_feed_39 (by decide) (fun _ => ?_) (fun c => absurd (by decide +kernel) c)
  refine lv_iload (pc := 46) hx hb dX12_feed_46 (lv_at hl 0 rfl) ?_
  refine lv_bipush (pc := 48) (v := 12) hx hb dX12_feed_48 (by decide) ?_
  refine lv_icmp_ge (pc := 50) (tgt := 57) hx hb dX12_feed_50 (by decide) (fun _ => ?_) (fun c => absurd (by decide +kernel) c)
  refine lv_iload (pc := 57) hx hb dX12_feed_57 (lv_at hl 0 rfl) ?_
  refine lv_bipush (pc := 59) (v := 16) hx hb dX12_feed_59 (by decide) ?_
  refine lv_icmp_ge (pc := 61) (tgt := 69) hx hb dX12_feed_61 (by decide) (fun c => absurd c (by decide +kernel)) (fun _ => ?_)
  refine lv_iload (pc := 64) hx hb dX12_feed_64 (lv_at hl 6 rfl) ?_
  refine lv_goto (pc := 66) (tgt := 71) hx hb dX12_feed_66 (by decide) ?_
  refine lv_istore (pc := 71) (lv' := [(7, .int x3), (6, .int 12), (0, .ref a0), (1, .int x0), (2, .int x1), (3, .int x2), (4, .int x3), (5, .int x4)]) hx hb dX12_feed_71 hl (by decide) rfl (fun ls hl => ?_)
  refine lv_aload_n (pc := 73) hx hb dX12_feed_73 rfl (lv_at hl 2 rfl) ?_
  refine va_get (pc := 74) (ci := 12) (v := .ref a1) (C := RX12) (T := TX12) (N := 73) hx hb hts iX12 hown hK hP 0 rfl rfl 0 (by decide) (hts _ tw_1401) (fun _ h9 => h9) rfl dX12_feed_74 ?_
  refine lv_aload_n (pc := 77) hx hb dX12_feed_77 rfl (lv_at hl 2 rfl) ?_
  refine va_get (pc := 78) (ci := 12) (v := .int 12) (C := RX12) (T := TX12) (N := 73) hx hb hts iX12 hown hK hP 0 rfl rfl 1 (by decide) (hts _ tw_1402) (fun _ h9 => h9) rfl dX12_feed_78 ?_
  refine lv_iload (pc := 81) hx hb dX12_feed_81 (lv_at hl 0 rfl) ?_
  refine lv_bipush (pc := 83) (v := 8) hx hb dX12_feed_83 (by decide) ?_
  refine lv_iconst (pc := 85) (v := 3) hx hb dX12_feed_85 (by decide) ?_
  refine lv_iload (pc := 86) hx hb dX12_feed_86 (lv_at hl 1 rfl) ?_
  refine lv_iconst (pc := 88) (v := 4) hx hb dX12_feed_88 (by decide) ?_
  refine lv_irem (pc := 89) hx hb dX12_feed_89 (by decide +kernel) ?_
  refine gI (y := 0) (by decide +kernel) ?_
  refine lv_isub (pc := 90) hx hb dX12_feed_90 ?_
  refine gI (y := 3) (by decide +kernel) ?_
  refine lv_imul (pc := 91) hx hb dX12_feed_91 ?_
  refine gI (y := 24) (by decide +kernel) ?_
  refine lv_ishr (pc := 92) hx hb dX12_feed_92 ?_
  refine lv_topi (fun x_37 ex_37 => ?_)
  refine lv_sipush (pc := 93) (v := 255) hx hb dX12_feed_93 (by decide) ?_
  refine lv_iand (pc := 96) hx hb dX12_feed_96 ?_
  refine lv_topi (fun x_38 ex_38 => ?_)
  refine g_iastore (pc := 97) hx hb hK hP hD hS 1 2 rfl rfl (gin rfl) dX12_feed_97 (fun f_39 H locs hP hD hS => ?_)
  have hP : va_P D gcl [(a0, .inr (12, [.ref a1, .int 12, .int 0, .int 0, .int 0, .int 0, .int 0, .int 0, .int (-1), .ref a2, .ref a3, .ref a4, .ref a5, .ref a6, .ref a7, .ref a8, .ref a9, .ref a10, .ref a11, .ref a12, .ref a13, .ref a14, .ref a15, .ref a16, .int 0, .int 0, .int 0, .int 0, .int 0, .int 9999, .ref a17, .ref a18, .ref a19, .int 0, .ref a20, .int 0, .ref a21, .int 0, .int 0, .ref a22, .ref a23, .ref a24, .ref a25, .int 0, .ref a26, .int 0, .ref a27, .ref a28, .ref a29, .long 0, .ref a30, .ref a31, .ref a32, .ref a33, .ref a34, .ref a35, .ref a36, .ref a37, .ref a38, .int 0, .int 0, .int 0, .long 0, .ref a39, .int 0, .ref a40, .ref a41, .ref a42, .ref a43, .int 0, .int 0, .int 0, .int 0])), (a1, .inl (cI, 1600, .inl f_39))] H := hP
  have hD : va_D A [(a0, .inr (12, [.ref a1, .int 12, .int 0, .int 0, .int 0, .int 0, .int 0, .int 0, .int (-1), .ref a2, .ref a3, .ref a4, .ref a5, .ref a6, .ref a7, .ref a8, .ref a9, .ref a10, .ref a11, .ref a12, .ref a13, .ref a14, .ref a15, .ref a16, .int 0, .int 0, .int 0, .int 0, .int 0, .int 9999, .ref a17, .ref a18, .ref a19, .int 0, .ref a20, .int 0, .ref a21, .int 0, .int 0, .ref a22, .ref a23, .ref a24, .ref a25, .int 0, .ref a26, .int 0, .ref a27, .ref a28, .ref a29, .long 0, .ref a30, .ref a31, .ref a32, .ref a33, .ref a34, .ref a35, .ref a36, .ref a37, .ref a38, .int 0, .int 0, .int 0, .long 0, .ref a39, .int 0, .ref a40, .ref a41, .ref a42, .ref a43, .int 0, .int 0, .int 0, .int 0])), (a1, .inl (cI, 1600, .inl f_39))] := hD
  refine lv_aload_n (pc := 98) hx hb dX12_feed_98 rfl (lv_at hl 2 rfl) ?_
  refine lv_dup (pc := 99) hx hb dX12_feed_99 rfl ?_
  refine va_get (pc := 100) (ci := 12) (v := .int 12) (C := RX12) (T := TX12) (N := 73) hx hb hts iX12 hown hK hP 0 rfl rfl 1 (by decide) (hts _ tw_1402) (fun _ h9 => h9) rfl dX12_feed_100 ?_
  refine lv_iconst (pc := 103) (v := 1) hx hb dX12_feed_103 (by decide) ?_
  refine lv_iadd (pc := 104) hx hb dX12_feed_104 ?_
  refine gI (y := 13) (by decide +kernel) ?_
  refine va_put (pc := 105) (ci := 12) (v := .int 13) (ty := .int) (C := RX12) (T := TX12) (N := 73) hx hb hts iX12 tyX12 tyX12_ok nmX12 hown hK hP hD hS 0 rfl rfl 1 (by decide) (hts _ tw_1402) (fun _ h9 => h9) rfl (by decide +kernel) (by decide +kernel) (by decide +kernel) (Nat.le_of_ble_eq_true rfl) dX12_feed_105 (fun H locs hP hD hS => ?_)
  have hP : va_P D gcl [(a0, .inr (12, [.ref a1, .int 13, .int 0, .int 0, .int 0, .int 0, .int 0, .int 0, .int (-1), .ref a2, .ref a3, .ref a4, .ref a5, .ref a6, .ref a7, .ref a8, .ref a9, .ref a10, .ref a11, .ref a12, .ref a13, .ref a14, .ref a15, .ref a16, .int 0, .int 0, .int 0, .int 0, .int 0, .int 9999, .ref a17, .ref a18, .ref a19, .int 0, .ref a20, .int 0, .ref a21, .int 0, .int 0, .ref a22, .ref a23, .ref a24, .ref a25, .int 0, .ref a26, .int 0, .ref a27, .ref a28, .ref a29, .long 0, .ref a30, .ref a31, .ref a32, .ref a33, .ref a34, .ref a35, .ref a36, .ref a37, .ref a38, .int 0, .int 0, .int 0, .long 0, .ref a39, .int 0, .ref a40, .ref a41, .ref a42, .ref a43, .int 0, .int 0, .int 0, .int 0])), (a1, .inl (cI, 1600, .inl f_39))] H := hP
  have hD : va_D A [(a0, .inr (12, [.ref a1, .int 13, .int 0, .int 0, .int 0, .int 0, .int 0, .int 0, .int (-1), .ref a2, .ref a3, .ref a4, .ref a5, .ref a6, .ref a7, .ref a8, .ref a9, .ref a10, .ref a11, .ref a12, .ref a13, .ref a14, .ref a15, .ref a16, .int 0, .int 0, .int 0, .int 0, .int 0, .int 9999, .ref a17, .ref a18, .ref a19, .int 0, .ref a20, .int 0, .ref a21, .int 0, .int 0, .ref a22, .ref a23, .ref a24, .ref a25, .int 0, .ref a26, .int 0, .ref a27, .ref a28, .ref a29, .long 0, .ref a30, .ref a31, .ref a32, .ref a33, .ref a34, .ref a35, .ref a36, .ref a37, .ref a38, .int 0, .int 0, .int 0, .long 0, .ref a39, .int 0, .ref a40, .ref a41, .ref a42, .ref a43, .int 0, .int 0, .int 0, .int 0])), (a1, .inl (cI, 1600, .inl f_39))] := hD
  refine lv_iinc (pc := 108) (v := 13) (lv' := [(6, .int 13), (7, .int x3), (0, .ref a0), (1, .int x0), (2, .int x1), (3, .int x2), (4, .int x3), (5, .int x4)]) hx hb dX12_feed_108 hl (k := 1) rfl (by decide +kernel) (by decide) rfl (fun ls hl => ?_)
  refine lv_goto (pc := 111) (tgt := 18) hx hb dX12_feed_111 (by decide) ?_
  refine lv_iload (pc := 18) hx hb dX12_feed_18 (lv_at hl 0 rfl) ?_
  refine lv_bipush (pc := 20) (v := 20) hx hb dX12_feed_20 (by decide) ?_
  refine lv_icmp_ge (pc := 22) (tgt := 114) hx hb dX12_feed_22 (by decide) (fun c => absurd c (by decide +kernel)) (fun _ => ?_)
  refine lv_iload (pc := 25) hx hb dX12_feed_25 (lv_at hl 0 rfl) ?_
  refine lv_iconst (pc := 27) (v := 4) hx hb dX12_feed_27 (by decide) ?_
  refine lv_icmp_ge (pc := 28) (tgt := 35) hx hb dX12_feed_28 (by decide) (fun _ => ?_) (fun c => absurd (by decide +kernel) c)
  refine lv_iload (pc := 35) hx hb dX12_feed_35 (lv_at hl 0 rfl) ?_
  refine lv_bipush (pc := 37) (v := 8) hx hb dX12_feed_37 (by decide) ?_
  refine lv_icmp_ge (pc := 39) (tgt := 46) hx hb dX12_feed_39 (by decide) (fun _ => ?_) (fun c => absurd (by decide +kernel) c)
  refine lv_iload (pc := 46) hx hb dX12_feed_46 (lv_at hl 0 rfl) ?_
  refine lv_bipush (pc := 48) (v := 12) hx hb dX12_feed_48 (by decide) ?_
  refine lv_icmp_ge (pc := 50) (tgt := 57) hx hb dX12_feed_50 (by decide) (fun _ => ?_) (fun c => absurd (by decide +kernel) c)
  refine lv_iload (pc := 57) hx hb dX12_feed_57 (lv_at hl 0 rfl) ?_
  refine lv_bipush (pc := 59) (v := 16) hx hb dX12_feed_59 (by decide) ?_
  refine lv_icmp_ge (pc := 61) (tgt := 69) hx hb dX12_feed_61 (by decide) (fun c => absurd c (by decide +kernel)) (fun _ => ?_)
  refine lv_iload (pc := 64) hx hb dX12_feed_64 (lv_at hl 6 rfl) ?_
  refine lv_goto (pc := 66) (tgt := 71) hx hb dX12_feed_66 (by decide) ?_
  refine lv_istore (pc := 71) (lv' := [(7, .int x3), (6, .int 13), (0, .ref a0), (1, .int x0), (2, .int x1), (3, .int x2), (4, .int x3), (5, .int x4)]) hx hb dX12_feed_71 hl (by decide) rfl (fun ls hl => ?_)
  refine lv_aload_n (pc := 73) hx hb dX12_feed_73 rfl (lv_at hl 2 rfl) ?_
  refine va_get (pc := 74) (ci := 12) (v := .ref a1) (C := RX12) (T := TX12) (N := 73) hx hb hts iX12 hown hK hP 0 rfl rfl 0 (by decide) (hts _ tw_1401) (fun _ h9 => h9) rfl dX12_feed_74 ?_
  refine lv_aload_n (pc := 77) hx hb dX12_feed_77 rfl (lv_at hl 2 rfl) ?_
  refine va_get (pc := 78) (ci := 12) (v := .int 13) (C := RX12) (T := TX12) (N := 73) hx hb hts iX12 hown hK hP 0 rfl rfl 1 (by decide) (hts _ tw_1402) (fun _ h9 => h9) rfl dX12_feed_78 ?_
  refine lv_iload (pc := 81) hx hb dX12_feed_81 (lv_at hl 0 rfl) ?_
  refine lv_bipush (pc := 83) (v := 8) hx hb dX12_feed_83 (by decide) ?_
  refine lv_iconst (pc := 85) (v := 3) hx hb dX12_feed_85 (by decide) ?_
  refine lv_iload (pc := 86) hx hb dX12_feed_86 (lv_at hl 1 rfl) ?_
  refine lv_iconst (pc := 88) (v := 4) hx hb dX12_feed_88 (by decide) ?_
  refine lv_irem (pc := 89) hx hb dX12_feed_89 (by decide +kernel) ?_
  refine gI (y := 1) (by decide +kernel) ?_
  refine lv_isub (pc := 90) hx hb dX12_feed_90 ?_
  refine gI (y := 2) (by decide +kernel) ?_
  refine lv_imul (pc := 91) hx hb dX12_feed_91 ?_
  refine gI (y := 16) (by decide +kernel) ?_
  refine lv_ishr (pc := 92) hx hb dX12_feed_92 ?_
  refine lv_topi (fun x_40 ex_40 => ?_)
  refine lv_sipush (pc := 93) (v := 255) hx hb dX12_feed_93 (by decide) ?_
  refine lv_iand (pc := 96) hx hb dX12_feed_96 ?_
  refine lv_topi (fun x_41 ex_41 => ?_)
  refine g_iastore (pc := 97) hx hb hK hP hD hS 1 2 rfl rfl (gin rfl) dX12_feed_97 (fun f_42 H locs hP hD hS => ?_)
  have hP : va_P D gcl [(a0, .inr (12, [.ref a1, .int 13, .int 0, .int 0, .int 0, .int 0, .int 0, .int 0, .int (-1), .ref a2, .ref a3, .ref a4, .ref a5, .ref a6, .ref a7, .ref a8, .ref a9, .ref a10, .ref a11, .ref a12, .ref a13, .ref a14, .ref a15, .ref a16, .int 0, .int 0, .int 0, .int 0, .int 0, .int 9999, .ref a17, .ref a18, .ref a19, .int 0, .ref a20, .int 0, .ref a21, .int 0, .int 0, .ref a22, .ref a23, .ref a24, .ref a25, .int 0, .ref a26, .int 0, .ref a27, .ref a28, .ref a29, .long 0, .ref a30, .ref a31, .ref a32, .ref a33, .ref a34, .ref a35, .ref a36, .ref a37, .ref a38, .int 0, .int 0, .int 0, .long 0, .ref a39, .int 0, .ref a40, .ref a41, .ref a42, .ref a43, .int 0, .int 0, .int 0, .int 0])), (a1, .inl (cI, 1600, .inl f_42))] H := hP
  have hD : va_D A [(a0, .inr (12, [.ref a1, .int 13, .int 0, .int 0, .int 0, .int 0, .int 0, .int 0, .int (-1), .ref a2, .ref a3, .ref a4, .ref a5, .ref a6, .ref a7, .ref a8, .ref a9, .ref a10, .ref a11, .ref a12, .ref a13, .ref a14, .ref a15, .ref a16, .int 0, .int 0, .int 0, .int 0, .int 0, .int 9999, .ref a17, .ref a18, .ref a19, .int 0, .ref a20, .int 0, .ref a21, .int 0, .int 0, .ref a22, .ref a23, .ref a24, .ref a25, .int 0, .ref a26, .int 0, .ref a27, .ref a28, .ref a29, .long 0, .ref a30, .ref a31, .ref a32, .ref a33, .ref a34, .ref a35, .ref a36, .ref a37, .ref a38, .int 0, .int 0, .int 0, .long 0, .ref a39, .int 0, .ref a40, .ref a41, .ref a42, .ref a43, .int 0, .int 0, .int 0, .int 0])), (a1, .inl (cI, 1600, .inl f_42))] := hD
  refine lv_aload_n (pc := 98) hx hb dX12_feed_98 rfl (lv_at hl 2 rfl) ?_
  refine lv_dup (pc := 99) hx hb dX12_feed_99 rfl ?_
  refine va_get (pc := 100) (ci := 12) (v := .int 13) (C := RX12) (T := TX12) (N := 73) hx hb hts iX12 hown hK hP 0 rfl rfl 1 (by decide) (hts _ tw_1402) (fun _ h9 => h9) rfl dX12_feed_100 ?_
  refine lv_iconst (pc := 103) (v := 1) hx hb dX12_feed_103 (by decide) ?_
  refine lv_iadd (pc := 104) hx hb dX12_feed_104 ?_
  refine gI (y := 14) (by decide +kernel) ?_
  refine va_put (pc := 105) (ci := 12) (v := .int 14) (ty := .int) (C := RX12) (T := TX12) (N := 73) hx hb hts iX12 tyX12 tyX12_ok nmX12 hown hK hP hD hS 0 rfl rfl 1 (by decide) (hts _ tw_1402) (fun _ h9 => h9) rfl (by decide +kernel) (by decide +kernel) (by decide +kernel) (Nat.le_of_ble_eq_true rfl) dX12_feed_105 (fun H locs hP hD hS => ?_)
  have hP : va_P D gcl [(a0, .inr (12, [.ref a1, .int 14, .int 0, .int 0, .int 0, .int 0, .int 0, .int 0, .int (-1), .ref a2, .ref a3, .ref a4, .ref a5, .ref a6, .ref a7, .ref a8, .ref a9, .ref a10, .ref a11, .ref a12, .ref a13, .ref a14, .ref a15, .ref a16, .int 0, .int 0, .int 0, .int 0, .int 0, .int 9999, .ref a17, .ref a18, .ref a19, .int 0, .ref a20, .int 0, .ref a21, .int 0, .int 0, .ref a22, .ref a23, .ref a24, .ref a25, .int 0, .ref a26, .int 0, .ref a27, .ref a28, .ref a29, .long 0, .ref a30, .ref a31, .ref a32, .ref a33, .ref a34, .ref a35, .ref a36, .ref a37, .ref a38, .int 0, .int 0, .int 0, .long 0, .ref a39, .int 0, .ref a40, .ref a41, .ref a42, .ref a43, .int 0, .int 0, .int 0, .int 0])), (a1, .inl (cI, 1600, .inl f_42))] H := hP
  have hD : va_D A [(a0, .inr (12, [.ref a1, .int 14, .int 0, .int 0, .int 0, .int 0, .int 0, .int 0, .int (-1), .ref a2, .ref a3, .ref a4, .ref a5, .ref a6, .ref a7, .ref a8, .ref a9, .ref a10, .ref a11, .ref a12, .ref a13, .ref a14, .ref a15, .ref a16, .int 0, .int 0, .int 0, .int 0, .int 0, .int 9999, .ref a17, .ref a18, .ref a19, .int 0, .ref a20, .int 0, .ref a21, .int 0, .int 0, .ref a22, .ref a23, .ref a24, .ref a25, .int 0, .ref a26, .int 0, .ref a27, .ref a28, .ref a29, .long 0, .ref a30, .ref a31, .ref a32, .ref a33, .ref a34, .ref a35, .ref a36, .ref a37, .ref a38, .int 0, .int 0, .int 0, .long 0, .ref a39, .int 0, .ref a40, .ref a41, .ref a42, .ref a43, .int 0, .int 0, .int 0, .int 0])), (a1, .inl (cI, 1600, .inl f_42))] := hD
  refine lv_iinc (pc := 108) (v := 14) (lv' := [(6, .int 14), (7, .int x3), (0, .ref a0), (1, .int x0), (2, .int x1), (3, .int x2), (4, .int x3), (5, .int x4)]) hx hb dX12_feed_108 hl (k := 1) rfl (by decide +kernel) (by decide) rfl (fun ls hl => ?_)
  refine lv_goto (pc := 111) (tgt := 18) hx hb dX12_feed_111 (by decide) ?_
  refine lv_iload (pc := 18) hx hb dX12_feed_18 (lv_at hl 0 rfl) ?_
  refine lv_bipush (pc := 20) (v := 20) hx hb dX12_feed_20 (by decide) ?_
  refine lv_icmp_ge (pc := 22) (tgt := 114) hx hb dX12_feed_22 (by decide) (fun c => absurd c (by decide +kernel)) (fun _ => ?_)
  refine lv_iload (pc := 25) hx hb dX12_feed_25 (lv_at hl 0 rfl) ?_
  refine lv_iconst (pc := 27) (v := 4) hx hb dX12_feed_27 (by decide) ?_
  refine lv_icmp_ge (pc := 28) (tgt := 35) hx hb dX12_feed_28 (by decide) (fun _ => ?_) (fun c => absurd (by decide +kernel) c)
  refine lv_iload (pc := 35) hx hb dX12_feed_35 (lv_at hl 0 rfl) ?_
  refine lv_bipush (pc := 37) (v := 8) hx hb dX12_feed_37 (by decide) ?_
  refine lv_icmp_ge (pc := 39) (tgt := 46) hx hb dX12_feed_39 (by decide) (fun _ => ?_) (fun c => absurd (by decide +kernel) c)
  refine lv_iload (pc := 46) hx hb dX12_feed_46 (lv_at hl 0 rfl) ?_
  refine lv_bipush (pc := 48) (v := 12) hx hb dX12_feed_48 (by decide) ?_
  refine lv_icmp_ge (pc := 50) (tgt := 57) hx hb dX12_feed_50 (by decide) (fun _ => ?_) (fun c => absurd (by decide +kernel) c)
  refine lv_iload (pc := 57) hx hb dX12_feed_57 (lv_at hl 0 rfl) ?_
  refine lv_bipush (pc := 59) (v := 16) hx hb dX12_feed_59 (by decide) ?_
  refine lv_icmp_ge (pc := 61) (tgt := 69) hx hb dX12_feed_61 (by decide) (fun c => absurd c (by decide +kernel)) (fun _ => ?_)
  refine lv_iload (pc := 64) hx hb dX12_feed_64 (lv_at hl 6 rfl) ?_
  refine lv_goto (pc := 66) (tgt := 71) hx hb dX12_feed_66 (by decide) ?_
  refine lv_istore (pc := 71) (lv' := [(7, .int x3), (6, .int 14), (0, .ref a0), (1, .int x0), (2, .int x1), (3, .int x2), (4, .int x3), (5, .int x4)]) hx hb dX12_feed_71 hl (by decide) rfl (fun ls hl => ?_)
  refine lv_aload_n (pc := 73) hx hb dX12_feed_73 rfl (lv_at hl 2 rfl) ?_
  refine va_get (pc := 74) (ci := 12) (v := .ref a1) (C := RX12) (T := TX12) (N := 73) hx hb hts iX12 hown hK hP 0 rfl rfl 0 (by decide) (hts _ tw_1401) (fun _ h9 => h9) rfl dX12_feed_74 ?_
  refine lv_aload_n (pc := 77) hx hb dX12_feed_77 rfl (lv_at hl 2 rfl) ?_
  refine va_get (pc := 78) (ci := 12) (v := .int 14) (C := RX12) (T := TX12) (N := 73) hx hb hts iX12 hown hK hP 0 rfl rfl 1 (by decide) (hts _ tw_1402) (fun _ h9 => h9) rfl dX12_feed_78 ?_
  refine lv_iload (pc := 81) hx hb dX12_feed_81 (lv_at hl 0 rfl) ?_
  refine lv_bipush (pc := 83) (v := 8) hx hb dX12_feed_83 (by decide) ?_
  refine lv_iconst (pc := 85) (v := 3) hx hb dX12_feed_85 (by decide) ?_
  refine lv_iload (pc := 86) hx hb dX12_feed_86 (lv_at hl 1 rfl) ?_
  refine lv_iconst (pc := 88) (v := 4) hx hb dX12_feed_88 (by decide) ?_
  refine lv_irem (pc := 89) hx hb dX12_feed_89 (by decide +kernel) ?_
  refine gI (y := 2) (by decide +kernel) ?_
  refine lv_isub (pc := 90) hx hb dX12_feed_90 ?_
  refine gI (y := 1) (by decide +kernel) ?_
  refine lv_imul (pc := 91) hx hb dX12_feed_91 ?_
  refine gI (y := 8) (by decide +kernel) ?_
  refine lv_ishr (pc := 92) hx hb dX12_feed_92 ?_
  refine lv_topi (fun x_43 ex_43 => ?_)
  refine lv_sipush (pc := 93) (v := 255) hx hb dX12_feed_93 (by decide) ?_
  refine lv_iand (pc := 96) hx hb dX12_feed_96 ?_
  refine lv_topi (fun x_44 ex_44 => ?_)
  refine g_iastore (pc := 97) hx hb hK hP hD hS 1 2 rfl rfl (gin rfl) dX12_feed_97 (fun f_45 H locs hP hD hS => ?_)
  have hP : va_P D gcl [(a0, .inr (12, [.ref a1, .int 14, .int 0, .int 0, .int 0, .int 0, .int 0, .int 0, .int (-1), .ref a2, .ref a3, .ref a4, .ref a5, .ref a6, .ref a7, .ref a8, .ref a9, .ref a10, .ref a11, .ref a12, .ref a13, .ref a14, .ref a15, .ref a16, .int 0, .int 0, .int 0, .int 0, .int 0, .int 9999, .ref a17, .ref a18, .ref a19, .int 0, .ref a20, .int 0, .ref a21, .int 0, .int 0, .ref a22, .ref a23, .ref a24, .ref a25, .int 0, .ref a26, .int 0, .ref a27, .ref a28, .ref a29, .long 0, .ref a30, .ref a31, .ref a32, .ref a33, .ref a34, .ref a35, .ref a36, .ref a37, .ref a38, .int 0, .int 0, .int 0, .long 0, .ref a39, .int 0, .ref a40, .ref a41, .ref a42, .ref a43, .int 0, .int 0, .int 0, .int 0])), (a1, .inl (cI, 1600, .inl f_45))] H := hP
  have hD : va_D A [(a0, .inr (12, [.ref a1, .int 14, .int 0, .int 0, .int 0, .int 0, .int 0, .int 0, .int (-1), .ref a2, .ref a3, .ref a4, .ref a5, .ref a6, .ref a7, .ref a8, .ref a9, .ref a10, .ref a11, .ref a12, .ref a13, .ref a14, .ref a15, .ref a16, .int 0, .int 0, .int 0, .int 0, .int 0, .int 9999, .ref a17, .ref a18, .ref a19, .int 0, .ref a20, .int 0, .ref a21, .int 0, .int 0, .ref a22, .ref a23, .ref a24, .ref a25, .int 0, .ref a26, .int 0, .ref a27, .ref a28, .ref a29, .long 0, .ref a30, .ref a31, .ref a32, .ref a33, .ref a34, .ref a35, .ref a36, .ref a37, .ref a38, .int 0, .int 0, .int 0, .long 0, .ref a39, .int 0, .ref a40, .ref a41, .ref a42, .ref a43, .int 0, .int 0, .int 0, .int 0])), (a1, .inl (cI, 1600, .inl f_45))] := hD
  refine lv_aload_n (pc := 98) hx hb dX12_feed_98 rfl (lv_at hl 2 rfl) ?_
  refine lv_dup (pc := 99) hx hb dX12_feed_99 rfl ?_
  refine va_get (pc := 100) (ci := 12) (v := .int 14) (C := RX12) (T := TX12) (N := 73) hx hb hts iX12 hown hK hP 0 rfl rfl 1 (by decide) (hts _ tw_1402) (fun _ h9 => h9) rfl dX12_feed_100 ?_
  refine lv_iconst (pc := 103) (v := 1) hx hb dX12_feed_103 (by decide) ?_
  refine lv_iadd (pc := 104) hx hb dX12_feed_104 ?_
  refine gI (y := 15) (by decide +kernel) ?_
  refine va_put (pc := 105) (ci := 12) (v := .int 15) (ty := .int) (C := RX12) (T := TX12) (N := 73) hx hb hts iX12 tyX12 tyX12_ok nmX12 hown hK hP hD hS 0 rfl rfl 1 (by decide) (hts _ tw_1402) (fun _ h9 => h9) rfl (by decide +kernel) (by decide +kernel) (by decide +kernel) (Nat.le_of_ble_eq_true rfl) dX12_feed_105 (fun H locs hP hD hS => ?_)
  have hP : va_P D gcl [(a0, .inr (12, [.ref a1, .int 15, .int 0, .int 0, .int 0, .int 0, .int 0, .int 0, .int (-1), .ref a2, .ref a3, .ref a4, .ref a5, .ref a6, .ref a7, .ref a8, .ref a9, .ref a10, .ref a11, .ref a12, .ref a13, .ref a14, .ref a15, .ref a16, .int 0, .int 0, .int 0, .int 0, .int 0, .int 9999, .ref a17, .ref a18, .ref a19, .int 0, .ref a20, .int 0, .ref a21, .int 0, .int 0, .ref a22, .ref a23, .ref a24, .ref a25, .int 0, .ref a26, .int 0, .ref a27, .ref a28, .ref a29, .long 0, .ref a30, .ref a31, .ref a32, .ref a33, .ref a34, .ref a35, .ref a36, .ref a37, .ref a38, .int 0, .int 0, .int 0, .long 0, .ref a39, .int 0, .ref a40, .ref a41, .ref a42, .ref a43, .int 0, .int 0, .int 0, .int 0])), (a1, .inl (cI, 1600, .inl f_45))] H := hP
  have hD : va_D A [(a0, .inr (12, [.ref a1, .int 15, .int 0, .int 0, .int 0, .int 0, .int 0, .int 0, .int (-1), .ref a2, .ref a3, .ref a4, .ref a5, .ref a6, .ref a7, .ref a8, .ref a9, .ref a10, .ref a11, .ref a12, .ref a13, .ref a14, .ref a15, .ref a16, .int 0, .int 0, .int 0, .int 0, .int 0, .int 9999, .ref a17, .ref a18, .ref a19, .int 0, .ref a20, .int 0, .ref a21, .int 0, .int 0, .ref a22, .ref a23, .ref a24, .ref a25, .int 0, .ref a26, .int 0, .ref a27, .ref a28, .ref a29, .long 0, .ref a30, .ref a31, .ref a32, .ref a33, .ref a34, .ref a35, .ref a36, .ref a37, .ref a38, .int 0, .int 0, .int 0, .long 0, .ref a39, .int 0, .ref a40, .ref a41, .ref a42, .ref a43, .int 0, .int 0, .int 0, .int 0])), (a1, .inl (cI, 1600, .inl f_45))] := hD
  refine lv_iinc (pc := 108) (v := 15) (lv' := [(6, .int 15), (7, .int x3), (0, .ref a0), (1, .int x0), (2, .int x1), (3, .int x2), (4, .int x3), (5, .int x4)]) hx hb dX12_feed_108 hl (k := 1) rfl (by decide +kernel) (by decide) rfl (fun ls hl => ?_)
  refine lv_goto (pc := 111) (tgt := 18) hx hb dX12_feed_111 (by decide) ?_
  refine lv_iload (pc := 18) hx hb dX12_feed_18 (lv_at hl 0 rfl) ?_
  refine lv_bipush (pc := 20) (v := 20) hx hb dX12_feed_20 (by decide) ?_
  refine lv_icmp_ge (pc := 22) (tgt := 114) hx hb dX12_feed_22 (by decide) (fun c => absurd c (by decide +kernel)) (fun _ => ?_)
  refine lv_iload (pc := 25) hx hb dX12_feed_25 (lv_at hl 0 rfl) ?_
  refine lv_iconst (pc := 27) (v := 4) hx hb dX12_feed_27 (by decide) ?_
  refine lv_icmp_ge (pc := 28) (tgt := 35) hx hb dX12_feed_28 (by decide) (fun _ => ?_) (fun c => absurd (by decide +kernel) c)
  refine lv_iload (pc := 35) hx hb dX12_feed_35 (lv_at hl 0 rfl) ?_
  refine lv_bipush (pc := 37) (v := 8) hx hb dX12_feed_37 (by decide) ?_
  refine lv_icmp_ge (pc := 39) (tgt := 46) hx hb dX12_feed_39 (by decide) (fun _ => ?_) (fun c => absurd (by decide +kernel) c)
  refine lv_iload (pc := 46) hx hb dX12_feed_46 (lv_at hl 0 rfl) ?_
  refine lv_bipush (pc := 48) (v := 12) hx hb dX12_feed_48 (by decide) ?_
  refine lv_icmp_ge (pc := 50) (tgt := 57) hx hb dX12_feed_50 (by decide) (fun _ => ?_) (fun c => absurd (by decide +kernel) c)
  refine lv_iload (pc := 57) hx hb dX12_feed_57 (lv_at hl 0 rfl) ?_
  refine lv_bipush (pc := 59) (v := 16) hx hb dX12_feed_59 (by decide) ?_
  refine lv_icmp_ge (pc := 61) (tgt := 69) hx hb dX12_feed_61 (by decide) (fun c => absurd c (by decide +kernel)) (fun _ => ?_)
  refine lv_iload (pc := 64) hx hb dX12_feed_64 (lv_at hl 6 rfl) ?_
  refine lv_goto (pc := 66) (tgt := 71) hx hb dX12_feed_66 (by decide) ?_
  refine lv_istore (pc := 71) (lv' := [(7, .int x3), (6, .int 15), (0, .ref a0), (1, .int x0), (2, .int x1), (3, .int x2), (4, .int x3), (5, .int x4)]) hx hb dX12_feed_71 hl (by decide) rfl (fun ls hl => ?_)
  refine lv_aload_n (pc := 73) hx hb dX12_feed_73 rfl (lv_at hl 2 rfl) ?_
  refine va_get (pc := 74) (ci := 12) (v := .ref a1) (C := RX12) (T := TX12) (N := 73) hx hb hts iX12 hown hK hP 0 rfl rfl 0 (by decide) (hts _ tw_1401) (fun _ h9 => h9) rfl dX12_feed_74 ?_
  refine lv_aload_n (pc := 77) hx hb dX12_feed_77 rfl (lv_at hl 2 rfl) ?_
  refine va_get (pc := 78) (ci := 12) (v := .int 15) (C := RX12) (T := TX12) (N := 73) hx hb hts iX12 hown hK hP 0 rfl rfl 1 (by decide) (hts _ tw_1402) (fun _ h9 => h9) rfl dX12_feed_78 ?_
  refine lv_iload (pc := 81) hx hb dX12_feed_81 (lv_at hl 0 rfl) ?_
  refine lv_bipush (pc := 83) (v := 8) hx hb dX12_feed_83 (by decide) ?_
  refine lv_iconst (pc := 85) (v := 3) hx hb dX12_feed_85 (by decide) ?_
  refine lv_iload (pc := 86) hx hb dX12_feed_86 (lv_at hl 1 rfl) ?_
  refine lv_iconst (pc := 88) (v := 4) hx hb dX12_feed_88 (by decide) ?_
  refine lv_irem (pc := 89) hx hb dX12_feed_89 (by decide +kernel) ?_
  refine gI (y := 3) (by decide +kernel) ?_
  refine lv_isub (pc := 90) hx hb dX12_feed_90 ?_
  refine gI (y := 0) (by decide +kernel) ?_
  refine lv_imul (pc := 91) hx hb dX12_feed_91 ?_
  refine gI (y := 0) (by decide +kernel) ?_
  refine lv_ishr (pc := 92) hx hb dX12_feed_92 ?_
  refine lv_topi (fun x_46 ex_46 => ?_)
  refine lv_sipush (pc := 93) (v := 255) hx hb dX12_feed_93 (by decide) ?_
  refine lv_iand (pc := 96) hx hb dX12_feed_96 ?_
  refine lv_topi (fun x_47 ex_47 => ?_)
  refine g_iastore (pc := 97) hx hb hK hP hD hS 1 2 rfl rfl (gin rfl) dX12_feed_97 (fun f_48 H locs hP hD hS => ?_)
  have hP : va_P D gcl [(a0, .inr (12, [.ref a1, .int 15, .int 0, .int 0, .int 0, .int 0, .int 0, .int 0, .int (-1), .ref a2, .ref a3, .ref a4, .ref a5, .ref a6, .ref a7, .ref a8, .ref a9, .ref a10, .ref a11, .ref a12, .ref a13, .ref a14, .ref a15, .ref a16, .int 0, .int 0, .int 0, .int 0, .int 0, .int 9999, .ref a17, .ref a18, .ref a19, .int 0, .ref a20, .int 0, .ref a21, .int 0, .int 0, .ref a22, .ref a23, .ref a24, .ref a25, .int 0, .ref a26, .int 0, .ref a27, .ref a28, .ref a29, .long 0, .ref a30, .ref a31, .ref a32, .ref a33, .ref a34, .ref a35, .ref a36, .ref a37, .ref a38, .int 0, .int 0, .int 0, .long 0, .ref a39, .int 0, .ref a40, .ref a41, .ref a42, .ref a43, .int 0, .int 0, .int 0, .int 0])), (a1, .inl (cI, 1600, .inl f_48))] H := hP
  have hD : va_D A [(a0, .inr (12, [.ref a1, .int 15, .int 0, .int 0, .int 0, .int 0, .int 0, .int 0, .int (-1), .ref a2, .ref a3, .ref a4, .ref a5, .ref a6, .ref a7, .ref a8, .ref a9, .ref a10, .ref a11, .ref a12, .ref a13, .ref a14, .ref a15, .ref a16, .int 0, .int 0, .int 0, .int 0, .int 0, .int 9999, .ref a17, .ref a18, .ref a19, .int 0, .ref a20, .int 0, .ref a21, .int 0, .int 0, .ref a22, .ref a23, .ref a24, .ref a25, .int 0, .ref a26, .int 0, .ref a27, .ref a28, .ref a29, .long 0, .ref a30, .ref a31, .ref a32, .ref a33, .ref a34, .ref a35, .ref a36, .ref a37, .ref a38, .int 0, .int 0, .int 0, .long 0, .ref a39, .int 0, .ref a40, .ref a41, .ref a42, .ref a43, .int 0, .int 0, .int 0, .int 0])), (a1, .inl (cI, 1600, .inl f_48))] := hD
  refine lv_aload_n (pc := 98) hx hb dX12_feed_98 rfl (lv_at hl 2 rfl) ?_
  refine lv_dup (pc := 99) hx hb dX12_feed_99 rfl ?_
  refine va_get (pc := 100) (ci := 12) (v := .int 15) (C := RX12) (T := TX12) (N := 73) hx hb hts iX12 hown hK hP 0 rfl rfl 1 (by decide) (hts _ tw_1402) (fun _ h9 => h9) rfl dX12_feed_100 ?_
  refine lv_iconst (pc := 103) (v := 1) hx hb dX12_feed_103 (by decide) ?_
  refine lv_iadd (pc := 104) hx hb dX12_feed_104 ?_
  refine gI (y := 16) (by decide +kernel) ?_
  refine va_put (pc := 105) (ci := 12) (v := .int 16) (ty := .int) (C := RX12) (T := TX12) (N := 73) hx hb hts iX12 tyX12 tyX12_ok nmX12 hown hK hP hD hS 0 rfl rfl 1 (by decide) (hts _ tw_1402) (fun _ h9 => h9) rfl (by decide +kernel) (by decide +kernel) (by decide +kernel) (Nat.le_of_ble_eq_true rfl) dX12_feed_105 (fun H locs hP hD hS => ?_)
  have hP : va_P D gcl [(a0, .inr (12, [.ref a1, .int 16, .int 0, .int 0, .int 0, .int 0, .int 0, .int 0, .int (-1), .ref a2, .ref a3, .ref a4, .ref a5, .ref a6, .ref a7, .ref a8, .ref a9, .ref a10, .ref a11, .ref a12, .ref a13, .ref a14, .ref a15, .ref a16, .int 0, .int 0, .int 0, .int 0, .int 0, .int 9999, .ref a17, .ref a18, .ref a19, .int 0, .ref a20, .int 0, .ref a21, .int 0, .int 0, .ref a22, .ref a23, .ref a24, .ref a25, .int 0, .ref a26, .int 0, .ref a27, .ref a28, .ref a29, .long 0, .ref a30, .ref a31, .ref a32, .ref a33, .ref a34, .ref a35, .ref a36, .ref a37, .ref a38, .int 0, .int 0, .int 0, .long 0, .ref a39, .int 0, .ref a40, .ref a41, .ref a42, .ref a43, .int 0, .int 0, .int 0, .int 0])), (a1, .inl (cI, 1600, .inl f_48))] H := hP
  have hD : va_D A [(a0, .inr (12, [.ref a1, .int 16, .int 0, .int 0, .int 0, .int 0, .int 0, .int 0, .int (-1), .ref a2, .ref a3, .ref a4, .ref a5, .ref a6, .ref a7, .ref a8, .ref a9, .ref a10, .ref a11, .ref a12, .ref a13, .ref a14, .ref a15, .ref a16, .int 0, .int 0, .int 0, .int 0, .int 0, .int 9999, .ref a17, .ref a18, .ref a19, .int 0, .ref a20, .int 0, .ref a21, .int 0, .int 0, .ref a22, .ref a23, .ref a24, .ref a25, .int 0, .ref a26, .int 0, .ref a27, .ref a28, .ref a29, .long 0, .ref a30, .ref a31, .ref a32, .ref a33, .ref a34, .ref a35, .ref a36, .ref a37, .ref a38, .int 0, .int 0, .int 0, .long 0, .ref a39, .int 0, .ref a40, .ref a41, .ref a42, .ref a43, .int 0, .int 0, .int 0, .int 0])), (a1, .inl (cI, 1600, .inl f_48))] := hD
  refine lv_iinc (pc := 108) (v := 16) (lv' := [(6, .int 16), (7, .int x3), (0, .ref a0), (1, .int x0), (2, .int x1), (3, .int x2), (4, .int x3), (5, .int x4)]) hx hb dX12_feed_108 hl (k := 1) rfl (by decide +kernel) (by decide) rfl (fun ls hl => ?_)
  refine lv_goto (pc := 111) (tgt := 18) hx hb dX12_feed_111 (by decide) ?_
  refine lv_iload (pc := 18) hx hb dX12_feed_18 (lv_at hl 0 rfl) ?_
  refine lv_bipush (pc := 20) (v := 20) hx hb dX12_feed_20 (by decide) ?_
  refine lv_icmp_ge (pc := 22) (tgt := 114) hx hb dX12_feed_22 (by decide) (fun c => absurd c (by decide +kernel)) (fun _ => ?_)
  refine lv_iload (pc := 25) hx hb dX12_feed_25 (lv_at hl 0 rfl) ?_
  refine lv_iconst (pc := 27) (v := 4) hx hb dX12_feed_27 (by decide) ?_
  refine lv_icmp_ge (pc := 28) (tgt := 35) hx hb dX12_feed_28 (by decide) (fun _ => ?_) (fun c => absurd (by decide +kernel) c)
  refine lv_iload (pc := 35) hx hb dX12_feed_35 (lv_at hl 0 rfl) ?_
  refine lv_bipush (pc := 37) (v := 8) hx hb dX12_feed_37 (by decide) ?_
  refine lv_icmp_ge (pc := 39) (tgt := 46) hx hb dX12_feed_39 (by decide) (fun _ => ?_) (fun c => absurd (by decide +kernel) c)
  refine lv_iload (pc := 46) hx hb dX12_feed_46 (lv_at hl 0 rfl) ?_
  refine lv_bipush (pc := 48) (v := 12) hx hb dX12_feed_48 (by decide) ?_
  refine lv_icmp_ge (pc := 50) (tgt := 57) hx hb dX12_feed_50 (by decide) (fun _ => ?_) (fun c => absurd (by decide +kernel) c)
  refine lv_iload (pc := 57) hx hb dX12_feed_57 (lv_at hl 0 rfl) ?_
  refine lv_bipush (pc := 59) (v := 16) hx hb dX12_feed_59 (by decide) ?_
  refine lv_icmp_ge (pc := 61) (tgt := 69) hx hb dX12_feed_61 (by decide) (fun _ => ?_) (fun c => absurd (by decide +kernel) c)
  refine lv_iload (pc := 69) hx hb dX12_feed_69 (lv_at hl 7 rfl) ?_
  refine lv_istore (pc := 71) (lv' := [(7, .int x4), (6, .int 16), (0, .ref a0), (1, .int x0), (2, .int x1), (3, .int x2), (4, .int x3), (5, .int x4)]) hx hb dX12_feed_71 hl (by decide) rfl (fun ls hl => ?_)
  refine lv_aload_n (pc := 73) hx hb dX12_feed_73 rfl (lv_at hl 2 rfl) ?_
  refine va_get (pc := 74) (ci := 12) (v := .ref a1) (C := RX12) (T := TX12) (N := 73) hx hb hts iX12 hown hK hP 0 rfl rfl 0 (by decide) (hts _ tw_1401) (fun _ h9 => h9) rfl dX12_feed_74 ?_
  refine lv_aload_n (pc := 77) hx hb dX12_feed_77 rfl (lv_at hl 2 rfl) ?_
  refine va_get (pc := 78) (ci := 12) (v := .int 16) (C := RX12) (T := TX12) (N := 73) hx hb hts iX12 hown hK hP 0 rfl rfl 1 (by decide) (hts _ tw_1402) (fun _ h9 => h9) rfl dX12_feed_78 ?_
  refine lv_iload (pc := 81) hx hb dX12_feed_81 (lv_at hl 0 rfl) ?_
  refine lv_bipush (pc := 83) (v := 8) hx hb dX12_feed_83 (by decide) ?_
  refine lv_iconst (pc := 85) (v := 3) hx hb dX12_feed_85 (by decide) ?_
  refine lv_iload (pc := 86) hx hb dX12_feed_86 (lv_at hl 1 rfl) ?_
  refine lv_iconst (pc := 88) (v := 4) hx hb dX12_feed_88 (by decide) ?_
  refine lv_irem (pc := 89) hx hb dX12_feed_89 (by decide +kernel) ?_
  refine gI (y := 0) (by decide +kernel) ?_
  refine lv_isub (pc := 90) hx hb dX12_feed_90 ?_
  refine gI (y := 3) (by decide +kernel) ?_
  refine lv_imul (pc := 91) hx hb dX12_feed_91 ?_
  refine gI (y := 24) (by decide +kernel) ?_
  refine lv_ishr (pc := 92) hx hb dX12_feed_92 ?_
  refine lv_topi (fun x_49 ex_49 => ?_)
  refine lv_sipush (pc := 93) (v := 255) hx hb dX12_feed_93 (by decide) ?_
  refine lv_iand (pc := 96) hx hb dX12_feed_96 ?_
  refine lv_topi (fun x_50 ex_50 => ?_)
  refine g_iastore (pc := 97) hx hb hK hP hD hS 1 2 rfl rfl (gin rfl) dX12_feed_97 (fun f_51 H locs hP hD hS => ?_)
  have hP : va_P D gcl [(a0, .inr (12, [.ref a1, .int 16, .int 0, .int 0, .int 0, .int 0, .int 0, .int 0, .int (-1), .ref a2, .ref a3, .ref a4, .ref a5, .ref a6, .ref a7, .ref a8, .ref a9, .ref a10, .ref a11, .ref a12, .ref a13, .ref a14, .ref a15, .ref a16, .int 0, .int 0, .int 0, .int 0, .int 0, .int 9999, .ref a17, .ref a18, .ref a19, .int 0, .ref a20, .int 0, .ref a21, .int 0, .int 0, .ref a22, .ref a23, .ref a24, .ref a25, .int 0, .ref a26, .int 0, .ref a27, .ref a28, .ref a29, .long 0, .ref a30, .ref a31, .ref a32, .ref a33, .ref a34, .ref a35, .ref a36, .ref a37, .ref a38, .int 0, .int 0, .int 0, .long 0, .ref a39, .int 0, .ref a40, .ref a41, .ref a42, .ref a43, .int 0, .int 0, .int 0, .int 0])), (a1, .inl (cI, 1600, .inl f_51))] H := hP
  have hD : va_D A [(a0, .inr (12, [.ref a1, .int 16, .int 0, .int 0, .int 0, .int 0, .int 0, .int 0, .int (-1), .ref a2, .ref a3, .ref a4, .ref a5, .ref a6, .ref a7, .ref a8, .ref a9, .ref a10, .ref a11, .ref a12, .ref a13, .ref a14, .ref a15, .ref a16, .int 0, .int 0, .int 0, .int 0, .int 0, .int 9999, .ref a17, .ref a18, .ref a19, .int 0, .ref a20, .int 0, .ref a21, .int 0, .int 0, .ref a22, .ref a23, .ref a24, .ref a25, .int 0, .ref a26, .int 0, .ref a27, .ref a28, .ref a29, .long 0, .ref a30, .ref a31, .ref a32, .ref a33, .ref a34, .ref a35, .ref a36, .ref a37, .ref a38, .int 0, .int 0, .int 0, .long 0, .ref a39, .int 0, .ref a40, .ref a41, .ref a42, .ref a43, .int 0, .int 0, .int 0, .int 0])), (a1, .inl (cI, 1600, .inl f_51))] := hD
  refine lv_aload_n (pc := 98) hx hb dX12_feed_98 rfl (lv_at hl 2 rfl) ?_
  refine lv_dup (pc := 99) hx hb dX12_feed_99 rfl ?_
  refine va_get (pc := 100) (ci := 12) (v := .int 16) (C := RX12) (T := TX12) (N := 73) hx hb hts iX12 hown hK hP 0 rfl rfl 1 (by decide) (hts _ tw_1402) (fun _ h9 => h9) rfl dX12_feed_100 ?_
  refine lv_iconst (pc := 103) (v := 1) hx hb dX12_feed_103 (by decide) ?_
  refine lv_iadd (pc := 104) hx hb dX12_feed_104 ?_
  refine gI (y := 17) (by decide +kernel) ?_
  refine va_put (pc := 105) (ci := 12) (v := .int 17) (ty := .int) (C := RX12) (T := TX12) (N := 73) hx hb hts iX12 tyX12 tyX12_ok nmX12 hown hK hP hD hS 0 rfl rfl 1 (by decide) (hts _ tw_1402) (fun _ h9 => h9) rfl (by decide +kernel) (by decide +kernel) (by decide +kernel) (Nat.le_of_ble_eq_true rfl) dX12_feed_105 (fun H locs hP hD hS => ?_)
  have hP : va_P D gcl [(a0, .inr (12, [.ref a1, .int 17, .int 0, .int 0, .int 0, .int 0, .int 0, .int 0, .int (-1), .ref a2, .ref a3, .ref a4, .ref a5, .ref a6, .ref a7, .ref a8, .ref a9, .ref a10, .ref a11, .ref a12, .ref a13, .ref a14, .ref a15, .ref a16, .int 0, .int 0, .int 0, .int 0, .int 0, .int 9999, .ref a17, .ref a18, .ref a19, .int 0, .ref a20, .int 0, .ref a21, .int 0, .int 0, .ref a22, .ref a23, .ref a24, .ref a25, .int 0, .ref a26, .int 0, .ref a27, .ref a28, .ref a29, .long 0, .ref a30, .ref a31, .ref a32, .ref a33, .ref a34, .ref a35, .ref a36, .ref a37, .ref a38, .int 0, .int 0, .int 0, .long 0, .ref a39, .int 0, .ref a40, .ref a41, .ref a42, .ref a43, .int 0, .int 0, .int 0, .int 0])), (a1, .inl (cI, 1600, .inl f_51))] H := hP
  have hD : va_D A [(a0, .inr (12, [.ref a1, .int 17, .int 0, .int 0, .int 0, .int 0, .int 0, .int 0, .int (-1), .ref a2, .ref a3, .ref a4, .ref a5, .ref a6, .ref a7, .ref a8, .ref a9, .ref a10, .ref a11, .ref a12, .ref a13, .ref a14, .ref a15, .ref a16, .int 0, .int 0, .int 0, .int 0, .int 0, .int 9999, .ref a17, .ref a18, .ref a19, .int 0, .ref a20, .int 0, .ref a21, .int 0, .int 0, .ref a22, .ref a23, .ref a24, .ref a25, .int 0, .ref a26, .int 0, .ref a27, .ref a28, .ref a29, .long 0, .ref a30, .ref a31, .ref a32, .ref a33, .ref a34, .ref a35, .ref a36, .ref a37, .ref a38, .int 0, .int 0, .int 0, .long 0, .ref a39, .int 0, .ref a40, .ref a41, .ref a42, .ref a43, .int 0, .int 0, .int 0, .int 0])), (a1, .inl (cI, 1600, .inl f_51))] := hD
  refine lv_iinc (pc := 108) (v := 17) (lv' := [(6, .int 17), (7, .int x4), (0, .ref a0), (1, .int x0), (2, .int x1), (3, .int x2), (4, .int x3), (5, .int x4)]) hx hb dX12_feed_108 hl (k := 1) rfl (by decide +kernel) (by decide) rfl (fun ls hl => ?_)
  refine lv_goto (pc := 111) (tgt := 18) hx hb dX12_feed_111 (by decide) ?_
  refine lv_iload (pc := 18) hx hb dX12_feed_18 (lv_at hl 0 rfl) ?_
  refine lv_bipush (pc := 20) (v := 20) hx hb dX12_feed_20 (by decide) ?_
  refine lv_icmp_ge (pc := 22) (tgt := 114) hx hb dX12_feed_22 (by decide) (fun c => absurd c (by decide +kernel)) (fun _ => ?_)
  refine lv_iload (pc := 25) hx hb dX12_feed_25 (lv_at hl 0 rfl) ?_
  refine lv_iconst (pc := 27) (v := 4) hx hb dX12_feed_27 (by decide) ?_
  refine lv_icmp_ge (pc := 28) (tgt := 35) hx hb dX12_feed_28 (by decide) (fun _ => ?_) (fun c => absurd (by decide +kernel) c)
  refine lv_iload (pc := 35) hx hb dX12_feed_35 (lv_at hl 0 rfl) ?_
  refine lv_bipush (pc := 37) (v := 8) hx hb dX12_feed_37 (by decide) ?_
  refine lv_icmp_ge (pc := 39) (tgt := 46) hx hb dX12_feed_39 (by decide) (fun _ => ?_) (fun c => absurd (by decide +kernel) c)
  refine lv_iload (pc := 46) hx hb dX12_feed_46 (lv_at hl 0 rfl) ?_
  refine lv_bipush (pc := 48) (v := 12) hx hb dX12_feed_48 (by decide) ?_
  refine lv_icmp_ge (pc := 50) (tgt := 57) hx hb dX12_feed_50 (by decide) (fun _ => ?_) (fun c => absurd (by decide +kernel) c)
  refine lv_iload (pc := 57) hx hb dX12_feed_57 (lv_at hl 0 rfl) ?_
  refine lv_bipush (pc := 59) (v := 16) hx hb dX12_feed_59 (by decide) ?_
  refine lv_icmp_ge (pc := 61) (tgt := 69) hx hb dX12_feed_61 (by decide) (fun _ => ?_) (fun c => absurd (by decide +kernel) c)
  refine lv_iload (pc := 69) hx hb dX12_feed_69 (lv_at hl 7 rfl) ?_
  refine lv_istore (pc := 71) (lv' := [(7, .int x4), (6, .int 17), (0, .ref a0), (1, .int x0), (2, .int x1), (3, .int x2), (4, .int x3), (5, .int x4)]) hx hb dX12_feed_71 hl (by decide) rfl (fun ls hl => ?_)
  refine lv_aload_n (pc := 73) hx hb dX12_feed_73 rfl (lv_at hl 2 rfl) ?_
  refine va_get (pc := 74) (ci := 12) (v := .ref a1) (C := RX12) (T := TX12) (N := 73) hx hb hts iX12 hown hK hP 0 rfl rfl 0 (by decide) (hts _ tw_1401) (fun _ h9 => h9) rfl dX12_feed_74 ?_
  refine lv_aload_n (pc := 77) hx hb dX12_feed_77 rfl (lv_at hl 2 rfl) ?_
  refine va_get (pc := 78) (ci := 12) (v := .int 17) (C := RX12) (T := TX12) (N := 73) hx hb hts iX12 hown hK hP 0 rfl rfl 1 (by decide) (hts _ tw_1402) (fun _ h9 => h9) rfl dX12_feed_78 ?_
  refine lv_iload (pc := 81) hx hb dX12_feed_81 (lv_at hl 0 rfl) ?_
  refine lv_bipush (pc := 83) (v := 8) hx hb dX12_feed_83 (by decide) ?_
  refine lv_iconst (pc := 85) (v := 3) hx hb dX12_feed_85 (by decide) ?_
  refine lv_iload (pc := 86) hx hb dX12_feed_86 (lv_at hl 1 rfl) ?_
  refine lv_iconst (pc := 88) (v := 4) hx hb dX12_feed_88 (by decide) ?_
  refine lv_irem (pc := 89) hx hb dX12_feed_89 (by decide +kernel) ?_
  refine gI (y := 1) (by decide +kernel) ?_
  refine lv_isub (pc := 90) hx hb dX12_feed_90 ?_
  refine gI (y := 2) (by decide +kernel) ?_
  refine lv_imul (pc := 91) hx hb dX12_feed_91 ?_
  refine gI (y := 16) (by decide +kernel) ?_
  refine lv_ishr (pc := 92) hx hb dX12_feed_92 ?_
  refine lv_topi (fun x_52 ex_52 => ?_)
  refine lv_sipush (pc := 93) (v := 255) hx hb dX12_feed_93 (by decide) ?_
  refine lv_iand (pc := 96) hx hb dX12_feed_96 ?_
  refine lv_topi (fun x_53 ex_53 => ?_)
  refine g_iastore (pc := 97) hx hb hK hP hD hS 1 2 rfl rfl (gin rfl) dX12_feed_97 (fun f_54 H locs hP hD hS => ?_)
  have hP : va_P D gcl [(a0, .inr (12, [.ref a1, .int 17, .int 0, .int 0, .int 0, .int 0, .int 0, .int 0, .int (-1), .ref a2, .ref a3, .ref a4, .ref a5, .ref a6, .ref a7, .ref a8, .ref a9, .ref a10, .ref a11, .ref a12, .ref a13, .ref a14, .ref a15, .ref a16, .int 0, .int 0, .int 0, .int 0, .int 0, .int 9999, .ref a17, .ref a18, .ref a19, .int 0, .ref a20, .int 0, .ref a21, .int 0, .int 0, .ref a22, .ref a23, .ref a24, .ref a25, .int 0, .ref a26, .int 0, .ref a27, .ref a28, .ref a29, .long 0, .ref a30, .ref a31, .ref a32, .ref a33, .ref a34, .ref a35, .ref a36, .ref a37, .ref a38, .int 0, .int 0, .int 0, .long 0, .ref a39, .int 0, .ref a40, .ref a41, .ref a42, .ref a43, .int 0, .int 0, .int 0, .int 0])), (a1, .inl (cI, 1600, .inl f_54))] H := hP
  have hD : va_D A [(a0, .inr (12, [.ref a1, .int 17, .int 0, .int 0, .int 0, .int 0, .int 0, .int 0, .int (-1), .ref a2, .ref a3, .ref a4, .ref a5, .ref a6, .ref a7, .ref a8, .ref a9, .ref a10, .ref a11, .ref a12, .ref a13, .ref a14, .ref a15, .ref a16, .int 0, .int 0, .int 0, .int 0, .int 0, .int 9999, .ref a17, .ref a18, .ref a19, .int 0, .ref a20, .int 0, .ref a21, .int 0, .int 0, .ref a22, .ref a23, .ref a24, .ref a25, .int 0, .ref a26, .int 0, .ref a27, .ref a28, .ref a29, .long 0, .ref a30, .ref a31, .ref a32, .ref a33, .ref a34, .ref a35, .ref a36, .ref a37, .ref a38, .int 0, .int 0, .int 0, .long 0, .ref a39, .int 0, .ref a40, .ref a41, .ref a42, .ref a43, .int 0, .int 0, .int 0, .int 0])), (a1, .inl (cI, 1600, .inl f_54))] := hD
  refine lv_aload_n (pc := 98) hx hb dX12_feed_98 rfl (lv_at hl 2 rfl) ?_
  refine lv_dup (pc := 99) hx hb dX12_feed_99 rfl ?_
  refine va_get (pc := 100) (ci := 12) (v := .int 17) (C := RX12) (T := TX12) (N := 73) hx hb hts iX12 hown hK hP 0 rfl rfl 1 (by decide) (hts _ tw_1402) (fun _ h9 => h9) rfl dX12_feed_100 ?_
  refine lv_iconst (pc := 103) (v := 1) hx hb dX12_feed_103 (by decide) ?_
  refine lv_iadd (pc := 104) hx hb dX12_feed_104 ?_
  refine gI (y := 18) (by decide +kernel) ?_
  refine va_put (pc := 105) (ci := 12) (v := .int 18) (ty := .int) (C := RX12) (T := TX12) (N := 73) hx hb hts iX12 tyX12 tyX12_ok nmX12 hown hK hP hD hS 0 rfl rfl 1 (by decide) (hts _ tw_1402) (fun _ h9 => h9) rfl (by decide +kernel) (by decide +kernel) (by decide +kernel) (Nat.le_of_ble_eq_true rfl) dX12_feed_105 (fun H locs hP hD hS => ?_)
  have hP : va_P D gcl [(a0, .inr (12, [.ref a1, .int 18, .int 0, .int 0, .int 0, .int 0, .int 0, .int 0, .int (-1), .ref a2, .ref a3, .ref a4, .ref a5, .ref a6, .ref a7, .ref a8, .ref a9, .ref a10, .ref a11, .ref a12, .ref a13, .ref a14, .ref a15, .ref a16, .int 0, .int 0, .int 0, .int 0, .int 0, .int 9999, .ref a17, .ref a18, .ref a19, .int 0, .ref a20, .int 0, .ref a21, .int 0, .int 0, .ref a22, .ref a23, .ref a24, .ref a25, .int 0, .ref a26, .int 0, .ref a27, .ref a28, .ref a29, .long 0, .ref a30, .ref a31, .ref a32, .ref a33, .ref a34, .ref a35, .ref a36, .ref a37, .ref a38, .int 0, .int 0, .int 0, .long 0, .ref a39, .int 0, .ref a40, .ref a41, .ref a42, .ref a43, .int 0, .int 0, .int 0, .int 0])), (a1, .inl (cI, 1600, .inl f_54))] H := hP
  have hD : va_D A [(a0, .inr (12, [.ref a1, .int 18, .int 0, .int 0, .int 0, .int 0, .int 0, .int 0, .int (-1), .ref a2, .ref a3, .ref a4, .ref a5, .ref a6, .ref a7, .ref a8, .ref a9, .ref a10, .ref a11, .ref a12, .ref a13, .ref a14, .ref a15, .ref a16, .int 0, .int 0, .int 0, .int 0, .int 0, .int 9999, .ref a17, .ref a18, .ref a19, .int 0, .ref a20, .int 0, .ref a21, .int 0, .int 0, .ref a22, .ref a23, .ref a24, .ref a25, .int 0, .ref a26, .int 0, .ref a27, .ref a28, .ref a29, .long 0, .ref a30, .ref a31, .ref a32, .ref a33, .ref a34, .ref a35, .ref a36, .ref a37, .ref a38, .int 0, .int 0, .int 0, .long 0, .ref a39, .int 0, .ref a40, .ref a41, .ref a42, .ref a43, .int 0, .int 0, .int 0, .int 0])), (a1, .inl (cI, 1600, .inl f_54))] := hD
  refine lv_iinc (pc := 108) (v := 18) (lv' := [(6, .int 18), (7, .int x4), (0, .ref a0), (1, .int x0), (2, .int x1), (3, .int x2), (4, .int x3), (5, .int x4)]) hx hb dX12_feed_108 hl (k := 1) rfl (by decide +kernel) (by decide) rfl (fun ls hl => ?_)
  refine lv_goto (pc := 111) (tgt := 18) hx hb dX12_feed_111 (by decide) ?_
  refine lv_iload (pc := 18) hx hb dX12_feed_18 (lv_at hl 0 rfl) ?_
  refine lv_bipush (pc := 20) (v := 20) hx hb dX12_feed_20 (by decide) ?_
  refine lv_icmp_ge (pc := 22) (tgt := 114) hx hb dX12_feed_22 (by decide) (fun c => absurd c (by decide +kernel)) (fun _ => ?_)
  refine lv_iload (pc := 25) hx hb dX12_feed_25 (lv_at hl 0 rfl) ?_
  refine lv_iconst (pc := 27) (v := 4) hx hb dX12_feed_27 (by decide) ?_
  refine lv_icmp_ge (pc := 28) (tgt := 35) hx hb dX12_feed_28 (by decide) (fun _ => ?_) (fun c => absurd (by decide +kernel) c)
  refine lv_iload (pc := 35) hx hb dX12_feed_35 (lv_at hl 0 rfl) ?_
  refine lv_bipush (pc := 37) (v := 8) hx hb dX12_feed_37 (by decide) ?_
  refine lv_icmp_ge (pc := 39) (tgt := 46) hx hb dX12_feed_39 (by decide) (fun _ => ?_) (fun c => absurd (by decide +kernel) c)
  refine lv_iload (pc := 46) hx hb dX12_feed_46 (lv_at hl 0 rfl) ?_
  refine lv_bipush (pc := 48) (v := 12) hx hb dX12_feed_48 (by decide) ?_
  refine lv_icmp_ge (pc := 50) (tgt := 57) hx hb dX12_feed_50 (by decide) (fun _ => ?_) (fun c => absurd (by decide +kernel) c)
  refine lv_iload (pc := 57) hx hb dX12_feed_57 (lv_at hl 0 rfl) ?_
  refine lv_bipush (pc := 59) (v := 16) hx hb dX12_feed_59 (by decide) ?_
  refine lv_icmp_ge (pc := 61) (tgt := 69) hx hb dX12_feed_61 (by decide) (fun _ => ?_) (fun c => absurd (by decide +kernel) c)
  refine lv_iload (pc := 69) hx hb dX12_feed_69 (lv_at hl 7 rfl) ?_
  refine lv_istore (pc := 71) (lv' := [(7, .int x4), (6, .int 18), (0, .ref a0), (1, .int x0), (2, .int x1), (3, .int x2), (4, .int x3), (5, .int x4)]) hx hb dX12_feed_71 hl (by decide) rfl (fun ls hl => ?_)
  refine lv_aload_n (pc := 73) hx hb dX12_feed_73 rfl (lv_at hl 2 rfl) ?_
  refine va_get (pc := 74) (ci := 12) (v := .ref a1) (C := RX12) (T := TX12) (N := 73) hx hb hts iX12 hown hK hP 0 rfl rfl 0 (by decide) (hts _ tw_1401) (fun _ h9 => h9) rfl dX12_feed_74 ?_
  refine lv_aload_n (pc := 77) hx hb dX12_feed_77 rfl (lv_at hl 2 rfl) ?_
  refine va_get (pc := 78) (ci := 12) (v := .int 18) (C := RX12) (T := TX12) (N := 73) hx hb hts iX12 hown hK hP 0 rfl rfl 1 (by decide) (hts _ tw_1402) (fun _ h9 => h9) rfl dX12_feed_78 ?_
  refine lv_iload (pc := 81) hx hb dX12_feed_81 (lv_at hl 0 rfl) ?_
  refine lv_bipush (pc := 83) (v := 8) hx hb dX12_feed_83 (by decide) ?_
  refine lv_iconst (pc := 85) (v := 3) hx hb dX12_feed_85 (by decide) ?_
  refine lv_iload (pc := 86) hx hb dX12_feed_86 (lv_at hl 1 rfl) ?_
  refine lv_iconst (pc := 88) (v := 4) hx hb dX12_feed_88 (by decide) ?_
  refine lv_irem (pc := 89) hx hb dX12_feed_89 (by decide +kernel) ?_
  refine gI (y := 2) (by decide +kernel) ?_
  refine lv_isub (pc := 90) hx hb dX12_feed_90 ?_
  refine gI (y := 1) (by decide +kernel) ?_
  refine lv_imul (pc := 91) hx hb dX12_feed_91 ?_
  refine gI (y := 8) (by decide +kernel) ?_
  refine lv_ishr (pc := 92) hx hb dX12_feed_92 ?_
  refine lv_topi (fun x_55 ex_55 => ?_)
  refine lv_sipush (pc := 93) (v := 255) hx hb dX12_feed_93 (by decide) ?_
  refine lv_iand (pc := 96) hx hb dX12_feed_96 ?_
  refine lv_topi (fun x_56 ex_56 => ?_)
  refine g_iastore (pc := 97) hx hb hK hP hD hS 1 2 rfl rfl (gin rfl) dX12_feed_97 (fun f_57 H locs hP hD hS => ?_)
  have hP : va_P D gcl [(a0, .inr (12, [.ref a1, .int 18, .int 0, .int 0, .int 0, .int 0, .int 0, .int 0, .int (-1), .ref a2, .ref a3, .ref a4, .ref a5, .ref a6, .ref a7, .ref a8, .ref a9, .ref a10, .ref a11, .ref a12, .ref a13, .ref a14, .ref a15, .ref a16, .int 0, .int 0, .int 0, .int 0, .int 0, .int 9999, .ref a17, .ref a18, .ref a19, .int 0, .ref a20, .int 0, .ref a21, .int 0, .int 0, .ref a22, .ref a23, .ref a24, .ref a25, .int 0, .ref a26, .int 0, .ref a27, .ref a28, .ref a29, .long 0, .ref a30, .ref a31, .ref a32, .ref a33, .ref a34, .ref a35, .ref a36, .ref a37, .ref a38, .int 0, .int 0, .int 0, .long 0, .ref a39, .int 0, .ref a40, .ref a41, .ref a42, .ref a43, .int 0, .int 0, .int 0, .int 0])), (a1, .inl (cI, 1600, .inl f_57))] H := hP
  have hD : va_D A [(a0, .inr (12, [.ref a1, .int 18, .int 0, .int 0, .int 0, .int 0, .int 0, .int 0, .int (-1), .ref a2, .ref a3, .ref a4, .ref a5, .ref a6, .ref a7, .ref a8, .ref a9, .ref a10, .ref a11, .ref a12, .ref a13, .ref a14, .ref a15, .ref a16, .int 0, .int 0, .int 0, .int 0, .int 0, .int 9999, .ref a17, .ref a18, .ref a19, .int 0, .ref a20, .int 0, .ref a21, .int 0, .int 0, .ref a22, .ref a23, .ref a24, .ref a25, .int 0, .ref a26, .int 0, .ref a27, .ref a28, .ref a29, .long 0, .ref a30, .ref a31, .ref a32, .ref a33, .ref a34, .ref a35, .ref a36, .ref a37, .ref a38, .int 0, .int 0, .int 0, .long 0, .ref a39, .int 0, .ref a40, .ref a41, .ref a42, .ref a43, .int 0, .int 0, .int 0, .int 0])), (a1, .inl (cI, 1600, .inl f_57))] := hD
  refine lv_aload_n (pc := 98) hx hb dX12_feed_98 rfl (lv_at hl 2 rfl) ?_
  refine lv_dup (pc := 99) hx hb dX12_feed_99 rfl ?_
  refine va_get (pc := 100) (ci := 12) (v := .int 18) (C := RX12) (T := TX12) (N := 73) hx hb hts iX12 hown hK hP 0 rfl rfl 1 (by decide) (hts _ tw_1402) (fun _ h9 => h9) rfl dX12_feed_100 ?_
  refine lv_iconst (pc := 103) (v := 1) hx hb dX12_feed_103 (by decide) ?_
  refine lv_iadd (pc := 104) hx hb dX12_feed_104 ?_
  refine gI (y := 19) (by decide +kernel) ?_
  refine va_put (pc := 105) (ci := 12) (v := .int 19) (ty := .int) (C := RX12) (T := TX12) (N := 73) hx hb hts iX12 tyX12 tyX12_ok nmX12 hown hK hP hD hS 0 rfl rfl 1 (by decide) (hts _ tw_1402) (fun _ h9 => h9) rfl (by decide +kernel) (by decide +kernel) (by decide +kernel) (Nat.le_of_ble_eq_true rfl) dX12_feed_105 (fun H locs hP hD hS => ?_)
  have hP : va_P D gcl [(a0, .inr (12, [.ref a1, .int 19, .int 0, .int 0, .int 0, .int 0, .int 0, .int 0, .int (-1), .ref a2, .ref a3, .ref a4, .ref a5, .ref a6, .ref a7, .ref a8, .ref a9, .ref a10, .ref a11, .ref a12, .ref a13, .ref a14, .ref a15, .ref a16, .int 0, .int 0, .int 0, .int 0, .int 0, .int 9999, .ref a17, .ref a18, .ref a19, .int 0, .ref a20, .int 0, .ref a21, .int 0, .int 0, .ref a22, .ref a23, .ref a24, .ref a25, .int 0, .ref a26, .int 0, .ref a27, .ref a28, .ref a29, .long 0, .ref a30, .ref a31, .ref a32, .ref a33, .ref a34, .ref a35, .ref a36, .ref a37, .ref a38, .int 0, .int 0, .int 0, .long 0, .ref a39, .int 0, .ref a40, .ref a41, .ref a42, .ref a43, .int 0, .int 0, .int 0, .int 0])), (a1, .inl (cI, 1600, .inl f_57))] H := hP
  have hD : va_D A [(a0, .inr (12, [.ref a1, .int 19, .int 0, .int 0, .int 0, .int 0, .int 0, .int 0, .int (-1), .ref a2, .ref a3, .ref a4, .ref a5, .ref a6, .ref a7, .ref a8, .ref a9, .ref a10, .ref a11, .ref a12, .ref a13, .ref a14, .ref a15, .ref a16, .int 0, .int 0, .int 0, .int 0, .int 0, .int 9999, .ref a17, .ref a18, .ref a19, .int 0, .ref a20, .int 0, .ref a21, .int 0, .int 0, .ref a22, .ref a23, .ref a24, .ref a25, .int 0, .ref a26, .int 0, .ref a27, .ref a28, .ref a29, .long 0, .ref a30, .ref a31, .ref a32, .ref a33, .ref a34, .ref a35, .ref a36, .ref a37, .ref a38, .int 0, .int 0, .int 0, .long 0, .ref a39, .int 0, .ref a40, .ref a41, .ref a42, .ref a43, .int 0, .int 0, .int 0, .int 0])), (a1, .inl (cI, 1600, .inl f_57))] := hD
  refine lv_iinc (pc := 108) (v := 19) (lv' := [(6, .int 19), (7, .int x4), (0, .ref a0), (1, .int x0), (2, .int x1), (3, .int x2), (4, .int x3), (5, .int x4)]) hx hb dX12_feed_108 hl (k := 1) rfl (by decide +kernel) (by decide) rfl (fun ls hl => ?_)
  refine lv_goto (pc := 111) (tgt := 18) hx hb dX12_feed_111 (by decide) ?_
  refine lv_iload (pc := 18) hx hb dX12_feed_18 (lv_at hl 0 rfl) ?_
  refine lv_bipush (pc := 20) (v := 20) hx hb dX12_feed_20 (by decide) ?_
  refine lv_icmp_ge (pc := 22) (tgt := 114) hx hb dX12_feed_22 (by decide) (fun c => absurd c (by decide +kernel)) (fun _ => ?_)
  refine lv_iload (pc := 25) hx hb dX12_feed_25 (lv_at hl 0 rfl) ?_
  refine lv_iconst (pc := 27) (v := 4) hx hb dX12_feed_27 (by decide) ?_
  refine lv_icmp_ge (pc := 28) (tgt := 35) hx hb dX12_feed_28 (by decide) (fun _ => ?_) (fun c => absurd (by decide +kernel) c)
  refine lv_iload (pc := 35) hx hb dX12_feed_35 (lv_at hl 0 rfl) ?_
  refine lv_bipush (pc := 37) (v := 8) hx hb dX12_feed_37 (by decide) ?_
  refine lv_icmp_ge (pc := 39) (tgt := 46) hx hb dX12_feed_39 (by decide) (fun _ => ?_) (fun c => absurd (by decide +kernel) c)
  refine lv_iload (pc := 46) hx hb dX12_feed_46 (lv_at hl 0 rfl) ?_
  refine lv_bipush (pc := 48) (v := 12) hx hb dX12_feed_48 (by decide) ?_
  refine lv_icmp_ge (pc := 50) (tgt := 57) hx hb dX12_feed_50 (by decide) (fun _ => ?_) (fun c => absurd (by decide +kernel) c)
  refine lv_iload (pc := 57) hx hb dX12_feed_57 (lv_at hl 0 rfl) ?_
  refine lv_bipush (pc := 59) (v := 16) hx hb dX12_feed_59 (by decide) ?_
  refine lv_icmp_ge (pc := 61) (tgt := 69) hx hb dX12_feed_61 (by decide) (fun _ => ?_) (fun c => absurd (by decide +kernel) c)
  refine lv_iload (pc := 69) hx hb dX12_feed_69 (lv_at hl 7 rfl) ?_
  refine lv_istore (pc := 71) (lv' := [(7, .int x4), (6, .int 19), (0, .ref a0), (1, .int x0), (2, .int x1), (3, .int x2), (4, .int x3), (5, .int x4)]) hx hb dX12_feed_71 hl (by decide) rfl (fun ls hl => ?_)
  refine lv_aload_n (pc := 73) hx hb dX12_feed_73 rfl (lv_at hl 2 rfl) ?_
  refine va_get (pc := 74) (ci := 12) (v := .ref a1) (C := RX12) (T := TX12) (N := 73) hx hb hts iX12 hown hK hP 0 rfl rfl 0 (by decide) (hts _ tw_1401) (fun _ h9 => h9) rfl dX12_feed_74 ?_
  refine lv_aload_n (pc := 77) hx hb dX12_feed_77 rfl (lv_at hl 2 rfl) ?_
  refine va_get (pc := 78) (ci := 12) (v := .int 19) (C := RX12) (T := TX12) (N := 73) hx hb hts iX12 hown hK hP 0 rfl rfl 1 (by decide) (hts _ tw_1402) (fun _ h9 => h9) rfl dX12_feed_78 ?_
  refine lv_iload (pc := 81) hx hb dX12_feed_81 (lv_at hl 0 rfl) ?_
  refine lv_bipush (pc := 83) (v := 8) hx hb dX12_feed_83 (by decide) ?_
  refine lv_iconst (pc := 85) (v := 3) hx hb dX12_feed_85 (by decide) ?_
  refine lv_iload (pc := 86) hx hb dX12_feed_86 (lv_at hl 1 rfl) ?_
  refine lv_iconst (pc := 88) (v := 4) hx hb dX12_feed_88 (by decide) ?_
  refine lv_irem (pc := 89) hx hb dX12_feed_89 (by decide +kernel) ?_
  refine gI (y := 3) (by decide +kernel) ?_
  refine lv_isub (pc := 90) hx hb dX12_feed_90 ?_
  refine gI (y := 0) (by decide +kernel) ?_
  refine lv_imul (pc := 91) hx hb dX12_feed_91 ?_
  refine gI (y := 0) (by decide +kernel) ?_
  refine lv_ishr (pc := 92) hx hb dX12_feed_92 ?_
  refine lv_topi (fun x_58 ex_58 => ?_)
  refine lv_sipush (pc := 93) (v := 255) hx hb dX12_feed_93 (by decide) ?_
  refine lv_iand (pc := 96) hx hb dX12_feed_96 ?_
  refine lv_topi (fun x_59 ex_59 => ?_)
  refine g_iastore (pc := 97) hx hb hK hP hD hS 1 2 rfl rfl (gin rfl) dX12_feed_97 (fun f_60 H locs hP hD hS => ?_)
  have hP : va_P D gcl [(a0, .inr (12, [.ref a1, .int 19, .int 0, .int 0, .int 0, .int 0, .int 0, .int 0, .int (-1), .ref a2, .ref a3, .ref a4, .ref a5, .ref a6, .ref a7, .ref a8, .ref a9, .ref a10, .ref a11, .ref a12, .ref a13, .ref a14, .ref a15, .ref a16, .int 0, .int 0, .int 0, .int 0, .int 0, .int 9999, .ref a17, .ref a18, .ref a19, .int 0, .ref a20, .int 0, .ref a21, .int 0, .int 0, .ref a22, .ref a23, .ref a24, .ref a25, .int 0, .ref a26, .int 0, .ref a27, .ref a28, .ref a29, .long 0, .ref a30, .ref a31, .ref a32, .ref a33, .ref a34, .ref a35, .ref a36, .ref a37, .ref a38, .int 0, .int 0, .int 0, .long 0, .ref a39, .int 0, .ref a40, .ref a41, .ref a42, .ref a43, .int 0, .int 0, .int 0, .int 0])), (a1, .inl (cI, 1600, .inl f_60))] H := hP
  have hD : va_D A [(a0, .inr (12, [.ref a1, .int 19, .int 0, .int 0, .int 0, .int 0, .int 0, .int 0, .int (-1), .ref a2, .ref a3, .ref a4, .ref a5, .ref a6, .ref a7, .ref a8, .ref a9, .ref a10, .ref a11, .ref a12, .ref a13, .ref a14, .ref a15, .ref a16, .int 0, .int 0, .int 0, .int 0, .int 0, .int 9999, .ref a17, .ref a18, .ref a19, .int 0, .ref a20, .int 0, .ref a21, .int 0, .int 0, .ref a22, .ref a23, .ref a24, .ref a25, .int 0, .ref a26, .int 0, .ref a27, .ref a28, .ref a29, .long 0, .ref a30, .ref a31, .ref a32, .ref a33, .ref a34, .ref a35, .ref a36, .ref a37, .ref a38, .int 0, .int 0, .int 0, .long 0, .ref a39, .int 0, .ref a40, .ref a41, .ref a42, .ref a43, .int 0, .int 0, .int 0, .int 0])), (a1, .inl (cI, 1600, .inl f_60))] := hD
  refine lv_aload_n (pc := 98) hx hb dX12_feed_98 rfl (lv_at hl 2 rfl) ?_
  refine lv_dup (pc := 99) hx hb dX12_feed_99 rfl ?_
  refine va_get (pc := 100) (ci := 12) (v := .int 19) (C := RX12) (T := TX12) (N := 73) hx hb hts iX12 hown hK hP 0 rfl rfl 1 (by decide) (hts _ tw_1402) (fun _ h9 => h9) rfl dX12_feed_100 ?_
  refine lv_iconst (pc := 103) (v := 1) hx hb dX12_feed_103 (by decide) ?_
  refine lv_iadd (pc := 104) hx hb dX12_feed_104 ?_
  refine gI (y := 20) (by decide +kernel) ?_
  refine va_put (pc := 105) (ci := 12) (v := .int 20) (ty := .int) (C := RX12) (T := TX12) (N := 73) hx hb hts iX12 tyX12 tyX12_ok nmX12 hown hK hP hD hS 0 rfl rfl 1 (by decide) (hts _ tw_1402) (fun _ h9 => h9) rfl (by decide +kernel) (by decide +kernel) (by decide +kernel) (Nat.le_of_ble_eq_true rfl) dX12_feed_105 (fun H locs hP hD hS => ?_)
  have hP : va_P D gcl [(a0, .inr (12, [.ref a1, .int 20, .int 0, .int 0, .int 0, .int 0, .int 0, .int 0, .int (-1), .ref a2, .ref a3, .ref a4, .ref a5, .ref a6, .ref a7, .ref a8, .ref a9, .ref a10, .ref a11, .ref a12, .ref a13, .ref a14, .ref a15, .ref a16, .int 0, .int 0, .int 0, .int 0, .int 0, .int 9999, .ref a17, .ref a18, .ref a19, .int 0, .ref a20, .int 0, .ref a21, .int 0, .int 0, .ref a22, .ref a23, .ref a24, .ref a25, .int 0, .ref a26, .int 0, .ref a27, .ref a28, .ref a29, .long 0, .ref a30, .ref a31, .ref a32, .ref a33, .ref a34, .ref a35, .ref a36, .ref a37, .ref a38, .int 0, .int 0, .int 0, .long 0, .ref a39, .int 0, .ref a40, .ref a41, .ref a42, .ref a43, .int 0, .int 0, .int 0, .int 0])), (a1, .inl (cI, 1600, .inl f_60))] H := hP
  have hD : va_D A [(a0, .inr (12, [.ref a1, .int 20, .int 0, .int 0, .int 0, .int 0, .int 0, .int 0, .int (-1), .ref a2, .ref a3, .ref a4, .ref a5, .ref a6, .ref a7, .ref a8, .ref a9, .ref a10, .ref a11, .ref a12, .ref a13, .ref a14, .ref a15, .ref a16, .int 0, .int 0, .int 0, .int 0, .int 0, .int 9999, .ref a17, .ref a18, .ref a19, .int 0, .ref a20, .int 0, .ref a21, .int 0, .int 0, .ref a22, .ref a23, .ref a24, .ref a25, .int 0, .ref a26, .int 0, .ref a27, .ref a28, .ref a29, .long 0, .ref a30, .ref a31, .ref a32, .ref a33, .ref a34, .ref a35, .ref a36, .ref a37, .ref a38, .int 0, .int 0, .int 0, .long 0, .ref a39, .int 0, .ref a40, .ref a41, .ref a42, .ref a43, .int 0, .int 0, .int 0, .int 0])), (a1, .inl (cI, 1600, .inl f_60))] := hD
  refine lv_iinc (pc := 108) (v := 20) (lv' := [(6, .int 20), (7, .int x4), (0, .ref a0), (1, .int x0), (2, .int x1), (3, .int x2), (4, .int x3), (5, .int x4)]) hx hb dX12_feed_108 hl (k := 1) rfl (by decide +kernel) (by decide) rfl (fun ls hl => ?_)
  refine lv_goto (pc := 111) (tgt := 18) hx hb dX12_feed_111 (by decide) ?_
  refine lv_iload (pc := 18) hx hb dX12_feed_18 (lv_at hl 0 rfl) ?_
  refine lv_bipush (pc := 20) (v := 20) hx hb dX12_feed_20 (by decide) ?_
  refine lv_icmp_ge (pc := 22) (tgt := 114) hx hb dX12_feed_22 (by decide) (fun _ => ?_) (fun c => absurd (by decide +kernel) c)
  refine lv_aload_n (pc := 114) hx hb dX12_feed_114 rfl (lv_at hl 2 rfl) ?_
  refine va_get (pc := 115) (ci := 12) (v := .int 20) (C := RX12) (T := TX12) (N := 73) hx hb hts iX12 hown hK hP 0 rfl rfl 1 (by decide) (hts _ tw_1402) (fun _ h9 => h9) rfl dX12_feed_115 ?_
  have hP9 := hP.sub (ws' := []) [] rfl
  have hD9 := hD.sub (ws' := []) [] (by decide) rfl
  refine W.widen (k := 0) (n := 0) (Nat.le_of_ble_eq_true rfl) (Nat.le_of_ble_eq_true rfl) ?_
  exact W.iret (v := 20) hx hb hr (fun t ht hW => ⟨⟨20, ((fun _ => 0), (fun _ => (fun _ => 0)), (fun _ => (fun _ => 0)), (fun _ => 0), (fun _ => 0)), rfl, rfl, by rw [ht]; exact hP9, hD9⟩, hS.F ht⟩) hS.2.2 dX12_feed_118
