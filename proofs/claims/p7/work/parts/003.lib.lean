section
/-! words that hold on tables: one list for every method -/
def lw_gd : List Cond := lw_tbl.filter goodWord
theorem g_mem {c : Cond} (h : c ∈ lw_tbl) (hg : goodWord c = true) : c ∈ lw_gd := List.mem_filter.mpr ⟨h, hg⟩
theorem g_tbl {args : Array Value} {s : State} (h : ∀ w ∈ lw_tbl, w.before args s = true) : ∀ w ∈ lw_gd, w.before args s = true := fun w hw => h w (List.mem_filter.mp hw).1
theorem g_good {c : Cond} (hc : c ∈ lw_gd) : GoodIn lw_gd (c :: lw_gd) := by
  intro w h
  have h1 : w ∈ lw_gd := by
    rcases List.mem_cons.mp h with h | h
    · rw [h]; exact hc
    · exact h
  exact ⟨h1, good_of_word (List.mem_filter.mp h1).2⟩
/-! words of nest mates: they don't keep by themselves, a method's start carries them -/
def g_isN : Cond → Bool
  | .fieldLinkNest .. => true
  | .methodLinkNest .. => true
  | _ => false
def lw_nw : List Cond := tables_1.filter g_isN
def gNw (U : State) : Prop := ∀ w ∈ lw_nw, va_Nw w U
theorem g_nmem {c : Cond} (h : c ∈ tables_1) (hg : g_isN c = true) : c ∈ lw_nw := List.mem_filter.mpr ⟨h, hg⟩
theorem gNw.of {args : Array Value} {s : State} (h : ∀ w ∈ lw_tbl, w.before args s = true) : gNw s := by
  intro w hw
  obtain ⟨h1, h2⟩ := List.mem_filter.mp hw
  have h3 := h w (List.mem_append_right _ h1)
  cases w <;> first | (simp [g_isN] at h2; done) | exact va_Nw.of rfl h3
theorem gNw.warm {s U : State} (hW : s.WarmedH U.vm) (h : gNw s) : gNw U := by
  intro w hw
  have h2 := (List.mem_filter.mp hw).2
  have h3 := h w hw
  cases w <;> first | (simp [g_isN] at h2; done) | exact va_Nw.warmF hW h3 | exact va_Nw.warmM hW h3
abbrev gcl : List vw_C := [(RX0, TX0, 7), (RX1, TX1, 10), (RX2, TX2, 8), (RX3, TX3, 10), (RX4, TX4, 8), (RX5, TX5, 7), (RX6, TX6, 4), (RX7, TX7, 11), (RX8, TX8, 1), (RX9, TX9, 2), (RX10, TX10, 8), (RX11, TX11, 14), (RX12, TX12, 73)]
def gPre (D : va_G) (tys : List (ClassId × FieldType)) (av : List Value) (ws : va_W) (sz : Nat) : Array Value → State → Prop := va_Pc av (fun U => U.heap.size = sz ∧ va_P D gcl ws U.heap ∧ va_K D gcl tys U ∧ va_D (fun _ => True) ws ∧ gNw U)
/-- what a method tells of its end beside the answer: addresses, rows, numbers -/
abbrev gEx : Type := (Nat → Nat) × (Nat → Nat → Int32) × (Nat → Nat → Int64) × (Nat → Int32) × (Nat → Int64)
def gB (D : va_G) (A : Nat → Prop) (w1 : gEx → va_W) : gEx → State → Prop := fun u t => va_P D gcl (w1 u) t.heap ∧ va_D A (w1 u)
def gBr (D : va_G) (A : Nat → Prop) (w1 : gEx → va_W) (ra : gEx → Nat) : gEx → Nat → State → Prop := fun u a t => a = ra u ∧ va_P D gcl (w1 u) t.heap ∧ va_D A (w1 u)
theorem gblind {D : va_G} {tys : List (ClassId × FieldType)} {av : List Value} {ws : va_W} {sz : Nat} : FrameBlind (gPre D tys av ws sz) := by
  intro a U g mk q
  obtain ⟨q0, q1, qP, qK, qD, qN⟩ := q
  exact ⟨q0, q1, qP, va_K.moved (u := U) (U := U.calling g mk a) (Vm.Alike.refl U.vm) qK, qD, gNw.warm (s := U) (U := U.calling g mk a) (State.WarmedH.refl U) qN⟩
theorem gpreS {D : va_G} {tys : List (ClassId × FieldType)} {av : List Value} {wc : va_W} {s : State} {H : Heap} {A : Nat → Prop} (hP : va_P D gcl wc H) (hK : va_K D gcl tys s) (hD : va_D A wc) (hN : gNw s) : PreS s H (gPre D tys av wc H.size) av :=
  ⟨gblind, fun U hU hW => ⟨rfl, by rw [hU], by rw [hU]; exact hP, va_K.moved hW.alike hK, hD.weaken (fun _ _ _ _ => trivial), gNw.warm hW hN⟩⟩
theorem gin {i : Int32} {n : Nat} (h : (decide (i < 0) || decide (n ≤ i.toNatClampNeg)) = false) : vp_in i n := by
  intro q
  rcases q with q | q <;> simp [q] at h
theorem g_psub {D : va_G} {cl : List vw_C} {ws wc : va_W} {H : Heap} (hP : va_P D cl ws H) (is : List Nat) (hC : is.map (fun i => ws[i]?) = wc.map some) : va_P D cl wc H := by
  intro k q hk
  have h1 : (is.map (fun i => ws[i]?))[k]? = some (some q) := by rw [hC, List.getElem?_map, hk]; rfl
  rw [List.getElem?_map] at h1
  cases hi : is[k]? with
  | none => rw [hi] at h1; cases h1
  | some i => rw [hi] at h1; exact hP i q (Option.some.inj h1)
theorem gcwB {R : Room} {s : State} {args : Array Value} {own : String} {index n : Nat} {y : MethodName} {bytes : ByteArray} {maxL : Nat} {ret : Option FieldType} {rm : Room} (hts : ∀ w ∈ lw_gd, w.before args s = true) (hc : Cond.code y bytes maxL ret ∈ lw_gd) (hi : Cond.initialized y.cls ∈ lw_gd) (hl : Cond.methodLink own index y ∈ lw_gd)
    (hd : y.cls ≠ "java/lang/invoke/MethodHandle" ∧ y.cls ≠ "java/lang/invoke/VarHandle" ∧ (parseMethodDescriptor y.desc).map (fun d => d.parameters.length) = some n) (hR : rm.frames + 1 ≤ R.frames ∧ 8 + (maxL + 11) + rm.locals ≤ R.locals) :
    CallB R s args own index y bytes maxL ret (.code y bytes maxL ret :: lw_gd) rm rm.cells rm.slots n := callB_of n hts (g_good hc) rfl rfl rfl (hts _ hi) (hts _ hl) hd hR
theorem gcwN {R : Room} {s : State} {args : Array Value} {own host : String} {index n : Nat} {y : MethodName} {bytes : ByteArray} {maxL : Nat} {ret : Option FieldType} {rm : Room} (hts : ∀ w ∈ lw_gd, w.before args s = true) (hc : Cond.code y bytes maxL ret ∈ lw_gd) (hi : Cond.initialized y.cls ∈ lw_gd) (hl : va_Nw (.methodLinkNest own index y host) s)
    (hd : y.cls ≠ "java/lang/invoke/MethodHandle" ∧ y.cls ≠ "java/lang/invoke/VarHandle" ∧ (parseMethodDescriptor y.desc).map (fun d => d.parameters.length) = some n) (hR : rm.frames + 1 ≤ R.frames ∧ 8 + (maxL + 11) + rm.locals ≤ R.locals) :
    va_CN R s args own index y host bytes maxL ret (.code y bytes maxL ret :: lw_gd) rm rm.cells rm.slots n := va_cnB n hts (g_good hc) rfl rfl rfl hl (hts _ hi) hd hR
section GW
variable {p : Program} {l : Launch} {e : Env} {R : Room} {s : State} {m : MethodId} {args : Array Value} {below : List Frame} {meth : Method} {c : Code} {H : Heap} {locs : List Loc} {cells slots : Nat} {Q : State → Prop}
variable {cc : ByteArray} {pc : Nat} {ls : Array Slot} {rest st0 : List Value} {D : va_G} {A A0 : Nat → Prop} {a : Nat} {tys : List (ClassId × FieldType)} {ws wc wr : va_W} {H0 : Heap} {mc ms : Nat} {av : Array Value} {w1 : gEx → va_W}
theorem gI {x y : Int32} (h : x = y) (k : W p l e R s m args below meth c H locs cells slots Q (F0 m pc ls (.int y :: rest))) : W p l e R s m args below meth c H locs cells slots Q (F0 m pc ls (.int x :: rest)) := h ▸ k
theorem gL {x y : Int64} (h : x = y) (k : W p l e R s m args below meth c H locs cells slots Q (F0 m pc ls (.long y :: rest))) : W p l e R s m args below meth c H locs cells slots Q (F0 m pc ls (.long x :: rest)) := h ▸ k
theorem gc_i {post : Int32 → gEx → Prop} (hP : va_P D gcl ws H) (hD : va_D A0 ws) (hS : va_S A0 H0 H locs) (hA : ∀ q, H0.size ≤ q → A0 q) (isC isR : List Nat) (hC : isC.map (fun i => ws[i]?) = wc.map some) (hR : isR.map (fun i => ws[i]?) = wr.map some) (hnC : va_nd isC = true) (hn : va_nd isR = true) (hdis : ∀ i ∈ isR, i ∉ isC)
    (hr : va_P D gcl wc H → va_D A0 wc → va_Run p l e R s m args below meth c H locs cells slots mc ms (F0 m pc ls st0) rest (va_Qi post (gB D (va_A wc H.size) w1) (va_A wc H.size) av) (va_A wc H.size))
    (kk : ∀ (r : Int32) (u : gEx) (H1 : Heap) (locs1 : List Loc), post r u → va_P D gcl (wr ++ w1 u) H1 → va_D A0 (wr ++ w1 u) → va_S A0 H0 H1 locs1 → W p l e R s m args below meth c H1 locs1 (cells + mc) (slots + ms) Q (F0 m (pc + 3) ls (.int r :: rest))) : W p l e R s m args below meth c H locs cells slots Q (F0 m pc ls st0) := by
  have hF := va_free (wc := wc) hD hS hA isC hC
  refine va_calli (hr (g_psub hP isC hC) (hD.sub isC hnC hC)) hS (fun q _ h => hF q h) hF (fun r u t H1 locs1 ht hvm hw hB hz1 hk1 hS1 => ?_)
  obtain ⟨hP1, hD1⟩ := hB
  rw [ht] at hP1
  obtain ⟨hP2, hD2⟩ := va_join (wr := wr) hP hD isC isR hC hR hn hdis hk1 hF hP1 hD1
  exact kk r u H1 locs1 hw hP2 hD2 hS1
theorem gc_l {post : Int64 → gEx → Prop} (hP : va_P D gcl ws H) (hD : va_D A0 ws) (hS : va_S A0 H0 H locs) (hA : ∀ q, H0.size ≤ q → A0 q) (isC isR : List Nat) (hC : isC.map (fun i => ws[i]?) = wc.map some) (hR : isR.map (fun i => ws[i]?) = wr.map some) (hnC : va_nd isC = true) (hn : va_nd isR = true) (hdis : ∀ i ∈ isR, i ∉ isC)
    (hr : va_P D gcl wc H → va_D A0 wc → va_Run p l e R s m args below meth c H locs cells slots mc ms (F0 m pc ls st0) rest (va_Ql post (gB D (va_A wc H.size) w1) (va_A wc H.size) av) (va_A wc H.size))
    (kk : ∀ (r : Int64) (u : gEx) (H1 : Heap) (locs1 : List Loc), post r u → va_P D gcl (wr ++ w1 u) H1 → va_D A0 (wr ++ w1 u) → va_S A0 H0 H1 locs1 → W p l e R s m args below meth c H1 locs1 (cells + mc) (slots + ms) Q (F0 m (pc + 3) ls (.long r :: rest))) : W p l e R s m args below meth c H locs cells slots Q (F0 m pc ls st0) := by
  have hF := va_free (wc := wc) hD hS hA isC hC
  refine va_calll (hr (g_psub hP isC hC) (hD.sub isC hnC hC)) hS (fun q _ h => hF q h) hF (fun r u t H1 locs1 ht hvm hw hB hz1 hk1 hS1 => ?_)
  obtain ⟨hP1, hD1⟩ := hB
  rw [ht] at hP1
  obtain ⟨hP2, hD2⟩ := va_join (wr := wr) hP hD isC isR hC hR hn hdis hk1 hF hP1 hD1
  exact kk r u H1 locs1 hw hP2 hD2 hS1
theorem gc_v {post : gEx → Prop} (hP : va_P D gcl ws H) (hD : va_D A0 ws) (hS : va_S A0 H0 H locs) (hA : ∀ q, H0.size ≤ q → A0 q) (isC isR : List Nat) (hC : isC.map (fun i => ws[i]?) = wc.map some) (hR : isR.map (fun i => ws[i]?) = wr.map some) (hnC : va_nd isC = true) (hn : va_nd isR = true) (hdis : ∀ i ∈ isR, i ∉ isC)
    (hr : va_P D gcl wc H → va_D A0 wc → va_Run p l e R s m args below meth c H locs cells slots mc ms (F0 m pc ls st0) rest (va_Qv post (gB D (va_A wc H.size) w1) (va_A wc H.size) av) (va_A wc H.size))
    (kk : ∀ (u : gEx) (H1 : Heap) (locs1 : List Loc), post u → va_P D gcl (wr ++ w1 u) H1 → va_D A0 (wr ++ w1 u) → va_S A0 H0 H1 locs1 → W p l e R s m args below meth c H1 locs1 (cells + mc) (slots + ms) Q (F0 m (pc + 3) ls rest)) : W p l e R s m args below meth c H locs cells slots Q (F0 m pc ls st0) := by
  have hF := va_free (wc := wc) hD hS hA isC hC
  refine va_callv (hr (g_psub hP isC hC) (hD.sub isC hnC hC)) hS (fun q _ h => hF q h) hF (fun u t H1 locs1 ht hvm hw hB hz1 hk1 hS1 => ?_)
  obtain ⟨hP1, hD1⟩ := hB
  rw [ht] at hP1
  obtain ⟨hP2, hD2⟩ := va_join (wr := wr) hP hD isC isR hC hR hn hdis hk1 hF hP1 hD1
  exact kk u H1 locs1 hw hP2 hD2 hS1
theorem g_newa {cl : List vw_C} (hexec : p.tables.exec = Jvm.exec) (hb : c.code = cc) {atype : ArrayType} (harr : (Cond.arrayClass (newarray.typeOf atype)).before args s = true) {ty : FieldType} (hty : newarray.typeOf atype = ty) (hra : ∀ k : ClassId, va_RA s k ty → s.vm.findClass ("[" ++ ty.toString) = some k) (hK : va_K D cl tys s) (t0 : Nat) {cT : ClassId} (ht : tys[t0]? = some (cT, ty)) (hP : va_P D cl ws H) (hD : va_D A ws) (hS : va_S A H0 H locs) (hA : ∀ q, H0.size ≤ q → A q)
    {n : Int32} {N' : Nat} {a0 : vp_A} (ha : ∀ cA : ClassId, vp_cell cA a0 = arrV cA N' (fun _ => defaultValue ty)) (hn : ¬ n < 0) (hN : n.toNatClampNeg = N') (hbytes : N' * componentBytes ty ≤ 536870912) (hcells : cells + 1 ≤ R.cells) (hslots : slots + N' ≤ R.slots) (hdg : decode cc pc = .ok (.newarray atype, 2))
    (kk : ∀ (q : Nat) (H1 : Heap), va_P D cl (ws ++ [(q, .inl (cT, a0))]) H1 → va_D A (ws ++ [(q, .inl (cT, a0))]) → va_S A H0 H1 locs →
      W p l e R s m args below meth c H1 locs (cells + 1) (slots + N') Q (F0 m (pc + 2) ls (.ref q :: rest))) : W p l e R s m args below meth c H locs cells slots Q (F0 m pc ls (.int n :: rest)) := by
  refine va_newa hexec hb harr hty hK hP hD hS hA ha hn hN hbytes hcells hslots hdg (fun q cA H1 hK' hP' hD' hS' => ?_)
  have h1 := (hK'.2 tys.length (cA, ty) (by simp)).2
  have h2 := (hK.2 t0 _ ht).2
  have e : cA = cT := Option.some.inj ((hra _ h1).symm.trans (hra _ h2))
  subst e
  exact kk q H1 hP' hD' hS'
theorem g_iastore {cl : List vw_C} (hexec : p.tables.exec = Jvm.exec) (hb : c.code = cc) (hK : va_K D cl tys s) (hP : va_P D cl ws H) (hD : va_D A ws) (hS : va_S A H0 H locs) (q0 t0 : Nat) {cA : ClassId} {n : Nat} {f : Nat → Int32} (ha : ws[q0]? = some (a, .inl (cA, n, .inl f))) (ht : tys[t0]? = some (cA, .int)) {i : Int32} {x : Int32} (hin : vp_in i n) (hdg : decode cc pc = .ok (.iastore, 1))
    (kk : ∀ (f' : Nat → Int32) (H1 : Heap) (locs1 : List Loc), va_P D cl (ws.set q0 (a, .inl (cA, n, .inl f'))) H1 → va_D A (ws.set q0 (a, .inl (cA, n, .inl f'))) → va_S A H0 H1 locs1 → W p l e R s m args below meth c H1 locs1 cells slots Q (F0 m (pc + 1) ls rest)) : W p l e R s m args below meth c H locs cells slots Q (F0 m pc ls (.int x :: .int i :: .ref a :: rest)) :=
  va_iast hexec hb hK hP hD hS q0 t0 ha ht hin hdg (fun H1 locs1 h1 h2 h3 => kk _ H1 locs1 h1 h2 h3)
theorem g_lastore {cl : List vw_C} (hexec : p.tables.exec = Jvm.exec) (hb : c.code = cc) (hK : va_K D cl tys s) (hP : va_P D cl ws H) (hD : va_D A ws) (hS : va_S A H0 H locs) (q0 t0 : Nat) {cA : ClassId} {n : Nat} {f : Nat → Int64} (ha : ws[q0]? = some (a, .inl (cA, n, .inr (.inl f)))) (ht : tys[t0]? = some (cA, .long)) {i : Int32} {x : Int64} (hin : vp_in i n) (hdg : decode cc pc = .ok (.lastore, 1))
    (kk : ∀ (f' : Nat → Int64) (H1 : Heap) (locs1 : List Loc), va_P D cl (ws.set q0 (a, .inl (cA, n, .inr (.inl f')))) H1 → va_D A (ws.set q0 (a, .inl (cA, n, .inr (.inl f')))) → va_S A H0 H1 locs1 → W p l e R s m args below meth c H1 locs1 cells slots Q (F0 m (pc + 1) ls rest)) : W p l e R s m args below meth c H locs cells slots Q (F0 m pc ls (.long x :: .int i :: .ref a :: rest)) :=
  va_last hexec hb hK hP hD hS q0 t0 ha ht hin hdg (fun H1 locs1 h1 h2 h3 => kk _ H1 locs1 h1 h2 h3)
end GW
/-! numbers -/
theorem g_k1 {c : Cond} (h : c ∈ tables_1_1) : c ∈ tables_1 := List.mem_append_left _ h
theorem g_k2 {c : Cond} (h : c ∈ tables_1_2) : c ∈ tables_1 := List.mem_append_right _ (List.mem_append_left _ h)
theorem g_k3 {c : Cond} (h : c ∈ tables_1_3) : c ∈ tables_1 := List.mem_append_right _ (List.mem_append_right _ (List.mem_append_left _ h))
theorem g_k4 {c : Cond} (h : c ∈ tables_1_4) : c ∈ tables_1 := List.mem_append_right _ (List.mem_append_right _ (List.mem_append_right _ (List.mem_append_left _ h)))
theorem g_k5 {c : Cond} (h : c ∈ tables_1_5) : c ∈ tables_1 := List.mem_append_right _ (List.mem_append_right _ (List.mem_append_right _ (List.mem_append_right _ (List.mem_append_left _ h))))
theorem g_k6 {c : Cond} (h : c ∈ tables_1_6) : c ∈ tables_1 := List.mem_append_right _ (List.mem_append_right _ (List.mem_append_right _ (List.mem_append_right _ (List.mem_append_right _ (List.mem_append_left _ h)))))
theorem g_k7 {c : Cond} (h : c ∈ tables_1_7) : c ∈ tables_1 := List.mem_append_right _ (List.mem_append_right _ (List.mem_append_right _ (List.mem_append_right _ (List.mem_append_right _ (List.mem_append_right _ (List.mem_append_left _ h))))))
theorem g_k8 {c : Cond} (h : c ∈ tables_1_8) : c ∈ tables_1 := List.mem_append_right _ (List.mem_append_right _ (List.mem_append_right _ (List.mem_append_right _ (List.mem_append_right _ (List.mem_append_right _ (List.mem_append_right _ (List.mem_append_left _ h)))))))
theorem g_k9 {c : Cond} (h : c ∈ tables_1_9) : c ∈ tables_1 := List.mem_append_right _ (List.mem_append_right _ (List.mem_append_right _ (List.mem_append_right _ (List.mem_append_right _ (List.mem_append_right _ (List.mem_append_right _ (List.mem_append_right _ (h))))))))
theorem lw_sub {L ws : List Cond} (hL : ∀ c ∈ L, c ∈ tables_1) (is : List Nat) (h : ws.map some = is.map (fun j => L[j]?)) (hg : ws.all goodWord = true) : ∀ w ∈ ws, w ∈ lw_gd := by
  intro w hw
  have h1 : some w ∈ ws.map some := List.mem_map.mpr ⟨w, hw, rfl⟩
  rw [h] at h1
  obtain ⟨j, _, hj⟩ := List.mem_map.mp h1
  exact g_mem (List.mem_append_right _ (hL w (List.mem_of_getElem? hj))) (List.all_eq_true.mp hg w hw)
theorem iX0 : ∀ w ∈ u_ws RX0 TX0 7, w ∈ lw_gd := lw_sub (fun _ h => g_k2 h) [84, 86, 88, 90, 92, 94, 96] (by decide +kernel) (by decide +kernel)
theorem iX1 : ∀ w ∈ u_ws RX1 TX1 10, w ∈ lw_gd := lw_sub (fun _ h => g_k1 h) [146, 148, 150, 152, 154, 156, 158, 160, 162, 164] (by decide +kernel) (by decide +kernel)
theorem iX2 : ∀ w ∈ u_ws RX2 TX2 8, w ∈ lw_gd := lw_sub (fun _ h => g_k2 h) [163, 165, 167, 169, 171, 173, 175, 177] (by decide +kernel) (by decide +kernel)
theorem iX3 : ∀ w ∈ u_ws RX3 TX3 10, w ∈ lw_gd := lw_sub (fun _ h => g_k2 h) [120, 122, 124, 126, 128, 130, 132, 134, 136, 138] (by decide +kernel) (by decide +kernel)
theorem iX4 : ∀ w ∈ u_ws RX4 TX4 8, w ∈ lw_gd := lw_sub (fun _ h => g_k1 h) [178, 180, 182, 184, 186, 188, 190, 192] (by decide +kernel) (by decide +kernel)
theorem iX5 : ∀ w ∈ u_ws RX5 TX5 7, w ∈ lw_gd := lw_sub (fun _ h => g_k1 h) [82, 84, 86, 88, 90, 92, 94] (by decide +kernel) (by decide +kernel)
theorem iX6 : ∀ w ∈ u_ws RX6 TX6 4, w ∈ lw_gd := lw_sub (fun _ h => g_k2 h) [59, 61, 63, 65] (by decide +kernel) (by decide +kernel)
theorem iX7 : ∀ w ∈ u_ws RX7 TX7 11, w ∈ lw_gd := lw_sub (fun _ h => g_k2 h) [18, 20, 22, 24, 26, 28, 30, 32, 34, 36, 38] (by decide +kernel) (by decide +kernel)
theorem iX8 : ∀ w ∈ u_ws RX8 TX8 1, w ∈ lw_gd := lw_sub (fun _ h => g_k1 h) [63] (by decide +kernel) (by decide +kernel)
theorem iX9 : ∀ w ∈ u_ws RX9 TX9 2, w ∈ lw_gd := lw_sub (fun _ h => g_k1 h) [44, 46] (by decide +kernel) (by decide +kernel)
theorem iX10 : ∀ w ∈ u_ws RX10 TX10 8, w ∈ lw_gd := lw_sub (fun _ h => g_k1 h) [224, 226, 228, 230, 232, 234, 236, 238] (by decide +kernel) (by decide +kernel)
theorem iX11 : ∀ w ∈ u_ws RX11 TX11 14, w ∈ lw_gd := lw_sub (fun _ h => g_k2 h) [194, 196, 198, 200, 202, 204, 206, 208, 210, 212, 214, 216, 218, 220] (by decide +kernel) (by decide +kernel)
theorem iX12 : ∀ w ∈ u_ws RX12 TX12 73, w ∈ lw_gd := lw_sub (fun _ h => g_k7 h) [34, 36, 38, 40, 42, 44, 46, 48, 50, 52, 54, 56, 58, 60, 62, 64, 66, 68, 70, 72, 74, 76, 78, 80, 82, 84, 86, 88, 90, 92, 94, 96, 98, 100, 102, 104, 106, 108, 110, 112, 114, 116, 118, 120, 122, 124, 126, 128, 130, 132, 134, 136, 138, 140, 142, 144, 146, 148, 150, 152, 154, 156, 158, 160, 162, 164, 166, 168, 170, 172, 174, 176, 178] (by decide +kernel) (by decide +kernel)
end
section
/-! numbers as whole numbers: what an instruction leaves, told by toInt -/
theorem n_rng (x : Int32) : -2147483648 ≤ x.toInt ∧ x.toInt ≤ 2147483647 := ⟨x.le_toInt, by have := x.toInt_lt; omega⟩
theorem n_rngL (x : Int64) : -9223372036854775808 ≤ x.toInt ∧ x.toInt ≤ 9223372036854775807 := ⟨x.le_toInt, by have := x.toInt_lt; omega⟩
theorem n_bm {a : Int} (h1 : -2147483648 ≤ a) (h2 : a ≤ 2147483647) : a.bmod (2 ^ 32) = a := Int.bmod_eq_of_le (by omega) (by omega)
theorem n_bmL {a : Int} (h1 : -9223372036854775808 ≤ a) (h2 : a ≤ 9223372036854775807) : a.bmod (2 ^ 64) = a := Int.bmod_eq_of_le (by omega) (by omega)
theorem n_add {x y : Int32} {a b : Int} (hx : x.toInt = a) (hy : y.toInt = b) (h1 : -2147483648 ≤ a + b) (h2 : a + b ≤ 2147483647) : (x + y).toInt = a + b := by
  rw [Int32.toInt_add, hx, hy]; exact n_bm h1 h2
theorem n_sub {x y : Int32} {a b : Int} (hx : x.toInt = a) (hy : y.toInt = b) (h1 : -2147483648 ≤ a - b) (h2 : a - b ≤ 2147483647) : (x - y).toInt = a - b := by
  rw [Int32.toInt_sub, hx, hy]; exact n_bm h1 h2
theorem n_mul {x y : Int32} {a b : Int} (hx : x.toInt = a) (hy : y.toInt = b) (h1 : -2147483648 ≤ a * b) (h2 : a * b ≤ 2147483647) : (x * y).toInt = a * b := by
  rw [Int32.toInt_mul, hx, hy]; exact n_bm h1 h2
theorem n_addL {x y : Int64} {a b : Int} (hx : x.toInt = a) (hy : y.toInt = b) (h1 : -9223372036854775808 ≤ a + b) (h2 : a + b ≤ 9223372036854775807) : (x + y).toInt = a + b := by
  rw [Int64.toInt_add, hx, hy]; exact n_bmL h1 h2
theorem n_subL {x y : Int64} {a b : Int} (hx : x.toInt = a) (hy : y.toInt = b) (h1 : -9223372036854775808 ≤ a - b) (h2 : a - b ≤ 9223372036854775807) : (x - y).toInt = a - b := by
  rw [Int64.toInt_sub, hx, hy]; exact n_bmL h1 h2
theorem n_mulL {x y : Int64} {a b : Int} (hx : x.toInt = a) (hy : y.toInt = b) (h1 : -9223372036854775808 ≤ a * b) (h2 : a * b ≤ 9223372036854775807) : (x * y).toInt = a * b := by
  rw [Int64.toInt_mul, hx, hy]; exact n_bmL h1 h2
theorem n_neg {x : Int32} {a : Int} (hx : x.toInt = a) (h1 : a ≠ -2147483648) : (-x).toInt = -a := by
  have h := n_rng x
  rw [Int32.toInt_neg, hx]; rw [hx] at h; exact n_bm (by omega) (by omega)
theorem n_div {x y : Int32} {a b : Int} (hx : x.toInt = a) (hy : y.toInt = b) (hb : 0 < b) : (x / y).toInt = a.tdiv b := by
  have h := n_rng x
  rw [Int32.toInt_div, hx, hy]
  rw [hx] at h
  have h1 : (a.tdiv b).natAbs ≤ a.natAbs := by rw [Int.natAbs_tdiv]; exact Nat.div_le_self _ _
  by_cases hm : a = -2147483648
  · subst hm
    have h2 : (-2147483648 : Int).tdiv b ≤ 0 := by
      rw [show (-2147483648 : Int) = -(2147483648) from rfl, Int.neg_tdiv]
      have := Int.tdiv_nonneg (show (0 : Int) ≤ 2147483648 by omega) (Int.le_of_lt hb)
      omega
    exact n_bm (by omega) (by omega)
  · exact n_bm (by omega) (by omega)
theorem n_rem {x y : Int32} {a b : Int} (hx : x.toInt = a) (hy : y.toInt = b) (hb : 0 < b) : (x - x / y * y).toInt = a.tmod b := by
  have h := n_rng x
  rw [hx] at h
  have h8 := n_rng y
  rw [hy] at h8
  have e : a.tdiv b * b + a.tmod b = a := by rw [Int.mul_comm]; exact Int.mul_tdiv_add_tmod a b
  have t1 : a.tmod b < b := Int.tmod_lt_of_pos a hb
  have t2 : -b < a.tmod b := by
    have := Int.lt_tmod_of_pos a hb
    exact this
  have hs : (0 ≤ a → 0 ≤ a.tmod b) ∧ (a ≤ 0 → a.tmod b ≤ 0) := by
    refine ⟨fun q => Int.tmod_nonneg b q, fun q => ?_⟩
    have q2 : (-a).tmod b = -(a.tmod b) := Int.neg_tmod a b
    have q3 := Int.tmod_nonneg b (show 0 ≤ -a by omega)
    omega
  have q1 : (x / y * y).toInt = a.tdiv b * b := by
    refine n_mul (n_div hx hy hb) hy ?_ ?_ <;> rcases Int.le_total 0 a with q | q
    · have := hs.1 q; have : 0 ≤ a.tdiv b * b := Int.mul_nonneg (Int.tdiv_nonneg q (Int.le_of_lt hb)) (Int.le_of_lt hb); omega
    · have := hs.2 q; omega
    · have := hs.1 q; omega
    · have := hs.2 q
      have : a.tdiv b * b ≤ 0 := by
        have q4 : (-a).tdiv b = -(a.tdiv b) := Int.neg_tdiv a b
        have q5 := Int.mul_nonneg (Int.tdiv_nonneg (show 0 ≤ -a by omega) (Int.le_of_lt hb)) (Int.le_of_lt hb)
        rw [q4, Int.neg_mul] at q5
        omega
      omega
  have q2 := n_sub hx q1 (by omega) (by omega)
  rw [q2]; omega
theorem n_tmod {a b : Int} (hb : 0 < b) : -b < a.tmod b ∧ a.tmod b < b ∧ (0 ≤ a → 0 ≤ a.tmod b) := ⟨Int.lt_tmod_of_pos a hb, Int.tmod_lt_of_pos a hb, fun q => Int.tmod_nonneg b q⟩
theorem n_tdiv {a b : Int} (hb : 0 < b) (ha : 0 ≤ a) : 0 ≤ a.tdiv b ∧ a.tdiv b ≤ a ∧ a.tdiv b * b ≤ a ∧ a < a.tdiv b * b + b := by
  rw [Int.tdiv_eq_ediv_of_nonneg ha]
  have h1 := Int.mul_ediv_add_emod a b
  have h2 := Int.emod_nonneg a (show b ≠ 0 by omega)
  have h3 := Int.emod_lt_of_pos a hb
  have h4 : b * (a / b) = a / b * b := Int.mul_comm _ _
  refine ⟨Int.ediv_nonneg ha (Int.le_of_lt hb), Int.ediv_le_self b ha, by omega, by omega⟩
theorem n_in {i : Int32} {n : Nat} {a : Int} (hi : i.toInt = a) (h1 : 0 ≤ a) (h2 : a < n) : vp_in i n := vp_in_iff.mpr ⟨by omega, by omega⟩
theorem n_upd {f : Nat → Int32} {k : Nat} {x : Int32} {lo hi : Int} (hf : ∀ j, lo ≤ (f j).toInt ∧ (f j).toInt ≤ hi) (h1 : lo ≤ x.toInt) (h2 : x.toInt ≤ hi) : ∀ j, lo ≤ (upd f k x j).toInt ∧ (upd f k x j).toInt ≤ hi := by
  intro j
  unfold upd
  split
  · exact ⟨h1, h2⟩
  · exact hf j
theorem n_ne0 {y : Int32} {w : Int} (hw : y.toInt = w) (h0 : 0 < w) : ¬ y = 0 := by
  intro h
  rw [h] at hw
  have e : (0 : Int32).toInt = 0 := by decide
  omega
theorem n_max {x y z : Int32} {v w : Int} (hv : x.toInt = v) (hw : y.toInt = w) (h : z = if x < y then y else x) : (z.toInt = v ∧ w ≤ v) ∨ (z.toInt = w ∧ v < w) := by
  by_cases q : x < y
  · rw [if_pos q] at h; rw [Int32.lt_iff_toInt_lt] at q; rw [h]; omega
  · rw [if_neg q] at h; rw [Int32.lt_iff_toInt_lt] at q; rw [h]; omega
theorem n_min {x y z : Int32} {v w : Int} (hv : x.toInt = v) (hw : y.toInt = w) (h : z = if y < x then y else x) : (z.toInt = v ∧ v ≤ w) ∨ (z.toInt = w ∧ w < v) := by
  by_cases q : y < x
  · rw [if_pos q] at h; rw [Int32.lt_iff_toInt_lt] at q; rw [h]; omega
  · rw [if_neg q] at h; rw [Int32.lt_iff_toInt_lt] at q; rw [h]; omega
theorem n_abs {x z : Int32} {v : Int} (hv : x.toInt = v) (h : z = if 0 ≤ x then x else 0 - x) : (0 ≤ v ∧ z.toInt = v) ∨ (v < 0 ∧ ¬ v = -2147483648 ∧ z.toInt = -v) ∨ (v = -2147483648 ∧ z.toInt = -2147483648) := by
  have e0 : (0 : Int32).toInt = 0 := by decide
  have hr := n_rng x
  by_cases q : 0 ≤ x
  · rw [if_pos q] at h; rw [Int32.le_iff_toInt_le, e0] at q; rw [h]; omega
  · rw [if_neg q] at h; rw [Int32.le_iff_toInt_le, e0] at q
    by_cases q2 : v = -2147483648
    · have e1 : x = -2147483648 := Int32.toInt_inj.mp ((hv.trans q2).trans (by decide))
      rw [h, e1]; right; right; exact ⟨q2, by decide⟩
    · have e2 := n_sub (x := 0) (y := x) e0 hv (by omega) (by omega)
      rw [h]; omega
theorem n_maxL {x y z : Int64} {v w : Int} (hv : x.toInt = v) (hw : y.toInt = w) (h : z = if y < x then x else y) : (z.toInt = v ∧ w ≤ v) ∨ (z.toInt = w ∧ v ≤ w) := by
  by_cases q : y < x
  · rw [if_pos q] at h; rw [Int64.lt_iff_toInt_lt] at q; rw [h]; omega
  · rw [if_neg q] at h; rw [Int64.lt_iff_toInt_lt] at q; rw [h]; omega
theorem n_minL {x y z : Int64} {v w : Int} (hv : x.toInt = v) (hw : y.toInt = w) (h : z = if y < x then y else x) : (z.toInt = v ∧ v ≤ w) ∨ (z.toInt = w ∧ w ≤ v) := by
  by_cases q : y < x
  · rw [if_pos q] at h; rw [Int64.lt_iff_toInt_lt] at q; rw [h]; omega
  · rw [if_neg q] at h; rw [Int64.lt_iff_toInt_lt] at q; rw [h]; omega
theorem n_mulb {a b A B : Int} (hA : 0 ≤ A) (hB : 0 ≤ B) (ha : -A ≤ a ∧ a ≤ A) (hb : -B ≤ b ∧ b ≤ B) : -(A * B) ≤ a * b ∧ a * b ≤ A * B := by
  have h1 : a.natAbs ≤ A.natAbs := by omega
  have h2 : b.natAbs ≤ B.natAbs := by omega
  have h3 : (a * b).natAbs ≤ (A * B).natAbs := by
    rw [Int.natAbs_mul, Int.natAbs_mul]; exact Nat.mul_le_mul h1 h2
  have h4 : 0 ≤ A * B := Int.mul_nonneg hA hB
  omega
theorem n_and (x : Int32) {m : Int32} (j : Nat) (hm : m.toBitVec.toNat = 2 ^ j - 1) (hj : j ≤ 30) : 0 ≤ (x &&& m).toInt ∧ (x &&& m).toInt ≤ ((2 ^ j - 1 : Nat) : Int) := by
  obtain ⟨k, hk, e⟩ := pk_andE x j hm
  have h2 : 2 ^ j ≤ 2 ^ 30 := Nat.pow_le_pow_right (by decide) hj
  rw [e, nI_toInt (by omega)]
  omega
theorem n_shl5 {y : Int32} (h1 : -1 ≤ y.toInt) (h2 : y.toInt ≤ 5) : ((1 : Int32) <<< (y &&& 31)).toInt ≤ 32 := by
  have h : y.toInt = -1 ∨ y.toInt = 0 ∨ y.toInt = 1 ∨ y.toInt = 2 ∨ y.toInt = 3 ∨ y.toInt = 4 ∨ y.toInt = 5 := by omega
  rcases h with q | q | q | q | q | q | q
  · rw [show y = -1 from Int32.toInt_inj.mp (q.trans (by decide))]; decide +kernel
  · rw [show y = 0 from Int32.toInt_inj.mp (q.trans (by decide))]; decide +kernel
  · rw [show y = 1 from Int32.toInt_inj.mp (q.trans (by decide))]; decide +kernel
  · rw [show y = 2 from Int32.toInt_inj.mp (q.trans (by decide))]; decide +kernel
  · rw [show y = 3 from Int32.toInt_inj.mp (q.trans (by decide))]; decide +kernel
  · rw [show y = 4 from Int32.toInt_inj.mp (q.trans (by decide))]; decide +kernel
  · rw [show y = 5 from Int32.toInt_inj.mp (q.trans (by decide))]; decide +kernel
theorem n_ladd1 {y : Int64} (h : 0 ≤ y.toInt) : ¬ (1 + y : Int64).toInt = 0 := by
  have hr := n_rngL y
  have e1 : (1 : Int64).toInt = 1 := by decide
  rw [Int64.toInt_add, e1]
  by_cases hm : y.toInt = 9223372036854775807
  · rw [hm]; decide
  · rw [n_bmL (by omega) (by omega)]; omega
theorem n_mulnz {x y : Int64} (hx : ¬ x.toInt = 0) (hy : ¬ y.toInt = 0) (h1 : -2147483648 ≤ x.toInt ∧ x.toInt ≤ 2147483648) (h2 : -2147483648 ≤ y.toInt ∧ y.toInt ≤ 2147483648) : ¬ (x * y).toInt = 0 := by
  have h3 := n_mulb (A := 2147483648) (B := 2147483648) (by decide) (by decide) h1 h2
  rw [n_mulL rfl rfl (by omega) (by omega)]
  exact Int.mul_ne_zero hx hy
section G2
variable {p : Program} {l : Launch} {e : Env} {R : Room} {s : State} {m : MethodId} {args : Array Value} {below : List Frame} {meth : Method} {c : Code} {H : Heap} {locs : List Loc} {cells slots : Nat} {Q : State → Prop}
variable {cc : ByteArray} {pc : Nat} {ls : Array Slot} {rest : List Value} {D : va_G} {A A0 : Nat → Prop} {a : Nat} {tys : List (ClassId × FieldType)} {ws : va_W} {H0 : Heap}
theorem b_icmp_eq (hexec : p.tables.exec = Jvm.exec) (hb : c.code = cc) {x y : Int32} {v w : Int} (hv : x.toInt = v) (hw : y.toInt = w) {off : Int} {tgt : Nat} (hdg : decode cc pc = .ok (.if_icmp .eq off, 3)) (ht : (pc : Int) + off = (tgt : Int))
    (kt : v = w → W p l e R s m args below meth c H locs cells slots Q (F0 m tgt ls rest)) (kf : ¬ v = w → W p l e R s m args below meth c H locs cells slots Q (F0 m (pc + 3) ls rest)) : W p l e R s m args below meth c H locs cells slots Q (F0 m pc ls (.int y :: .int x :: rest)) :=
  lv_icmp_eq hexec hb hdg ht (fun h => kt (by rw [← hv, ← hw]; exact congrArg _ h)) (fun h => kf (by rw [← hv, ← hw]; exact fun q => h (Int32.toInt_inj.mp q)))
theorem b_if_eq (hexec : p.tables.exec = Jvm.exec) (hb : c.code = cc) {x : Int32} {v : Int} (hv : x.toInt = v) {off : Int} {tgt : Nat} (hdg : decode cc pc = .ok (.ifCond .eq off, 3)) (ht : (pc : Int) + off = (tgt : Int))
    (kt : v = 0 → W p l e R s m args below meth c H locs cells slots Q (F0 m tgt ls rest)) (kf : ¬ v = 0 → W p l e R s m args below meth c H locs cells slots Q (F0 m (pc + 3) ls rest)) : W p l e R s m args below meth c H locs cells slots Q (F0 m pc ls (.int x :: rest)) := by
  have hw : (0 : Int32).toInt = 0 := by decide
  exact lv_if_eq hexec hb hdg ht (fun h => kt (by rw [← hv, ← hw]; exact congrArg _ h)) (fun h => kf (by rw [← hv, ← hw]; exact fun q => h (Int32.toInt_inj.mp q)))
theorem b_lcmp_eq (hexec : p.tables.exec = Jvm.exec) (hb : c.code = cc) {x y : Int64} {v w : Int} (hv : x.toInt = v) (hw : y.toInt = w) {off : Int} {tgt : Nat} (hd0 : decode cc pc = .ok (.lcmp, 1)) (hdg : decode cc (pc + 1) = .ok (.ifCond .eq off, 3)) (ht : ((pc + 1 : Nat) : Int) + off = (tgt : Int))
    (kt : v = w → W p l e R s m args below meth c H locs cells slots Q (F0 m tgt ls rest)) (kf : ¬ v = w → W p l e R s m args below meth c H locs cells slots Q (F0 m (pc + 1 + 3) ls rest)) : W p l e R s m args below meth c H locs cells slots Q (F0 m pc ls (.long y :: .long x :: rest)) := by
  refine W.lcmp hexec hb hd0 ?_
  exact lv_if_eq hexec hb hdg ht (fun h => kt (by have h := ((lg_cmp_eq x y).mp h); rw [← hv, ← hw]; exact congrArg _ h)) (fun h => kf (by have h := (mt (lg_cmp_eq x y).mpr h); rw [← hv, ← hw]; exact fun q => h (Int64.toInt_inj.mp q)))
theorem b_icmp_ne (hexec : p.tables.exec = Jvm.exec) (hb : c.code = cc) {x y : Int32} {v w : Int} (hv : x.toInt = v) (hw : y.toInt = w) {off : Int} {tgt : Nat} (hdg : decode cc pc = .ok (.if_icmp .ne off, 3)) (ht : (pc : Int) + off = (tgt : Int))
    (kt : ¬ v = w → W p l e R s m args below meth c H locs cells slots Q (F0 m tgt ls rest)) (kf : v = w → W p l e R s m args below meth c H locs cells slots Q (F0 m (pc + 3) ls rest)) : W p l e R s m args below meth c H locs cells slots Q (F0 m pc ls (.int y :: .int x :: rest)) :=
  lv_icmp_ne hexec hb hdg ht (fun h => kt (by rw [← hv, ← hw]; exact fun q => h (Int32.toInt_inj.mp q))) (fun h => kf (by rw [← hv, ← hw]; exact congrArg _ h))
theorem b_if_ne (hexec : p.tables.exec = Jvm.exec) (hb : c.code = cc) {x : Int32} {v : Int} (hv : x.toInt = v) {off : Int} {tgt : Nat} (hdg : decode cc pc = .ok (.ifCond .ne off, 3)) (ht : (pc : Int) + off = (tgt : Int))
    (kt : ¬ v = 0 → W p l e R s m args below meth c H locs cells slots Q (F0 m tgt ls rest)) (kf : v = 0 → W p l e R s m args below meth c H locs cells slots Q (F0 m (pc + 3) ls rest)) : W p l e R s m args below meth c H locs cells slots Q (F0 m pc ls (.int x :: rest)) := by
  have hw : (0 : Int32).toInt = 0 := by decide
  exact lv_if_ne hexec hb hdg ht (fun h => kt (by rw [← hv, ← hw]; exact fun q => h (Int32.toInt_inj.mp q))) (fun h => kf (by rw [← hv, ← hw]; exact congrArg _ h))
theorem b_lcmp_ne (hexec : p.tables.exec = Jvm.exec) (hb : c.code = cc) {x y : Int64} {v w : Int} (hv : x.toInt = v) (hw : y.toInt = w) {off : Int} {tgt : Nat} (hd0 : decode cc pc = .ok (.lcmp, 1)) (hdg : decode cc (pc + 1) = .ok (.ifCond .ne off, 3)) (ht : ((pc + 1 : Nat) : Int) + off = (tgt : Int))
    (kt : ¬ v = w → W p l e R s m args below meth c H locs cells slots Q (F0 m tgt ls rest)) (kf : v = w → W p l e R s m args below meth c H locs cells slots Q (F0 m (pc + 1 + 3) ls rest)) : W p l e R s m args below meth c H locs cells slots Q (F0 m pc ls (.long y :: .long x :: rest)) := by
  refine W.lcmp hexec hb hd0 ?_
  exact lv_if_ne hexec hb hdg ht (fun h => kt (by have h := (mt (lg_cmp_eq x y).mpr h); rw [← hv, ← hw]; exact fun q => h (Int64.toInt_inj.mp q))) (fun h => kf (by have h := ((lg_cmp_eq x y).mp h); rw [← hv, ← hw]; exact congrArg _ h))
theorem b_icmp_lt (hexec : p.tables.exec = Jvm.exec) (hb : c.code = cc) {x y : Int32} {v w : Int} (hv : x.toInt = v) (hw : y.toInt = w) {off : Int} {tgt : Nat} (hdg : decode cc pc = .ok (.if_icmp .lt off, 3)) (ht : (pc : Int) + off = (tgt : Int))
    (kt : v < w → W p l e R s m args below meth c H locs cells slots Q (F0 m tgt ls rest)) (kf : v ≥ w → W p l e R s m args below meth c H locs cells slots Q (F0 m (pc + 3) ls rest)) : W p l e R s m args below meth c H locs cells slots Q (F0 m pc ls (.int y :: .int x :: rest)) :=
  lv_icmp_lt hexec hb hdg ht (fun h => kt (by rw [← hv, ← hw]; exact Int32.lt_iff_toInt_lt.mp h)) (fun h => kf (by rw [← hv, ← hw]; exact Int.not_lt.mp (fun q => h (Int32.lt_iff_toInt_lt.mpr q))))
theorem b_if_lt (hexec : p.tables.exec = Jvm.exec) (hb : c.code = cc) {x : Int32} {v : Int} (hv : x.toInt = v) {off : Int} {tgt : Nat} (hdg : decode cc pc = .ok (.ifCond .lt off, 3)) (ht : (pc : Int) + off = (tgt : Int))
    (kt : v < 0 → W p l e R s m args below meth c H locs cells slots Q (F0 m tgt ls rest)) (kf : v ≥ 0 → W p l e R s m args below meth c H locs cells slots Q (F0 m (pc + 3) ls rest)) : W p l e R s m args below meth c H locs cells slots Q (F0 m pc ls (.int x :: rest)) := by
  have hw : (0 : Int32).toInt = 0 := by decide
  exact lv_if_lt hexec hb hdg ht (fun h => kt (by rw [← hv, ← hw]; exact Int32.lt_iff_toInt_lt.mp h)) (fun h => kf (by rw [← hv, ← hw]; exact Int.not_lt.mp (fun q => h (Int32.lt_iff_toInt_lt.mpr q))))
theorem b_lcmp_lt (hexec : p.tables.exec = Jvm.exec) (hb : c.code = cc) {x y : Int64} {v w : Int} (hv : x.toInt = v) (hw : y.toInt = w) {off : Int} {tgt : Nat} (hd0 : decode cc pc = .ok (.lcmp, 1)) (hdg : decode cc (pc + 1) = .ok (.ifCond .lt off, 3)) (ht : ((pc + 1 : Nat) : Int) + off = (tgt : Int))
    (kt : v < w → W p l e R s m args below meth c H locs cells slots Q (F0 m tgt ls rest)) (kf : v ≥ w → W p l e R s m args below meth c H locs cells slots Q (F0 m (pc + 1 + 3) ls rest)) : W p l e R s m args below meth c H locs cells slots Q (F0 m pc ls (.long y :: .long x :: rest)) := by
  refine W.lcmp hexec hb hd0 ?_
  exact lv_if_lt hexec hb hdg ht (fun h => kt (by have h := ((lg_cmp_lt x y).mp h); rw [← hv, ← hw]; exact Int64.lt_iff_toInt_lt.mp h)) (fun h => kf (by have h := (mt (lg_cmp_lt x y).mpr h); rw [← hv, ← hw]; exact Int.not_lt.mp (fun q => h (Int64.lt_iff_toInt_lt.mpr q))))
theorem b_icmp_ge (hexec : p.tables.exec = Jvm.exec) (hb : c.code = cc) {x y : Int32} {v w : Int} (hv : x.toInt = v) (hw : y.toInt = w) {off : Int} {tgt : Nat} (hdg : decode cc pc = .ok (.if_icmp .ge off, 3)) (ht : (pc : Int) + off = (tgt : Int))
    (kt : v ≥ w → W p l e R s m args below meth c H locs cells slots Q (F0 m tgt ls rest)) (kf : v < w → W p l e R s m args below meth c H locs cells slots Q (F0 m (pc + 3) ls rest)) : W p l e R s m args below meth c H locs cells slots Q (F0 m pc ls (.int y :: .int x :: rest)) :=
  lv_icmp_ge hexec hb hdg ht (fun h => kt (by rw [← hv, ← hw]; exact Int32.le_iff_toInt_le.mp h)) (fun h => kf (by rw [← hv, ← hw]; exact Int.not_le.mp (fun q => h (Int32.le_iff_toInt_le.mpr q))))
theorem b_if_ge (hexec : p.tables.exec = Jvm.exec) (hb : c.code = cc) {x : Int32} {v : Int} (hv : x.toInt = v) {off : Int} {tgt : Nat} (hdg : decode cc pc = .ok (.ifCond .ge off, 3)) (ht : (pc : Int) + off = (tgt : Int))
    (kt : v ≥ 0 → W p l e R s m args below meth c H locs cells slots Q (F0 m tgt ls rest)) (kf : v < 0 → W p l e R s m args below meth c H locs cells slots Q (F0 m (pc + 3) ls rest)) : W p l e R s m args below meth c H locs cells slots Q (F0 m pc ls (.int x :: rest)) := by
  have hw : (0 : Int32).toInt = 0 := by decide
  exact lv_if_ge hexec hb hdg ht (fun h => kt (by rw [← hv, ← hw]; exact Int32.le_iff_toInt_le.mp h)) (fun h => kf (by rw [← hv, ← hw]; exact Int.not_le.mp (fun q => h (Int32.le_iff_toInt_le.mpr q))))
theorem b_lcmp_ge (hexec : p.tables.exec = Jvm.exec) (hb : c.code = cc) {x y : Int64} {v w : Int} (hv : x.toInt = v) (hw : y.toInt = w) {off : Int} {tgt : Nat} (hd0 : decode cc pc = .ok (.lcmp, 1)) (hdg : decode cc (pc + 1) = .ok (.ifCond .ge off, 3)) (ht : ((pc + 1 : Nat) : Int) + off = (tgt : Int))
    (kt : v ≥ w → W p l e R s m args below meth c H locs cells slots Q (F0 m tgt ls rest)) (kf : v < w → W p l e R s m args below meth c H locs cells slots Q (F0 m (pc + 1 + 3) ls rest)) : W p l e R s m args below meth c H locs cells slots Q (F0 m pc ls (.long y :: .long x :: rest)) := by
  refine W.lcmp hexec hb hd0 ?_
  exact lv_if_ge hexec hb hdg ht (fun h => kt (by have h := ((lg_cmp_ge x y).mp h); rw [← hv, ← hw]; exact Int64.le_iff_toInt_le.mp h)) (fun h => kf (by have h := (mt (lg_cmp_ge x y).mpr h); rw [← hv, ← hw]; exact Int.not_le.mp (fun q => h (Int64.le_iff_toInt_le.mpr q))))
theorem b_icmp_gt (hexec : p.tables.exec = Jvm.exec) (hb : c.code = cc) {x y : Int32} {v w : Int} (hv : x.toInt = v) (hw : y.toInt = w) {off : Int} {tgt : Nat} (hdg : decode cc pc = .ok (.if_icmp .gt off, 3)) (ht : (pc : Int) + off = (tgt : Int))
    (kt : v > w → W p l e R s m args below meth c H locs cells slots Q (F0 m tgt ls rest)) (kf : v ≤ w → W p l e R s m args below meth c H locs cells slots Q (F0 m (pc + 3) ls rest)) : W p l e R s m args below meth c H locs cells slots Q (F0 m pc ls (.int y :: .int x :: rest)) :=
  lv_icmp_gt hexec hb hdg ht (fun h => kt (by rw [← hv, ← hw]; exact Int32.lt_iff_toInt_lt.mp h)) (fun h => kf (by rw [← hv, ← hw]; exact Int.not_lt.mp (fun q => h (Int32.lt_iff_toInt_lt.mpr q))))
theorem b_if_gt (hexec : p.tables.exec = Jvm.exec) (hb : c.code = cc) {x : Int32} {v : Int} (hv : x.toInt = v) {off : Int} {tgt : Nat} (hdg : decode cc pc = .ok (.ifCond .gt off, 3)) (ht : (pc : Int) + off = (tgt : Int))
    (kt : v > 0 → W p l e R s m args below meth c H locs cells slots Q (F0 m tgt ls rest)) (kf : v ≤ 0 → W p l e R s m args below meth c H locs cells slots Q (F0 m (pc + 3) ls rest)) : W p l e R s m args below meth c H locs cells slots Q (F0 m pc ls (.int x :: rest)) := by
  have hw : (0 : Int32).toInt = 0 := by decide
  exact lv_if_gt hexec hb hdg ht (fun h => kt (by rw [← hv, ← hw]; exact Int32.lt_iff_toInt_lt.mp h)) (fun h => kf (by rw [← hv, ← hw]; exact Int.not_lt.mp (fun q => h (Int32.lt_iff_toInt_lt.mpr q))))
theorem b_lcmp_gt (hexec : p.tables.exec = Jvm.exec) (hb : c.code = cc) {x y : Int64} {v w : Int} (hv : x.toInt = v) (hw : y.toInt = w) {off : Int} {tgt : Nat} (hd0 : decode cc pc = .ok (.lcmp, 1)) (hdg : decode cc (pc + 1) = .ok (.ifCond .gt off, 3)) (ht : ((pc + 1 : Nat) : Int) + off = (tgt : Int))
    (kt : v > w → W p l e R s m args below meth c H locs cells slots Q (F0 m tgt ls rest)) (kf : v ≤ w → W p l e R s m args below meth c H locs cells slots Q (F0 m (pc + 1 + 3) ls rest)) : W p l e R s m args below meth c H locs cells slots Q (F0 m pc ls (.long y :: .long x :: rest)) := by
  refine W.lcmp hexec hb hd0 ?_
  exact lv_if_gt hexec hb hdg ht (fun h => kt (by have h := ((lg_cmp_gt x y).mp h); rw [← hv, ← hw]; exact Int64.lt_iff_toInt_lt.mp h)) (fun h => kf (by have h := (mt (lg_cmp_gt x y).mpr h); rw [← hv, ← hw]; exact Int.not_lt.mp (fun q => h (Int64.lt_iff_toInt_lt.mpr q))))
theorem b_icmp_le (hexec : p.tables.exec = Jvm.exec) (hb : c.code = cc) {x y : Int32} {v w : Int} (hv : x.toInt = v) (hw : y.toInt = w) {off : Int} {tgt : Nat} (hdg : decode cc pc = .ok (.if_icmp .le off, 3)) (ht : (pc : Int) + off = (tgt : Int))
    (kt : v ≤ w → W p l e R s m args below meth c H locs cells slots Q (F0 m tgt ls rest)) (kf : v > w → W p l e R s m args below meth c H locs cells slots Q (F0 m (pc + 3) ls rest)) : W p l e R s m args below meth c H locs cells slots Q (F0 m pc ls (.int y :: .int x :: rest)) :=
  lv_icmp_le hexec hb hdg ht (fun h => kt (by rw [← hv, ← hw]; exact Int32.le_iff_toInt_le.mp h)) (fun h => kf (by rw [← hv, ← hw]; exact Int.not_le.mp (fun q => h (Int32.le_iff_toInt_le.mpr q))))
theorem b_if_le (hexec : p.tables.exec = Jvm.exec) (hb : c.code = cc) {x : Int32} {v : Int} (hv : x.toInt = v) {off : Int} {tgt : Nat} (hdg : decode cc pc = .ok (.ifCond .le off, 3)) (ht : (pc : Int) + off = (tgt : Int))
    (kt : v ≤ 0 → W p l e R s m args below meth c H locs cells slots Q (F0 m tgt ls rest)) (kf : v > 0 → W p l e R s m args below meth c H locs cells slots Q (F0 m (pc + 3) ls rest)) : W p l e R s m args below meth c H locs cells slots Q (F0 m pc ls (.int x :: rest)) := by
  have hw : (0 : Int32).toInt = 0 := by decide
  exact lv_if_le hexec hb hdg ht (fun h => kt (by rw [← hv, ← hw]; exact Int32.le_iff_toInt_le.mp h)) (fun h => kf (by rw [← hv, ← hw]; exact Int.not_le.mp (fun q => h (Int32.le_iff_toInt_le.mpr q))))
theorem b_lcmp_le (hexec : p.tables.exec = Jvm.exec) (hb : c.code = cc) {x y : Int64} {v w : Int} (hv : x.toInt = v) (hw : y.toInt = w) {off : Int} {tgt : Nat} (hd0 : decode cc pc = .ok (.lcmp, 1)) (hdg : decode cc (pc + 1) = .ok (.ifCond .le off, 3)) (ht : ((pc + 1 : Nat) : Int) + off = (tgt : Int))
    (kt : v ≤ w → W p l e R s m args below meth c H locs cells slots Q (F0 m tgt ls rest)) (kf : v > w → W p l e R s m args below meth c H locs cells slots Q (F0 m (pc + 1 + 3) ls rest)) : W p l e R s m args below meth c H locs cells slots Q (F0 m pc ls (.long y :: .long x :: rest)) := by
  refine W.lcmp hexec hb hd0 ?_
  exact lv_if_le hexec hb hdg ht (fun h => kt (by have h := ((lg_cmp_le x y).mp h); rw [← hv, ← hw]; exact Int64.le_iff_toInt_le.mp h)) (fun h => kf (by have h := (mt (lg_cmp_le x y).mpr h); rw [← hv, ← hw]; exact Int.not_le.mp (fun q => h (Int64.le_iff_toInt_le.mpr q))))
theorem b_iadd (hexec : p.tables.exec = Jvm.exec) (hb : c.code = cc) {x y : Int32} {v w : Int} (hv : x.toInt = v) (hw : y.toInt = w) (h1 : -2147483648 ≤ v + w) (h2 : v + w ≤ 2147483647) (hdg : decode cc pc = .ok (.iadd, 1)) (k : ∀ z : Int32, z.toInt = v + w → W p l e R s m args below meth c H locs cells slots Q (F0 m (pc + 1) ls (.int z :: rest))) : W p l e R s m args below meth c H locs cells slots Q (F0 m pc ls (.int y :: .int x :: rest)) := lv_iadd hexec hb hdg (k _ (n_add hv hw h1 h2))
theorem b_isub (hexec : p.tables.exec = Jvm.exec) (hb : c.code = cc) {x y : Int32} {v w : Int} (hv : x.toInt = v) (hw : y.toInt = w) (h1 : -2147483648 ≤ v - w) (h2 : v - w ≤ 2147483647) (hdg : decode cc pc = .ok (.isub, 1)) (k : ∀ z : Int32, z.toInt = v - w → W p l e R s m args below meth c H locs cells slots Q (F0 m (pc + 1) ls (.int z :: rest))) : W p l e R s m args below meth c H locs cells slots Q (F0 m pc ls (.int y :: .int x :: rest)) := lv_isub hexec hb hdg (k _ (n_sub hv hw h1 h2))
theorem b_imul (hexec : p.tables.exec = Jvm.exec) (hb : c.code = cc) {x y : Int32} {v w : Int} (hv : x.toInt = v) (hw : y.toInt = w) (h1 : -2147483648 ≤ v * w) (h2 : v * w ≤ 2147483647) (hdg : decode cc pc = .ok (.imul, 1)) (k : ∀ z : Int32, z.toInt = v * w → W p l e R s m args below meth c H locs cells slots Q (F0 m (pc + 1) ls (.int z :: rest))) : W p l e R s m args below meth c H locs cells slots Q (F0 m pc ls (.int y :: .int x :: rest)) := lv_imul hexec hb hdg (k _ (n_mul hv hw h1 h2))
theorem b_irem (hexec : p.tables.exec = Jvm.exec) (hb : c.code = cc) {x y : Int32} {v w : Int} (hv : x.toInt = v) (hw : y.toInt = w) (h0 : 0 < w) (hdg : decode cc pc = .ok (.irem, 1)) (k : ∀ z : Int32, -w < z.toInt ∧ z.toInt < w ∧ (0 ≤ v → 0 ≤ z.toInt) → W p l e R s m args below meth c H locs cells slots Q (F0 m (pc + 1) ls (.int z :: rest))) : W p l e R s m args below meth c H locs cells slots Q (F0 m pc ls (.int y :: .int x :: rest)) := lv_irem hexec hb hdg (n_ne0 hw h0) (k _ (by rw [n_rem hv hw h0]; exact n_tmod h0))
theorem b_idiv (hexec : p.tables.exec = Jvm.exec) (hb : c.code = cc) {x y : Int32} {v w : Int} (hv : x.toInt = v) (hw : y.toInt = w) (h0 : 0 < w) (h1 : 0 ≤ v) (hdg : decode cc pc = .ok (.idiv, 1)) (k : ∀ z : Int32, 0 ≤ z.toInt ∧ z.toInt ≤ v ∧ z.toInt * w ≤ v ∧ v < z.toInt * w + w → W p l e R s m args below meth c H locs cells slots Q (F0 m (pc + 1) ls (.int z :: rest))) : W p l e R s m args below meth c H locs cells slots Q (F0 m pc ls (.int y :: .int x :: rest)) := lv_idiv hexec hb hdg (n_ne0 hw h0) (k _ (by rw [n_div hv hw h0]; exact n_tdiv h0 h1))
theorem b_ineg (hexec : p.tables.exec = Jvm.exec) (hb : c.code = cc) {x : Int32} {v : Int} (hv : x.toInt = v) (h1 : v ≠ -2147483648) (hdg : decode cc pc = .ok (.ineg, 1)) (k : ∀ z : Int32, z.toInt = -v → W p l e R s m args below meth c H locs cells slots Q (F0 m (pc + 1) ls (.int z :: rest))) : W p l e R s m args below meth c H locs cells slots Q (F0 m pc ls (.int x :: rest)) := lv_ineg hexec hb hdg (k _ (n_neg hv h1))
theorem b_i2l (hexec : p.tables.exec = Jvm.exec) (hb : c.code = cc) {x : Int32} {v : Int} (hv : x.toInt = v) (hdg : decode cc pc = .ok (.i2l, 1)) (k : ∀ z : Int64, z.toInt = v → W p l e R s m args below meth c H locs cells slots Q (F0 m (pc + 1) ls (.long z :: rest))) : W p l e R s m args below meth c H locs cells slots Q (F0 m pc ls (.int x :: rest)) := lv_i2l hexec hb hdg rfl (k _ (by rw [Int32.toInt_toInt64]; exact hv))
theorem b_iinc (hexec : p.tables.exec = Jvm.exec) (hb : c.code = cc) {i nL k : Nat} {n : Int} {x : Int32} {v w : Int} {lv : List (Nat × Value)} (hdg : decode cc pc = .ok (.iinc i n, 3)) (h : lv_has ls nL lv) (hk : lv[k]? = some (i, .int x)) (hv : x.toInt = v) (hw : (Int32.ofInt n).toInt = w) (h1 : -2147483648 ≤ v + w) (h2 : v + w ≤ 2147483647) (hn : i < nL)
    (kk : ∀ z : Int32, z.toInt = v + w → ∀ ls' : Array Slot, lv_has ls' nL ((i, Value.int z) :: lv.filter (fun q => !(q.1 == i) && !(q.1 + 1 == i && q.2.category == 2))) → W p l e R s m args below meth c H locs cells slots Q (F0 m (pc + 3) ls' rest)) : W p l e R s m args below meth c H locs cells slots Q (F0 m pc ls rest) :=
  lv_iinc hexec hb hdg h hk rfl hn rfl (fun ls' hl' => kk _ (n_add hv hw h1 h2) ls' hl')
theorem b_iand (hexec : p.tables.exec = Jvm.exec) (hb : c.code = cc) {x y : Int32} (j : Nat) {M : Int} (hm : y.toBitVec.toNat = 2 ^ j - 1) (hM : ((2 ^ j - 1 : Nat) : Int) = M) (hj : j ≤ 30) (hdg : decode cc pc = .ok (.iand, 1)) (k : ∀ z : Int32, (0 ≤ z.toInt ∧ z.toInt ≤ M) → W p l e R s m args below meth c H locs cells slots Q (F0 m (pc + 1) ls (.int z :: rest))) : W p l e R s m args below meth c H locs cells slots Q (F0 m pc ls (.int y :: .int x :: rest)) := lv_iand hexec hb hdg (k _ (by rw [← hM]; exact n_and x j hm hj))
theorem b_shl1 (hexec : p.tables.exec = Jvm.exec) (hb : c.code = cc) {y : Int32} {w : Int} (hw : y.toInt = w) (h1 : -1 ≤ w) (h2 : w ≤ 5) (hdg : decode cc pc = .ok (.ishl, 1)) (k : ∀ z : Int32, z.toInt ≤ 32 → W p l e R s m args below meth c H locs cells slots Q (F0 m (pc + 1) ls (.int z :: rest))) : W p l e R s m args below meth c H locs cells slots Q (F0 m pc ls (.int y :: .int 1 :: rest)) := lv_ishl hexec hb hdg (k _ (n_shl5 (by omega) (by omega)))
theorem b_ladd1 (hexec : p.tables.exec = Jvm.exec) (hb : c.code = cc) {y : Int64} (h : 0 ≤ y.toInt) (hdg : decode cc pc = .ok (.ladd, 1)) (k : ∀ z : Int64, ¬ z.toInt = 0 → W p l e R s m args below meth c H locs cells slots Q (F0 m (pc + 1) ls (.long z :: rest))) : W p l e R s m args below meth c H locs cells slots Q (F0 m pc ls (.long y :: .long 1 :: rest)) := lv_ladd hexec hb hdg (k _ (n_ladd1 h))
theorem b_iincO (hexec : p.tables.exec = Jvm.exec) (hb : c.code = cc) {i nL k : Nat} {n : Int} {x : Int32} {lv : List (Nat × Value)} (hdg : decode cc pc = .ok (.iinc i n, 3)) (h : lv_has ls nL lv) (hk : lv[k]? = some (i, .int x)) (hn : i < nL)
    (kk : ∀ (z : Int32) (ls' : Array Slot), lv_has ls' nL ((i, Value.int z) :: lv.filter (fun q => !(q.1 == i) && !(q.1 + 1 == i && q.2.category == 2))) → W p l e R s m args below meth c H locs cells slots Q (F0 m (pc + 3) ls' rest)) : W p l e R s m args below meth c H locs cells slots Q (F0 m pc ls rest) :=
  lv_iinc hexec hb hdg h hk rfl hn rfl (fun ls' hl' => kk _ ls' hl')
theorem h_iastore {cl : List vw_C} (hexec : p.tables.exec = Jvm.exec) (hb : c.code = cc) (hK : va_K D cl tys s) (hP : va_P D cl ws H) (hD : va_D A ws) (hS : va_S A H0 H locs) (q0 t0 : Nat) {cA : ClassId} {n : Nat} {f : Nat → Int32} {lo hi : Int} (ha : ws[q0]? = some (a, .inl (cA, n, .inl f))) (ht : tys[t0]? = some (cA, .int)) {i : Int32} {x : Int32} (hin : vp_in i n) (hdg : decode cc pc = .ok (.iastore, 1)) (hf : ∀ j, lo ≤ (f j).toInt ∧ (f j).toInt ≤ hi) (h1 : lo ≤ x.toInt) (h2 : x.toInt ≤ hi)
    (kk : ∀ (f' : Nat → Int32), (∀ j, lo ≤ (f' j).toInt ∧ (f' j).toInt ≤ hi) → ∀ (H1 : Heap) (locs1 : List Loc), va_P D cl (ws.set q0 (a, .inl (cA, n, .inl f'))) H1 → va_D A (ws.set q0 (a, .inl (cA, n, .inl f'))) → va_S A H0 H1 locs1 → W p l e R s m args below meth c H1 locs1 cells slots Q (F0 m (pc + 1) ls rest)) : W p l e R s m args below meth c H locs cells slots Q (F0 m pc ls (.int x :: .int i :: .ref a :: rest)) :=
  va_iast hexec hb hK hP hD hS q0 t0 ha ht hin hdg (fun H1 locs1 g1 g2 g3 => kk _ (n_upd hf h1 h2) H1 locs1 g1 g2 g3)
theorem g_copyi {cl : List vw_C} (hexec : p.tables.exec = Jvm.exec) (hb : c.code = cc) (hml : c.maxLocals = ls.size) {own : String} {index : Nat} (hown : s.vm.findClass own = some m.cls) (hlink : (Cond.methodLink own index arraycopyName).before args s = true) (hnat : (Cond.native arraycopyName).before args s = true) (hstat : (Cond.static arraycopyName).before args s = true) (hini : (Cond.initialized "java/lang/System").before args s = true)
    (hK : va_K D cl tys s) (hP : va_P D cl ws H) (hD : va_D A ws) (hS : va_S A H0 H locs) (q0 q1 t0 t1 : Nat) {a0 : Nat} {c0 c1 : ClassId} {n0 n1 : Nat} {f g : Nat → Int32} {ty : FieldType} (ha0 : ws[q0]? = some (a0, .inl (c0, n0, .inl f))) (ha1 : ws[q1]? = some (a, .inl (c1, n1, .inl g))) (ht0 : tys[t0]? = some (c0, ty)) (ht1 : tys[t1]? = some (c1, ty)) (hprim : refKind ty = false)
    {sp dp n : Int32} (h1 : ¬ sp < 0) (h2 : ¬ dp < 0) (h3 : ¬ n < 0) (h4 : sp.toNatClampNeg + n.toNatClampNeg ≤ n0) (h5 : dp.toNatClampNeg + n.toNatClampNeg ≤ n1) (hfit : ∀ i, i < n.toNatClampNeg → fits ty (.int (f (sp.toNatClampNeg + i))) = true)
    (hframes : 1 ≤ R.frames) (hlocals : (rest.map fun v => v.category).sum + (nativeFrameWords "java/lang/System" "arraycopy" 5 + 11) ≤ R.locals) (hdg : decode cc pc = .ok (.invokestatic index, 3))
    (kk : ∀ (g' : Nat → Int32) (H1 : Heap) (locs1 : List Loc), va_P D cl (ws.set q1 (a, .inl (c1, n1, .inl g'))) H1 → va_D A (ws.set q1 (a, .inl (c1, n1, .inl g'))) → va_S A H0 H1 locs1 → W p l e R s m args below meth c H1 locs1 cells slots Q (F0 m (pc + 3) ls rest)) : W p l e R s m args below meth c H locs cells slots Q (F0 m pc ls (.int n :: .int dp :: .ref a :: .int sp :: .ref a0 :: rest)) :=
  va_copyi hexec hb hml hown hlink hnat hstat hini hK hP hD hS q0 q1 t0 t1 ha0 ha1 ht0 ht1 hprim h1 h2 h3 h4 h5 hfit hframes hlocals hdg (fun H1 locs1 g1 g2 g3 => kk _ H1 locs1 g1 g2 g3)
theorem b_ladd (hexec : p.tables.exec = Jvm.exec) (hb : c.code = cc) {x y : Int64} {v w : Int} (hv : x.toInt = v) (hw : y.toInt = w) (h1 : -9223372036854775808 ≤ v + w) (h2 : v + w ≤ 9223372036854775807) (hdg : decode cc pc = .ok (.ladd, 1)) (k : ∀ z : Int64, z.toInt = v + w → W p l e R s m args below meth c H locs cells slots Q (F0 m (pc + 1) ls (.long z :: rest))) : W p l e R s m args below meth c H locs cells slots Q (F0 m pc ls (.long y :: .long x :: rest)) := lv_ladd hexec hb hdg (k _ (n_addL hv hw h1 h2))
theorem b_lsub (hexec : p.tables.exec = Jvm.exec) (hb : c.code = cc) {x y : Int64} {v w : Int} (hv : x.toInt = v) (hw : y.toInt = w) (h1 : -9223372036854775808 ≤ v - w) (h2 : v - w ≤ 9223372036854775807) (hdg : decode cc pc = .ok (.lsub, 1)) (k : ∀ z : Int64, z.toInt = v - w → W p l e R s m args below meth c H locs cells slots Q (F0 m (pc + 1) ls (.long z :: rest))) : W p l e R s m args below meth c H locs cells slots Q (F0 m pc ls (.long y :: .long x :: rest)) := lv_lsub hexec hb hdg (k _ (n_subL hv hw h1 h2))
theorem b_lmul (hexec : p.tables.exec = Jvm.exec) (hb : c.code = cc) {x y : Int64} {v w : Int} (hv : x.toInt = v) (hw : y.toInt = w) (h1 : -9223372036854775808 ≤ v * w) (h2 : v * w ≤ 9223372036854775807) (hdg : decode cc pc = .ok (.lmul, 1)) (k : ∀ z : Int64, z.toInt = v * w → W p l e R s m args below meth c H locs cells slots Q (F0 m (pc + 1) ls (.long z :: rest))) : W p l e R s m args below meth c H locs cells slots Q (F0 m pc ls (.long y :: .long x :: rest)) := lv_lmul hexec hb hdg (k _ (n_mulL hv hw h1 h2))
end G2
/-! a method's body, its end told once -/
theorem gOf_i {l : Launch} {y : MethodName} {cc : ByteArray} {maxL : Nat} {rm : Room} {D : va_G} {tys : List (ClassId × FieldType)} {av : List Value} {ws : va_W} {sz : Nat} {post : Int32 → gEx → Prop} {w1 : gEx → va_W} (hy : plainName y.cls = true) (hlen : (lg_sl av).length ≤ maxL)
    (body : ∀ {p : Program} {e : Env} {s : State} {m : MethodId} {args : Array Value} {below : List Frame} {meth : Method} {c : Code} {ls : Array Slot} {A : Nat → Prop} {Q : State → Prop}, p.tables.exec = Jvm.exec → c.code = cc → (∀ w ∈ lw_gd, w.before args s = true) → s.vm.findClass y.cls = some m.cls → c.maxLocals = maxL → gNw s → va_K D gcl tys s → va_P D gcl ws s.heap → va_D A ws → (∀ q, s.heap.size ≤ q → A q) → lv_has ls maxL (lv_args 0 av) →
      (∀ {H : Heap} {locs : List Loc} {pc : Nat} {ls : Array Slot} (r : Int32) (u : gEx), decode cc pc = .ok (.ireturn, 1) → post r u → va_P D gcl (w1 u) H → va_D A (w1 u) → va_S A s.heap H locs → W p l e rm s m args below meth c H locs 0 0 Q (F0 m pc ls [.int r])) →
      W p l e rm s m args below meth c s.heap [] 0 0 Q (F0 m 0 ls [])) : Met l y (.code y cc maxL (some .int) :: lw_gd) rm (gPre D tys av ws sz) (va_Qi post (gB D (va_A ws sz) w1) (va_A ws sz)) 0 0 (va_A ws sz) := by
  refine Met.ofW (cc := cc) (maxL := maxL) (ret := (some .int)) hy rfl ?_
  intro p e s m args below meth c s₁ B hml hv
  obtain ⟨rfl, hsz, hP, hK, hD0, hN⟩ := hv
  subst hsz
  have hts : ∀ w ∈ lw_gd, w.before _ s = true := fun w h => atoms_spec (ws := .code y cc maxL (some .int) :: lw_gd) B.pre w (List.mem_cons_of_mem _ h)
  have hl := lv_entry av (n := maxL) hlen
  have hlocks := B.notSynchronized
  rw [lg_entry_eq]
  refine body B.exec B.bytes hts (findClass_of_methodNamed B.named) hml hN hK hP (hD0.self (sz := s.heap.size)) (fun q h => Or.inr h) hl ?_
  intro H locs pc ls r u hd hp hP9 hD9 hS
  exact W.iret (v := r) B.exec B.bytes B.returns (fun t ht hW => ⟨⟨r, u, rfl, hp, by rw [ht]; exact hP9, hD9⟩, hS.F ht⟩) hS.2.2 hd
theorem gOf_z {l : Launch} {y : MethodName} {cc : ByteArray} {maxL : Nat} {rm : Room} {D : va_G} {tys : List (ClassId × FieldType)} {av : List Value} {ws : va_W} {sz : Nat} {post : Int32 → gEx → Prop} {w1 : gEx → va_W} (hy : plainName y.cls = true) (hlen : (lg_sl av).length ≤ maxL)
    (body : ∀ {p : Program} {e : Env} {s : State} {m : MethodId} {args : Array Value} {below : List Frame} {meth : Method} {c : Code} {ls : Array Slot} {A : Nat → Prop} {Q : State → Prop}, p.tables.exec = Jvm.exec → c.code = cc → (∀ w ∈ lw_gd, w.before args s = true) → s.vm.findClass y.cls = some m.cls → c.maxLocals = maxL → gNw s → va_K D gcl tys s → va_P D gcl ws s.heap → va_D A ws → (∀ q, s.heap.size ≤ q → A q) → lv_has ls maxL (lv_args 0 av) →
      (∀ {H : Heap} {locs : List Loc} {pc : Nat} {ls : Array Slot} (r : Int32) (u : gEx), decode cc pc = .ok (.ireturn, 1) → (r.toInt = 0 ∨ r.toInt = 1) ∧ post r u → va_P D gcl (w1 u) H → va_D A (w1 u) → va_S A s.heap H locs → W p l e rm s m args below meth c H locs 0 0 Q (F0 m pc ls [.int r])) →
      W p l e rm s m args below meth c s.heap [] 0 0 Q (F0 m 0 ls [])) : Met l y (.code y cc maxL (some .boolean) :: lw_gd) rm (gPre D tys av ws sz) (va_Qi post (gB D (va_A ws sz) w1) (va_A ws sz)) 0 0 (va_A ws sz) := by
  refine Met.ofW (cc := cc) (maxL := maxL) (ret := (some .boolean)) hy rfl ?_
  intro p e s m args below meth c s₁ B hml hv
  obtain ⟨rfl, hsz, hP, hK, hD0, hN⟩ := hv
  subst hsz
  have hts : ∀ w ∈ lw_gd, w.before _ s = true := fun w h => atoms_spec (ws := .code y cc maxL (some .boolean) :: lw_gd) B.pre w (List.mem_cons_of_mem _ h)
  have hl := lv_entry av (n := maxL) hlen
  have hlocks := B.notSynchronized
  rw [lg_entry_eq]
  refine body B.exec B.bytes hts (findClass_of_methodNamed B.named) hml hN hK hP (hD0.self (sz := s.heap.size)) (fun q h => Or.inr h) hl ?_
  intro H locs pc ls r u hd hp hP9 hD9 hS
  have hn : narrow .boolean (.int r) = .int r := by
    rcases hp.1 with q | q
    · rw [show r = 0 from Int32.toInt_inj.mp (q.trans (by decide))]; rfl
    · rw [show r = 1 from Int32.toInt_inj.mp (q.trans (by decide))]; rfl
  exact W.zret (v := r) B.exec B.bytes B.returns hn (fun t ht hW => ⟨⟨r, u, rfl, hp.2, by rw [ht]; exact hP9, hD9⟩, hS.F ht⟩) hS.2.2 hd
theorem gOf_l {l : Launch} {y : MethodName} {cc : ByteArray} {maxL : Nat} {rm : Room} {D : va_G} {tys : List (ClassId × FieldType)} {av : List Value} {ws : va_W} {sz : Nat} {post : Int64 → gEx → Prop} {w1 : gEx → va_W} (hy : plainName y.cls = true) (hlen : (lg_sl av).length ≤ maxL)
    (body : ∀ {p : Program} {e : Env} {s : State} {m : MethodId} {args : Array Value} {below : List Frame} {meth : Method} {c : Code} {ls : Array Slot} {A : Nat → Prop} {Q : State → Prop}, p.tables.exec = Jvm.exec → c.code = cc → (∀ w ∈ lw_gd, w.before args s = true) → s.vm.findClass y.cls = some m.cls → c.maxLocals = maxL → gNw s → va_K D gcl tys s → va_P D gcl ws s.heap → va_D A ws → (∀ q, s.heap.size ≤ q → A q) → lv_has ls maxL (lv_args 0 av) →
      (∀ {H : Heap} {locs : List Loc} {pc : Nat} {ls : Array Slot} (r : Int64) (u : gEx), decode cc pc = .ok (.lreturn, 1) → post r u → va_P D gcl (w1 u) H → va_D A (w1 u) → va_S A s.heap H locs → W p l e rm s m args below meth c H locs 0 0 Q (F0 m pc ls [.long r])) →
      W p l e rm s m args below meth c s.heap [] 0 0 Q (F0 m 0 ls [])) : Met l y (.code y cc maxL (some .long) :: lw_gd) rm (gPre D tys av ws sz) (va_Ql post (gB D (va_A ws sz) w1) (va_A ws sz)) 0 0 (va_A ws sz) := by
  refine Met.ofW (cc := cc) (maxL := maxL) (ret := (some .long)) hy rfl ?_
  intro p e s m args below meth c s₁ B hml hv
  obtain ⟨rfl, hsz, hP, hK, hD0, hN⟩ := hv
  subst hsz
  have hts : ∀ w ∈ lw_gd, w.before _ s = true := fun w h => atoms_spec (ws := .code y cc maxL (some .long) :: lw_gd) B.pre w (List.mem_cons_of_mem _ h)
  have hl := lv_entry av (n := maxL) hlen
  have hlocks := B.notSynchronized
  rw [lg_entry_eq]
  refine body B.exec B.bytes hts (findClass_of_methodNamed B.named) hml hN hK hP (hD0.self (sz := s.heap.size)) (fun q h => Or.inr h) hl ?_
  intro H locs pc ls r u hd hp hP9 hD9 hS
  exact W.lret (v := r) B.exec B.bytes B.returns (fun t ht hW => ⟨⟨r, u, rfl, hp, by rw [ht]; exact hP9, hD9⟩, hS.F ht⟩) hS.2.2 hd
theorem gOf_v {l : Launch} {y : MethodName} {cc : ByteArray} {maxL : Nat} {rm : Room} {D : va_G} {tys : List (ClassId × FieldType)} {av : List Value} {ws : va_W} {sz : Nat} {post : gEx → Prop} {w1 : gEx → va_W} (hy : plainName y.cls = true) (hlen : (lg_sl av).length ≤ maxL)
    (body : ∀ {p : Program} {e : Env} {s : State} {m : MethodId} {args : Array Value} {below : List Frame} {meth : Method} {c : Code} {ls : Array Slot} {A : Nat → Prop} {Q : State → Prop}, p.tables.exec = Jvm.exec → c.code = cc → (∀ w ∈ lw_gd, w.before args s = true) → s.vm.findClass y.cls = some m.cls → c.maxLocals = maxL → gNw s → va_K D gcl tys s → va_P D gcl ws s.heap → va_D A ws → (∀ q, s.heap.size ≤ q → A q) → lv_has ls maxL (lv_args 0 av) →
      (∀ {H : Heap} {locs : List Loc} {pc : Nat} {ls : Array Slot} (u : gEx), decode cc pc = .ok (.return_, 1) → post u → va_P D gcl (w1 u) H → va_D A (w1 u) → va_S A s.heap H locs → W p l e rm s m args below meth c H locs 0 0 Q (F0 m pc ls [])) →
      W p l e rm s m args below meth c s.heap [] 0 0 Q (F0 m 0 ls [])) : Met l y (.code y cc maxL none :: lw_gd) rm (gPre D tys av ws sz) (va_Qv post (gB D (va_A ws sz) w1) (va_A ws sz)) 0 0 (va_A ws sz) := by
  refine Met.ofW (cc := cc) (maxL := maxL) (ret := none) hy rfl ?_
  intro p e s m args below meth c s₁ B hml hv
  obtain ⟨rfl, hsz, hP, hK, hD0, hN⟩ := hv
  subst hsz
  have hts : ∀ w ∈ lw_gd, w.before _ s = true := fun w h => atoms_spec (ws := .code y cc maxL none :: lw_gd) B.pre w (List.mem_cons_of_mem _ h)
  have hl := lv_entry av (n := maxL) hlen
  have hlocks := B.notSynchronized
  rw [lg_entry_eq]
  refine body B.exec B.bytes hts (findClass_of_methodNamed B.named) hml hN hK hP (hD0.self (sz := s.heap.size)) (fun q h => Or.inr h) hl ?_
  intro H locs pc ls u hd hp hP9 hD9 hS
  exact W.vret B.exec B.bytes B.returns (fun t ht hW => ⟨⟨u, rfl, hp, by rw [ht]; exact hP9, hD9⟩, hS.F ht⟩) hS.2.2 hd
theorem gOf_r {l : Launch} {y : MethodName} {cc : ByteArray} {maxL : Nat} {rm : Room} {D : va_G} {tys : List (ClassId × FieldType)} {av : List Value} {ws : va_W} {sz : Nat} {post : gEx → Prop} {w1 : gEx → va_W} {ra : gEx → Nat} {C : String} (hy : plainName y.cls = true) (hlen : (lg_sl av).length ≤ maxL)
    (body : ∀ {p : Program} {e : Env} {s : State} {m : MethodId} {args : Array Value} {below : List Frame} {meth : Method} {c : Code} {ls : Array Slot} {A : Nat → Prop} {Q : State → Prop}, p.tables.exec = Jvm.exec → c.code = cc → (∀ w ∈ lw_gd, w.before args s = true) → s.vm.findClass y.cls = some m.cls → c.maxLocals = maxL → gNw s → va_K D gcl tys s → va_P D gcl ws s.heap → va_D A ws → (∀ q, s.heap.size ≤ q → A q) → lv_has ls maxL (lv_args 0 av) →
      (∀ {H : Heap} {locs : List Loc} {pc : Nat} {ls : Array Slot} (r : Nat) (u : gEx), decode cc pc = .ok (.areturn, 1) → r = ra u ∧ post u → va_P D gcl (w1 u) H → va_D A (w1 u) → va_S A s.heap H locs → W p l e rm s m args below meth c H locs 0 0 Q (F0 m pc ls [.ref r])) →
      W p l e rm s m args below meth c s.heap [] 0 0 Q (F0 m 0 ls [])) : Met l y (.code y cc maxL (some (.object C)) :: lw_gd) rm (gPre D tys av ws sz) (va_Qr post (gBr D (va_A ws sz) w1 ra) (va_A ws sz)) 0 0 (va_A ws sz) := by
  refine Met.ofW (cc := cc) (maxL := maxL) (ret := (some (.object C))) hy rfl ?_
  intro p e s m args below meth c s₁ B hml hv
  obtain ⟨rfl, hsz, hP, hK, hD0, hN⟩ := hv
  subst hsz
  have hts : ∀ w ∈ lw_gd, w.before _ s = true := fun w h => atoms_spec (ws := .code y cc maxL (some (.object C)) :: lw_gd) B.pre w (List.mem_cons_of_mem _ h)
  have hl := lv_entry av (n := maxL) hlen
  have hlocks := B.notSynchronized
  rw [lg_entry_eq]
  refine body B.exec B.bytes hts (findClass_of_methodNamed B.named) hml hN hK hP (hD0.self (sz := s.heap.size)) (fun q h => Or.inr h) hl ?_
  intro H locs pc ls r u hd hp hP9 hD9 hS
  exact W.aret (v := .ref r) B.exec B.bytes B.returns (Or.inl ⟨_, rfl⟩) (Or.inr ⟨_, rfl⟩) (fun t ht hW => ⟨⟨u, r, rfl, hp.2, hp.1, by rw [ht]; exact hP9, hD9⟩, hS.F ht⟩) hS.2.2 hd
end
