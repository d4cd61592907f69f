section
/-! words that hold on tables: one list for every method -/
def lw_gd : List Cond := lw_tbl.filter goodWord
theorem g_mem {c : Cond} (h : c ∈ lw_tbl) (hg : goodWord c = true) : c ∈ lw_gd := List.mem_filter.mpr ⟨h, hg⟩
theorem g_good {c : Cond} (hc : c ∈ lw_gd) : GoodIn lw_gd (c :: lw_gd) := by
  intro w h
  have h1 : w ∈ lw_gd := by
    rcases List.mem_cons.mp h with h | h
    · rw [h]; exact hc
    · exact h
  exact ⟨h1, good_of_word (List.mem_filter.mp h1).2⟩
/-! words of nest mates: they don't keep by themselves, a method's start carries them -/
def g_isN : Cond → Bool
  | .fieldLinkNest .. => true
  | .methodLinkNest .. => true
  | _ => false
def lw_nw : List Cond := tables_1.filter g_isN
def gNw (U : State) : Prop := ∀ w ∈ lw_nw, va_Nw w U
theorem g_nmem {c : Cond} (h : c ∈ tables_1) (hg : g_isN c = true) : c ∈ lw_nw := List.mem_filter.mpr ⟨h, hg⟩
theorem gNw.of {args : Array Value} {s : State} (h : ∀ w ∈ lw_tbl, w.before args s = true) : gNw s := by
  intro w hw
  obtain ⟨h1, h2⟩ := List.mem_filter.mp hw
  have h3 := h w (List.mem_append_right _ h1)
  cases w <;> first | (simp [g_isN] at h2; done) | exact va_Nw.of rfl h3
theorem gNw.warm {s U : State} (hW : s.WarmedH U.vm) (h : gNw s) : gNw U := by
  intro w hw
  have h2 := (List.mem_filter.mp hw).2
  have h3 := h w hw
  cases w <;> first | (simp [g_isN] at h2; done) | exact va_Nw.warmF hW h3 | exact va_Nw.warmM hW h3
abbrev gcl : List vw_C := [(RX0, TX0, 7), (RX1, TX1, 10), (RX2, TX2, 8), (RX3, TX3, 10), (RX4, TX4, 8), (RX5, TX5, 7), (RX6, TX6, 4), (RX7, TX7, 11), (RX8, TX8, 1), (RX9, TX9, 2), (RX10, TX10, 8), (RX11, TX11, 14), (RX12, TX12, 73)]
def gPre (D : va_G) (tys : List (ClassId × FieldType)) (av : List Value) (ws : va_W) (sz : Nat) : Array Value → State → Prop := va_Pc av (fun U => U.heap.size = sz ∧ va_P D gcl ws U.heap ∧ va_K D gcl tys U ∧ va_D (fun _ => True) ws ∧ gNw U)
/-- what a method tells of its end beside the answer: addresses, rows, numbers -/
abbrev gEx : Type := (Nat → Nat) × (Nat → Nat → Int32) × (Nat → Nat → Int64) × (Nat → Int32) × (Nat → Int64)
def gB (D : va_G) (A : Nat → Prop) (w1 : gEx → va_W) : gEx → State → Prop := fun u t => va_P D gcl (w1 u) t.heap ∧ va_D A (w1 u)
theorem gblind {D : va_G} {tys : List (ClassId × FieldType)} {av : List Value} {ws : va_W} {sz : Nat} : FrameBlind (gPre D tys av ws sz) := by
  intro a U g mk q
  obtain ⟨q0, q1, qP, qK, qD, qN⟩ := q
  exact ⟨q0, q1, qP, va_K.moved (u := U) (U := U.calling g mk a) (Vm.Alike.refl U.vm) qK, qD, gNw.warm (s := U) (U := U.calling g mk a) (State.WarmedH.refl U) qN⟩
theorem gpreS {D : va_G} {tys : List (ClassId × FieldType)} {av : List Value} {wc : va_W} {s : State} {H : Heap} {A : Nat → Prop} (hP : va_P D gcl wc H) (hK : va_K D gcl tys s) (hD : va_D A wc) (hN : gNw s) : PreS s H (gPre D tys av wc H.size) av :=
  ⟨gblind, fun U hU hW => ⟨rfl, by rw [hU], by rw [hU]; exact hP, va_K.moved hW.alike hK, hD.weaken (fun _ _ _ _ => trivial), gNw.warm hW hN⟩⟩
theorem gin {i : Int32} {n : Nat} (h : (decide (i < 0) || decide (n ≤ i.toNatClampNeg)) = false) : vp_in i n := by
  intro q
  rcases q with q | q <;> simp [q] at h
theorem g_psub {D : va_G} {cl : List vw_C} {ws wc : va_W} {H : Heap} (hP : va_P D cl ws H) (is : List Nat) (hC : is.map (fun i => ws[i]?) = wc.map some) : va_P D cl wc H := by
  intro k q hk
  have h1 : (is.map (fun i => ws[i]?))[k]? = some (some q) := by rw [hC, List.getElem?_map, hk]; rfl
  rw [List.getElem?_map] at h1
  cases hi : is[k]? with
  | none => rw [hi] at h1; cases h1
  | some i => rw [hi] at h1; exact hP i q (Option.some.inj h1)
theorem gcwB {R : Room} {s : State} {args : Array Value} {own : String} {index n : Nat} {y : MethodName} {bytes : ByteArray} {maxL : Nat} {ret : Option FieldType} {rm : Room} (hts : ∀ w ∈ lw_gd, w.before args s = true) (hc : Cond.code y bytes maxL ret ∈ lw_gd) (hi : Cond.initialized y.cls ∈ lw_gd) (hl : Cond.methodLink own index y ∈ lw_gd)
    (hd : y.cls ≠ "java/lang/invoke/MethodHandle" ∧ y.cls ≠ "java/lang/invoke/VarHandle" ∧ (parseMethodDescriptor y.desc).map (fun d => d.parameters.length) = some n) (hR : rm.frames + 1 ≤ R.frames ∧ 8 + (maxL + 11) + rm.locals ≤ R.locals) :
    CallB R s args own index y bytes maxL ret (.code y bytes maxL ret :: lw_gd) rm rm.cells rm.slots n := callB_of n hts (g_good hc) rfl rfl rfl (hts _ hi) (hts _ hl) hd hR
section GW
variable {p : Program} {l : Launch} {e : Env} {R : Room} {s : State} {m : MethodId} {args : Array Value} {below : List Frame} {meth : Method} {c : Code} {H : Heap} {locs : List Loc} {cells slots : Nat} {Q : State → Prop}
variable {cc : ByteArray} {pc : Nat} {ls : Array Slot} {rest st0 : List Value} {D : va_G} {A A0 : Nat → Prop} {a : Nat} {tys : List (ClassId × FieldType)} {ws wc wr : va_W} {H0 : Heap} {mc ms : Nat} {av : Array Value} {w1 : gEx → va_W}
theorem gI {x y : Int32} (h : x = y) (k : W p l e R s m args below meth c H locs cells slots Q (F0 m pc ls (.int y :: rest))) : W p l e R s m args below meth c H locs cells slots Q (F0 m pc ls (.int x :: rest)) := h ▸ k
theorem gL {x y : Int64} (h : x = y) (k : W p l e R s m args below meth c H locs cells slots Q (F0 m pc ls (.long y :: rest))) : W p l e R s m args below meth c H locs cells slots Q (F0 m pc ls (.long x :: rest)) := h ▸ k
end GW
/-! numbers -/
theorem g_k1 {c : Cond} (h : c ∈ tables_1_1) : c ∈ tables_1 := List.mem_append_left _ h
theorem g_k2 {c : Cond} (h : c ∈ tables_1_2) : c ∈ tables_1 := List.mem_append_right _ (List.mem_append_left _ h)
theorem g_k3 {c : Cond} (h : c ∈ tables_1_3) : c ∈ tables_1 := List.mem_append_right _ (List.mem_append_right _ (List.mem_append_left _ h))
theorem g_k4 {c : Cond} (h : c ∈ tables_1_4) : c ∈ tables_1 := List.mem_append_right _ (List.mem_append_right _ (List.mem_append_right _ (List.mem_append_left _ h)))
theorem g_k5 {c : Cond} (h : c ∈ tables_1_5) : c ∈ tables_1 := List.mem_append_right _ (List.mem_append_right _ (List.mem_append_right _ (List.mem_append_right _ (List.mem_append_left _ h))))
theorem g_k6 {c : Cond} (h : c ∈ tables_1_6) : c ∈ tables_1 := List.mem_append_right _ (List.mem_append_right _ (List.mem_append_right _ (List.mem_append_right _ (List.mem_append_right _ (List.mem_append_left _ h)))))
theorem lw_sub {L ws : List Cond} (hL : ∀ c ∈ L, c ∈ tables_1) (is : List Nat) (h : ws.map some = is.map (fun j => L[j]?)) (hg : ws.all goodWord = true) : ∀ w ∈ ws, w ∈ lw_gd := by
  intro w hw
  have h1 : some w ∈ ws.map some := List.mem_map.mpr ⟨w, hw, rfl⟩
  rw [h] at h1
  obtain ⟨j, _, hj⟩ := List.mem_map.mp h1
  exact g_mem (List.mem_append_right _ (hL w (List.mem_of_getElem? hj))) (List.all_eq_true.mp hg w hw)
theorem iX1 : ∀ w ∈ u_ws RX1 TX1 10, w ∈ lw_gd := lw_sub (fun _ h => g_k1 h) [146, 148, 150, 152, 154, 156, 158, 160, 162, 164] (by decide +kernel) (by decide +kernel)
theorem iX3 : ∀ w ∈ u_ws RX3 TX3 10, w ∈ lw_gd := lw_sub (fun _ h => g_k2 h) [120, 122, 124, 126, 128, 130, 132, 134, 136, 138] (by decide +kernel) (by decide +kernel)
theorem iX8 : ∀ w ∈ u_ws RX8 TX8 1, w ∈ lw_gd := lw_sub (fun _ h => g_k1 h) [63] (by decide +kernel) (by decide +kernel)
theorem iX10 : ∀ w ∈ u_ws RX10 TX10 8, w ∈ lw_gd := lw_sub (fun _ h => g_k1 h) [224, 226, 228, 230, 232, 234, 236, 238] (by decide +kernel) (by decide +kernel)
end
section
/-! numbers as whole numbers: what an instruction leaves, told by toInt -/
theorem n_rng (x : Int32) : -2147483648 ≤ x.toInt ∧ x.toInt ≤ 2147483647 := ⟨x.le_toInt, by have := x.toInt_lt; omega⟩
theorem n_rngL (x : Int64) : -9223372036854775808 ≤ x.toInt ∧ x.toInt ≤ 9223372036854775807 := ⟨x.le_toInt, by have := x.toInt_lt; omega⟩
theorem n_bm {a : Int} (h1 : -2147483648 ≤ a) (h2 : a ≤ 2147483647) : a.bmod (2 ^ 32) = a := Int.bmod_eq_of_le (by omega) (by omega)
theorem n_bmL {a : Int} (h1 : -9223372036854775808 ≤ a) (h2 : a ≤ 9223372036854775807) : a.bmod (2 ^ 64) = a := Int.bmod_eq_of_le (by omega) (by omega)
theorem n_add {x y : Int32} {a b : Int} (hx : x.toInt = a) (hy : y.toInt = b) (h1 : -2147483648 ≤ a + b) (h2 : a + b ≤ 2147483647) : (x + y).toInt = a + b := by
  rw [Int32.toInt_add, hx, hy]; exact n_bm h1 h2
theorem n_sub {x y : Int32} {a b : Int} (hx : x.toInt = a) (hy : y.toInt = b) (h1 : -2147483648 ≤ a - b) (h2 : a - b ≤ 2147483647) : (x - y).toInt = a - b := by
  rw [Int32.toInt_sub, hx, hy]; exact n_bm h1 h2
theorem n_mul {x y : Int32} {a b : Int} (hx : x.toInt = a) (hy : y.toInt = b) (h1 : -2147483648 ≤ a * b) (h2 : a * b ≤ 2147483647) : (x * y).toInt = a * b := by
  rw [Int32.toInt_mul, hx, hy]; exact n_bm h1 h2
theorem n_subL {x y : Int64} {a b : Int} (hx : x.toInt = a) (hy : y.toInt = b) (h1 : -9223372036854775808 ≤ a - b) (h2 : a - b ≤ 9223372036854775807) : (x - y).toInt = a - b := by
  rw [Int64.toInt_sub, hx, hy]; exact n_bmL h1 h2
theorem n_mulL {x y : Int64} {a b : Int} (hx : x.toInt = a) (hy : y.toInt = b) (h1 : -9223372036854775808 ≤ a * b) (h2 : a * b ≤ 9223372036854775807) : (x * y).toInt = a * b := by
  rw [Int64.toInt_mul, hx, hy]; exact n_bmL h1 h2
theorem n_in {i : Int32} {n : Nat} {a : Int} (hi : i.toInt = a) (h1 : 0 ≤ a) (h2 : a < n) : vp_in i n := vp_in_iff.mpr ⟨by omega, by omega⟩
theorem n_upd {f : Nat → Int32} {k : Nat} {x : Int32} {lo hi : Int} (hf : ∀ j, lo ≤ (f j).toInt ∧ (f j).toInt ≤ hi) (h1 : lo ≤ x.toInt) (h2 : x.toInt ≤ hi) : ∀ j, lo ≤ (upd f k x j).toInt ∧ (upd f k x j).toInt ≤ hi := by
  intro j
  unfold upd
  split
  · exact ⟨h1, h2⟩
  · exact hf j
theorem n_max {x y z : Int32} {v w : Int} (hv : x.toInt = v) (hw : y.toInt = w) (h : z = if x < y then y else x) : (z.toInt = v ∧ w ≤ v) ∨ (z.toInt = w ∧ v < w) := by
  by_cases q : x < y
  · rw [if_pos q] at h; rw [Int32.lt_iff_toInt_lt] at q; rw [h]; omega
  · rw [if_neg q] at h; rw [Int32.lt_iff_toInt_lt] at q; rw [h]; omega
theorem n_maxL {x y z : Int64} {v w : Int} (hv : x.toInt = v) (hw : y.toInt = w) (h : z = if y < x then x else y) : (z.toInt = v ∧ w ≤ v) ∨ (z.toInt = w ∧ v ≤ w) := by
  by_cases q : y < x
  · rw [if_pos q] at h; rw [Int64.lt_iff_toInt_lt] at q; rw [h]; omega
  · rw [if_neg q] at h; rw [Int64.lt_iff_toInt_lt] at q; rw [h]; omega
theorem n_minL {x y z : Int64} {v w : Int} (hv : x.toInt = v) (hw : y.toInt = w) (h : z = if y < x then y else x) : (z.toInt = v ∧ v ≤ w) ∨ (z.toInt = w ∧ w ≤ v) := by
  by_cases q : y < x
  · rw [if_pos q] at h; rw [Int64.lt_iff_toInt_lt] at q; rw [h]; omega
  · rw [if_neg q] at h; rw [Int64.lt_iff_toInt_lt] at q; rw [h]; omega
theorem n_mulb {a b A B : Int} (hA : 0 ≤ A) (hB : 0 ≤ B) (ha : -A ≤ a ∧ a ≤ A) (hb : -B ≤ b ∧ b ≤ B) : -(A * B) ≤ a * b ∧ a * b ≤ A * B := by
  have h1 : a.natAbs ≤ A.natAbs := by omega
  have h2 : b.natAbs ≤ B.natAbs := by omega
  have h3 : (a * b).natAbs ≤ (A * B).natAbs := by
    rw [Int.natAbs_mul, Int.natAbs_mul]; exact Nat.mul_le_mul h1 h2
  have h4 : 0 ≤ A * B := Int.mul_nonneg hA hB
  omega
section G2
variable {p : Program} {l : Launch} {e : Env} {R : Room} {s : State} {m : MethodId} {args : Array Value} {below : List Frame} {meth : Method} {c : Code} {H : Heap} {locs : List Loc} {cells slots : Nat} {Q : State → Prop}
variable {cc : ByteArray} {pc : Nat} {ls : Array Slot} {rest : List Value} {D : va_G} {A A0 : Nat → Prop} {a : Nat} {tys : List (ClassId × FieldType)} {ws : va_W} {H0 : Heap}
theorem b_icmp_lt (hexec : p.tables.exec = Jvm.exec) (hb : c.code = cc) {x y : Int32} {v w : Int} (hv : x.toInt = v) (hw : y.toInt = w) {off : Int} {tgt : Nat} (hdg : decode cc pc = .ok (.if_icmp .lt off, 3)) (ht : (pc : Int) + off = (tgt : Int))
    (kt : v < w → W p l e R s m args below meth c H locs cells slots Q (F0 m tgt ls rest)) (kf : v ≥ w → W p l e R s m args below meth c H locs cells slots Q (F0 m (pc + 3) ls rest)) : W p l e R s m args below meth c H locs cells slots Q (F0 m pc ls (.int y :: .int x :: rest)) :=
  lv_icmp_lt hexec hb hdg ht (fun h => kt (by rw [← hv, ← hw]; exact Int32.lt_iff_toInt_lt.mp h)) (fun h => kf (by rw [← hv, ← hw]; exact Int.not_lt.mp (fun q => h (Int32.lt_iff_toInt_lt.mpr q))))
theorem b_if_lt (hexec : p.tables.exec = Jvm.exec) (hb : c.code = cc) {x : Int32} {v : Int} (hv : x.toInt = v) {off : Int} {tgt : Nat} (hdg : decode cc pc = .ok (.ifCond .lt off, 3)) (ht : (pc : Int) + off = (tgt : Int))
    (kt : v < 0 → W p l e R s m args below meth c H locs cells slots Q (F0 m tgt ls rest)) (kf : v ≥ 0 → W p l e R s m args below meth c H locs cells slots Q (F0 m (pc + 3) ls rest)) : W p l e R s m args below meth c H locs cells slots Q (F0 m pc ls (.int x :: rest)) := by
  have hw : (0 : Int32).toInt = 0 := by decide
  exact lv_if_lt hexec hb hdg ht (fun h => kt (by rw [← hv, ← hw]; exact Int32.lt_iff_toInt_lt.mp h)) (fun h => kf (by rw [← hv, ← hw]; exact Int.not_lt.mp (fun q => h (Int32.lt_iff_toInt_lt.mpr q))))
theorem b_icmp_ge (hexec : p.tables.exec = Jvm.exec) (hb : c.code = cc) {x y : Int32} {v w : Int} (hv : x.toInt = v) (hw : y.toInt = w) {off : Int} {tgt : Nat} (hdg : decode cc pc = .ok (.if_icmp .ge off, 3)) (ht : (pc : Int) + off = (tgt : Int))
    (kt : v ≥ w → W p l e R s m args below meth c H locs cells slots Q (F0 m tgt ls rest)) (kf : v < w → W p l e R s m args below meth c H locs cells slots Q (F0 m (pc + 3) ls rest)) : W p l e R s m args below meth c H locs cells slots Q (F0 m pc ls (.int y :: .int x :: rest)) :=
  lv_icmp_ge hexec hb hdg ht (fun h => kt (by rw [← hv, ← hw]; exact Int32.le_iff_toInt_le.mp h)) (fun h => kf (by rw [← hv, ← hw]; exact Int.not_le.mp (fun q => h (Int32.le_iff_toInt_le.mpr q))))
theorem b_lcmp_ge (hexec : p.tables.exec = Jvm.exec) (hb : c.code = cc) {x y : Int64} {v w : Int} (hv : x.toInt = v) (hw : y.toInt = w) {off : Int} {tgt : Nat} (hd0 : decode cc pc = .ok (.lcmp, 1)) (hdg : decode cc (pc + 1) = .ok (.ifCond .ge off, 3)) (ht : ((pc + 1 : Nat) : Int) + off = (tgt : Int))
    (kt : v ≥ w → W p l e R s m args below meth c H locs cells slots Q (F0 m tgt ls rest)) (kf : v < w → W p l e R s m args below meth c H locs cells slots Q (F0 m (pc + 1 + 3) ls rest)) : W p l e R s m args below meth c H locs cells slots Q (F0 m pc ls (.long y :: .long x :: rest)) := by
  refine W.lcmp hexec hb hd0 ?_
  exact lv_if_ge hexec hb hdg ht (fun h => kt (by have h := ((lg_cmp_ge x y).mp h); rw [← hv, ← hw]; exact Int64.le_iff_toInt_le.mp h)) (fun h => kf (by have h := (mt (lg_cmp_ge x y).mpr h); rw [← hv, ← hw]; exact Int.not_le.mp (fun q => h (Int64.le_iff_toInt_le.mpr q))))
theorem b_icmp_gt (hexec : p.tables.exec = Jvm.exec) (hb : c.code = cc) {x y : Int32} {v w : Int} (hv : x.toInt = v) (hw : y.toInt = w) {off : Int} {tgt : Nat} (hdg : decode cc pc = .ok (.if_icmp .gt off, 3)) (ht : (pc : Int) + off = (tgt : Int))
    (kt : v > w → W p l e R s m args below meth c H locs cells slots Q (F0 m tgt ls rest)) (kf : v ≤ w → W p l e R s m args below meth c H locs cells slots Q (F0 m (pc + 3) ls rest)) : W p l e R s m args below meth c H locs cells slots Q (F0 m pc ls (.int y :: .int x :: rest)) :=
  lv_icmp_gt hexec hb hdg ht (fun h => kt (by rw [← hv, ← hw]; exact Int32.lt_iff_toInt_lt.mp h)) (fun h => kf (by rw [← hv, ← hw]; exact Int.not_lt.mp (fun q => h (Int32.lt_iff_toInt_lt.mpr q))))
theorem b_lcmp_gt (hexec : p.tables.exec = Jvm.exec) (hb : c.code = cc) {x y : Int64} {v w : Int} (hv : x.toInt = v) (hw : y.toInt = w) {off : Int} {tgt : Nat} (hd0 : decode cc pc = .ok (.lcmp, 1)) (hdg : decode cc (pc + 1) = .ok (.ifCond .gt off, 3)) (ht : ((pc + 1 : Nat) : Int) + off = (tgt : Int))
    (kt : v > w → W p l e R s m args below meth c H locs cells slots Q (F0 m tgt ls rest)) (kf : v ≤ w → W p l e R s m args below meth c H locs cells slots Q (F0 m (pc + 1 + 3) ls rest)) : W p l e R s m args below meth c H locs cells slots Q (F0 m pc ls (.long y :: .long x :: rest)) := by
  refine W.lcmp hexec hb hd0 ?_
  exact lv_if_gt hexec hb hdg ht (fun h => kt (by have h := ((lg_cmp_gt x y).mp h); rw [← hv, ← hw]; exact Int64.lt_iff_toInt_lt.mp h)) (fun h => kf (by have h := (mt (lg_cmp_gt x y).mpr h); rw [← hv, ← hw]; exact Int.not_lt.mp (fun q => h (Int64.lt_iff_toInt_lt.mpr q))))
theorem b_lcmp_le (hexec : p.tables.exec = Jvm.exec) (hb : c.code = cc) {x y : Int64} {v w : Int} (hv : x.toInt = v) (hw : y.toInt = w) {off : Int} {tgt : Nat} (hd0 : decode cc pc = .ok (.lcmp, 1)) (hdg : decode cc (pc + 1) = .ok (.ifCond .le off, 3)) (ht : ((pc + 1 : Nat) : Int) + off = (tgt : Int))
    (kt : v ≤ w → W p l e R s m args below meth c H locs cells slots Q (F0 m tgt ls rest)) (kf : v > w → W p l e R s m args below meth c H locs cells slots Q (F0 m (pc + 1 + 3) ls rest)) : W p l e R s m args below meth c H locs cells slots Q (F0 m pc ls (.long y :: .long x :: rest)) := by
  refine W.lcmp hexec hb hd0 ?_
  exact lv_if_le hexec hb hdg ht (fun h => kt (by have h := ((lg_cmp_le x y).mp h); rw [← hv, ← hw]; exact Int64.le_iff_toInt_le.mp h)) (fun h => kf (by have h := (mt (lg_cmp_le x y).mpr h); rw [← hv, ← hw]; exact Int.not_le.mp (fun q => h (Int64.le_iff_toInt_le.mpr q))))
theorem b_iadd (hexec : p.tables.exec = Jvm.exec) (hb : c.code = cc) {x y : Int32} {v w : Int} (hv : x.toInt = v) (hw : y.toInt = w) (h1 : -2147483648 ≤ v + w) (h2 : v + w ≤ 2147483647) (hdg : decode cc pc = .ok (.iadd, 1)) (k : ∀ z : Int32, z.toInt = v + w → W p l e R s m args below meth c H locs cells slots Q (F0 m (pc + 1) ls (.int z :: rest))) : W p l e R s m args below meth c H locs cells slots Q (F0 m pc ls (.int y :: .int x :: rest)) := lv_iadd hexec hb hdg (k _ (n_add hv hw h1 h2))
theorem b_isub (hexec : p.tables.exec = Jvm.exec) (hb : c.code = cc) {x y : Int32} {v w : Int} (hv : x.toInt = v) (hw : y.toInt = w) (h1 : -2147483648 ≤ v - w) (h2 : v - w ≤ 2147483647) (hdg : decode cc pc = .ok (.isub, 1)) (k : ∀ z : Int32, z.toInt = v - w → W p l e R s m args below meth c H locs cells slots Q (F0 m (pc + 1) ls (.int z :: rest))) : W p l e R s m args below meth c H locs cells slots Q (F0 m pc ls (.int y :: .int x :: rest)) := lv_isub hexec hb hdg (k _ (n_sub hv hw h1 h2))
theorem b_imul (hexec : p.tables.exec = Jvm.exec) (hb : c.code = cc) {x y : Int32} {v w : Int} (hv : x.toInt = v) (hw : y.toInt = w) (h1 : -2147483648 ≤ v * w) (h2 : v * w ≤ 2147483647) (hdg : decode cc pc = .ok (.imul, 1)) (k : ∀ z : Int32, z.toInt = v * w → W p l e R s m args below meth c H locs cells slots Q (F0 m (pc + 1) ls (.int z :: rest))) : W p l e R s m args below meth c H locs cells slots Q (F0 m pc ls (.int y :: .int x :: rest)) := lv_imul hexec hb hdg (k _ (n_mul hv hw h1 h2))
theorem b_i2l (hexec : p.tables.exec = Jvm.exec) (hb : c.code = cc) {x : Int32} {v : Int} (hv : x.toInt = v) (hdg : decode cc pc = .ok (.i2l, 1)) (k : ∀ z : Int64, z.toInt = v → W p l e R s m args below meth c H locs cells slots Q (F0 m (pc + 1) ls (.long z :: rest))) : W p l e R s m args below meth c H locs cells slots Q (F0 m pc ls (.int x :: rest)) := lv_i2l hexec hb hdg rfl (k _ (by rw [Int32.toInt_toInt64]; exact hv))
theorem b_iinc (hexec : p.tables.exec = Jvm.exec) (hb : c.code = cc) {i nL k : Nat} {n : Int} {x : Int32} {v w : Int} {lv : List (Nat × Value)} (hdg : decode cc pc = .ok (.iinc i n, 3)) (h : lv_has ls nL lv) (hk : lv[k]? = some (i, .int x)) (hv : x.toInt = v) (hw : (Int32.ofInt n).toInt = w) (h1 : -2147483648 ≤ v + w) (h2 : v + w ≤ 2147483647) (hn : i < nL)
    (kk : ∀ z : Int32, z.toInt = v + w → ∀ ls' : Array Slot, lv_has ls' nL ((i, Value.int z) :: lv.filter (fun q => !(q.1 == i) && !(q.1 + 1 == i && q.2.category == 2))) → W p l e R s m args below meth c H locs cells slots Q (F0 m (pc + 3) ls' rest)) : W p l e R s m args below meth c H locs cells slots Q (F0 m pc ls rest) :=
  lv_iinc hexec hb hdg h hk rfl hn rfl (fun ls' hl' => kk _ (n_add hv hw h1 h2) ls' hl')
end G2
/-! a method's body, its end told once -/
theorem gOf_i {l : Launch} {y : MethodName} {cc : ByteArray} {maxL : Nat} {rm : Room} {D : va_G} {tys : List (ClassId × FieldType)} {av : List Value} {ws : va_W} {sz : Nat} {post : Int32 → gEx → Prop} {w1 : gEx → va_W} (hy : plainName y.cls = true) (hlen : (lg_sl av).length ≤ maxL)
    (body : ∀ {p : Program} {e : Env} {s : State} {m : MethodId} {args : Array Value} {below : List Frame} {meth : Method} {c : Code} {ls : Array Slot} {A : Nat → Prop} {Q : State → Prop}, p.tables.exec = Jvm.exec → c.code = cc → (∀ w ∈ lw_gd, w.before args s = true) → s.vm.findClass y.cls = some m.cls → c.maxLocals = maxL → gNw s → va_K D gcl tys s → va_P D gcl ws s.heap → va_D A ws → (∀ q, s.heap.size ≤ q → A q) → lv_has ls maxL (lv_args 0 av) →
      (∀ {H : Heap} {locs : List Loc} {pc : Nat} {ls : Array Slot} (r : Int32) (u : gEx), decode cc pc = .ok (.ireturn, 1) → post r u → va_P D gcl (w1 u) H → va_D A (w1 u) → va_S A s.heap H locs → W p l e rm s m args below meth c H locs 0 0 Q (F0 m pc ls [.int r])) →
      W p l e rm s m args below meth c s.heap [] 0 0 Q (F0 m 0 ls [])) : Met l y (.code y cc maxL (some .int) :: lw_gd) rm (gPre D tys av ws sz) (va_Qi post (gB D (va_A ws sz) w1) (va_A ws sz)) 0 0 (va_A ws sz) := by
  refine Met.ofW (cc := cc) (maxL := maxL) (ret := (some .int)) hy rfl ?_
  intro p e s m args below meth c s₁ B hml hv
  obtain ⟨rfl, hsz, hP, hK, hD0, hN⟩ := hv
  subst hsz
  have hts : ∀ w ∈ lw_gd, w.before _ s = true := fun w h => atoms_spec (ws := .code y cc maxL (some .int) :: lw_gd) B.pre w (List.mem_cons_of_mem _ h)
  have hl := lv_entry av (n := maxL) hlen
  have hlocks := B.notSynchronized
  rw [lg_entry_eq]
  refine body B.exec B.bytes hts (findClass_of_methodNamed B.named) hml hN hK hP (hD0.self (sz := s.heap.size)) (fun q h => Or.inr h) hl ?_
  intro H locs pc ls r u hd hp hP9 hD9 hS
  exact W.iret (v := r) B.exec B.bytes B.returns (fun t ht hW => ⟨⟨r, u, rfl, hp, by rw [ht]; exact hP9, hD9⟩, hS.F ht⟩) hS.2.2 hd
theorem gOf_l {l : Launch} {y : MethodName} {cc : ByteArray} {maxL : Nat} {rm : Room} {D : va_G} {tys : List (ClassId × FieldType)} {av : List Value} {ws : va_W} {sz : Nat} {post : Int64 → gEx → Prop} {w1 : gEx → va_W} (hy : plainName y.cls = true) (hlen : (lg_sl av).length ≤ maxL)
    (body : ∀ {p : Program} {e : Env} {s : State} {m : MethodId} {args : Array Value} {below : List Frame} {meth : Method} {c : Code} {ls : Array Slot} {A : Nat → Prop} {Q : State → Prop}, p.tables.exec = Jvm.exec → c.code = cc → (∀ w ∈ lw_gd, w.before args s = true) → s.vm.findClass y.cls = some m.cls → c.maxLocals = maxL → gNw s → va_K D gcl tys s → va_P D gcl ws s.heap → va_D A ws → (∀ q, s.heap.size ≤ q → A q) → lv_has ls maxL (lv_args 0 av) →
      (∀ {H : Heap} {locs : List Loc} {pc : Nat} {ls : Array Slot} (r : Int64) (u : gEx), decode cc pc = .ok (.lreturn, 1) → post r u → va_P D gcl (w1 u) H → va_D A (w1 u) → va_S A s.heap H locs → W p l e rm s m args below meth c H locs 0 0 Q (F0 m pc ls [.long r])) →
      W p l e rm s m args below meth c s.heap [] 0 0 Q (F0 m 0 ls [])) : Met l y (.code y cc maxL (some .long) :: lw_gd) rm (gPre D tys av ws sz) (va_Ql post (gB D (va_A ws sz) w1) (va_A ws sz)) 0 0 (va_A ws sz) := by
  refine Met.ofW (cc := cc) (maxL := maxL) (ret := (some .long)) hy rfl ?_
  intro p e s m args below meth c s₁ B hml hv
  obtain ⟨rfl, hsz, hP, hK, hD0, hN⟩ := hv
  subst hsz
  have hts : ∀ w ∈ lw_gd, w.before _ s = true := fun w h => atoms_spec (ws := .code y cc maxL (some .long) :: lw_gd) B.pre w (List.mem_cons_of_mem _ h)
  have hl := lv_entry av (n := maxL) hlen
  have hlocks := B.notSynchronized
  rw [lg_entry_eq]
  refine body B.exec B.bytes hts (findClass_of_methodNamed B.named) hml hN hK hP (hD0.self (sz := s.heap.size)) (fun q h => Or.inr h) hl ?_
  intro H locs pc ls r u hd hp hP9 hD9 hS
  exact W.lret (v := r) B.exec B.bytes B.returns (fun t ht hW => ⟨⟨r, u, rfl, hp, by rw [ht]; exact hP9, hD9⟩, hS.F ht⟩) hS.2.2 hd
theorem gOf_v {l : Launch} {y : MethodName} {cc : ByteArray} {maxL : Nat} {rm : Room} {D : va_G} {tys : List (ClassId × FieldType)} {av : List Value} {ws : va_W} {sz : Nat} {post : gEx → Prop} {w1 : gEx → va_W} (hy : plainName y.cls = true) (hlen : (lg_sl av).length ≤ maxL)
    (body : ∀ {p : Program} {e : Env} {s : State} {m : MethodId} {args : Array Value} {below : List Frame} {meth : Method} {c : Code} {ls : Array Slot} {A : Nat → Prop} {Q : State → Prop}, p.tables.exec = Jvm.exec → c.code = cc → (∀ w ∈ lw_gd, w.before args s = true) → s.vm.findClass y.cls = some m.cls → c.maxLocals = maxL → gNw s → va_K D gcl tys s → va_P D gcl ws s.heap → va_D A ws → (∀ q, s.heap.size ≤ q → A q) → lv_has ls maxL (lv_args 0 av) →
      (∀ {H : Heap} {locs : List Loc} {pc : Nat} {ls : Array Slot} (u : gEx), decode cc pc = .ok (.return_, 1) → post u → va_P D gcl (w1 u) H → va_D A (w1 u) → va_S A s.heap H locs → W p l e rm s m args below meth c H locs 0 0 Q (F0 m pc ls [])) →
      W p l e rm s m args below meth c s.heap [] 0 0 Q (F0 m 0 ls [])) : Met l y (.code y cc maxL none :: lw_gd) rm (gPre D tys av ws sz) (va_Qv post (gB D (va_A ws sz) w1) (va_A ws sz)) 0 0 (va_A ws sz) := by
  refine Met.ofW (cc := cc) (maxL := maxL) (ret := none) hy rfl ?_
  intro p e s m args below meth c s₁ B hml hv
  obtain ⟨rfl, hsz, hP, hK, hD0, hN⟩ := hv
  subst hsz
  have hts : ∀ w ∈ lw_gd, w.before _ s = true := fun w h => atoms_spec (ws := .code y cc maxL none :: lw_gd) B.pre w (List.mem_cons_of_mem _ h)
  have hl := lv_entry av (n := maxL) hlen
  have hlocks := B.notSynchronized
  rw [lg_entry_eq]
  refine body B.exec B.bytes hts (findClass_of_methodNamed B.named) hml hN hK hP (hD0.self (sz := s.heap.size)) (fun q h => Or.inr h) hl ?_
  intro H locs pc ls u hd hp hP9 hD9 hS
  exact W.vret B.exec B.bytes B.returns (fun t ht hW => ⟨⟨u, rfl, hp, by rw [ht]; exact hP9, hD9⟩, hS.F ht⟩) hS.2.2 hd
end
