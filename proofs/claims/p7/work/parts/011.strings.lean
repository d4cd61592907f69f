/-! string constants: what every start of a method that reads words knows of them -/
def lenS : List Nat := [5, 3, 4, 5, 6, 6, 4, 3, 3, 4, 3, 3, 3, 2, 5]
def bytS : List (List Int32) := [[104, 111, 117, 115, 101], [114, 111, 119], [119, 111, 114, 100], [119, 111, 114, 116, 104], [115, 101, 110, 100, 101, 114], [115, 113, 117, 97, 114, 101], [112, 101, 97, 107], [109, 105, 110], [109, 97, 120], [119, 104, 101, 110], [110, 111, 116], [97, 108, 108], [97, 110, 100], [111, 114], [108, 105, 109, 105, 116]]
def idxS : List Nat := [107, 115, 129, 137, 246, 248, 250, 252, 257, 199, 227, 235, 225, 217, 151]
def txS : List String := ["house", "row", "word", "worth", "sender", "square", "peak", "min", "max", "when", "not", "all", "and", "or", "limit"]
theorem s_len {i : Nat} (hi : i < 15) : (Int32.ofNat (lenS.getD i 0)).toInt = ((lenS.getD i 0 : Nat) : Int) ∧ lenS.getD i 0 ≤ 6 := by
  have h : ∀ i : Nat, i < 15 → (Int32.ofNat (lenS.getD i 0)).toInt = ((lenS.getD i 0 : Nat) : Int) ∧ lenS.getD i 0 ≤ 6 := by decide +kernel
  exact h i hi
theorem s_shr {i : Nat} (hi : i < 15) : (Int32.ofNat (lenS.getD i 0)) >>> ((0 : Int32) &&& 31) = Int32.ofNat (lenS.getD i 0) := by
  have h : ∀ i : Nat, i < 15 → (Int32.ofNat (lenS.getD i 0)) >>> ((0 : Int32) &&& 31) = Int32.ofNat (lenS.getD i 0) := by decide +kernel
  exact h i hi
theorem s_nar {i n : Nat} (hi : i < 15) (hn : n < 6) : narrow .char (.int ((((bytS.getD i []).getD n 0) &&& 255).toUInt32 % 65536).toInt32) = .int ((((bytS.getD i []).getD n 0) &&& 255).toUInt32 % 65536).toInt32 := by
  have h : ∀ i : Nat, i < 15 → ∀ n : Nat, n < 6 → narrow .char (.int ((((bytS.getD i []).getD n 0) &&& 255).toUInt32 % 65536).toInt32) = .int ((((bytS.getD i []).getD n 0) &&& 255).toUInt32 % 65536).toInt32 := by decide +kernel
  exact h i hi n hn
def sF (adK adV : Nat → Nat) (A : Nat → Prop) (U : State) (H : Heap) : Prop := vk_S 15 lenS bytS adK adV A U H ∧ (∀ i : Nat, i < 15 → vk_R "ManyOut$Reader" (idxS.getD i 0) (txS.getD i "") (adK i) U) ∧ va_Z "java/lang/String" "COMPACT_STRINGS" "Z" (.int 1) A U H ∧ va_Zq "jdk/internal/util/Preconditions" "SIOOBE_FORMATTER" "Ljava/util/function/BiFunction;" A U H
theorem sF.moved {adK adV : Nat → Nat} {A : Nat → Prop} {s U : State} {H : Heap} (hW : s.WarmedH U.vm) (h : sF adK adV A s H) : sF adK adV A U H :=
  ⟨vk_S.moved hW.alike h.1, fun i hi => vk_R.warm hW (h.2.1 i hi), va_Z.moved hW.alike h.2.2.1, va_Zq.moved hW.alike h.2.2.2⟩
theorem sF.kept {adK adV : Nat → Nat} {A : Nat → Prop} {U : State} {H H1 : Heap} (h : sF adK adV A U H) (hq : ∀ a : Nat, a < H.size → ¬ A a → H1[a]? = H[a]?) : sF adK adV A U H1 :=
  ⟨vk_S.kept h.1 hq, h.2.1, va_Z.kept h.2.2.1 hq, va_Zq.kept h.2.2.2 hq⟩
theorem sF.narrow {adK adV : Nat → Nat} {A B : Nat → Prop} {U : State} {H : Heap} (h : sF adK adV A U H) (hAB : ∀ q, B q → A q) : sF adK adV B U H :=
  ⟨vk_S.narrow h.1 hAB, h.2.1, va_Z.narrow h.2.2.1 hAB, va_Zq.narrow h.2.2.2 hAB⟩
def gPreT (D : va_G) (tys : List (ClassId × FieldType)) (av : List Value) (ws : va_W) (sz : Nat) (adK adV : Nat → Nat) : Array Value → State → Prop := va_Pc av (fun U => U.heap.size = sz ∧ va_P D gcl ws U.heap ∧ va_K D gcl tys U ∧ va_D (fun _ => True) ws ∧ gNw U ∧ sF adK adV (va_A ws sz) U U.heap)
theorem gblindT {D : va_G} {tys : List (ClassId × FieldType)} {av : List Value} {ws : va_W} {sz : Nat} {adK adV : Nat → Nat} : FrameBlind (gPreT D tys av ws sz adK adV) := by
  intro a U g mk q
  obtain ⟨q0, q1, qP, qK, qD, qN, qF⟩ := q
  exact ⟨q0, q1, qP, va_K.moved (u := U) (U := U.calling g mk a) (Vm.Alike.refl U.vm) qK, qD, gNw.warm (s := U) (U := U.calling g mk a) (State.WarmedH.refl U) qN, sF.moved (s := U) (U := U.calling g mk a) (State.WarmedH.refl U) qF⟩
theorem gpreT {D : va_G} {tys : List (ClassId × FieldType)} {av : List Value} {wc : va_W} {s : State} {H : Heap} {A : Nat → Prop} {locs : List Loc} {adK adV : Nat → Nat} (hP : va_P D gcl wc H) (hK : va_K D gcl tys s) (hD : va_D A wc) (hN : gNw s) (hF : sF adK adV A s s.heap) (hS : va_S A s.heap H locs) (hfree : ∀ q, va_A wc H.size q → A q) : PreS s H (gPreT D tys av wc H.size adK adV) av :=
  ⟨gblindT, fun U hU hW => ⟨rfl, by rw [hU], by rw [hU]; exact hP, va_K.moved hW.alike hK, hD.weaken (fun _ _ _ _ => trivial), gNw.warm hW hN, by rw [hU]; exact sF.narrow (sF.moved hW (sF.kept hF hS.2.1)) hfree⟩⟩
theorem gOfT_i {l : Launch} {y : MethodName} {cc : ByteArray} {maxL : Nat} {rm : Room} {D : va_G} {adK adV : Nat → Nat} {tys : List (ClassId × FieldType)} {av : List Value} {ws : va_W} {sz : Nat} {post : Int32 → gEx → Prop} {w1 : gEx → va_W} (hy : plainName y.cls = true) (hlen : (lg_sl av).length ≤ maxL)
    (body : ∀ {p : Program} {e : Env} {s : State} {m : MethodId} {args : Array Value} {below : List Frame} {meth : Method} {c : Code} {ls : Array Slot} {A : Nat → Prop} {Q : State → Prop}, p.tables.exec = Jvm.exec → c.code = cc → (∀ w ∈ lw_gd, w.before args s = true) → s.vm.findClass y.cls = some m.cls → c.maxLocals = maxL → gNw s → va_K D gcl tys s → va_P D gcl ws s.heap → va_D A ws → (∀ q, s.heap.size ≤ q → A q) → lv_has ls maxL (lv_args 0 av) → sF adK adV A s s.heap →
      (∀ {H : Heap} {locs : List Loc} {pc : Nat} {ls : Array Slot} (r : Int32) (u : gEx), decode cc pc = .ok (.ireturn, 1) → post r u → va_P D gcl (w1 u) H → va_D A (w1 u) → va_S A s.heap H locs → W p l e rm s m args below meth c H locs 0 0 Q (F0 m pc ls [.int r])) →
      W p l e rm s m args below meth c s.heap [] 0 0 Q (F0 m 0 ls [])) : Met l y (.code y cc maxL (some .int) :: lw_gd) rm (gPreT D tys av ws sz adK adV) (va_Qi post (gB D (va_A ws sz) w1) (va_A ws sz)) 0 0 (va_A ws sz) := by
  refine Met.ofW (cc := cc) (maxL := maxL) (ret := (some .int)) hy rfl ?_
  intro p e s m args below meth c s₁ B hml hv
  obtain ⟨rfl, hsz, hP, hK, hD0, hN, hF⟩ := hv
  subst hsz
  have hts : ∀ w ∈ lw_gd, w.before _ s = true := fun w h => atoms_spec (ws := .code y cc maxL (some .int) :: lw_gd) B.pre w (List.mem_cons_of_mem _ h)
  have hl := lv_entry av (n := maxL) hlen
  have hlocks := B.notSynchronized
  rw [lg_entry_eq]
  refine body B.exec B.bytes hts (findClass_of_methodNamed B.named) hml hN hK hP (hD0.self (sz := s.heap.size)) (fun q h => Or.inr h) hl hF ?_
  intro H locs pc ls r u hd hp hP9 hD9 hS
  exact W.iret (v := r) B.exec B.bytes B.returns (fun t ht hW => ⟨⟨r, u, rfl, hp, by rw [ht]; exact hP9, hD9⟩, hS.F ht⟩) hS.2.2 hd
theorem gOfT_z {l : Launch} {y : MethodName} {cc : ByteArray} {maxL : Nat} {rm : Room} {D : va_G} {adK adV : Nat → Nat} {tys : List (ClassId × FieldType)} {av : List Value} {ws : va_W} {sz : Nat} {post : Int32 → gEx → Prop} {w1 : gEx → va_W} (hy : plainName y.cls = true) (hlen : (lg_sl av).length ≤ maxL)
    (body : ∀ {p : Program} {e : Env} {s : State} {m : MethodId} {args : Array Value} {below : List Frame} {meth : Method} {c : Code} {ls : Array Slot} {A : Nat → Prop} {Q : State → Prop}, p.tables.exec = Jvm.exec → c.code = cc → (∀ w ∈ lw_gd, w.before args s = true) → s.vm.findClass y.cls = some m.cls → c.maxLocals = maxL → gNw s → va_K D gcl tys s → va_P D gcl ws s.heap → va_D A ws → (∀ q, s.heap.size ≤ q → A q) → lv_has ls maxL (lv_args 0 av) → sF adK adV A s s.heap →
      (∀ {H : Heap} {locs : List Loc} {pc : Nat} {ls : Array Slot} (r : Int32) (u : gEx), decode cc pc = .ok (.ireturn, 1) → (r.toInt = 0 ∨ r.toInt = 1) ∧ post r u → va_P D gcl (w1 u) H → va_D A (w1 u) → va_S A s.heap H locs → W p l e rm s m args below meth c H locs 0 0 Q (F0 m pc ls [.int r])) →
      W p l e rm s m args below meth c s.heap [] 0 0 Q (F0 m 0 ls [])) : Met l y (.code y cc maxL (some .boolean) :: lw_gd) rm (gPreT D tys av ws sz adK adV) (va_Qi post (gB D (va_A ws sz) w1) (va_A ws sz)) 0 0 (va_A ws sz) := by
  refine Met.ofW (cc := cc) (maxL := maxL) (ret := (some .boolean)) hy rfl ?_
  intro p e s m args below meth c s₁ B hml hv
  obtain ⟨rfl, hsz, hP, hK, hD0, hN, hF⟩ := hv
  subst hsz
  have hts : ∀ w ∈ lw_gd, w.before _ s = true := fun w h => atoms_spec (ws := .code y cc maxL (some .boolean) :: lw_gd) B.pre w (List.mem_cons_of_mem _ h)
  have hl := lv_entry av (n := maxL) hlen
  have hlocks := B.notSynchronized
  rw [lg_entry_eq]
  refine body B.exec B.bytes hts (findClass_of_methodNamed B.named) hml hN hK hP (hD0.self (sz := s.heap.size)) (fun q h => Or.inr h) hl hF ?_
  intro H locs pc ls r u hd hp hP9 hD9 hS
  have hn : narrow .boolean (.int r) = .int r := by
    rcases hp.1 with q | q
    · rw [show r = 0 from Int32.toInt_inj.mp (q.trans (by decide))]; rfl
    · rw [show r = 1 from Int32.toInt_inj.mp (q.trans (by decide))]; rfl
  exact W.zret (v := r) B.exec B.bytes B.returns hn (fun t ht hW => ⟨⟨r, u, rfl, hp.2, by rw [ht]; exact hP9, hD9⟩, hS.F ht⟩) hS.2.2 hd
theorem gOfT_b {l : Launch} {y : MethodName} {cc : ByteArray} {maxL : Nat} {rm : Room} {D : va_G} {adK adV : Nat → Nat} {tys : List (ClassId × FieldType)} {av : List Value} {ws : va_W} {sz : Nat} {post : Int32 → gEx → Prop} {w1 : gEx → va_W} (hy : plainName y.cls = true) (hlen : (lg_sl av).length ≤ maxL)
    (body : ∀ {p : Program} {e : Env} {s : State} {m : MethodId} {args : Array Value} {below : List Frame} {meth : Method} {c : Code} {ls : Array Slot} {A : Nat → Prop} {Q : State → Prop}, p.tables.exec = Jvm.exec → c.code = cc → (∀ w ∈ lw_gd, w.before args s = true) → s.vm.findClass y.cls = some m.cls → c.maxLocals = maxL → gNw s → va_K D gcl tys s → va_P D gcl ws s.heap → va_D A ws → (∀ q, s.heap.size ≤ q → A q) → lv_has ls maxL (lv_args 0 av) → sF adK adV A s s.heap →
      (∀ {H : Heap} {locs : List Loc} {pc : Nat} {ls : Array Slot} (r : Int32) (u : gEx), decode cc pc = .ok (.ireturn, 1) → (r.toInt = 0) ∧ post r u → va_P D gcl (w1 u) H → va_D A (w1 u) → va_S A s.heap H locs → W p l e rm s m args below meth c H locs 0 0 Q (F0 m pc ls [.int r])) →
      W p l e rm s m args below meth c s.heap [] 0 0 Q (F0 m 0 ls [])) : Met l y (.code y cc maxL (some .byte) :: lw_gd) rm (gPreT D tys av ws sz adK adV) (va_Qi post (gB D (va_A ws sz) w1) (va_A ws sz)) 0 0 (va_A ws sz) := by
  refine Met.ofW (cc := cc) (maxL := maxL) (ret := (some .byte)) hy rfl ?_
  intro p e s m args below meth c s₁ B hml hv
  obtain ⟨rfl, hsz, hP, hK, hD0, hN, hF⟩ := hv
  subst hsz
  have hts : ∀ w ∈ lw_gd, w.before _ s = true := fun w h => atoms_spec (ws := .code y cc maxL (some .byte) :: lw_gd) B.pre w (List.mem_cons_of_mem _ h)
  have hl := lv_entry av (n := maxL) hlen
  have hlocks := B.notSynchronized
  rw [lg_entry_eq]
  refine body B.exec B.bytes hts (findClass_of_methodNamed B.named) hml hN hK hP (hD0.self (sz := s.heap.size)) (fun q h => Or.inr h) hl hF ?_
  intro H locs pc ls r u hd hp hP9 hD9 hS
  have hn : narrow .byte (.int r) = .int r := by
    rw [show r = 0 from Int32.toInt_inj.mp (hp.1.trans (by decide))]; rfl
  exact W.zret (v := r) B.exec B.bytes B.returns hn (fun t ht hW => ⟨⟨r, u, rfl, hp.2, by rw [ht]; exact hP9, hD9⟩, hS.F ht⟩) hS.2.2 hd
theorem gOfT_c {l : Launch} {y : MethodName} {cc : ByteArray} {maxL : Nat} {rm : Room} {D : va_G} {adK adV : Nat → Nat} {tys : List (ClassId × FieldType)} {av : List Value} {ws : va_W} {sz : Nat} {post : Int32 → gEx → Prop} {w1 : gEx → va_W} (hy : plainName y.cls = true) (hlen : (lg_sl av).length ≤ maxL)
    (body : ∀ {p : Program} {e : Env} {s : State} {m : MethodId} {args : Array Value} {below : List Frame} {meth : Method} {c : Code} {ls : Array Slot} {A : Nat → Prop} {Q : State → Prop}, p.tables.exec = Jvm.exec → c.code = cc → (∀ w ∈ lw_gd, w.before args s = true) → s.vm.findClass y.cls = some m.cls → c.maxLocals = maxL → gNw s → va_K D gcl tys s → va_P D gcl ws s.heap → va_D A ws → (∀ q, s.heap.size ≤ q → A q) → lv_has ls maxL (lv_args 0 av) → sF adK adV A s s.heap →
      (∀ {H : Heap} {locs : List Loc} {pc : Nat} {ls : Array Slot} (r : Int32) (u : gEx), decode cc pc = .ok (.ireturn, 1) → (narrow .char (.int r) = .int r) ∧ post r u → va_P D gcl (w1 u) H → va_D A (w1 u) → va_S A s.heap H locs → W p l e rm s m args below meth c H locs 0 0 Q (F0 m pc ls [.int r])) →
      W p l e rm s m args below meth c s.heap [] 0 0 Q (F0 m 0 ls [])) : Met l y (.code y cc maxL (some .char) :: lw_gd) rm (gPreT D tys av ws sz adK adV) (va_Qi post (gB D (va_A ws sz) w1) (va_A ws sz)) 0 0 (va_A ws sz) := by
  refine Met.ofW (cc := cc) (maxL := maxL) (ret := (some .char)) hy rfl ?_
  intro p e s m args below meth c s₁ B hml hv
  obtain ⟨rfl, hsz, hP, hK, hD0, hN, hF⟩ := hv
  subst hsz
  have hts : ∀ w ∈ lw_gd, w.before _ s = true := fun w h => atoms_spec (ws := .code y cc maxL (some .char) :: lw_gd) B.pre w (List.mem_cons_of_mem _ h)
  have hl := lv_entry av (n := maxL) hlen
  have hlocks := B.notSynchronized
  rw [lg_entry_eq]
  refine body B.exec B.bytes hts (findClass_of_methodNamed B.named) hml hN hK hP (hD0.self (sz := s.heap.size)) (fun q h => Or.inr h) hl hF ?_
  intro H locs pc ls r u hd hp hP9 hD9 hS
  have hn := hp.1
  exact W.zret (v := r) B.exec B.bytes B.returns hn (fun t ht hW => ⟨⟨r, u, rfl, hp.2, by rw [ht]; exact hP9, hD9⟩, hS.F ht⟩) hS.2.2 hd
theorem gOfT_v {l : Launch} {y : MethodName} {cc : ByteArray} {maxL : Nat} {rm : Room} {D : va_G} {adK adV : Nat → Nat} {tys : List (ClassId × FieldType)} {av : List Value} {ws : va_W} {sz : Nat} {post : gEx → Prop} {w1 : gEx → va_W} (hy : plainName y.cls = true) (hlen : (lg_sl av).length ≤ maxL)
    (body : ∀ {p : Program} {e : Env} {s : State} {m : MethodId} {args : Array Value} {below : List Frame} {meth : Method} {c : Code} {ls : Array Slot} {A : Nat → Prop} {Q : State → Prop}, p.tables.exec = Jvm.exec → c.code = cc → (∀ w ∈ lw_gd, w.before args s = true) → s.vm.findClass y.cls = some m.cls → c.maxLocals = maxL → gNw s → va_K D gcl tys s → va_P D gcl ws s.heap → va_D A ws → (∀ q, s.heap.size ≤ q → A q) → lv_has ls maxL (lv_args 0 av) → sF adK adV A s s.heap →
      (∀ {H : Heap} {locs : List Loc} {pc : Nat} {ls : Array Slot} (u : gEx), decode cc pc = .ok (.return_, 1) → post u → va_P D gcl (w1 u) H → va_D A (w1 u) → va_S A s.heap H locs → W p l e rm s m args below meth c H locs 0 0 Q (F0 m pc ls [])) →
      W p l e rm s m args below meth c s.heap [] 0 0 Q (F0 m 0 ls [])) : Met l y (.code y cc maxL none :: lw_gd) rm (gPreT D tys av ws sz adK adV) (va_Qv post (gB D (va_A ws sz) w1) (va_A ws sz)) 0 0 (va_A ws sz) := by
  refine Met.ofW (cc := cc) (maxL := maxL) (ret := none) hy rfl ?_
  intro p e s m args below meth c s₁ B hml hv
  obtain ⟨rfl, hsz, hP, hK, hD0, hN, hF⟩ := hv
  subst hsz
  have hts : ∀ w ∈ lw_gd, w.before _ s = true := fun w h => atoms_spec (ws := .code y cc maxL none :: lw_gd) B.pre w (List.mem_cons_of_mem _ h)
  have hl := lv_entry av (n := maxL) hlen
  have hlocks := B.notSynchronized
  rw [lg_entry_eq]
  refine body B.exec B.bytes hts (findClass_of_methodNamed B.named) hml hN hK hP (hD0.self (sz := s.heap.size)) (fun q h => Or.inr h) hl hF ?_
  intro H locs pc ls u hd hp hP9 hD9 hS
  exact W.vret B.exec B.bytes B.returns (fun t ht hW => ⟨⟨u, rfl, hp, by rw [ht]; exact hP9, hD9⟩, hS.F ht⟩) hS.2.2 hd
