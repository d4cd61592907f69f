-- ===== end of PART A; then your names; then what follows =====
/-! THE CLAIM OUT OF ONE WALK OF THE LAW'S BODY. Your part is whole_start (and what it stands on); all else here is the same for every law, but numbers. -/
def R_law : String := "ManyOutLaw"
def lw_P (b : Addr) (xs : List Int32) (args : Array Value) (s : State) : Prop := args = #[.ref b] ∧ s.IntsAt b xs ∧ xs.length ≤ 6 ∧ (Jvm.Cond.and given_1 narrow_1).before args s = true
def lw_Q (_ : Array Value) (s : State) (o : Outcome) (t : State) : Prop := o = .returned (some (.int 1)) ∧ Framed s o t [] 600000 7302250
def lw_Z (below : List Frame) (a : Array Value) (s : State) : State → Prop := fun t => ∃ o, t.status = .running ∧ Ended t below o ∧ lw_Q a s o t
/-- the law's own end, with 1 on the stack, nothing written that was there before, its room as the claim has it -/
theorem lw_ret {p : Program} {l : Launch} {e : Env} {s : State} {m : MethodId} {below : List Frame} {meth : Method} {c : Code} {b : Nat} (hx : p.tables.exec = Jvm.exec) (hb : c.code = code) (hr : meth.sig.returnType = ret) (hlocks : meth.locks = false) {pc : Nat} {H : Heap} {ls : Array Slot} (hdg : decode code pc = .ok (.ireturn, 1)) : W p l e room_1 s m #[Value.ref b] below meth c H [] 600000 7302250 (lw_Z below #[Value.ref b] s) (F0 m pc ls [.int 1]) := by
  intro T hT X
  obtain ⟨fs, hret, hrun, hended, hW, hframe⟩ := X.leave (v := some (.int 1)) (hlocks := hlocks) (fun h => by rw [hr] at h; cases h)
  have hmeth' : T.vm.method? m = some meth := X.method'
  refine ⟨T.setFrames fs, ?_, .returned (some (.int 1)), hrun, hended, rfl, ⟨_, rfl⟩, hW, hframe⟩
  jvm_step X.here [X.here.top, hx, hb, hdg, hmeth', hr, ret, narrow_b1]
  (try refine ⟨rfl, ?_⟩); (try refine ⟨rfl, ?_⟩)
  first | (intro acts; rw [hret _ acts rfl rfl rfl]) | rw [hret _ _ rfl rfl rfl]
  exact Steps.refl _
/-- what holds at the law's entry: the machine, the code, the tables' words (any of lw_tbl by 'hts w (by decide +kernel)'), the script of L ints xs at the cell b, what the Statement gives of the start (any of its parts by flat_of_before) -/
def lw_At (p : Program) (s : State) (m : MethodId) (meth : Method) (c : Code) (b L : Nat) (xs : Nat → Int32) : Prop :=
  p.tables.exec = Jvm.exec ∧ c.code = code ∧ meth.sig.returnType = ret ∧ c.maxLocals = 4 ∧ s.vm.findClass R_law = some m.cls ∧ (∀ w ∈ lw_tbl, w.before #[Value.ref b] s = true) ∧ va_X b L xs s s.heap ∧ b < s.heap.size ∧ meth.locks = false ∧ (Jvm.Cond.and given_1 narrow_1).before #[Value.ref b] s = true
theorem g_known {args : Array Value} {s : State} (hts : ∀ w ∈ lw_gd, w.before args s = true) : ∃ D : va_G, ∀ (k : Nat) (q : vw_C), gcl[k]? = some q → u_Kn s q.1 q.2.1 q.2.2 (D.1 k) (D.2 k) := by
  have h : ∀ k : Nat, ∃ z : ClassId × (Nat → Nat), ∀ q : vw_C, gcl[k]? = some q → u_Kn s q.1 q.2.1 q.2.2 z.1 z.2 := by
    intro k
    match k with
    | 0 =>
      obtain ⟨c, i, h⟩ := u_known (C := RX0) (T := TX0) (N := 7) (n := 7) hts iX0 (hts _ tw_309)
      exact ⟨(c, i), fun q hq => by cases hq; exact h⟩
    | 1 =>
      obtain ⟨c, i, h⟩ := u_known (C := RX1) (T := TX1) (N := 10) (n := 10) hts iX1 (hts _ tw_51)
      exact ⟨(c, i), fun q hq => by cases hq; exact h⟩
    | 2 =>
      obtain ⟨c, i, h⟩ := u_known (C := RX2) (T := TX2) (N := 8) (n := 8) hts iX2 (hts _ tw_384)
      exact ⟨(c, i), fun q hq => by cases hq; exact h⟩
    | 3 =>
      obtain ⟨c, i, h⟩ := u_known (C := RX3) (T := TX3) (N := 10) (n := 10) hts iX3 (hts _ tw_340)
      exact ⟨(c, i), fun q hq => by cases hq; exact h⟩
    | 4 =>
      obtain ⟨c, i, h⟩ := u_known (C := RX4) (T := TX4) (N := 8) (n := 8) hts iX4 (hts _ tw_31)
      exact ⟨(c, i), fun q hq => by cases hq; exact h⟩
    | 5 =>
      obtain ⟨c, i, h⟩ := u_known (C := RX5) (T := TX5) (N := 7) (n := 7) hts iX5 (hts _ tw_68)
      exact ⟨(c, i), fun q hq => by cases hq; exact h⟩
    | 6 =>
      obtain ⟨c, i, h⟩ := u_known (C := RX6) (T := TX6) (N := 4) (n := 4) hts iX6 (hts _ tw_282)
      exact ⟨(c, i), fun q hq => by cases hq; exact h⟩
    | 7 =>
      obtain ⟨c, i, h⟩ := u_known (C := RX7) (T := TX7) (N := 11) (n := 11) hts iX7 (hts _ tw_196)
      exact ⟨(c, i), fun q hq => by cases hq; exact h⟩
    | 8 =>
      obtain ⟨c, i, h⟩ := u_known (C := RX8) (T := TX8) (N := 1) (n := 1) hts iX8 (hts _ tw_57)
      exact ⟨(c, i), fun q hq => by cases hq; exact h⟩
    | 9 =>
      obtain ⟨c, i, h⟩ := u_known (C := RX9) (T := TX9) (N := 2) (n := 2) hts iX9 (hts _ tw_37)
      exact ⟨(c, i), fun q hq => by cases hq; exact h⟩
    | 10 =>
      obtain ⟨c, i, h⟩ := u_known (C := RX10) (T := TX10) (N := 8) (n := 8) hts iX10 (hts _ tw_202)
      exact ⟨(c, i), fun q hq => by cases hq; exact h⟩
    | 11 =>
      obtain ⟨c, i, h⟩ := u_known (C := RX11) (T := TX11) (N := 14) (n := 14) hts iX11 (hts _ tw_23)
      exact ⟨(c, i), fun q hq => by cases hq; exact h⟩
    | 12 =>
      obtain ⟨c, i, h⟩ := u_known (C := RX12) (T := TX12) (N := 73) (n := 73) hts iX12 (hts _ tw_1396)
      exact ⟨(c, i), fun q hq => by cases hq; exact h⟩
    | k + 13 =>
      obtain ⟨c, i, h⟩ := u_known (C := RX0) (T := TX0) (N := 7) (n := 7) hts iX0 (hts _ tw_309)
      exact ⟨(c, i), fun q hq => by simp [gcl] at hq⟩
  exact ⟨(fun k => (Classical.choose (h k)).1, fun k => (Classical.choose (h k)).2), fun k q hq => Classical.choose_spec (h k) q hq⟩
theorem g_arr1 {args : Array Value} {s : State} {ty : FieldType} (h : (Cond.arrayClass ty).before args s = true) : ∃ cA : ClassId, ArrOfT s cA ty ∧ s.vm.findClass ("[" ++ ty.toString) = some cA := by
  obtain ⟨cA, kA, comp, h1, h2, h3⟩ := Cond.arrayClass_spec h
  exact ⟨cA, fun n z => ⟨fun k h => (by cases h), kA, h2, comp, h3⟩, h1⟩
set_option maxHeartbeats 4000000 in
set_option maxRecDepth 100000 in
/-- behind a call of the law: the loop ends, since the script has six ints -/
theorem law_end {p : Program} {l : Launch} {e : Env} {s : State} {m : MethodId} {below : List Frame} {meth : Method} {c : Code} {b : Nat} {xs : Nat → Int32} {H : Heap} {locs : List Loc} {k n : Nat} (C0 : lw_At p s m meth c b 6 xs) (hk : k ≤ 600000) (hn : n ≤ 7302250) (hS : va_S (fun q : Nat => s.heap.size ≤ q) s.heap H locs) (ls : Array Slot) (hl : lv_has ls 4 [(3, .int 0), (0, .ref b)]) : W p l e room_1 s m #[Value.ref b] below meth c H locs k n (lw_Z below #[Value.ref b] s) (F0 m 1532 ls []) := by
  obtain ⟨hx, hb, hr, hml, hown, hts0, hX, hbl, hlocks, hgv⟩ := id C0
  have hbA : ¬ (fun q : Nat => s.heap.size ≤ q) b := Nat.not_le.mpr hbl
  refine lv_iinc (pc := 1532) (v := 6) (lv' := [(3, .int 6), (0, .ref b)]) hx hb dL_law_1532 hl (k := 0) rfl (by decide +kernel) (by decide) rfl (fun ls hl => ?_)
  refine lv_goto (pc := 1535) (tgt := 18) hx hb dL_law_1535 (by decide) ?_
  refine lv_iload_n (pc := 18) hx hb dL_law_18 rfl (lv_at hl 0 rfl) ?_
  refine lv_aload_n (pc := 19) hx hb dL_law_19 rfl (lv_at hl 1 rfl) ?_
  refine va_slen (pc := 20) hx hb hX hbl hbA hS dL_law_20 ?_
  refine lv_bipush (pc := 21) (v := 6) hx hb dL_law_21 (by decide) ?_
  refine lv_isub (pc := 23) hx hb dL_law_23 ?_
  refine gI (y := 0) (by decide +kernel) ?_
  refine lv_icmp_gt (pc := 24) (tgt := 1538) hx hb dL_law_24 (by decide) (fun _ => ?_) (fun c => absurd (by decide +kernel) c)
  refine lv_iconst (pc := 1538) (v := 1) hx hb dL_law_1538 (by decide) ?_
  refine va_forget (fun q hq => hS.2.2 q hq) ?_
  refine W.widen (k := 600000) (n := 7302250) hk hn ?_
  exact lw_ret hx hb hr hlocks dL_law_1539
abbrev lwX (cB cC cI cJ : ClassId) (o1 : Nat) (u : gEx) : va_W := [(o1, .inr (11, [.ref (u.1 0), .ref (u.1 1), .ref (u.1 13), .ref (u.1 29), .ref (u.1 40), .ref (u.1 43), .ref (u.1 57), .ref (u.1 58), .ref (u.1 59), .ref (u.1 60), .int 0, .ref (u.1 61), .ref (u.1 71), .ref (u.1 76)])), ((u.1 0), .inr (4, [.ref (u.1 1), .ref (u.1 3), .int 0, .int (-1), .int 0, .int 0, .int 0, .int (-1)])), ((u.1 1), .inr (9, [.ref (u.1 2), .int 0])), ((u.1 2), .inl (cB, 1600, .inl (fun _ => 0))), ((u.1 3), .inr (1, [.ref (u.1 4), .ref (u.1 6), .ref (u.1 12), .int 0, .int 0, .int 0, .int 0, .int 0, .int 9999, .int 0])), ((u.1 4), .inr (8, [.ref (u.1 5)])), ((u.1 5), .inl (cI, 30, .inl (fun _ => 0))), ((u.1 6), .inr (5, [.ref (u.1 7), .ref (u.1 8), .ref (u.1 9), .ref (u.1 10), .ref (u.1 11), .int 0, .int 0])), ((u.1 7), .inl (cI, 1600, .inl (fun _ => 0))), ((u.1 8), .inl (cI, 8, .inl (fun _ => 0))), ((u.1 9), .inl (cI, 8, .inl (fun _ => 0))), ((u.1 10), .inl (cI, 8, .inl (fun _ => 0))), ((u.1 11), .inl (cI, 64, .inl (fun _ => 0))), ((u.1 12), .inl (cI, 80, .inl (fun _ => 0))), ((u.1 13), .inr (7, [.ref (u.1 14), .ref (u.1 22), .ref (u.1 23), .ref (u.1 24), .ref (u.1 25), .ref (u.1 26), .ref (u.1 27), .ref (u.1 28), .int 0, .long 0, .int 0])), ((u.1 14), .inr (10, [.ref (u.1 15), .ref (u.1 16), .ref (u.1 17), .ref (u.1 18), .ref (u.1 19), .ref (u.1 20), .ref (u.1 21), .int 0])), ((u.1 15), .inl (cJ, 25, .inr (.inl (fun _ => 0)))), ((u.1 16), .inl (cJ, 5, .inr (.inl (fun _ => 0)))), ((u.1 17), .inl (cJ, 25, .inr (.inl (fun _ => 0)))), ((u.1 18), .inl (cI, 5, .inl (fun _ => 0))), ((u.1 19), .inl (cI, 5, .inl (fun _ => 0))), ((u.1 20), .inl (cI, 5, .inl (fun _ => 0))), ((u.1 21), .inl (cI, 5, .inl (fun _ => 0))), ((u.1 22), .inl (cJ, 10, .inr (.inl (fun _ => 0)))), ((u.1 23), .inl (cI, 10, .inl (fun _ => 0))), ((u.1 24), .inl (cJ, 40, .inr (.inl (fun _ => 0)))), ((u.1 25), .inl (cJ, 40, .inr (.inl (fun _ => 0)))), ((u.1 26), .inl (cI, 5, .inl (fun _ => 0))), ((u.1 27), .inl (cI, 5, .inl (fun _ => 0))), ((u.1 28), .inl (cI, 6, .inl (fun _ => 0))), ((u.1 29), .inr (6, [.ref (u.1 30), .ref (u.1 38), .ref (u.1 39), .long 0])), ((u.1 30), .inr (10, [.ref (u.1 31), .ref (u.1 32), .ref (u.1 33), .ref (u.1 34), .ref (u.1 35), .ref (u.1 36), .ref (u.1 37), .int 0])), ((u.1 31), .inl (cJ, 25, .inr (.inl (fun _ => 0)))), ((u.1 32), .inl (cJ, 5, .inr (.inl (fun _ => 0)))), ((u.1 33), .inl (cJ, 25, .inr (.inl (fun _ => 0)))), ((u.1 34), .inl (cI, 5, .inl (fun _ => 0))), ((u.1 35), .inl (cI, 5, .inl (fun _ => 0))), ((u.1 36), .inl (cI, 5, .inl (fun _ => 0))), ((u.1 37), .inl (cI, 5, .inl (fun _ => 0))), ((u.1 38), .inl (cI, 5, .inl (fun _ => 0))), ((u.1 39), .inl (cJ, 32, .inr (.inl (u.2.2.1 0)))), ((u.1 40), .inr (0, [.ref (u.1 41), .ref (u.1 42), .int 0, .int 0, .long 0, .int 0, .int 0])), ((u.1 41), .inl (cJ, 256, .inr (.inl (fun _ => 0)))), ((u.1 42), .inl (cI, 5, .inl (fun _ => 0))), ((u.1 43), .inr (3, [.ref (u.1 44), .ref (u.1 52), .ref (u.1 53), .ref (u.1 54), .ref (u.1 55), .ref (u.1 56), .long 0, .int 0, .long (-1), .long (-1)])), ((u.1 44), .inr (10, [.ref (u.1 45), .ref (u.1 46), .ref (u.1 47), .ref (u.1 48), .ref (u.1 49), .ref (u.1 50), .ref (u.1 51), .int 0])), ((u.1 45), .inl (cJ, 25, .inr (.inl (fun _ => 0)))), ((u.1 46), .inl (cJ, 5, .inr (.inl (fun _ => 0)))), ((u.1 47), .inl (cJ, 25, .inr (.inl (fun _ => 0)))), ((u.1 48), .inl (cI, 5, .inl (fun _ => 0))), ((u.1 49), .inl (cI, 5, .inl (fun _ => 0))), ((u.1 50), .inl (cI, 5, .inl (fun _ => 0))), ((u.1 51), .inl (cI, 5, .inl (fun _ => 0))), ((u.1 52), .inl (cI, 5, .inl (fun _ => 0))), ((u.1 53), .inl (cI, 5, .inl (fun _ => 0))), ((u.1 54), .inl (cI, 5, .inl (fun _ => 0))), ((u.1 55), .inl (cI, 5, .inl (fun _ => 0))), ((u.1 56), .inl (cJ, 5, .inr (.inl (fun _ => 0)))), ((u.1 57), .inl (cI, 6, .inl (fun _ => 0))), ((u.1 58), .inl (cI, 5, .inl (fun _ => 0))), ((u.1 59), .inl (cI, 5, .inl (fun _ => 0))), ((u.1 60), .inl (cI, 14, .inl (fun _ => 0))), ((u.1 61), .inr (1, [.ref (u.1 62), .ref (u.1 64), .ref (u.1 70), .int 0, .int 0, .int 0, .int 0, .int 0, .int 9999, .int 0])), ((u.1 62), .inr (8, [.ref (u.1 63)])), ((u.1 63), .inl (cI, 30, .inl (fun _ => 0))), ((u.1 64), .inr (5, [.ref (u.1 65), .ref (u.1 66), .ref (u.1 67), .ref (u.1 68), .ref (u.1 69), .int 0, .int 0])), ((u.1 65), .inl (cI, 1600, .inl (fun _ => 0))), ((u.1 66), .inl (cI, 8, .inl (fun _ => 0))), ((u.1 67), .inl (cI, 8, .inl (fun _ => 0))), ((u.1 68), .inl (cI, 8, .inl (fun _ => 0))), ((u.1 69), .inl (cI, 64, .inl (fun _ => 0))), ((u.1 70), .inl (cI, 80, .inl (fun _ => 0))), ((u.1 71), .inr (2, [.ref (u.1 72), .ref (u.1 74), .ref (u.1 75), .int 0, .int 0, .int 0, .int 0, .int 0])), ((u.1 72), .inr (8, [.ref (u.1 73)])), ((u.1 73), .inl (cI, 30, .inl (fun _ => 0))), ((u.1 74), .inl (cJ, 25, .inr (.inl (fun _ => 0)))), ((u.1 75), .inl (cI, 120, .inl (fun _ => 0))), ((u.1 76), .inr (2, [.ref (u.1 77), .ref (u.1 79), .ref (u.1 80), .int 0, .int 0, .int 0, .int 0, .int 0])), ((u.1 77), .inr (8, [.ref (u.1 78)])), ((u.1 78), .inl (cI, 30, .inl (fun _ => 0))), ((u.1 79), .inl (cJ, 25, .inr (.inl (fun _ => 0)))), ((u.1 80), .inl (cI, 120, .inl (fun _ => 0)))]
abbrev lwM (cB cC cI cJ : ClassId) (o2 : Nat) (v : gEx) : va_W := [(o2, .inr (12, [.ref (v.1 0), .int 0, .int 0, .int 0, .int 0, .int 0, .int 0, .int 0, .int (-1), .ref (v.1 1), .ref (v.1 2), .ref (v.1 3), .ref (v.1 4), .ref (v.1 5), .ref (v.1 6), .ref (v.1 7), .ref (v.1 8), .ref (v.1 9), .ref (v.1 10), .ref (v.1 11), .ref (v.1 12), .ref (v.1 13), .ref (v.1 14), .ref (v.1 15), .int 0, .int 0, .int 0, .int 0, .int 0, .int 9999, .ref (v.1 16), .ref (v.1 17), .ref (v.1 18), .int 0, .ref (v.1 19), .int 0, .ref (v.1 20), .int 0, .int 0, .ref (v.1 21), .ref (v.1 22), .ref (v.1 23), .ref (v.1 24), .int 0, .ref (v.1 25), .int 0, .ref (v.1 26), .ref (v.1 27), .ref (v.1 28), .long 0, .ref (v.1 29), .ref (v.1 30), .ref (v.1 31), .ref (v.1 32), .ref (v.1 33), .ref (v.1 34), .ref (v.1 35), .ref (v.1 36), .ref (v.1 37), .int 0, .int 0, .int 0, .long 0, .ref (v.1 38), .int 0, .ref (v.1 39), .ref (v.1 40), .ref (v.1 41), .ref (v.1 42), .int 0, .int 0, .int 0, .int 0])), ((v.1 0), .inl (cI, 1600, .inl (fun _ => 0))), ((v.1 1), .inl (cC, 5, .inl (v.2.1 0))), ((v.1 2), .inl (cC, 3, .inl (v.2.1 1))), ((v.1 3), .inl (cC, 4, .inl (v.2.1 2))), ((v.1 4), .inl (cC, 5, .inl (v.2.1 3))), ((v.1 5), .inl (cC, 5, .inl (v.2.1 4))), ((v.1 6), .inl (cC, 4, .inl (v.2.1 5))), ((v.1 7), .inl (cC, 2, .inl (v.2.1 6))), ((v.1 8), .inl (cC, 3, .inl (v.2.1 7))), ((v.1 9), .inl (cC, 3, .inl (v.2.1 8))), ((v.1 10), .inl (cC, 3, .inl (v.2.1 9))), ((v.1 11), .inl (cC, 6, .inl (v.2.1 10))), ((v.1 12), .inl (cC, 6, .inl (v.2.1 11))), ((v.1 13), .inl (cC, 4, .inl (v.2.1 12))), ((v.1 14), .inl (cC, 3, .inl (v.2.1 13))), ((v.1 15), .inl (cC, 3, .inl (v.2.1 14))), ((v.1 16), .inl (cI, 6, .inl (fun _ => 0))), ((v.1 17), .inl (cI, 60, .inl (fun _ => 0))), ((v.1 18), .inl (cI, 160, .inl (fun _ => 0))), ((v.1 19), .inl (cI, 3200, .inl (fun _ => 0))), ((v.1 20), .inl (cI, 1700, .inl (fun _ => 0))), ((v.1 21), .inl (cI, 2, .inl (fun _ => 0))), ((v.1 22), .inl (cI, 16, .inl (fun _ => 0))), ((v.1 23), .inl (cI, 16, .inl (fun _ => 0))), ((v.1 24), .inl (cI, 16, .inl (fun _ => 0))), ((v.1 25), .inl (cJ, 1700, .inr (.inl (fun _ => 0)))), ((v.1 26), .inl (cI, 30, .inl (fun _ => 0))), ((v.1 27), .inl (cI, 6, .inl (fun _ => 0))), ((v.1 28), .inl (cI, 5, .inl (fun _ => 0))), ((v.1 29), .inl (cJ, 10, .inr (.inl (fun _ => 0)))), ((v.1 30), .inl (cI, 10, .inl (fun _ => 0))), ((v.1 31), .inl (cI, 5, .inl (fun _ => 0))), ((v.1 32), .inl (cI, 5, .inl (fun _ => 0))), ((v.1 33), .inl (cJ, 6, .inr (.inl (fun _ => 0)))), ((v.1 34), .inl (cJ, 25, .inr (.inl (fun _ => 0)))), ((v.1 35), .inl (cI, 200, .inl (fun _ => 0))), ((v.1 36), .inl (cI, 200, .inl (fun _ => 0))), ((v.1 37), .inl (cI, 200, .inl (fun _ => 0))), ((v.1 38), .inl (cI, 5, .inl (fun _ => 0))), ((v.1 39), .inl (cI, 5, .inl (fun _ => 0))), ((v.1 40), .inl (cI, 5, .inl (fun _ => 0))), ((v.1 41), .inl (cI, 5, .inl (fun _ => 0))), ((v.1 42), .inl (cI, 20, .inl (fun _ => 0)))]
