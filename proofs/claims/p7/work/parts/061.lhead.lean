-- ===== end of PART A; then your names; then what follows =====
/-! THE CLAIM OUT OF ONE WALK OF THE LAW'S BODY. Your part is whole_start (and what it stands on); all else here is the same for every law, but numbers. -/
def R_law : String := "ManyOutLaw"
def lw_P (b : Addr) (xs : List Int32) (args : Array Value) (s : State) : Prop := args = #[.ref b] ∧ s.IntsAt b xs ∧ xs.length ≤ 3072 ∧ (Jvm.Cond.and given_1 narrow_1).before args s = true
def lw_Q (_ : Array Value) (s : State) (o : Outcome) (t : State) : Prop := o = .returned (some (.int 1)) ∧ Framed s o t [] 600000 7302250
def lw_Z (below : List Frame) (a : Array Value) (s : State) : State → Prop := fun t => ∃ o, t.status = .running ∧ Ended t below o ∧ lw_Q a s o t
/-- the law's own end, with 1 on the stack, nothing written that was there before, its room as the claim has it -/
theorem lw_ret {p : Program} {l : Launch} {e : Env} {s : State} {m : MethodId} {below : List Frame} {meth : Method} {c : Code} {b : Nat} (hx : p.tables.exec = Jvm.exec) (hb : c.code = code) (hr : meth.sig.returnType = ret) (hlocks : meth.locks = false) {pc : Nat} {H : Heap} {ls : Array Slot} (hdg : decode code pc = .ok (.ireturn, 1)) : W p l e room_1 s m #[Value.ref b] below meth c H [] 600000 7302250 (lw_Z below #[Value.ref b] s) (F0 m pc ls [.int 1]) := by
  intro T hT X
  obtain ⟨fs, hret, hrun, hended, hW, hframe⟩ := X.leave (v := some (.int 1)) (hlocks := hlocks) (fun h => by rw [hr] at h; cases h)
  have hmeth' : T.vm.method? m = some meth := X.method'
  refine ⟨T.setFrames fs, ?_, .returned (some (.int 1)), hrun, hended, rfl, ⟨_, rfl⟩, hW, hframe⟩
  jvm_step X.here [X.here.top, hx, hb, hdg, hmeth', hr, ret, narrow_b1]
  (try refine ⟨rfl, ?_⟩); (try refine ⟨rfl, ?_⟩)
  first | (intro acts; rw [hret _ acts rfl rfl rfl]) | rw [hret _ _ rfl rfl rfl]
  exact Steps.refl _
/-- what holds at the law's entry: the machine, the code, the tables' words (any of lw_tbl by 'hts w (by decide +kernel)'), the script of L ints xs at the cell b, what the Statement gives of the start (any of its parts by flat_of_before) -/
def lw_At (p : Program) (s : State) (m : MethodId) (meth : Method) (c : Code) (b L : Nat) (xs : Nat → Int32) : Prop :=
  p.tables.exec = Jvm.exec ∧ c.code = code ∧ meth.sig.returnType = ret ∧ c.maxLocals = 4 ∧ s.vm.findClass R_law = some m.cls ∧ (∀ w ∈ lw_tbl, w.before #[Value.ref b] s = true) ∧ va_X b L xs s s.heap ∧ b < s.heap.size ∧ meth.locks = false ∧ (Jvm.Cond.and given_1 narrow_1).before #[Value.ref b] s = true
theorem g_known {args : Array Value} {s : State} (hts : ∀ w ∈ lw_gd, w.before args s = true) : ∃ D : va_G, ∀ (k : Nat) (q : vw_C), gcl[k]? = some q → u_Kn s q.1 q.2.1 q.2.2 (D.1 k) (D.2 k) := by
  have h : ∀ k : Nat, ∃ z : ClassId × (Nat → Nat), ∀ q : vw_C, gcl[k]? = some q → u_Kn s q.1 q.2.1 q.2.2 z.1 z.2 := by
    intro k
    match k with
    | 0 =>
      obtain ⟨c, i, h⟩ := u_known (C := RX0) (T := TX0) (N := 7) (n := 7) hts iX0 (hts _ tw_309)
      exact ⟨(c, i), fun q hq => by cases hq; exact h⟩
    | 1 =>
      obtain ⟨c, i, h⟩ := u_known (C := RX1) (T := TX1) (N := 10) (n := 10) hts iX1 (hts _ tw_51)
      exact ⟨(c, i), fun q hq => by cases hq; exact h⟩
    | 2 =>
      obtain ⟨c, i, h⟩ := u_known (C := RX2) (T := TX2) (N := 8) (n := 8) hts iX2 (hts _ tw_384)
      exact ⟨(c, i), fun q hq => by cases hq; exact h⟩
    | 3 =>
      obtain ⟨c, i, h⟩ := u_known (C := RX3) (T := TX3) (N := 10) (n := 10) hts iX3 (hts _ tw_340)
      exact ⟨(c, i), fun q hq => by cases hq; exact h⟩
    | 4 =>
      obtain ⟨c, i, h⟩ := u_known (C := RX4) (T := TX4) (N := 8) (n := 8) hts iX4 (hts _ tw_31)
      exact ⟨(c, i), fun q hq => by cases hq; exact h⟩
    | 5 =>
      obtain ⟨c, i, h⟩ := u_known (C := RX5) (T := TX5) (N := 7) (n := 7) hts iX5 (hts _ tw_68)
      exact ⟨(c, i), fun q hq => by cases hq; exact h⟩
    | 6 =>
      obtain ⟨c, i, h⟩ := u_known (C := RX6) (T := TX6) (N := 4) (n := 4) hts iX6 (hts _ tw_282)
      exact ⟨(c, i), fun q hq => by cases hq; exact h⟩
    | 7 =>
      obtain ⟨c, i, h⟩ := u_known (C := RX7) (T := TX7) (N := 11) (n := 11) hts iX7 (hts _ tw_196)
      exact ⟨(c, i), fun q hq => by cases hq; exact h⟩
    | 8 =>
      obtain ⟨c, i, h⟩ := u_known (C := RX8) (T := TX8) (N := 1) (n := 1) hts iX8 (hts _ tw_57)
      exact ⟨(c, i), fun q hq => by cases hq; exact h⟩
    | 9 =>
      obtain ⟨c, i, h⟩ := u_known (C := RX9) (T := TX9) (N := 2) (n := 2) hts iX9 (hts _ tw_37)
      exact ⟨(c, i), fun q hq => by cases hq; exact h⟩
    | 10 =>
      obtain ⟨c, i, h⟩ := u_known (C := RX10) (T := TX10) (N := 8) (n := 8) hts iX10 (hts _ tw_202)
      exact ⟨(c, i), fun q hq => by cases hq; exact h⟩
    | 11 =>
      obtain ⟨c, i, h⟩ := u_known (C := RX11) (T := TX11) (N := 14) (n := 14) hts iX11 (hts _ tw_23)
      exact ⟨(c, i), fun q hq => by cases hq; exact h⟩
    | 12 =>
      obtain ⟨c, i, h⟩ := u_known (C := RX12) (T := TX12) (N := 73) (n := 73) hts iX12 (hts _ tw_1396)
      exact ⟨(c, i), fun q hq => by cases hq; exact h⟩
    | k + 13 =>
      obtain ⟨c, i, h⟩ := u_known (C := RX0) (T := TX0) (N := 7) (n := 7) hts iX0 (hts _ tw_309)
      exact ⟨(c, i), fun q hq => by simp [gcl] at hq⟩
  exact ⟨(fun k => (Classical.choose (h k)).1, fun k => (Classical.choose (h k)).2), fun k q hq => Classical.choose_spec (h k) q hq⟩
theorem g_arr1 {args : Array Value} {s : State} {ty : FieldType} (h : (Cond.arrayClass ty).before args s = true) : ∃ cA : ClassId, ArrOfT s cA ty ∧ s.vm.findClass ("[" ++ ty.toString) = some cA := by
  obtain ⟨cA, kA, comp, h1, h2, h3⟩ := Cond.arrayClass_spec h
  exact ⟨cA, fun n z => ⟨fun k h => (by cases h), kA, h2, comp, h3⟩, h1⟩
theorem gdv_X4 : ∀ j, j < 8 → defaultValue (tyX4 j) = vp_V [.null, .null, .int 0, .int 0, .int 0, .int 0, .int 0, .int 0] j := by
  intro j hj
  rcases (show j = 0 ∨ j = 1 ∨ j = 2 ∨ j = 3 ∨ j = 4 ∨ j = 5 ∨ j = 6 ∨ j = 7 by omega) with rfl | rfl | rfl | rfl | rfl | rfl | rfl | rfl <;> rfl
theorem gdv_X9 : ∀ j, j < 2 → defaultValue (tyX9 j) = vp_V [.null, .int 0] j := by
  intro j hj
  rcases (show j = 0 ∨ j = 1 by omega) with rfl | rfl <;> rfl
theorem gdv_X1 : ∀ j, j < 10 → defaultValue (tyX1 j) = vp_V [.null, .null, .null, .int 0, .int 0, .int 0, .int 0, .int 0, .int 0, .int 0] j := by
  intro j hj
  rcases (show j = 0 ∨ j = 1 ∨ j = 2 ∨ j = 3 ∨ j = 4 ∨ j = 5 ∨ j = 6 ∨ j = 7 ∨ j = 8 ∨ j = 9 by omega) with rfl | rfl | rfl | rfl | rfl | rfl | rfl | rfl | rfl | rfl <;> rfl
theorem gdv_X8 : ∀ j, j < 1 → defaultValue (tyX8 j) = vp_V [.null] j := by
  intro j hj
  rcases (show j = 0 by omega) with rfl <;> rfl
theorem gdv_X5 : ∀ j, j < 7 → defaultValue (tyX5 j) = vp_V [.null, .null, .null, .null, .null, .int 0, .int 0] j := by
  intro j hj
  rcases (show j = 0 ∨ j = 1 ∨ j = 2 ∨ j = 3 ∨ j = 4 ∨ j = 5 ∨ j = 6 by omega) with rfl | rfl | rfl | rfl | rfl | rfl | rfl <;> rfl
theorem gdv_X7 : ∀ j, j < 11 → defaultValue (tyX7 j) = vp_V [.null, .null, .null, .null, .null, .null, .null, .null, .int 0, .long 0, .int 0] j := by
  intro j hj
  rcases (show j = 0 ∨ j = 1 ∨ j = 2 ∨ j = 3 ∨ j = 4 ∨ j = 5 ∨ j = 6 ∨ j = 7 ∨ j = 8 ∨ j = 9 ∨ j = 10 by omega) with rfl | rfl | rfl | rfl | rfl | rfl | rfl | rfl | rfl | rfl | rfl <;> rfl
theorem gdv_X10 : ∀ j, j < 8 → defaultValue (tyX10 j) = vp_V [.null, .null, .null, .null, .null, .null, .null, .int 0] j := by
  intro j hj
  rcases (show j = 0 ∨ j = 1 ∨ j = 2 ∨ j = 3 ∨ j = 4 ∨ j = 5 ∨ j = 6 ∨ j = 7 by omega) with rfl | rfl | rfl | rfl | rfl | rfl | rfl | rfl <;> rfl
theorem gdv_X6 : ∀ j, j < 4 → defaultValue (tyX6 j) = vp_V [.null, .null, .null, .long 0] j := by
  intro j hj
  rcases (show j = 0 ∨ j = 1 ∨ j = 2 ∨ j = 3 by omega) with rfl | rfl | rfl | rfl <;> rfl
theorem gdv_X0 : ∀ j, j < 7 → defaultValue (tyX0 j) = vp_V [.null, .null, .int 0, .int 0, .long 0, .int 0, .int 0] j := by
  intro j hj
  rcases (show j = 0 ∨ j = 1 ∨ j = 2 ∨ j = 3 ∨ j = 4 ∨ j = 5 ∨ j = 6 by omega) with rfl | rfl | rfl | rfl | rfl | rfl | rfl <;> rfl
theorem gdv_X3 : ∀ j, j < 10 → defaultValue (tyX3 j) = vp_V [.null, .null, .null, .null, .null, .null, .long 0, .int 0, .long 0, .long 0] j := by
  intro j hj
  rcases (show j = 0 ∨ j = 1 ∨ j = 2 ∨ j = 3 ∨ j = 4 ∨ j = 5 ∨ j = 6 ∨ j = 7 ∨ j = 8 ∨ j = 9 by omega) with rfl | rfl | rfl | rfl | rfl | rfl | rfl | rfl | rfl | rfl <;> rfl
theorem gdv_X2 : ∀ j, j < 8 → defaultValue (tyX2 j) = vp_V [.null, .null, .null, .int 0, .int 0, .int 0, .int 0, .int 0] j := by
  intro j hj
  rcases (show j = 0 ∨ j = 1 ∨ j = 2 ∨ j = 3 ∨ j = 4 ∨ j = 5 ∨ j = 6 ∨ j = 7 by omega) with rfl | rfl | rfl | rfl | rfl | rfl | rfl | rfl <;> rfl
theorem gdv_X11 : ∀ j, j < 14 → defaultValue (tyX11 j) = vp_V [.null, .null, .null, .null, .null, .null, .null, .null, .null, .null, .int 0, .null, .null, .null] j := by
  intro j hj
  rcases (show j = 0 ∨ j = 1 ∨ j = 2 ∨ j = 3 ∨ j = 4 ∨ j = 5 ∨ j = 6 ∨ j = 7 ∨ j = 8 ∨ j = 9 ∨ j = 10 ∨ j = 11 ∨ j = 12 ∨ j = 13 by omega) with rfl | rfl | rfl | rfl | rfl | rfl | rfl | rfl | rfl | rfl | rfl | rfl | rfl | rfl <;> rfl
theorem gdv_X12 : ∀ j, j < 73 → defaultValue (tyX12 j) = vp_V [.null, .int 0, .int 0, .int 0, .int 0, .int 0, .int 0, .int 0, .int 0, .null, .null, .null, .null, .null, .null, .null, .null, .null, .null, .null, .null, .null, .null, .null, .int 0, .int 0, .int 0, .int 0, .int 0, .int 0, .null, .null, .null, .int 0, .null, .int 0, .null, .int 0, .int 0, .null, .null, .null, .null, .int 0, .null, .int 0, .null, .null, .null, .long 0, .null, .null, .null, .null, .null, .null, .null, .null, .null, .int 0, .int 0, .int 0, .long 0, .null, .int 0, .null, .null, .null, .null, .int 0, .int 0, .int 0, .int 0] j := by
  intro j hj
  rcases (show j = 0 ∨ j = 1 ∨ j = 2 ∨ j = 3 ∨ j = 4 ∨ j = 5 ∨ j = 6 ∨ j = 7 ∨ j = 8 ∨ j = 9 ∨ j = 10 ∨ j = 11 ∨ j = 12 ∨ j = 13 ∨ j = 14 ∨ j = 15 ∨ j = 16 ∨ j = 17 ∨ j = 18 ∨ j = 19 ∨ j = 20 ∨ j = 21 ∨ j = 22 ∨ j = 23 ∨ j = 24 ∨ j = 25 ∨ j = 26 ∨ j = 27 ∨ j = 28 ∨ j = 29 ∨ j = 30 ∨ j = 31 ∨ j = 32 ∨ j = 33 ∨ j = 34 ∨ j = 35 ∨ j = 36 ∨ j = 37 ∨ j = 38 ∨ j = 39 ∨ j = 40 ∨ j = 41 ∨ j = 42 ∨ j = 43 ∨ j = 44 ∨ j = 45 ∨ j = 46 ∨ j = 47 ∨ j = 48 ∨ j = 49 ∨ j = 50 ∨ j = 51 ∨ j = 52 ∨ j = 53 ∨ j = 54 ∨ j = 55 ∨ j = 56 ∨ j = 57 ∨ j = 58 ∨ j = 59 ∨ j = 60 ∨ j = 61 ∨ j = 62 ∨ j = 63 ∨ j = 64 ∨ j = 65 ∨ j = 66 ∨ j = 67 ∨ j = 68 ∨ j = 69 ∨ j = 70 ∨ j = 71 ∨ j = 72 by omega) with rfl | rfl | rfl | rfl | rfl | rfl | rfl | rfl | rfl | rfl | rfl | rfl | rfl | rfl | rfl | rfl | rfl | rfl | rfl | rfl | rfl | rfl | rfl | rfl | rfl | rfl | rfl | rfl | rfl | rfl | rfl | rfl | rfl | rfl | rfl | rfl | rfl | rfl | rfl | rfl | rfl | rfl | rfl | rfl | rfl | rfl | rfl | rfl | rfl | rfl | rfl | rfl | rfl | rfl | rfl | rfl | rfl | rfl | rfl | rfl | rfl | rfl | rfl | rfl | rfl | rfl | rfl | rfl | rfl | rfl | rfl | rfl | rfl <;> rfl
def wr_0 : Nat → Int32 := upd (fun _ => 0) (Int32.toNatClampNeg 0) (vp_nar .char 104)
def wr_1 : Nat → Int32 := upd wr_0 (Int32.toNatClampNeg 1) (vp_nar .char 111)
def wr_2 : Nat → Int32 := upd wr_1 (Int32.toNatClampNeg 2) (vp_nar .char 117)
def wr_3 : Nat → Int32 := upd wr_2 (Int32.toNatClampNeg 3) (vp_nar .char 115)
def wr_4 : Nat → Int32 := upd wr_3 (Int32.toNatClampNeg 4) (vp_nar .char 101)
def wr_5 : Nat → Int32 := upd (fun _ => 0) (Int32.toNatClampNeg 0) (vp_nar .char 114)
def wr_6 : Nat → Int32 := upd wr_5 (Int32.toNatClampNeg 1) (vp_nar .char 111)
def wr_7 : Nat → Int32 := upd wr_6 (Int32.toNatClampNeg 2) (vp_nar .char 119)
def wr_8 : Nat → Int32 := upd (fun _ => 0) (Int32.toNatClampNeg 0) (vp_nar .char 119)
def wr_9 : Nat → Int32 := upd wr_8 (Int32.toNatClampNeg 1) (vp_nar .char 111)
def wr_10 : Nat → Int32 := upd wr_9 (Int32.toNatClampNeg 2) (vp_nar .char 114)
def wr_11 : Nat → Int32 := upd wr_10 (Int32.toNatClampNeg 3) (vp_nar .char 100)
def wr_12 : Nat → Int32 := upd wr_10 (Int32.toNatClampNeg 3) (vp_nar .char 116)
def wr_13 : Nat → Int32 := upd wr_12 (Int32.toNatClampNeg 4) (vp_nar .char 104)
def wr_14 : Nat → Int32 := upd (fun _ => 0) (Int32.toNatClampNeg 0) (vp_nar .char 108)
def wr_15 : Nat → Int32 := upd wr_14 (Int32.toNatClampNeg 1) (vp_nar .char 105)
def wr_16 : Nat → Int32 := upd wr_15 (Int32.toNatClampNeg 2) (vp_nar .char 109)
def wr_17 : Nat → Int32 := upd wr_16 (Int32.toNatClampNeg 3) (vp_nar .char 105)
def wr_18 : Nat → Int32 := upd wr_17 (Int32.toNatClampNeg 4) (vp_nar .char 116)
def wr_19 : Nat → Int32 := upd wr_8 (Int32.toNatClampNeg 1) (vp_nar .char 104)
def wr_20 : Nat → Int32 := upd wr_19 (Int32.toNatClampNeg 2) (vp_nar .char 101)
def wr_21 : Nat → Int32 := upd wr_20 (Int32.toNatClampNeg 3) (vp_nar .char 110)
def wr_22 : Nat → Int32 := upd (fun _ => 0) (Int32.toNatClampNeg 0) (vp_nar .char 111)
def wr_23 : Nat → Int32 := upd wr_22 (Int32.toNatClampNeg 1) (vp_nar .char 114)
def wr_24 : Nat → Int32 := upd (fun _ => 0) (Int32.toNatClampNeg 0) (vp_nar .char 97)
def wr_25 : Nat → Int32 := upd wr_24 (Int32.toNatClampNeg 1) (vp_nar .char 110)
def wr_26 : Nat → Int32 := upd wr_25 (Int32.toNatClampNeg 2) (vp_nar .char 100)
def wr_27 : Nat → Int32 := upd (fun _ => 0) (Int32.toNatClampNeg 0) (vp_nar .char 110)
def wr_28 : Nat → Int32 := upd wr_27 (Int32.toNatClampNeg 1) (vp_nar .char 111)
def wr_29 : Nat → Int32 := upd wr_28 (Int32.toNatClampNeg 2) (vp_nar .char 116)
def wr_30 : Nat → Int32 := upd wr_24 (Int32.toNatClampNeg 1) (vp_nar .char 108)
def wr_31 : Nat → Int32 := upd wr_30 (Int32.toNatClampNeg 2) (vp_nar .char 108)
def wr_32 : Nat → Int32 := upd (fun _ => 0) (Int32.toNatClampNeg 0) (vp_nar .char 115)
def wr_33 : Nat → Int32 := upd wr_32 (Int32.toNatClampNeg 1) (vp_nar .char 101)
def wr_34 : Nat → Int32 := upd wr_33 (Int32.toNatClampNeg 2) (vp_nar .char 110)
def wr_35 : Nat → Int32 := upd wr_34 (Int32.toNatClampNeg 3) (vp_nar .char 100)
def wr_36 : Nat → Int32 := upd wr_35 (Int32.toNatClampNeg 4) (vp_nar .char 101)
def wr_37 : Nat → Int32 := upd wr_36 (Int32.toNatClampNeg 5) (vp_nar .char 114)
def wr_38 : Nat → Int32 := upd wr_32 (Int32.toNatClampNeg 1) (vp_nar .char 113)
def wr_39 : Nat → Int32 := upd wr_38 (Int32.toNatClampNeg 2) (vp_nar .char 117)
def wr_40 : Nat → Int32 := upd wr_39 (Int32.toNatClampNeg 3) (vp_nar .char 97)
def wr_41 : Nat → Int32 := upd wr_40 (Int32.toNatClampNeg 4) (vp_nar .char 114)
def wr_42 : Nat → Int32 := upd wr_41 (Int32.toNatClampNeg 5) (vp_nar .char 101)
def wr_43 : Nat → Int32 := upd (fun _ => 0) (Int32.toNatClampNeg 0) (vp_nar .char 112)
def wr_44 : Nat → Int32 := upd wr_43 (Int32.toNatClampNeg 1) (vp_nar .char 101)
def wr_45 : Nat → Int32 := upd wr_44 (Int32.toNatClampNeg 2) (vp_nar .char 97)
def wr_46 : Nat → Int32 := upd wr_45 (Int32.toNatClampNeg 3) (vp_nar .char 107)
def wr_47 : Nat → Int32 := upd (fun _ => 0) (Int32.toNatClampNeg 0) (vp_nar .char 109)
def wr_48 : Nat → Int32 := upd wr_47 (Int32.toNatClampNeg 1) (vp_nar .char 105)
def wr_49 : Nat → Int32 := upd wr_48 (Int32.toNatClampNeg 2) (vp_nar .char 110)
def wr_50 : Nat → Int32 := upd wr_47 (Int32.toNatClampNeg 1) (vp_nar .char 97)
def wr_51 : Nat → Int32 := upd wr_50 (Int32.toNatClampNeg 2) (vp_nar .char 120)
theorem te_0 {f g : Nat → Int32} {n m : Int} (h1 : n = 0) (h2 : m = 0) : tEq f n g m := ⟨by omega, fun i => by rw [taub_out (by omega), tau_out (by omega)]⟩
