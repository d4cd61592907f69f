section
def flW (a b r : Int64) : Prop := (a ^^^ b < 0 ∧ ¬ a / b * b = a → r = a / b - 1) ∧ (¬ (a ^^^ b < 0 ∧ ¬ a / b * b = a) → r = a / b)
theorem fdlE_noRow0 : (NativeRow.find? natives yJ9_floorDiv_f86c9.cls yJ9_floorDiv_f86c9.name yJ9_floorDiv_f86c9.desc).isNone = true := by decide +kernel
theorem fdlE_noRow (p : Program) : NativeRow.find? p.tables.natives yJ9_floorDiv_f86c9.cls yJ9_floorDiv_f86c9.name yJ9_floorDiv_f86c9.desc = none := by
  cases p <;> exact Option.isNone_iff_eq_none.mp fdlE_noRow0
def fdlE_spec : Spec := { pre := .and (.code yJ9_floorDiv_f86c9 cJ9_floorDiv_f86c9 6 (some .long)) (.and (.count 2) (.and (.isLong (.arg 0)) (.and (.isLong (.arg 1)) (.not (.eq (.arg 1) (.long 0)))))), post := .and .returned (.and (.isLong .result) (.or (.and (.and (.lt (.op2 .lxor (.arg 0) (.arg 1)) (.long 0)) (.not (.eq (.op2 .lmul (.op2 .ldiv (.arg 0) (.arg 1)) (.arg 1)) (.arg 0)))) (.eq .result (.op2 .lsub (.op2 .ldiv (.arg 0) (.arg 1)) (.long 1)))) (.and (.not (.and (.lt (.op2 .lxor (.arg 0) (.arg 1)) (.long 0)) (.not (.eq (.op2 .lmul (.op2 .ldiv (.arg 0) (.arg 1)) (.arg 1)) (.arg 0))))) (.eq .result (.op2 .ldiv (.arg 0) (.arg 1)))))), changes := some [] }
set_option maxHeartbeats 4000000 in
theorem fdlE_meets (l : Launch) : MeetsLoose l yJ9_floorDiv_f86c9 fdlE_spec := by
  refine MeetsLoose.of_body_ov (code := cJ9_floorDiv_f86c9) (maxLocals := 6) (ret := some .long) fdlE_noRow ?_ ?_
  · intro args s h
    simp only [fdlE_spec, Cond.before_and, Bool.and_eq_true] at h
    exact h.1
  · intro p e s m args below meth c s₁ B
    have hpre := B.pre
    simp only [fdlE_spec, Cond.before_and, Bool.and_eq_true] at hpre
    obtain ⟨a, b, rfl⟩ := Lib.MathLoose.two_longs hpre.2.1 hpre.2.2.1 hpre.2.2.2.1
    have hb0 : ¬ b = 0 := by
      intro h
      have q := hpre.2.2.2.2
      subst h
      simp [Cond.before, Cond.holds, Cond.value, Term.eval] at q
    have hloc : argsToLocals #[.long a, .long b] 6 = #[.val (.long a), .second, .val (.long b), .second, .unset, .unset] := rfl
    have fin : ∀ r : Int64, flW a b r → (∀ fs, Steps p.tables e below (s₁.setTop (entryFrame m #[.long a, .long b] 6)) (s₁.setFrames fs) ∨ handOver s₁ (some (.long r)) below ≠ some fs) →
        ∃ s₂ o, Steps p.tables e below (s₁.setTop (entryFrame m #[.long a, .long b] 6)) s₂ ∧ s₂.status = .running ∧ Ended s₂ below o ∧
          fdlE_spec.ensures #[.long a, .long b] s o s₂ := by
      intro r hr hwalk
      obtain ⟨fs, hfs⟩ := handOver_isSome (s := s₁) (some (.long r)) B.hears₁
      refine ⟨s₁.setFrames fs, .returned (some (.long r)), (hwalk fs).resolve_right (fun h => h hfs), B.here.running, B.ended hfs (by intro h; cases h), ?_, State.sameBut_nil.mpr ?_⟩
      · by_cases c1 : a ^^^ b < 0
        · by_cases c2 : a / b * b = a
          · have er := hr.2 (fun q => q.2 c2)
            subst er
            simp [fdlE_spec, Cond.after, Cond.holds, Cond.value, Term.eval, Binary.apply, hb0, c1, c2]
          · have er := hr.1 ⟨c1, c2⟩
            subst er
            simp [fdlE_spec, Cond.after, Cond.holds, Cond.value, Term.eval, Binary.apply, hb0, c1, c2]
        · have er := hr.2 (fun q => c1 q.1)
          subst er
          simp [fdlE_spec, Cond.after, Cond.holds, Cond.value, Term.eval, Binary.apply, hb0, c1]
      · rw [State.frames_setFrames _ B.cur₁, B.back]
    by_cases h1 : 0 < a ^^^ b
    ·
      refine fin (a / b) (⟨fun q => absurd q.1 (by rw [Int64.lt_iff_toInt_lt] at h1 ⊢; have z := Int64.toInt_zero; omega), fun _ => rfl⟩) (fun fs => ?_)
      by_cases hfs : handOver s₁ (some (.long (a / b))) below = some fs
      · left
        unfold entryFrame; rw [hloc]
        refine Steps.instrAtOv (c := _) (by simpa using B.here) ?_
        simp [jvm, wpRun, exec, B.here.top, B.exec, B.bytes, storeLocals, storeSelf, setAt, Value.category, dJ9_floorDiv_f86c9_0, ifCond.holds, if_icmp.holds, hb0, h1]
        refine Steps.instrAtOv (c := _) (by simpa using B.here) ?_
        simp [jvm, wpRun, exec, B.here.top, B.exec, B.bytes, storeLocals, storeSelf, setAt, Value.category, dJ9_floorDiv_f86c9_1, ifCond.holds, if_icmp.holds, hb0, h1]
        refine Steps.instrAtOv (c := _) (by simpa using B.here) ?_
        simp [jvm, wpRun, exec, B.here.top, B.exec, B.bytes, storeLocals, storeSelf, setAt, Value.category, dJ9_floorDiv_f86c9_2, ifCond.holds, if_icmp.holds, hb0, h1]
        refine Steps.instrAtOv (c := _) (by simpa using B.here) ?_
        simp [jvm, wpRun, exec, B.here.top, B.exec, B.bytes, storeLocals, storeSelf, setAt, Value.category, dJ9_floorDiv_f86c9_3, ifCond.holds, if_icmp.holds, hb0, h1]
        refine Steps.instrAtOv (c := _) (by simpa using B.here) ?_
        simp [jvm, wpRun, exec, B.here.top, B.exec, B.bytes, storeLocals, storeSelf, setAt, Value.category, dJ9_floorDiv_f86c9_5, ifCond.holds, if_icmp.holds, hb0, h1]
        refine Steps.instrAtOv (c := _) (by simpa using B.here) ?_
        simp [jvm, wpRun, exec, B.here.top, B.exec, B.bytes, storeLocals, storeSelf, setAt, Value.category, dJ9_floorDiv_f86c9_6, ifCond.holds, if_icmp.holds, hb0, h1]
        refine Steps.instrAtOv (c := _) (by simpa using B.here) ?_
        simp [jvm, wpRun, exec, B.here.top, B.exec, B.bytes, storeLocals, storeSelf, setAt, Value.category, dJ9_floorDiv_f86c9_7, ifCond.holds, if_icmp.holds, hb0, h1]
        refine Steps.instrAtOv (c := _) (by simpa using B.here) ?_
        simp [jvm, wpRun, exec, B.here.top, B.exec, B.bytes, storeLocals, storeSelf, setAt, Value.category, dJ9_floorDiv_f86c9_8, ifCond.holds, if_icmp.holds, hb0, h1]
        refine Steps.instrAtOv (c := _) (by simpa using B.here) ?_
        simp [jvm, wpRun, exec, B.here.top, B.exec, B.bytes, storeLocals, storeSelf, setAt, Value.category, dJ9_floorDiv_f86c9_9, ifCond.holds, if_icmp.holds, hb0, h1]
        refine Steps.instrAtOv (c := _) (by simpa using B.here) ?_
        simp [jvm, wpRun, exec, B.here.top, B.exec, B.bytes, storeLocals, storeSelf, setAt, Value.category, dJ9_floorDiv_f86c9_10, ifCond.holds, if_icmp.holds, hb0, h1]
        refine Steps.instrAtOv (c := _) (by simpa using B.here) ?_
        simp [jvm, wpRun, exec, B.here.top, B.exec, B.bytes, storeLocals, storeSelf, setAt, Value.category, dJ9_floorDiv_f86c9_27, ifCond.holds, if_icmp.holds, hb0, h1]
        refine Steps.instrAtOv (c := _) (by simpa using B.here) ?_
        simp [jvm, wpRun, exec, B.here.top, B.exec, B.bytes, storeLocals, storeSelf, setAt, Value.category, dJ9_floorDiv_f86c9_29, ifCond.holds, if_icmp.holds, hb0, h1, B.method₁, B.returns, narrow]
        intro acts
        rw [ret_to B.frames₁ B.method₁ B.notSynchronized rfl rfl hfs]
        exact Steps.refl _
      · exact Or.inr hfs
    by_cases h2 : a ^^^ b = 0
    ·
      refine fin (a / b) (⟨fun q => absurd q.1 (by rw [h2]; decide), fun _ => rfl⟩) (fun fs => ?_)
      by_cases hfs : handOver s₁ (some (.long (a / b))) below = some fs
      · left
        unfold entryFrame; rw [hloc]
        refine Steps.instrAtOv (c := _) (by simpa using B.here) ?_
        simp [jvm, wpRun, exec, B.here.top, B.exec, B.bytes, storeLocals, storeSelf, setAt, Value.category, dJ9_floorDiv_f86c9_0, ifCond.holds, if_icmp.holds, hb0, h1, h2]
        refine Steps.instrAtOv (c := _) (by simpa using B.here) ?_
        simp [jvm, wpRun, exec, B.here.top, B.exec, B.bytes, storeLocals, storeSelf, setAt, Value.category, dJ9_floorDiv_f86c9_1, ifCond.holds, if_icmp.holds, hb0, h1, h2]
        refine Steps.instrAtOv (c := _) (by simpa using B.here) ?_
        simp [jvm, wpRun, exec, B.here.top, B.exec, B.bytes, storeLocals, storeSelf, setAt, Value.category, dJ9_floorDiv_f86c9_2, ifCond.holds, if_icmp.holds, hb0, h1, h2]
        refine Steps.instrAtOv (c := _) (by simpa using B.here) ?_
        simp [jvm, wpRun, exec, B.here.top, B.exec, B.bytes, storeLocals, storeSelf, setAt, Value.category, dJ9_floorDiv_f86c9_3, ifCond.holds, if_icmp.holds, hb0, h1, h2]
        refine Steps.instrAtOv (c := _) (by simpa using B.here) ?_
        simp [jvm, wpRun, exec, B.here.top, B.exec, B.bytes, storeLocals, storeSelf, setAt, Value.category, dJ9_floorDiv_f86c9_5, ifCond.holds, if_icmp.holds, hb0, h1, h2]
        refine Steps.instrAtOv (c := _) (by simpa using B.here) ?_
        simp [jvm, wpRun, exec, B.here.top, B.exec, B.bytes, storeLocals, storeSelf, setAt, Value.category, dJ9_floorDiv_f86c9_6, ifCond.holds, if_icmp.holds, hb0, h1, h2]
        refine Steps.instrAtOv (c := _) (by simpa using B.here) ?_
        simp [jvm, wpRun, exec, B.here.top, B.exec, B.bytes, storeLocals, storeSelf, setAt, Value.category, dJ9_floorDiv_f86c9_7, ifCond.holds, if_icmp.holds, hb0, h1, h2]
        refine Steps.instrAtOv (c := _) (by simpa using B.here) ?_
        simp [jvm, wpRun, exec, B.here.top, B.exec, B.bytes, storeLocals, storeSelf, setAt, Value.category, dJ9_floorDiv_f86c9_8, ifCond.holds, if_icmp.holds, hb0, h1, h2]
        refine Steps.instrAtOv (c := _) (by simpa using B.here) ?_
        simp [jvm, wpRun, exec, B.here.top, B.exec, B.bytes, storeLocals, storeSelf, setAt, Value.category, dJ9_floorDiv_f86c9_9, ifCond.holds, if_icmp.holds, hb0, h1, h2]
        refine Steps.instrAtOv (c := _) (by simpa using B.here) ?_
        simp [jvm, wpRun, exec, B.here.top, B.exec, B.bytes, storeLocals, storeSelf, setAt, Value.category, dJ9_floorDiv_f86c9_10, ifCond.holds, if_icmp.holds, hb0, h1, h2]
        refine Steps.instrAtOv (c := _) (by simpa using B.here) ?_
        simp [jvm, wpRun, exec, B.here.top, B.exec, B.bytes, storeLocals, storeSelf, setAt, Value.category, dJ9_floorDiv_f86c9_27, ifCond.holds, if_icmp.holds, hb0, h1, h2]
        refine Steps.instrAtOv (c := _) (by simpa using B.here) ?_
        simp [jvm, wpRun, exec, B.here.top, B.exec, B.bytes, storeLocals, storeSelf, setAt, Value.category, dJ9_floorDiv_f86c9_29, ifCond.holds, if_icmp.holds, hb0, h1, h2, B.method₁, B.returns, narrow]
        intro acts
        rw [ret_to B.frames₁ B.method₁ B.notSynchronized rfl rfl hfs]
        exact Steps.refl _
      · exact Or.inr hfs
    have hneg : a ^^^ b < 0 := by
      rw [Int64.lt_iff_toInt_lt] at h1 ⊢
      have z := Int64.toInt_zero
      have h2 : ¬ (a ^^^ b).toInt = (0 : Int64).toInt := fun q => h2 (Int64.toInt_inj.mp q)
      omega
    by_cases h3 : a < a / b * b
    ·
      refine fin (a / b - 1) (⟨fun _ => rfl, fun q => absurd ⟨hneg, fun z => by rw [z] at h3; exact absurd h3 (by rw [Int64.lt_iff_toInt_lt]; omega)⟩ q⟩) (fun fs => ?_)
      by_cases hfs : handOver s₁ (some (.long (a / b - 1))) below = some fs
      · left
        unfold entryFrame; rw [hloc]
        refine Steps.instrAtOv (c := _) (by simpa using B.here) ?_
        simp [jvm, wpRun, exec, B.here.top, B.exec, B.bytes, storeLocals, storeSelf, setAt, Value.category, dJ9_floorDiv_f86c9_0, ifCond.holds, if_icmp.holds, hb0, h1, h2, h3]
        refine Steps.instrAtOv (c := _) (by simpa using B.here) ?_
        simp [jvm, wpRun, exec, B.here.top, B.exec, B.bytes, storeLocals, storeSelf, setAt, Value.category, dJ9_floorDiv_f86c9_1, ifCond.holds, if_icmp.holds, hb0, h1, h2, h3]
        refine Steps.instrAtOv (c := _) (by simpa using B.here) ?_
        simp [jvm, wpRun, exec, B.here.top, B.exec, B.bytes, storeLocals, storeSelf, setAt, Value.category, dJ9_floorDiv_f86c9_2, ifCond.holds, if_icmp.holds, hb0, h1, h2, h3]
        refine Steps.instrAtOv (c := _) (by simpa using B.here) ?_
        simp [jvm, wpRun, exec, B.here.top, B.exec, B.bytes, storeLocals, storeSelf, setAt, Value.category, dJ9_floorDiv_f86c9_3, ifCond.holds, if_icmp.holds, hb0, h1, h2, h3]
        refine Steps.instrAtOv (c := _) (by simpa using B.here) ?_
        simp [jvm, wpRun, exec, B.here.top, B.exec, B.bytes, storeLocals, storeSelf, setAt, Value.category, dJ9_floorDiv_f86c9_5, ifCond.holds, if_icmp.holds, hb0, h1, h2, h3]
        refine Steps.instrAtOv (c := _) (by simpa using B.here) ?_
        simp [jvm, wpRun, exec, B.here.top, B.exec, B.bytes, storeLocals, storeSelf, setAt, Value.category, dJ9_floorDiv_f86c9_6, ifCond.holds, if_icmp.holds, hb0, h1, h2, h3]
        refine Steps.instrAtOv (c := _) (by simpa using B.here) ?_
        simp [jvm, wpRun, exec, B.here.top, B.exec, B.bytes, storeLocals, storeSelf, setAt, Value.category, dJ9_floorDiv_f86c9_7, ifCond.holds, if_icmp.holds, hb0, h1, h2, h3]
        refine Steps.instrAtOv (c := _) (by simpa using B.here) ?_
        simp [jvm, wpRun, exec, B.here.top, B.exec, B.bytes, storeLocals, storeSelf, setAt, Value.category, dJ9_floorDiv_f86c9_8, ifCond.holds, if_icmp.holds, hb0, h1, h2, h3]
        refine Steps.instrAtOv (c := _) (by simpa using B.here) ?_
        simp [jvm, wpRun, exec, B.here.top, B.exec, B.bytes, storeLocals, storeSelf, setAt, Value.category, dJ9_floorDiv_f86c9_9, ifCond.holds, if_icmp.holds, hb0, h1, h2, h3]
        refine Steps.instrAtOv (c := _) (by simpa using B.here) ?_
        simp [jvm, wpRun, exec, B.here.top, B.exec, B.bytes, storeLocals, storeSelf, setAt, Value.category, dJ9_floorDiv_f86c9_10, ifCond.holds, if_icmp.holds, hb0, h1, h2, h3]
        refine Steps.instrAtOv (c := _) (by simpa using B.here) ?_
        simp [jvm, wpRun, exec, B.here.top, B.exec, B.bytes, storeLocals, storeSelf, setAt, Value.category, dJ9_floorDiv_f86c9_13, ifCond.holds, if_icmp.holds, hb0, h1, h2, h3]
        refine Steps.instrAtOv (c := _) (by simpa using B.here) ?_
        simp [jvm, wpRun, exec, B.here.top, B.exec, B.bytes, storeLocals, storeSelf, setAt, Value.category, dJ9_floorDiv_f86c9_15, ifCond.holds, if_icmp.holds, hb0, h1, h2, h3]
        refine Steps.instrAtOv (c := _) (by simpa using B.here) ?_
        simp [jvm, wpRun, exec, B.here.top, B.exec, B.bytes, storeLocals, storeSelf, setAt, Value.category, dJ9_floorDiv_f86c9_16, ifCond.holds, if_icmp.holds, hb0, h1, h2, h3]
        refine Steps.instrAtOv (c := _) (by simpa using B.here) ?_
        simp [jvm, wpRun, exec, B.here.top, B.exec, B.bytes, storeLocals, storeSelf, setAt, Value.category, dJ9_floorDiv_f86c9_17, ifCond.holds, if_icmp.holds, hb0, h1, h2, h3]
        refine Steps.instrAtOv (c := _) (by simpa using B.here) ?_
        simp [jvm, wpRun, exec, B.here.top, B.exec, B.bytes, storeLocals, storeSelf, setAt, Value.category, dJ9_floorDiv_f86c9_18, ifCond.holds, if_icmp.holds, hb0, h1, h2, h3]
        refine Steps.instrAtOv (c := _) (by simpa using B.here) ?_
        simp [jvm, wpRun, exec, B.here.top, B.exec, B.bytes, storeLocals, storeSelf, setAt, Value.category, dJ9_floorDiv_f86c9_19, ifCond.holds, if_icmp.holds, hb0, h1, h2, h3]
        refine Steps.instrAtOv (c := _) (by simpa using B.here) ?_
        simp [jvm, wpRun, exec, B.here.top, B.exec, B.bytes, storeLocals, storeSelf, setAt, Value.category, dJ9_floorDiv_f86c9_22, ifCond.holds, if_icmp.holds, hb0, h1, h2, h3]
        refine Steps.instrAtOv (c := _) (by simpa using B.here) ?_
        simp [jvm, wpRun, exec, B.here.top, B.exec, B.bytes, storeLocals, storeSelf, setAt, Value.category, dJ9_floorDiv_f86c9_24, ifCond.holds, if_icmp.holds, hb0, h1, h2, h3]
        refine Steps.instrAtOv (c := _) (by simpa using B.here) ?_
        simp [jvm, wpRun, exec, B.here.top, B.exec, B.bytes, storeLocals, storeSelf, setAt, Value.category, dJ9_floorDiv_f86c9_25, ifCond.holds, if_icmp.holds, hb0, h1, h2, h3]
        refine Steps.instrAtOv (c := _) (by simpa using B.here) ?_
        simp [jvm, wpRun, exec, B.here.top, B.exec, B.bytes, storeLocals, storeSelf, setAt, Value.category, dJ9_floorDiv_f86c9_26, ifCond.holds, if_icmp.holds, hb0, h1, h2, h3, B.method₁, B.returns, narrow]
        intro acts
        rw [ret_to B.frames₁ B.method₁ B.notSynchronized rfl rfl hfs]
        exact Steps.refl _
      · exact Or.inr hfs
    by_cases h4 : a / b * b = a
    ·
      refine fin (a / b) (⟨fun q => absurd h4 q.2, fun _ => rfl⟩) (fun fs => ?_)
      by_cases hfs : handOver s₁ (some (.long (a / b))) below = some fs
      · left
        unfold entryFrame; rw [hloc]
        refine Steps.instrAtOv (c := _) (by simpa using B.here) ?_
        simp [jvm, wpRun, exec, B.here.top, B.exec, B.bytes, storeLocals, storeSelf, setAt, Value.category, dJ9_floorDiv_f86c9_0, ifCond.holds, if_icmp.holds, hb0, h1, h2, h3, h4]
        refine Steps.instrAtOv (c := _) (by simpa using B.here) ?_
        simp [jvm, wpRun, exec, B.here.top, B.exec, B.bytes, storeLocals, storeSelf, setAt, Value.category, dJ9_floorDiv_f86c9_1, ifCond.holds, if_icmp.holds, hb0, h1, h2, h3, h4]
        refine Steps.instrAtOv (c := _) (by simpa using B.here) ?_
        simp [jvm, wpRun, exec, B.here.top, B.exec, B.bytes, storeLocals, storeSelf, setAt, Value.category, dJ9_floorDiv_f86c9_2, ifCond.holds, if_icmp.holds, hb0, h1, h2, h3, h4]
        refine Steps.instrAtOv (c := _) (by simpa using B.here) ?_
        simp [jvm, wpRun, exec, B.here.top, B.exec, B.bytes, storeLocals, storeSelf, setAt, Value.category, dJ9_floorDiv_f86c9_3, ifCond.holds, if_icmp.holds, hb0, h1, h2, h3, h4]
        refine Steps.instrAtOv (c := _) (by simpa using B.here) ?_
        simp [jvm, wpRun, exec, B.here.top, B.exec, B.bytes, storeLocals, storeSelf, setAt, Value.category, dJ9_floorDiv_f86c9_5, ifCond.holds, if_icmp.holds, hb0, h1, h2, h3, h4]
        refine Steps.instrAtOv (c := _) (by simpa using B.here) ?_
        simp [jvm, wpRun, exec, B.here.top, B.exec, B.bytes, storeLocals, storeSelf, setAt, Value.category, dJ9_floorDiv_f86c9_6, ifCond.holds, if_icmp.holds, hb0, h1, h2, h3, h4]
        refine Steps.instrAtOv (c := _) (by simpa using B.here) ?_
        simp [jvm, wpRun, exec, B.here.top, B.exec, B.bytes, storeLocals, storeSelf, setAt, Value.category, dJ9_floorDiv_f86c9_7, ifCond.holds, if_icmp.holds, hb0, h1, h2, h3, h4]
        refine Steps.instrAtOv (c := _) (by simpa using B.here) ?_
        simp [jvm, wpRun, exec, B.here.top, B.exec, B.bytes, storeLocals, storeSelf, setAt, Value.category, dJ9_floorDiv_f86c9_8, ifCond.holds, if_icmp.holds, hb0, h1, h2, h3, h4]
        refine Steps.instrAtOv (c := _) (by simpa using B.here) ?_
        simp [jvm, wpRun, exec, B.here.top, B.exec, B.bytes, storeLocals, storeSelf, setAt, Value.category, dJ9_floorDiv_f86c9_9, ifCond.holds, if_icmp.holds, hb0, h1, h2, h3, h4]
        refine Steps.instrAtOv (c := _) (by simpa using B.here) ?_
        simp [jvm, wpRun, exec, B.here.top, B.exec, B.bytes, storeLocals, storeSelf, setAt, Value.category, dJ9_floorDiv_f86c9_10, ifCond.holds, if_icmp.holds, hb0, h1, h2, h3, h4]
        refine Steps.instrAtOv (c := _) (by simpa using B.here) ?_
        simp [jvm, wpRun, exec, B.here.top, B.exec, B.bytes, storeLocals, storeSelf, setAt, Value.category, dJ9_floorDiv_f86c9_13, ifCond.holds, if_icmp.holds, hb0, h1, h2, h3, h4]
        refine Steps.instrAtOv (c := _) (by simpa using B.here) ?_
        simp [jvm, wpRun, exec, B.here.top, B.exec, B.bytes, storeLocals, storeSelf, setAt, Value.category, dJ9_floorDiv_f86c9_15, ifCond.holds, if_icmp.holds, hb0, h1, h2, h3, h4]
        refine Steps.instrAtOv (c := _) (by simpa using B.here) ?_
        simp [jvm, wpRun, exec, B.here.top, B.exec, B.bytes, storeLocals, storeSelf, setAt, Value.category, dJ9_floorDiv_f86c9_16, ifCond.holds, if_icmp.holds, hb0, h1, h2, h3, h4]
        refine Steps.instrAtOv (c := _) (by simpa using B.here) ?_
        simp [jvm, wpRun, exec, B.here.top, B.exec, B.bytes, storeLocals, storeSelf, setAt, Value.category, dJ9_floorDiv_f86c9_17, ifCond.holds, if_icmp.holds, hb0, h1, h2, h3, h4]
        refine Steps.instrAtOv (c := _) (by simpa using B.here) ?_
        simp [jvm, wpRun, exec, B.here.top, B.exec, B.bytes, storeLocals, storeSelf, setAt, Value.category, dJ9_floorDiv_f86c9_18, ifCond.holds, if_icmp.holds, hb0, h1, h2, h3, h4]
        refine Steps.instrAtOv (c := _) (by simpa using B.here) ?_
        simp [jvm, wpRun, exec, B.here.top, B.exec, B.bytes, storeLocals, storeSelf, setAt, Value.category, dJ9_floorDiv_f86c9_19, ifCond.holds, if_icmp.holds, hb0, h1, h2, h3, h4]
        refine Steps.instrAtOv (c := _) (by simpa using B.here) ?_
        simp [jvm, wpRun, exec, B.here.top, B.exec, B.bytes, storeLocals, storeSelf, setAt, Value.category, dJ9_floorDiv_f86c9_27, ifCond.holds, if_icmp.holds, hb0, h1, h2, h3, h4]
        refine Steps.instrAtOv (c := _) (by simpa using B.here) ?_
        simp [jvm, wpRun, exec, B.here.top, B.exec, B.bytes, storeLocals, storeSelf, setAt, Value.category, dJ9_floorDiv_f86c9_29, ifCond.holds, if_icmp.holds, hb0, h1, h2, h3, h4, B.method₁, B.returns, narrow]
        intro acts
        rw [ret_to B.frames₁ B.method₁ B.notSynchronized rfl rfl hfs]
        exact Steps.refl _
      · exact Or.inr hfs
    refine fin (a / b - 1) (⟨fun _ => rfl, fun q => absurd ⟨hneg, h4⟩ q⟩) (fun fs => ?_)
    by_cases hfs : handOver s₁ (some (.long (a / b - 1))) below = some fs
    · left
      unfold entryFrame; rw [hloc]
      refine Steps.instrAtOv (c := _) (by simpa using B.here) ?_
      simp [jvm, wpRun, exec, B.here.top, B.exec, B.bytes, storeLocals, storeSelf, setAt, Value.category, dJ9_floorDiv_f86c9_0, ifCond.holds, if_icmp.holds, hb0, h1, h2, h3, h4]
      refine Steps.instrAtOv (c := _) (by simpa using B.here) ?_
      simp [jvm, wpRun, exec, B.here.top, B.exec, B.bytes, storeLocals, storeSelf, setAt, Value.category, dJ9_floorDiv_f86c9_1, ifCond.holds, if_icmp.holds, hb0, h1, h2, h3, h4]
      refine Steps.instrAtOv (c := _) (by simpa using B.here) ?_
      simp [jvm, wpRun, exec, B.here.top, B.exec, B.bytes, storeLocals, storeSelf, setAt, Value.category, dJ9_floorDiv_f86c9_2, ifCond.holds, if_icmp.holds, hb0, h1, h2, h3, h4]
      refine Steps.instrAtOv (c := _) (by simpa using B.here) ?_
      simp [jvm, wpRun, exec, B.here.top, B.exec, B.bytes, storeLocals, storeSelf, setAt, Value.category, dJ9_floorDiv_f86c9_3, ifCond.holds, if_icmp.holds, hb0, h1, h2, h3, h4]
      refine Steps.instrAtOv (c := _) (by simpa using B.here) ?_
      simp [jvm, wpRun, exec, B.here.top, B.exec, B.bytes, storeLocals, storeSelf, setAt, Value.category, dJ9_floorDiv_f86c9_5, ifCond.holds, if_icmp.holds, hb0, h1, h2, h3, h4]
      refine Steps.instrAtOv (c := _) (by simpa using B.here) ?_
      simp [jvm, wpRun, exec, B.here.top, B.exec, B.bytes, storeLocals, storeSelf, setAt, Value.category, dJ9_floorDiv_f86c9_6, ifCond.holds, if_icmp.holds, hb0, h1, h2, h3, h4]
      refine Steps.instrAtOv (c := _) (by simpa using B.here) ?_
      simp [jvm, wpRun, exec, B.here.top, B.exec, B.bytes, storeLocals, storeSelf, setAt, Value.category, dJ9_floorDiv_f86c9_7, ifCond.holds, if_icmp.holds, hb0, h1, h2, h3, h4]
      refine Steps.instrAtOv (c := _) (by simpa using B.here) ?_
      simp [jvm, wpRun, exec, B.here.top, B.exec, B.bytes, storeLocals, storeSelf, setAt, Value.category, dJ9_floorDiv_f86c9_8, ifCond.holds, if_icmp.holds, hb0, h1, h2, h3, h4]
      refine Steps.instrAtOv (c := _) (by simpa using B.here) ?_
      simp [jvm, wpRun, exec, B.here.top, B.exec, B.bytes, storeLocals, storeSelf, setAt, Value.category, dJ9_floorDiv_f86c9_9, ifCond.holds, if_icmp.holds, hb0, h1, h2, h3, h4]
      refine Steps.instrAtOv (c := _) (by simpa using B.here) ?_
      simp [jvm, wpRun, exec, B.here.top, B.exec, B.bytes, storeLocals, storeSelf, setAt, Value.category, dJ9_floorDiv_f86c9_10, ifCond.holds, if_icmp.holds, hb0, h1, h2, h3, h4]
      refine Steps.instrAtOv (c := _) (by simpa using B.here) ?_
      simp [jvm, wpRun, exec, B.here.top, B.exec, B.bytes, storeLocals, storeSelf, setAt, Value.category, dJ9_floorDiv_f86c9_13, ifCond.holds, if_icmp.holds, hb0, h1, h2, h3, h4]
      refine Steps.instrAtOv (c := _) (by simpa using B.here) ?_
      simp [jvm, wpRun, exec, B.here.top, B.exec, B.bytes, storeLocals, storeSelf, setAt, Value.category, dJ9_floorDiv_f86c9_15, ifCond.holds, if_icmp.holds, hb0, h1, h2, h3, h4]
      refine Steps.instrAtOv (c := _) (by simpa using B.here) ?_
      simp [jvm, wpRun, exec, B.here.top, B.exec, B.bytes, storeLocals, storeSelf, setAt, Value.category, dJ9_floorDiv_f86c9_16, ifCond.holds, if_icmp.holds, hb0, h1, h2, h3, h4]
      refine Steps.instrAtOv (c := _) (by simpa using B.here) ?_
      simp [jvm, wpRun, exec, B.here.top, B.exec, B.bytes, storeLocals, storeSelf, setAt, Value.category, dJ9_floorDiv_f86c9_17, ifCond.holds, if_icmp.holds, hb0, h1, h2, h3, h4]
      refine Steps.instrAtOv (c := _) (by simpa using B.here) ?_
      simp [jvm, wpRun, exec, B.here.top, B.exec, B.bytes, storeLocals, storeSelf, setAt, Value.category, dJ9_floorDiv_f86c9_18, ifCond.holds, if_icmp.holds, hb0, h1, h2, h3, h4]
      refine Steps.instrAtOv (c := _) (by simpa using B.here) ?_
      simp [jvm, wpRun, exec, B.here.top, B.exec, B.bytes, storeLocals, storeSelf, setAt, Value.category, dJ9_floorDiv_f86c9_19, ifCond.holds, if_icmp.holds, hb0, h1, h2, h3, h4]
      refine Steps.instrAtOv (c := _) (by simpa using B.here) ?_
      simp [jvm, wpRun, exec, B.here.top, B.exec, B.bytes, storeLocals, storeSelf, setAt, Value.category, dJ9_floorDiv_f86c9_22, ifCond.holds, if_icmp.holds, hb0, h1, h2, h3, h4]
      refine Steps.instrAtOv (c := _) (by simpa using B.here) ?_
      simp [jvm, wpRun, exec, B.here.top, B.exec, B.bytes, storeLocals, storeSelf, setAt, Value.category, dJ9_floorDiv_f86c9_24, ifCond.holds, if_icmp.holds, hb0, h1, h2, h3, h4]
      refine Steps.instrAtOv (c := _) (by simpa using B.here) ?_
      simp [jvm, wpRun, exec, B.here.top, B.exec, B.bytes, storeLocals, storeSelf, setAt, Value.category, dJ9_floorDiv_f86c9_25, ifCond.holds, if_icmp.holds, hb0, h1, h2, h3, h4]
      refine Steps.instrAtOv (c := _) (by simpa using B.here) ?_
      simp [jvm, wpRun, exec, B.here.top, B.exec, B.bytes, storeLocals, storeSelf, setAt, Value.category, dJ9_floorDiv_f86c9_26, ifCond.holds, if_icmp.holds, hb0, h1, h2, h3, h4, B.method₁, B.returns, narrow]
      intro acts
      rw [ret_to B.frames₁ B.method₁ B.notSynchronized rfl rfl hfs]
      exact Steps.refl _
    · exact Or.inr hfs

section FDlE
variable {p : Program} {l : Launch} {e : Env} {R : Room} {s : State} {m : MethodId} {args : Array Value} {below : List Frame} {meth : Method} {c : Code} {T : State} {H : Heap} {locs : List Loc} {cells slots : Nat} {Q : State → Prop}
theorem fdlE_V (X : Stand p l e R s m args below meth c T locs cells slots) (hexec : p.tables.exec = Jvm.exec) {own : String} {index : Nat} (hown : s.vm.findClass own = some m.cls)
    (hlink : (Cond.methodLink own index yJ9_floorDiv_f86c9).before args s = true) (hstat : (Cond.static yJ9_floorDiv_f86c9).before args s = true) (hinit : (Cond.initialized "java/lang/Math").before args s = true)
    (hcode : (Cond.code yJ9_floorDiv_f86c9 cJ9_floorDiv_f86c9 6 (some .long)).before args s = true)
    {g : JFrame} (hg : g.method = m) (hsize : g.locals.size = c.maxLocals) {a b : Int64} (hb0 : ¬ b = 0) {rest : List Value} (hstack : g.stack = .long b :: .long a :: rest) (hdg : decode c.code g.pc = .ok (.invokestatic index, 3))
    (hframes : 1 ≤ R.frames) (hlocals : 2 * g.monitorRoom + (rest.map fun v => v.category).sum + 17 ≤ R.locals) (hcells : cells ≤ R.cells) (hslots : slots ≤ R.slots) :
    ∃ (r : Int64) (vm' : Vm), flW a b r ∧ Stand p l e R s m args below meth c (T.setVm vm') locs cells slots ∧
      ∀ target, Steps p.tables e below ((T.setVm vm').setTop { g with pc := g.pc + 3, stack := .long r :: rest }) target → Steps p.tables e below (T.setTop g) target := by
  obtain ⟨v, T', X', ⟨first, t, hpost⟩, hstep⟩ := X.staticByContractV hexec hown hlink hstat hinit hcode (by decide)
    (fdlE_meets l)
    rfl rfl rfl rfl
    (fun args' first o s₂ h => by
      cases o with
      | returned r => exact ⟨r, rfl⟩
      | threw y => simp [fdlE_spec, Cond.after, Cond.holds, Cond.value] at h)
    hg hsize (argsL := [.long a, .long b]) (rest := rest)
    (fun sig hs => by
      have h : parseMethodDescriptor "(JJ)J" = some { parameters := [.long, .long], returnType := some .long } := by decide +kernel
      rw [show yJ9_floorDiv_f86c9.desc = "(JJ)J" from rfl, h] at hs
      rw [← Option.some.inj hs]; rfl)
    hstack hdg
    (fun vm' hW => by
      simp only [fdlE_spec, Cond.before_and, Bool.and_eq_true]
      refine ⟨?_, rfl, rfl, rfl, ?_⟩
      · have q := hcode
        rw [← Cond.code_setVm hW.alike] at q
        simp only [Cond.before, Cond.holds, Cond.value, State.methodNamed?, State.vm_setVm] at q ⊢
        exact q
      · simp [Cond.before, Cond.holds, Cond.value, Term.eval, hb0])
    (by show 0 + 1 ≤ R.frames; omega) (by show 2 * g.monitorRoom + (rest.map fun v => v.category).sum + (6 + 11) + 0 ≤ R.locals; omega) (by show cells + 0 ≤ R.cells; omega) (by show slots + 0 ≤ R.slots; omega)
  obtain ⟨r, rfl⟩ : ∃ r : Int64, v = some (.long r) := by
    rcases v with _ | w
    · simp [fdlE_spec, Cond.after, Cond.holds, Cond.value, Term.eval] at hpost
    · cases w <;> first | exact ⟨_, rfl⟩ | (simp [fdlE_spec, Cond.after, Cond.holds, Cond.value, Term.eval] at hpost; done)
  have hr : flW a b r := by
    by_cases c1 : a ^^^ b < 0
    · by_cases c2 : a / b * b = a
      · simp [fdlE_spec, Cond.after, Cond.holds, Cond.value, Term.eval, Binary.apply, hb0, c1, c2] at hpost
        exact ⟨fun q => absurd c2 q.2, fun _ => hpost⟩
      · simp [fdlE_spec, Cond.after, Cond.holds, Cond.value, Term.eval, Binary.apply, hb0, c1, c2] at hpost
        exact ⟨fun _ => by
          by_cases er : r = a / b - 1
          · exact er
          · simp [er] at hpost, fun q => absurd ⟨c1, c2⟩ q⟩
    · simp [fdlE_spec, Cond.after, Cond.holds, Cond.value, Term.eval, Binary.apply, hb0, c1] at hpost
      exact ⟨fun q => absurd q.1 c1, fun _ => hpost⟩
  exact ⟨r, T', hr, X', fun target h => hstep target h⟩
theorem va_fdlE {cc : ByteArray} {pc : Nat} {ls : Array Slot} {rest : List Value} (hexec : p.tables.exec = Jvm.exec) (hb : c.code = cc) (hml : c.maxLocals = ls.size) {own : String} {index : Nat} (hown : s.vm.findClass own = some m.cls) (hlink : (Cond.methodLink own index yJ9_floorDiv_f86c9).before args s = true) (hstat : (Cond.static yJ9_floorDiv_f86c9).before args s = true) (hini : (Cond.initialized "java/lang/Math").before args s = true) (hcode : (Cond.code yJ9_floorDiv_f86c9 cJ9_floorDiv_f86c9 6 (some .long)).before args s = true)
    (hframes : 1 ≤ R.frames) (hlocals : (rest.map fun v => v.category).sum + 17 ≤ R.locals) (hc : cells ≤ R.cells) (hs : slots ≤ R.slots) {x y : Int64} (hy0 : ¬ y = 0) (hdg : decode cc pc = .ok (.invokestatic index, 3))
    (kk : ∀ r : Int64, flW x y r → W p l e R s m args below meth c H locs cells slots Q (F0 m (pc + 3) ls (.long r :: rest))) : W p l e R s m args below meth c H locs cells slots Q (F0 m pc ls (.long y :: .long x :: rest)) := by
  intro T hT X
  obtain ⟨r, vm', hr, X', st⟩ := fdlE_V X hexec hown hlink hstat hini hcode (g := F0 m pc ls (.long y :: .long x :: rest)) rfl (by rw [hml]) (a := x) (b := y) hy0 (rest := rest) rfl (by rw [hb]; exact hdg) hframes (by show 2 * 0 + _ + 17 ≤ _; omega) hc hs
  obtain ⟨t, a1, b1⟩ := kk r hr (T.setVm vm') hT X'
  exact ⟨t, st t a1, b1⟩
end FDlE
end
