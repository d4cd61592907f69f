section
theorem dJ9_floorDiv_f86c9_0 : decode cJ9_floorDiv_f86c9 0 = .ok (.lload_n 0, 1) := by decide +kernel
theorem dJ9_floorDiv_f86c9_1 : decode cJ9_floorDiv_f86c9 1 = .ok (.lload_n 2, 1) := by decide +kernel
theorem dJ9_floorDiv_f86c9_2 : decode cJ9_floorDiv_f86c9 2 = .ok (.ldiv, 1) := by decide +kernel
theorem dJ9_floorDiv_f86c9_3 : decode cJ9_floorDiv_f86c9 3 = .ok (.lstore 4, 2) := by decide +kernel
theorem dJ9_floorDiv_f86c9_5 : decode cJ9_floorDiv_f86c9 5 = .ok (.lload_n 0, 1) := by decide +kernel
theorem dJ9_floorDiv_f86c9_6 : decode cJ9_floorDiv_f86c9 6 = .ok (.lload_n 2, 1) := by decide +kernel
theorem dJ9_floorDiv_f86c9_7 : decode cJ9_floorDiv_f86c9 7 = .ok (.lxor, 1) := by decide +kernel
theorem dJ9_floorDiv_f86c9_8 : decode cJ9_floorDiv_f86c9 8 = .ok (.lconst 0, 1) := by decide +kernel
theorem dJ9_floorDiv_f86c9_9 : decode cJ9_floorDiv_f86c9 9 = .ok (.lcmp, 1) := by decide +kernel
theorem dJ9_floorDiv_f86c9_10 : decode cJ9_floorDiv_f86c9 10 = .ok (.ifCond .ge 17, 3) := by decide +kernel
theorem dJ9_floorDiv_f86c9_13 : decode cJ9_floorDiv_f86c9 13 = .ok (.lload 4, 2) := by decide +kernel
theorem dJ9_floorDiv_f86c9_15 : decode cJ9_floorDiv_f86c9 15 = .ok (.lload_n 2, 1) := by decide +kernel
theorem dJ9_floorDiv_f86c9_16 : decode cJ9_floorDiv_f86c9 16 = .ok (.lmul, 1) := by decide +kernel
theorem dJ9_floorDiv_f86c9_17 : decode cJ9_floorDiv_f86c9 17 = .ok (.lload_n 0, 1) := by decide +kernel
theorem dJ9_floorDiv_f86c9_18 : decode cJ9_floorDiv_f86c9 18 = .ok (.lcmp, 1) := by decide +kernel
theorem dJ9_floorDiv_f86c9_19 : decode cJ9_floorDiv_f86c9 19 = .ok (.ifCond .eq 8, 3) := by decide +kernel
theorem dJ9_floorDiv_f86c9_22 : decode cJ9_floorDiv_f86c9 22 = .ok (.lload 4, 2) := by decide +kernel
theorem dJ9_floorDiv_f86c9_24 : decode cJ9_floorDiv_f86c9 24 = .ok (.lconst 1, 1) := by decide +kernel
theorem dJ9_floorDiv_f86c9_25 : decode cJ9_floorDiv_f86c9 25 = .ok (.lsub, 1) := by decide +kernel
theorem dJ9_floorDiv_f86c9_26 : decode cJ9_floorDiv_f86c9 26 = .ok (.lreturn, 1) := by decide +kernel
theorem dJ9_floorDiv_f86c9_27 : decode cJ9_floorDiv_f86c9 27 = .ok (.lload 4, 2) := by decide +kernel
theorem dJ9_floorDiv_f86c9_29 : decode cJ9_floorDiv_f86c9 29 = .ok (.lreturn, 1) := by decide +kernel
theorem dJ9_floorDiv_7cf53_0 : decode cJ9_floorDiv_7cf53 0 = .ok (.iload_n 0, 1) := by decide +kernel
theorem dJ9_floorDiv_7cf53_1 : decode cJ9_floorDiv_7cf53 1 = .ok (.iload_n 1, 1) := by decide +kernel
theorem dJ9_floorDiv_7cf53_2 : decode cJ9_floorDiv_7cf53 2 = .ok (.idiv, 1) := by decide +kernel
theorem dJ9_floorDiv_7cf53_3 : decode cJ9_floorDiv_7cf53 3 = .ok (.istore_n 2, 1) := by decide +kernel
theorem dJ9_floorDiv_7cf53_4 : decode cJ9_floorDiv_7cf53 4 = .ok (.iload_n 0, 1) := by decide +kernel
theorem dJ9_floorDiv_7cf53_5 : decode cJ9_floorDiv_7cf53 5 = .ok (.iload_n 1, 1) := by decide +kernel
theorem dJ9_floorDiv_7cf53_6 : decode cJ9_floorDiv_7cf53 6 = .ok (.ixor, 1) := by decide +kernel
theorem dJ9_floorDiv_7cf53_7 : decode cJ9_floorDiv_7cf53 7 = .ok (.ifCond .ge 14, 3) := by decide +kernel
theorem dJ9_floorDiv_7cf53_10 : decode cJ9_floorDiv_7cf53 10 = .ok (.iload_n 2, 1) := by decide +kernel
theorem dJ9_floorDiv_7cf53_11 : decode cJ9_floorDiv_7cf53 11 = .ok (.iload_n 1, 1) := by decide +kernel
theorem dJ9_floorDiv_7cf53_12 : decode cJ9_floorDiv_7cf53 12 = .ok (.imul, 1) := by decide +kernel
theorem dJ9_floorDiv_7cf53_13 : decode cJ9_floorDiv_7cf53 13 = .ok (.iload_n 0, 1) := by decide +kernel
theorem dJ9_floorDiv_7cf53_14 : decode cJ9_floorDiv_7cf53 14 = .ok (.if_icmp .eq 7, 3) := by decide +kernel
theorem dJ9_floorDiv_7cf53_17 : decode cJ9_floorDiv_7cf53 17 = .ok (.iload_n 2, 1) := by decide +kernel
theorem dJ9_floorDiv_7cf53_18 : decode cJ9_floorDiv_7cf53 18 = .ok (.iconst 1, 1) := by decide +kernel
theorem dJ9_floorDiv_7cf53_19 : decode cJ9_floorDiv_7cf53 19 = .ok (.isub, 1) := by decide +kernel
theorem dJ9_floorDiv_7cf53_20 : decode cJ9_floorDiv_7cf53 20 = .ok (.ireturn, 1) := by decide +kernel
theorem dJ9_floorDiv_7cf53_21 : decode cJ9_floorDiv_7cf53 21 = .ok (.iload_n 2, 1) := by decide +kernel
theorem dJ9_floorDiv_7cf53_22 : decode cJ9_floorDiv_7cf53 22 = .ok (.ireturn, 1) := by decide +kernel
theorem fdl_noRow0 : (NativeRow.find? natives yJ9_floorDiv_f86c9.cls yJ9_floorDiv_f86c9.name yJ9_floorDiv_f86c9.desc).isNone = true := by decide +kernel
theorem fdl_noRow (p : Program) : NativeRow.find? p.tables.natives yJ9_floorDiv_f86c9.cls yJ9_floorDiv_f86c9.name yJ9_floorDiv_f86c9.desc = none := by
  cases p <;> exact Option.isNone_iff_eq_none.mp fdl_noRow0
def fdl_spec : Spec := { pre := .and (.code yJ9_floorDiv_f86c9 cJ9_floorDiv_f86c9 6 (some .long)) (.and (.count 2) (.and (.isLong (.arg 0)) (.and (.isLong (.arg 1)) (.not (.eq (.arg 1) (.long 0)))))), post := .and .returned (.isLong .result), changes := some [] }
set_option maxHeartbeats 4000000 in
theorem fdl_meets (l : Launch) : MeetsLoose l yJ9_floorDiv_f86c9 fdl_spec := by
  refine MeetsLoose.of_body_ov (code := cJ9_floorDiv_f86c9) (maxLocals := 6) (ret := some .long) fdl_noRow ?_ ?_
  · intro args s h
    simp only [fdl_spec, Cond.before_and, Bool.and_eq_true] at h
    exact h.1
  · intro p e s m args below meth c s₁ B
    have hpre := B.pre
    simp only [fdl_spec, Cond.before_and, Bool.and_eq_true] at hpre
    obtain ⟨a, b, rfl⟩ := Lib.MathLoose.two_longs hpre.2.1 hpre.2.2.1 hpre.2.2.2.1
    have hb0 : ¬ b = 0 := by
      intro h
      have q := hpre.2.2.2.2
      subst h
      simp [Cond.before, Cond.holds, Cond.value, Term.eval] at q
    have hloc : argsToLocals #[.long a, .long b] 6 = #[.val (.long a), .second, .val (.long b), .second, .unset, .unset] := rfl
    have fin : ∀ r : Int64, (∀ fs, Steps p.tables e below (s₁.setTop (entryFrame m #[.long a, .long b] 6)) (s₁.setFrames fs) ∨ handOver s₁ (some (.long r)) below ≠ some fs) →
        ∃ s₂ o, Steps p.tables e below (s₁.setTop (entryFrame m #[.long a, .long b] 6)) s₂ ∧ s₂.status = .running ∧ Ended s₂ below o ∧
          fdl_spec.ensures #[.long a, .long b] s o s₂ := by
      intro r hwalk
      obtain ⟨fs, hfs⟩ := handOver_isSome (s := s₁) (some (.long r)) B.hears₁
      refine ⟨s₁.setFrames fs, .returned (some (.long r)), (hwalk fs).resolve_right (fun h => h hfs), B.here.running, B.ended hfs (by intro h; cases h), ?_, State.sameBut_nil.mpr ?_⟩
      · simp [fdl_spec, Cond.after, Cond.holds, Cond.value, Term.eval]
      · rw [State.frames_setFrames _ B.cur₁, B.back]
    by_cases h1 : 0 < a ^^^ b
    ·
      refine fin (a / b) (fun fs => ?_)
      by_cases hfs : handOver s₁ (some (.long (a / b))) below = some fs
      · left
        unfold entryFrame; rw [hloc]
        refine Steps.instrAtOv (c := _) (by simpa using B.here) ?_
        simp [jvm, wpRun, exec, B.here.top, B.exec, B.bytes, storeLocals, storeSelf, setAt, Value.category, dJ9_floorDiv_f86c9_0, ifCond.holds, if_icmp.holds, hb0, h1]
        refine Steps.instrAtOv (c := _) (by simpa using B.here) ?_
        simp [jvm, wpRun, exec, B.here.top, B.exec, B.bytes, storeLocals, storeSelf, setAt, Value.category, dJ9_floorDiv_f86c9_1, ifCond.holds, if_icmp.holds, hb0, h1]
        refine Steps.instrAtOv (c := _) (by simpa using B.here) ?_
        simp [jvm, wpRun, exec, B.here.top, B.exec, B.bytes, storeLocals, storeSelf, setAt, Value.category, dJ9_floorDiv_f86c9_2, ifCond.holds, if_icmp.holds, hb0, h1]
        refine Steps.instrAtOv (c := _) (by simpa using B.here) ?_
        simp [jvm, wpRun, exec, B.here.top, B.exec, B.bytes, storeLocals, storeSelf, setAt, Value.category, dJ9_floorDiv_f86c9_3, ifCond.holds, if_icmp.holds, hb0, h1]
        refine Steps.instrAtOv (c := _) (by simpa using B.here) ?_
        simp [jvm, wpRun, exec, B.here.top, B.exec, B.bytes, storeLocals, storeSelf, setAt, Value.category, dJ9_floorDiv_f86c9_5, ifCond.holds, if_icmp.holds, hb0, h1]
        refine Steps.instrAtOv (c := _) (by simpa using B.here) ?_
        simp [jvm, wpRun, exec, B.here.top, B.exec, B.bytes, storeLocals, storeSelf, setAt, Value.category, dJ9_floorDiv_f86c9_6, ifCond.holds, if_icmp.holds, hb0, h1]
        refine Steps.instrAtOv (c := _) (by simpa using B.here) ?_
        simp [jvm, wpRun, exec, B.here.top, B.exec, B.bytes, storeLocals, storeSelf, setAt, Value.category, dJ9_floorDiv_f86c9_7, ifCond.holds, if_icmp.holds, hb0, h1]
        refine Steps.instrAtOv (c := _) (by simpa using B.here) ?_
        simp [jvm, wpRun, exec, B.here.top, B.exec, B.bytes, storeLocals, storeSelf, setAt, Value.category, dJ9_floorDiv_f86c9_8, ifCond.holds, if_icmp.holds, hb0, h1]
        refine Steps.instrAtOv (c := _) (by simpa using B.here) ?_
        simp [jvm, wpRun, exec, B.here.top, B.exec, B.bytes, storeLocals, storeSelf, setAt, Value.category, dJ9_floorDiv_f86c9_9, ifCond.holds, if_icmp.holds, hb0, h1]
        refine Steps.instrAtOv (c := _) (by simpa using B.here) ?_
        simp [jvm, wpRun, exec, B.here.top, B.exec, B.bytes, storeLocals, storeSelf, setAt, Value.category, dJ9_floorDiv_f86c9_10, ifCond.holds, if_icmp.holds, hb0, h1]
        refine Steps.instrAtOv (c := _) (by simpa using B.here) ?_
        simp [jvm, wpRun, exec, B.here.top, B.exec, B.bytes, storeLocals, storeSelf, setAt, Value.category, dJ9_floorDiv_f86c9_27, ifCond.holds, if_icmp.holds, hb0, h1]
        refine Steps.instrAtOv (c := _) (by simpa using B.here) ?_
        simp [jvm, wpRun, exec, B.here.top, B.exec, B.bytes, storeLocals, storeSelf, setAt, Value.category, dJ9_floorDiv_f86c9_29, ifCond.holds, if_icmp.holds, hb0, h1, B.method₁, B.returns, narrow]
        intro acts
        rw [ret_to B.frames₁ B.method₁ B.notSynchronized rfl rfl hfs]
        exact Steps.refl _
      · exact Or.inr hfs
    by_cases h2 : a ^^^ b = 0
    ·
      refine fin (a / b) (fun fs => ?_)
      by_cases hfs : handOver s₁ (some (.long (a / b))) below = some fs
      · left
        unfold entryFrame; rw [hloc]
        refine Steps.instrAtOv (c := _) (by simpa using B.here) ?_
        simp [jvm, wpRun, exec, B.here.top, B.exec, B.bytes, storeLocals, storeSelf, setAt, Value.category, dJ9_floorDiv_f86c9_0, ifCond.holds, if_icmp.holds, hb0, h1, h2]
        refine Steps.instrAtOv (c := _) (by simpa using B.here) ?_
        simp [jvm, wpRun, exec, B.here.top, B.exec, B.bytes, storeLocals, storeSelf, setAt, Value.category, dJ9_floorDiv_f86c9_1, ifCond.holds, if_icmp.holds, hb0, h1, h2]
        refine Steps.instrAtOv (c := _) (by simpa using B.here) ?_
        simp [jvm, wpRun, exec, B.here.top, B.exec, B.bytes, storeLocals, storeSelf, setAt, Value.category, dJ9_floorDiv_f86c9_2, ifCond.holds, if_icmp.holds, hb0, h1, h2]
        refine Steps.instrAtOv (c := _) (by simpa using B.here) ?_
        simp [jvm, wpRun, exec, B.here.top, B.exec, B.bytes, storeLocals, storeSelf, setAt, Value.category, dJ9_floorDiv_f86c9_3, ifCond.holds, if_icmp.holds, hb0, h1, h2]
        refine Steps.instrAtOv (c := _) (by simpa using B.here) ?_
        simp [jvm, wpRun, exec, B.here.top, B.exec, B.bytes, storeLocals, storeSelf, setAt, Value.category, dJ9_floorDiv_f86c9_5, ifCond.holds, if_icmp.holds, hb0, h1, h2]
        refine Steps.instrAtOv (c := _) (by simpa using B.here) ?_
        simp [jvm, wpRun, exec, B.here.top, B.exec, B.bytes, storeLocals, storeSelf, setAt, Value.category, dJ9_floorDiv_f86c9_6, ifCond.holds, if_icmp.holds, hb0, h1, h2]
        refine Steps.instrAtOv (c := _) (by simpa using B.here) ?_
        simp [jvm, wpRun, exec, B.here.top, B.exec, B.bytes, storeLocals, storeSelf, setAt, Value.category, dJ9_floorDiv_f86c9_7, ifCond.holds, if_icmp.holds, hb0, h1, h2]
        refine Steps.instrAtOv (c := _) (by simpa using B.here) ?_
        simp [jvm, wpRun, exec, B.here.top, B.exec, B.bytes, storeLocals, storeSelf, setAt, Value.category, dJ9_floorDiv_f86c9_8, ifCond.holds, if_icmp.holds, hb0, h1, h2]
        refine Steps.instrAtOv (c := _) (by simpa using B.here) ?_
        simp [jvm, wpRun, exec, B.here.top, B.exec, B.bytes, storeLocals, storeSelf, setAt, Value.category, dJ9_floorDiv_f86c9_9, ifCond.holds, if_icmp.holds, hb0, h1, h2]
        refine Steps.instrAtOv (c := _) (by simpa using B.here) ?_
        simp [jvm, wpRun, exec, B.here.top, B.exec, B.bytes, storeLocals, storeSelf, setAt, Value.category, dJ9_floorDiv_f86c9_10, ifCond.holds, if_icmp.holds, hb0, h1, h2]
        refine Steps.instrAtOv (c := _) (by simpa using B.here) ?_
        simp [jvm, wpRun, exec, B.here.top, B.exec, B.bytes, storeLocals, storeSelf, setAt, Value.category, dJ9_floorDiv_f86c9_27, ifCond.holds, if_icmp.holds, hb0, h1, h2]
        refine Steps.instrAtOv (c := _) (by simpa using B.here) ?_
        simp [jvm, wpRun, exec, B.here.top, B.exec, B.bytes, storeLocals, storeSelf, setAt, Value.category, dJ9_floorDiv_f86c9_29, ifCond.holds, if_icmp.holds, hb0, h1, h2, B.method₁, B.returns, narrow]
        intro acts
        rw [ret_to B.frames₁ B.method₁ B.notSynchronized rfl rfl hfs]
        exact Steps.refl _
      · exact Or.inr hfs
    by_cases h3 : a < a / b * b
    ·
      refine fin (a / b - 1) (fun fs => ?_)
      by_cases hfs : handOver s₁ (some (.long (a / b - 1))) below = some fs
      · left
        unfold entryFrame; rw [hloc]
        refine Steps.instrAtOv (c := _) (by simpa using B.here) ?_
        simp [jvm, wpRun, exec, B.here.top, B.exec, B.bytes, storeLocals, storeSelf, setAt, Value.category, dJ9_floorDiv_f86c9_0, ifCond.holds, if_icmp.holds, hb0, h1, h2, h3]
        refine Steps.instrAtOv (c := _) (by simpa using B.here) ?_
        simp [jvm, wpRun, exec, B.here.top, B.exec, B.bytes, storeLocals, storeSelf, setAt, Value.category, dJ9_floorDiv_f86c9_1, ifCond.holds, if_icmp.holds, hb0, h1, h2, h3]
        refine Steps.instrAtOv (c := _) (by simpa using B.here) ?_
        simp [jvm, wpRun, exec, B.here.top, B.exec, B.bytes, storeLocals, storeSelf, setAt, Value.category, dJ9_floorDiv_f86c9_2, ifCond.holds, if_icmp.holds, hb0, h1, h2, h3]
        refine Steps.instrAtOv (c := _) (by simpa using B.here) ?_
        simp [jvm, wpRun, exec, B.here.top, B.exec, B.bytes, storeLocals, storeSelf, setAt, Value.category, dJ9_floorDiv_f86c9_3, ifCond.holds, if_icmp.holds, hb0, h1, h2, h3]
        refine Steps.instrAtOv (c := _) (by simpa using B.here) ?_
        simp [jvm, wpRun, exec, B.here.top, B.exec, B.bytes, storeLocals, storeSelf, setAt, Value.category, dJ9_floorDiv_f86c9_5, ifCond.holds, if_icmp.holds, hb0, h1, h2, h3]
        refine Steps.instrAtOv (c := _) (by simpa using B.here) ?_
        simp [jvm, wpRun, exec, B.here.top, B.exec, B.bytes, storeLocals, storeSelf, setAt, Value.category, dJ9_floorDiv_f86c9_6, ifCond.holds, if_icmp.holds, hb0, h1, h2, h3]
        refine Steps.instrAtOv (c := _) (by simpa using B.here) ?_
        simp [jvm, wpRun, exec, B.here.top, B.exec, B.bytes, storeLocals, storeSelf, setAt, Value.category, dJ9_floorDiv_f86c9_7, ifCond.holds, if_icmp.holds, hb0, h1, h2, h3]
        refine Steps.instrAtOv (c := _) (by simpa using B.here) ?_
        simp [jvm, wpRun, exec, B.here.top, B.exec, B.bytes, storeLocals, storeSelf, setAt, Value.category, dJ9_floorDiv_f86c9_8, ifCond.holds, if_icmp.holds, hb0, h1, h2, h3]
        refine Steps.instrAtOv (c := _) (by simpa using B.here) ?_
        simp [jvm, wpRun, exec, B.here.top, B.exec, B.bytes, storeLocals, storeSelf, setAt, Value.category, dJ9_floorDiv_f86c9_9, ifCond.holds, if_icmp.holds, hb0, h1, h2, h3]
        refine Steps.instrAtOv (c := _) (by simpa using B.here) ?_
        simp [jvm, wpRun, exec, B.here.top, B.exec, B.bytes, storeLocals, storeSelf, setAt, Value.category, dJ9_floorDiv_f86c9_10, ifCond.holds, if_icmp.holds, hb0, h1, h2, h3]
        refine Steps.instrAtOv (c := _) (by simpa using B.here) ?_
        simp [jvm, wpRun, exec, B.here.top, B.exec, B.bytes, storeLocals, storeSelf, setAt, Value.category, dJ9_floorDiv_f86c9_13, ifCond.holds, if_icmp.holds, hb0, h1, h2, h3]
        refine Steps.instrAtOv (c := _) (by simpa using B.here) ?_
        simp [jvm, wpRun, exec, B.here.top, B.exec, B.bytes, storeLocals, storeSelf, setAt, Value.category, dJ9_floorDiv_f86c9_15, ifCond.holds, if_icmp.holds, hb0, h1, h2, h3]
        refine Steps.instrAtOv (c := _) (by simpa using B.here) ?_
        simp [jvm, wpRun, exec, B.here.top, B.exec, B.bytes, storeLocals, storeSelf, setAt, Value.category, dJ9_floorDiv_f86c9_16, ifCond.holds, if_icmp.holds, hb0, h1, h2, h3]
        refine Steps.instrAtOv (c := _) (by simpa using B.here) ?_
        simp [jvm, wpRun, exec, B.here.top, B.exec, B.bytes, storeLocals, storeSelf, setAt, Value.category, dJ9_floorDiv_f86c9_17, ifCond.holds, if_icmp.holds, hb0, h1, h2, h3]
        refine Steps.instrAtOv (c := _) (by simpa using B.here) ?_
        simp [jvm, wpRun, exec, B.here.top, B.exec, B.bytes, storeLocals, storeSelf, setAt, Value.category, dJ9_floorDiv_f86c9_18, ifCond.holds, if_icmp.holds, hb0, h1, h2, h3]
        refine Steps.instrAtOv (c := _) (by simpa using B.here) ?_
        simp [jvm, wpRun, exec, B.here.top, B.exec, B.bytes, storeLocals, storeSelf, setAt, Value.category, dJ9_floorDiv_f86c9_19, ifCond.holds, if_icmp.holds, hb0, h1, h2, h3]
        refine Steps.instrAtOv (c := _) (by simpa using B.here) ?_
        simp [jvm, wpRun, exec, B.here.top, B.exec, B.bytes, storeLocals, storeSelf, setAt, Value.category, dJ9_floorDiv_f86c9_22, ifCond.holds, if_icmp.holds, hb0, h1, h2, h3]
        refine Steps.instrAtOv (c := _) (by simpa using B.here) ?_
        simp [jvm, wpRun, exec, B.here.top, B.exec, B.bytes, storeLocals, storeSelf, setAt, Value.category, dJ9_floorDiv_f86c9_24, ifCond.holds, if_icmp.holds, hb0, h1, h2, h3]
        refine Steps.instrAtOv (c := _) (by simpa using B.here) ?_
        simp [jvm, wpRun, exec, B.here.top, B.exec, B.bytes, storeLocals, storeSelf, setAt, Value.category, dJ9_floorDiv_f86c9_25, ifCond.holds, if_icmp.holds, hb0, h1, h2, h3]
        refine Steps.instrAtOv (c := _) (by simpa using B.here) ?_
        simp [jvm, wpRun, exec, B.here.top, B.exec, B.bytes, storeLocals, storeSelf, setAt, Value.category, dJ9_floorDiv_f86c9_26, ifCond.holds, if_icmp.holds, hb0, h1, h2, h3, B.method₁, B.returns, narrow]
        intro acts
        rw [ret_to B.frames₁ B.method₁ B.notSynchronized rfl rfl hfs]
        exact Steps.refl _
      · exact Or.inr hfs
    by_cases h4 : a / b * b = a
    ·
      refine fin (a / b) (fun fs => ?_)
      by_cases hfs : handOver s₁ (some (.long (a / b))) below = some fs
      · left
        unfold entryFrame; rw [hloc]
        refine Steps.instrAtOv (c := _) (by simpa using B.here) ?_
        simp [jvm, wpRun, exec, B.here.top, B.exec, B.bytes, storeLocals, storeSelf, setAt, Value.category, dJ9_floorDiv_f86c9_0, ifCond.holds, if_icmp.holds, hb0, h1, h2, h3, h4]
        refine Steps.instrAtOv (c := _) (by simpa using B.here) ?_
        simp [jvm, wpRun, exec, B.here.top, B.exec, B.bytes, storeLocals, storeSelf, setAt, Value.category, dJ9_floorDiv_f86c9_1, ifCond.holds, if_icmp.holds, hb0, h1, h2, h3, h4]
        refine Steps.instrAtOv (c := _) (by simpa using B.here) ?_
        simp [jvm, wpRun, exec, B.here.top, B.exec, B.bytes, storeLocals, storeSelf, setAt, Value.category, dJ9_floorDiv_f86c9_2, ifCond.holds, if_icmp.holds, hb0, h1, h2, h3, h4]
        refine Steps.instrAtOv (c := _) (by simpa using B.here) ?_
        simp [jvm, wpRun, exec, B.here.top, B.exec, B.bytes, storeLocals, storeSelf, setAt, Value.category, dJ9_floorDiv_f86c9_3, ifCond.holds, if_icmp.holds, hb0, h1, h2, h3, h4]
        refine Steps.instrAtOv (c := _) (by simpa using B.here) ?_
        simp [jvm, wpRun, exec, B.here.top, B.exec, B.bytes, storeLocals, storeSelf, setAt, Value.category, dJ9_floorDiv_f86c9_5, ifCond.holds, if_icmp.holds, hb0, h1, h2, h3, h4]
        refine Steps.instrAtOv (c := _) (by simpa using B.here) ?_
        simp [jvm, wpRun, exec, B.here.top, B.exec, B.bytes, storeLocals, storeSelf, setAt, Value.category, dJ9_floorDiv_f86c9_6, ifCond.holds, if_icmp.holds, hb0, h1, h2, h3, h4]
        refine Steps.instrAtOv (c := _) (by simpa using B.here) ?_
        simp [jvm, wpRun, exec, B.here.top, B.exec, B.bytes, storeLocals, storeSelf, setAt, Value.category, dJ9_floorDiv_f86c9_7, ifCond.holds, if_icmp.holds, hb0, h1, h2, h3, h4]
        refine Steps.instrAtOv (c := _) (by simpa using B.here) ?_
        simp [jvm, wpRun, exec, B.here.top, B.exec, B.bytes, storeLocals, storeSelf, setAt, Value.category, dJ9_floorDiv_f86c9_8, ifCond.holds, if_icmp.holds, hb0, h1, h2, h3, h4]
        refine Steps.instrAtOv (c := _) (by simpa using B.here) ?_
        simp [jvm, wpRun, exec, B.here.top, B.exec, B.bytes, storeLocals, storeSelf, setAt, Value.category, dJ9_floorDiv_f86c9_9, ifCond.holds, if_icmp.holds, hb0, h1, h2, h3, h4]
        refine Steps.instrAtOv (c := _) (by simpa using B.here) ?_
        simp [jvm, wpRun, exec, B.here.top, B.exec, B.bytes, storeLocals, storeSelf, setAt, Value.category, dJ9_floorDiv_f86c9_10, ifCond.holds, if_icmp.holds, hb0, h1, h2, h3, h4]
        refine Steps.instrAtOv (c := _) (by simpa using B.here) ?_
        simp [jvm, wpRun, exec, B.here.top, B.exec, B.bytes, storeLocals, storeSelf, setAt, Value.category, dJ9_floorDiv_f86c9_13, ifCond.holds, if_icmp.holds, hb0, h1, h2, h3, h4]
        refine Steps.instrAtOv (c := _) (by simpa using B.here) ?_
        simp [jvm, wpRun, exec, B.here.top, B.exec, B.bytes, storeLocals, storeSelf, setAt, Value.category, dJ9_floorDiv_f86c9_15, ifCond.holds, if_icmp.holds, hb0, h1, h2, h3, h4]
        refine Steps.instrAtOv (c := _) (by simpa using B.here) ?_
        simp [jvm, wpRun, exec, B.here.top, B.exec, B.bytes, storeLocals, storeSelf, setAt, Value.category, dJ9_floorDiv_f86c9_16, ifCond.holds, if_icmp.holds, hb0, h1, h2, h3, h4]
        refine Steps.instrAtOv (c := _) (by simpa using B.here) ?_
        simp [jvm, wpRun, exec, B.here.top, B.exec, B.bytes, storeLocals, storeSelf, setAt, Value.category, dJ9_floorDiv_f86c9_17, ifCond.holds, if_icmp.holds, hb0, h1, h2, h3, h4]
        refine Steps.instrAtOv (c := _) (by simpa using B.here) ?_
        simp [jvm, wpRun, exec, B.here.top, B.exec, B.bytes, storeLocals, storeSelf, setAt, Value.category, dJ9_floorDiv_f86c9_18, ifCond.holds, if_icmp.holds, hb0, h1, h2, h3, h4]
        refine Steps.instrAtOv (c := _) (by simpa using B.here) ?_
        simp [jvm, wpRun, exec, B.here.top, B.exec, B.bytes, storeLocals, storeSelf, setAt, Value.category, dJ9_floorDiv_f86c9_19, ifCond.holds, if_icmp.holds, hb0, h1, h2, h3, h4]
        refine Steps.instrAtOv (c := _) (by simpa using B.here) ?_
        simp [jvm, wpRun, exec, B.here.top, B.exec, B.bytes, storeLocals, storeSelf, setAt, Value.category, dJ9_floorDiv_f86c9_27, ifCond.holds, if_icmp.holds, hb0, h1, h2, h3, h4]
        refine Steps.instrAtOv (c := _) (by simpa using B.here) ?_
        simp [jvm, wpRun, exec, B.here.top, B.exec, B.bytes, storeLocals, storeSelf, setAt, Value.category, dJ9_floorDiv_f86c9_29, ifCond.holds, if_icmp.holds, hb0, h1, h2, h3, h4, B.method₁, B.returns, narrow]
        intro acts
        rw [ret_to B.frames₁ B.method₁ B.notSynchronized rfl rfl hfs]
        exact Steps.refl _
      · exact Or.inr hfs
    refine fin (a / b - 1) (fun fs => ?_)
    by_cases hfs : handOver s₁ (some (.long (a / b - 1))) below = some fs
    · left
      unfold entryFrame; rw [hloc]
      refine Steps.instrAtOv (c := _) (by simpa using B.here) ?_
      simp [jvm, wpRun, exec, B.here.top, B.exec, B.bytes, storeLocals, storeSelf, setAt, Value.category, dJ9_floorDiv_f86c9_0, ifCond.holds, if_icmp.holds, hb0, h1, h2, h3, h4]
      refine Steps.instrAtOv (c := _) (by simpa using B.here) ?_
      simp [jvm, wpRun, exec, B.here.top, B.exec, B.bytes, storeLocals, storeSelf, setAt, Value.category, dJ9_floorDiv_f86c9_1, ifCond.holds, if_icmp.holds, hb0, h1, h2, h3, h4]
      refine Steps.instrAtOv (c := _) (by simpa using B.here) ?_
      simp [jvm, wpRun, exec, B.here.top, B.exec, B.bytes, storeLocals, storeSelf, setAt, Value.category, dJ9_floorDiv_f86c9_2, ifCond.holds, if_icmp.holds, hb0, h1, h2, h3, h4]
      refine Steps.instrAtOv (c := _) (by simpa using B.here) ?_
      simp [jvm, wpRun, exec, B.here.top, B.exec, B.bytes, storeLocals, storeSelf, setAt, Value.category, dJ9_floorDiv_f86c9_3, ifCond.holds, if_icmp.holds, hb0, h1, h2, h3, h4]
      refine Steps.instrAtOv (c := _) (by simpa using B.here) ?_
      simp [jvm, wpRun, exec, B.here.top, B.exec, B.bytes, storeLocals, storeSelf, setAt, Value.category, dJ9_floorDiv_f86c9_5, ifCond.holds, if_icmp.holds, hb0, h1, h2, h3, h4]
      refine Steps.instrAtOv (c := _) (by simpa using B.here) ?_
      simp [jvm, wpRun, exec, B.here.top, B.exec, B.bytes, storeLocals, storeSelf, setAt, Value.category, dJ9_floorDiv_f86c9_6, ifCond.holds, if_icmp.holds, hb0, h1, h2, h3, h4]
      refine Steps.instrAtOv (c := _) (by simpa using B.here) ?_
      simp [jvm, wpRun, exec, B.here.top, B.exec, B.bytes, storeLocals, storeSelf, setAt, Value.category, dJ9_floorDiv_f86c9_7, ifCond.holds, if_icmp.holds, hb0, h1, h2, h3, h4]
      refine Steps.instrAtOv (c := _) (by simpa using B.here) ?_
      simp [jvm, wpRun, exec, B.here.top, B.exec, B.bytes, storeLocals, storeSelf, setAt, Value.category, dJ9_floorDiv_f86c9_8, ifCond.holds, if_icmp.holds, hb0, h1, h2, h3, h4]
      refine Steps.instrAtOv (c := _) (by simpa using B.here) ?_
      simp [jvm, wpRun, exec, B.here.top, B.exec, B.bytes, storeLocals, storeSelf, setAt, Value.category, dJ9_floorDiv_f86c9_9, ifCond.holds, if_icmp.holds, hb0, h1, h2, h3, h4]
      refine Steps.instrAtOv (c := _) (by simpa using B.here) ?_
      simp [jvm, wpRun, exec, B.here.top, B.exec, B.bytes, storeLocals, storeSelf, setAt, Value.category, dJ9_floorDiv_f86c9_10, ifCond.holds, if_icmp.holds, hb0, h1, h2, h3, h4]
      refine Steps.instrAtOv (c := _) (by simpa using B.here) ?_
      simp [jvm, wpRun, exec, B.here.top, B.exec, B.bytes, storeLocals, storeSelf, setAt, Value.category, dJ9_floorDiv_f86c9_13, ifCond.holds, if_icmp.holds, hb0, h1, h2, h3, h4]
      refine Steps.instrAtOv (c := _) (by simpa using B.here) ?_
      simp [jvm, wpRun, exec, B.here.top, B.exec, B.bytes, storeLocals, storeSelf, setAt, Value.category, dJ9_floorDiv_f86c9_15, ifCond.holds, if_icmp.holds, hb0, h1, h2, h3, h4]
      refine Steps.instrAtOv (c := _) (by simpa using B.here) ?_
      simp [jvm, wpRun, exec, B.here.top, B.exec, B.bytes, storeLocals, storeSelf, setAt, Value.category, dJ9_floorDiv_f86c9_16, ifCond.holds, if_icmp.holds, hb0, h1, h2, h3, h4]
      refine Steps.instrAtOv (c := _) (by simpa using B.here) ?_
      simp [jvm, wpRun, exec, B.here.top, B.exec, B.bytes, storeLocals, storeSelf, setAt, Value.category, dJ9_floorDiv_f86c9_17, ifCond.holds, if_icmp.holds, hb0, h1, h2, h3, h4]
      refine Steps.instrAtOv (c := _) (by simpa using B.here) ?_
      simp [jvm, wpRun, exec, B.here.top, B.exec, B.bytes, storeLocals, storeSelf, setAt, Value.category, dJ9_floorDiv_f86c9_18, ifCond.holds, if_icmp.holds, hb0, h1, h2, h3, h4]
      refine Steps.instrAtOv (c := _) (by simpa using B.here) ?_
      simp [jvm, wpRun, exec, B.here.top, B.exec, B.bytes, storeLocals, storeSelf, setAt, Value.category, dJ9_floorDiv_f86c9_19, ifCond.holds, if_icmp.holds, hb0, h1, h2, h3, h4]
      refine Steps.instrAtOv (c := _) (by simpa using B.here) ?_
      simp [jvm, wpRun, exec, B.here.top, B.exec, B.bytes, storeLocals, storeSelf, setAt, Value.category, dJ9_floorDiv_f86c9_22, ifCond.holds, if_icmp.holds, hb0, h1, h2, h3, h4]
      refine Steps.instrAtOv (c := _) (by simpa using B.here) ?_
      simp [jvm, wpRun, exec, B.here.top, B.exec, B.bytes, storeLocals, storeSelf, setAt, Value.category, dJ9_floorDiv_f86c9_24, ifCond.holds, if_icmp.holds, hb0, h1, h2, h3, h4]
      refine Steps.instrAtOv (c := _) (by simpa using B.here) ?_
      simp [jvm, wpRun, exec, B.here.top, B.exec, B.bytes, storeLocals, storeSelf, setAt, Value.category, dJ9_floorDiv_f86c9_25, ifCond.holds, if_icmp.holds, hb0, h1, h2, h3, h4]
      refine Steps.instrAtOv (c := _) (by simpa using B.here) ?_
      simp [jvm, wpRun, exec, B.here.top, B.exec, B.bytes, storeLocals, storeSelf, setAt, Value.category, dJ9_floorDiv_f86c9_26, ifCond.holds, if_icmp.holds, hb0, h1, h2, h3, h4, B.method₁, B.returns, narrow]
      intro acts
      rw [ret_to B.frames₁ B.method₁ B.notSynchronized rfl rfl hfs]
      exact Steps.refl _
    · exact Or.inr hfs

section FDl
variable {p : Program} {l : Launch} {e : Env} {R : Room} {s : State} {m : MethodId} {args : Array Value} {below : List Frame} {meth : Method} {c : Code} {T : State} {H : Heap} {locs : List Loc} {cells slots : Nat} {Q : State → Prop}
theorem fdl_V (X : Stand p l e R s m args below meth c T locs cells slots) (hexec : p.tables.exec = Jvm.exec) {own : String} {index : Nat} (hown : s.vm.findClass own = some m.cls)
    (hlink : (Cond.methodLink own index yJ9_floorDiv_f86c9).before args s = true) (hstat : (Cond.static yJ9_floorDiv_f86c9).before args s = true) (hinit : (Cond.initialized "java/lang/Math").before args s = true)
    (hcode : (Cond.code yJ9_floorDiv_f86c9 cJ9_floorDiv_f86c9 6 (some .long)).before args s = true)
    {g : JFrame} (hg : g.method = m) (hsize : g.locals.size = c.maxLocals) {a b : Int64} (hb0 : ¬ b = 0) {rest : List Value} (hstack : g.stack = .long b :: .long a :: rest) (hdg : decode c.code g.pc = .ok (.invokestatic index, 3))
    (hframes : 1 ≤ R.frames) (hlocals : 2 * g.monitorRoom + (rest.map fun v => v.category).sum + 17 ≤ R.locals) (hcells : cells ≤ R.cells) (hslots : slots ≤ R.slots) :
    ∃ (r : Int64) (vm' : Vm), Stand p l e R s m args below meth c (T.setVm vm') locs cells slots ∧
      ∀ target, Steps p.tables e below ((T.setVm vm').setTop { g with pc := g.pc + 3, stack := .long r :: rest }) target → Steps p.tables e below (T.setTop g) target := by
  obtain ⟨v, T', X', ⟨first, t, hpost⟩, hstep⟩ := X.staticByContractV hexec hown hlink hstat hinit hcode (by decide)
    (fdl_meets l)
    rfl rfl rfl rfl
    (fun args' first o s₂ h => by
      cases o with
      | returned r => exact ⟨r, rfl⟩
      | threw y => simp [fdl_spec, Cond.after, Cond.holds, Cond.value] at h)
    hg hsize (argsL := [.long a, .long b]) (rest := rest)
    (fun sig hs => by
      have h : parseMethodDescriptor "(JJ)J" = some { parameters := [.long, .long], returnType := some .long } := by decide +kernel
      rw [show yJ9_floorDiv_f86c9.desc = "(JJ)J" from rfl, h] at hs
      rw [← Option.some.inj hs]; rfl)
    hstack hdg
    (fun vm' hW => by
      simp only [fdl_spec, Cond.before_and, Bool.and_eq_true]
      refine ⟨?_, rfl, rfl, rfl, ?_⟩
      · have q := hcode
        rw [← Cond.code_setVm hW.alike] at q
        simp only [Cond.before, Cond.holds, Cond.value, State.methodNamed?, State.vm_setVm] at q ⊢
        exact q
      · simp [Cond.before, Cond.holds, Cond.value, Term.eval, hb0])
    (by show 0 + 1 ≤ R.frames; omega) (by show 2 * g.monitorRoom + (rest.map fun v => v.category).sum + (6 + 11) + 0 ≤ R.locals; omega) (by show cells + 0 ≤ R.cells; omega) (by show slots + 0 ≤ R.slots; omega)
  obtain ⟨r, rfl⟩ : ∃ r : Int64, v = some (.long r) := by
    rcases v with _ | w
    · simp [fdl_spec, Cond.after, Cond.holds, Cond.value, Term.eval] at hpost
    · cases w <;> first | exact ⟨_, rfl⟩ | (simp [fdl_spec, Cond.after, Cond.holds, Cond.value, Term.eval] at hpost; done)
  exact ⟨r, T', X', fun target h => hstep target h⟩
theorem va_fdl {cc : ByteArray} {pc : Nat} {ls : Array Slot} {rest : List Value} (hexec : p.tables.exec = Jvm.exec) (hb : c.code = cc) (hml : c.maxLocals = ls.size) {own : String} {index : Nat} (hown : s.vm.findClass own = some m.cls) (hlink : (Cond.methodLink own index yJ9_floorDiv_f86c9).before args s = true) (hstat : (Cond.static yJ9_floorDiv_f86c9).before args s = true) (hini : (Cond.initialized "java/lang/Math").before args s = true) (hcode : (Cond.code yJ9_floorDiv_f86c9 cJ9_floorDiv_f86c9 6 (some .long)).before args s = true)
    (hframes : 1 ≤ R.frames) (hlocals : (rest.map fun v => v.category).sum + 17 ≤ R.locals) (hc : cells ≤ R.cells) (hs : slots ≤ R.slots) {x y : Int64} (hy0 : ¬ y = 0) (hdg : decode cc pc = .ok (.invokestatic index, 3))
    (kk : ∀ r : Int64, W p l e R s m args below meth c H locs cells slots Q (F0 m (pc + 3) ls (.long r :: rest))) : W p l e R s m args below meth c H locs cells slots Q (F0 m pc ls (.long y :: .long x :: rest)) := by
  intro T hT X
  obtain ⟨r, vm', X', st⟩ := fdl_V X hexec hown hlink hstat hini hcode (g := F0 m pc ls (.long y :: .long x :: rest)) rfl (by rw [hml]) (a := x) (b := y) hy0 (rest := rest) rfl (by rw [hb]; exact hdg) hframes (by show 2 * 0 + _ + 17 ≤ _; omega) hc hs
  obtain ⟨t, a1, b1⟩ := kk r (T.setVm vm') hT X'
  exact ⟨t, st t a1, b1⟩
end FDl
theorem fdi_noRow0 : (NativeRow.find? natives yJ9_floorDiv_7cf53.cls yJ9_floorDiv_7cf53.name yJ9_floorDiv_7cf53.desc).isNone = true := by decide +kernel
theorem fdi_noRow (p : Program) : NativeRow.find? p.tables.natives yJ9_floorDiv_7cf53.cls yJ9_floorDiv_7cf53.name yJ9_floorDiv_7cf53.desc = none := by
  cases p <;> exact Option.isNone_iff_eq_none.mp fdi_noRow0
def fdi_spec : Spec := { pre := .and (.code yJ9_floorDiv_7cf53 cJ9_floorDiv_7cf53 3 (some .int)) (.and (.count 2) (.and (.isInt (.arg 0)) (.and (.isInt (.arg 1)) (.not (.eq (.arg 1) (.int 0)))))), post := .and .returned (.isInt .result), changes := some [] }
set_option maxHeartbeats 4000000 in
theorem fdi_meets (l : Launch) : MeetsLoose l yJ9_floorDiv_7cf53 fdi_spec := by
  refine MeetsLoose.of_body_ov (code := cJ9_floorDiv_7cf53) (maxLocals := 3) (ret := some .int) fdi_noRow ?_ ?_
  · intro args s h
    simp only [fdi_spec, Cond.before_and, Bool.and_eq_true] at h
    exact h.1
  · intro p e s m args below meth c s₁ B
    have hpre := B.pre
    simp only [fdi_spec, Cond.before_and, Bool.and_eq_true] at hpre
    obtain ⟨a, b, rfl⟩ := Cond.two_ints hpre.2.1 hpre.2.2.1 hpre.2.2.2.1
    have hb0 : ¬ b = 0 := by
      intro h
      have q := hpre.2.2.2.2
      subst h
      simp [Cond.before, Cond.holds, Cond.value, Term.eval] at q
    have hloc : argsToLocals #[.int a, .int b] 3 = #[.val (.int a), .val (.int b), .unset] := rfl
    have fin : ∀ r : Int32, (∀ fs, Steps p.tables e below (s₁.setTop (entryFrame m #[.int a, .int b] 3)) (s₁.setFrames fs) ∨ handOver s₁ (some (.int r)) below ≠ some fs) →
        ∃ s₂ o, Steps p.tables e below (s₁.setTop (entryFrame m #[.int a, .int b] 3)) s₂ ∧ s₂.status = .running ∧ Ended s₂ below o ∧
          fdi_spec.ensures #[.int a, .int b] s o s₂ := by
      intro r hwalk
      obtain ⟨fs, hfs⟩ := handOver_isSome (s := s₁) (some (.int r)) B.hears₁
      refine ⟨s₁.setFrames fs, .returned (some (.int r)), (hwalk fs).resolve_right (fun h => h hfs), B.here.running, B.ended hfs (by intro h; cases h), ?_, State.sameBut_nil.mpr ?_⟩
      · simp [fdi_spec, Cond.after, Cond.holds, Cond.value, Term.eval]
      · rw [State.frames_setFrames _ B.cur₁, B.back]
    by_cases h1 : 0 ≤ a ^^^ b
    ·
      refine fin (a / b) (fun fs => ?_)
      by_cases hfs : handOver s₁ (some (.int (a / b))) below = some fs
      · left
        unfold entryFrame; rw [hloc]
        refine Steps.instrAtOv (c := _) (by simpa using B.here) ?_
        simp [jvm, wpRun, exec, B.here.top, B.exec, B.bytes, storeLocals, storeSelf, setAt, Value.category, dJ9_floorDiv_7cf53_0, ifCond.holds, if_icmp.holds, hb0, h1]
        refine Steps.instrAtOv (c := _) (by simpa using B.here) ?_
        simp [jvm, wpRun, exec, B.here.top, B.exec, B.bytes, storeLocals, storeSelf, setAt, Value.category, dJ9_floorDiv_7cf53_1, ifCond.holds, if_icmp.holds, hb0, h1]
        refine Steps.instrAtOv (c := _) (by simpa using B.here) ?_
        simp [jvm, wpRun, exec, B.here.top, B.exec, B.bytes, storeLocals, storeSelf, setAt, Value.category, dJ9_floorDiv_7cf53_2, ifCond.holds, if_icmp.holds, hb0, h1]
        refine Steps.instrAtOv (c := _) (by simpa using B.here) ?_
        simp [jvm, wpRun, exec, B.here.top, B.exec, B.bytes, storeLocals, storeSelf, setAt, Value.category, dJ9_floorDiv_7cf53_3, ifCond.holds, if_icmp.holds, hb0, h1]
        refine Steps.instrAtOv (c := _) (by simpa using B.here) ?_
        simp [jvm, wpRun, exec, B.here.top, B.exec, B.bytes, storeLocals, storeSelf, setAt, Value.category, dJ9_floorDiv_7cf53_4, ifCond.holds, if_icmp.holds, hb0, h1]
        refine Steps.instrAtOv (c := _) (by simpa using B.here) ?_
        simp [jvm, wpRun, exec, B.here.top, B.exec, B.bytes, storeLocals, storeSelf, setAt, Value.category, dJ9_floorDiv_7cf53_5, ifCond.holds, if_icmp.holds, hb0, h1]
        refine Steps.instrAtOv (c := _) (by simpa using B.here) ?_
        simp [jvm, wpRun, exec, B.here.top, B.exec, B.bytes, storeLocals, storeSelf, setAt, Value.category, dJ9_floorDiv_7cf53_6, ifCond.holds, if_icmp.holds, hb0, h1]
        refine Steps.instrAtOv (c := _) (by simpa using B.here) ?_
        simp [jvm, wpRun, exec, B.here.top, B.exec, B.bytes, storeLocals, storeSelf, setAt, Value.category, dJ9_floorDiv_7cf53_7, ifCond.holds, if_icmp.holds, hb0, h1]
        refine Steps.instrAtOv (c := _) (by simpa using B.here) ?_
        simp [jvm, wpRun, exec, B.here.top, B.exec, B.bytes, storeLocals, storeSelf, setAt, Value.category, dJ9_floorDiv_7cf53_21, ifCond.holds, if_icmp.holds, hb0, h1]
        refine Steps.instrAtOv (c := _) (by simpa using B.here) ?_
        simp [jvm, wpRun, exec, B.here.top, B.exec, B.bytes, storeLocals, storeSelf, setAt, Value.category, dJ9_floorDiv_7cf53_22, ifCond.holds, if_icmp.holds, hb0, h1, B.method₁, B.returns, narrow]
        intro acts
        rw [ret_to B.frames₁ B.method₁ B.notSynchronized rfl rfl hfs]
        exact Steps.refl _
      · exact Or.inr hfs
    by_cases h2 : a / b * b = a
    ·
      refine fin (a / b) (fun fs => ?_)
      by_cases hfs : handOver s₁ (some (.int (a / b))) below = some fs
      · left
        unfold entryFrame; rw [hloc]
        refine Steps.instrAtOv (c := _) (by simpa using B.here) ?_
        simp [jvm, wpRun, exec, B.here.top, B.exec, B.bytes, storeLocals, storeSelf, setAt, Value.category, dJ9_floorDiv_7cf53_0, ifCond.holds, if_icmp.holds, hb0, h1, h2]
        refine Steps.instrAtOv (c := _) (by simpa using B.here) ?_
        simp [jvm, wpRun, exec, B.here.top, B.exec, B.bytes, storeLocals, storeSelf, setAt, Value.category, dJ9_floorDiv_7cf53_1, ifCond.holds, if_icmp.holds, hb0, h1, h2]
        refine Steps.instrAtOv (c := _) (by simpa using B.here) ?_
        simp [jvm, wpRun, exec, B.here.top, B.exec, B.bytes, storeLocals, storeSelf, setAt, Value.category, dJ9_floorDiv_7cf53_2, ifCond.holds, if_icmp.holds, hb0, h1, h2]
        refine Steps.instrAtOv (c := _) (by simpa using B.here) ?_
        simp [jvm, wpRun, exec, B.here.top, B.exec, B.bytes, storeLocals, storeSelf, setAt, Value.category, dJ9_floorDiv_7cf53_3, ifCond.holds, if_icmp.holds, hb0, h1, h2]
        refine Steps.instrAtOv (c := _) (by simpa using B.here) ?_
        simp [jvm, wpRun, exec, B.here.top, B.exec, B.bytes, storeLocals, storeSelf, setAt, Value.category, dJ9_floorDiv_7cf53_4, ifCond.holds, if_icmp.holds, hb0, h1, h2]
        refine Steps.instrAtOv (c := _) (by simpa using B.here) ?_
        simp [jvm, wpRun, exec, B.here.top, B.exec, B.bytes, storeLocals, storeSelf, setAt, Value.category, dJ9_floorDiv_7cf53_5, ifCond.holds, if_icmp.holds, hb0, h1, h2]
        refine Steps.instrAtOv (c := _) (by simpa using B.here) ?_
        simp [jvm, wpRun, exec, B.here.top, B.exec, B.bytes, storeLocals, storeSelf, setAt, Value.category, dJ9_floorDiv_7cf53_6, ifCond.holds, if_icmp.holds, hb0, h1, h2]
        refine Steps.instrAtOv (c := _) (by simpa using B.here) ?_
        simp [jvm, wpRun, exec, B.here.top, B.exec, B.bytes, storeLocals, storeSelf, setAt, Value.category, dJ9_floorDiv_7cf53_7, ifCond.holds, if_icmp.holds, hb0, h1, h2]
        refine Steps.instrAtOv (c := _) (by simpa using B.here) ?_
        simp [jvm, wpRun, exec, B.here.top, B.exec, B.bytes, storeLocals, storeSelf, setAt, Value.category, dJ9_floorDiv_7cf53_10, ifCond.holds, if_icmp.holds, hb0, h1, h2]
        refine Steps.instrAtOv (c := _) (by simpa using B.here) ?_
        simp [jvm, wpRun, exec, B.here.top, B.exec, B.bytes, storeLocals, storeSelf, setAt, Value.category, dJ9_floorDiv_7cf53_11, ifCond.holds, if_icmp.holds, hb0, h1, h2]
        refine Steps.instrAtOv (c := _) (by simpa using B.here) ?_
        simp [jvm, wpRun, exec, B.here.top, B.exec, B.bytes, storeLocals, storeSelf, setAt, Value.category, dJ9_floorDiv_7cf53_12, ifCond.holds, if_icmp.holds, hb0, h1, h2]
        refine Steps.instrAtOv (c := _) (by simpa using B.here) ?_
        simp [jvm, wpRun, exec, B.here.top, B.exec, B.bytes, storeLocals, storeSelf, setAt, Value.category, dJ9_floorDiv_7cf53_13, ifCond.holds, if_icmp.holds, hb0, h1, h2]
        refine Steps.instrAtOv (c := _) (by simpa using B.here) ?_
        simp [jvm, wpRun, exec, B.here.top, B.exec, B.bytes, storeLocals, storeSelf, setAt, Value.category, dJ9_floorDiv_7cf53_14, ifCond.holds, if_icmp.holds, hb0, h1, h2]
        refine Steps.instrAtOv (c := _) (by simpa using B.here) ?_
        simp [jvm, wpRun, exec, B.here.top, B.exec, B.bytes, storeLocals, storeSelf, setAt, Value.category, dJ9_floorDiv_7cf53_21, ifCond.holds, if_icmp.holds, hb0, h1, h2]
        refine Steps.instrAtOv (c := _) (by simpa using B.here) ?_
        simp [jvm, wpRun, exec, B.here.top, B.exec, B.bytes, storeLocals, storeSelf, setAt, Value.category, dJ9_floorDiv_7cf53_22, ifCond.holds, if_icmp.holds, hb0, h1, h2, B.method₁, B.returns, narrow]
        intro acts
        rw [ret_to B.frames₁ B.method₁ B.notSynchronized rfl rfl hfs]
        exact Steps.refl _
      · exact Or.inr hfs
    refine fin (a / b - 1) (fun fs => ?_)
    by_cases hfs : handOver s₁ (some (.int (a / b - 1))) below = some fs
    · left
      unfold entryFrame; rw [hloc]
      refine Steps.instrAtOv (c := _) (by simpa using B.here) ?_
      simp [jvm, wpRun, exec, B.here.top, B.exec, B.bytes, storeLocals, storeSelf, setAt, Value.category, dJ9_floorDiv_7cf53_0, ifCond.holds, if_icmp.holds, hb0, h1, h2]
      refine Steps.instrAtOv (c := _) (by simpa using B.here) ?_
      simp [jvm, wpRun, exec, B.here.top, B.exec, B.bytes, storeLocals, storeSelf, setAt, Value.category, dJ9_floorDiv_7cf53_1, ifCond.holds, if_icmp.holds, hb0, h1, h2]
      refine Steps.instrAtOv (c := _) (by simpa using B.here) ?_
      simp [jvm, wpRun, exec, B.here.top, B.exec, B.bytes, storeLocals, storeSelf, setAt, Value.category, dJ9_floorDiv_7cf53_2, ifCond.holds, if_icmp.holds, hb0, h1, h2]
      refine Steps.instrAtOv (c := _) (by simpa using B.here) ?_
      simp [jvm, wpRun, exec, B.here.top, B.exec, B.bytes, storeLocals, storeSelf, setAt, Value.category, dJ9_floorDiv_7cf53_3, ifCond.holds, if_icmp.holds, hb0, h1, h2]
      refine Steps.instrAtOv (c := _) (by simpa using B.here) ?_
      simp [jvm, wpRun, exec, B.here.top, B.exec, B.bytes, storeLocals, storeSelf, setAt, Value.category, dJ9_floorDiv_7cf53_4, ifCond.holds, if_icmp.holds, hb0, h1, h2]
      refine Steps.instrAtOv (c := _) (by simpa using B.here) ?_
      simp [jvm, wpRun, exec, B.here.top, B.exec, B.bytes, storeLocals, storeSelf, setAt, Value.category, dJ9_floorDiv_7cf53_5, ifCond.holds, if_icmp.holds, hb0, h1, h2]
      refine Steps.instrAtOv (c := _) (by simpa using B.here) ?_
      simp [jvm, wpRun, exec, B.here.top, B.exec, B.bytes, storeLocals, storeSelf, setAt, Value.category, dJ9_floorDiv_7cf53_6, ifCond.holds, if_icmp.holds, hb0, h1, h2]
      refine Steps.instrAtOv (c := _) (by simpa using B.here) ?_
      simp [jvm, wpRun, exec, B.here.top, B.exec, B.bytes, storeLocals, storeSelf, setAt, Value.category, dJ9_floorDiv_7cf53_7, ifCond.holds, if_icmp.holds, hb0, h1, h2]
      refine Steps.instrAtOv (c := _) (by simpa using B.here) ?_
      simp [jvm, wpRun, exec, B.here.top, B.exec, B.bytes, storeLocals, storeSelf, setAt, Value.category, dJ9_floorDiv_7cf53_10, ifCond.holds, if_icmp.holds, hb0, h1, h2]
      refine Steps.instrAtOv (c := _) (by simpa using B.here) ?_
      simp [jvm, wpRun, exec, B.here.top, B.exec, B.bytes, storeLocals, storeSelf, setAt, Value.category, dJ9_floorDiv_7cf53_11, ifCond.holds, if_icmp.holds, hb0, h1, h2]
      refine Steps.instrAtOv (c := _) (by simpa using B.here) ?_
      simp [jvm, wpRun, exec, B.here.top, B.exec, B.bytes, storeLocals, storeSelf, setAt, Value.category, dJ9_floorDiv_7cf53_12, ifCond.holds, if_icmp.holds, hb0, h1, h2]
      refine Steps.instrAtOv (c := _) (by simpa using B.here) ?_
      simp [jvm, wpRun, exec, B.here.top, B.exec, B.bytes, storeLocals, storeSelf, setAt, Value.category, dJ9_floorDiv_7cf53_13, ifCond.holds, if_icmp.holds, hb0, h1, h2]
      refine Steps.instrAtOv (c := _) (by simpa using B.here) ?_
      simp [jvm, wpRun, exec, B.here.top, B.exec, B.bytes, storeLocals, storeSelf, setAt, Value.category, dJ9_floorDiv_7cf53_14, ifCond.holds, if_icmp.holds, hb0, h1, h2]
      refine Steps.instrAtOv (c := _) (by simpa using B.here) ?_
      simp [jvm, wpRun, exec, B.here.top, B.exec, B.bytes, storeLocals, storeSelf, setAt, Value.category, dJ9_floorDiv_7cf53_17, ifCond.holds, if_icmp.holds, hb0, h1, h2]
      refine Steps.instrAtOv (c := _) (by simpa using B.here) ?_
      simp [jvm, wpRun, exec, B.here.top, B.exec, B.bytes, storeLocals, storeSelf, setAt, Value.category, dJ9_floorDiv_7cf53_18, ifCond.holds, if_icmp.holds, hb0, h1, h2]
      refine Steps.instrAtOv (c := _) (by simpa using B.here) ?_
      simp [jvm, wpRun, exec, B.here.top, B.exec, B.bytes, storeLocals, storeSelf, setAt, Value.category, dJ9_floorDiv_7cf53_19, ifCond.holds, if_icmp.holds, hb0, h1, h2]
      refine Steps.instrAtOv (c := _) (by simpa using B.here) ?_
      simp [jvm, wpRun, exec, B.here.top, B.exec, B.bytes, storeLocals, storeSelf, setAt, Value.category, dJ9_floorDiv_7cf53_20, ifCond.holds, if_icmp.holds, hb0, h1, h2, B.method₁, B.returns, narrow]
      intro acts
      rw [ret_to B.frames₁ B.method₁ B.notSynchronized rfl rfl hfs]
      exact Steps.refl _
    · exact Or.inr hfs

section FDi
variable {p : Program} {l : Launch} {e : Env} {R : Room} {s : State} {m : MethodId} {args : Array Value} {below : List Frame} {meth : Method} {c : Code} {T : State} {H : Heap} {locs : List Loc} {cells slots : Nat} {Q : State → Prop}
theorem fdi_V (X : Stand p l e R s m args below meth c T locs cells slots) (hexec : p.tables.exec = Jvm.exec) {own : String} {index : Nat} (hown : s.vm.findClass own = some m.cls)
    (hlink : (Cond.methodLink own index yJ9_floorDiv_7cf53).before args s = true) (hstat : (Cond.static yJ9_floorDiv_7cf53).before args s = true) (hinit : (Cond.initialized "java/lang/Math").before args s = true)
    (hcode : (Cond.code yJ9_floorDiv_7cf53 cJ9_floorDiv_7cf53 3 (some .int)).before args s = true)
    {g : JFrame} (hg : g.method = m) (hsize : g.locals.size = c.maxLocals) {a b : Int32} (hb0 : ¬ b = 0) {rest : List Value} (hstack : g.stack = .int b :: .int a :: rest) (hdg : decode c.code g.pc = .ok (.invokestatic index, 3))
    (hframes : 1 ≤ R.frames) (hlocals : 2 * g.monitorRoom + (rest.map fun v => v.category).sum + 14 ≤ R.locals) (hcells : cells ≤ R.cells) (hslots : slots ≤ R.slots) :
    ∃ (r : Int32) (vm' : Vm), Stand p l e R s m args below meth c (T.setVm vm') locs cells slots ∧
      ∀ target, Steps p.tables e below ((T.setVm vm').setTop { g with pc := g.pc + 3, stack := .int r :: rest }) target → Steps p.tables e below (T.setTop g) target := by
  obtain ⟨v, T', X', ⟨first, t, hpost⟩, hstep⟩ := X.staticByContractV hexec hown hlink hstat hinit hcode (by decide)
    (fdi_meets l)
    rfl rfl rfl rfl
    (fun args' first o s₂ h => by
      cases o with
      | returned r => exact ⟨r, rfl⟩
      | threw y => simp [fdi_spec, Cond.after, Cond.holds, Cond.value] at h)
    hg hsize (argsL := [.int a, .int b]) (rest := rest)
    (fun sig hs => by
      have h : parseMethodDescriptor "(II)I" = some { parameters := [.int, .int], returnType := some .int } := by decide +kernel
      rw [show yJ9_floorDiv_7cf53.desc = "(II)I" from rfl, h] at hs
      rw [← Option.some.inj hs]; rfl)
    hstack hdg
    (fun vm' hW => by
      simp only [fdi_spec, Cond.before_and, Bool.and_eq_true]
      refine ⟨?_, rfl, rfl, rfl, ?_⟩
      · have q := hcode
        rw [← Cond.code_setVm hW.alike] at q
        simp only [Cond.before, Cond.holds, Cond.value, State.methodNamed?, State.vm_setVm] at q ⊢
        exact q
      · simp [Cond.before, Cond.holds, Cond.value, Term.eval, hb0])
    (by show 0 + 1 ≤ R.frames; omega) (by show 2 * g.monitorRoom + (rest.map fun v => v.category).sum + (3 + 11) + 0 ≤ R.locals; omega) (by show cells + 0 ≤ R.cells; omega) (by show slots + 0 ≤ R.slots; omega)
  obtain ⟨r, rfl⟩ : ∃ r : Int32, v = some (.int r) := by
    rcases v with _ | w
    · simp [fdi_spec, Cond.after, Cond.holds, Cond.value, Term.eval] at hpost
    · cases w <;> first | exact ⟨_, rfl⟩ | (simp [fdi_spec, Cond.after, Cond.holds, Cond.value, Term.eval] at hpost; done)
  exact ⟨r, T', X', fun target h => hstep target h⟩
theorem va_fdi {cc : ByteArray} {pc : Nat} {ls : Array Slot} {rest : List Value} (hexec : p.tables.exec = Jvm.exec) (hb : c.code = cc) (hml : c.maxLocals = ls.size) {own : String} {index : Nat} (hown : s.vm.findClass own = some m.cls) (hlink : (Cond.methodLink own index yJ9_floorDiv_7cf53).before args s = true) (hstat : (Cond.static yJ9_floorDiv_7cf53).before args s = true) (hini : (Cond.initialized "java/lang/Math").before args s = true) (hcode : (Cond.code yJ9_floorDiv_7cf53 cJ9_floorDiv_7cf53 3 (some .int)).before args s = true)
    (hframes : 1 ≤ R.frames) (hlocals : (rest.map fun v => v.category).sum + 14 ≤ R.locals) (hc : cells ≤ R.cells) (hs : slots ≤ R.slots) {x y : Int32} (hy0 : ¬ y = 0) (hdg : decode cc pc = .ok (.invokestatic index, 3))
    (kk : ∀ r : Int32, W p l e R s m args below meth c H locs cells slots Q (F0 m (pc + 3) ls (.int r :: rest))) : W p l e R s m args below meth c H locs cells slots Q (F0 m pc ls (.int y :: .int x :: rest)) := by
  intro T hT X
  obtain ⟨r, vm', X', st⟩ := fdi_V X hexec hown hlink hstat hini hcode (g := F0 m pc ls (.int y :: .int x :: rest)) rfl (by rw [hml]) (a := x) (b := y) hy0 (rest := rest) rfl (by rw [hb]; exact hdg) hframes (by show 2 * 0 + _ + 14 ≤ _; omega) hc hs
  obtain ⟨t, a1, b1⟩ := kk r (T.setVm vm') hT X'
  exact ⟨t, st t a1, b1⟩
end FDi
end
