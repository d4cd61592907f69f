section
/-! rows of longs, exactly -/
section GC
variable {p : Program} {l : Launch} {e : Env} {R : Room} {s : State} {m : MethodId} {args : Array Value} {below : List Frame} {meth : Method} {c : Code} {cells slots : Nat} {Q : State → Prop} {D : va_G} {tys : List (ClassId × FieldType)} {ws : va_W} {H H0 : Heap} {locs : List Loc} {A : Nat → Prop} {a pc : Nat} {ls : Array Slot} {rest : List Value} {cc : ByteArray}
theorem e_lastore {cl : List vw_C} (hexec : p.tables.exec = Jvm.exec) (hb : c.code = cc) (hK : va_K D cl tys s) (hP : va_P D cl ws H) (hD : va_D A ws) (hS : va_S A H0 H locs) (q0 t0 : Nat) {cA : ClassId} {n : Nat} {f : Nat → Int64} (ha : ws[q0]? = some (a, .inl (cA, n, .inr (.inl f)))) (ht : tys[t0]? = some (cA, .long)) {i : Int32} {x : Int64} (hin : vp_in i n) (hdg : decode cc pc = .ok (.lastore, 1))
    (kk : ∀ (f' : Nat → Int64), f' = vp_updL f (i.toInt).toNat x → ∀ (H1 : Heap) (locs1 : List Loc), va_P D cl (ws.set q0 (a, .inl (cA, n, .inr (.inl f')))) H1 → va_D A (ws.set q0 (a, .inl (cA, n, .inr (.inl f')))) → va_S A H0 H1 locs1 → W p l e R s m args below meth c H1 locs1 cells slots Q (F0 m (pc + 1) ls rest)) : W p l e R s m args below meth c H locs cells slots Q (F0 m pc ls (.long x :: .int i :: .ref a :: rest)) :=
  va_last hexec hb hK hP hD hS q0 t0 ha ht hin hdg (fun H1 locs1 h1 h2 h3 => kk _ rfl H1 locs1 h1 h2 h3)
end GC
theorem u_eqL {f : Nat → Int64} {n k : Nat} {x : Int64} (h : k = n) : vp_updL f n x k = x := by unfold vp_updL; rw [if_pos h]
theorem u_neL {f : Nat → Int64} {n k : Nat} {x : Int64} (h : ¬ k = n) : vp_updL f n x k = f k := by unfold vp_updL; rw [if_neg h]
/-! words: what pairs of them are worth (by the machine's own arithmetic) -/
/-! the least of pairs: the least, how many, the first -/
/-! a fold over pairs, by the loops that go through them -/
/-! what the class remembers of pairs -/
/-! the most power; what leaves most -/
/-! the answers -/
/-! what the loops bring along -/
end
