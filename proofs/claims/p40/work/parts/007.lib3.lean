section
/-! rows told exactly; the reference's text of sums and tests: what waits, what is laid -/
section G3
variable {p : Program} {l : Launch} {e : Env} {R : Room} {s : State} {m : MethodId} {args : Array Value} {below : List Frame} {meth : Method} {c : Code} {cells slots : Nat} {Q : State → Prop} {D : va_G} {tys : List (ClassId × FieldType)} {ws : va_W} {H H0 : Heap} {locs : List Loc} {A : Nat → Prop} {a pc : Nat} {ls : Array Slot} {rest : List Value} {cc : ByteArray}
theorem e_iastore {cl : List vw_C} (hexec : p.tables.exec = Jvm.exec) (hb : c.code = cc) (hK : va_K D cl tys s) (hP : va_P D cl ws H) (hD : va_D A ws) (hS : va_S A H0 H locs) (q0 t0 : Nat) {cA : ClassId} {n : Nat} {f : Nat → Int32} (ha : ws[q0]? = some (a, .inl (cA, n, .inl f))) (ht : tys[t0]? = some (cA, .int)) {i : Int32} {x : Int32} (hin : vp_in i n) (hdg : decode cc pc = .ok (.iastore, 1))
    (kk : ∀ (f' : Nat → Int32), f' = upd f (i.toInt).toNat x → ∀ (H1 : Heap) (locs1 : List Loc), va_P D cl (ws.set q0 (a, .inl (cA, n, .inl f'))) H1 → va_D A (ws.set q0 (a, .inl (cA, n, .inl f'))) → va_S A H0 H1 locs1 → W p l e R s m args below meth c H1 locs1 cells slots Q (F0 m (pc + 1) ls rest)) : W p l e R s m args below meth c H locs cells slots Q (F0 m pc ls (.int x :: .int i :: .ref a :: rest)) :=
  va_iast hexec hb hK hP hD hS q0 t0 ha ht hin hdg (fun H1 locs1 h1 h2 h3 => kk _ rfl H1 locs1 h1 h2 h3)
end G3
theorem e_ld {f : Nat → Int32} {i j : Int} {z : Int32} (h : z = f i.toNat) (e : i = j) : f j.toNat = z := by rw [h, e]
theorem u_eq {f : Nat → Int32} {n k : Nat} {x : Int32} (h : k = n) : upd f n x k = x := by unfold upd; rw [if_pos h]
theorem u_ne {f : Nat → Int32} {n k : Nat} {x : Int32} (h : ¬ k = n) : upd f n x k = f k := by unfold upd; rw [if_neg h]
/-! depths -/
/-! the rules that were told: their codes have all that they take -/
/-! what a house is told to have -/
/-! rows of letters within bounds -/
theorem n_sq {d B : Int} (h : -B ≤ d ∧ d ≤ B) : 0 ≤ d * d ∧ d * d ≤ B * B := by
  have h1 : d * d = d.natAbs * d.natAbs := by rw [← Int.natAbs_mul_self' d]
  have h2 : d.natAbs ≤ B.natAbs := by omega
  have h3 : d.natAbs * d.natAbs ≤ B.natAbs * B.natAbs := Nat.mul_le_mul h2 h2
  have h4 : B * B = B.natAbs * B.natAbs := by rw [← Int.natAbs_mul_self' B]
  rw [h1, h4]
  exact ⟨by omega, by exact_mod_cast h3⟩
/-! the numbers gone through -/
/-! the codes told -/
end
