/-! the row of letters on the tape -/
def sb9 (c : Int) : Int := if 127 < c then c - 256 else c
theorem i8b {y z : Int32} (e : z = y.toInt8.toInt32) (h : 0 ≤ y.toInt ∧ y.toInt ≤ 255) : z.toInt = sb9 y.toInt := by
  subst e
  have h1 : (y.toInt8.toInt32).toInt = y.toInt8.toInt := by
    first
      | exact Int8.toInt_toInt32 _
      | simp
  have h2 : y.toInt8.toInt = Int.bmod y.toInt 256 := by
    first
      | exact Int32.toInt_toInt8 _
      | simp
  rw [h1, h2]
  unfold sb9
  first
    | (rw [Int.bmod_def]; split <;> split <;> omega)
    | (unfold Int.bmod; simp only []; split <;> split <;> omega)
def rtk (t : Int → Int) (L k : Int) : Prop := ∀ j : Int, 0 ≤ j → j < k → okL L (sb9 (t j))
theorem rtk_0 {t : Int → Int} {L k : Int} (h : k ≤ 0) : rtk t L k := fun j a b => absurd a (by omega)
theorem rtk_up {t : Int → Int} {L k k2 v : Int} (h : rtk t L k) (hv : v = sb9 (t k)) (ho : okL L v) (e : k2 = k + 1) : rtk t L k2 := by
  intro j a b
  by_cases q : j = k
  · rw [q, ← hv]
    exact ho
  · exact h j a (by omega)
def rwQ9 (t : Int → Int) (n L S : Int) : Prop := 0 < S ∧ n = S ∧ rtk t L S
def swQ (r n : Int) (t : Int → Int) (L S : Int) : Prop := (¬ r = 0 → rwQ9 t n L S) ∧ (r = 0 → ¬ rwQ9 t n L S)
/-- so far: g tells whether all is well up to k -/
def slQ9 (g k n : Int) (t : Int → Int) (L S : Int) : Prop := (¬ g = 0 → 0 < S ∧ n = S ∧ rtk t L k) ∧ (g = 0 → ¬ rwQ9 t n L S)
theorem sl9_yes {g k n L S : Int} {t : Int → Int} (hg : ¬ g = 0) (h1 : 0 < S ∧ n = S) (hk : k ≤ 0) : slQ9 g k n t L S := ⟨fun _ => ⟨h1.1, h1.2, rtk_0 hk⟩, fun q => absurd q hg⟩
theorem sl9_no {g k n L S : Int} {t : Int → Int} (hg : g = 0) (h1 : ¬ (0 < S ∧ n = S)) : slQ9 g k n t L S := ⟨fun q => absurd hg q, fun _ q => h1 ⟨q.1, q.2.1⟩⟩
theorem sl9_step {g g2 k k2 n L S v : Int} {t : Int → Int} (h : slQ9 g k n t L S) (hg : ¬ g = 0) (h0 : 0 ≤ k) (hk : k < S) (hv : v = sb9 (t k)) (hl : (g2 = 1 ∧ okL L v) ∨ (g2 = 0 ∧ ¬ okL L v)) (e : k2 = k + 1) : slQ9 g2 k2 n t L S := by
  obtain ⟨a, b, c⟩ := h.1 hg
  rcases hl with ⟨x, y⟩ | ⟨x, y⟩
  · exact ⟨fun _ => ⟨a, b, rtk_up c hv y e⟩, fun q => absurd q (by omega)⟩
  · refine ⟨fun q => absurd x q, fun _ q => y ?_⟩
    rw [hv]
    exact q.2.2 k h0 hk
theorem sl9_end {g k n L S r : Int} {t : Int → Int} (h : slQ9 g k n t L S) (hx : g = 0 ∨ S ≤ k) (er : r = 0 ↔ g = 0) : swQ r n t L S := by
  refine ⟨fun q => ?_, fun q => h.2 (er.mp q)⟩
  have hg : ¬ g = 0 := fun z => q (er.mpr z)
  obtain ⟨a, b, c⟩ := h.1 hg
  exact ⟨a, b, fun j x y => c j x (by omega)⟩
theorem sw_to {r r2 n L S : Int} {t : Int → Int} (h : swQ r n t L S) (e : r2 = 0 ↔ r = 0) : swQ r2 n t L S := ⟨fun q => h.1 (fun z => q (e.mpr z)), fun q => h.2 (e.mp q)⟩
