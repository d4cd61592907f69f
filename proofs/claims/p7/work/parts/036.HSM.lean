def zBd (x lo hi : Int) : Prop := lo ≤ x ∧ x ≤ hi
theorem hsM_no {t : Int → Int} {n L S R rt wt rc at_ b bp res f p L1 S1 R1 rt1 wt1 rc1 L0 S0 R0 rt0 wt0 rc0 : Int} (h : hlQ t n L S R rt wt rc at_ b bp) (hb : ¬ b = 0) (hr : res = -1) (ef : f = b) (ep : p = bp) (e1 : L1 = L0) (e2 : S1 = S0) (e3 : R1 = R0) (e4 : rt1 = rt0) (e5 : wt1 = wt0) (e6 : rc1 = rc0) : hsQ (hoF t) res f p L1 S1 R1 rt1 wt1 rc1 L0 S0 R0 rt0 wt0 rc0 := by
  subst ef
  subst ep
  exact ⟨fun q => absurd hr q, fun _ => ⟨h.2 hb, hb, e1, e2, e3, e4, e5, e6⟩⟩
theorem hsM_yes {t : Int → Int} {n L S R rt wt rc at_ b bp q c res f p L1 S1 R1 rt1 wt1 rc1 L0 S0 R0 rt0 wt0 rc0 : Int} (h : hlQ t n L S R rt wt rc at_ b bp) (hb : b = 0) (hn : 1 ≤ n ∧ n ≤ 60) (hq : q = skp t at_) (hc : c = t q) (hm : c = -1) (hr : res = n) (ef : f = 0) (ep : p = -1) (e1 : L1 = L) (e2 : S1 = S) (e3 : R1 = R) (e4 : rt1 = rt) (e5 : wt1 = wt) (e6 : rc1 = rc) : hsQ (hoF t) res f p L1 S1 R1 rt1 wt1 rc1 L0 S0 R0 rt0 wt0 rc0 := by
  have x := h.1 hb
  rw [show (61 - n).toNat = (61 - (n + 1)).toNat + 1 by omega] at x
  have y : hoF t = (0, 0, n, L, S, R, rt, wt, rc) := by
    rw [x]
    exact ci_pos (by rw [← hq]; omega)
  refine ⟨fun _ => ⟨?_, ef, ep⟩, fun z => absurd z (by omega)⟩
  rw [y, hr, e1, e2, e3, e4, e5, e6]
