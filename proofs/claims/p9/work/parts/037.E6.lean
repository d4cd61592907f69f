/-! a statement, the house: functions of the text -/
noncomputable def ruE (t : Int → Int) (q sg : Int) : aOu := @Classical.epsilon aOu ⟨(0, 0, 0, 0)⟩ (fun out => Rn t 1 q sg 0 [30] out)
theorem ruE_at {t : Int → Int} {q sg : Int} {out : aOu} (h : Rn t 1 q sg 0 [30] out) : ruE t q sg = out := Rn_det (@Classical.epsilon_spec aOu (fun o => Rn t 1 q sg 0 [30] o) ⟨out, h⟩) h
noncomputable def ruF (t : Int → Int) (q sg : Int) : sR := ((ruE t q sg).1, (ruE t q sg).2.1, 0, (ruE t q sg).2.2.1, (ruE t q sg).2.2.2)
theorem bo_ru {t : Int → Int} {q sg r q' sg' f p : Int} (h : ruQ t q sg q' sg' r f p) (hf : r = 0 → ¬ f = 0) : boQ (ruF t q sg) t r q' sg' f p := by
  refine ⟨fun e => ?_, fun e => ⟨?_, hf e⟩⟩
  · obtain ⟨a, b⟩ := h.1 e
    refine ⟨?_, a⟩
    unfold ruF
    rw [ruE_at b]
  · unfold ruF
    rw [ruE_at (h.2 e)]
abbrev wHouse : List Int := [104, 111, 117, 115, 101]
abbrev wRow : List Int := [114, 111, 119]
abbrev wWord : List Int := [119, 111, 114, 100]
abbrev wWorth : List Int := [119, 111, 114, 116, 104]
abbrev wLimit : List Int := [108, 105, 109, 105, 116]
/-- kind, place, where it goes on, the sign there, rows, words, rules told -/
abbrev sS : Type := Int × Int × Int × Int × Int × Int × Int
noncomputable def stR (x : sR) (rt wt rc : Int) : sS := ci (x.1 = 0) (0, 0, x.2.2.2.1, x.2.2.2.2, rt, wt, rc) (x.1, x.2.1, 0, 0, 0, 0, 0)
noncomputable def stF (t : Int → Int) (L S R rt wt rc q sg : Int) : sS :=
  ci (wd t q sg wRow) (ci (rt < R) (stR (rwF t okR S.toNat (skp t (q + 3)) (sgn t (skp t (q + 3)) (q + 3))) (rt + 1) wt rc) (4, q, 0, 0, 0, 0, 0))
  (ci (wd t q sg wWord) (ci (wt < 16) (stR (rwF t (okL L) S.toNat (skp t (q + 4)) (sgn t (skp t (q + 4)) (q + 4))) rt (wt + 1) rc) (4, q, 0, 0, 0, 0, 0))
  (ci (wd t q sg wWorth) (ci (rc < 8) (stR (ruF t (skp t (q + 5)) (sgn t (skp t (q + 5)) (q + 5))) rt wt (rc + 1)) (4, q, 0, 0, 0, 0, 0))
  (ci (wd t q sg wLimit) (stR (limF t (skp t (q + 5)) (sgn t (skp t (q + 5)) (q + 5))) rt wt rc) (1, q, 0, 0, 0, 0, 0))))
def stmQ (x : sS) (t : Int → Int) (r q' sg' rt wt rc f p : Int) : Prop := (¬ r = 0 → x = (0, 0, q', sg', rt, wt, rc) ∧ svQ t q' sg') ∧ (r = 0 → x = (f, p, 0, 0, 0, 0, 0) ∧ ¬ f = 0)
/-- the words ahead, one by one: which of the four ways is gone -/
theorem st_row {t : Int → Int} {L S R rt wt rc q sg : Int} (h : wd t q sg wRow) (hr : rt < R) : stF t L S R rt wt rc q sg = stR (rwF t okR S.toNat (skp t (q + 3)) (sgn t (skp t (q + 3)) (q + 3))) (rt + 1) wt rc := by
  unfold stF
  rw [ci_pos h, ci_pos hr]
theorem st_rowF {t : Int → Int} {L S R rt wt rc q sg : Int} (h : wd t q sg wRow) (hr : ¬ rt < R) : stF t L S R rt wt rc q sg = (4, q, 0, 0, 0, 0, 0) := by
  unfold stF
  rw [ci_pos h, ci_neg hr]
theorem st_word {t : Int → Int} {L S R rt wt rc q sg : Int} (h0 : ¬ wd t q sg wRow) (h : wd t q sg wWord) (hr : wt < 16) : stF t L S R rt wt rc q sg = stR (rwF t (okL L) S.toNat (skp t (q + 4)) (sgn t (skp t (q + 4)) (q + 4))) rt (wt + 1) rc := by
  unfold stF
  rw [ci_neg h0, ci_pos h, ci_pos hr]
theorem st_wordF {t : Int → Int} {L S R rt wt rc q sg : Int} (h0 : ¬ wd t q sg wRow) (h : wd t q sg wWord) (hr : ¬ wt < 16) : stF t L S R rt wt rc q sg = (4, q, 0, 0, 0, 0, 0) := by
  unfold stF
  rw [ci_neg h0, ci_pos h, ci_neg hr]
theorem st_worth {t : Int → Int} {L S R rt wt rc q sg : Int} (h0 : ¬ wd t q sg wRow) (h1 : ¬ wd t q sg wWord) (h : wd t q sg wWorth) (hr : rc < 8) : stF t L S R rt wt rc q sg = stR (ruF t (skp t (q + 5)) (sgn t (skp t (q + 5)) (q + 5))) rt wt (rc + 1) := by
  unfold stF
  rw [ci_neg h0, ci_neg h1, ci_pos h, ci_pos hr]
theorem st_worthF {t : Int → Int} {L S R rt wt rc q sg : Int} (h0 : ¬ wd t q sg wRow) (h1 : ¬ wd t q sg wWord) (h : wd t q sg wWorth) (hr : ¬ rc < 8) : stF t L S R rt wt rc q sg = (4, q, 0, 0, 0, 0, 0) := by
  unfold stF
  rw [ci_neg h0, ci_neg h1, ci_pos h, ci_neg hr]
theorem st_limit {t : Int → Int} {L S R rt wt rc q sg : Int} (h0 : ¬ wd t q sg wRow) (h1 : ¬ wd t q sg wWord) (h2 : ¬ wd t q sg wWorth) (h : wd t q sg wLimit) : stF t L S R rt wt rc q sg = stR (limF t (skp t (q + 5)) (sgn t (skp t (q + 5)) (q + 5))) rt wt rc := by
  unfold stF
  rw [ci_neg h0, ci_neg h1, ci_neg h2, ci_pos h]
theorem st_none {t : Int → Int} {L S R rt wt rc q sg : Int} (h0 : ¬ wd t q sg wRow) (h1 : ¬ wd t q sg wWord) (h2 : ¬ wd t q sg wWorth) (h : ¬ wd t q sg wLimit) : stF t L S R rt wt rc q sg = (1, q, 0, 0, 0, 0, 0) := by
  unfold stF
  rw [ci_neg h0, ci_neg h1, ci_neg h2, ci_neg h]
theorem st_bo {x : sR} {y : sS} {t : Int → Int} {r r2 q' sg' q2 s2 f p rt wt rc rt2 wt2 rc2 : Int} (h : boQ x t r q' sg' f p) (e : y = stR x rt wt rc) (hr : r2 = 0 ↔ r = 0) (hq : ¬ r = 0 → q2 = q' ∧ s2 = sg' ∧ rt2 = rt ∧ wt2 = wt ∧ rc2 = rc) : stmQ y t r2 q2 s2 rt2 wt2 rc2 f p := by
  refine ⟨fun a => ?_, fun a => ?_⟩
  · have b : ¬ r = 0 := fun z => a (hr.mpr z)
    obtain ⟨e1, e2, e3, e4, e5⟩ := hq b
    subst e1
    subst e2
    subst e3
    subst e4
    subst e5
    refine ⟨?_, (h.1 b).2⟩
    rw [e, (h.1 b).1]
    exact ci_pos rfl
  · obtain ⟨b1, b2⟩ := h.2 (hr.mp a)
    refine ⟨?_, b2⟩
    rw [e, b1]
    exact ci_neg b2
theorem st_no {y : sS} {t : Int → Int} {k r q' sg' f p rt wt rc q : Int} (e : y = (k, q, 0, 0, 0, 0, 0)) (hr : r = 0) (hf : f = k) (hk : ¬ k = 0) (hp : p = q) : stmQ y t r q' sg' rt wt rc f p := by
  subst hf
  subst hp
  exact ⟨fun a => absurd hr a, fun _ => ⟨e, hk⟩⟩
/-- statement by statement: kind, place, how many, letters, senders, receivers, rows, words, rules -/
abbrev hO : Type := Int × Int × Int × Int × Int × Int × Int × Int × Int
def hF (k q : Int) : hO := (k, q, 0, 0, 0, 0, 0, 0, 0)
noncomputable def lpF (t : Int → Int) (L S R : Int) : Nat → Int → Int → Int → Int → Int → Int → hO
  | 0, _, _, _, _, _, _ => hF 0 0
  | k + 1, n, rt, wt, rc, q, sg => ci (sg = -1) (0, 0, n, L, S, R, rt, wt, rc) (ci (n = 60) (hF 4 q)
      (ci ((stF t L S R rt wt rc q sg).1 = 0)
        (ci ((stF t L S R rt wt rc q sg).2.2.2.1 = 59)
          (lpF t L S R k (n + 1) (stF t L S R rt wt rc q sg).2.2.2.2.1 (stF t L S R rt wt rc q sg).2.2.2.2.2.1 (stF t L S R rt wt rc q sg).2.2.2.2.2.2 (skp t ((stF t L S R rt wt rc q sg).2.2.1 + 1)) (t (skp t ((stF t L S R rt wt rc q sg).2.2.1 + 1))))
          (hF 1 (stF t L S R rt wt rc q sg).2.2.1))
        (hF (stF t L S R rt wt rc q sg).1 (stF t L S R rt wt rc q sg).2.1)))
noncomputable def hsF (t : Int → Int) (q sg : Int) : sZ := ci (wd t q sg wHouse) (szF t (skp t (q + 5)) (sgn t (skp t (q + 5)) (q + 5))) (1, q, 0, 0, 0, 0, 0)
noncomputable def hoG (t : Int → Int) (x : sZ) : hO :=
  ci (x.1 = 0) (ci (x.2.2.2.2.2.2 = 59) (lpF t x.2.2.1 x.2.2.2.1 x.2.2.2.2.1 60 1 0 0 0 (skp t (x.2.2.2.2.2.1 + 1)) (t (skp t (x.2.2.2.2.2.1 + 1)))) (hF 1 x.2.2.2.2.2.1)) (hF x.1 x.2.1)
noncomputable def hoF (t : Int → Int) : hO := hoG t (hsF t (skp t 0) (t (skp t 0)))
