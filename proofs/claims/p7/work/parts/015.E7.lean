/-! what is read ends no sooner than it began -/
def okS (q : Int) (s : aCf ⊕ aOu) : Prop := (∀ c : aCf, s = .inl c → q ≤ c.2.1) ∧ (∀ o : aOu, s = .inr o → o.1 = 0 → q ≤ o.2.2.1)
theorem ok_ci {q : Int} {p : Prop} {a b : aCf ⊕ aOu} (h1 : okS q a) (h2 : okS q b) : okS q (ci p a b) := by
  by_cases h : p
  · rw [ci_pos h]; exact h1
  · rw [ci_neg h]; exact h2
theorem ok_in {q : Int} {c : aCf} (h : q ≤ c.2.1) : okS q (.inl c) := ⟨fun d e => (by cases e; exact h), fun o e => (by cases e)⟩
theorem ok_out {q : Int} {o : aOu} (h : o.1 = 0 → q ≤ o.2.2.1) : okS q (.inr o) := ⟨fun d e => (by cases e), fun d e => (by cases e; exact h)⟩
theorem ok_F {q k p : Int} (h : ¬ k = 0) : okS q (aF k p) := ok_out (fun e => absurd e h)
theorem ok_S {t : Int → Int} {q ph p o : Int} {K : List Int} (h : q ≤ p) : okS q (aS t ph p o K) := ok_in (Int.le_trans h skp_ge)
theorem ok_W {t : Int → Int} {q ph p o : Int} {K : List Int} (h : q ≤ p) : okS q (aW t ph p o K) := ok_in (Int.le_trans h skp_ge)
theorem ndk_nn {t : Int → Int} : ∀ (k : Nat) (q : Int), 0 ≤ ndk t k q
  | 0, _ => Int.le_refl 0
  | k + 1, q => by
    show 0 ≤ ci (isDg (t q)) (1 + ndk t k (q + 1)) 0
    by_cases h : isDg (t q)
    · rw [ci_pos h]
      have := ndk_nn (t := t) k (q + 1)
      omega
    · rw [ci_neg h]
      exact Int.le_refl 0
theorem nd_nn {t : Int → Int} {q : Int} : 0 ≤ nd t q := ndk_nn 5 q
theorem ok_Op {t : Int → Int} {q o m : Int} {K : List Int} : okS q (aOp t q o m K) := by
  unfold aOp
  exact ok_ci (ok_F (by decide)) (ok_S (by omega))
theorem ok_Pr {t : Int → Int} {q sg o m : Int} {K : List Int} : okS q (aPr t q sg o m K) := by
  unfold aPr
  exact ok_ci ok_Op (ok_F (by decide))
theorem ok_Num {t : Int → Int} {q sg o : Int} {K : List Int} : okS q (aNum t q sg o K) := by
  unfold aNum
  have n := nd_nn (t := t) (q := q)
  exact ok_ci (ok_ci (ok_F (by decide)) (ok_W (by omega))) (ok_F (by decide))
theorem ok_1 {t : Int → Int} {q sg o : Int} {K : List Int} : okS q (a1 t q sg o K) := by
  unfold a1
  exact ok_ci ok_Op (ok_ci (ok_W (by omega)) (ok_ci (ok_W (by omega)) (ok_ci (ok_W (by omega)) (ok_ci (ok_W (by omega)) ok_Num))))
theorem ok_2 {t : Int → Int} {q sg o : Int} {K : List Int} : okS q (a2 t q sg o K) := by
  unfold a2
  exact ok_ci (ok_S (by omega)) (ok_ci (ok_S (by omega)) (ok_ci (ok_ci (ok_S (by omega)) (ok_F (by decide))) (ok_ci (ok_ci (ok_W (by omega)) (ok_F (by decide))) (ok_ci (ok_ci (ok_S (by omega)) (ok_F (by decide))) (ok_ci (ok_in (Int.le_refl q)) (ok_F (by decide)))))))
theorem ok_3 {t : Int → Int} {q sg o : Int} {K : List Int} : okS q (a3 t q sg o K) := by
  unfold a3
  exact ok_ci (ok_ci (ok_F (by decide)) (ok_W (by omega))) (ok_ci (ok_ci (ok_F (by decide)) (ok_S (by omega))) (ok_ci (ok_W (by omega)) (ok_in (Int.le_refl q))))
theorem ok_4 {t : Int → Int} {q sg o : Int} {K : List Int} : okS q (a4 t q sg o K) := by
  unfold a4
  exact ok_ci (ok_in (Int.le_refl q)) (ok_ci (ok_S (by omega)) (ok_ci (ok_W (by omega)) (ok_ci (ok_W (by omega)) (ok_ci (ok_F (by decide)) (ok_out (fun _ => Int.le_refl q))))))
theorem ok_stp {t : Int → Int} {c : aCf} : okS c.2.1 (aStp t c) := by
  unfold aStp
  exact ok_ci ok_1 (ok_ci ok_2 (ok_ci ok_3 (ok_ci ok_Pr (ok_ci ok_Pr ok_4))))
theorem aIt_ge {t : Int → Int} {out : aOu} : ∀ (n : Nat) (c : aCf), aIt t n c = some out → out.1 = 0 → c.2.1 ≤ out.2.2.1
  | 0, _, h, _ => by cases h
  | n + 1, c, h, ho => by
    have h : (match aStp t c with | .inl c' => aIt t n c' | .inr o => some o) = some out := h
    have k := ok_stp (t := t) (c := c)
    cases e : aStp t c with
    | inl c' =>
      rw [e] at h
      exact Int.le_trans (k.1 c' e) (aIt_ge n c' h ho)
    | inr o =>
      rw [e] at h
      have h : some o = some out := h
      have h := Option.some.inj h
      subst h
      exact k.2 o e ho
theorem Rn_ge {t : Int → Int} {ph q sg o : Int} {K : List Int} {out : aOu} (h : Rn t ph q sg o K out) (ho : out.1 = 0) : q ≤ out.2.2.1 := by
  obtain ⟨n, k⟩ := h
  exact aIt_ge n _ k ho
theorem ru_nf {t : Int → Int} {q sg q' sg' r f p : Int} (h : ruQ t q sg q' sg' r f p) (hq : 1 ≤ q) (hr : r = 0) : ¬ f = 0 := fun e => by
  have k : q ≤ 0 := Rn_ge (h.2 hr) e
  omega
/-! a statement, as the class reads it -/
theorem rw_to {t : Int → Int} {q sg q1 s1 r f p n : Int} {w : List Int} (h : rwQ t q sg w q1 s1 r f p) (hr : ¬ r = 0) (hn : (w.length : Int) = n) : q1 = skp t (q + n) ∧ s1 = sgn t (skp t (q + n)) (q + n) := by
  obtain ⟨_, b, c⟩ := h.1 hr
  rw [hn] at b c
  subst b
  exact ⟨rfl, c⟩
theorem hs_no {t : Int → Int} {q sg q' sg' r f p r2 L S R q2 s2 : Int} (h : rwQ t q sg (wL.getD 0 []) q' sg' r f p) (hr : r = 0) (hr2 : r2 = 0) : szQ (hsF t q sg) t r2 L S R q2 s2 f p := by
  obtain ⟨a, b, c⟩ := h.2 hr
  subst b
  subst c
  refine ⟨fun x => absurd hr2 x, fun _ => ⟨?_, by decide⟩⟩
  unfold hsF
  exact ci_neg a
theorem hs_go {t : Int → Int} {q sg q1 s1 r f0 p0 r2 r3 L S R q2 s2 f p : Int} (h : rwQ t q sg (wL.getD 0 []) q1 s1 r f0 p0) (hr : ¬ r = 0) (h2 : szQ (szF t q1 s1) t r2 L S R q2 s2 f p) (e3 : r3 = 0 ↔ r2 = 0) : szQ (hsF t q sg) t r3 L S R q2 s2 f p := by
  obtain ⟨x, y⟩ := rw_to h hr (n := 5) (by decide)
  subst x
  subst y
  have e : hsF t q sg = szF t (skp t (q + 5)) (sgn t (skp t (q + 5)) (q + 5)) := by
    unfold hsF
    exact ci_pos (h.1 hr).1
  rw [e]
  exact ⟨fun z => h2.1 (fun a => z (e3.mpr a)), fun z => h2.2 (e3.mp z)⟩
theorem st_rowQ {t : Int → Int} {L S R rt wt rc q sg q1 s1 r1 f0 p0 r q2 s2 f p rt2 wt2 rc2 r2 : Int} (h : rwQ t q sg (wL.getD 1 []) q1 s1 r1 f0 p0) (hr : ¬ r1 = 0) (hc : rt < R) (b : boQ (rwF t okR S.toNat q1 s1) t r q2 s2 f p) (e : r2 = 0 ↔ r = 0) (e1 : ¬ r = 0 → rt2 = rt + 1) (e2 : wt2 = wt) (e3 : rc2 = rc) : stmQ (stF t L S R rt wt rc q sg) t r2 q2 s2 rt2 wt2 rc2 f p := by
  obtain ⟨x, y⟩ := rw_to h hr (n := 3) (by decide)
  subst x
  subst y
  exact st_bo b (st_row (h.1 hr).1 hc) e (fun z => ⟨rfl, rfl, e1 z, e2, e3⟩)
theorem st_wordQ {t : Int → Int} {L S R rt wt rc q sg q1 s1 r1 f0 p0 r q2 s2 f p rt2 wt2 rc2 r2 : Int} (n0 : ¬ wd t q sg wRow) (h : rwQ t q sg (wL.getD 2 []) q1 s1 r1 f0 p0) (hr : ¬ r1 = 0) (hc : wt < 16) (b : boQ (rwF t (okL L) S.toNat q1 s1) t r q2 s2 f p) (e : r2 = 0 ↔ r = 0) (e1 : ¬ r = 0 → wt2 = wt + 1) (e2 : rt2 = rt) (e3 : rc2 = rc) : stmQ (stF t L S R rt wt rc q sg) t r2 q2 s2 rt2 wt2 rc2 f p := by
  obtain ⟨x, y⟩ := rw_to h hr (n := 4) (by decide)
  subst x
  subst y
  exact st_bo b (st_word n0 (h.1 hr).1 hc) e (fun z => ⟨rfl, rfl, e2, e1 z, e3⟩)
theorem st_worthQ {t : Int → Int} {L S R rt wt rc q sg q1 s1 r1 f0 p0 r q2 s2 f p rt2 wt2 rc2 r2 : Int} (n0 : ¬ wd t q sg wRow) (n1 : ¬ wd t q sg wWord) (h : rwQ t q sg (wL.getD 3 []) q1 s1 r1 f0 p0) (hr : ¬ r1 = 0) (hc : rc < 8) (b : boQ (ruF t q1 s1) t r q2 s2 f p) (e : r2 = 0 ↔ r = 0) (e1 : ¬ r = 0 → rc2 = rc + 1) (e2 : rt2 = rt) (e3 : wt2 = wt) : stmQ (stF t L S R rt wt rc q sg) t r2 q2 s2 rt2 wt2 rc2 f p := by
  obtain ⟨x, y⟩ := rw_to h hr (n := 5) (by decide)
  subst x
  subst y
  exact st_bo b (st_worth n0 n1 (h.1 hr).1 hc) e (fun z => ⟨rfl, rfl, e2, e3, e1 z⟩)
theorem st_limitQ {t : Int → Int} {L S R rt wt rc q sg q1 s1 r1 f0 p0 r q2 s2 f p rt2 wt2 rc2 r2 : Int} (n0 : ¬ wd t q sg wRow) (n1 : ¬ wd t q sg wWord) (n2 : ¬ wd t q sg wWorth) (h : rwQ t q sg (wL.getD 14 []) q1 s1 r1 f0 p0) (hr : ¬ r1 = 0) (b : boQ (limF t q1 s1) t r q2 s2 f p) (e : r2 = 0 ↔ r = 0) (e1 : rt2 = rt) (e2 : wt2 = wt) (e3 : rc2 = rc) : stmQ (stF t L S R rt wt rc q sg) t r2 q2 s2 rt2 wt2 rc2 f p := by
  obtain ⟨x, y⟩ := rw_to h hr (n := 5) (by decide)
  subst x
  subst y
  exact st_bo b (st_limit n0 n1 n2 (h.1 hr).1) e (fun z => ⟨rfl, rfl, e1, e2, e3⟩)
/-! the house, as the class reads it -/
def hiQ (t : Int → Int) (n L S R rt wt rc q sg : Int) : Prop := (n = 0 ∧ q = skp t 0 ∧ sg = t q ∧ rt = 0 ∧ wt = 0 ∧ rc = 0) ∨ (1 ≤ n ∧ hoF t = lpF t L S R (61 - n).toNat n rt wt rc q sg)
def hrQ (t : Int → Int) (r n L S R rt wt rc f p : Int) : Prop := (¬ r = 0 → hoF t = (0, 0, n, L, S, R, rt, wt, rc)) ∧ (r = 0 → hoF t = hF f p ∧ ¬ f = 0)
theorem hi_at {t : Int → Int} {n L S R rt wt rc q sg : Int} (h : hiQ t n L S R rt wt rc q sg) (hn : 1 ≤ n) (hm : n ≤ 60) : ∃ k : Nat, (61 - (n + 1)).toNat = k ∧ hoF t = lpF t L S R (k + 1) n rt wt rc q sg := by
  rcases h with h | h
  · exact absurd h.1 (by omega)
  · refine ⟨(61 - (n + 1)).toNat, rfl, ?_⟩
    rw [h.2, show (61 - n).toNat = (61 - (n + 1)).toNat + 1 by omega]
theorem hi_end {t : Int → Int} {n m L S R rt wt rc q sg r f p : Int} (h : hiQ t n L S R rt wt rc q sg) (hn : 1 ≤ n) (hm : n ≤ 60) (hs : sg = -1) (hr : ¬ r = 0) (em : m = n) : hrQ t r m L S R rt wt rc f p := by
  obtain ⟨k, _, e⟩ := hi_at h hn hm
  subst em
  refine ⟨fun _ => ?_, fun x => absurd x hr⟩
  rw [e]
  exact ci_pos hs
theorem hi_60 {t : Int → Int} {n m L S R rt wt rc q sg r f p a b c d g i : Int} (h : hiQ t n L S R rt wt rc q sg) (hn : n = 60) (hs : ¬ sg = -1) (hr : r = 0) (hf : f = 4) (hp : p = q) : hrQ t r m a b c d g i f p := by
  obtain ⟨k, _, e⟩ := hi_at h (by omega) (by omega)
  subst hf
  subst hp
  refine ⟨fun x => absurd hr x, fun _ => ⟨?_, by decide⟩⟩
  rw [e]
  show ci _ _ _ = _
  rw [ci_neg hs, ci_pos hn]
theorem hi_Fst {t : Int → Int} {n m L S R rt wt rc q sg r f p a b c d g i r1 q1 s1 rt1 wt1 rc1 : Int} (h : hiQ t n L S R rt wt rc q sg) (hn : 1 ≤ n) (hm : n < 60) (hs : ¬ sg = -1) (h1 : stmQ (stF t L S R rt wt rc q sg) t r1 q1 s1 rt1 wt1 rc1 f p) (e1 : r1 = 0) (hr : r = 0) : hrQ t r m a b c d g i f p := by
  obtain ⟨k, _, e⟩ := hi_at h hn (by omega)
  obtain ⟨x, y⟩ := h1.2 e1
  refine ⟨fun z => absurd hr z, fun _ => ⟨?_, y⟩⟩
  rw [e]
  show ci _ _ _ = _
  rw [ci_neg hs, ci_neg (by omega), x, ci_neg y]
theorem hi_Fsg {t : Int → Int} {n m L S R rt wt rc q sg r f p a b c d g i r1 q1 s1 rt1 wt1 rc1 f1 p1 w q2 s2 r2 : Int} (h : hiQ t n L S R rt wt rc q sg) (hn : 1 ≤ n) (hm : n < 60) (hs : ¬ sg = -1) (h1 : stmQ (stF t L S R rt wt rc q sg) t r1 q1 s1 rt1 wt1 rc1 f1 p1) (e1 : ¬ r1 = 0) (h2 : rsQ t q1 s1 w q2 s2 r2 f p) (ew : w = 59) (e2 : r2 = 0) (hr : r = 0) : hrQ t r m a b c d g i f p := by
  obtain ⟨k, _, e⟩ := hi_at h hn (by omega)
  obtain ⟨x, _⟩ := h1.1 e1
  obtain ⟨u, v, z⟩ := h2.2 e2
  subst ew
  subst v
  subst z
  refine ⟨fun z => absurd hr z, fun _ => ⟨?_, by decide⟩⟩
  rw [e]
  show ci _ _ _ = _
  rw [ci_neg hs, ci_neg (by omega), x, ci_pos rfl, ci_neg u]
theorem hi_go {t : Int → Int} {n m L S R rt wt rc q sg r1 q1 s1 rt1 wt1 rc1 f1 p1 w q2 s2 r2 f2 p2 : Int} (h : hiQ t n L S R rt wt rc q sg) (hn : 1 ≤ n) (hm : n < 60) (hs : ¬ sg = -1) (h1 : stmQ (stF t L S R rt wt rc q sg) t r1 q1 s1 rt1 wt1 rc1 f1 p1) (e1 : ¬ r1 = 0) (h2 : rsQ t q1 s1 w q2 s2 r2 f2 p2) (ew : w = 59) (e2 : ¬ r2 = 0) (em : m = n + 1) : hiQ t m L S R rt1 wt1 rc1 q2 s2 := by
  obtain ⟨k, ek, e⟩ := hi_at h hn (by omega)
  obtain ⟨x, _⟩ := h1.1 e1
  obtain ⟨u, v, z⟩ := h2.1 e2
  subst ew
  subst em
  refine Or.inr ⟨by omega, ?_⟩
  rw [e, ek]
  show ci _ _ _ = _
  rw [ci_neg hs, ci_neg (by omega), x, ci_pos rfl, ci_pos u, v, ← z]
theorem ho_at {t : Int → Int} {n L S R rt wt rc q sg : Int} (h : hiQ t n L S R rt wt rc q sg) (hn : n = 0) : hoF t = hoG t (hsF t q sg) ∧ sg = t q ∧ rt = 0 ∧ wt = 0 ∧ rc = 0 := by
  rcases h with h | h
  · obtain ⟨_, a, b, c, d, e⟩ := h
    refine ⟨?_, b, c, d, e⟩
    rw [b, a]
    rfl
  · exact absurd h.1 (by omega)
theorem hi_end0 {t : Int → Int} {n m L S R rt wt rc q sg r f p a b c d g i : Int} (h : hiQ t n L S R rt wt rc q sg) (hn : n = 0) (hs : sg = -1) (hr : r = 0) (hf : f = 1) (hp : p = q) : hrQ t r m a b c d g i f p := by
  obtain ⟨e, b, _⟩ := ho_at h hn
  subst hf
  subst hp
  refine ⟨fun x => absurd hr x, fun _ => ⟨?_, by decide⟩⟩
  have n1 : ¬ wd t p sg wHouse := fun x => by
    have := wd_0 x
    omega
  rw [e]
  unfold hsF
  rw [ci_neg n1]
  exact ci_neg (fun x => absurd (show (1 : Int) = 0 from x) (by decide))
theorem hi_Fst1 {t : Int → Int} {n m L S R rt wt rc q sg r f p a b c d g i r1 q1 s1 L1 S1 R1 : Int} (h : hiQ t n L S R rt wt rc q sg) (hn : n = 0) (h1 : szQ (hsF t q sg) t r1 L1 S1 R1 q1 s1 f p) (e1 : r1 = 0) (hr : r = 0) : hrQ t r m a b c d g i f p := by
  obtain ⟨e, _⟩ := ho_at h hn
  obtain ⟨x, y⟩ := h1.2 e1
  refine ⟨fun z => absurd hr z, fun _ => ⟨?_, y⟩⟩
  rw [e, x]
  exact ci_neg y
theorem hi_Fsg1 {t : Int → Int} {n m L S R rt wt rc q sg r f p a b c d g i r1 q1 s1 L1 S1 R1 f1 p1 w q2 s2 r2 : Int} (h : hiQ t n L S R rt wt rc q sg) (hn : n = 0) (h1 : szQ (hsF t q sg) t r1 L1 S1 R1 q1 s1 f1 p1) (e1 : ¬ r1 = 0) (h2 : rsQ t q1 s1 w q2 s2 r2 f p) (ew : w = 59) (e2 : r2 = 0) (hr : r = 0) : hrQ t r m a b c d g i f p := by
  obtain ⟨e, _⟩ := ho_at h hn
  obtain ⟨x, _⟩ := h1.1 e1
  obtain ⟨u, v, z⟩ := h2.2 e2
  subst ew
  subst v
  subst z
  refine ⟨fun z => absurd hr z, fun _ => ⟨?_, by decide⟩⟩
  rw [e, x]
  show ci _ _ _ = _
  rw [ci_pos rfl]
  exact ci_neg u
theorem hi_go1 {t : Int → Int} {n m L S R rt wt rc q sg r1 q1 s1 L1 S1 R1 f1 p1 w q2 s2 r2 f2 p2 : Int} (h : hiQ t n L S R rt wt rc q sg) (hn : n = 0) (h1 : szQ (hsF t q sg) t r1 L1 S1 R1 q1 s1 f1 p1) (e1 : ¬ r1 = 0) (h2 : rsQ t q1 s1 w q2 s2 r2 f2 p2) (ew : w = 59) (e2 : ¬ r2 = 0) (em : m = 1) : hiQ t m L1 S1 R1 rt wt rc q2 s2 := by
  obtain ⟨e, _, b, c, d⟩ := ho_at h hn
  obtain ⟨x, _⟩ := h1.1 e1
  obtain ⟨u, v, z⟩ := h2.1 e2
  subst ew
  subst em
  subst b
  subst c
  subst d
  refine Or.inr ⟨by omega, ?_⟩
  rw [e, x]
  show ci _ _ _ = _
  rw [ci_pos rfl]
  show ci _ _ _ = _
  rw [ci_pos u]
  show lpF t L1 S1 R1 60 1 0 0 0 (skp t (q1 + 1)) (t (skp t (q1 + 1))) = _
  rw [v, ← z]
  rfl
/-- what house answers -/
noncomputable def hA (t : Int → Int) : Int := ci ((hoF t).1 = 0) (hoF t).2.2.1 (-1)
