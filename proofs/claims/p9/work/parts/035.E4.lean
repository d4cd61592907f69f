/-! numbers, rows, statements: functions of the text -/
abbrev sR : Type := Int × Int × Int × Int × Int
noncomputable def nuF (t : Int → Int) (q sg : Int) : sR := ci (isDg sg) (ci (nd t q = 5) (1, q + 4, 0, 0, 0) (0, 0, nvn t q, skp t (q + nd t q), sgn t (skp t (q + nd t q)) (q + nd t q))) (1, q, 0, 0, 0)
theorem nuF_yes {t : Int → Int} {q sg r q' sg' na f p : Int} (h : nuQ t q sg r q' sg' na f p) (e : ¬ r = -1) : nuF t q sg = (0, 0, r, q', sg') := by
  obtain ⟨a, b, c, d, g, _⟩ := h.1 e
  unfold nuF
  rw [ci_pos a, ci_neg (by omega), ← c, d, ← g]
theorem nuF_no {t : Int → Int} {q sg r q' sg' na f p : Int} (h : nuQ t q sg r q' sg' na f p) (e : r = -1) : nuF t q sg = (f, p, 0, 0, 0) := by
  obtain ⟨a, b⟩ := h.2 e
  subst a
  unfold nuF
  rcases b with ⟨b, c⟩ | ⟨b, c, d⟩
  · subst c; rw [ci_neg b]
  · subst d; rw [ci_pos b, ci_pos c]
theorem nu_sv {t : Int → Int} {q sg r q' sg' na f p : Int} (h : nuQ t q sg r q' sg' na f p) (e : ¬ r = -1) : svQ t q' sg' := by
  obtain ⟨a, b, c, d, g, _⟩ := h.1 e
  rw [g]; exact sgn_sv
/-- what a method that answers bad on a fault tells: its function of the text -/
def fnQ (x : sR) (t : Int → Int) (r bad q' sg' f p : Int) : Prop := (¬ r = bad → x = (0, 0, r, q', sg') ∧ svQ t q' sg') ∧ (r = bad → x = (f, p, 0, 0, 0) ∧ ¬ f = 0)
theorem fn_nu {t : Int → Int} {q sg r q' sg' na f p : Int} (h : nuQ t q sg r q' sg' na f p) : fnQ (nuF t q sg) t r (-1) q' sg' f p :=
  ⟨fun e => ⟨nuF_yes h e, nu_sv h e⟩, fun e => ⟨nuF_no h e, by have := (h.2 e).1; omega⟩⟩
noncomputable def btF (t : Int → Int) (q sg lo hi : Int) : sR := ci ((nuF t q sg).1 = 0 ∧ ¬ (lo ≤ (nuF t q sg).2.2.1 ∧ (nuF t q sg).2.2.1 ≤ hi)) (2, q, 0, 0, 0) (nuF t q sg)
theorem bt_no {t : Int → Int} {q sg lo hi r1 r q1 s1 q' sg' na f p : Int} (h : nuQ t q sg r1 q1 s1 na f p) (e : r1 = -1) (hr : r = -1) : fnQ (btF t q sg lo hi) t r (-1) q' sg' f p := by
  have a := nuF_no h e
  have b := (h.2 e).1
  refine ⟨fun e => absurd hr e, fun _ => ⟨?_, by omega⟩⟩
  unfold btF
  rw [a, ci_neg (fun x => by have : f = 0 := x.1; omega)]
theorem bt_out {t : Int → Int} {q sg lo hi r1 r q1 s1 q' sg' na f0 p0 f p : Int} (h : nuQ t q sg r1 q1 s1 na f0 p0) (e : ¬ r1 = -1) (ho : ¬ (lo ≤ r1 ∧ r1 ≤ hi)) (hr : r = -1) (hf : f = 2) (hp : p = q) : fnQ (btF t q sg lo hi) t r (-1) q' sg' f p := by
  have a := nuF_yes h e
  subst hf
  subst hp
  refine ⟨fun e => absurd hr e, fun _ => ⟨?_, by omega⟩⟩
  unfold btF
  rw [a, ci_pos ⟨rfl, ho⟩]
theorem bt_yes {t : Int → Int} {q sg lo hi r q' sg' na f p : Int} (h : nuQ t q sg r q' sg' na f p) (e : ¬ r = -1) (ho : lo ≤ r ∧ r ≤ hi) : fnQ (btF t q sg lo hi) t r (-1) q' sg' f p := by
  have a := nuF_yes h e
  refine ⟨fun e => ⟨?_, nu_sv h e⟩, fun x => absurd x e⟩
  unfold btF
  rw [a, ci_neg (fun x => x.2 ho)]
noncomputable def sdF (t : Int → Int) (q sg : Int) : sR := ci (sg = 45) ((nuF t (skp t (q + 1)) (t (skp t (q + 1)))).1, (nuF t (skp t (q + 1)) (t (skp t (q + 1)))).2.1, -(nuF t (skp t (q + 1)) (t (skp t (q + 1)))).2.2.1, (nuF t (skp t (q + 1)) (t (skp t (q + 1)))).2.2.2) (nuF t q sg)
theorem sd_no {t : Int → Int} {c0 q sg q1 s1 r1 r2 r q2 s2 q' sg' na f p : Int} (h1 : tsQ t q sg c0 q1 s1 r1) (hc : c0 = 45) (h : nuQ t q1 s1 r2 q2 s2 na f p) (e : r2 = -1) (hr : r = -1000000000) : fnQ (sdF t q sg) t r (-1000000000) q' sg' f p := by
  subst hc
  have a := nuF_no h e
  have b := (h.2 e).1
  refine ⟨fun e => absurd hr e, fun _ => ⟨?_, by omega⟩⟩
  unfold sdF
  by_cases c : r1 = 0
  · obtain ⟨c1, c2, c3⟩ := h1.2 c
    subst c2
    subst c3
    rw [ci_neg c1, a]
  · obtain ⟨c1, c2, c3⟩ := h1.1 c
    subst c3
    rw [ci_pos c1, c2, a]
    rfl
theorem sd_yes {t : Int → Int} {c0 q sg q1 s1 r1 r2 r q' sg' na f0 p0 f p : Int} (h1 : tsQ t q sg c0 q1 s1 r1) (hc : c0 = 45) (h : nuQ t q1 s1 r2 q' sg' na f0 p0) (e : ¬ r2 = -1) (hr : (r1 = 0 ∧ r = r2) ∨ (¬ r1 = 0 ∧ r = -r2)) (hb : ¬ r = -1000000000) : fnQ (sdF t q sg) t r (-1000000000) q' sg' f p := by
  subst hc
  have a := nuF_yes h e
  refine ⟨fun _ => ⟨?_, nu_sv h e⟩, fun x => absurd x hb⟩
  unfold sdF
  by_cases c : r1 = 0
  · obtain ⟨c1, c2, c3⟩ := h1.2 c
    subst c2
    subst c3
    rw [ci_neg c1, a]
    have : r = r2 := by omega
    rw [this]
  · obtain ⟨c1, c2, c3⟩ := h1.1 c
    subst c3
    rw [ci_pos c1, c2, a]
    have : r = -r2 := by omega
    rw [this]
/-- a true answer: where it is read to; a false one: what is wrong -/
def boQ (x : sR) (t : Int → Int) (r q' sg' f p : Int) : Prop := (¬ r = 0 → x = (0, 0, 0, q', sg') ∧ svQ t q' sg') ∧ (r = 0 → x = (f, p, 0, 0, 0) ∧ ¬ f = 0)
/-- so many numbers with a sign, each as it must be -/
noncomputable def rwF (t : Int → Int) (ok : Int → Prop) : Nat → Int → Int → sR
  | 0, q, sg => (0, 0, 0, q, sg)
  | k + 1, q, sg => ci ((sdF t q sg).1 = 0) (ci (ok (sdF t q sg).2.2.1) (rwF t ok k (sdF t q sg).2.2.2.1 (sdF t q sg).2.2.2.2) (2, q, 0, 0, 0)) ((sdF t q sg).1, (sdF t q sg).2.1, 0, 0, 0)
theorem rw_step {t : Int → Int} {ok : Int → Prop} {x : sR} {n n' q sg v q' sg' f p bad : Int} (h : x = rwF t ok n.toNat q sg) (hn : 1 ≤ n) (hn' : n' = n - 1) (hs : fnQ (sdF t q sg) t v bad q' sg' f p) (hv : ¬ v = bad) (ho : ok v) : x = rwF t ok n'.toNat q' sg' := by
  have e : n.toNat = n'.toNat + 1 := by omega
  rw [h, e]
  show ci _ _ _ = _
  rw [(hs.1 hv).1, ci_pos rfl, ci_pos ho]
theorem rw_out {t : Int → Int} {ok : Int → Prop} {x : sR} {n q sg v q' sg' f0 p0 f p bad r q2 s2 : Int} (h : x = rwF t ok n.toNat q sg) (hn : 1 ≤ n) (hs : fnQ (sdF t q sg) t v bad q' sg' f0 p0) (hv : ¬ v = bad) (ho : ¬ ok v) (hr : r = 0) (hf : f = 2) (hp : p = q) : boQ x t r q2 s2 f p := by
  subst hf
  subst hp
  refine ⟨fun e => absurd hr e, fun _ => ⟨?_, by omega⟩⟩
  have e : n.toNat = (n - 1).toNat + 1 := by omega
  rw [h, e]
  show ci _ _ _ = _
  rw [(hs.1 hv).1, ci_pos rfl, ci_neg ho]
theorem rw_fail {t : Int → Int} {ok : Int → Prop} {x : sR} {n q sg v q' sg' f p bad r q2 s2 : Int} (h : x = rwF t ok n.toNat q sg) (hn : 1 ≤ n) (hs : fnQ (sdF t q sg) t v bad q' sg' f p) (hv : v = bad) (hr : r = 0) : boQ x t r q2 s2 f p := by
  refine ⟨fun e => absurd hr e, fun _ => ⟨?_, (hs.2 hv).2⟩⟩
  have e : n.toNat = (n - 1).toNat + 1 := by omega
  rw [h, e]
  show ci _ _ _ = _
  rw [(hs.2 hv).1, ci_neg (hs.2 hv).2]
theorem rw_done {t : Int → Int} {ok : Int → Prop} {x : sR} {n q sg : Int} (h : x = rwF t ok n.toNat q sg) (hn : n ≤ 0) : x = (0, 0, 0, q, sg) := by
  rw [h, show n.toNat = 0 by omega]
  rfl
theorem bo_done {t : Int → Int} {ok : Int → Prop} {x : sR} {n q sg r f p : Int} (h : x = rwF t ok n.toNat q sg) (hn : n ≤ 0) (hv : svQ t q sg) (hr : ¬ r = 0) : boQ x t r q sg f p := ⟨fun _ => ⟨rw_done h hn, hv⟩, fun e => absurd e hr⟩
def okR (v : Int) : Prop := -99 ≤ v ∧ v ≤ 99
def okL (L v : Int) : Prop := -L < v ∧ v < L ∧ (v + L) % 2 = 1
abbrev sZ : Type := Int × Int × Int × Int × Int × Int × Int
noncomputable def szH (t : Int → Int) (L S q sg : Int) : sZ := ci ((btF t q sg 1 6).1 = 0) (0, 0, L, S, (btF t q sg 1 6).2.2.1, (btF t q sg 1 6).2.2.2.1, (btF t q sg 1 6).2.2.2.2) ((btF t q sg 1 6).1, (btF t q sg 1 6).2.1, 0, 0, 0, 0, 0)
noncomputable def szG (t : Int → Int) (L q sg : Int) : sZ := ci ((btF t q sg 1 5).1 = 0) (szH t L (btF t q sg 1 5).2.2.1 (btF t q sg 1 5).2.2.2.1 (btF t q sg 1 5).2.2.2.2) ((btF t q sg 1 5).1, (btF t q sg 1 5).2.1, 0, 0, 0, 0, 0)
noncomputable def szF (t : Int → Int) (q sg : Int) : sZ := ci ((btF t q sg 2 8).1 = 0) (szG t (btF t q sg 2 8).2.2.1 (btF t q sg 2 8).2.2.2.1 (btF t q sg 2 8).2.2.2.2) ((btF t q sg 2 8).1, (btF t q sg 2 8).2.1, 0, 0, 0, 0, 0)
def szQ (x : sZ) (t : Int → Int) (r L S R q' sg' f p : Int) : Prop := (¬ r = 0 → x = (0, 0, L, S, R, q', sg') ∧ svQ t q' sg') ∧ (r = 0 → x = (f, p, 0, 0, 0, 0, 0) ∧ ¬ f = 0)
theorem szF_go {t : Int → Int} {q sg lo hi v q1 s1 f p : Int} (h : fnQ (btF t q sg lo hi) t v (-1) q1 s1 f p) (e1 : lo = 2) (e2 : hi = 8) (e : ¬ v = -1) : szF t q sg = szG t v q1 s1 := by
  subst e1
  subst e2
  unfold szF
  rw [(h.1 e).1, ci_pos rfl]
theorem szG_go {t : Int → Int} {L q sg lo hi v q1 s1 f p : Int} (h : fnQ (btF t q sg lo hi) t v (-1) q1 s1 f p) (e1 : lo = 1) (e2 : hi = 5) (e : ¬ v = -1) : szG t L q sg = szH t L v q1 s1 := by
  subst e1
  subst e2
  unfold szG
  rw [(h.1 e).1, ci_pos rfl]
theorem sz_1 {t : Int → Int} {q sg lo hi v q1 s1 f p r L S R q' sg' : Int} (h : fnQ (btF t q sg lo hi) t v (-1) q1 s1 f p) (e1 : lo = 2) (e2 : hi = 8) (e : v = -1) (hr : r = 0) : szQ (szF t q sg) t r L S R q' sg' f p := by
  subst e1
  subst e2
  refine ⟨fun x => absurd hr x, fun _ => ⟨?_, (h.2 e).2⟩⟩
  unfold szF
  rw [(h.2 e).1, ci_neg (h.2 e).2]
theorem sz_2 {t : Int → Int} {q sg lo0 hi0 v0 q0 s0 f0 p0 lo hi v q1 s1 f p r L S R q' sg' : Int} (h0 : fnQ (btF t q sg lo0 hi0) t v0 (-1) q0 s0 f0 p0) (a1 : lo0 = 2) (a2 : hi0 = 8) (a : ¬ v0 = -1) (h : fnQ (btF t q0 s0 lo hi) t v (-1) q1 s1 f p) (e1 : lo = 1) (e2 : hi = 5) (e : v = -1) (hr : r = 0) : szQ (szF t q sg) t r L S R q' sg' f p := by
  subst e1
  subst e2
  refine ⟨fun x => absurd hr x, fun _ => ⟨?_, (h.2 e).2⟩⟩
  rw [szF_go h0 a1 a2 a]
  unfold szG
  rw [(h.2 e).1, ci_neg (h.2 e).2]
theorem sz_3 {t : Int → Int} {q sg lo0 hi0 v0 q0 s0 f0 p0 lo1 hi1 v1 q1 s1 f1 p1 lo hi v q2 s2 f p r L S R q' sg' : Int} (h0 : fnQ (btF t q sg lo0 hi0) t v0 (-1) q0 s0 f0 p0) (a1 : lo0 = 2) (a2 : hi0 = 8) (a : ¬ v0 = -1) (h1 : fnQ (btF t q0 s0 lo1 hi1) t v1 (-1) q1 s1 f1 p1) (b1 : lo1 = 1) (b2 : hi1 = 5) (b : ¬ v1 = -1) (h : fnQ (btF t q1 s1 lo hi) t v (-1) q2 s2 f p) (e1 : lo = 1) (e2 : hi = 6) (e : v = -1) (hr : r = 0) : szQ (szF t q sg) t r L S R q' sg' f p := by
  subst e1
  subst e2
  refine ⟨fun x => absurd hr x, fun _ => ⟨?_, (h.2 e).2⟩⟩
  rw [szF_go h0 a1 a2 a, szG_go h1 b1 b2 b]
  unfold szH
  rw [(h.2 e).1, ci_neg (h.2 e).2]
theorem sz_ok {t : Int → Int} {q sg lo0 hi0 v0 q0 s0 f0 p0 lo1 hi1 v1 q1 s1 f1 p1 lo hi v f2 p2 f p r q' sg' : Int} (h0 : fnQ (btF t q sg lo0 hi0) t v0 (-1) q0 s0 f0 p0) (a1 : lo0 = 2) (a2 : hi0 = 8) (a : ¬ v0 = -1) (h1 : fnQ (btF t q0 s0 lo1 hi1) t v1 (-1) q1 s1 f1 p1) (b1 : lo1 = 1) (b2 : hi1 = 5) (b : ¬ v1 = -1) (h : fnQ (btF t q1 s1 lo hi) t v (-1) q' sg' f2 p2) (e1 : lo = 1) (e2 : hi = 6) (e : ¬ v = -1) (hr : ¬ r = 0) : szQ (szF t q sg) t r v0 v1 v q' sg' f p := by
  subst e1
  subst e2
  refine ⟨fun _ => ⟨?_, (h.1 e).2⟩, fun x => absurd x hr⟩
  rw [szF_go h0 a1 a2 a, szG_go h1 b1 b2 b]
  unfold szH
  rw [(h.1 e).1, ci_pos rfl]
noncomputable def limF (t : Int → Int) (q sg : Int) : sR := ((btF t q sg 0 9999).1, (btF t q sg 0 9999).2.1, 0, (btF t q sg 0 9999).2.2.2.1, (btF t q sg 0 9999).2.2.2.2)
theorem bo_bt {t : Int → Int} {q sg lo hi v q' sg' f p r : Int} (h : fnQ (btF t q sg lo hi) t v (-1) q' sg' f p) (e1 : lo = 0) (e2 : hi = 9999) (hr : r = 0 ↔ v = -1) : boQ (limF t q sg) t r q' sg' f p := by
  subst e1
  subst e2
  refine ⟨fun e => ?_, fun e => ?_⟩
  · obtain ⟨a, b⟩ := h.1 (fun x => e (hr.mpr x))
    refine ⟨?_, b⟩
    unfold limF
    rw [a]
  · obtain ⟨a, b⟩ := h.2 (hr.mp e)
    refine ⟨?_, b⟩
    unfold limF
    rw [a]
