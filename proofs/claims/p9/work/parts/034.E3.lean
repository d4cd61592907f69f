/-! sums and tests, as the class reads them -/
theorem pr_parF3 {t : Int → Int} {q sg o q' sg' r f p : Int} (hs : sg = 40) (ho : o = 6) (hr : r = 0) (hf : f = 3) (hp : p = q) : prQ t 1 2 q sg o q' sg' r f p := by
  subst hf
  subst hp
  exact ⟨fun e => absurd hr e, fun _ K => R1_parF hs ho⟩
theorem pr_par {t : Int → Int} {q sg o o1 q1 s1 q2 s2 q' sg' r f p r1 f1 p1 r2 f2 p2 r3 f3 p3 : Int} (ho : ¬ o = 6) (eo : o1 = o + 1) (h1 : rsQ t q sg 40 q1 s1 r1 f1 p1) (e1 : ¬ r1 = 0) (h2 : prQ t 1 2 q1 s1 o1 q2 s2 r2 f2 p2) (e2 : ¬ r2 = 0) (h3 : rsQ t q2 s2 41 q' sg' r3 f3 p3) (e3 : ¬ r3 = 0) (hr : ¬ r = 0) : prQ t 1 2 q sg o q' sg' r f p := by
  obtain ⟨a1, a2, a3⟩ := h1.1 e1
  obtain ⟨b1, b2⟩ := h2.1 e2
  obtain ⟨c1, c2, c3⟩ := h3.1 e3
  subst a3
  subst c3
  subst eo
  exact ⟨fun _ => ⟨tsv, fun K out h => R1_par a1 ho a2 (b2 (20 :: K) out (R2_close c1 (Or.inl rfl) c2 (by rw [show o + 1 - 1 = o by omega]; exact h)))⟩, fun e => absurd e hr⟩
theorem pr_parFs {t : Int → Int} {q sg o o1 q1 s1 q2 s2 q' sg' r r1 f1 p1 r2 f2 p2 : Int} (ho : ¬ o = 6) (eo : o1 = o + 1) (h1 : rsQ t q sg 40 q1 s1 r1 f1 p1) (e1 : ¬ r1 = 0) (h2 : prQ t 1 2 q1 s1 o1 q2 s2 r2 f2 p2) (e2 : r2 = 0) (hr : r = 0) : prQ t 1 2 q sg o q' sg' r f2 p2 := by
  obtain ⟨a1, a2, a3⟩ := h1.1 e1
  subst a3
  subst eo
  exact ⟨fun e => absurd hr e, fun _ K => R1_par a1 ho a2 (h2.2 e2 (20 :: K))⟩
theorem pr_parFc {t : Int → Int} {q sg o o1 q1 s1 q2 s2 q' sg' q3 s3 r f p r1 f1 p1 r2 f2 p2 r3 : Int} (ho : ¬ o = 6) (eo : o1 = o + 1) (h1 : rsQ t q sg 40 q1 s1 r1 f1 p1) (e1 : ¬ r1 = 0) (h2 : prQ t 1 2 q1 s1 o1 q2 s2 r2 f2 p2) (e2 : ¬ r2 = 0) (hn : nopQ s2 r2) (h3 : rsQ t q2 s2 41 q3 s3 r3 f p) (e3 : r3 = 0) (hr : r = 0) : prQ t 1 2 q sg o q' sg' r f p := by
  obtain ⟨a1, a2, a3⟩ := h1.1 e1
  obtain ⟨b1, b2⟩ := h2.1 e2
  obtain ⟨c1, c2, c3⟩ := h3.2 e3
  subst a3
  subst c2
  subst c3
  subst eo
  exact ⟨fun e => absurd hr e, fun _ K => R1_par a1 ho a2 (b2 (20 :: K) _ (R2_closeF c1 (Or.inl rfl) (hn e2)))⟩
theorem pr_six {t : Int → Int} {q sg o q' sg' r f p r1 : Int} {w : List Int} (h : twQ t q sg w q' sg' r1) (e : ¬ r1 = 0) (hw : w = wSender ∨ w = wSquare) (hv : svQ t q sg) (hr : ¬ r = 0) : prQ t 1 2 q sg o q' sg' r f p := by
  obtain ⟨a, b, c⟩ := h.1 e
  refine ⟨fun _ => ⟨?_, fun K out k => ?_⟩, fun e => absurd e hr⟩
  · rw [c]; exact sgn_sv
  · have hl : (w.length : Int) = 6 := by rcases hw with e | e <;> (subst e; rfl)
    rw [hl] at b c
    subst c
    exact R1_six (by rcases hw with e | e <;> (subst e; simp [a])) hv b k
theorem pr_peak {t : Int → Int} {q sg o q' sg' r f p r1 : Int} (h : twQ t q sg wPeak q' sg' r1) (e : ¬ r1 = 0) (hv : svQ t q sg) (hr : ¬ r = 0) : prQ t 1 2 q sg o q' sg' r f p := by
  obtain ⟨a, b, c⟩ := h.1 e
  refine ⟨fun _ => ⟨?_, fun K out k => ?_⟩, fun e => absurd e hr⟩
  · rw [c]; exact sgn_sv
  · subst c
    exact R1_Peak a hv b k
theorem pr_num {t : Int → Int} {q sg o q' sg' r f p r1 na : Int} (h : nuQ t q sg r1 q' sg' na f p) (hs : ¬ sg = 40) (h1 : ¬ wd t q sg wMin) (h2 : ¬ wd t q sg wMax) (h3 : ¬ wd t q sg wSender) (h4 : ¬ wd t q sg wSquare) (h5 : ¬ wd t q sg wPeak) (hv : svQ t q sg) (hr : r = 0 ↔ r1 = -1) : prQ t 1 2 q sg o q' sg' r f p := by
  refine ⟨fun e => ?_, fun e K => ?_⟩
  · obtain ⟨a, b, _, c, d, _⟩ := h.1 (fun x => e (hr.mpr x))
    refine ⟨by rw [d]; exact sgn_sv, fun K out k => ?_⟩
    subst d
    exact R1_num a hv rfl b c k
  · obtain ⟨a, b⟩ := h.2 (hr.mp e)
    subst a
    rcases b with ⟨b1, b2⟩ | ⟨b1, b2, b3⟩
    · subst b2
      exact R1_numF b1 hs h1 h2 h3 h4 h5
    · subst b3
      exact R1_num5 b1 hv b2
def paQ (t : Int → Int) (q sg o q' sg' r f p : Int) : Prop := (¬ r = 0 → svQ t q' sg' ∧ ∀ (ph : Int) (K : List Int) (out : aOu), (ph = 5 ∨ ph = 6) → Rn t 2 q' sg' o K out → Rn t ph q sg o K out) ∧ (r = 0 → ∀ (ph : Int) (K : List Int), (ph = 5 ∨ ph = 6) → Rn t ph q sg o K (f, p, 0, 0))
theorem pa_F1 {t : Int → Int} {q sg o q' sg' r f p : Int} (hs : ¬ sg = 40) (hr : r = 0) (hf : f = 1) (hp : p = q) : paQ t q sg o q' sg' r f p := by
  subst hf
  subst hp
  exact ⟨fun e => absurd hr e, fun _ ph K h => R5_F1 h hs⟩
theorem pa_F3 {t : Int → Int} {q sg o q' sg' r f p : Int} (hs : sg = 40) (ho : o = 6) (hr : r = 0) (hf : f = 3) (hp : p = q) : paQ t q sg o q' sg' r f p := by
  subst hf
  subst hp
  exact ⟨fun e => absurd hr e, fun _ ph K h => R5_F3 h hs ho⟩
theorem pa_Fa {t : Int → Int} {q sg o o1 q1 s1 q2 s2 q' sg' r r1 f1 p1 r2 f2 p2 : Int} (ho : ¬ o = 6) (eo : o1 = o + 1) (h1 : rsQ t q sg 40 q1 s1 r1 f1 p1) (e1 : ¬ r1 = 0) (h2 : prQ t 1 2 q1 s1 o1 q2 s2 r2 f2 p2) (e2 : r2 = 0) (hr : r = 0) : paQ t q sg o q' sg' r f2 p2 := by
  obtain ⟨a1, a2, a3⟩ := h1.1 e1
  subst a3
  subst eo
  exact ⟨fun e => absurd hr e, fun _ ph K h => R5_go h a1 ho a2 (h2.2 e2 _)⟩
theorem pa_Fk {t : Int → Int} {q sg o o1 q1 s1 q2 s2 q3 s3 q' sg' r f p r1 f1 p1 r2 f2 p2 r3 : Int} (ho : ¬ o = 6) (eo : o1 = o + 1) (h1 : rsQ t q sg 40 q1 s1 r1 f1 p1) (e1 : ¬ r1 = 0) (h2 : prQ t 1 2 q1 s1 o1 q2 s2 r2 f2 p2) (e2 : ¬ r2 = 0) (hn : nopQ s2 r2) (h3 : rsQ t q2 s2 44 q3 s3 r3 f p) (e3 : r3 = 0) (hr : r = 0) : paQ t q sg o q' sg' r f p := by
  obtain ⟨a1, a2, a3⟩ := h1.1 e1
  obtain ⟨b1, b2⟩ := h2.1 e2
  obtain ⟨c1, c2, c3⟩ := h3.2 e3
  subst a3
  subst eo
  subst c2
  subst c3
  exact ⟨fun e => absurd hr e, fun _ ph K h => R5_go h a1 ho a2 (b2 _ _ (R2_commaF c1 (by omega) (hn e2)))⟩
theorem pa_Fb {t : Int → Int} {q sg o o1 o3 q1 s1 q2 s2 q3 s3 q4 s4 q' sg' r r1 f1 p1 r2 f2 p2 r3 f3 p3 r4 f4 p4 : Int} (ho : ¬ o = 6) (eo : o1 = o + 1) (h1 : rsQ t q sg 40 q1 s1 r1 f1 p1) (e1 : ¬ r1 = 0) (h2 : prQ t 1 2 q1 s1 o1 q2 s2 r2 f2 p2) (e2 : ¬ r2 = 0) (h3 : rsQ t q2 s2 44 q3 s3 r3 f3 p3) (e3 : ¬ r3 = 0) (h4 : prQ t 1 2 q3 s3 o3 q4 s4 r4 f4 p4) (eo3 : o3 = o1) (e4 : r4 = 0) (hr : r = 0) : paQ t q sg o q' sg' r f4 p4 := by
  obtain ⟨a1, a2, a3⟩ := h1.1 e1
  obtain ⟨b1, b2⟩ := h2.1 e2
  obtain ⟨c1, c2, c3⟩ := h3.1 e3
  subst eo3
  subst a3
  subst eo
  subst c3
  exact ⟨fun e => absurd hr e, fun _ ph K h => R5_go h a1 ho a2 (b2 _ _ (R2_comma c1 (by omega) c2 (h4.2 e4 _)))⟩
theorem pa_Fc {t : Int → Int} {q sg o o1 o3 q1 s1 q2 s2 q3 s3 q4 s4 q5 s5 q' sg' r f p r1 f1 p1 r2 f2 p2 r3 f3 p3 r4 f4 p4 r5 : Int} (ho : ¬ o = 6) (eo : o1 = o + 1) (h1 : rsQ t q sg 40 q1 s1 r1 f1 p1) (e1 : ¬ r1 = 0) (h2 : prQ t 1 2 q1 s1 o1 q2 s2 r2 f2 p2) (e2 : ¬ r2 = 0) (h3 : rsQ t q2 s2 44 q3 s3 r3 f3 p3) (e3 : ¬ r3 = 0) (h4 : prQ t 1 2 q3 s3 o3 q4 s4 r4 f4 p4) (eo3 : o3 = o1) (e4 : ¬ r4 = 0) (hn : nopQ s4 r4) (h5 : rsQ t q4 s4 41 q5 s5 r5 f p) (e5 : r5 = 0) (hr : r = 0) : paQ t q sg o q' sg' r f p := by
  obtain ⟨a1, a2, a3⟩ := h1.1 e1
  obtain ⟨b1, b2⟩ := h2.1 e2
  obtain ⟨c1, c2, c3⟩ := h3.1 e3
  obtain ⟨d1, d2⟩ := h4.1 e4
  obtain ⟨g1, g2, g3⟩ := h5.2 e5
  subst eo3
  subst a3
  subst eo
  subst c3
  subst g2
  subst g3
  exact ⟨fun e => absurd hr e, fun _ ph K h => R5_go h a1 ho a2 (b2 _ _ (R2_comma c1 (by omega) c2 (d2 _ _ (R2_closeF g1 (by omega) (hn e4)))))⟩
theorem pa_yes {t : Int → Int} {q sg o o1 o3 q1 s1 q2 s2 q3 s3 q4 s4 q' sg' r f p r1 f1 p1 r2 f2 p2 r3 f3 p3 r4 f4 p4 r5 f5 p5 : Int} (ho : ¬ o = 6) (eo : o1 = o + 1) (h1 : rsQ t q sg 40 q1 s1 r1 f1 p1) (e1 : ¬ r1 = 0) (h2 : prQ t 1 2 q1 s1 o1 q2 s2 r2 f2 p2) (e2 : ¬ r2 = 0) (h3 : rsQ t q2 s2 44 q3 s3 r3 f3 p3) (e3 : ¬ r3 = 0) (h4 : prQ t 1 2 q3 s3 o3 q4 s4 r4 f4 p4) (eo3 : o3 = o1) (e4 : ¬ r4 = 0) (h5 : rsQ t q4 s4 41 q' sg' r5 f5 p5) (e5 : ¬ r5 = 0) (hr : ¬ r = 0) : paQ t q sg o q' sg' r f p := by
  obtain ⟨a1, a2, a3⟩ := h1.1 e1
  obtain ⟨b1, b2⟩ := h2.1 e2
  obtain ⟨c1, c2, c3⟩ := h3.1 e3
  obtain ⟨d1, d2⟩ := h4.1 e4
  obtain ⟨g1, g2, g3⟩ := h5.1 e5
  subst eo3
  subst a3
  subst eo
  subst c3
  subst g3
  exact ⟨fun _ => ⟨tsv, fun ph K out h k => R5_go h a1 ho a2 (b2 _ _ (R2_comma c1 (by omega) c2 (d2 _ _ (R2_close g1 (by omega) g2 (by rw [show o + 1 - 1 = o by omega]; exact k)))))⟩, fun e => absurd e hr⟩
theorem pr_min {t : Int → Int} {q sg o q1 s1 q' sg' r f p r1 r2 : Int} (h : twQ t q sg wMin q1 s1 r1) (e : ¬ r1 = 0) (h2 : paQ t q1 s1 o q' sg' r2 f p) (hv : svQ t q sg) (hr : r = 0 ↔ r2 = 0) : prQ t 1 2 q sg o q' sg' r f p := by
  obtain ⟨a, b, c⟩ := h.1 e
  subst c
  refine ⟨fun e => ?_, fun e K => ?_⟩
  · obtain ⟨d1, d2⟩ := h2.1 (fun x => e (hr.mpr x))
    exact ⟨d1, fun K out k => R1_Min a hv b (d2 5 K out (by omega) k)⟩
  · exact R1_Min a hv b (h2.2 (hr.mp e) 5 K (by omega))
theorem pr_max {t : Int → Int} {q sg o q1 s1 q' sg' r f p r1 r2 : Int} (h : twQ t q sg wMax q1 s1 r1) (e : ¬ r1 = 0) (h2 : paQ t q1 s1 o q' sg' r2 f p) (hv : svQ t q sg) (hr : r = 0 ↔ r2 = 0) : prQ t 1 2 q sg o q' sg' r f p := by
  obtain ⟨a, b, c⟩ := h.1 e
  subst c
  refine ⟨fun e => ?_, fun e K => ?_⟩
  · obtain ⟨d1, d2⟩ := h2.1 (fun x => e (hr.mpr x))
    exact ⟨d1, fun K out k => R1_Max a hv b (d2 6 K out (by omega) k)⟩
  · exact R1_Max a hv b (h2.2 (hr.mp e) 6 K (by omega))
theorem pr_op {t : Int → Int} {q sg o o1 q1 s1 q2 s2 q3 s3 g0 f0 p0 c r1 r2 r f p : Int} (h : prQ t 1 2 q sg o q1 s1 g0 f0 p0) (hg : ¬ g0 = 0) (hs : tsQ t q1 s1 c q2 s2 r1) (e1 : ¬ r1 = 0) (hc : c = 42 ∨ c = 47 ∨ c = 43 ∨ c = 45) (h2 : prQ t 1 2 q2 s2 o1 q3 s3 r2 f p) (eo : o1 = o) (hr : r = 0 ↔ r2 = 0) : prQ t 1 2 q sg o q3 s3 r f p := by
  subst eo
  obtain ⟨a, b, d⟩ := hs.1 e1
  subst d
  refine ⟨fun e => ?_, fun e K => ?_⟩
  · obtain ⟨g1, g2⟩ := h2.1 (fun x => e (hr.mpr x))
    exact ⟨g1, fun K out k => (h.1 hg).2 K out (R2_op (by omega) b (g2 K out k))⟩
  · exact (h.1 hg).2 K _ (R2_op (by omega) b (h2.2 (hr.mp e) K))
theorem pr_same {t : Int → Int} {a b q sg o q' sg' q2 s2 r r2 f p : Int} (h : prQ t a b q sg o q' sg' r f p) (hr : r2 = 0 ↔ r = 0) (e1 : q2 = q') (e2 : s2 = sg') : prQ t a b q sg o q2 s2 r2 f p := by
  subst e1
  subst e2
  exact ⟨fun e => h.1 (fun x => e (hr.mpr x)), fun e => h.2 (hr.mp e)⟩
/-! tests -/
def prT (t : Int → Int) (q sg o q' sg' r f p : Int) : Prop := (¬ r = 0 → svQ t q' sg' ∧ ∀ (K : List Int) (out : aOu), ¬ hd9 K = 16 → Rn t 4 q' sg' o K out → Rn t 3 q sg o K out) ∧ (r = 0 → ∀ K : List Int, ¬ hd9 K = 16 → Rn t 3 q sg o K (f, p, 0, 0))
theorem pf_notF3 {t : Int → Int} {q sg o q' sg' r f p r1 : Int} (h : waQ t q sg wNot r1) (e : ¬ r1 = 0) (ho : o = 6) (hr : r = 0) (hf : f = 3) (hp : p = q) : prQ t 3 4 q sg o q' sg' r f p := by
  subst hf
  subst hp
  exact ⟨fun e => absurd hr e, fun _ K => R3_notF (h.1 e) ho⟩
theorem pf_not {t : Int → Int} {q sg o o1 q1 s1 q' sg' r f p r1 f1 p1 r2 : Int} (ho : ¬ o = 6) (eo : o1 = o + 1) (h : rwQ t q sg wNot q1 s1 r1 f1 p1) (e : ¬ r1 = 0) (h2 : prQ t 3 4 q1 s1 o1 q' sg' r2 f p) (hr : r = 0 ↔ r2 = 0) : prQ t 3 4 q sg o q' sg' r f p := by
  obtain ⟨a, b, c⟩ := h.1 e
  subst c
  subst eo
  refine ⟨fun e => ?_, fun e K => ?_⟩
  · obtain ⟨d1, d2⟩ := h2.1 (fun x => e (hr.mpr x))
    exact ⟨d1, fun K out k => R3_not a ho b (d2 (16 :: K) out (R4_not (by rw [show o + 1 - 1 = o by omega]; exact k)))⟩
  · exact R3_not a ho b (h2.2 (hr.mp e) (16 :: K))
theorem pf_sqF3 {t : Int → Int} {q sg o q' sg' r f p : Int} (hs : sg = 91) (hv : svQ t q sg) (ho : o = 6) (hr : r = 0) (hf : f = 3) (hp : p = q) : prQ t 3 4 q sg o q' sg' r f p := by
  subst hf
  subst hp
  exact ⟨fun e => absurd hr e, fun _ K => R3_sqF hs hv ho⟩
theorem hd_25 {K : List Int} : ¬ hd9 (25 :: K) = 16 := fun h => absurd (show (25 : Int) = 16 from h) (by decide)
theorem pf_sqFt {t : Int → Int} {q sg o o1 q1 s1 q2 s2 q' sg' r f p r1 f1 p1 r2 : Int} (hv : svQ t q sg) (ho : ¬ o = 6) (eo : o1 = o + 1) (h : rsQ t q sg 91 q1 s1 r1 f1 p1) (e : ¬ r1 = 0) (h2 : prT t q1 s1 o1 q2 s2 r2 f p) (e2 : r2 = 0) (hr : r = 0) : prQ t 3 4 q sg o q' sg' r f p := by
  obtain ⟨a, b, c⟩ := h.1 e
  subst c
  subst eo
  exact ⟨fun e => absurd hr e, fun _ K => R3_sq a hv ho b (h2.2 e2 (25 :: K) hd_25)⟩
theorem pf_sqFc {t : Int → Int} {q sg o o1 q1 s1 q2 s2 q3 s3 q' sg' r f p r1 f1 p1 r2 f2 p2 r3 : Int} (hv : svQ t q sg) (ho : ¬ o = 6) (eo : o1 = o + 1) (h : rsQ t q sg 91 q1 s1 r1 f1 p1) (e : ¬ r1 = 0) (h2 : prT t q1 s1 o1 q2 s2 r2 f2 p2) (e2 : ¬ r2 = 0) (na : ¬ wd t q2 s2 wAnd) (no : ¬ wd t q2 s2 wOr) (h3 : rsQ t q2 s2 93 q3 s3 r3 f p) (e3 : r3 = 0) (hr : r = 0) : prQ t 3 4 q sg o q' sg' r f p := by
  obtain ⟨a, b, c⟩ := h.1 e
  obtain ⟨d1, d2⟩ := h2.1 e2
  obtain ⟨g1, g2, g3⟩ := h3.2 e3
  subst c
  subst eo
  subst g2
  subst g3
  exact ⟨fun e => absurd hr e, fun _ K => R3_sq a hv ho b (d2 (25 :: K) _ hd_25 (R4_sqF g1 na no))⟩
theorem pf_sq {t : Int → Int} {q sg o o1 q1 s1 q2 s2 q' sg' r f p r1 f1 p1 r2 f2 p2 r3 f3 p3 : Int} (hv : svQ t q sg) (ho : ¬ o = 6) (eo : o1 = o + 1) (h : rsQ t q sg 91 q1 s1 r1 f1 p1) (e : ¬ r1 = 0) (h2 : prT t q1 s1 o1 q2 s2 r2 f2 p2) (e2 : ¬ r2 = 0) (h3 : rsQ t q2 s2 93 q' sg' r3 f3 p3) (e3 : ¬ r3 = 0) (hr : ¬ r = 0) : prQ t 3 4 q sg o q' sg' r f p := by
  obtain ⟨a, b, c⟩ := h.1 e
  obtain ⟨d1, d2⟩ := h2.1 e2
  obtain ⟨g1, g2, g3⟩ := h3.1 e3
  subst c
  subst eo
  subst g3
  exact ⟨fun _ => ⟨tsv, fun K out k => R3_sq a hv ho b (d2 (25 :: K) _ hd_25 (R4_sq g1 g2 (by rw [show o + 1 - 1 = o by omega]; exact k)))⟩, fun e => absurd e hr⟩
theorem pf_all {t : Int → Int} {q sg o q' sg' r f p r1 : Int} (h : twQ t q sg wAll q' sg' r1) (e : ¬ r1 = 0) (hv : svQ t q sg) (hr : ¬ r = 0) : prQ t 3 4 q sg o q' sg' r f p := by
  obtain ⟨a, b, c⟩ := h.1 e
  refine ⟨fun _ => ⟨?_, fun K out k => ?_⟩, fun e => absurd e hr⟩
  · rw [c]; exact sgn_sv
  · subst c
    exact R3_all a hv b k
theorem pf_sumF {t : Int → Int} {q sg o q1 s1 q' sg' r f p r1 : Int} (h1 : ¬ wd t q sg wNot) (h2 : ¬ sg = 91) (h3 : ¬ wd t q sg wAll) (h : prQ t 1 2 q sg o q1 s1 r1 f p) (e : r1 = 0) (hr : r = 0) : prQ t 3 4 q sg o q' sg' r f p :=
  ⟨fun e => absurd hr e, fun _ K => R3_sum h1 h2 h3 (h.2 e _)⟩
theorem pf_cmpF {t : Int → Int} {q sg o q1 s1 q' sg' r f p r1 f1 p1 : Int} (h1 : ¬ wd t q sg wNot) (h2 : ¬ sg = 91) (h3 : ¬ wd t q sg wAll) (h : prQ t 1 2 q sg o q1 s1 r1 f1 p1) (e : ¬ r1 = 0) (hn : nopQ s1 r1) (hc : ¬ (s1 = 60 ∨ s1 = 61 ∨ s1 = 62)) (hr : r = 0) (hf : f = 1) (hp : p = q1) : prQ t 3 4 q sg o q' sg' r f p := by
  subst hf
  subst hp
  exact ⟨fun e => absurd hr e, fun _ K => R3_sum h1 h2 h3 ((h.1 e).2 _ _ (R2_cmpF hc (hn e)))⟩
theorem pf_cmp {t : Int → Int} {q sg o o3 q1 s1 q2 s2 b z q' sg' r f p r1 f1 p1 r2 : Int} (h1 : ¬ wd t q sg wNot) (h2 : ¬ sg = 91) (h3 : ¬ wd t q sg wAll) (h : prQ t 1 2 q sg o q1 s1 r1 f1 p1) (e : ¬ r1 = 0) (hc : s1 = 60 ∨ s1 = 61 ∨ s1 = 62) (hb : b = q1 + 1) (ha : q2 = skp t b) (hs : s2 = gsn t b q2 z) (hz : z = 0) (h4 : prQ t 1 2 q2 s2 o3 q' sg' r2 f p) (eo3 : o3 = o) (hn : nopQ sg' r2) (hr : r = 0 ↔ r2 = 0) : prQ t 3 4 q sg o q' sg' r f p := by
  subst eo3
  subst hb
  have hs2 : s2 = t q2 := hs.trans (gsn_t (Or.inl hz))
  subst hs2
  refine ⟨fun e9 => ?_, fun e9 K => ?_⟩
  · have e8 : ¬ r2 = 0 := fun x => e9 (hr.mpr x)
    obtain ⟨d1, d2⟩ := h4.1 e8
    exact ⟨d1, fun K out k => R3_sum h1 h2 h3 ((h.1 e).2 _ _ (R2_cmp hc ha.symm (d2 _ _ (R2_end (hn e8) k))))⟩
  · exact R3_sum h1 h2 h3 ((h.1 e).2 _ _ (R2_cmp hc ha.symm (h4.2 (hr.mp e9) _)))
theorem pT_of {t : Int → Int} {q sg o q' sg' r r2 f p : Int} (h : prQ t 3 4 q sg o q' sg' r f p) (hr : r2 = 0 ↔ r = 0) : prT t q sg o q' sg' r2 f p :=
  ⟨fun e => ⟨(h.1 (fun x => e (hr.mpr x))).1, fun K out _ k => (h.1 (fun x => e (hr.mpr x))).2 K out k⟩, fun e K _ => h.2 (hr.mp e) K⟩
theorem pT_and {t : Int → Int} {q sg o o1 q1 s1 q2 s2 q3 s3 g0 f0 p0 r1 r2 r f p : Int} (h : prT t q sg o q1 s1 g0 f0 p0) (hg : ¬ g0 = 0) (hw : twQ t q1 s1 wAnd q2 s2 r1) (e1 : ¬ r1 = 0) (h2 : prQ t 3 4 q2 s2 o1 q3 s3 r2 f p) (eo : o1 = o) (hr : r = 0 ↔ r2 = 0) : prT t q sg o q3 s3 r f p := by
  subst eo
  obtain ⟨a, b, d⟩ := hw.1 e1
  subst d
  have hv := (h.1 hg).1
  refine ⟨fun e => ?_, fun e K hk => ?_⟩
  · obtain ⟨g1, g2⟩ := h2.1 (fun x => e (hr.mpr x))
    exact ⟨g1, fun K out hk k => (h.1 hg).2 K out hk (R4_and hk a hv b (g2 K out k))⟩
  · exact (h.1 hg).2 K _ hk (R4_and hk a hv b (h2.2 (hr.mp e) K))
theorem pT_or {t : Int → Int} {q sg o o1 q1 s1 q2 s2 q3 s3 g0 f0 p0 r1 r2 r f p : Int} (h : prT t q sg o q1 s1 g0 f0 p0) (hg : ¬ g0 = 0) (hw : twQ t q1 s1 wOr q2 s2 r1) (e1 : ¬ r1 = 0) (h2 : prT t q2 s2 o1 q3 s3 r2 f p) (eo : o1 = o) (hr : r = 0 ↔ r2 = 0) : prT t q sg o q3 s3 r f p := by
  subst eo
  obtain ⟨a, b, d⟩ := hw.1 e1
  subst d
  have hv := (h.1 hg).1
  refine ⟨fun e => ?_, fun e K hk => ?_⟩
  · obtain ⟨g1, g2⟩ := h2.1 (fun x => e (hr.mpr x))
    exact ⟨g1, fun K out hk k => (h.1 hg).2 K out hk (R4_or hk a hv b (g2 K out hk k))⟩
  · exact (h.1 hg).2 K _ hk (R4_or hk a hv b (h2.2 (hr.mp e) K hk))
/-- a rule: the automaton's answer from its sum on -/
def ruQ (t : Int → Int) (q sg q' sg' r f p : Int) : Prop := (¬ r = 0 → svQ t q' sg' ∧ Rn t 1 q sg 0 [30] (0, 0, q', sg')) ∧ (r = 0 → Rn t 1 q sg 0 [30] (f, p, 0, 0))
theorem ru_Fs {t : Int → Int} {q sg o q1 s1 q' sg' r f p r1 : Int} (ho : o = 0) (h : prQ t 1 2 q sg o q1 s1 r1 f p) (e : r1 = 0) (hr : r = 0) : ruQ t q sg q' sg' r f p := by
  subst ho
  exact ⟨fun e => absurd hr e, fun _ => h.2 e _⟩
theorem ru_Fw {t : Int → Int} {q sg o q1 s1 q2 s2 q' sg' r f p r1 f1 p1 r2 : Int} (ho : o = 0) (h : prQ t 1 2 q sg o q1 s1 r1 f1 p1) (e : ¬ r1 = 0) (hn : nopQ s1 r1) (h2 : rwQ t q1 s1 wWhen q2 s2 r2 f p) (e2 : r2 = 0) (hr : r = 0) : ruQ t q sg q' sg' r f p := by
  obtain ⟨a, b, c⟩ := h2.2 e2
  subst ho
  subst b
  subst c
  exact ⟨fun e => absurd hr e, fun _ => (h.1 e).2 _ _ (R2_whenF a (hn e))⟩
theorem hd_nil : ¬ hd9 [] = 16 := fun h => absurd (show (99 : Int) = 16 from h) (by decide)
theorem ru_Ft {t : Int → Int} {q sg o o3 q1 s1 q2 s2 q3 s3 q' sg' r f p r1 f1 p1 r2 f2 p2 r3 : Int} (ho : o = 0) (h : prQ t 1 2 q sg o q1 s1 r1 f1 p1) (e : ¬ r1 = 0) (h2 : rwQ t q1 s1 wWhen q2 s2 r2 f2 p2) (e2 : ¬ r2 = 0) (h3 : prT t q2 s2 o3 q3 s3 r3 f p) (eo3 : o3 = o) (e3 : r3 = 0) (hr : r = 0) : ruQ t q sg q' sg' r f p := by
  obtain ⟨a, b, c⟩ := h2.1 e2
  subst eo3
  subst ho
  subst c
  exact ⟨fun e => absurd hr e, fun _ => (h.1 e).2 _ _ (R2_when a (h.1 e).1 b (h3.2 e3 [] hd_nil))⟩
theorem ru_yes {t : Int → Int} {q sg o o3 q1 s1 q2 s2 q' sg' r f p r1 f1 p1 r2 f2 p2 r3 f3 p3 : Int} (ho : o = 0) (h : prQ t 1 2 q sg o q1 s1 r1 f1 p1) (e : ¬ r1 = 0) (h2 : rwQ t q1 s1 wWhen q2 s2 r2 f2 p2) (e2 : ¬ r2 = 0) (h3 : prT t q2 s2 o3 q' sg' r3 f3 p3) (eo3 : o3 = o) (e3 : ¬ r3 = 0) (na : ¬ wd t q' sg' wAnd) (no : ¬ wd t q' sg' wOr) (hr : ¬ r = 0) : ruQ t q sg q' sg' r f p := by
  obtain ⟨a, b, c⟩ := h2.1 e2
  subst eo3
  subst ho
  subst c
  exact ⟨fun _ => ⟨(h3.1 e3).1, (h.1 e).2 _ _ (R2_when a (h.1 e).1 b ((h3.1 e3).2 [] _ hd_nil (R4_end (K := []) na no)))⟩, fun e => absurd e hr⟩
theorem pr_at {t : Int → Int} {a b q sg q1 s1 o q' sg' r f p : Int} (e1 : q1 = q) (e2 : s1 = sg) (h : prQ t a b q1 s1 o q' sg' r f p) : prQ t a b q sg o q' sg' r f p := by
  subst e1
  subst e2
  exact h
theorem pr_wd {t : Int → Int} {q sg q1 s1 : Int} {w : List Int} (h : ¬ wd t q sg w) (e1 : q1 = q) (e2 : s1 = sg) : ¬ wd t q1 s1 w := by
  subst e1
  subst e2
  exact h
theorem pr_hop {t : Int → Int} {q sg o q1 s1 q2 s2 g0 f p c r1 : Int} (h : prQ t 1 2 q sg o q1 s1 g0 f p) (h1 : tsQ t q1 s1 c q2 s2 r1) (e1 : r1 = 0) : prQ t 1 2 q sg o q2 s2 g0 f p := by
  obtain ⟨_, a, b⟩ := h1.2 e1
  subst a
  subst b
  exact h
theorem pr_hop2 {t : Int → Int} {q sg o q1 s1 q2 s2 q3 s3 g0 f p c r1 d r2 r : Int} (h : prQ t 1 2 q sg o q1 s1 g0 f p) (h1 : tsQ t q1 s1 c q2 s2 r1) (e1 : r1 = 0) (h2 : tsQ t q2 s2 d q3 s3 r2) (e2 : r2 = 0) (hr : r = 0 ↔ g0 = 0) : prQ t 1 2 q sg o q3 s3 r f p :=
  pr_same (pr_hop (pr_hop h h1 e1) h2 e2) hr rfl rfl
def npP (sg r : Int) : Prop := ¬ r = 0 → ¬ (sg = 42 ∨ sg = 47)
theorem np_ts {t : Int → Int} {q1 s1 q2 s2 q3 s3 c r1 d r2 : Int} (h1 : tsQ t q1 s1 c q2 s2 r1) (e1 : r1 = 0) (h2 : tsQ t q2 s2 d q3 s3 r2) (e2 : r2 = 0) : ¬ (s3 = c ∨ s3 = d) := by
  obtain ⟨a, _, b⟩ := h1.2 e1
  obtain ⟨a', _, b'⟩ := h2.2 e2
  omega
theorem np_keep {t : Int → Int} {q1 s1 q2 s2 q3 s3 c r1 d r2 : Int} (h1 : tsQ t q1 s1 c q2 s2 r1) (e1 : r1 = 0) (h2 : tsQ t q2 s2 d q3 s3 r2) (e2 : r2 = 0) : s3 = s1 := by
  obtain ⟨a, _, b⟩ := h1.2 e1
  obtain ⟨a', _, b'⟩ := h2.2 e2
  omega
theorem sv_end {f : Nat → Int32} {n q sg : Int} (h : svQ (taub f n) q sg) (h1 : n ≤ q) : sg = -1 := by
  have e := taub_out (f := f) (n := n) (i := q) (Or.inr h1)
  rcases h with a | a
  · have := a.2
    unfold isSm isDg at this
    omega
  · omega
theorem wd_end {f : Nat → Int32} {n q sg a : Int} {w : List Int} (h1 : n ≤ q) (ha : 0 ≤ a) : ¬ wd (taub f n) q sg (a :: w) := by
  intro h
  have e := taub_out (f := f) (n := n) (i := q) (Or.inr h1)
  have := wd_0 h
  omega
theorem pT_hop {t : Int → Int} {q sg o q1 s1 q2 s2 g0 f p r1 : Int} {w : List Int} (h : prT t q sg o q1 s1 g0 f p) (h1 : twQ t q1 s1 w q2 s2 r1) (e1 : r1 = 0) : prT t q sg o q2 s2 g0 f p := by
  obtain ⟨_, a, b⟩ := h1.2 e1
  subst a
  subst b
  exact h
theorem pT_eq {t : Int → Int} {q sg o q1 s1 g0 f p r : Int} (h : prT t q sg o q1 s1 g0 f p) (hr : r = 0 ↔ g0 = 0) : prT t q sg o q1 s1 r f p := ⟨fun e => h.1 (fun x => e (hr.mpr x)), fun e => h.2 (hr.mp e)⟩
theorem tw_not {t : Int → Int} {q sg q' sg' r : Int} {w : List Int} (h : twQ t q sg w q' sg' r) (e : r = 0) : ¬ wd t q' sg' w := by
  obtain ⟨a, b, c⟩ := h.2 e
  subst b
  subst c
  exact a
theorem tw_not2 {t : Int → Int} {q sg q' sg' r : Int} {w w2 : List Int} (h : twQ t q sg w q' sg' r) (e : r = 0) (hn : ¬ wd t q sg w2) : ¬ wd t q' sg' w2 := by
  obtain ⟨a, b, c⟩ := h.2 e
  subst b
  subst c
  exact hn
