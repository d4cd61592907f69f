/-! numbers with a sign, rows, statements, the house, as the reference reads them -/
theorem nb_bt {t : Int → Int} {at_ e b bp lo hi a2 e2 b2 bp2 r : Int} (h : nbM t at_ e b bp lo hi a2 e2 b2 bp2 r) (hb : b = 0) : (b2 = 0 → btF t (skp t at_) (sgn t (skp t at_) e) lo hi = (0, 0, r, skp t a2, sgn t (skp t a2) e2)) ∧ (¬ b2 = 0 → btF t (skp t at_) (sgn t (skp t at_) e) lo hi = (b2, bp2, 0, 0, 0)) := by
  obtain ⟨g1, g2⟩ := h.2 hb
  refine ⟨fun z => ?_, fun z => ?_⟩
  · obtain ⟨x1, x2, x3, x4, x5, x6, x7⟩ := g1 z
    have e1 : nuF t (skp t at_) (sgn t (skp t at_) e) = (0, 0, r, skp t a2, sgn t (skp t a2) e2) := by
      unfold nuF
      rw [ci_pos x1, ci_neg (by omega), ← x3, x7, x6]
    unfold btF
    rw [e1, ci_neg (fun q => q.2 ⟨x4, x5⟩)]
  · rcases g2 z with ⟨y1, y2⟩ | ⟨y1, y2, y3, y4, y5⟩
    · have e1 : nuF t (skp t at_) (sgn t (skp t at_) e) = (b2, bp2, 0, 0, 0) := by
        rcases y2 with ⟨k1, k2⟩ | ⟨k1, k2, k3⟩
        · unfold nuF
          rw [ci_neg k1, y1, k2]
        · unfold nuF
          rw [ci_pos k1, ci_pos k2, y1, k3]
      unfold btF
      rw [e1, ci_neg (fun q => z q.1)]
    · have e1 : (nuF t (skp t at_) (sgn t (skp t at_) e)).1 = 0 ∧ (nuF t (skp t at_) (sgn t (skp t at_) e)).2.2.1 = nvn t (skp t at_) := by
        unfold nuF
        rw [ci_pos y3, ci_neg (by omega)]
        exact ⟨rfl, rfl⟩
      unfold btF
      rw [ci_pos ⟨e1.1, by rw [e1.2]; exact y5⟩, y1, y2]
theorem nb_nu {t : Int → Int} {at_ e b bp lo hi a2 e2 b2 bp2 r : Int} (h : nbM t at_ e b bp lo hi a2 e2 b2 bp2 r) (hb : b = 0) (hl : lo = 0) (hh : hi = 9999) : (b2 = 0 → nuF t (skp t at_) (sgn t (skp t at_) e) = (0, 0, r, skp t a2, sgn t (skp t a2) e2)) ∧ (¬ b2 = 0 → nuF t (skp t at_) (sgn t (skp t at_) e) = (b2, bp2, 0, 0, 0)) := by
  obtain ⟨g1, g2⟩ := h.2 hb
  refine ⟨fun z => ?_, fun z => ?_⟩
  · obtain ⟨x1, x2, x3, x4, x5, x6, x7⟩ := g1 z
    unfold nuF
    rw [ci_pos x1, ci_neg (by omega), ← x3, x7, x6]
  · rcases g2 z with ⟨y1, y2⟩ | ⟨y1, y2, y3, y4, y5⟩
    · rcases y2 with ⟨k1, k2⟩ | ⟨k1, k2, k3⟩
      · unfold nuF
        rw [ci_neg k1, y1, k2]
      · unfold nuF
        rw [ci_pos k1, ci_pos k2, y1, k3]
    · have := nvn_rng y4
      exact absurd (by omega) y5
theorem sdn {t : Int → Int} {at_ q e b bp lo hi a1 a2 e2 b2 bp2 r r' : Int} (hm : (t q = 45 ∧ a1 = q + 1 ∧ r' = -r) ∨ (¬ t q = 45 ∧ a1 = q ∧ r' = r)) (hq : q = skp t at_) (hi' : skp t q = q) (he : e ≤ q) (nb : nbM t a1 e b bp lo hi a2 e2 b2 bp2 r) (hb : b = 0) (hl : lo = 0) (hh : hi = 9999) : (b2 = 0 → sdF t (skp t at_) (sgn t (skp t at_) e) = (0, 0, r', skp t a2, sgn t (skp t a2) e2)) ∧ (¬ b2 = 0 → sdF t (skp t at_) (sgn t (skp t at_) e) = (b2, bp2, 0, 0, 0)) := by
  have n := nb_nu nb hb hl hh
  rw [← hq]
  rcases hm with ⟨h1, h2, h3⟩ | ⟨h1, h2, h3⟩
  · subst h2
    subst h3
    have f : sgn t (skp t (q + 1)) e = t (skp t (q + 1)) := sgn_far (by have := skp_ge (t := t) (p := q + 1); omega)
    rw [f] at n
    have s : sgn t q e = 45 := sgn_c h1 (by decide)
    unfold sdF
    rw [ci_pos s]
    refine ⟨fun z => ?_, fun z => ?_⟩
    · rw [n.1 z]
    · rw [n.2 z]
      rfl
  · subst h2
    subst h3
    rw [hi'] at n
    unfold sdF
    rw [ci_neg (sgn_nc h1 (by decide))]
    exact n
def okG (mo st v : Int) : Prop := -mo ≤ v ∧ v ≤ mo ∧ (st = 2 → (v + mo) % 2 = 0)
def sdM (t : Int → Int) (at_ e b bp mo st a2 e2 b2 bp2 r : Int) : Prop := (¬ b = 0 → a2 = at_ ∧ e2 = e ∧ b2 = b ∧ bp2 = bp) ∧ (b = 0 → (b2 = 0 → sdF t (skp t at_) (sgn t (skp t at_) e) = (0, 0, r, skp t a2, sgn t (skp t a2) e2) ∧ okG mo st r) ∧ (¬ b2 = 0 → sdF t (skp t at_) (sgn t (skp t at_) e) = (b2, bp2, 0, 0, 0) ∨ (b2 = 2 ∧ bp2 = skp t at_ ∧ ∃ v x y : Int, sdF t (skp t at_) (sgn t (skp t at_) e) = (0, 0, v, x, y) ∧ ¬ okG mo st v)))
theorem sdM_no {t : Int → Int} {at_ e b bp mo st a2 e2 b2 bp2 r : Int} (h : ¬ b = 0) (h2 : a2 = at_ ∧ e2 = e ∧ b2 = b ∧ bp2 = bp) : sdM t at_ e b bp mo st a2 e2 b2 bp2 r := ⟨fun _ => h2, fun x => absurd x h⟩
theorem sdM_F {t : Int → Int} {at_ e b bp mo st a2 e2 b2 bp2 r : Int} (hb : b = 0) (h : ¬ b2 = 0 → sdF t (skp t at_) (sgn t (skp t at_) e) = (b2, bp2, 0, 0, 0)) (h2 : ¬ b2 = 0) : sdM t at_ e b bp mo st a2 e2 b2 bp2 r := ⟨fun x => absurd hb x, fun _ => ⟨fun x => absurd x h2, fun _ => Or.inl (h h2)⟩⟩
theorem sdM_yes {t : Int → Int} {at_ e b bp mo st a2 e2 b2 bp2 r : Int} (hb : b = 0) (h : b2 = 0 → sdF t (skp t at_) (sgn t (skp t at_) e) = (0, 0, r, skp t a2, sgn t (skp t a2) e2)) (h2 : b2 = 0) (ok : okG mo st r) : sdM t at_ e b bp mo st a2 e2 b2 bp2 r := ⟨fun x => absurd hb x, fun _ => ⟨fun _ => ⟨h h2, ok⟩, fun x => absurd h2 x⟩⟩
theorem sdM_out {t : Int → Int} {at_ q e b bp mo st a1 e1 b1 a2 e2 b2 bp2 r v : Int} (hb : b = 0) (h : b1 = 0 → sdF t (skp t at_) (sgn t (skp t at_) e) = (0, 0, v, skp t a1, sgn t (skp t a1) e1)) (h1 : b1 = 0) (no : ¬ okG mo st v) (h2 : b2 = 2) (hq : q = skp t at_) (hp : bp2 = q) : sdM t at_ e b bp mo st a2 e2 b2 bp2 r := ⟨fun x => absurd hb x, fun _ => ⟨fun x => absurd x (by omega), fun _ => Or.inr ⟨h2, hp.trans hq, v, _, _, h h1, no⟩⟩⟩
/-- so far of a row: what is left of it, or what is wrong -/
def rwM (t : Int → Int) (ok : Int → Prop) (x : sR) (n at_ e b bp : Int) : Prop := (b = 0 → x = rwF t ok n.toNat (skp t at_) (sgn t (skp t at_) e)) ∧ (¬ b = 0 → x = (b, bp, 0, 0, 0))
theorem rwM_0 {t : Int → Int} {ok : Int → Prop} {n n2 at_ e b bp : Int} (hb : b = 0) (hn : n2 = n) : rwM t ok (rwF t ok n.toNat (skp t at_) (sgn t (skp t at_) e)) n2 at_ e b bp := ⟨fun _ => by rw [hn], fun x => absurd hb x⟩
theorem rwM_step {t : Int → Int} {ok : Int → Prop} {x : sR} {n n2 at_ e b bp mo st a2 e2 b2 bp2 r : Int} (h : rwM t ok x n at_ e b bp) (hn : 1 ≤ n) (s : sdM t at_ e b bp mo st a2 e2 b2 bp2 r) (hk : ∀ v : Int, okG mo st v ↔ ok v) (en : n2 = n - 1) : rwM t ok x n2 a2 e2 b2 bp2 := by
  have e0 : n.toNat = n2.toNat + 1 := by omega
  by_cases hb : b = 0
  · obtain ⟨g1, g2⟩ := s.2 hb
    have hx := h.1 hb
    rw [e0] at hx
    refine ⟨fun z => ?_, fun z => ?_⟩
    · obtain ⟨a, c⟩ := g1 z
      rw [hx]
      show ci _ _ _ = _
      rw [a, ci_pos rfl, ci_pos ((hk r).mp c)]
    · rw [hx]
      show ci _ _ _ = _
      rcases g2 z with a | ⟨a, c, v, x1, x2, d, f⟩
      · rw [a, ci_neg z]
      · rw [d, ci_pos rfl, ci_neg (fun q => f ((hk v).mpr q)), a, c]
  · obtain ⟨a, c, d, f⟩ := s.1 hb
    subst d
    subst f
    exact ⟨fun z => absurd z hb, h.2⟩
def boM (x : sR) (t : Int → Int) (at_ e b bp : Int) : Prop := (b = 0 → x = (0, 0, 0, skp t at_, sgn t (skp t at_) e)) ∧ (¬ b = 0 → x = (b, bp, 0, 0, 0))
theorem rwM_end {t : Int → Int} {ok : Int → Prop} {x : sR} {n at_ e b bp : Int} (h : rwM t ok x n at_ e b bp) (hn : n ≤ 0) : boM x t at_ e b bp := ⟨fun z => by rw [h.1 z, show n.toNat = 0 by omega]; rfl, h.2⟩
theorem okG_R {mo st : Int} (h1 : mo = 99) (h2 : st = 1) : ∀ v : Int, okG mo st v ↔ okR v := by
  intro v
  unfold okG okR
  constructor
  · intro h
    omega
  · intro h
    exact ⟨by omega, by omega, fun q => absurd q (by omega)⟩
theorem okG_L {L mo st : Int} (h1 : mo = L - 1) (h2 : st = 2) : ∀ v : Int, okG mo st v ↔ okL L v := by
  intro v
  unfold okG okL
  constructor
  · intro h
    have := h.2.2 h2
    omega
  · intro h
    exact ⟨by omega, by omega, fun _ => by omega⟩
/-! a statement -/
def stM (x : sS) (t : Int → Int) (at_ e rt wt rc b bp : Int) : Prop := (b = 0 → x = (0, 0, skp t at_, sgn t (skp t at_) e, rt, wt, rc)) ∧ (¬ b = 0 → x = (b, bp, 0, 0, 0, 0, 0))
theorem stM_bo {x : sR} {y : sS} {t : Int → Int} {at_ e rt wt rc rt2 wt2 rc2 b bp : Int} (h : boM x t at_ e b bp) (ey : y = stR x rt wt rc) (e1 : b = 0 → rt2 = rt ∧ wt2 = wt ∧ rc2 = rc) : stM y t at_ e rt2 wt2 rc2 b bp := by
  refine ⟨fun z => ?_, fun z => ?_⟩
  · obtain ⟨a, c, d⟩ := e1 z
    rw [ey, h.1 z, a, c, d]
    exact ci_pos rfl
  · rw [ey, h.2 z]
    exact ci_neg z
theorem stM_no {y : sS} {t : Int → Int} {k at_ e rt wt rc b bp q : Int} (ey : y = (k, q, 0, 0, 0, 0, 0)) (hk : ¬ k = 0) (hb : b = k) (hp : bp = q) : stM y t at_ e rt wt rc b bp := by
  subst hb
  subst hp
  exact ⟨fun z => absurd z hk, fun _ => ey⟩
theorem tk_to {t : Int → Int} {q e a1 e1 r n : Int} {w : List Int} (h : tkM t q e w a1 e1 r) (hr : ¬ r = 0) (hi : skp t q = q) (hn : (w.length : Int) = n) : wd t q (sgn t q e) w ∧ a1 = q + n ∧ e1 = q + n := by
  obtain ⟨a, b, c⟩ := h.1 hr
  rw [hi] at a b
  rw [hn] at b
  exact ⟨a, b, c.trans b⟩
theorem tk_nw {t : Int → Int} {q e a1 e1 r : Int} {w : List Int} (h : tkM t q e w a1 e1 r) (hr : r = 0) (hi : skp t q = q) : ¬ wd t q (sgn t q e) w ∧ a1 = q ∧ e1 = e := by
  obtain ⟨a, b, c⟩ := h.2 hr
  rw [hi] at a b
  exact ⟨a, b, c⟩
theorem stM_row {t : Int → Int} {L S R rt wt rc q e a1 e1 r a2 e2 b bp rt2 wt2 rc2 : Int} (h : tkM t q e wRow a1 e1 r) (hr : ¬ r = 0) (hi : skp t q = q) (hc : rt < R) (o : boM (rwF t okR S.toNat (skp t a1) (sgn t (skp t a1) e1)) t a2 e2 b bp) (ee : b = 0 → rt2 = rt + 1 ∧ wt2 = wt ∧ rc2 = rc) : stM (stF t L S R rt wt rc q (sgn t q e)) t a2 e2 rt2 wt2 rc2 b bp := by
  obtain ⟨x, y, z⟩ := tk_to h hr hi (n := 3) rfl
  subst y
  subst z
  exact stM_bo o (st_row x hc) ee
theorem stM_row4 {t : Int → Int} {L S R rt wt rc q e a1 e1 r a2 e2 b bp rt2 wt2 rc2 : Int} (h : tkM t q e wRow a1 e1 r) (hr : ¬ r = 0) (hi : skp t q = q) (hc : ¬ rt < R) (hb : b = 4) (hp : bp = q) : stM (stF t L S R rt wt rc q (sgn t q e)) t a2 e2 rt2 wt2 rc2 b bp :=
  stM_no (st_rowF (tk_to h hr hi rfl).1 hc) (by decide) hb hp
theorem stM_word {t : Int → Int} {L S R rt wt rc q q1 e e0 a1 e1 r a2 e2 b bp rt2 wt2 rc2 : Int} (n0 : ¬ wd t q (sgn t q e) wRow ∧ q1 = q ∧ e0 = e) (h : tkM t q1 e0 wWord a1 e1 r) (hr : ¬ r = 0) (hi : skp t q = q) (hc : wt < 16) (o : boM (rwF t (okL L) S.toNat (skp t a1) (sgn t (skp t a1) e1)) t a2 e2 b bp) (ee : b = 0 → rt2 = rt ∧ wt2 = wt + 1 ∧ rc2 = rc) : stM (stF t L S R rt wt rc q (sgn t q e)) t a2 e2 rt2 wt2 rc2 b bp := by
  obtain ⟨n0, z1, z2⟩ := n0
  subst z1
  subst z2
  obtain ⟨x, y, z⟩ := tk_to h hr hi (n := 4) rfl
  subst y
  subst z
  exact stM_bo o (st_word n0 x hc) ee
theorem stM_word4 {t : Int → Int} {L S R rt wt rc q q1 e e0 a1 e1 r a2 e2 b bp rt2 wt2 rc2 : Int} (n0 : ¬ wd t q (sgn t q e) wRow ∧ q1 = q ∧ e0 = e) (h : tkM t q1 e0 wWord a1 e1 r) (hr : ¬ r = 0) (hi : skp t q = q) (hc : ¬ wt < 16) (hb : b = 4) (hp : bp = q) : stM (stF t L S R rt wt rc q (sgn t q e)) t a2 e2 rt2 wt2 rc2 b bp := by
  obtain ⟨n0, z1, z2⟩ := n0
  subst z1
  subst z2
  exact stM_no (st_wordF n0 (tk_to h hr hi rfl).1 hc) (by decide) hb hp
/-- behind two or three words that don't stand here -/
theorem nn_2 {t : Int → Int} {q q1 q2 e e0 e1 r : Int} {w w2 : List Int} (n0 : ¬ wd t q (sgn t q e) w ∧ q1 = q ∧ e0 = e) (h : tkM t q1 e0 w2 q2 e1 r) (hr : r = 0) (hi : skp t q = q) : ¬ wd t q (sgn t q e) w2 ∧ q2 = q ∧ e1 = e := by
  obtain ⟨_, z1, z2⟩ := n0
  subst z1
  subst z2
  exact tk_nw h hr hi
theorem stM_limit {t : Int → Int} {L S R rt wt rc q q2 e e2 a1 e1 r a3 e3 b1 bp1 b bp lo hi v rt2 wt2 rc2 : Int} (n0 : ¬ wd t q (sgn t q e) wRow) (n1 : ¬ wd t q (sgn t q e) wWord ∧ q2 = q ∧ e2 = e) (h : tkM t q2 e2 wLimit a1 e1 r) (hr : ¬ r = 0) (hi' : skp t q = q) (nb : nbM t a1 e1 b1 bp1 lo hi a3 e3 b bp v) (hb1 : b1 = 0) (hl : lo = 0) (hh : hi = 9999) (ee : b = 0 → rt2 = rt ∧ wt2 = wt ∧ rc2 = rc) : stM (stF t L S R rt wt rc q (sgn t q e)) t a3 e3 rt2 wt2 rc2 b bp := by
  obtain ⟨n1, z1, z2⟩ := n1
  subst z1
  subst z2
  subst hl
  subst hh
  obtain ⟨x, y, z⟩ := tk_to h hr hi' (n := 5) rfl
  subst y
  subst z
  have n2 : ¬ wd t q2 (sgn t q2 e2) wWorth := fun k => by
    have k1 := wd_0 k
    have k2 := wd_0 x
    omega
  have g := nb_bt nb hb1
  have o : boM (limF t (skp t (q2 + 5)) (sgn t (skp t (q2 + 5)) (q2 + 5))) t a3 e3 b bp := by
    refine ⟨fun z => ?_, fun z => ?_⟩
    · unfold limF
      rw [g.1 z]
    · unfold limF
      rw [g.2 z]
  exact stM_bo o (st_limit n0 n1 n2 x) ee
theorem stM_none {t : Int → Int} {L S R rt wt rc q q3 e e3 a1 e1 b1 bp1 a2 e2 b bp rt2 wt2 rc2 : Int} (n0 : ¬ wd t q (sgn t q e) wRow) (n1 : ¬ wd t q (sgn t q e) wWord) (n2 : ¬ wd t q (sgn t q e) wLimit ∧ q3 = q ∧ e3 = e) (h : akM t q3 e3 b1 bp1 wWorth a1 e1 b bp) (hb1 : b1 = 0) (hi : skp t q = q) (hb : ¬ b = 0) : stM (stF t L S R rt wt rc q (sgn t q e)) t a2 e2 rt2 wt2 rc2 b bp := by
  obtain ⟨n2, z1, z2⟩ := n2
  subst z1
  subst z2
  obtain ⟨x, y, z⟩ := (h.2 hb1).2 hb
  rw [hi] at x z
  exact stM_no (st_none n0 n1 x n2) (by decide) y z
theorem stM_worth {t : Int → Int} {L S R rt wt rc q q3 e e3 a1 e1 b1 bp1 b2 bp2 a2 e2 b bp rt2 wt2 rc2 : Int} (n0 : ¬ wd t q (sgn t q e) wRow) (n1 : ¬ wd t q (sgn t q e) wWord) (n2 : ¬ wd t q (sgn t q e) wLimit ∧ q3 = q ∧ e3 = e) (h : akM t q3 e3 b1 bp1 wWorth a1 e1 b2 bp2) (hb1 : b1 = 0) (hb2 : b2 = 0) (hi : skp t q = q) (hc : rc < 8) (o : ruM t a1 e1 a2 e2 b bp) (ee : b = 0 → rt2 = rt ∧ wt2 = wt ∧ rc2 = rc + 1) : stM (stF t L S R rt wt rc q (sgn t q e)) t a2 e2 rt2 wt2 rc2 b bp := by
  obtain ⟨n2, z1, z2⟩ := n2
  subst z1
  subst z2
  obtain ⟨x, y, z⟩ := (h.2 hb1).1 hb2
  rw [hi] at x y
  rw [show ((wWorth.length : Nat) : Int) = 5 from rfl] at y
  rw [y] at z
  subst y
  subst z
  have o2 : boM (ruF t (skp t (q3 + 5)) (sgn t (skp t (q3 + 5)) (q3 + 5))) t a2 e2 b bp := by
    refine ⟨fun z => ?_, fun z => ?_⟩
    · unfold ruF
      rw [ruE_at (o.1 z)]
    · unfold ruF
      rw [ruE_at (o.2 z)]
  exact stM_bo o2 (st_worth n0 n1 x hc) ee
theorem stM_worth4 {t : Int → Int} {L S R rt wt rc q q3 e e3 a1 e1 b1 bp1 b2 bp2 a2 e2 b bp rt2 wt2 rc2 : Int} (n0 : ¬ wd t q (sgn t q e) wRow) (n1 : ¬ wd t q (sgn t q e) wWord) (n2 : ¬ wd t q (sgn t q e) wLimit ∧ q3 = q ∧ e3 = e) (h : akM t q3 e3 b1 bp1 wWorth a1 e1 b2 bp2) (hb1 : b1 = 0) (hb2 : b2 = 0) (hi : skp t q = q) (hc : ¬ rc < 8) (hb : b = 4) (hp : bp = q) : stM (stF t L S R rt wt rc q (sgn t q e)) t a2 e2 rt2 wt2 rc2 b bp := by
  obtain ⟨n2, z1, z2⟩ := n2
  subst z1
  subst z2
  obtain ⟨x, y, z⟩ := (h.2 hb1).1 hb2
  rw [hi] at x
  exact stM_no (st_worthF n0 n1 x hc) (by decide) hb hp
def htQ (t : Int → Int) (n L S R rt wt rc q sg b bp a2 rt2 wt2 rc2 : Int) : Prop := (b = 0 → ¬ n = 60 ∧ ∀ k : Nat, lpF t L S R (k + 1) n rt wt rc q sg = lpF t L S R k (n + 1) rt2 wt2 rc2 (skp t a2) (t (skp t a2))) ∧ (¬ b = 0 → ∀ k : Nat, lpF t L S R (k + 1) n rt wt rc q sg = hF b bp)
theorem ht_60 {t : Int → Int} {n L S R rt wt rc q sg b bp a2 rt2 wt2 rc2 : Int} (hn : n = 60) (hs : ¬ sg = -1) (hb : b = 4) (hp : bp = q) : htQ t n L S R rt wt rc q sg b bp a2 rt2 wt2 rc2 := by
  refine ⟨fun z => absurd z (by omega), fun _ k => ?_⟩
  show ci _ _ _ = _
  rw [ci_neg hs, ci_pos hn, hb, hp]
theorem ht_of {t : Int → Int} {n L S R rt wt rc q sg b1 bp1 a1 e1 c b bp a2 rt2 wt2 rc2 : Int} (h : stM (stF t L S R rt wt rc q sg) t a1 e1 rt2 wt2 rc2 b1 bp1) (s : asM t a1 b1 bp1 c a2 b bp) (hc : c = 59) (hn : ¬ n = 60) (hs : ¬ sg = -1) : htQ t n L S R rt wt rc q sg b bp a2 rt2 wt2 rc2 := by
  subst hc
  by_cases hb : b1 = 0
  · obtain ⟨g1, g2⟩ := s.2 hb
    have x := h.1 hb
    refine ⟨fun z => ⟨hn, fun k => ?_⟩, fun z k => ?_⟩
    · obtain ⟨u, v⟩ := g1 z
      have s9 : sgn t (skp t a1) e1 = 59 := sgn_c u (by decide)
      show ci _ _ _ = _
      rw [ci_neg hs, ci_neg hn, x, ci_pos rfl, ci_pos s9, v]
    · obtain ⟨u, v, w⟩ := g2 z
      show ci _ _ _ = _
      rw [ci_neg hs, ci_neg hn, x, ci_pos rfl, ci_neg (sgn_nc u (by decide)), v, w]
  · obtain ⟨_, y, z⟩ := s.1 hb
    subst y
    subst z
    refine ⟨fun z => absurd z hb, fun _ k => ?_⟩
    show ci _ _ _ = _
    rw [ci_neg hs, ci_neg hn, h.2 hb, ci_neg hb]
/-! the house -/
def g1Q (t : Int → Int) (y : sZ) (x : sZ) (b bp : Int) : Prop := (b = 0 → x = y) ∧ (¬ b = 0 → x = (b, bp, 0, 0, 0, 0, 0))
theorem g_ask {t : Int → Int} {at_ e b bp a1 e1 b1 bp1 : Int} (h : akM t at_ e b bp wHouse a1 e1 b1 bp1) (hb : b = 0) (ha : at_ = 0) (he : e = -1) : g1Q t (szF t (skp t a1) (sgn t (skp t a1) e1)) (hsF t (skp t 0) (t (skp t 0))) b1 bp1 := by
  subst ha
  subst he
  have f : sgn t (skp t 0) (-1) = t (skp t 0) := sgn_far (by have := skp_ge (t := t) (p := 0); omega)
  obtain ⟨g1, g2⟩ := h.2 hb
  rw [f] at g1 g2
  refine ⟨fun z => ?_, fun z => ?_⟩
  · obtain ⟨x, y, w⟩ := g1 z
    rw [show ((wHouse.length : Nat) : Int) = 5 from rfl] at y
    unfold hsF
    rw [ci_pos x, w, y]
  · obtain ⟨x, y, w⟩ := g2 z
    unfold hsF
    rw [ci_neg x, y, w]
theorem g_n1 {t : Int → Int} {x : sZ} {lo hi at_ e b bp a2 e2 b2 bp2 r : Int} (h : g1Q t (szF t (skp t at_) (sgn t (skp t at_) e)) x b bp) (n : nbM t at_ e b bp lo hi a2 e2 b2 bp2 r) (hl : lo = 2) (hh : hi = 8) : g1Q t (szG t r (skp t a2) (sgn t (skp t a2) e2)) x b2 bp2 := by
  subst hl
  subst hh
  by_cases hb : b = 0
  · have g := nb_bt n hb
    refine ⟨fun z => ?_, fun z => ?_⟩
    · rw [h.1 hb]
      unfold szF
      rw [g.1 z, ci_pos rfl]
    · rw [h.1 hb]
      unfold szF
      rw [g.2 z, ci_neg z]
  · obtain ⟨_, _, y, z, _⟩ := n.1 hb
    subst y
    subst z
    exact ⟨fun z => absurd z hb, h.2⟩
theorem g_n2 {t : Int → Int} {x : sZ} {L lo hi at_ e b bp a2 e2 b2 bp2 r : Int} (h : g1Q t (szG t L (skp t at_) (sgn t (skp t at_) e)) x b bp) (n : nbM t at_ e b bp lo hi a2 e2 b2 bp2 r) (hl : lo = 1) (hh : hi = 5) : g1Q t (szH t L r (skp t a2) (sgn t (skp t a2) e2)) x b2 bp2 := by
  subst hl
  subst hh
  by_cases hb : b = 0
  · have g := nb_bt n hb
    refine ⟨fun z => ?_, fun z => ?_⟩
    · rw [h.1 hb]
      unfold szG
      rw [g.1 z, ci_pos rfl]
    · rw [h.1 hb]
      unfold szG
      rw [g.2 z, ci_neg z]
  · obtain ⟨_, _, y, z, _⟩ := n.1 hb
    subst y
    subst z
    exact ⟨fun z => absurd z hb, h.2⟩
theorem g_n3 {t : Int → Int} {x : sZ} {L S lo hi at_ e b bp a2 e2 b2 bp2 r : Int} (h : g1Q t (szH t L S (skp t at_) (sgn t (skp t at_) e)) x b bp) (n : nbM t at_ e b bp lo hi a2 e2 b2 bp2 r) (hl : lo = 1) (hh : hi = 6) : g1Q t (0, 0, L, S, r, skp t a2, sgn t (skp t a2) e2) x b2 bp2 := by
  subst hl
  subst hh
  by_cases hb : b = 0
  · have g := nb_bt n hb
    refine ⟨fun z => ?_, fun z => ?_⟩
    · rw [h.1 hb]
      unfold szH
      rw [g.1 z, ci_pos rfl]
    · rw [h.1 hb]
      unfold szH
      rw [g.2 z, ci_neg z]
  · obtain ⟨_, _, y, z, _⟩ := n.1 hb
    subst y
    subst z
    exact ⟨fun z => absurd z hb, h.2⟩
def hlQ (t : Int → Int) (n L S R rt wt rc at_ b bp : Int) : Prop := (b = 0 → hoF t = lpF t L S R (61 - n).toNat n rt wt rc (skp t at_) (t (skp t at_))) ∧ (¬ b = 0 → hoF t = hF b bp)
theorem hl_0 {t : Int → Int} {n L S R L2 S2 R2 rt wt rc at_ e b bp c a2 b2 bp2 : Int} (h : g1Q t (0, 0, L, S, R, skp t at_, sgn t (skp t at_) e) (hsF t (skp t 0) (t (skp t 0))) b bp) (s : asM t at_ b bp c a2 b2 bp2) (hc : c = 59) (hn : n = 1) (e1 : L2 = L) (e2 : S2 = S) (e3 : R2 = R) (e4 : rt = 0) (e5 : wt = 0) (e6 : rc = 0) : hlQ t n L2 S2 R2 rt wt rc a2 b2 bp2 := by
  subst hc
  subst hn
  subst e1
  subst e2
  subst e3
  subst e4
  subst e5
  subst e6
  by_cases hb : b = 0
  · obtain ⟨g1, g2⟩ := s.2 hb
    have x := h.1 hb
    refine ⟨fun z => ?_, fun z => ?_⟩
    · obtain ⟨u, v⟩ := g1 z
      have s9 : sgn t (skp t at_) e = 59 := sgn_c u (by decide)
      unfold hoF
      rw [x]
      show ci _ _ _ = _
      rw [ci_pos rfl]
      show ci _ _ _ = _
      rw [ci_pos s9, v]
      rfl
    · obtain ⟨u, v, w⟩ := g2 z
      unfold hoF
      rw [x]
      show ci _ _ _ = _
      rw [ci_pos rfl]
      show ci _ _ _ = _
      rw [ci_neg (sgn_nc u (by decide)), v, w]
  · obtain ⟨_, y, z⟩ := s.1 hb
    subst y
    subst z
    refine ⟨fun z => absurd z hb, fun _ => ?_⟩
    unfold hoF
    rw [h.2 hb]
    exact ci_neg hb
theorem hl_go {t : Int → Int} {n n2 L S R L2 S2 R2 rt wt rc at_ q e b bp b2 bp2 a2 rt2 wt2 rc2 : Int} (h : hlQ t n L S R rt wt rc at_ b bp) (hb : b = 0) (hn : 1 ≤ n ∧ n ≤ 60) (hq : q = skp t at_) (he : e < q) (k : htQ t n L S R rt wt rc q (sgn t q e) b2 bp2 a2 rt2 wt2 rc2) (en : b2 = 0 → n2 = n + 1) (e1 : b2 = 0 → L2 = L ∧ S2 = S ∧ R2 = R) : hlQ t n2 L2 S2 R2 rt2 wt2 rc2 a2 b2 bp2 := by
  have x := h.1 hb
  rw [← hq, show (61 - n).toNat = (61 - (n + 1)).toNat + 1 by omega, ← sgn_far (t := t) he] at x
  refine ⟨fun z => ?_, fun z => ?_⟩
  · obtain ⟨a, b, c⟩ := e1 z
    rw [x, (k.1 z).2, en z, a, b, c]
  · rw [x, k.2 z]
theorem hl_yes {t : Int → Int} {n L S R rt wt rc at_ b bp q c res : Int} (h : hlQ t n L S R rt wt rc at_ b bp) (hb : b = 0) (hn : 1 ≤ n ∧ n ≤ 60) (hq : q = skp t at_) (hc : c = t q) (hm : c = -1) (hr : res = n) : res = hA t := by
  have x := h.1 hb
  rw [show (61 - n).toNat = (61 - (n + 1)).toNat + 1 by omega] at x
  have y : hoF t = (0, 0, n, L, S, R, rt, wt, rc) := by
    rw [x]
    exact ci_pos (by rw [← hq]; omega)
  unfold hA
  rw [y, hr]
  exact (ci_pos rfl).symm
theorem hl_no {t : Int → Int} {n L S R rt wt rc at_ b bp res : Int} (h : hlQ t n L S R rt wt rc at_ b bp) (hb : ¬ b = 0) (hr : res = -1) : res = hA t := by
  unfold hA
  rw [h.2 hb, hr]
  exact (ci_neg hb).symm
/-- the numbers kept of a house -/
def rgQ (f g : Nat → Int32) (d3 d4 : Int) : Prop := (g 0).toInt = (f 0).toInt ∧ (g 1).toInt = (f 1).toInt ∧ (g 2).toInt = (f 2).toInt ∧ (g 3).toInt = (f 3).toInt + d3 ∧ (g 4).toInt = (f 4).toInt + d4
theorem rg_0 {f : Nat → Int32} : rgQ f f 0 0 := ⟨rfl, rfl, rfl, by omega, by omega⟩
theorem rg_3 {f g : Nat → Int32} {n : Nat} {v : Int32} (e : g = upd f n v) (hn : n = 3) (hv : v.toInt = (f 3).toInt + 1) : rgQ f g 1 0 := by
  subst hn
  subst e
  exact ⟨rfl, rfl, rfl, hv, by show (f 4).toInt = (f 4).toInt + 0; omega⟩
theorem rg_4 {f g : Nat → Int32} {n : Nat} {v : Int32} (e : g = upd f n v) (hn : n = 4) (hv : v.toInt = (f 4).toInt + 1) : rgQ f g 0 1 := by
  subst hn
  subst e
  exact ⟨rfl, rfl, rfl, by show (f 3).toInt = (f 3).toInt + 0; omega, hv⟩
theorem rg_5 {f g : Nat → Int32} {n : Nat} {v : Int32} (e : g = upd f n v) (hn : n = 5) : rgQ f g 0 0 := by
  subst hn
  subst e
  exact ⟨rfl, rfl, rfl, by show (f 3).toInt = (f 3).toInt + 0; omega, by show (f 4).toInt = (f 4).toInt + 0; omega⟩
theorem rg_mk {f f0 f1 f2 f3 f4 f5 : Nat → Int32} {n0 n1 n2 n3 n4 n5 : Nat} {v0 v1 v2 v3 v4 v5 : Int32} (e0 : f0 = upd f n0 v0) (e1 : f1 = upd f0 n1 v1) (e2 : f2 = upd f1 n2 v2) (e3 : f3 = upd f2 n3 v3) (e4 : f4 = upd f3 n4 v4) (e5 : f5 = upd f4 n5 v5) (g0 : n0 = 0) (g1 : n1 = 1) (g2 : n2 = 2) (g3 : n3 = 3) (g4 : n4 = 4) (g5 : n5 = 5) : (f5 0).toInt = v0.toInt ∧ (f5 1).toInt = v1.toInt ∧ (f5 2).toInt = v2.toInt ∧ (f5 3).toInt = v3.toInt ∧ (f5 4).toInt = v4.toInt := by
  subst g0; subst g1; subst g2; subst g3; subst g4; subst g5
  subst e0; subst e1; subst e2; subst e3; subst e4; subst e5
  exact ⟨rfl, rfl, rfl, rfl, rfl⟩
theorem stM_rowC {t : Int → Int} {f g : Nat → Int32} {rc q e a1 e1 r a2 e2 b bp pl : Int} (h : tkM t q e wRow a1 e1 r) (hr : ¬ r = 0) (hi : skp t q = q) (rd : RD f) (o : ¬ (f 3).toInt = (f 2).toInt → boM (rwF t okR ((f 1).toInt).toNat (skp t a1) (sgn t (skp t a1) e1)) t a2 e2 b bp) (o4 : (f 3).toInt = (f 2).toInt → b = 4 ∧ bp = pl) (hp : pl = q) (rg : b = 0 → rgQ f g 1 0) : stM (stF t (f 0).toInt (f 1).toInt (f 2).toInt (f 3).toInt (f 4).toInt rc q (sgn t q e)) t a2 e2 (g 3).toInt (g 4).toInt rc b bp := by
  have l := rd.2.2.2.1
  by_cases c : (f 3).toInt = (f 2).toInt
  · exact stM_row4 h hr hi (by omega) (o4 c).1 ((o4 c).2.trans hp)
  · exact stM_row h hr hi (by omega) (o c) (fun z => ⟨(rg z).2.2.2.1, by have := (rg z).2.2.2.2; omega, rfl⟩)
theorem stM_wordC {t : Int → Int} {f g : Nat → Int32} {rc q q1 e e0 a1 e1 r a2 e2 b bp pl : Int} (n0 : ¬ wd t q (sgn t q e) wRow ∧ q1 = q ∧ e0 = e) (h : tkM t q1 e0 wWord a1 e1 r) (hr : ¬ r = 0) (hi : skp t q = q) (rd : RD f) (o : ¬ (f 4).toInt = 16 → boM (rwF t (okL (f 0).toInt) ((f 1).toInt).toNat (skp t a1) (sgn t (skp t a1) e1)) t a2 e2 b bp) (o4 : (f 4).toInt = 16 → b = 4 ∧ bp = pl) (hp : pl = q) (rg : b = 0 → rgQ f g 0 1) : stM (stF t (f 0).toInt (f 1).toInt (f 2).toInt (f 3).toInt (f 4).toInt rc q (sgn t q e)) t a2 e2 (g 3).toInt (g 4).toInt rc b bp := by
  have l := rd.2.2.2.2
  by_cases c : (f 4).toInt = 16
  · exact stM_word4 n0 h hr hi (by omega) (o4 c).1 ((o4 c).2.trans hp)
  · exact stM_word n0 h hr hi (by omega) (o c) (fun z => ⟨by have := (rg z).2.2.2.1; omega, (rg z).2.2.2.2, rfl⟩)
theorem stM_worthC {t : Int → Int} {L S R rt wt rc rc2 q q3 e e3 a1 e1 b1 bp1 b2 bp2 a2 e2 b bp pl : Int} (n0 : ¬ wd t q (sgn t q e) wRow) (n1 : ¬ wd t q (sgn t q e) wWord) (n2 : ¬ wd t q (sgn t q e) wLimit ∧ q3 = q ∧ e3 = e) (h : akM t q3 e3 b1 bp1 wWorth a1 e1 b2 bp2) (hb1 : b1 = 0) (hb2 : b2 = 0) (hi : skp t q = q) (hc : rc ≤ 8) (o : ¬ rc = 8 → ruM t a1 e1 a2 e2 b bp) (o4 : rc = 8 → b = 4 ∧ bp = pl) (hp : pl = q) (er : b = 0 → rc2 = rc + 1) : stM (stF t L S R rt wt rc q (sgn t q e)) t a2 e2 rt wt rc2 b bp := by
  by_cases c : rc = 8
  · exact stM_worth4 n0 n1 n2 h hb1 hb2 hi (by omega) (o4 c).1 ((o4 c).2.trans hp)
  · exact stM_worth n0 n1 n2 h hb1 hb2 hi (by omega) (o c) (fun z => ⟨rfl, rfl, er z⟩)
theorem stM_limC {t : Int → Int} {f g : Nat → Int32} {L S R rc q q2 e e2 a1 e1 r a3 e3 b1 bp1 b bp lo hi v : Int} (n0 : ¬ wd t q (sgn t q e) wRow) (n1 : ¬ wd t q (sgn t q e) wWord ∧ q2 = q ∧ e2 = e) (h : tkM t q2 e2 wLimit a1 e1 r) (hr : ¬ r = 0) (hi' : skp t q = q) (nb : nbM t a1 e1 b1 bp1 lo hi a3 e3 b bp v) (hb1 : b1 = 0) (hl : lo = 0) (hh : hi = 9999) (rg : rgQ f g 0 0) : stM (stF t L S R (f 3).toInt (f 4).toInt rc q (sgn t q e)) t a3 e3 (g 3).toInt (g 4).toInt rc b bp :=
  stM_limit n0 n1 h hr hi' nb hb1 hl hh (fun _ => ⟨by have := rg.2.2.2.1; omega, by have := rg.2.2.2.2; omega, rfl⟩)
