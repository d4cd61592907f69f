/-! the numbers that a house tells, as the reference reads them -/
theorem sd_ok {t : Int → Int} {at_ e b bp mo st a2 e2 b2 bp2 r : Int} (h : sdM t at_ e b bp mo st a2 e2 b2 bp2 r) (hb : b = 0) (hb2 : b2 = 0) : sdF t (skp t at_) (sgn t (skp t at_) e) = (0, 0, r, skp t a2, sgn t (skp t a2) e2) := ((h.2 hb).1 hb2).1
theorem rwP_M {t : Int → Int} {q sg at_ e b bp mo st a2 e2 b2 bp2 r k k2 : Int} (h : rwP t q sg k.toNat = (skp t at_, sgn t (skp t at_) e)) (s : sdM t at_ e b bp mo st a2 e2 b2 bp2 r) (hb : b = 0) (hb2 : b2 = 0) (h0 : 0 ≤ k) (ek : k2 = k + 1) : rwP t q sg k2.toNat = (skp t a2, sgn t (skp t a2) e2) := rwP_at h (sd_ok s hb hb2) h0 ek
theorem rwV_M {t : Int → Int} {q sg at_ e b bp mo st a2 e2 b2 bp2 r k : Int} (h : rwP t q sg k.toNat = (skp t at_, sgn t (skp t at_) e)) (s : sdM t at_ e b bp mo st a2 e2 b2 bp2 r) (hb : b = 0) (hb2 : b2 = 0) : rwV t q sg k.toNat = r := rwV_at h (sd_ok s hb hb2)
theorem spM_row {t : Int → Int} {S rt wt q e a1 e1 r lim lim2 wt2 : Int} {f g w : Nat → Int32} (h : tkM t q e wRow a1 e1 r) (hr : ¬ r = 0) (hi : skp t q = q) (pu : puQ ixR 6 f g t (skp t a1) (sgn t (skp t a1) e1) rt S) (el : lim2 = lim) (ew : wt2 = wt) : ∀ p : pL, plQ ixR ixV f w lim wt S p → plQ ixR ixV g w lim2 wt2 S (stP t S rt wt q (sgn t q e) p) := by
  obtain ⟨x, y, z⟩ := tk_to h hr hi (n := 3) rfl
  subst y
  subst z
  intro p hp
  rw [sP_row x, el, ew]
  exact ⟨ag_tab pu hp.1, hp.2⟩
theorem spM_word {t : Int → Int} {S rt wt q q1 e e0 a1 e1 r lim lim2 wt2 b bp pl : Int} {f w w2 : Nat → Int32} (n0 : ¬ wd t q (sgn t q e) wRow ∧ q1 = q ∧ e0 = e) (h : tkM t q1 e0 wWord a1 e1 r) (hr : ¬ r = 0) (hi : skp t q = q) (pu : puQ ixV 16 w w2 t (skp t a1) (sgn t (skp t a1) e1) wt S) (o4 : wt = 16 → b = 4 ∧ bp = pl) (hb : b = 0) (hw : wt ≤ 16) (hS : S ≤ 5) (el : lim2 = lim) (ew : wt2 = wt + 1) : ∀ p : pL, plQ ixR ixV f w lim wt S p → plQ ixR ixV f w2 lim2 wt2 S (stP t S rt wt q (sgn t q e) p) := by
  obtain ⟨n0, z1, z2⟩ := n0
  subst z1
  subst z2
  obtain ⟨x, y, z⟩ := tk_to h hr hi (n := 4) rfl
  subst y
  subst z
  have h16 : wt < 16 := by
    by_cases c : wt = 16
    · have q9 := (o4 c).1
      omega
    · omega
  intro p hp
  rw [sP_word n0 x, el]
  exact ⟨hp.1, ag_wrd pu hp.2.1 h16 hS ew, hp.2.2⟩
theorem spM_worth {t : Int → Int} {S rt wt q q3 e e3 a1 e1 b1 bp1 b2 bp2 lim lim2 wt2 : Int} {f w : Nat → Int32} (n0 : ¬ wd t q (sgn t q e) wRow) (n1 : ¬ wd t q (sgn t q e) wWord) (n2 : ¬ wd t q (sgn t q e) wLimit ∧ q3 = q ∧ e3 = e) (h : akM t q3 e3 b1 bp1 wWorth a1 e1 b2 bp2) (hb1 : b1 = 0) (hb2 : b2 = 0) (hi : skp t q = q) (el : lim2 = lim) (ew : wt2 = wt) : ∀ p : pL, plQ ixR ixV f w lim wt S p → plQ ixR ixV f w lim2 wt2 S (stP t S rt wt q (sgn t q e) p) := by
  obtain ⟨n2, z1, z2⟩ := n2
  subst z1
  subst z2
  obtain ⟨x, _, _⟩ := (h.2 hb1).1 hb2
  rw [hi] at x
  intro p hp
  rw [sP_worth n0 n1 x, el, ew]
  exact hp
theorem spM_limit {t : Int → Int} {S rt wt q q2 e e2 a1 e1 r a3 e3 b1 bp1 b bp lo hi v lim lim2 wt2 : Int} {f w : Nat → Int32} (n0 : ¬ wd t q (sgn t q e) wRow) (n1 : ¬ wd t q (sgn t q e) wWord ∧ q2 = q ∧ e2 = e) (h : tkM t q2 e2 wLimit a1 e1 r) (hr : ¬ r = 0) (hi' : skp t q = q) (nb : nbM t a1 e1 b1 bp1 lo hi a3 e3 b bp v) (hb1 : b1 = 0) (hb : b = 0) (hl : lo = 0) (hh : hi = 9999) (el : lim2 = v) (ew : wt2 = wt) : ∀ p : pL, plQ ixR ixV f w lim wt S p → plQ ixR ixV f w lim2 wt2 S (stP t S rt wt q (sgn t q e) p) := by
  obtain ⟨n1, z1, z2⟩ := n1
  subst z1
  subst z2
  subst hl
  subst hh
  obtain ⟨x, y, z⟩ := tk_to h hr hi' (n := 5) rfl
  subst y
  subst z
  have n2 : ¬ wd t q2 (sgn t q2 e2) wWorth := fun k => by
    have k1 := wd_0 k
    have k2 := wd_0 x
    omega
  have g := (nb_bt nb hb1).1 hb
  intro p hp
  rw [sP_limit n0 n1 n2 x, ew, g]
  exact ⟨hp.1, hp.2.1, el⟩
def htP (t : Int → Int) (n L S R rt wt rc q sg b a2 rt2 wt2 rc2 : Int) : Prop := b = 0 → ∀ (k : Nat) (p : pL), lpP t L S R (k + 1) n rt wt rc q sg p = lpP t L S R k (n + 1) rt2 wt2 rc2 (skp t a2) (t (skp t a2)) (stP t S rt wt q sg p)
theorem hP_60 {t : Int → Int} {n L S R rt wt rc q sg b a2 rt2 wt2 rc2 : Int} (hb : b = 4) : htP t n L S R rt wt rc q sg b a2 rt2 wt2 rc2 := fun z => absurd z (by omega)
theorem hP_of {t : Int → Int} {n L S R rt wt rc q sg b1 bp1 a1 e1 c b bp a2 rt2 wt2 rc2 : Int} (h : stM (stF t L S R rt wt rc q sg) t a1 e1 rt2 wt2 rc2 b1 bp1) (s : asM t a1 b1 bp1 c a2 b bp) (hc : c = 59) (hn : ¬ n = 60) (hs : ¬ sg = -1) : htP t n L S R rt wt rc q sg b a2 rt2 wt2 rc2 := by
  subst hc
  intro z k p
  by_cases hb : b1 = 0
  · obtain ⟨g1, _⟩ := s.2 hb
    have x := h.1 hb
    obtain ⟨u, v⟩ := g1 z
    have s9 : sgn t (skp t a1) e1 = 59 := sgn_c u (by decide)
    show ci _ _ _ = _
    rw [ci_neg hs, ci_neg hn, x, ci_pos rfl, ci_pos s9, v]
  · obtain ⟨_, y, _⟩ := s.1 hb
    exact absurd (y.symm.trans z) hb
def hmQ (t : Int → Int) (n L S R rt wt rc at_ b : Int) (f w : Nat → Int32) (lim : Int) : Prop := b = 0 → ∃ p : pL, plQ ixR ixV f w lim wt S p ∧ hoP t = lpP t L S R (61 - n).toNat n rt wt rc (skp t at_) (t (skp t at_)) p
theorem ag_zeroR {f : Nat → Int32} (h : ∀ j : Nat, j < 30 → f (30 + j) = 0) : agQ ixR 6 5 f (fun _ _ => 0) := fun r s h1 h2 h3 h4 => by
  have e : (ixR r s).toNat = 30 + (5 * r + s).toNat := by
    unfold ixR
    omega
  rw [e, h (5 * r + s).toNat (by omega)]
  rfl
theorem hm_0 {t : Int → Int} {n L S R L2 S2 R2 rt wt rc at_ e b bp c a2 b2 bp2 lim : Int} {f w : Nat → Int32} (h : g1Q t (0, 0, L, S, R, skp t at_, sgn t (skp t at_) e) (hsF t (skp t 0) (t (skp t 0))) b bp) (s : asM t at_ b bp c a2 b2 bp2) (hc : c = 59) (hn : n = 1) (e1 : L2 = L) (e2 : S2 = S) (e3 : R2 = R) (e4 : rt = 0) (e5 : wt = 0) (e6 : rc = 0) (hz : ∀ j : Nat, j < 30 → f (30 + j) = 0) (hl : lim = 9999) : hmQ t n L2 S2 R2 rt wt rc a2 b2 f w lim := by
  intro z
  subst hc
  subst hn
  subst e1
  subst e2
  subst e3
  subst e4
  subst e5
  subst e6
  by_cases hb : b = 0
  · obtain ⟨g1, _⟩ := s.2 hb
    have x := h.1 hb
    obtain ⟨u, v⟩ := g1 z
    refine ⟨p0L, ⟨ag_zeroR hz, fun r s i1 i2 => absurd i2 (by omega), hl⟩, ?_⟩
    show hoK t (hsF t (skp t 0) (t (skp t 0))) = _
    rw [x, v]
    rfl
  · obtain ⟨_, y, _⟩ := s.1 hb
    exact absurd (y.symm.trans z) hb
theorem hm_go {t : Int → Int} {n n2 L S R L2 S2 R2 rt wt rc at_ q e b b2 a2 rt2 wt2 rc2 lim lim2 : Int} {f w f' w' : Nat → Int32} (h : hmQ t n L S R rt wt rc at_ b f w lim) (hb : b = 0) (hn : 1 ≤ n ∧ n ≤ 60) (hq : q = skp t at_) (he : e < q) (k : htP t n L S R rt wt rc q (sgn t q e) b2 a2 rt2 wt2 rc2) (sp : b2 = 0 → ∀ p : pL, plQ ixR ixV f w lim wt S p → plQ ixR ixV f' w' lim2 wt2 S (stP t S rt wt q (sgn t q e) p)) (en : b2 = 0 → n2 = n + 1) (e1 : b2 = 0 → L2 = L ∧ S2 = S ∧ R2 = R) : hmQ t n2 L2 S2 R2 rt2 wt2 rc2 a2 b2 f' w' lim2 := by
  intro z
  obtain ⟨p, hp, x⟩ := h hb
  obtain ⟨a, c, d⟩ := e1 z
  have en' := en z
  subst a
  subst c
  subst d
  subst en'
  rw [← hq, show (61 - n).toNat = (61 - (n + 1)).toNat + 1 by omega, ← sgn_far (t := t) he] at x
  exact ⟨_, sp z p hp, x.trans (k z _ p)⟩
theorem hm_end {t : Int → Int} {n L S R rt wt rc at_ b q c lim : Int} {f w : Nat → Int32} (h : hmQ t n L S R rt wt rc at_ b f w lim) (hb : b = 0) (hn : 1 ≤ n ∧ n ≤ 60) (hq : q = skp t at_) (hc : c = t q) (hm : c = -1) : plQ ixR ixV f w lim wt S (hoP t) := by
  obtain ⟨p, hp, x⟩ := h hb
  rw [show (61 - n).toNat = (61 - (n + 1)).toNat + 1 by omega] at x
  have y : hoP t = p := x.trans (ci_pos (by rw [← hq]; omega))
  rw [y]
  exact hp
theorem hm_stand {f w f' w' : Nat → Int32} {lim wt S lim2 wt2 S2 : Int} {P : pL} (h : plQ ixR ixV f w lim wt S P) (ct : ∀ j : Nat, j < 30 → f' j = f (30 + j)) (cw : ∀ j : Nat, j < 80 → w' j = w (80 + j)) (el : lim2 = lim) (ew : wt2 = wt) (eS : S2 = S) (h1 : wt ≤ 16) (h2 : S ≤ 5) : plQ ixW ixW f' w' lim2 wt2 S2 P := by
  subst el
  subst ew
  subst eS
  refine ⟨fun r s i1 i2 i3 i4 => ?_, fun r s i1 i2 i3 i4 => ?_, h.2.2⟩
  · have e : (ixR r s).toNat = 30 + (ixW r s).toNat := by
      unfold ixR ixW
      omega
    have b : (ixW r s).toNat < 30 := by
      unfold ixW
      omega
    rw [ct _ b, ← e]
    exact h.1 r s i1 i2 i3 i4
  · have e : (ixV r s).toNat = 80 + (ixW r s).toNat := by
      unfold ixV ixW
      omega
    have b : (ixW r s).toNat < 80 := by
      unfold ixW
      omega
    rw [cw _ b, ← e]
    exact h.2.1 r s i1 i2 i3 i4
theorem CP_all {f0 f : Nat → Int32} {o n : Nat} {k : Int} (h : CP f0 f o k) (hk : (n : Int) ≤ k) : ∀ j : Nat, j < n → f j = f0 (o + j) := fun j hj => by rw [h j, if_pos (by omega)]
theorem zr_step {f f' : Nat → Int32} {k k2 i : Int} {x : Int32} (h : ∀ j : Nat, (j : Int) < k → f (30 + j) = 0) (e : f' = upd f i.toNat x) (hi : i = 30 + k) (h0 : 0 ≤ k) (hx : x = 0) (ek : k2 = k + 1) : ∀ j : Nat, (j : Int) < k2 → f' (30 + j) = 0 := by
  intro j hj
  by_cases c : (j : Int) = k
  · rw [e, u_eq (by omega), hx]
  · rw [e, u_ne (by omega)]
    exact h j (by omega)
/-! the two sides alike -/
def plE (f w : Nat → Int32) (lim : Int) (f' w' : Nat → Int32) (lim' wt S R : Int) : Prop := (∀ r s : Int, 0 ≤ r → r < 6 → 0 ≤ s → s < 5 → (f (ixT r s).toNat).toInt = (f' (ixW r s).toNat).toInt) ∧ (∀ r s : Int, 0 ≤ r → r < wt → 0 ≤ s → s < S → (w (ixW r s).toNat).toInt = (w' (ixW r s).toNat).toInt) ∧ lim = lim' ∧ ∀ r s : Int, 0 ≤ r → r < 6 → 0 ≤ s → s < 5 → (R ≤ r ∨ S ≤ s) → (f (ixT r s).toNat).toInt = 0
theorem plE_house {t : Int → Int} {f w f' w' g v g' v' : Nat → Int32} {lim lim' wt S R r r' l2 wt2 S2 R2 l2' wt2' S2' : Int} (h : plE f w lim f' w' lim' wt S R) (x : hpH ixT ixW t r g v l2 wt2 S2 f w lim) (xz : hpX t r R2 S2) (y : hpH ixW ixW t r' g' v' l2' wt2' S2' f' w' lim') (er : r = r') (ew : wt2 = wt2') (eS : S2 = S2') (hk : r = -1 → wt2 = wt ∧ S2 = S ∧ R2 = R) (hb : wt ≤ 16 ∧ S ≤ 5) : plE g v l2 g' v' l2' wt2 S2 R2 := by
  subst er
  subst ew
  subst eS
  by_cases c : r = -1
  · obtain ⟨a1, a2, a3⟩ := hk c
    subst a1
    subst a2
    subst a3
    obtain ⟨x1, x2, x3⟩ := x.2 c
    obtain ⟨y1, y2, y3⟩ := y.2 c
    refine ⟨fun r s i1 i2 i3 i4 => ?_, fun r s i1 i2 i3 i4 => ?_, by rw [x3, y3]; exact h.2.2.1, fun r s i1 i2 i3 i4 i5 => ?_⟩
    · rw [x1 (ixT r s).toNat (by unfold ixT; omega), y1 (ixW r s).toNat (by unfold ixW; omega)]
      exact h.1 r s i1 i2 i3 i4
    · rw [x2 (ixW r s).toNat (by unfold ixW; omega), y2 (ixW r s).toNat (by unfold ixW; omega)]
      exact h.2.1 r s i1 i2 i3 i4
    · rw [x1 (ixT r s).toNat (by unfold ixT; omega)]
      exact h.2.2.2 r s i1 i2 i3 i4 i5
  · obtain ⟨x1, x2, x3⟩ := x.1 c
    obtain ⟨y1, y2, y3⟩ := y.1 c
    exact ⟨fun r s i1 i2 i3 i4 => (x1 r s i1 i2 i3 i4).trans (y1 r s i1 i2 i3 i4).symm, fun r s i1 i2 i3 i4 => (x2 r s i1 i2 i3 i4).trans (y2 r s i1 i2 i3 i4).symm, x3.trans y3.symm, fun r s i1 i2 i3 i4 i5 => (x1 r s i1 i2 i3 i4).trans (xz c r s i1 i3 i5)⟩
theorem plE_keep {f w f' w' g v g' v' : Nat → Int32} {lim lim' wt S R l2 l2' wt2 S2 R2 : Int} (h : plE f w lim f' w' lim' wt S R) (x : g = f ∧ v = w ∧ l2 = lim) (y : g' = f' ∧ v' = w' ∧ l2' = lim') (ew : wt2 = wt) (eS : S2 = S) (eR : R2 = R) : plE g v l2 g' v' l2' wt2 S2 R2 := by
  obtain ⟨x1, x2, x3⟩ := x
  obtain ⟨y1, y2, y3⟩ := y
  rw [x1, x2, x3, y1, y2, y3, ew, eS, eR]
  exact h
/-! words: answers -/
def inQ (r a n : Int) : Prop := (r = 1 ∧ 0 ≤ a ∧ a < n) ∨ (r = 0 ∧ ¬ (0 ≤ a ∧ a < n))
def woQ (r a b wt S : Int) (w : Nat → Int32) : Prop := ((0 ≤ a ∧ a < wt ∧ 0 ≤ b ∧ b < S) → r = (w (ixW a b).toNat).toInt) ∧ (¬ (0 ≤ a ∧ a < wt ∧ 0 ≤ b ∧ b < S) → r = -1000000000)
theorem wo_yes {r a b wt S : Int} {w : Nat → Int32} (hc : 0 ≤ a ∧ a < wt ∧ 0 ≤ b ∧ b < S) (e : r = (w (ixW a b).toNat).toInt) : woQ r a b wt S w := ⟨fun _ => e, fun z => absurd hc z⟩
theorem wo_no {r a b wt S : Int} {w : Nat → Int32} (hc : ¬ (0 ≤ a ∧ a < wt ∧ 0 ≤ b ∧ b < S)) (e : r = -1000000000) : woQ r a b wt S w := ⟨fun z => absurd z hc, fun _ => e⟩
theorem wo_noS {r a b wt S r1 : Int} {w : Nat → Int32} (i : inQ r1 b S) (h1 : r1 = 0) (e : r = -1000000000) : woQ r a b wt S w := wo_no (by unfold inQ at i; omega) e
def unK (w : Nat → Int32) (a b : Int) : Nat → Int
  | 0 => 0
  | k + 1 => unK w a b k + (if (w (ixW a (k : Int)).toNat).toInt = (w (ixW b (k : Int)).toNat).toInt then 0 else 1)
theorem un_step {w : Nat → Int32} {a b k k2 c c2 x y : Int} (h : c = unK w a b k.toNat) (e1 : x = (w (ixW a k).toNat).toInt) (e2 : y = (w (ixW b k).toNat).toInt) (h0 : 0 ≤ k) (hc : (x = y ∧ c2 = c) ∨ (¬ x = y ∧ c2 = c + 1)) (ek : k2 = k + 1) : c2 = unK w a b k2.toNat := by
  rw [show k2.toNat = k.toNat + 1 by omega]
  show c2 = unK w a b k.toNat + (if (w (ixW a ((k.toNat : Nat) : Int)).toNat).toInt = (w (ixW b ((k.toNat : Nat) : Int)).toNat).toInt then 0 else 1)
  rw [show ((k.toNat : Nat) : Int) = k by omega, ← e1, ← e2, ← h]
  rcases hc with ⟨p, q⟩ | ⟨p, q⟩
  · rw [if_pos p]
    omega
  · rw [if_neg p]
    omega
def ulQ (r a b wt S : Int) (w : Nat → Int32) : Prop := ((0 ≤ a ∧ a < wt ∧ 0 ≤ b ∧ b < wt) → r = unK w a b S.toNat) ∧ (¬ (0 ≤ a ∧ a < wt ∧ 0 ≤ b ∧ b < wt) → r = -1)
theorem ul_yes {r a b wt S c k : Int} {w : Nat → Int32} (hc : 0 ≤ a ∧ a < wt ∧ 0 ≤ b ∧ b < wt) (h : c = unK w a b k.toNat) (e : r = c) (ek : k.toNat = S.toNat) : ulQ r a b wt S w := ⟨fun _ => by rw [e, h, ek], fun z => absurd hc z⟩
theorem ul_no {r a b wt S : Int} {w : Nat → Int32} (hc : ¬ (0 ≤ a ∧ a < wt ∧ 0 ≤ b ∧ b < wt)) (e : r = -1) : ulQ r a b wt S w := ⟨fun z => absurd z hc, fun _ => e⟩
theorem ul_noI {r a b c wt S r1 : Int} {w : Nat → Int32} (i : inQ r1 c wt) (h1 : r1 = 0) (hc : c = a ∨ c = b) (e : r = -1) : ulQ r a b wt S w := ul_no (by unfold inQ at i; omega) e
