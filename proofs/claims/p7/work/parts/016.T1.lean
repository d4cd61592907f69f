theorem n_c {x : Int32} {v lo hi : Int} (h : x.toInt = v) (hb : lo ≤ v ∧ v ≤ hi) : lo ≤ x.toInt ∧ x.toInt ≤ hi := by rw [h]; exact hb
/-! the numbers that a house tells (table, words, limit): functions of the text -/
noncomputable def rwP (t : Int → Int) (q sg : Int) : Nat → Int × Int
  | 0 => (q, sg)
  | k + 1 => ((sdF t (rwP t q sg k).1 (rwP t q sg k).2).2.2.2.1, (sdF t (rwP t q sg k).1 (rwP t q sg k).2).2.2.2.2)
noncomputable def rwV (t : Int → Int) (q sg : Int) (k : Nat) : Int := (sdF t (rwP t q sg k).1 (rwP t q sg k).2).2.2.1
theorem rwP_at {t : Int → Int} {q sg a b v q' s' k k2 : Int} (h : rwP t q sg k.toNat = (a, b)) (hs : sdF t a b = (0, 0, v, q', s')) (h0 : 0 ≤ k) (e : k2 = k + 1) : rwP t q sg k2.toNat = (q', s') := by
  rw [show k2.toNat = k.toNat + 1 by omega]
  show ((sdF t (rwP t q sg k.toNat).1 (rwP t q sg k.toNat).2).2.2.2.1, (sdF t (rwP t q sg k.toNat).1 (rwP t q sg k.toNat).2).2.2.2.2) = (q', s')
  rw [h]
  show ((sdF t a b).2.2.2.1, (sdF t a b).2.2.2.2) = (q', s')
  rw [hs]
theorem rwV_at {t : Int → Int} {q sg a b v q' s' k : Int} (h : rwP t q sg k.toNat = (a, b)) (hs : sdF t a b = (0, 0, v, q', s')) : rwV t q sg k.toNat = v := by
  show (sdF t (rwP t q sg k.toNat).1 (rwP t q sg k.toNat).2).2.2.1 = v
  rw [h]
  show (sdF t a b).2.2.1 = v
  rw [hs]
theorem rwP_fn {t : Int → Int} {q sg a b v bad q' s' f p k k2 : Int} (h : rwP t q sg k.toNat = (a, b)) (hs : fnQ (sdF t a b) t v bad q' s' f p) (hv : ¬ v = bad) (h0 : 0 ≤ k) (e : k2 = k + 1) : rwP t q sg k2.toNat = (q', s') := rwP_at h (hs.1 hv).1 h0 e
theorem rwV_fn {t : Int → Int} {q sg a b v bad q' s' f p k : Int} (h : rwP t q sg k.toNat = (a, b)) (hs : fnQ (sdF t a b) t v bad q' s' f p) (hv : ¬ v = bad) : rwV t q sg k.toNat = v := rwV_at h (hs.1 hv).1
/-- where a number of row r, sender s lies: the class's table, its words; the reference's, told and being read -/
def ixT (r s : Int) : Int := 6 * s + r
def ixW (r s : Int) : Int := 5 * r + s
def ixR (r s : Int) : Int := 30 + 5 * r + s
def ixV (r s : Int) : Int := 80 + 5 * r + s
def injQ (ix : Int → Int → Int) (A : Int) : Prop := ∀ r s r' s' : Int, 0 ≤ r → r < A → 0 ≤ s → s < 5 → 0 ≤ r' → r' < A → 0 ≤ s' → s' < 5 → (ix r s).toNat = (ix r' s').toNat → r = r' ∧ s = s'
theorem inj_T : injQ ixT 6 := by
  intro r s r' s' h1 h2 h3 h4 h5 h6 h7 h8 h
  unfold ixT at h
  omega
theorem inj_W : injQ ixW 16 := by
  intro r s r' s' h1 h2 h3 h4 h5 h6 h7 h8 h
  unfold ixW at h
  omega
theorem inj_R : injQ ixR 6 := by
  intro r s r' s' h1 h2 h3 h4 h5 h6 h7 h8 h
  unfold ixR at h
  omega
theorem inj_V : injQ ixV 16 := by
  intro r s r' s' h1 h2 h3 h4 h5 h6 h7 h8 h
  unfold ixV at h
  omega
/-- row i has its first k numbers anew, all else is as before -/
def puQ (ix : Int → Int → Int) (A : Int) (f g : Nat → Int32) (t : Int → Int) (q sg i k : Int) : Prop := ∀ r s : Int, 0 ≤ r → r < A → 0 ≤ s → s < 5 → (g (ix r s).toNat).toInt = ci (r = i ∧ s < k) (rwV t q sg s.toNat) ((f (ix r s).toNat).toInt)
theorem pu_0 {ix : Int → Int → Int} {A q sg i k : Int} {f : Nat → Int32} {t : Int → Int} (h : k = 0) : puQ ix A f f t q sg i k := fun r s _ _ h3 _ => (ci_neg (fun z => by have z2 := z.2; omega)).symm
theorem pu_step {ix : Int → Int → Int} {A q sg i k k2 n : Int} {f g g' : Nat → Int32} {t : Int → Int} {x : Int32} (hi : injQ ix A) (h : puQ ix A f g t q sg i k) (e : g' = upd g n.toNat x) (hn : n = ix i k) (hv : rwV t q sg k.toNat = x.toInt) (h0 : 0 ≤ k ∧ k < 5) (hA : 0 ≤ i ∧ i < A) (e2 : k2 = k + 1) : puQ ix A f g' t q sg i k2 := by
  intro r s h1 h2 h3 h4
  by_cases c : r = i ∧ s = k
  · have hx : (ix r s).toNat = n.toNat := by rw [c.1, c.2, hn]
    have ek : s.toNat = k.toNat := by rw [c.2]
    rw [e, u_eq hx, ci_pos ⟨c.1, by omega⟩, ek, hv]
  · have c1 : ¬ (ix r s).toNat = n.toNat := fun z => c (hi r s i k h1 h2 h3 h4 hA.1 hA.2 h0.1 h0.2 (by rw [z, hn]))
    rw [e, u_ne c1, h r s h1 h2 h3 h4]
    by_cases d : r = i ∧ s < k
    · rw [ci_pos d, ci_pos ⟨d.1, by omega⟩]
    · rw [ci_neg d, ci_neg (fun z => d ⟨z.1, by have z1 := z.1; have z2 := z.2; omega⟩)]
theorem pu_k {ix : Int → Int → Int} {A q sg i i2 k k2 : Int} {f g : Nat → Int32} {t : Int → Int} (h : puQ ix A f g t q sg i k) (e : k2 = k ∨ (k2 ≤ 0 ∧ k ≤ 0)) (ei : i2 = i) : puQ ix A f g t q sg i2 k2 := by
  rw [ei]
  intro r s h1 h2 h3 h4
  rw [h r s h1 h2 h3 h4]
  rcases e with e | e
  · rw [e]
  · rw [ci_neg (fun z => by have z2 := z.2; omega), ci_neg (fun z => by have z2 := z.2; omega)]
def agQ (ix : Int → Int → Int) (A B : Int) (f : Nat → Int32) (T : Int → Int → Int) : Prop := ∀ r s : Int, 0 ≤ r → r < A → 0 ≤ s → s < B → (f (ix r s).toNat).toInt = T r s
noncomputable def poF (T : Int → Int → Int) (t : Int → Int) (q sg i k : Int) : Int → Int → Int := fun r s => ci (r = i ∧ s < k) (rwV t q sg s.toNat) (T r s)
theorem ag_tab {ix : Int → Int → Int} {q sg i k : Int} {f g : Nat → Int32} {t : Int → Int} {T : Int → Int → Int} (p : puQ ix 6 f g t q sg i k) (h : agQ ix 6 5 f T) : agQ ix 6 5 g (poF T t q sg i k) := fun r s h1 h2 h3 h4 => by
  rw [p r s h1 h2 h3 h4, h r s h1 h2 h3 h4]
  rfl
theorem ag_wrd {ix : Int → Int → Int} {q sg i i2 k : Int} {f g : Nat → Int32} {t : Int → Int} {T : Int → Int → Int} (p : puQ ix 16 f g t q sg i k) (h : agQ ix i k f T) (h16 : i < 16) (h5 : k ≤ 5) (e : i2 = i + 1) : agQ ix i2 k g (poF T t q sg i k) := fun r s h1 h2 h3 h4 => by
  rw [p r s h1 (by omega) h3 (by omega)]
  show _ = ci (r = i ∧ s < k) (rwV t q sg s.toNat) (T r s)
  by_cases c : r = i
  · rw [ci_pos ⟨c, h4⟩, ci_pos ⟨c, h4⟩]
  · rw [ci_neg (fun z => c z.1), ci_neg (fun z => c z.1)]
    exact h r s h1 (by omega) h3 h4
abbrev pL : Type := (Int → Int → Int) × (Int → Int → Int) × Int
noncomputable def stP (t : Int → Int) (S rt wt q sg : Int) (p : pL) : pL :=
  ci (wd t q sg wRow) (poF p.1 t (skp t (q + 3)) (sgn t (skp t (q + 3)) (q + 3)) rt S, p.2)
  (ci (wd t q sg wWord) (p.1, poF p.2.1 t (skp t (q + 4)) (sgn t (skp t (q + 4)) (q + 4)) wt S, p.2.2)
  (ci (wd t q sg wWorth) p
  (ci (wd t q sg wLimit) (p.1, p.2.1, (btF t (skp t (q + 5)) (sgn t (skp t (q + 5)) (q + 5)) 0 9999).2.2.1) p)))
theorem sP_row {t : Int → Int} {S rt wt q sg : Int} {p : pL} (h : wd t q sg wRow) : stP t S rt wt q sg p = (poF p.1 t (skp t (q + 3)) (sgn t (skp t (q + 3)) (q + 3)) rt S, p.2) := by
  unfold stP
  exact ci_pos h
theorem sP_word {t : Int → Int} {S rt wt q sg : Int} {p : pL} (h0 : ¬ wd t q sg wRow) (h : wd t q sg wWord) : stP t S rt wt q sg p = (p.1, poF p.2.1 t (skp t (q + 4)) (sgn t (skp t (q + 4)) (q + 4)) wt S, p.2.2) := by
  unfold stP
  rw [ci_neg h0]
  exact ci_pos h
theorem sP_worth {t : Int → Int} {S rt wt q sg : Int} {p : pL} (h0 : ¬ wd t q sg wRow) (h1 : ¬ wd t q sg wWord) (h : wd t q sg wWorth) : stP t S rt wt q sg p = p := by
  unfold stP
  rw [ci_neg h0, ci_neg h1]
  exact ci_pos h
theorem sP_limit {t : Int → Int} {S rt wt q sg : Int} {p : pL} (h0 : ¬ wd t q sg wRow) (h1 : ¬ wd t q sg wWord) (h2 : ¬ wd t q sg wWorth) (h : wd t q sg wLimit) : stP t S rt wt q sg p = (p.1, p.2.1, (btF t (skp t (q + 5)) (sgn t (skp t (q + 5)) (q + 5)) 0 9999).2.2.1) := by
  unfold stP
  rw [ci_neg h0, ci_neg h1, ci_neg h2]
  exact ci_pos h
noncomputable def lpP (t : Int → Int) (L S R : Int) : Nat → Int → Int → Int → Int → Int → Int → pL → pL
  | 0, _, _, _, _, _, _, p => p
  | k + 1, n, rt, wt, rc, q, sg, p => ci (sg = -1) p (ci (n = 60) p
      (ci ((stF t L S R rt wt rc q sg).1 = 0)
        (ci ((stF t L S R rt wt rc q sg).2.2.2.1 = 59)
          (lpP t L S R k (n + 1) (stF t L S R rt wt rc q sg).2.2.2.2.1 (stF t L S R rt wt rc q sg).2.2.2.2.2.1 (stF t L S R rt wt rc q sg).2.2.2.2.2.2 (skp t ((stF t L S R rt wt rc q sg).2.2.1 + 1)) (t (skp t ((stF t L S R rt wt rc q sg).2.2.1 + 1))) (stP t S rt wt q sg p))
          p)
        p))
def p0L : pL := (fun _ _ => 0, fun _ _ => 0, 9999)
noncomputable def hoK (t : Int → Int) (x : sZ) : pL := lpP t x.2.2.1 x.2.2.2.1 x.2.2.2.2.1 60 1 0 0 0 (skp t (x.2.2.2.2.2.1 + 1)) (t (skp t (x.2.2.2.2.2.1 + 1))) p0L
noncomputable def hoP (t : Int → Int) : pL := hoK t (hsF t (skp t 0) (t (skp t 0)))
def plQ (ia ib : Int → Int → Int) (f w : Nat → Int32) (lim wt S : Int) (p : pL) : Prop := agQ ia 6 5 f p.1 ∧ agQ ib wt S w p.2.1 ∧ lim = p.2.2
/-- nothing stands beyond the receivers and senders -/
def zeQ (p : pL) (R S : Int) : Prop := ∀ r s : Int, 0 ≤ r → 0 ≤ s → (R ≤ r ∨ S ≤ s) → p.1 r s = 0
theorem stP_ze {t : Int → Int} {L S R rt wt rc q sg : Int} {p : pL} (h : zeQ p R S) (x : (stF t L S R rt wt rc q sg).1 = 0) : zeQ (stP t S rt wt q sg p) R S := by
  intro r s h1 h2 h3
  by_cases c : wd t q sg wRow
  · rw [sP_row c]
    show ci (r = rt ∧ s < S) _ _ = 0
    by_cases d : rt < R
    · rw [ci_neg (fun z => by have z1 := z.1; have z2 := z.2; omega)]
      exact h r s h1 h2 h3
    · rw [st_rowF c d] at x
      exact absurd (show (4 : Int) = 0 from x) (by decide)
  · by_cases c1 : wd t q sg wWord
    · rw [sP_word c c1]
      exact h r s h1 h2 h3
    · by_cases c2 : wd t q sg wWorth
      · rw [sP_worth c c1 c2]
        exact h r s h1 h2 h3
      · by_cases c3 : wd t q sg wLimit
        · rw [sP_limit c c1 c2 c3]
          exact h r s h1 h2 h3
        · have e : stP t S rt wt q sg p = p := by
            unfold stP
            rw [ci_neg c, ci_neg c1, ci_neg c2]
            exact ci_neg c3
          rw [e]
          exact h r s h1 h2 h3
/-! a statement, as the class reads it -/
theorem lm_bt {t : Int → Int} {q sg lo hi r q' sg' f p v : Int} (h : fnQ (btF t q sg lo hi) t r (-1) q' sg' f p) (hl : lo = 0) (hh : hi = 9999) (hr : ¬ r = -1) (e : v = r) : v = (btF t q sg 0 9999).2.2.1 := by
  subst hl
  subst hh
  rw [(h.1 hr).1]
  exact e
theorem sp_row {t : Int → Int} {S rt wt q sg q1 s1 r1 f0 p0 lim lim2 wt2 : Int} {f g w : Nat → Int32} (h : rwQ t q sg (wL.getD 1 []) q1 s1 r1 f0 p0) (hr : ¬ r1 = 0) (pu : puQ ixT 6 f g t q1 s1 rt S) (e1 : lim2 = lim) (e2 : wt2 = wt) : ∀ p : pL, plQ ixT ixW f w lim wt S p → plQ ixT ixW g w lim2 wt2 S (stP t S rt wt q sg p) := by
  obtain ⟨x, y⟩ := rw_to h hr (n := 3) (by decide)
  subst x
  subst y
  intro p hp
  rw [sP_row (h.1 hr).1, e1, e2]
  exact ⟨ag_tab pu hp.1, hp.2⟩
theorem sp_word {t : Int → Int} {S rt wt q sg q1 s1 r1 f0 p0 lim lim2 wt2 : Int} {f w w2 : Nat → Int32} (n0 : ¬ wd t q sg wRow) (h : rwQ t q sg (wL.getD 2 []) q1 s1 r1 f0 p0) (hr : ¬ r1 = 0) (pu : puQ ixW 16 w w2 t q1 s1 wt S) (h16 : wt < 16) (hS : S ≤ 5) (e1 : lim2 = lim) (e2 : wt2 = wt + 1) : ∀ p : pL, plQ ixT ixW f w lim wt S p → plQ ixT ixW f w2 lim2 wt2 S (stP t S rt wt q sg p) := by
  obtain ⟨x, y⟩ := rw_to h hr (n := 4) (by decide)
  subst x
  subst y
  intro p hp
  rw [sP_word n0 (h.1 hr).1, e1]
  exact ⟨hp.1, ag_wrd pu hp.2.1 h16 hS e2, hp.2.2⟩
theorem sp_worth {t : Int → Int} {S rt wt q sg q1 s1 r1 f0 p0 lim lim2 wt2 : Int} {f w : Nat → Int32} (n0 : ¬ wd t q sg wRow) (n1 : ¬ wd t q sg wWord) (h : rwQ t q sg (wL.getD 3 []) q1 s1 r1 f0 p0) (hr : ¬ r1 = 0) (e1 : lim2 = lim) (e2 : wt2 = wt) : ∀ p : pL, plQ ixT ixW f w lim wt S p → plQ ixT ixW f w lim2 wt2 S (stP t S rt wt q sg p) := by
  intro p hp
  rw [sP_worth n0 n1 (h.1 hr).1, e1, e2]
  exact hp
theorem sp_limit {t : Int → Int} {S rt wt q sg q1 s1 r1 f0 p0 lim lim2 wt2 : Int} {f w : Nat → Int32} (n0 : ¬ wd t q sg wRow) (n1 : ¬ wd t q sg wWord) (n2 : ¬ wd t q sg wWorth) (h : rwQ t q sg (wL.getD 14 []) q1 s1 r1 f0 p0) (hr : ¬ r1 = 0) (e1 : lim2 = (btF t q1 s1 0 9999).2.2.1) (e2 : wt2 = wt) : ∀ p : pL, plQ ixT ixW f w lim wt S p → plQ ixT ixW f w lim2 wt2 S (stP t S rt wt q sg p) := by
  obtain ⟨x, y⟩ := rw_to h hr (n := 5) (by decide)
  subst x
  subst y
  intro p hp
  rw [sP_limit n0 n1 n2 (h.1 hr).1, e2]
  exact ⟨hp.1, hp.2.1, e1⟩
/-! the house, as the class reads it -/
def hpQ (t : Int → Int) (n L S R rt wt rc q sg : Int) (f w : Nat → Int32) (lim : Int) : Prop := (n = 0 ∧ agQ ixT 6 5 f (fun _ _ => 0) ∧ lim = 9999 ∧ wt = 0) ∨ (1 ≤ n ∧ ∃ p : pL, plQ ixT ixW f w lim wt S p ∧ zeQ p R S ∧ hoP t = lpP t L S R (61 - n).toNat n rt wt rc q sg p)
theorem ag_zero {ix : Int → Int → Int} {f : Nat → Int32} (h : ∀ j : Nat, j < 30 → f j = 0) (hb : ∀ r s : Int, 0 ≤ r → r < 6 → 0 ≤ s → s < 5 → (ix r s).toNat < 30) : agQ ix 6 5 f (fun _ _ => 0) := fun r s h1 h2 h3 h4 => by
  rw [h _ (hb r s h1 h2 h3 h4)]
  rfl
theorem ixT_lt : ∀ r s : Int, 0 ≤ r → r < 6 → 0 ≤ s → s < 5 → (ixT r s).toNat < 30 := by
  intro r s h1 h2 h3 h4
  unfold ixT
  omega
theorem hp_0 {t : Int → Int} {n L S R rt wt rc q sg lim : Int} {f w : Nat → Int32} (hn : n = 0) (h : ∀ j : Nat, j < 30 → f j = 0) (hl : lim = 9999) (hw : wt = 0) : hpQ t n L S R rt wt rc q sg f w lim := Or.inl ⟨hn, ag_zero h ixT_lt, hl, hw⟩
theorem hp_go {t : Int → Int} {n m L S R rt wt rc q sg r1 q1 s1 rt1 wt1 rc1 f1 p1 c q2 s2 r2 f2 p2 lim lim2 : Int} {f w f' w' : Nat → Int32} (h : hpQ t n L S R rt wt rc q sg f w lim) (hn : 1 ≤ n) (hm : n < 60) (hs : ¬ sg = -1) (h1 : stmQ (stF t L S R rt wt rc q sg) t r1 q1 s1 rt1 wt1 rc1 f1 p1) (e1 : ¬ r1 = 0) (sp : ∀ p : pL, plQ ixT ixW f w lim wt S p → plQ ixT ixW f' w' lim2 wt1 S (stP t S rt wt q sg p)) (h2 : rsQ t q1 s1 c q2 s2 r2 f2 p2) (ew : c = 59) (e2 : ¬ r2 = 0) (em : m = n + 1) : hpQ t m L S R rt1 wt1 rc1 q2 s2 f' w' lim2 := by
  rcases h with h | h
  · exact absurd h.1 (by omega)
  · obtain ⟨_, p, hp, hz, e⟩ := h
    obtain ⟨x, _⟩ := h1.1 e1
    obtain ⟨u, v, z⟩ := h2.1 e2
    subst ew
    subst em
    refine Or.inr ⟨by omega, stP t S rt wt q sg p, sp p hp, stP_ze hz (by rw [x]), ?_⟩
    rw [e, show (61 - n).toNat = (61 - (n + 1)).toNat + 1 by omega]
    show ci _ _ _ = _
    rw [ci_neg hs, ci_neg (by omega), x, ci_pos rfl, ci_pos u, v, ← z]
theorem hp_go1 {t : Int → Int} {n m L S R rt wt rc q sg r1 q1 s1 L1 S1 R1 f1 p1 c q2 s2 r2 f2 p2 rt2 wt2 rc2 lim lim2 : Int} {f w : Nat → Int32} (h : hpQ t n L S R rt wt rc q sg f w lim) (hi : hiQ t n L S R rt wt rc q sg) (hn : n = 0) (h1 : szQ (hsF t q sg) t r1 L1 S1 R1 q1 s1 f1 p1) (e1 : ¬ r1 = 0) (h2 : rsQ t q1 s1 c q2 s2 r2 f2 p2) (ew : c = 59) (e2 : ¬ r2 = 0) (em : m = 1) (er : rt2 = rt ∧ wt2 = wt ∧ rc2 = rc) (el : lim2 = lim) : hpQ t m L1 S1 R1 rt2 wt2 rc2 q2 s2 f w lim2 := by
  rcases h with h | h
  · rcases hi with g | g
    · obtain ⟨_, a1, a2, a3, a4, a5⟩ := g
      obtain ⟨x, _⟩ := h1.1 e1
      obtain ⟨u, v, z⟩ := h2.1 e2
      obtain ⟨_, k1, k2, k3⟩ := h
      obtain ⟨b1, b2, b3⟩ := er
      subst ew
      subst em
      refine Or.inr ⟨by omega, p0L, ⟨k1, ?_, by rw [el, k2]; rfl⟩, fun _ _ _ _ _ => rfl, ?_⟩
      · intro r s i1 i2
        exact absurd i2 (by omega)
      · have e : hoP t = hoK t (hsF t q sg) := by
          rw [a2, a1]
          rfl
        rw [e, x, show rt2 = 0 by omega, show wt2 = 0 by omega, show rc2 = 0 by omega]
        show lpP t L1 S1 R1 60 1 0 0 0 (skp t (q1 + 1)) (t (skp t (q1 + 1))) p0L = _
        rw [v, ← z]
        rfl
    · exact absurd g.1 (by omega)
  · exact absurd h.1 (by omega)
theorem hp_end {t : Int → Int} {n L S R rt wt rc q sg lim : Int} {f w : Nat → Int32} (h : hpQ t n L S R rt wt rc q sg f w lim) (hn : 1 ≤ n) (hm : n ≤ 60) (hs : sg = -1) : plQ ixT ixW f w lim wt S (hoP t) ∧ zeQ (hoP t) R S := by
  rcases h with h | h
  · exact absurd h.1 (by omega)
  · obtain ⟨_, p, hp, hz, e⟩ := h
    rw [show (61 - n).toNat = (61 - (n + 1)).toNat + 1 by omega] at e
    have e2 : hoP t = p := e.trans (ci_pos hs)
    rw [e2]
    exact ⟨hp, hz⟩
/-- behind house(): the house told, or all as it was -/
def hpH (ia ib : Int → Int → Int) (t : Int → Int) (r : Int) (f w : Nat → Int32) (lim wt S : Int) (f0 w0 : Nat → Int32) (lim0 : Int) : Prop := (¬ r = -1 → plQ ia ib f w lim wt S (hoP t)) ∧ (r = -1 → pF f0 f 30 ∧ pF w0 w 80 ∧ lim = lim0)
def hpX (t : Int → Int) (r R S : Int) : Prop := ¬ r = -1 → zeQ (hoP t) R S
theorem hpH_yes {ia ib : Int → Int → Int} {t : Int → Int} {r lim wt S lim0 : Int} {f w f0 w0 : Nat → Int32} (h : plQ ia ib f w lim wt S (hoP t)) (hr : ¬ r = -1) : hpH ia ib t r f w lim wt S f0 w0 lim0 := ⟨fun _ => h, fun z => absurd z hr⟩
theorem hpH_no {ia ib : Int → Int → Int} {t : Int → Int} {r lim wt S lim0 : Int} {f w f0 w0 : Nat → Int32} (h1 : pF f0 f 30) (h2 : pF w0 w 80) (h3 : lim = lim0) (hr : r = -1) : hpH ia ib t r f w lim wt S f0 w0 lim0 := ⟨fun z => absurd hr z, fun _ => ⟨h1, h2, h3⟩⟩
