/-! images, and what else the calls of the led table tell -/
theorem ur_M {u0 r0 u r n u' r' n' : Int} (h : urQ u0 r0 u r n) (hn : 0 ≤ n) (hu : 0 ≤ u0 ∧ u0 ≤ 40) (c : (u < 40 ∧ u' = u + 1) ∨ (40 ≤ u ∧ u' = u)) (er : r' = 0) (en : n' = n + 1) : urQ u0 r0 u' r' n' := by
  unfold urQ at h ⊢
  omega
theorem isQ_noq {f f' to_ by_ ti to' by' ti' : Nat → Int32} {n s st st' r : Int} (q : isQ f f' to_ by_ ti to' by' ti' n s st st' r) (h : r = 0) : 200 ≤ st' ∨ noq f' n s s 0 := by
  rcases q with ⟨q, _⟩ | ⟨_, e1, _, _, _, e5, q⟩
  · omega
  · rw [e1, e5]
    rcases q with q | q
    · exact Or.inl (by omega)
    · exact Or.inr q
theorem un_eq {res u r d u' r' d' res2 v s e v' s' e' : Int} (a : unQ res u r d u' r' d') (b : unQ res2 v s e v' s' e') (e1 : u = v) (e2 : r = s) (e3 : d = e) : res = res2 ∧ u' = v' ∧ r' = s' ∧ d' = e' := by
  unfold unQ at a b
  omega
theorem re_eq {res u r d u' r' d' res2 v s e v' s' e' : Int} (a : reQ res u r d u' r' d') (b : reQ res2 v s e v' s' e') (e1 : u = v) (e2 : r = s) (e3 : d = e) : res = res2 ∧ u' = v' ∧ r' = s' ∧ d' = e' := by
  unfold reQ at a b
  omega
theorem hz_eq {res u r d u' r' d' res2 v s e v' s' e' : Int} (a : hzQ res u r d u' r' d') (b : hzQ res2 v s e v' s' e') (h : res = res2) (e1 : u = v) (e2 : r = s) (e3 : d = e) : u' = v' ∧ r' = s' ∧ d' = e' := by
  unfold hzQ at a b
  omega
def ckF (t : Int → Int) : Nat → Int
  | 0 => 51
  | n + 1 => (7 * ckF t n + t (n : Int)) % 253
theorem ck_step {t : Int → Int} {c c' v k k' : Int} (h : c = ckF t k.toNat) (e : v = t k) (hc : c' = (7 * c + v) % 253) (h0 : 0 ≤ k) (ek : k' = k + 1) : c' = ckF t k'.toNat := by
  rw [show k'.toNat = k.toNat + 1 by omega]
  show c' = (7 * ckF t k.toNat + t ((k.toNat : Nat) : Int)) % 253
  rw [show ((k.toNat : Nat) : Int) = k by omega, ← h, ← e, hc]
def ckR (f : Nat → Int32) : Nat → Int
  | 0 => 51
  | n + 1 => (7 * ckR f n + (f n).toInt) % 253
theorem ckR_step {f : Nat → Int32} {c c' v k k' : Int} (h : c = ckR f k.toNat) (e : v = (f k.toNat).toInt) (hc : c' = (7 * c + v) % 253) (h0 : 0 ≤ k) (ek : k' = k + 1) : c' = ckR f k'.toNat := by
  rw [show k'.toNat = k.toNat + 1 by omega]
  show c' = (7 * ckR f k.toNat + (f k.toNat).toInt) % 253
  rw [← h, ← e, hc]
theorem ckR_tau {f : Nat → Int32} {n : Int} : ∀ k : Nat, (k : Int) ≤ n → ckR f k = ckF (tau f n) k
  | 0, _ => rfl
  | k + 1, h => by
    show (7 * ckR f k + (f k).toInt) % 253 = (7 * ckF (tau f n) k + tau f n (k : Int)) % 253
    rw [ckR_tau (n := n) k (by omega), tau_in (by omega) (by omega), show ((k : Int)).toNat = k by omega]
def imgQ (t : Int → Int) (n R : Int) : Prop := n = 2 * R + 2 ∧ t (n - 1) = ckF t (n - 1).toNat
theorem img_yes {t : Int → Int} {n R k v c : Int} (hn : n = 2 * R + 2) (hk : k = n - 1) (e : v = t k) (hc : c = ckF t k.toNat) (hv : v = c) : imgQ t n R := by
  subst hk
  exact ⟨hn, by rw [← e, ← hc, hv]⟩
theorem img_no {t : Int → Int} {n R k v c : Int} (hk : k = n - 1) (e : v = t k) (hc : c = ckF t k.toNat) (hv : ¬ v = c) : ¬ imgQ t n R := by
  subst hk
  intro h
  exact hv (by rw [e, hc]; exact h.2)
theorem img_noN {t : Int → Int} {n R : Int} (h : ¬ n = 2 * R + 2) : ¬ imgQ t n R := fun q => h q.1
theorem ckF_nn {t : Int → Int} : ∀ k : Nat, 0 ≤ ckF t k
  | 0 => by show (0 : Int) ≤ 51; omega
  | k + 1 => by show 0 ≤ (7 * ckF t k + t (k : Int)) % 253; omega
theorem img_n {f : Nat → Int32} {n R : Int} (h : imgQ (taub f n) n R) : 2 ≤ n := by
  have h1 := ckF_nn (t := taub f n) (n - 1).toNat
  have h2 := h.1
  have h3 := h.2
  rcases Int.lt_or_le n 1 with q | q
  · have e := taub_out (f := f) (n := n) (i := n - 1) (by omega)
    omega
  · omega
theorem img_yesM {f : Nat → Int32} {n R k k2 v c : Int} (hn : n = 2 * R + 2) (hk : k = n - 1) (hk2 : k2 = n - 1) (h0 : 0 ≤ k) (e : v = (f k.toNat).toInt) (hc : c = ckR f k2.toNat) (hv : v = c) : imgQ (tau f n) n R := by
  subst hk
  subst hk2
  refine ⟨hn, ?_⟩
  rw [tau_in h0 (by omega), ← e, ← ckR_tau _ (by omega), ← hc, hv]
theorem img_noM {f : Nat → Int32} {n R k k2 v c : Int} (hk : k = n - 1) (hk2 : k2 = n - 1) (h0 : 0 ≤ k) (e : v = (f k.toNat).toInt) (hc : c = ckR f k2.toNat) (hv : ¬ v = c) : ¬ imgQ (tau f n) n R := by
  subst hk
  subst hk2
  intro h
  have q := h.2
  rw [tau_in h0 (by omega), ← e, ← ckR_tau _ (by omega), ← hc] at q
  exact hv q
def chP (T : Nat → Int32) (n S m : Int) : Prop := m ≤ 200 ∧ CH T n S m
def onQ9 (res : Int) (t : Int → Int) (n R : Int) (C : Int → Prop) (u r d u' r' d' : Int) : Prop := (res = 1 ∧ (imgQ t n R ∧ C (t (n - 2))) ∧ r' = 0 ∧ d' = t (n - 2) ∧ ((d' ≤ 40 ∧ u' = d') ∨ (40 < d' ∧ u' = 40))) ∨ (res = 0 ∧ ¬ (imgQ t n R ∧ C (t (n - 2))) ∧ u' = u ∧ r' = r ∧ d' = d)
theorem on_eq {res n R u r d u1 r1 d1 res' n' R' u' r' d' u1' r1' d1' : Int} {t t' : Int → Int} {C C' : Int → Prop} (a : onQ9 res t n R C u r d u1 r1 d1) (b : onQ9 res' t' n' R' C' u' r' d' u1' r1' d1') (et : t = t') (en : n = n') (eR : R = R') (hC : ∀ m, C m ↔ C' m) (eu : u = u') (er : r = r') (ed : d = d') : res = res' ∧ u1 = u1' ∧ r1 = r1' ∧ d1 = d1' := by
  subst et
  subst en
  subst eR
  subst eu
  subst er
  subst ed
  rcases a with ⟨a1, a2, a3, a4, a5⟩ | ⟨a1, a2, a3, a4, a5⟩
  · rcases b with ⟨b1, b2, b3, b4, b5⟩ | ⟨b1, b2, b3, b4, b5⟩
    · omega
    · exact absurd ⟨a2.1, (hC _).mp a2.2⟩ b2
  · rcases b with ⟨b1, b2, b3, b4, b5⟩ | ⟨b1, b2, b3, b4, b5⟩
    · exact absurd ⟨b2.1, (hC _).mpr b2.2⟩ a2
    · omega
theorem on_img {res n R u r d : Int} {t : Int → Int} {C : Int → Prop} (hr : res = 0) (h : ¬ imgQ t n R) : onQ9 res t n R C u r d u r d := Or.inr ⟨hr, fun q => h q.1, rfl, rfl, rfl⟩
theorem on_yesX {T f g : Nat → Int32} {res n R S o k v w a b c0 u0 r0 d0 u r d : Int} {t : Int → Int} (hr : res = 1) (im : imgQ t n R) (ev : v = t k) (ek : k = n - 2) (x : XOK T f g S o u r d) (hu : urQ a b u r w) (h0 : a = 0 ∧ b = 0 ∧ c0 = 0) (hw : w = v) (hd : d = c0 + w) : onQ9 res t n R (chP (trT T) 6 S) u0 r0 d0 u r d := by
  subst ek
  obtain ⟨hb, t1, t2, t3, mk, _⟩ := x
  have e : t (n - 2) = d := by omega
  unfold urQ at hu
  have rz : r = 0 := by omega
  refine Or.inl ⟨hr, ⟨im, ?_⟩, rz, e.symm, by omega⟩
  rw [e]
  exact ⟨by omega, M_CH mk (by omega)⟩
theorem on_noX {T f g : Nat → Int32} {res n R S o k v w c0 u0 r0 d0 u r d : Int} {t : Int → Int} (hr : res = 0) (ev : v = t k) (ek : k = n - 2) (x : XOK T f g S o u r d) (en : w = v ∨ 200 ≤ d ∨ noq (trT f) 6 S S 0) (hw : ¬ w = v) (hv : w ≤ v) (hd : d = c0 + w) (h0 : c0 = 0) (hS : S ≤ 5) : onQ9 res t n R (chP (trT T) 6 S) u0 r0 d0 u0 r0 d0 := by
  subst ek
  obtain ⟨hb, t1, t2, t3, mk, _⟩ := x
  refine Or.inr ⟨hr, fun q => ?_, rfl, rfl, rfl⟩
  obtain ⟨_, h2, hc⟩ := q
  rw [← ev] at h2 hc
  rcases en with z | z | z
  · exact hw z
  · omega
  · exact M_far mk hc (by omega) (by omega) (by omega) z hS (by omega)
theorem on_yesM {T f to_ by_ ti tp : Nat → Int32} {res n R S k v u0 r0 d0 u r d r9 : Int} (hr : res = 1) (im : imgQ (tau tp n) n R) (ev : v = (tp k.toNat).toInt) (ek : k = n - 2) (h0 : 0 ≤ k) (mk : MOK T f to_ by_ ti R S d r9) (h9 : r9 = 0) (hd : d = v) (h200 : d ≤ 200) (hu : r = 0 ∧ ((d ≤ 40 ∧ u = d) ∨ (40 < d ∧ u = 40))) : onQ9 res (tau tp n) n R (chP T R S) u0 r0 d0 u r d := by
  subst ek
  have e : tau tp n (n - 2) = d := by rw [tau_in h0 (by omega)]; omega
  refine Or.inl ⟨hr, ⟨im, ?_⟩, hu.1, e.symm, hu.2⟩
  rw [e]
  exact ⟨h200, M_CH mk (by omega)⟩
theorem on_noM {T tp : Nat → Int32} {res n R S k v u r d u0 r0 d0 st : Int} (hr : res = 0) (ev : v = (tp k.toNat).toInt) (ek : k = n - 2) (h0 : 0 ≤ k) (far : ∀ m9 : Int, CH T R S m9 → m9 ≤ v → m9 ≤ 200 → m9 ≤ st) (hs : st < v) (hu : u = u0 ∧ r = r0 ∧ d = d0) : onQ9 res (tau tp n) n R (chP T R S) u0 r0 d0 u r d := by
  subst ek
  have e : tau tp n (n - 2) = v := by rw [tau_in h0 (by omega)]; omega
  refine Or.inr ⟨hr, fun q => ?_, hu.1, hu.2.1, hu.2.2⟩
  obtain ⟨_, h2, hc⟩ := q
  rw [e] at h2 hc
  have z := far v hc (Int.le_refl v) h2
  omega
/-! the chain of steps, by six rows and by the receivers' alone -/
theorem noq_R {G : Nat → Int32} {R S i j : Int} (z : zR G R) (hR : 0 ≤ R ∧ R ≤ 6) (hS : S ≤ 5) (h : noq G 6 S i j) : noq G R S i j := fun a b h0 h1 h2 h3 h4 q => h a b h0 h1 h2 h3 h4 ((ql_6 z hR (by omega) (by omega)).mpr q)
theorem go_R {G G' : Nat → Int32} {R a b : Int} {t : Int32} (z : zR G R) (hR : 0 ≤ R ∧ R ≤ 6) (ha : 0 ≤ a ∧ a ≤ 4) (hb : 0 ≤ b ∧ b ≤ 4) (h : goQ G G' a b t 6) : goQ G G' a b t R := by
  refine ⟨fun k hk => h.1 k (by omega), fun x hx => ?_⟩
  by_cases c : ∃ k : Nat, (k : Int) < 6 ∧ x = (5 * (k : Int) + a).toNat
  · obtain ⟨k, hk, e⟩ := c
    have hk2 : R ≤ (k : Int) := by
      rcases Int.lt_or_le (k : Int) R with q | q
      · exact absurd e (hx k q)
      · exact q
    have z1 := z (k : Int) a (by omega) hk2 hk ha.1 ha.2
    have z2 := z (k : Int) b (by omega) hk2 hk hb.1 hb.2
    rw [e, h.1 k hk, z1, z2, Int32.mul_zero, Int32.sub_zero]
  · exact h.2 x (fun k hk e => c ⟨k, hk, e⟩)
theorem zR_go {G G' : Nat → Int32} {R a b : Int} {t : Int32} (z : zR G R) (hR : 0 ≤ R ∧ R ≤ 6) (ha : 0 ≤ a ∧ a ≤ 4) (hb : 0 ≤ b ∧ b ≤ 4) (h : goQ G G' a b t 6) : zR G' R := (go_6 z hR ha hb (go_R z hR ha hb h)).2
theorem CH_6 {T : Nat → Int32} {R S m : Int} (z : zR T R) (hR : 0 ≤ R) (h : CH T R S m) : CH T 6 S m := by
  obtain ⟨G, g1, g3⟩ := h
  have zk : ∀ k : Nat, (k : Int) ≤ m → zR (G k) R := by
    intro k
    induction k with
    | zero => intro _; rw [← g1]; exact zR_nm z
    | succ k ih =>
      intro hk
      obtain ⟨i, j, t, q⟩ := g3 k (by omega)
      exact (stp_6 (ih (by omega)) hR q).2
  refine ⟨G, g1, fun k hk => ?_⟩
  obtain ⟨i, j, t, q⟩ := g3 k hk
  exact ⟨i, j, t, (stp_6 (zk k (by omega)) hR q).1⟩
theorem CH_R {T : Nat → Int32} {R S m : Int} (z : zR T R) (hR : 0 ≤ R ∧ R ≤ 6) (h : CH T 6 S m) : CH T R S m := by
  obtain ⟨G, g1, g3⟩ := h
  have zk : ∀ k : Nat, (k : Int) ≤ m → zR (G k) R := by
    intro k
    induction k with
    | zero => intro _; rw [← g1]; exact zR_nm z
    | succ k ih =>
      intro hk
      obtain ⟨i, j, t, q⟩ := g3 k (by omega)
      obtain ⟨h1, _, _, _, h5⟩ := q
      exact zR_go (ih (by omega)) hR (by omega) (by omega) h5
  refine ⟨G, g1, fun k hk => ?_⟩
  obtain ⟨i, j, t, h1, h2, h3, h4, h5⟩ := g3 k hk
  have zz := zk k (by omega)
  refine ⟨i, j, t, by omega, (ql_6 zz hR (by omega) (by omega)).mp h2, noq_R zz hR (by omega) h3, ?_, go_R zz hR (by omega) (by omega) h5⟩
  rw [← prn_6 zz hR (by omega) (by omega), ← prn_6 zz hR (by omega) (by omega)]
  exact h4
theorem chP_eq {T w T' w' : Nat → Int32} {lim lim' wt Sp S R S' R' : Int} (pe : plE T w lim T' w' lim' wt Sp R) (eS : S' = S) (eR : R' = R) (hR : 0 ≤ R ∧ R ≤ 6) : ∀ m, chP (trT T) 6 S' m ↔ chP T' R' S m := by
  subst eS
  subst eR
  have e : ∀ k : Nat, k < 30 → trT T k = T' k := fun k hk => (pl_tr pe k hk).symm
  exact fun m => ⟨fun h => ⟨h.1, CH_R (pl_zR pe) hR (CH_T h.2 (fun k hk => (e k hk).symm))⟩, fun h => ⟨h.1, CH_T (CH_6 (pl_zR pe) hR.1 h.2) e⟩⟩
/-! answers: a number of two tables, by whether it is led -/
def cvQ (r : Int) (p : Prop) (l x y z : Int) : Prop := (p → (¬ l = 0 → r = x) ∧ (l = 0 → r = y)) ∧ (¬ p → r = z)
theorem cv_1 {r l x y z : Int} {p : Prop} (hp : p) (hl : ¬ l = 0) (e : r = x) : cvQ r p l x y z := ⟨fun _ => ⟨fun _ => e, fun h => absurd h hl⟩, fun h => absurd hp h⟩
theorem cv_0 {r l x y z : Int} {p : Prop} (hp : p) (hl : l = 0) (e : r = y) : cvQ r p l x y z := ⟨fun _ => ⟨fun h => absurd hl h, fun _ => e⟩, fun h => absurd hp h⟩
theorem cv_n {r l x y z : Int} {p : Prop} (hp : ¬ p) (e : r = z) : cvQ r p l x y z := ⟨fun h => absurd h hp, fun _ => e⟩
theorem cv_eq {r l x y z r' l' x' y' z' : Int} {p p' : Prop} (a : cvQ r p l x y z) (b : cvQ r' p' l' x' y' z') (hp : p ↔ p') (hl : l = 0 ↔ l' = 0) (hx : p → x = x') (hy : p → y = y') (hz : z = z') : r = r' := by
  by_cases c : p
  · by_cases d : l = 0
    · rw [(a.1 c).2 d, (b.1 (hp.mp c)).2 (hl.mp d)]
      exact hy c
    · rw [(a.1 c).1 d, (b.1 (hp.mp c)).1 (fun q => d (hl.mpr q))]
      exact hx c
  · rw [a.2 c, b.2 (fun q => c (hp.mpr q))]
    exact hz
def rcP (a b A B : Int) : Prop := 0 ≤ a ∧ a < A ∧ 0 ≤ b ∧ b < B
theorem rc_no1 {r a b A B : Int} (i : inQ r a A) (h : r = 0) : ¬ rcP a b A B := by
  unfold inQ at i
  unfold rcP
  omega
theorem rc_no2 {r a b A B : Int} (i : inQ r b B) (h : r = 0) : ¬ rcP a b A B := by
  unfold inQ at i
  unfold rcP
  omega
def stP9 (r k w u a b c : Int) : Prop := ((0 ≤ k ∧ k < u ∧ 0 ≤ w ∧ w ≤ 2) → (w = 0 → r = a) ∧ (w = 1 → r = b) ∧ (w = 2 → r = c)) ∧ (¬ (0 ≤ k ∧ k < u ∧ 0 ≤ w ∧ w ≤ 2) → r = -1000000000)
theorem st9_no {r k w u a b c : Int} (h : ¬ (0 ≤ k ∧ k < u ∧ 0 ≤ w ∧ w ≤ 2)) (e : r = -1000000000) : stP9 r k w u a b c := ⟨fun q => absurd q h, fun _ => e⟩
theorem st9_yes {r k w u a b c : Int} (h : 0 ≤ k ∧ k < u ∧ 0 ≤ w ∧ w ≤ 2) (e : (w = 0 → r = a) ∧ (w = 1 → r = b) ∧ (w = 2 → r = c)) : stP9 r k w u a b c := ⟨fun _ => e, fun q => absurd h q⟩
theorem st9_eq {r k w u a b c r' k' w' u' a' b' c' : Int} (x : stP9 r k w u a b c) (y : stP9 r' k' w' u' a' b' c') (e1 : k = k') (e2 : w = w') (e3 : u = u') (ha : 0 ≤ k → k < u → a = a' ∧ b = b' ∧ c = c') : r = r' := by
  subst e1
  subst e2
  subst e3
  by_cases h : 0 ≤ k ∧ k < u ∧ 0 ≤ w ∧ w ≤ 2
  · obtain ⟨x1, x2, x3⟩ := x.1 h
    obtain ⟨y1, y2, y3⟩ := y.1 h
    obtain ⟨z1, z2, z3⟩ := ha h.1 h.2.1
    rcases (show w = 0 ∨ w = 1 ∨ w = 2 by omega) with q | q | q
    · rw [x1 q, y1 q, z1]
    · rw [x2 q, y2 q, z2]
    · rw [x3 q, y3 q, z3]
  · rw [x.2 h, y.2 h]
theorem sl_at {g : Nat → Int32} {o k q : Int} {w : Int} (hq : q = ((o + k) % 40) * 3) (h0 : 0 ≤ q) (hw : 0 ≤ w) {z : Int32} {i : Int} (e : z = g i.toNat) (hi : i = q + w) : z = g (sl o k + w.toNat) := by
  have e1 : i.toNat = sl o k + w.toNat := by
    unfold sl
    rw [← hq]
    omega
  rw [e, e1]
def haQ (r w a0 a1 a2 a3 a4 a5 a6 a7 a8 a9 : Int) : Prop := (w = 0 → r = a0) ∧ (w = 1 → r = a1) ∧ (w = 2 → r = a2) ∧ (w = 3 → r = a3) ∧ (w = 4 → r = a4) ∧ (w = 5 → r = a5) ∧ (w = 6 → r = a6) ∧ (w = 7 → r = a7) ∧ (w = 8 → r = a8) ∧ (w = 9 → r = a9) ∧ (w < 0 ∨ 9 < w → r = -1)
theorem ha_eq {r w a0 a1 a2 a3 a4 a5 a6 a7 a8 a9 r' w' b0 b1 b2 b3 b4 b5 b6 b7 b8 b9 : Int} (x : haQ r w a0 a1 a2 a3 a4 a5 a6 a7 a8 a9) (y : haQ r' w' b0 b1 b2 b3 b4 b5 b6 b7 b8 b9) (e : w = w') (e0 : a0 = b0) (e1 : a1 = b1) (e2 : a2 = b2) (e3 : a3 = b3) (e4 : a4 = b4) (e5 : a5 = b5) (e6 : a6 = b6) (e7 : a7 = b7) (e8 : a8 = b8) (e9 : a9 = b9) : r = r' := by
  subst e
  obtain ⟨x0, x1, x2, x3, x4, x5, x6, x7, x8, x9, xn⟩ := x
  obtain ⟨y0, y1, y2, y3, y4, y5, y6, y7, y8, y9, yn⟩ := y
  by_cases h : w < 0 ∨ 9 < w
  · rw [xn h, yn h]
  · rcases (show w = 0 ∨ w = 1 ∨ w = 2 ∨ w = 3 ∨ w = 4 ∨ w = 5 ∨ w = 6 ∨ w = 7 ∨ w = 8 ∨ w = 9 by omega) with q | q | q | q | q | q | q | q | q | q
    · rw [x0 q, y0 q, e0]
    · rw [x1 q, y1 q, e1]
    · rw [x2 q, y2 q, e2]
    · rw [x3 q, y3 q, e3]
    · rw [x4 q, y4 q, e4]
    · rw [x5 q, y5 q, e5]
    · rw [x6 q, y6 q, e6]
    · rw [x7 q, y7 q, e7]
    · rw [x8 q, y8 q, e8]
    · rw [x9 q, y9 q, e9]
