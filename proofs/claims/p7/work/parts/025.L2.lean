/-! rows of nothing beyond the receivers: as many rows as one likes -/
def zR (G : Nat → Int32) (R : Int) : Prop := ∀ r s : Int, 0 ≤ r → R ≤ r → r < 6 → 0 ≤ s → s ≤ 4 → G (5 * r + s).toNat = 0
theorem prn_z {G : Nat → Int32} {R a b : Int} (z : zR G R) (hR : 0 ≤ R) (ha : 0 ≤ a ∧ a ≤ 4) (hb : 0 ≤ b ∧ b ≤ 4) : ∀ n : Nat, n ≤ 6 → prn G a b n = prn G a b (if (n : Int) ≤ R then n else R.toNat)
  | 0, _ => by rw [if_pos (by omega)]
  | n + 1, hn => by
    have ih := prn_z z hR ha hb n (by omega)
    by_cases c : ((n + 1 : Nat) : Int) ≤ R
    · rw [if_pos c]
    · rw [if_neg c]
      show prn G a b n + G (5 * (n : Int) + a).toNat * G (5 * (n : Int) + b).toNat = _
      rw [z (n : Int) a (by omega) (by omega) (by omega) ha.1 ha.2, Int32.zero_mul, Int32.add_zero, ih]
      by_cases d : (n : Int) ≤ R
      · rw [if_pos d, show R.toNat = n by omega]
      · rw [if_neg d]
theorem prn_6 {G : Nat → Int32} {R a b : Int} (z : zR G R) (hR : 0 ≤ R ∧ R ≤ 6) (ha : 0 ≤ a ∧ a ≤ 4) (hb : 0 ≤ b ∧ b ≤ 4) : prn G a b (6 : Int).toNat = prn G a b R.toNat := by
  have h := prn_z z hR.1 ha hb 6 (Nat.le_refl 6)
  show prn G a b 6 = prn G a b R.toNat
  rw [h]
  by_cases c : ((6 : Nat) : Int) ≤ R
  · rw [if_pos c, show R.toNat = 6 by omega]
  · rw [if_neg c]
theorem ql_6 {G : Nat → Int32} {R i j : Int} (z : zR G R) (hR : 0 ≤ R ∧ R ≤ 6) (hi : 0 ≤ i ∧ i ≤ 4) (hj : 0 ≤ j ∧ j ≤ 4) : ql G 6 i j ↔ ql G R i j := by
  unfold ql
  rw [prn_6 z hR hi hj, prn_6 z hR hj hj]
theorem noq_6 {G : Nat → Int32} {R S i j : Int} (z : zR G R) (hR : 0 ≤ R ∧ R ≤ 6) (hS : S ≤ 5) (h : noq G R S i j) : noq G 6 S i j := fun a b h0 h1 h2 h3 h4 q => h a b h0 h1 h2 h3 h4 ((ql_6 z hR (by omega) (by omega)).mp q)
theorem go_6 {G G' : Nat → Int32} {R a b : Int} {t : Int32} (z : zR G R) (hR : 0 ≤ R ∧ R ≤ 6) (ha : 0 ≤ a ∧ a ≤ 4) (hb : 0 ≤ b ∧ b ≤ 4) (h : goQ G G' a b t R) : goQ G G' a b t 6 ∧ zR G' R := by
  have far : ∀ r s : Int, 0 ≤ r → R ≤ r → r < 6 → 0 ≤ s → s ≤ 4 → G' (5 * r + s).toNat = G (5 * r + s).toNat := fun r s h0 h1 h2 h3 h4 => h.2 _ (fun k hk => by omega)
  refine ⟨⟨fun k hk => ?_, fun x hx => ?_⟩, fun r s h0 h1 h2 h3 h4 => ?_⟩
  · by_cases c : (k : Int) < R
    · exact h.1 k c
    · rw [far (k : Int) a (by omega) (by omega) hk ha.1 ha.2, z (k : Int) a (by omega) (by omega) hk ha.1 ha.2, z (k : Int) b (by omega) (by omega) hk hb.1 hb.2, Int32.mul_zero, Int32.sub_zero]
  · exact h.2 x (fun k hk => hx k (by omega))
  · rw [far r s h0 h1 h2 h3 h4]
    exact z r s h0 h1 h2 h3 h4
theorem stp_6 {G G' : Nat → Int32} {R S i j : Int} {t : Int32} (z : zR G R) (hR : 0 ≤ R) (h : stp G G' R S i j t) : stp G G' 6 S i j t ∧ zR G' R := by
  obtain ⟨h1, h2, h3, h4, h5⟩ := h
  have g := go_6 z ⟨hR, by omega⟩ (by omega) (by omega) h5
  refine ⟨⟨by omega, (ql_6 z ⟨hR, by omega⟩ (by omega) (by omega)).mpr h2, noq_6 z ⟨hR, by omega⟩ (by omega) h3, ?_, g.1⟩, g.2⟩
  rw [prn_6 z ⟨hR, by omega⟩ (by omega) (by omega), prn_6 z ⟨hR, by omega⟩ (by omega) (by omega)]
  exact h4
theorem zR_nm {G : Nat → Int32} {R : Int} (z : zR G R) : zR (nm G) R := fun r s h0 h1 h2 h3 h4 => by
  rw [nm_lt (by omega)]
  exact z r s h0 h1 h2 h3 h4
theorem MOK_6 {T f to_ by_ ti : Nat → Int32} {R S st r : Int} (z : zR T R) (hR : 0 ≤ R) (h : MOK T f to_ by_ ti R S st r) (h0 : 0 ≤ st) (h1 : 0 ≤ r) : MOK T f to_ by_ ti 6 S st r ∧ zR (nm f) R := by
  obtain ⟨G, g1, g2, g3⟩ := h
  have zk : ∀ k : Nat, (k : Int) ≤ st + r → zR (G k) R := by
    intro k
    induction k with
    | zero => intro _; rw [← g1]; exact zR_nm z
    | succ k ih => intro hk; exact (stp_6 (ih (by omega)) hR (g3 k (by omega))).2
  refine ⟨⟨G, g1, g2, fun k hk => (stp_6 (zk k (by omega)) hR (g3 k hk)).1⟩, ?_⟩
  rw [g2]
  exact zk _ (by omega)
theorem stp_det3 {f f1 f2 : Nat → Int32} {n s i1 i2 j1 j2 : Int} {t1 t2 : Int32} (h : stp f f1 n s i1 j1 t1) (g : stp f f2 n s i2 j2 t2) : i1 = i2 ∧ j1 = j2 ∧ t1 = t2 := by
  obtain ⟨h1, h2, h3, h4, h5⟩ := h
  obtain ⟨g1, g2, g3, g4, g5⟩ := g
  have e : i1 = i2 ∧ j1 = j2 := by
    by_cases q1 : i1 < i2 ∨ (i1 = i2 ∧ j1 < j2)
    · exact absurd h2 (g3 i1 j1 (by omega) (by omega) (by omega) (by omega) q1)
    · by_cases q2 : i2 < i1 ∨ (i2 = i1 ∧ j2 < j1)
      · exact absurd g2 (h3 i2 j2 (by omega) (by omega) (by omega) (by omega) q2)
      · omega
  obtain ⟨e1, e2⟩ := e
  subst e1
  subst e2
  exact ⟨rfl, rfl, h4.trans g4.symm⟩
theorem M_uniq {T T' f f' to_ by_ ti to' by' ti' : Nat → Int32} {n s st r r' : Int} (h : MOK T f to_ by_ ti n s st r) (g : MOK T' f' to' by' ti' n s st r') (e : nm T = nm T') (h0 : 0 ≤ st) (hr : 0 ≤ r) (hr' : 0 ≤ r') : nm f = nm f' ∧ ∀ k : Nat, (k : Int) < st → (to_ k).toInt = (to' k).toInt ∧ (by_ k).toInt = (by' k).toInt ∧ ti k = ti' k := by
  obtain ⟨G, a1, a2, a3⟩ := h
  obtain ⟨K, b1, b2, b3⟩ := g
  have key : ∀ k : Nat, (k : Int) ≤ st → G k = K k := by
    intro k
    induction k with
    | zero => intro _; rw [← a1, ← b1, e]
    | succ k ih =>
      intro hk
      have q := a3 k (by omega)
      rw [ih (by omega)] at q
      exact stp_det q (b3 k (by omega))
  refine ⟨?_, fun k hk => ?_⟩
  · rw [a2, b2]
    exact key _ (by omega)
  · have q := a3 k (by omega)
    rw [key k (by omega)] at q
    exact stp_det3 q (b3 k (by omega))
/-! both sides -/
/-- what the two sides know of their led tables, told of the same table, rows of nothing put in -/
theorem pl_tr {f w f' w' : Nat → Int32} {lim lim' wt S R : Int} (pe : plE f w lim f' w' lim' wt S R) : ∀ k : Nat, k < 30 → f' k = trT f k := fun k hk => by
  have q := pe.1 ((k / 5 : Nat) : Int) ((k % 5 : Nat) : Int) (by omega) (by omega) (by omega) (by omega)
  have e1 : (ixW ((k / 5 : Nat) : Int) ((k % 5 : Nat) : Int)).toNat = k := by
    unfold ixW
    omega
  have e2 : (ixT ((k / 5 : Nat) : Int) ((k % 5 : Nat) : Int)).toNat = 6 * (k % 5) + k / 5 := by
    unfold ixT
    omega
  rw [e1, e2] at q
  rw [tr_lt hk]
  exact (Int32.toInt_inj.mp q).symm
theorem pl_zR {f w f' w' : Nat → Int32} {lim lim' wt S R : Int} (pe : plE f w lim f' w' lim' wt S R) : zR f' R := fun r s h0 h1 h2 h3 h4 => by
  have q := pe.1 r s h0 h2 h3 (by omega)
  have z := pe.2.2.2 r s h0 h2 h3 (by omega) (Or.inl h1)
  refine Int32.toInt_inj.mp ?_
  rw [show (5 * r + s).toNat = (ixW r s).toNat from rfl, ← q, z]
  decide +kernel
/-- the led tables are alike, and so are the steps -/
theorem led_eq {T w T' w' f g f' to_ by_ ti : Nat → Int32} {lim lim' wt Sp S R S' R' o u r d st r' : Int} (pe : plE T w lim T' w' lim' wt Sp R) (x : XOK T f g S' o u r d) (m : MOK T' f' to_ by_ ti R' S st r') (eS : S' = S) (eR : R' = R) (hR : 0 ≤ R) (ed : d = st) (h0 : 0 ≤ r') : (∀ r9 s9 : Int, 0 ≤ r9 → r9 < 6 → 0 ≤ s9 → s9 ≤ 4 → f (6 * s9 + r9).toNat = f' (5 * r9 + s9).toNat) ∧ zR (nm f') R ∧ ∀ q : Nat, (q : Int) < u → (g (sl o (q : Int))).toInt = (to_ (st - u + (q : Int)).toNat).toInt ∧ (g (sl o (q : Int) + 1)).toInt = (by_ (st - u + (q : Int)).toNat).toInt ∧ g (sl o (q : Int) + 2) = ti (st - u + (q : Int)).toNat := by
  subst eS
  subst eR
  subst ed
  obtain ⟨hb, t1, t2, t3, mk, rg⟩ := x
  obtain ⟨m6, zf⟩ := MOK_6 (pl_zR pe) hR m (by omega) h0
  have e : nm T' = nm (trT T) := nm_of (pl_tr pe)
  obtain ⟨q1, q2⟩ := M_uniq mk m6 e.symm (by omega) (by omega) h0
  refine ⟨fun r9 s9 a1 a2 a3 a4 => ?_, zf, fun q hq => ?_⟩
  · have c := congrArg (fun h : Nat → Int32 => h (5 * r9 + s9).toNat) q1
    have c : nm (trT f) (5 * r9 + s9).toNat = nm f' (5 * r9 + s9).toNat := c
    rw [nm_lt (by omega), nm_lt (by omega), tr_at (by omega) (by omega)] at c
    exact c
  · obtain ⟨a1, a2, a3⟩ := rg q (by omega)
    obtain ⟨b1, b2, b3⟩ := q2 (d - u + (q : Int)).toNat (by omega)
    rw [a1, a2, a3]
    exact ⟨b1, b2, b3⟩
theorem X_noq {T w T' w' f g f' to_ by_ ti : Nat → Int32} {lim lim' wt Sp S R S' R' o u r d st r' : Int} (pe : plE T w lim T' w' lim' wt Sp R) (x : XOK T f g S' o u r d) (m : MOK T' f' to_ by_ ti R' S st r') (eS : S' = S) (eR : R' = R) (hR : 0 ≤ R ∧ R ≤ 6) (h0 : 0 ≤ st ∧ 0 ≤ r') (hS : S ≤ 5) : (d < st → ¬ noq (trT f) 6 S' S' 0) ∧ (st < d → ¬ noq f' R' S S 0) := by
  subst eS
  subst eR
  obtain ⟨hb, t1, t2, t3, mk, rg⟩ := x
  obtain ⟨m6, zf⟩ := MOK_6 (pl_zR pe) hR.1 m h0.1 h0.2
  have e : ∀ k : Nat, k < 30 → trT T k = T' k := fun k hk => (pl_tr pe k hk).symm
  have m7 := M_T m6 e
  refine ⟨fun hd hq => M_far mk (M_CH m7 rfl) (by omega) (by omega) (by omega) hq hS (by omega), fun hd hq => ?_⟩
  have n6 : noq (nm f') 6 S' S' 0 := noq_6 zf hR hS (noq_nm hq hS hR.2)
  have m8 : MOK (trT T) (nm f') to_ by_ ti 6 S' st r' := by
    obtain ⟨G, g1, g2, g3⟩ := m7
    refine ⟨G, g1, ?_, g3⟩
    rw [← g2]
    exact nm_of (fun k hk => nm_lt hk)
  exact M_far m8 (M_CH mk rfl) h0.1 h0.2 (by omega) n6 hS (by omega)
/-- lead: how many steps were made -/
def ldQ (res n u r d u' r' d' : Int) (f : Nat → Int32) (N S : Int) : Prop := (res = -1 ∧ ¬ (1 ≤ n ∧ n ≤ 100) ∧ u' = u ∧ r' = r ∧ d' = d) ∨ ((1 ≤ n ∧ n ≤ 100) ∧ 0 ≤ res ∧ res ≤ n ∧ d' = d + res ∧ urQ u r u' r' res ∧ (res = n ∨ 200 ≤ d' ∨ noq f N S S 0))
theorem ld_no {res n u r d : Int} {f : Nat → Int32} {N S : Int} (h : res = -1) (hn : ¬ (1 ≤ n ∧ n ≤ 100)) : ldQ res n u r d u r d f N S := Or.inl ⟨h, hn, rfl, rfl, rfl⟩
theorem ld_yes {res n u r d u' r' d' : Int} {f : Nat → Int32} {N S : Int} (hn : 1 ≤ n ∧ n ≤ 100) (h0 : 0 ≤ res ∧ res ≤ n) (hd : d' = d + res) (hu : urQ u r u' r' res) (h : res = n ∨ 200 ≤ d' ∨ noq f N S S 0) : ldQ res n u r d u' r' d' f N S := Or.inr ⟨hn, h0.1, h0.2, hd, hu, h⟩
theorem ld_eq {T w T' w' f g f' to_ by_ ti : Nat → Int32} {lim lim' wt Sp S R S' R' o res n u0 r0 d0 u r d res' n' u0' r0' d0' u' st r' : Int} (pe : plE T w lim T' w' lim' wt Sp R) (x : XOK T f g S' o u r d) (m : MOK T' f' to_ by_ ti R' S st r') (eS : S' = S) (eR : R' = R) (hR : 0 ≤ R ∧ R ≤ 6) (h0 : 0 ≤ r' ∧ 0 ≤ st ∧ st + r' ≤ 200) (hS : S ≤ 5) (a : ldQ res n u0 r0 d0 u r d (trT f) 6 S') (b : ldQ res' n' u0' r0' d0' u' r' st f' R' S) (en : n = n') (eu : u0 = u0') (er : r0 = r0') (ed : d0 = d0') : res = res' ∧ u = u' ∧ r = r' ∧ d = st := by
  subst en
  subst eu
  subst er
  subst ed
  obtain ⟨k1, k2⟩ := X_noq pe x m eS eR hR ⟨h0.2.1, h0.1⟩ hS
  have hb := x.1
  rcases a with ⟨a1, a2, a3, a4, a5⟩ | ⟨a1, a2, a3, a4, a5, a6⟩
  · rcases b with ⟨b1, b2, b3, b4, b5⟩ | ⟨b1, _⟩
    · omega
    · exact absurd b1 a2
  · rcases b with ⟨_, b2, _⟩ | ⟨b1, b2, b3, b4, b5, b6⟩
    · exact absurd a1 b2
    · have e : res = res' := by
        by_cases c : res < res'
        · rcases a6 with q | q | q
          · omega
          · omega
          · exact absurd q (k1 (by omega))
        · by_cases c2 : res' < res
          · rcases b6 with q | q | q
            · omega
            · omega
            · exact absurd q (k2 (by omega))
          · omega
      subst e
      unfold urQ at a5 b5
      omega
/-! images, and what else the calls of the led table tell -/
theorem ur_M {u0 r0 u r n u' r' n' : Int} (h : urQ u0 r0 u r n) (hn : 0 ≤ n) (hu : 0 ≤ u0 ∧ u0 ≤ 40) (c : (u < 40 ∧ u' = u + 1) ∨ (40 ≤ u ∧ u' = u)) (er : r' = 0) (en : n' = n + 1) : urQ u0 r0 u' r' n' := by
  unfold urQ at h ⊢
  omega
theorem isQ_noq {f f' to_ by_ ti to' by' ti' : Nat → Int32} {n s st st' r : Int} (q : isQ f f' to_ by_ ti to' by' ti' n s st st' r) (h : r = 0) : 200 ≤ st' ∨ noq f' n s s 0 := by
  rcases q with ⟨q, _⟩ | ⟨_, e1, _, _, _, e5, q⟩
  · omega
  · rw [e1, e5]
    rcases q with q | q
    · exact Or.inl (by omega)
    · exact Or.inr q
theorem un_eq {res u r d u' r' d' res2 v s e v' s' e' : Int} (a : unQ res u r d u' r' d') (b : unQ res2 v s e v' s' e') (e1 : u = v) (e2 : r = s) (e3 : d = e) : res = res2 ∧ u' = v' ∧ r' = s' ∧ d' = e' := by
  unfold unQ at a b
  omega
theorem re_eq {res u r d u' r' d' res2 v s e v' s' e' : Int} (a : reQ res u r d u' r' d') (b : reQ res2 v s e v' s' e') (e1 : u = v) (e2 : r = s) (e3 : d = e) : res = res2 ∧ u' = v' ∧ r' = s' ∧ d' = e' := by
  unfold reQ at a b
  omega
theorem hz_eq {res u r d u' r' d' res2 v s e v' s' e' : Int} (a : hzQ res u r d u' r' d') (b : hzQ res2 v s e v' s' e') (h : res = res2) (e1 : u = v) (e2 : r = s) (e3 : d = e) : u' = v' ∧ r' = s' ∧ d' = e' := by
  unfold hzQ at a b
  omega
def ckF (t : Int → Int) : Nat → Int
  | 0 => 51
  | n + 1 => (7 * ckF t n + t (n : Int)) % 253
theorem ck_step {t : Int → Int} {c c' v k k' : Int} (h : c = ckF t k.toNat) (e : v = t k) (hc : c' = (7 * c + v) % 253) (h0 : 0 ≤ k) (ek : k' = k + 1) : c' = ckF t k'.toNat := by
  rw [show k'.toNat = k.toNat + 1 by omega]
  show c' = (7 * ckF t k.toNat + t ((k.toNat : Nat) : Int)) % 253
  rw [show ((k.toNat : Nat) : Int) = k by omega, ← h, ← e, hc]
def ckR (f : Nat → Int32) : Nat → Int
  | 0 => 51
  | n + 1 => (7 * ckR f n + (f n).toInt) % 253
theorem ckR_step {f : Nat → Int32} {c c' v k k' : Int} (h : c = ckR f k.toNat) (e : v = (f k.toNat).toInt) (hc : c' = (7 * c + v) % 253) (h0 : 0 ≤ k) (ek : k' = k + 1) : c' = ckR f k'.toNat := by
  rw [show k'.toNat = k.toNat + 1 by omega]
  show c' = (7 * ckR f k.toNat + (f k.toNat).toInt) % 253
  rw [← h, ← e, hc]
theorem ckR_tau {f : Nat → Int32} {n : Int} : ∀ k : Nat, (k : Int) ≤ n → ckR f k = ckF (tau f n) k
  | 0, _ => rfl
  | k + 1, h => by
    show (7 * ckR f k + (f k).toInt) % 253 = (7 * ckF (tau f n) k + tau f n (k : Int)) % 253
    rw [ckR_tau (n := n) k (by omega), tau_in (by omega) (by omega), show ((k : Int)).toNat = k by omega]
def imgQ (t : Int → Int) (n R : Int) : Prop := n = 2 * R + 2 ∧ t (n - 1) = ckF t (n - 1).toNat
theorem img_yes {t : Int → Int} {n R k v c : Int} (hn : n = 2 * R + 2) (hk : k = n - 1) (e : v = t k) (hc : c = ckF t k.toNat) (hv : v = c) : imgQ t n R := by
  subst hk
  exact ⟨hn, by rw [← e, ← hc, hv]⟩
theorem img_no {t : Int → Int} {n R k v c : Int} (hk : k = n - 1) (e : v = t k) (hc : c = ckF t k.toNat) (hv : ¬ v = c) : ¬ imgQ t n R := by
  subst hk
  intro h
  exact hv (by rw [e, hc]; exact h.2)
theorem img_noN {t : Int → Int} {n R : Int} (h : ¬ n = 2 * R + 2) : ¬ imgQ t n R := fun q => h q.1
theorem ckF_nn {t : Int → Int} : ∀ k : Nat, 0 ≤ ckF t k
  | 0 => by show (0 : Int) ≤ 51; omega
  | k + 1 => by show 0 ≤ (7 * ckF t k + t (k : Int)) % 253; omega
theorem img_n {f : Nat → Int32} {n R : Int} (h : imgQ (taub f n) n R) : 2 ≤ n := by
  have h1 := ckF_nn (t := taub f n) (n - 1).toNat
  have h2 := h.1
  have h3 := h.2
  rcases Int.lt_or_le n 1 with q | q
  · have e := taub_out (f := f) (n := n) (i := n - 1) (by omega)
    omega
  · omega
theorem img_yesM {f : Nat → Int32} {n R k k2 v c : Int} (hn : n = 2 * R + 2) (hk : k = n - 1) (hk2 : k2 = n - 1) (h0 : 0 ≤ k) (e : v = (f k.toNat).toInt) (hc : c = ckR f k2.toNat) (hv : v = c) : imgQ (tau f n) n R := by
  subst hk
  subst hk2
  refine ⟨hn, ?_⟩
  rw [tau_in h0 (by omega), ← e, ← ckR_tau _ (by omega), ← hc, hv]
theorem img_noM {f : Nat → Int32} {n R k k2 v c : Int} (hk : k = n - 1) (hk2 : k2 = n - 1) (h0 : 0 ≤ k) (e : v = (f k.toNat).toInt) (hc : c = ckR f k2.toNat) (hv : ¬ v = c) : ¬ imgQ (tau f n) n R := by
  subst hk
  subst hk2
  intro h
  have q := h.2
  rw [tau_in h0 (by omega), ← e, ← ckR_tau _ (by omega), ← hc] at q
  exact hv q
def chP (T : Nat → Int32) (n S m : Int) : Prop := m ≤ 200 ∧ CH T n S m
def onQ9 (res : Int) (t : Int → Int) (n R : Int) (C : Int → Prop) (u r d u' r' d' : Int) : Prop := (res = 1 ∧ (imgQ t n R ∧ C (t (n - 2))) ∧ r' = 0 ∧ d' = t (n - 2) ∧ ((d' ≤ 40 ∧ u' = d') ∨ (40 < d' ∧ u' = 40))) ∨ (res = 0 ∧ ¬ (imgQ t n R ∧ C (t (n - 2))) ∧ u' = u ∧ r' = r ∧ d' = d)
theorem on_eq {res n R u r d u1 r1 d1 res' n' R' u' r' d' u1' r1' d1' : Int} {t t' : Int → Int} {C C' : Int → Prop} (a : onQ9 res t n R C u r d u1 r1 d1) (b : onQ9 res' t' n' R' C' u' r' d' u1' r1' d1') (et : t = t') (en : n = n') (eR : R = R') (hC : ∀ m, C m ↔ C' m) (eu : u = u') (er : r = r') (ed : d = d') : res = res' ∧ u1 = u1' ∧ r1 = r1' ∧ d1 = d1' := by
  subst et
  subst en
  subst eR
  subst eu
  subst er
  subst ed
  rcases a with ⟨a1, a2, a3, a4, a5⟩ | ⟨a1, a2, a3, a4, a5⟩
  · rcases b with ⟨b1, b2, b3, b4, b5⟩ | ⟨b1, b2, b3, b4, b5⟩
    · omega
    · exact absurd ⟨a2.1, (hC _).mp a2.2⟩ b2
  · rcases b with ⟨b1, b2, b3, b4, b5⟩ | ⟨b1, b2, b3, b4, b5⟩
    · exact absurd ⟨b2.1, (hC _).mpr b2.2⟩ a2
    · omega
theorem on_img {res n R u r d : Int} {t : Int → Int} {C : Int → Prop} (hr : res = 0) (h : ¬ imgQ t n R) : onQ9 res t n R C u r d u r d := Or.inr ⟨hr, fun q => h q.1, rfl, rfl, rfl⟩
theorem on_yesX {T f g : Nat → Int32} {res n R S o k v w a b c0 u0 r0 d0 u r d : Int} {t : Int → Int} (hr : res = 1) (im : imgQ t n R) (ev : v = t k) (ek : k = n - 2) (x : XOK T f g S o u r d) (hu : urQ a b u r w) (h0 : a = 0 ∧ b = 0 ∧ c0 = 0) (hw : w = v) (hd : d = c0 + w) : onQ9 res t n R (chP (trT T) 6 S) u0 r0 d0 u r d := by
  subst ek
  obtain ⟨hb, t1, t2, t3, mk, _⟩ := x
  have e : t (n - 2) = d := by omega
  unfold urQ at hu
  have rz : r = 0 := by omega
  refine Or.inl ⟨hr, ⟨im, ?_⟩, rz, e.symm, by omega⟩
  rw [e]
  exact ⟨by omega, M_CH mk (by omega)⟩
theorem on_noX {T f g : Nat → Int32} {res n R S o k v w c0 u0 r0 d0 u r d : Int} {t : Int → Int} (hr : res = 0) (ev : v = t k) (ek : k = n - 2) (x : XOK T f g S o u r d) (en : w = v ∨ 200 ≤ d ∨ noq (trT f) 6 S S 0) (hw : ¬ w = v) (hv : w ≤ v) (hd : d = c0 + w) (h0 : c0 = 0) (hS : S ≤ 5) : onQ9 res t n R (chP (trT T) 6 S) u0 r0 d0 u0 r0 d0 := by
  subst ek
  obtain ⟨hb, t1, t2, t3, mk, _⟩ := x
  refine Or.inr ⟨hr, fun q => ?_, rfl, rfl, rfl⟩
  obtain ⟨_, h2, hc⟩ := q
  rw [← ev] at h2 hc
  rcases en with z | z | z
  · exact hw z
  · omega
  · exact M_far mk hc (by omega) (by omega) (by omega) z hS (by omega)
theorem on_yesM {T f to_ by_ ti tp : Nat → Int32} {res n R S k v u0 r0 d0 u r d r9 : Int} (hr : res = 1) (im : imgQ (tau tp n) n R) (ev : v = (tp k.toNat).toInt) (ek : k = n - 2) (h0 : 0 ≤ k) (mk : MOK T f to_ by_ ti R S d r9) (h9 : r9 = 0) (hd : d = v) (h200 : d ≤ 200) (hu : r = 0 ∧ ((d ≤ 40 ∧ u = d) ∨ (40 < d ∧ u = 40))) : onQ9 res (tau tp n) n R (chP T R S) u0 r0 d0 u r d := by
  subst ek
  have e : tau tp n (n - 2) = d := by rw [tau_in h0 (by omega)]; omega
  refine Or.inl ⟨hr, ⟨im, ?_⟩, hu.1, e.symm, hu.2⟩
  rw [e]
  exact ⟨h200, M_CH mk (by omega)⟩
theorem on_noM {T tp : Nat → Int32} {res n R S k v u r d u0 r0 d0 st : Int} (hr : res = 0) (ev : v = (tp k.toNat).toInt) (ek : k = n - 2) (h0 : 0 ≤ k) (far : ∀ m9 : Int, CH T R S m9 → m9 ≤ v → m9 ≤ 200 → m9 ≤ st) (hs : st < v) (hu : u = u0 ∧ r = r0 ∧ d = d0) : onQ9 res (tau tp n) n R (chP T R S) u0 r0 d0 u r d := by
  subst ek
  have e : tau tp n (n - 2) = v := by rw [tau_in h0 (by omega)]; omega
  refine Or.inr ⟨hr, fun q => ?_, hu.1, hu.2.1, hu.2.2⟩
  obtain ⟨_, h2, hc⟩ := q
  rw [e] at h2 hc
  have z := far v hc (Int.le_refl v) h2
  omega
/-! the chain of steps, by six rows and by the receivers' alone -/
theorem noq_R {G : Nat → Int32} {R S i j : Int} (z : zR G R) (hR : 0 ≤ R ∧ R ≤ 6) (hS : S ≤ 5) (h : noq G 6 S i j) : noq G R S i j := fun a b h0 h1 h2 h3 h4 q => h a b h0 h1 h2 h3 h4 ((ql_6 z hR (by omega) (by omega)).mpr q)
theorem go_R {G G' : Nat → Int32} {R a b : Int} {t : Int32} (z : zR G R) (hR : 0 ≤ R ∧ R ≤ 6) (ha : 0 ≤ a ∧ a ≤ 4) (hb : 0 ≤ b ∧ b ≤ 4) (h : goQ G G' a b t 6) : goQ G G' a b t R := by
  refine ⟨fun k hk => h.1 k (by omega), fun x hx => ?_⟩
  by_cases c : ∃ k : Nat, (k : Int) < 6 ∧ x = (5 * (k : Int) + a).toNat
  · obtain ⟨k, hk, e⟩ := c
    have hk2 : R ≤ (k : Int) := by
      rcases Int.lt_or_le (k : Int) R with q | q
      · exact absurd e (hx k q)
      · exact q
    have z1 := z (k : Int) a (by omega) hk2 hk ha.1 ha.2
    have z2 := z (k : Int) b (by omega) hk2 hk hb.1 hb.2
    rw [e, h.1 k hk, z1, z2, Int32.mul_zero, Int32.sub_zero]
  · exact h.2 x (fun k hk e => c ⟨k, hk, e⟩)
theorem zR_go {G G' : Nat → Int32} {R a b : Int} {t : Int32} (z : zR G R) (hR : 0 ≤ R ∧ R ≤ 6) (ha : 0 ≤ a ∧ a ≤ 4) (hb : 0 ≤ b ∧ b ≤ 4) (h : goQ G G' a b t 6) : zR G' R := (go_6 z hR ha hb (go_R z hR ha hb h)).2
theorem CH_6 {T : Nat → Int32} {R S m : Int} (z : zR T R) (hR : 0 ≤ R) (h : CH T R S m) : CH T 6 S m := by
  obtain ⟨G, g1, g3⟩ := h
  have zk : ∀ k : Nat, (k : Int) ≤ m → zR (G k) R := by
    intro k
    induction k with
    | zero => intro _; rw [← g1]; exact zR_nm z
    | succ k ih =>
      intro hk
      obtain ⟨i, j, t, q⟩ := g3 k (by omega)
      exact (stp_6 (ih (by omega)) hR q).2
  refine ⟨G, g1, fun k hk => ?_⟩
  obtain ⟨i, j, t, q⟩ := g3 k hk
  exact ⟨i, j, t, (stp_6 (zk k (by omega)) hR q).1⟩
theorem CH_R {T : Nat → Int32} {R S m : Int} (z : zR T R) (hR : 0 ≤ R ∧ R ≤ 6) (h : CH T 6 S m) : CH T R S m := by
  obtain ⟨G, g1, g3⟩ := h
  have zk : ∀ k : Nat, (k : Int) ≤ m → zR (G k) R := by
    intro k
    induction k with
    | zero => intro _; rw [← g1]; exact zR_nm z
    | succ k ih =>
      intro hk
      obtain ⟨i, j, t, q⟩ := g3 k (by omega)
      obtain ⟨h1, _, _, _, h5⟩ := q
      exact zR_go (ih (by omega)) hR (by omega) (by omega) h5
  refine ⟨G, g1, fun k hk => ?_⟩
  obtain ⟨i, j, t, h1, h2, h3, h4, h5⟩ := g3 k hk
  have zz := zk k (by omega)
  refine ⟨i, j, t, by omega, (ql_6 zz hR (by omega) (by omega)).mp h2, noq_R zz hR (by omega) h3, ?_, go_R zz hR (by omega) (by omega) h5⟩
  rw [← prn_6 zz hR (by omega) (by omega), ← prn_6 zz hR (by omega) (by omega)]
  exact h4
theorem chP_eq {T w T' w' : Nat → Int32} {lim lim' wt Sp S R S' R' : Int} (pe : plE T w lim T' w' lim' wt Sp R) (eS : S' = S) (eR : R' = R) (hR : 0 ≤ R ∧ R ≤ 6) : ∀ m, chP (trT T) 6 S' m ↔ chP T' R' S m := by
  subst eS
  subst eR
  have e : ∀ k : Nat, k < 30 → trT T k = T' k := fun k hk => (pl_tr pe k hk).symm
  exact fun m => ⟨fun h => ⟨h.1, CH_R (pl_zR pe) hR (CH_T h.2 (fun k hk => (e k hk).symm))⟩, fun h => ⟨h.1, CH_T (CH_6 (pl_zR pe) hR.1 h.2) e⟩⟩
/-! answers: a number of two tables, by whether it is led -/
def cvQ (r : Int) (p : Prop) (l x y z : Int) : Prop := (p → (¬ l = 0 → r = x) ∧ (l = 0 → r = y)) ∧ (¬ p → r = z)
theorem cv_1 {r l x y z : Int} {p : Prop} (hp : p) (hl : ¬ l = 0) (e : r = x) : cvQ r p l x y z := ⟨fun _ => ⟨fun _ => e, fun h => absurd h hl⟩, fun h => absurd hp h⟩
theorem cv_0 {r l x y z : Int} {p : Prop} (hp : p) (hl : l = 0) (e : r = y) : cvQ r p l x y z := ⟨fun _ => ⟨fun h => absurd hl h, fun _ => e⟩, fun h => absurd hp h⟩
theorem cv_n {r l x y z : Int} {p : Prop} (hp : ¬ p) (e : r = z) : cvQ r p l x y z := ⟨fun h => absurd h hp, fun _ => e⟩
theorem cv_eq {r l x y z r' l' x' y' z' : Int} {p p' : Prop} (a : cvQ r p l x y z) (b : cvQ r' p' l' x' y' z') (hp : p ↔ p') (hl : l = 0 ↔ l' = 0) (hx : p → x = x') (hy : p → y = y') (hz : z = z') : r = r' := by
  by_cases c : p
  · by_cases d : l = 0
    · rw [(a.1 c).2 d, (b.1 (hp.mp c)).2 (hl.mp d)]
      exact hy c
    · rw [(a.1 c).1 d, (b.1 (hp.mp c)).1 (fun q => d (hl.mpr q))]
      exact hx c
  · rw [a.2 c, b.2 (fun q => c (hp.mpr q))]
    exact hz
def rcP (a b A B : Int) : Prop := 0 ≤ a ∧ a < A ∧ 0 ≤ b ∧ b < B
theorem rc_no1 {r a b A B : Int} (i : inQ r a A) (h : r = 0) : ¬ rcP a b A B := by
  unfold inQ at i
  unfold rcP
  omega
theorem rc_no2 {r a b A B : Int} (i : inQ r b B) (h : r = 0) : ¬ rcP a b A B := by
  unfold inQ at i
  unfold rcP
  omega
def stP9 (r k w u a b c : Int) : Prop := ((0 ≤ k ∧ k < u ∧ 0 ≤ w ∧ w ≤ 2) → (w = 0 → r = a) ∧ (w = 1 → r = b) ∧ (w = 2 → r = c)) ∧ (¬ (0 ≤ k ∧ k < u ∧ 0 ≤ w ∧ w ≤ 2) → r = -1000000000)
theorem st9_no {r k w u a b c : Int} (h : ¬ (0 ≤ k ∧ k < u ∧ 0 ≤ w ∧ w ≤ 2)) (e : r = -1000000000) : stP9 r k w u a b c := ⟨fun q => absurd q h, fun _ => e⟩
theorem st9_yes {r k w u a b c : Int} (h : 0 ≤ k ∧ k < u ∧ 0 ≤ w ∧ w ≤ 2) (e : (w = 0 → r = a) ∧ (w = 1 → r = b) ∧ (w = 2 → r = c)) : stP9 r k w u a b c := ⟨fun _ => e, fun q => absurd h q⟩
theorem sl_at {g : Nat → Int32} {o k q : Int} {w : Int} (hq : q = ((o + k) % 40) * 3) (h0 : 0 ≤ q) (hw : 0 ≤ w) {z : Int32} {i : Int} (e : z = g i.toNat) (hi : i = q + w) : z = g (sl o k + w.toNat) := by
  have e1 : i.toNat = sl o k + w.toNat := by
    unfold sl
    rw [← hq]
    omega
  rw [e, e1]
def haQ (r w a0 a1 a2 a3 a4 a5 a6 a7 a8 a9 : Int) : Prop := (w = 0 → r = a0) ∧ (w = 1 → r = a1) ∧ (w = 2 → r = a2) ∧ (w = 3 → r = a3) ∧ (w = 4 → r = a4) ∧ (w = 5 → r = a5) ∧ (w = 6 → r = a6) ∧ (w = 7 → r = a7) ∧ (w = 8 → r = a8) ∧ (w = 9 → r = a9) ∧ (w < 0 ∨ 9 < w → r = -1)
/-! answers out of tables and steps: the same on both sides -/
theorem tb_eq {T w T' w' f g f' to_ by_ ti : Nat → Int32} {lim lim' wt S R S' S2 R2 o u r d st r' y1 y2 l l' res res' z : Int} (pe : plE T w lim T' w' lim' wt S R) (x : XOK T f g S' o u r d) (m : MOK T' f' to_ by_ ti R2 S2 st r') (a : cvQ res (rcP y1 y2 R S) l ((f (6 * y2 + y1).toNat).toInt) ((T (6 * y2 + y1).toNat).toInt) z) (b : cvQ res' (rcP y1 y2 R2 S2) l' ((f' (5 * y1 + y2).toNat).toInt) ((T' (5 * y1 + y2).toNat).toInt) z) (e1 : S' = S2) (e2 : S2 = S) (e3 : R2 = R) (hR : 0 ≤ R ∧ R ≤ 6) (hS : S ≤ 5) (ed : d = st) (h0 : 0 ≤ r') (hl : l = 0 ↔ l' = 0) : res = res' := by
  subst e1
  subst e2
  subst e3
  have le := led_eq pe x m rfl rfl hR.1 ed h0
  refine cv_eq a b Iff.rfl hl (fun h => ?_) (fun h => ?_) rfl
  · unfold rcP at h
    exact congrArg Int32.toInt (le.1 y1 y2 (by omega) (by omega) (by omega) (by omega))
  · unfold rcP at h
    exact pe.1 y1 y2 (by omega) (by omega) (by omega) (by omega)
/-! how alike two columns are; the most alike; all squares -/
theorem i64q (x : Int32) : x.toInt64.toInt = x.toInt := by
  first
    | exact Int32.toInt_toInt64 x
    | simp
def clF (p q1 q2 : Int32) : Int32 := if q1.toInt64 * q2.toInt64 = 0 then 0 else (1000 * p.toInt64 * p.toInt64 / (q1.toInt64 * q2.toInt64)).toInt32
theorem i64_of {P : Int64} {p : Int32} (h : P.toInt = p.toInt) : P = p.toInt64 := Int64.toInt_inj.mp (h.trans (i64q p).symm)
theorem cl_yes {p q1 q2 r : Int32} {P Q1 Q2 A AP SQ Z : Int64} (eP : P.toInt = p.toInt) (e1 : Q1.toInt = q1.toInt) (e2 : Q2.toInt = q2.toInt) (eA : A.toInt = 1000 * P.toInt) (eAP : AP = A * P) (eS : SQ = Q1 * Q2) (hS : ¬ SQ.toInt = 0) (eZ : Z = AP / SQ) (er : r = Z.toInt32) : r = clF p q1 q2 := by
  have hb := n_rng p
  have hA : A = 1000 * p.toInt64 := Int64.toInt_inj.mp (by
    rw [n_mulL (show (1000 : Int64).toInt = 1000 by decide +kernel) (i64q p) (by omega) (by omega), eA, eP])
  have hP := i64_of eP
  have h1 := i64_of e1
  have h2 := i64_of e2
  have hn : ¬ q1.toInt64 * q2.toInt64 = 0 := fun h => hS (by rw [eS, h1, h2, h]; decide +kernel)
  unfold clF
  rw [if_neg hn, er, eZ, eAP, eS, hA, hP, h1, h2]
theorem cl_no {p q1 q2 r : Int32} {Q1 Q2 SQ : Int64} (e1 : Q1.toInt = q1.toInt) (e2 : Q2.toInt = q2.toInt) (eS : SQ = Q1 * Q2) (hS : SQ.toInt = 0) (er : r = 0) : r = clF p q1 q2 := by
  have hz : q1.toInt64 * q2.toInt64 = 0 := by
    rw [← i64_of e1, ← i64_of e2, ← eS]
    exact Int64.toInt_inj.mp (hS.trans (show (0 : Int) = (0 : Int64).toInt by decide +kernel))
  unfold clF
  rw [if_pos hz, er]
theorem cl_noM {p q1 q2 r : Int32} {Q1 Q2 : Int64} (e1 : Q1.toInt = q1.toInt) (e2 : Q2.toInt = q2.toInt) (h : Q1.toInt = 0 ∨ Q2.toInt = 0) (er : r = 0) : r = clF p q1 q2 := by
  have hz : q1.toInt64 * q2.toInt64 = 0 := by
    rw [← i64_of e1, ← i64_of e2]
    rcases h with h | h
    · rw [show Q1 = 0 from Int64.toInt_inj.mp (h.trans (show (0 : Int) = (0 : Int64).toInt by decide +kernel)), Int64.zero_mul]
    · rw [show Q2 = 0 from Int64.toInt_inj.mp (h.trans (show (0 : Int) = (0 : Int64).toInt by decide +kernel)), Int64.mul_zero]
  unfold clF
  rw [if_pos hz, er]
def clT (f : Nat → Int32) (i j : Int) : Int := (clF (dw f i j 6) (dw f i i 6) (dw f j j 6)).toInt
def clM (g : Nat → Int32) (R i j : Int) : Int := (clF (prn g i j R.toNat) (prn g i i R.toNat) (prn g j j R.toNat)).toInt
def wsP (c : Int → Int → Int) (S : Int) : Nat → Int × Int
  | 0 => (-1, -1)
  | k + 1 => if ((k / 5 : Nat) : Int) < ((k % 5 : Nat) : Int) ∧ ((k % 5 : Nat) : Int) < S ∧ (wsP c S k).2 < c ((k / 5 : Nat) : Int) ((k % 5 : Nat) : Int) then (100 * ((k / 5 : Nat) : Int) + ((k % 5 : Nat) : Int), c ((k / 5 : Nat) : Int) ((k % 5 : Nat) : Int)) else wsP c S k
theorem ws_skip {c : Int → Int → Int} {S : Int} {a : Nat} : ∀ d : Nat, (∀ k : Nat, a ≤ k → k < a + d → ¬ (((k / 5 : Nat) : Int) < ((k % 5 : Nat) : Int) ∧ ((k % 5 : Nat) : Int) < S)) → wsP c S (a + d) = wsP c S a
  | 0, _ => rfl
  | d + 1, h => by
    have q := h (a + d) (by omega) (by omega)
    show (if (((a + d) / 5 : Nat) : Int) < (((a + d) % 5 : Nat) : Int) ∧ (((a + d) % 5 : Nat) : Int) < S ∧ (wsP c S (a + d)).2 < c (((a + d) / 5 : Nat) : Int) (((a + d) % 5 : Nat) : Int) then (100 * (((a + d) / 5 : Nat) : Int) + (((a + d) % 5 : Nat) : Int), c (((a + d) / 5 : Nat) : Int) (((a + d) % 5 : Nat) : Int)) else wsP c S (a + d)) = wsP c S a
    rw [if_neg (fun z => q ⟨z.1, z.2.1⟩)]
    exact ws_skip d (fun k h1 h2 => h k h1 (by omega))
def wsE (b m : Int) (c : Int → Int → Int) (S k : Int) : Prop := b = (wsP c S k.toNat).1 ∧ m = (wsP c S k.toNat).2
theorem ws_0 {b m S k : Int} {c : Int → Int → Int} (hb : b = -1) (hm : m = -1) (hk : k = 0) : wsE b m c S k := by
  subst hk
  exact ⟨hb, hm⟩
theorem ws_to {b m S k k' : Int} {c : Int → Int → Int} (h : wsE b m c S k) (h0 : 0 ≤ k) (hk : k ≤ k') (n : ∀ x : Nat, k ≤ (x : Int) → (x : Int) < k' → ¬ (((x / 5 : Nat) : Int) < ((x % 5 : Nat) : Int) ∧ ((x % 5 : Nat) : Int) < S)) : wsE b m c S k' := by
  have e : k'.toNat = k.toNat + (k' - k).toNat := by omega
  unfold wsE
  rw [e, ws_skip _ (fun x h1 h2 => n x (by omega) (by omega))]
  exact h
theorem ws_in {b m S i j k k' : Int} {c : Int → Int → Int} (h : wsE b m c S k) (h0 : 0 ≤ i) (h5 : i < 5) (ek : k = 5 * i) (ek' : k' = 5 * i + j) (ej : j = i + 1) : wsE b m c S k' := ws_to h (by omega) (by omega) (fun x h1 h2 => by omega)
theorem ws_out {b m S i j k k' : Int} {c : Int → Int → Int} (h : wsE b m c S k) (h0 : 0 ≤ i) (hj : S ≤ j) (hj0 : 0 ≤ j) (hj5 : j ≤ 5) (ek : k = 5 * i + j) (ek' : k' = 5 * (i + 1)) : wsE b m c S k' := ws_to h (by omega) (by omega) (fun x h1 h2 => by omega)
theorem ws_yes {b m S i j k k' v b' : Int} {c : Int → Int → Int} (h : wsE b m c S k) (h0 : 0 ≤ i) (hij : i < j) (hj : j < S) (hS : S ≤ 5) (ev : v = c i j) (hm : m < v) (eb : b' = 100 * i + j) (ek : k = 5 * i + j) (ek' : k' = k + 1) : wsE b' v c S k' := by
  obtain ⟨h1, h2⟩ := h
  have e : k'.toNat = k.toNat + 1 := by omega
  have e1 : ((k.toNat / 5 : Nat) : Int) = i := by omega
  have e2 : ((k.toNat % 5 : Nat) : Int) = j := by omega
  have q : wsP c S (k.toNat + 1) = (100 * i + j, c i j) := by
    show (if ((k.toNat / 5 : Nat) : Int) < ((k.toNat % 5 : Nat) : Int) ∧ ((k.toNat % 5 : Nat) : Int) < S ∧ (wsP c S k.toNat).2 < c ((k.toNat / 5 : Nat) : Int) ((k.toNat % 5 : Nat) : Int) then (100 * ((k.toNat / 5 : Nat) : Int) + ((k.toNat % 5 : Nat) : Int), c ((k.toNat / 5 : Nat) : Int) ((k.toNat % 5 : Nat) : Int)) else wsP c S k.toNat) = _
    rw [e1, e2, if_pos ⟨hij, hj, by rw [← h2, ← ev]; exact hm⟩]
  unfold wsE
  rw [e, q]
  exact ⟨eb, ev⟩
theorem ws_no {b m S i j k k' v : Int} {c : Int → Int → Int} (h : wsE b m c S k) (h0 : 0 ≤ i) (hij : i < j) (hj : j < S) (hS : S ≤ 5) (ev : v = c i j) (hm : v ≤ m) (ek : k = 5 * i + j) (ek' : k' = k + 1) : wsE b m c S k' := by
  obtain ⟨h1, h2⟩ := h
  have e : k'.toNat = k.toNat + 1 := by omega
  have e1 : ((k.toNat / 5 : Nat) : Int) = i := by omega
  have e2 : ((k.toNat % 5 : Nat) : Int) = j := by omega
  have q : wsP c S (k.toNat + 1) = wsP c S k.toNat := by
    show (if ((k.toNat / 5 : Nat) : Int) < ((k.toNat % 5 : Nat) : Int) ∧ ((k.toNat % 5 : Nat) : Int) < S ∧ (wsP c S k.toNat).2 < c ((k.toNat / 5 : Nat) : Int) ((k.toNat % 5 : Nat) : Int) then (100 * ((k.toNat / 5 : Nat) : Int) + ((k.toNat % 5 : Nat) : Int), c ((k.toNat / 5 : Nat) : Int) ((k.toNat % 5 : Nat) : Int)) else wsP c S k.toNat) = _
    rw [e1, e2, if_neg (fun z => by have z3 := z.2.2; rw [← h2, ← ev] at z3; omega)]
  unfold wsE
  rw [e, q]
  exact ⟨h1, h2⟩
def wsW (c : Int → Int → Int) (S : Int) : Int := (wsP c S (5 * S).toNat).1
theorem ws_end {b m S i k : Int} {c : Int → Int → Int} (h : wsE b m c S k) (h0 : 0 ≤ i) (hi : S ≤ i) (hk : i ≤ S ∨ i = 0) (ek : k = 5 * i) : b = wsW c S := by
  have e : k.toNat = (5 * S).toNat := by omega
  unfold wsW
  rw [← e]
  exact h.1
def sqT (f : Nat → Int32) : Nat → Int
  | 0 => 0
  | n + 1 => sqT f n + (dw f (n : Int) (n : Int) 6).toInt
theorem sqT_step {f : Nat → Int32} {s s' v k k' : Int} (h : s = sqT f k.toNat) (ev : v = (dw f k k 6).toInt) (h0 : 0 ≤ k) (es : s' = s + v) (ek : k' = k + 1) : s' = sqT f k'.toNat := by
  rw [show k'.toNat = k.toNat + 1 by omega]
  show s' = sqT f k.toNat + (dw f ((k.toNat : Nat) : Int) ((k.toNat : Nat) : Int) 6).toInt
  rw [show ((k.toNat : Nat) : Int) = k by omega, ← h, ← ev, es]
def sqM (g : Nat → Int32) (R : Int) : Nat → Int
  | 0 => 0
  | n + 1 => sqM g R n + (prn g (n : Int) (n : Int) R.toNat).toInt
theorem sqM_step {g : Nat → Int32} {R s s' v k k' : Int} (h : s = sqM g R k.toNat) (ev : v = (prn g k k R.toNat).toInt) (h0 : 0 ≤ k) (es : s' = s + v) (ek : k' = k + 1) : s' = sqM g R k'.toNat := by
  rw [show k'.toNat = k.toNat + 1 by omega]
  show s' = sqM g R k.toNat + (prn g ((k.toNat : Nat) : Int) ((k.toNat : Nat) : Int) R.toNat).toInt
  rw [show ((k.toNat : Nat) : Int) = k by omega, ← h, ← ev, es]
/-! columns of nothing beyond the senders -/
def clP (a b S : Int) : Prop := (0 ≤ a ∧ a < S) ∧ (0 ≤ b ∧ b < S) ∧ ¬ a = b
