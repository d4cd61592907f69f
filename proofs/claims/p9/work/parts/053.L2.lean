/-! rows of nothing beyond the receivers: as many rows as one likes -/
def zR (G : Nat → Int32) (R : Int) : Prop := ∀ r s : Int, 0 ≤ r → R ≤ r → r < 6 → 0 ≤ s → s ≤ 4 → G (5 * r + s).toNat = 0
theorem prn_z {G : Nat → Int32} {R a b : Int} (z : zR G R) (hR : 0 ≤ R) (ha : 0 ≤ a ∧ a ≤ 4) (hb : 0 ≤ b ∧ b ≤ 4) : ∀ n : Nat, n ≤ 6 → prn G a b n = prn G a b (if (n : Int) ≤ R then n else R.toNat)
  | 0, _ => by rw [if_pos (by omega)]
  | n + 1, hn => by
    have ih := prn_z z hR ha hb n (by omega)
    by_cases c : ((n + 1 : Nat) : Int) ≤ R
    · rw [if_pos c]
    · rw [if_neg c]
      show prn G a b n + G (5 * (n : Int) + a).toNat * G (5 * (n : Int) + b).toNat = _
      rw [z (n : Int) a (by omega) (by omega) (by omega) ha.1 ha.2, Int32.zero_mul, Int32.add_zero, ih]
      by_cases d : (n : Int) ≤ R
      · rw [if_pos d, show R.toNat = n by omega]
      · rw [if_neg d]
theorem prn_6 {G : Nat → Int32} {R a b : Int} (z : zR G R) (hR : 0 ≤ R ∧ R ≤ 6) (ha : 0 ≤ a ∧ a ≤ 4) (hb : 0 ≤ b ∧ b ≤ 4) : prn G a b (6 : Int).toNat = prn G a b R.toNat := by
  have h := prn_z z hR.1 ha hb 6 (Nat.le_refl 6)
  show prn G a b 6 = prn G a b R.toNat
  rw [h]
  by_cases c : ((6 : Nat) : Int) ≤ R
  · rw [if_pos c, show R.toNat = 6 by omega]
  · rw [if_neg c]
theorem ql_6 {G : Nat → Int32} {R i j : Int} (z : zR G R) (hR : 0 ≤ R ∧ R ≤ 6) (hi : 0 ≤ i ∧ i ≤ 4) (hj : 0 ≤ j ∧ j ≤ 4) : ql G 6 i j ↔ ql G R i j := by
  unfold ql
  rw [prn_6 z hR hi hj, prn_6 z hR hj hj]
theorem noq_6 {G : Nat → Int32} {R S i j : Int} (z : zR G R) (hR : 0 ≤ R ∧ R ≤ 6) (hS : S ≤ 5) (h : noq G R S i j) : noq G 6 S i j := fun a b h0 h1 h2 h3 h4 q => h a b h0 h1 h2 h3 h4 ((ql_6 z hR (by omega) (by omega)).mp q)
theorem go_6 {G G' : Nat → Int32} {R a b : Int} {t : Int32} (z : zR G R) (hR : 0 ≤ R ∧ R ≤ 6) (ha : 0 ≤ a ∧ a ≤ 4) (hb : 0 ≤ b ∧ b ≤ 4) (h : goQ G G' a b t R) : goQ G G' a b t 6 ∧ zR G' R := by
  have far : ∀ r s : Int, 0 ≤ r → R ≤ r → r < 6 → 0 ≤ s → s ≤ 4 → G' (5 * r + s).toNat = G (5 * r + s).toNat := fun r s h0 h1 h2 h3 h4 => h.2 _ (fun k hk => by omega)
  refine ⟨⟨fun k hk => ?_, fun x hx => ?_⟩, fun r s h0 h1 h2 h3 h4 => ?_⟩
  · by_cases c : (k : Int) < R
    · exact h.1 k c
    · rw [far (k : Int) a (by omega) (by omega) hk ha.1 ha.2, z (k : Int) a (by omega) (by omega) hk ha.1 ha.2, z (k : Int) b (by omega) (by omega) hk hb.1 hb.2, Int32.mul_zero, Int32.sub_zero]
  · exact h.2 x (fun k hk => hx k (by omega))
  · rw [far r s h0 h1 h2 h3 h4]
    exact z r s h0 h1 h2 h3 h4
theorem stp_6 {G G' : Nat → Int32} {R S i j : Int} {t : Int32} (z : zR G R) (hR : 0 ≤ R) (h : stp G G' R S i j t) : stp G G' 6 S i j t ∧ zR G' R := by
  obtain ⟨h1, h2, h3, h4, h5⟩ := h
  have g := go_6 z ⟨hR, by omega⟩ (by omega) (by omega) h5
  refine ⟨⟨by omega, (ql_6 z ⟨hR, by omega⟩ (by omega) (by omega)).mpr h2, noq_6 z ⟨hR, by omega⟩ (by omega) h3, ?_, g.1⟩, g.2⟩
  rw [prn_6 z ⟨hR, by omega⟩ (by omega) (by omega), prn_6 z ⟨hR, by omega⟩ (by omega) (by omega)]
  exact h4
theorem zR_nm {G : Nat → Int32} {R : Int} (z : zR G R) : zR (nm G) R := fun r s h0 h1 h2 h3 h4 => by
  rw [nm_lt (by omega)]
  exact z r s h0 h1 h2 h3 h4
theorem MOK_6 {T f to_ by_ ti : Nat → Int32} {R S st r : Int} (z : zR T R) (hR : 0 ≤ R) (h : MOK T f to_ by_ ti R S st r) (h0 : 0 ≤ st) (h1 : 0 ≤ r) : MOK T f to_ by_ ti 6 S st r ∧ zR (nm f) R := by
  obtain ⟨G, g1, g2, g3⟩ := h
  have zk : ∀ k : Nat, (k : Int) ≤ st + r → zR (G k) R := by
    intro k
    induction k with
    | zero => intro _; rw [← g1]; exact zR_nm z
    | succ k ih => intro hk; exact (stp_6 (ih (by omega)) hR (g3 k (by omega))).2
  refine ⟨⟨G, g1, g2, fun k hk => (stp_6 (zk k (by omega)) hR (g3 k hk)).1⟩, ?_⟩
  rw [g2]
  exact zk _ (by omega)
theorem stp_det3 {f f1 f2 : Nat → Int32} {n s i1 i2 j1 j2 : Int} {t1 t2 : Int32} (h : stp f f1 n s i1 j1 t1) (g : stp f f2 n s i2 j2 t2) : i1 = i2 ∧ j1 = j2 ∧ t1 = t2 := by
  obtain ⟨h1, h2, h3, h4, h5⟩ := h
  obtain ⟨g1, g2, g3, g4, g5⟩ := g
  have e : i1 = i2 ∧ j1 = j2 := by
    by_cases q1 : i1 < i2 ∨ (i1 = i2 ∧ j1 < j2)
    · exact absurd h2 (g3 i1 j1 (by omega) (by omega) (by omega) (by omega) q1)
    · by_cases q2 : i2 < i1 ∨ (i2 = i1 ∧ j2 < j1)
      · exact absurd g2 (h3 i2 j2 (by omega) (by omega) (by omega) (by omega) q2)
      · omega
  obtain ⟨e1, e2⟩ := e
  subst e1
  subst e2
  exact ⟨rfl, rfl, h4.trans g4.symm⟩
theorem M_uniq {T T' f f' to_ by_ ti to' by' ti' : Nat → Int32} {n s st r r' : Int} (h : MOK T f to_ by_ ti n s st r) (g : MOK T' f' to' by' ti' n s st r') (e : nm T = nm T') (h0 : 0 ≤ st) (hr : 0 ≤ r) (hr' : 0 ≤ r') : nm f = nm f' ∧ ∀ k : Nat, (k : Int) < st → (to_ k).toInt = (to' k).toInt ∧ (by_ k).toInt = (by' k).toInt ∧ ti k = ti' k := by
  obtain ⟨G, a1, a2, a3⟩ := h
  obtain ⟨K, b1, b2, b3⟩ := g
  have key : ∀ k : Nat, (k : Int) ≤ st → G k = K k := by
    intro k
    induction k with
    | zero => intro _; rw [← a1, ← b1, e]
    | succ k ih =>
      intro hk
      have q := a3 k (by omega)
      rw [ih (by omega)] at q
      exact stp_det q (b3 k (by omega))
  refine ⟨?_, fun k hk => ?_⟩
  · rw [a2, b2]
    exact key _ (by omega)
  · have q := a3 k (by omega)
    rw [key k (by omega)] at q
    exact stp_det3 q (b3 k (by omega))
/-! both sides -/
/-- what the two sides know of their led tables, told of the same table, rows of nothing put in -/
def ledE (T f g : Nat → Int32) (S o u r d : Int) (T' f' to_ by_ ti : Nat → Int32) (R S' st r' : Int) : Prop := XOK T f g S o u r d ∧ MOK T' f' to_ by_ ti R S' st r'
theorem pl_tr {f w f' w' : Nat → Int32} {lim lim' wt S R : Int} (pe : plE f w lim f' w' lim' wt S R) : ∀ k : Nat, k < 30 → f' k = trT f k := fun k hk => by
  have q := pe.1 ((k / 5 : Nat) : Int) ((k % 5 : Nat) : Int) (by omega) (by omega) (by omega) (by omega)
  have e1 : (ixW ((k / 5 : Nat) : Int) ((k % 5 : Nat) : Int)).toNat = k := by
    unfold ixW
    omega
  have e2 : (ixT ((k / 5 : Nat) : Int) ((k % 5 : Nat) : Int)).toNat = 6 * (k % 5) + k / 5 := by
    unfold ixT
    omega
  rw [e1, e2] at q
  rw [tr_lt hk]
  exact (Int32.toInt_inj.mp q).symm
theorem pl_zR {f w f' w' : Nat → Int32} {lim lim' wt S R : Int} (pe : plE f w lim f' w' lim' wt S R) : zR f' R := fun r s h0 h1 h2 h3 h4 => by
  have q := pe.1 r s h0 h2 h3 (by omega)
  have z := pe.2.2.2 r s h0 h2 h3 (by omega) (Or.inl h1)
  refine Int32.toInt_inj.mp ?_
  rw [show (5 * r + s).toNat = (ixW r s).toNat from rfl, ← q, z]
  decide +kernel
/-- the led tables are alike, and so are the steps -/
theorem led_eq {T w T' w' f g f' to_ by_ ti : Nat → Int32} {lim lim' wt Sp S R S' R' o u r d st r' : Int} (pe : plE T w lim T' w' lim' wt Sp R) (x : XOK T f g S' o u r d) (m : MOK T' f' to_ by_ ti R' S st r') (eS : S' = S) (eR : R' = R) (hR : 0 ≤ R) (ed : d = st) (h0 : 0 ≤ r') : (∀ r9 s9 : Int, 0 ≤ r9 → r9 < 6 → 0 ≤ s9 → s9 ≤ 4 → f (6 * s9 + r9).toNat = f' (5 * r9 + s9).toNat) ∧ zR (nm f') R ∧ ∀ q : Nat, (q : Int) < u → (g (sl o (q : Int))).toInt = (to_ (st - u + (q : Int)).toNat).toInt ∧ (g (sl o (q : Int) + 1)).toInt = (by_ (st - u + (q : Int)).toNat).toInt ∧ g (sl o (q : Int) + 2) = ti (st - u + (q : Int)).toNat := by
  subst eS
  subst eR
  subst ed
  obtain ⟨hb, t1, t2, t3, mk, rg⟩ := x
  obtain ⟨m6, zf⟩ := MOK_6 (pl_zR pe) hR m (by omega) h0
  have e : nm T' = nm (trT T) := nm_of (pl_tr pe)
  obtain ⟨q1, q2⟩ := M_uniq mk m6 e.symm (by omega) (by omega) h0
  refine ⟨fun r9 s9 a1 a2 a3 a4 => ?_, zf, fun q hq => ?_⟩
  · have c := congrArg (fun h : Nat → Int32 => h (5 * r9 + s9).toNat) q1
    have c : nm (trT f) (5 * r9 + s9).toNat = nm f' (5 * r9 + s9).toNat := c
    rw [nm_lt (by omega), nm_lt (by omega), tr_at (by omega) (by omega)] at c
    exact c
  · obtain ⟨a1, a2, a3⟩ := rg q (by omega)
    obtain ⟨b1, b2, b3⟩ := q2 (d - u + (q : Int)).toNat (by omega)
    rw [a1, a2, a3]
    exact ⟨b1, b2, b3⟩
theorem X_noq {T w T' w' f g f' to_ by_ ti : Nat → Int32} {lim lim' wt Sp S R S' R' o u r d st r' : Int} (pe : plE T w lim T' w' lim' wt Sp R) (x : XOK T f g S' o u r d) (m : MOK T' f' to_ by_ ti R' S st r') (eS : S' = S) (eR : R' = R) (hR : 0 ≤ R ∧ R ≤ 6) (h0 : 0 ≤ st ∧ 0 ≤ r') (hS : S ≤ 5) : (d < st → ¬ noq (trT f) 6 S' S' 0) ∧ (st < d → ¬ noq f' R' S S 0) := by
  subst eS
  subst eR
  obtain ⟨hb, t1, t2, t3, mk, rg⟩ := x
  obtain ⟨m6, zf⟩ := MOK_6 (pl_zR pe) hR.1 m h0.1 h0.2
  have e : ∀ k : Nat, k < 30 → trT T k = T' k := fun k hk => (pl_tr pe k hk).symm
  have m7 := M_T m6 e
  refine ⟨fun hd hq => M_far mk (M_CH m7 rfl) (by omega) (by omega) (by omega) hq hS (by omega), fun hd hq => ?_⟩
  have n6 : noq (nm f') 6 S' S' 0 := noq_6 zf hR hS (noq_nm hq hS hR.2)
  have m8 : MOK (trT T) (nm f') to_ by_ ti 6 S' st r' := by
    obtain ⟨G, g1, g2, g3⟩ := m7
    refine ⟨G, g1, ?_, g3⟩
    rw [← g2]
    exact nm_of (fun k hk => nm_lt hk)
  exact M_far m8 (M_CH mk rfl) h0.1 h0.2 (by omega) n6 hS (by omega)
/-- lead: how many steps were made -/
def ldQ (res n u r d u' r' d' : Int) (f : Nat → Int32) (N S : Int) : Prop := (res = -1 ∧ ¬ (1 ≤ n ∧ n ≤ 100) ∧ u' = u ∧ r' = r ∧ d' = d) ∨ ((1 ≤ n ∧ n ≤ 100) ∧ 0 ≤ res ∧ res ≤ n ∧ d' = d + res ∧ urQ u r u' r' res ∧ (res = n ∨ 200 ≤ d' ∨ noq f N S S 0))
theorem ld_no {res n u r d : Int} {f : Nat → Int32} {N S : Int} (h : res = -1) (hn : ¬ (1 ≤ n ∧ n ≤ 100)) : ldQ res n u r d u r d f N S := Or.inl ⟨h, hn, rfl, rfl, rfl⟩
theorem ld_yes {res n u r d u' r' d' : Int} {f : Nat → Int32} {N S : Int} (hn : 1 ≤ n ∧ n ≤ 100) (h0 : 0 ≤ res ∧ res ≤ n) (hd : d' = d + res) (hu : urQ u r u' r' res) (h : res = n ∨ 200 ≤ d' ∨ noq f N S S 0) : ldQ res n u r d u' r' d' f N S := Or.inr ⟨hn, h0.1, h0.2, hd, hu, h⟩
theorem ld_eq {T w T' w' f g f' to_ by_ ti : Nat → Int32} {lim lim' wt Sp S R S' R' o res n u0 r0 d0 u r d res' n' u0' r0' d0' u' st r' : Int} (pe : plE T w lim T' w' lim' wt Sp R) (x : XOK T f g S' o u r d) (m : MOK T' f' to_ by_ ti R' S st r') (eS : S' = S) (eR : R' = R) (hR : 0 ≤ R ∧ R ≤ 6) (h0 : 0 ≤ r' ∧ 0 ≤ st ∧ st + r' ≤ 200) (hS : S ≤ 5) (a : ldQ res n u0 r0 d0 u r d (trT f) 6 S') (b : ldQ res' n' u0' r0' d0' u' r' st f' R' S) (en : n = n') (eu : u0 = u0') (er : r0 = r0') (ed : d0 = d0') : res = res' ∧ u = u' ∧ r = r' ∧ d = st := by
  subst en
  subst eu
  subst er
  subst ed
  obtain ⟨k1, k2⟩ := X_noq pe x m eS eR hR ⟨h0.2.1, h0.1⟩ hS
  have hb := x.1
  rcases a with ⟨a1, a2, a3, a4, a5⟩ | ⟨a1, a2, a3, a4, a5, a6⟩
  · rcases b with ⟨b1, b2, b3, b4, b5⟩ | ⟨b1, _⟩
    · omega
    · exact absurd b1 a2
  · rcases b with ⟨_, b2, _⟩ | ⟨b1, b2, b3, b4, b5, b6⟩
    · exact absurd a1 b2
    · have e : res = res' := by
        by_cases c : res < res'
        · rcases a6 with q | q | q
          · omega
          · omega
          · exact absurd q (k1 (by omega))
        · by_cases c2 : res' < res
          · rcases b6 with q | q | q
            · omega
            · omega
            · exact absurd q (k2 (by omega))
          · omega
      subst e
      unfold urQ at a5 b5
      omega
