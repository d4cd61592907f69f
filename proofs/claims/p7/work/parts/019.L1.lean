/-! products of columns, number by number; the order of senders -/
def dw (f : Nat → Int32) (a b : Int) : Nat → Int32
  | 0 => 0
  | n + 1 => dw f a b n + f (6 * a + (n : Int)).toNat * f (6 * b + (n : Int)).toNat
theorem dw_step {f : Nat → Int32} {a b n n' : Int} {s s' x y z : Int32} (h : s = dw f a b n.toNat) (e1 : x = f (6 * a + n).toNat) (e2 : y = f (6 * b + n).toNat) (ez : z = x * y) (es : s' = s + z) (h0 : 0 ≤ n) (en : n' = n + 1) : s' = dw f a b n'.toNat := by
  rw [show n'.toNat = n.toNat + 1 by omega]
  show s' = dw f a b n.toNat + f (6 * a + ((n.toNat : Nat) : Int)).toNat * f (6 * b + ((n.toNat : Nat) : Int)).toNat
  rw [show ((n.toNat : Nat) : Int) = n by omega, ← e1, ← e2, ← h, es, ez]
/-! the class's led table, told in the reference's way -/
def trT (f : Nat → Int32) : Nat → Int32 := fun k => if k < 30 then f (6 * (k % 5) + k / 5) else 0
theorem tr_lt {f : Nat → Int32} {k : Nat} (h : k < 30) : trT f k = f (6 * (k % 5) + k / 5) := by
  unfold trT
  rw [if_pos h]
theorem tr_at {f : Nat → Int32} {r s : Int} (h0 : 0 ≤ r ∧ r ≤ 5) (h1 : 0 ≤ s ∧ s ≤ 4) : trT f (5 * r + s).toNat = f (6 * s + r).toNat := by
  rw [tr_lt (by omega)]
  congr 1
  omega
theorem tr_prn {f : Nat → Int32} {a b : Int} (ha : 0 ≤ a ∧ a ≤ 4) (hb : 0 ≤ b ∧ b ≤ 4) : ∀ n : Nat, n ≤ 6 → prn (trT f) a b n = dw f a b n
  | 0, _ => rfl
  | n + 1, h => by
    show prn (trT f) a b n + trT f (5 * (n : Int) + a).toNat * trT f (5 * (n : Int) + b).toNat = dw f a b n + f (6 * a + (n : Int)).toNat * f (6 * b + (n : Int)).toNat
    rw [tr_prn ha hb n (by omega), tr_at (by omega) ha, tr_at (by omega) hb]
theorem dw_dtn {f : Nat → Int32} {a b : Int} (h : TB f 242) (ha : 0 ≤ a ∧ a ≤ 4) (hb : 0 ≤ b ∧ b ≤ 4) : ∀ n : Nat, n ≤ 6 → (dw f a b n).toInt = dtn f a b n ∧ -58564 * (n : Int) ≤ dtn f a b n ∧ dtn f a b n ≤ 58564 * (n : Int)
  | 0, _ => by
    show (0 : Int32).toInt = 0 ∧ -58564 * ((0 : Nat) : Int) ≤ 0 ∧ (0 : Int) ≤ 58564 * ((0 : Nat) : Int)
    exact ⟨by decide +kernel, by decide +kernel, by decide +kernel⟩
  | n + 1, hn => by
    obtain ⟨e, l, u⟩ := dw_dtn h ha hb n (by omega)
    have b1 := h (6 * a + (n : Int)).toNat (by omega)
    have b2 := h (6 * b + (n : Int)).toNat (by omega)
    have b3 := n_mulb (A := 242) (B := 242) (by decide) (by decide) b1 b2
    have m := n_mul (x := f (6 * a + (n : Int)).toNat) (y := f (6 * b + (n : Int)).toNat) rfl rfl (by omega) (by omega)
    show (dw f a b n + f (6 * a + (n : Int)).toNat * f (6 * b + (n : Int)).toNat).toInt = dtn f a b n + (f (6 * a + (n : Int)).toNat).toInt * (f (6 * b + (n : Int)).toNat).toInt ∧ -58564 * ((n + 1 : Nat) : Int) ≤ dtn f a b n + (f (6 * a + (n : Int)).toNat).toInt * (f (6 * b + (n : Int)).toNat).toInt ∧ dtn f a b n + (f (6 * a + (n : Int)).toNat).toInt * (f (6 * b + (n : Int)).toNat).toInt ≤ 58564 * ((n + 1 : Nat) : Int)
    exact ⟨n_add e m (by omega) (by omega), by omega, by omega⟩
theorem tr_dtn {f : Nat → Int32} {a b : Int} (h : SH f) (ha : 0 ≤ a ∧ a ≤ 4) (hb : 0 ≤ b ∧ b ≤ 4) : (prn (trT f) a b 6).toInt = dtn f a b 6 ∧ -351384 ≤ dtn f a b 6 ∧ dtn f a b 6 ≤ 351384 := by
  obtain ⟨e, l, u⟩ := dw_dtn (SH_TB h) ha hb 6 (Nat.le_refl 6)
  rw [tr_prn ha hb 6 (Nat.le_refl 6)]
  exact ⟨e, by omega, by omega⟩
theorem dv_uniq {x x' N Y : Int} (hY : 0 < Y) (h1 : x * Y ≤ N) (h2 : N < x * Y + Y) (g1 : x' * Y ≤ N) (g2 : N < x' * Y + Y) : x = x' := by
  have key : ∀ u w : Int, u < w → u * Y + Y ≤ w * Y := fun u w h => by
    have q := Int.mul_le_mul_of_nonneg_right (show u + 1 ≤ w by omega) (show 0 ≤ Y by omega)
    rw [Int.add_mul, Int.one_mul] at q
    exact q
  by_cases a : x < x'
  · have q := key x x' a
    omega
  · by_cases b : x' < x
    · have q := key x' x b
      omega
    · omega
theorem c_div {v w : Int} (h : 0 ≤ v) : v.tdiv w = v / w := by
  first
    | exact Int.tdiv_eq_ediv_of_nonneg h
    | exact Int.tdiv_eq_ediv h
theorem nt_val {a b : Int32} {p s P m : Int} (ha : a.toInt = p) (hb : b.toInt = s) (hs : 0 < s ∧ s ≤ 58806) (hp : -351384 ≤ p ∧ p ≤ 351384) (hP : (0 ≤ p ∧ P = p) ∨ (p < 0 ∧ P = -p)) (h0 : 0 ≤ m) (h1 : m * (2 * s) ≤ 2 * P + s - 1) (h2 : 2 * P + s - 1 < m * (2 * s) + 2 * s) : (0 ≤ p ∧ (nt a b).toInt = m) ∨ (p < 0 ∧ (nt a b).toInt = -m) := by
  have hsz : ∃ c : Int32, ((a.toInt < 0 ∧ c = -a) ∨ (¬ a.toInt < 0 ∧ c = a)) ∧ c.toInt = P := by
    by_cases q : a.toInt < 0
    · refine ⟨-a, Or.inl ⟨q, rfl⟩, ?_⟩
      rw [n_neg ha (by omega)]
      omega
    · exact ⟨a, Or.inr ⟨q, rfl⟩, by omega⟩
  obtain ⟨c, hc, ec⟩ := hsz
  have hP0 : 0 ≤ P := by omega
  have hd : (c / b).toInt = P / s := (n_div ec hb hs.1).trans (c_div hP0)
  have hr : (c - c / b * b).toInt = P % s := (n_rem ec hb hs.1).trans (c_mod hP0)
  have r0 := Int.emod_nonneg P (show s ≠ 0 by omega)
  have r1 := Int.emod_lt_of_pos P hs.1
  have rd := Int.emod_def P s
  have q0 := Int.ediv_nonneg hP0 (show 0 ≤ s by omega)
  have q1 := Int.ediv_le_self s hP0
  have e1 : P / s * (2 * s) = 2 * (s * (P / s)) := by rw [← Int.mul_assoc, Int.mul_comm (P / s) 2, Int.mul_assoc, Int.mul_comm (P / s) s]
  have e2 : (P / s + 1) * (2 * s) = 2 * (s * (P / s)) + 2 * s := by rw [Int.add_mul, Int.one_mul, e1]
  have hv : ∃ v : Int32, ((2 * (c - c / b * b).toInt > b.toInt ∧ v = c / b + 1) ∨ (¬ 2 * (c - c / b * b).toInt > b.toInt ∧ v = c / b)) ∧ v.toInt = m := by
    by_cases q : 2 * (c - c / b * b).toInt > b.toInt
    · refine ⟨c / b + 1, Or.inl ⟨q, rfl⟩, ?_⟩
      rw [n_add hd (show (1 : Int32).toInt = 1 by decide +kernel) (by omega) (by omega)]
      exact dv_uniq (Y := 2 * s) (N := 2 * P + s - 1) (by omega) (by omega) (by omega) h1 h2
    · refine ⟨c / b, Or.inr ⟨q, rfl⟩, ?_⟩
      rw [hd]
      exact dv_uniq (Y := 2 * s) (N := 2 * P + s - 1) (by omega) (by omega) (by omega) h1 h2
  obtain ⟨v, hv, ev⟩ := hv
  by_cases q : a.toInt < 0
  · have e := nt_of hc rfl rfl hv (Or.inl ⟨q, rfl⟩)
    refine Or.inr ⟨by omega, ?_⟩
    have hb9 : m * 1 ≤ m * (2 * s) := Int.mul_le_mul_of_nonneg_left (by omega) h0
    rw [← e, n_neg ev (by omega)]
  · have e := nt_of hc rfl rfl hv (Or.inr ⟨q, rfl⟩)
    refine Or.inl ⟨by omega, ?_⟩
    rw [← e, ev]
def xtQ (f : Nat → Int32) (i j : Int) (t : Int32) : Prop := ((prn (trT f) j j 6).toInt = 0 → t.toInt = 0) ∧ (¬ (prn (trT f) j j 6).toInt = 0 → t = nt (prn (trT f) i j 6) (prn (trT f) j j 6))
theorem xt_0 {f : Nat → Int32} {i j d : Int} {t : Int32} (h : SH f) (hd : d = dtn f j j 6) (hj : 0 ≤ j ∧ j ≤ 4) (h0 : d = 0) (ht : t.toInt = 0) : xtQ f i j t := ⟨fun _ => ht, fun q => absurd ((tr_dtn h hj hj).1.trans (hd.symm.trans h0)) q⟩
theorem xt_ok {f : Nat → Int32} {i j s p P m y : Int} {t : Int32} (h : SH f) (es : s = dtn f j j 6) (ep : p = dtn f i j 6) (hi : 0 ≤ i ∧ i ≤ 4) (hj : 0 ≤ j ∧ j ≤ 4) (hs : 0 < s) (hm : 0 ≤ m) (hy : y = 2 * s) (h1 : m * y ≤ 2 * P + s - 1) (h2 : 2 * P + s - 1 < m * y + y) (hP : (0 ≤ p ∧ P = p ∧ t.toInt = m) ∨ (p < 0 ∧ P = -p ∧ t.toInt = -m)) : xtQ f i j t := by
  obtain ⟨a1, _, _⟩ := tr_dtn h hj hj
  obtain ⟨b1, b2, b3⟩ := tr_dtn h hi hj
  have c := h j hj.1 hj.2
  subst hy
  refine ⟨fun q => absurd q (by omega), fun _ => Int32.toInt_inj.mp ?_⟩
  have v := nt_val (a := prn (trT f) i j 6) (b := prn (trT f) j j 6) (p := p) (s := s) (P := P) (m := m) (by omega) (by omega) ⟨hs, by omega⟩ ⟨by omega, by omega⟩ (by omega) hm h1 h2
  omega
theorem xt_nql {f : Nat → Int32} {i j : Int} {t : Int32} (x : xtQ f i j t) (ht : t.toInt = 0) : ¬ ql (trT f) 6 i j := fun q => q.2.2 (by
  have e : t = nt (prn (trT f) i j 6) (prn (trT f) j j 6) := x.2 q.2.1
  show (nt (prn (trT f) i j 6) (prn (trT f) j j 6)).toInt = 0
  rw [← e]
  exact ht)
theorem xt_ql {f : Nat → Int32} {i j : Int} {t : Int32} (x : xtQ f i j t) (ht : ¬ t.toInt = 0) (hij : ¬ i = j) : ql (trT f) 6 i j ∧ t = nt (prn (trT f) i j 6) (prn (trT f) j j 6) := by
  have h : ¬ (prn (trT f) j j 6).toInt = 0 := fun q => ht (x.1 q)
  have e := x.2 h
  refine ⟨⟨hij, h, fun q => ht ?_⟩, e⟩
  rw [e]
  exact q
theorem go_tr {f f' : Nat → Int32} {a b : Int} {t : Int32} (h : taQ f f' a b t 6) (ha : 0 ≤ a ∧ a ≤ 4) (hb : 0 ≤ b ∧ b ≤ 4) : goQ (trT f) (trT f') a b t 6 := by
  refine ⟨fun k hk => ?_, fun x hx => ?_⟩
  · rw [tr_at (by omega) ha, tr_at (by omega) ha, tr_at (by omega) hb]
    exact h.1 k hk
  · by_cases q : x < 30
    · rw [tr_lt q, tr_lt q]
      refine h.2 _ (fun k hk e => hx k hk ?_)
      omega
    · unfold trT
      rw [if_neg q, if_neg q]
theorem xt_stp {f f' : Nat → Int32} {S i j : Int} {t : Int32} (x : xtQ f i j t) (ht : ¬ t.toInt = 0) (hb : 0 ≤ i ∧ i < S ∧ 0 ≤ j ∧ j < S ∧ S ≤ 5) (hij : ¬ i = j) (nq : noq (trT f) 6 S i j) (ta : taQ f f' i j t 6) : stp (trT f) (trT f') 6 S i j t := by
  obtain ⟨q, e⟩ := xt_ql x ht hij
  exact ⟨⟨by omega, by omega, by omega, by omega, by omega, by omega⟩, q, nq, e, go_tr ta (by omega) (by omega)⟩
/-- one step of the class -/
def isX (f f' g g' : Nat → Int32) (o o' u u' r r' d d' S res : Int) : Prop := (res = 1 ∧ r' = 0 ∧ d' = d + 1 ∧ d < 200 ∧ ∃ i j t : Int32, stp (trT f) (trT f') 6 S i.toInt j.toInt t ∧ remQ g g' o o' u u' i j t) ∨ (res = 0 ∧ f' = f ∧ g' = g ∧ o' = o ∧ u' = u ∧ r' = r ∧ d' = d ∧ (200 ≤ d ∨ noq (trT f) 6 S S 0))
theorem isX_yes {f f' g g' : Nat → Int32} {o o' u u' r r' d d' S res : Int} {i j t : Int32} (hr : res = 1) (h0 : r' = 0) (hd : d' = d + 1) (h2 : d < 200) (x : xtQ f i.toInt j.toInt t) (ht : ¬ t.toInt = 0) (hb : 0 ≤ i.toInt ∧ i.toInt < S ∧ 0 ≤ j.toInt ∧ j.toInt < S ∧ S ≤ 5) (hij : ¬ i.toInt = j.toInt) (nq : noq (trT f) 6 S i.toInt j.toInt) (ta : taQ f f' i.toInt j.toInt t 6) (rm : remQ g g' o o' u u' i j t) : isX f f' g g' o o' u u' r r' d d' S res := Or.inl ⟨hr, h0, hd, h2, i, j, t, xt_stp x ht hb hij nq ta, rm⟩
theorem isX_no {f g : Nat → Int32} {o u r d S res : Int} (hr : res = 0) (h : 200 ≤ d ∨ noq (trT f) 6 S S 0) : isX f f g g o o u u r r d d S res := Or.inr ⟨hr, rfl, rfl, rfl, rfl, rfl, rfl, h⟩
/-- the class's led table, steps and counts are those of so many steps from the home table -/
def XOK (T f g : Nat → Int32) (S o u r d : Int) : Prop := (0 ≤ u ∧ u ≤ d ∧ 0 ≤ r ∧ d + r ≤ 200 ∧ u + r ≤ 40 ∧ 0 ≤ o ∧ o < 40) ∧ ∃ to_ by_ ti : Nat → Int32, MOK (trT T) (trT f) to_ by_ ti 6 S d r ∧ ∀ q : Nat, (q : Int) < u + r → g (sl o (q : Int)) = to_ (d - u + (q : Int)).toNat ∧ g (sl o (q : Int) + 1) = by_ (d - u + (q : Int)).toNat ∧ g (sl o (q : Int) + 2) = ti (d - u + (q : Int)).toNat
theorem X_start {T f g : Nat → Int32} {S o u r d : Int} (e : ∀ j : Nat, j < 30 → f j = T j) (h0 : o = 0) (h1 : u = 0) (h2 : r = 0) (h3 : d = 0) : XOK T f g S o u r d := by
  subst h0
  subst h1
  subst h2
  subst h3
  refine ⟨by omega, fun _ => 0, fun _ => 0, fun _ => 0, M_start (fun k hk => ?_) rfl rfl, fun q hq => absurd hq (by omega)⟩
  rw [tr_lt hk, tr_lt hk]
  exact e _ (by omega)
theorem X_same {T f f' g g' : Nat → Int32} {S o o' u u' r r' d d' res : Int} (h : XOK T f g S o u r d) (x : isX f f' g g' o o' u u' r r' d d' S res) (hr : res = 0) : XOK T f' g' S o' u' r' d' := by
  rcases x with x | ⟨_, e1, e2, e3, e4, e5, e6, _⟩
  · exact absurd hr (by omega)
  · rw [e1, e2, e3, e4, e5, e6]
    exact h
theorem X_push {T f f' g g' : Nat → Int32} {S o o' u u' r r' d d' res : Int} (h : XOK T f g S o u r d) (x : isX f f' g g' o o' u u' r r' d d' S res) (hr : ¬ res = 0) : XOK T f' g' S o' u' r' d' := by
  rcases x with ⟨_, er, ed, h2, i, j, t, sp, q0, eg, cs⟩ | x
  · obtain ⟨hb, to_, by_, ti, mk, rg⟩ := h
    have mk2 := M_push (r' := 0) mk sp (by omega) (by omega) rfl rfl rfl ed rfl
    subst er
    have old : ∀ (x y z : Nat), ¬ x = q0.toNat ∧ ¬ x = (q0 + 1).toNat ∧ ¬ x = (q0 + 2).toNat → g' x = g x := fun x y z hx => by rw [eg, u_ne hx.2.2, u_ne hx.2.1, u_ne hx.1]
    refine ⟨by omega, upd to_ d.toNat i, upd by_ d.toNat j, upd ti d.toNat t, mk2, fun q hq => ?_⟩
    have put : 0 ≤ q0 → sl o' (q : Int) = q0.toNat → (d' - u' + (q : Int)).toNat = d.toNat → g' (sl o' (q : Int)) = upd to_ d.toNat i (d' - u' + (q : Int)).toNat ∧ g' (sl o' (q : Int) + 1) = upd by_ d.toNat j (d' - u' + (q : Int)).toNat ∧ g' (sl o' (q : Int) + 2) = upd ti d.toNat t (d' - u' + (q : Int)).toNat := by
      intro z0 z1 z2
      rw [z1, u_eq z2, u_eq z2, u_eq z2, eg]
      exact ⟨by rw [u_ne (by omega), u_ne (by omega), u_eq rfl], by rw [u_ne (by omega), u_eq (by omega)], by rw [u_eq (by omega)]⟩
    have keep : ∀ q9 : Nat, (q9 : Int) < u + r → sl o' (q : Int) = sl o (q9 : Int) → (d' - u' + (q : Int)).toNat = (d - u + (q9 : Int)).toNat → ¬ (d - u + (q9 : Int)).toNat = d.toNat → (¬ sl o (q9 : Int) = q0.toNat ∧ ∀ e : Nat, e < 3 → ¬ sl o (q9 : Int) + e = q0.toNat ∧ ¬ sl o (q9 : Int) + e = (q0 + 1).toNat ∧ ¬ sl o (q9 : Int) + e = (q0 + 2).toNat) → g' (sl o' (q : Int)) = upd to_ d.toNat i (d' - u' + (q : Int)).toNat ∧ g' (sl o' (q : Int) + 1) = upd by_ d.toNat j (d' - u' + (q : Int)).toNat ∧ g' (sl o' (q : Int) + 2) = upd ti d.toNat t (d' - u' + (q : Int)).toNat := by
      intro q9 y1 y2 y3 y4 y5
      have r9 := rg q9 y1
      rw [y2, y3, u_ne y4, u_ne y4, u_ne y4, ← r9.1, ← r9.2.1, ← r9.2.2]
      exact ⟨old (sl o (q9 : Int)) 0 0 (y5.2 0 (by omega)), old _ 0 0 (y5.2 1 (by omega)), old _ 0 0 (y5.2 2 (by omega))⟩
    rcases cs with ⟨c1, c2, c3, c4⟩ | ⟨c1, c2, c3, c4⟩
    · subst c2
      by_cases z : (q : Int) = u
      · exact put (by omega) (by unfold sl; omega) (by omega)
      · exact keep q (by omega) rfl (by omega) (by omega) ⟨by unfold sl; omega, fun e he => by unfold sl; omega⟩
    · by_cases z : (q : Int) = 39
      · exact put (by omega) (by unfold sl; omega) (by omega)
      · exact keep (q + 1) (by omega) (by unfold sl; omega) (by omega) (by omega) ⟨by unfold sl; omega, fun e he => by unfold sl; omega⟩
  · exact absurd x.1 hr
theorem X_undo {T f f' g : Nat → Int32} {S o u u' r r' d d' q : Int} {zi zj zt t : Int32} (h : XOK T f g S o u r d) (hu : 1 ≤ u) (eu : u' = u - 1) (er : r' = r + 1) (ed : d' = d - 1) (hq : q = ((o + u') % 40) * 3) (ei : zi = g q.toNat) (ej : zj = g (q + 1).toNat) (et : zt = g (q + 2).toNat) (ht : t = -zt) (ta : taQ f f' zi.toInt zj.toInt t 6) (hb : (0 ≤ zi.toInt ∧ zi.toInt ≤ 4) ∧ 0 ≤ zj.toInt ∧ zj.toInt ≤ 4) : XOK T f' g S o u' r' d' := by
  obtain ⟨b9, to_, by_, ti, mk, rg⟩ := h
  have r9 := rg u'.toNat (by omega)
  have es : sl o ((u'.toNat : Nat) : Int) = q.toNat := by unfold sl; rw [show ((u'.toNat : Nat) : Int) = u' by omega, hq]
  have ek : (d - u + ((u'.toNat : Nat) : Int)).toNat = d'.toNat := by omega
  rw [es, ek] at r9
  have q1 : (q + 1).toNat = q.toNat + 1 := by omega
  have q2 : (q + 2).toNat = q.toNat + 2 := by omega
  refine ⟨by omega, to_, by_, ti, M_undo mk (by omega) (by omega) ed er (ei.trans r9.1) (by rw [ej, q1]; exact r9.2.1) (by rw [et, q2]; exact r9.2.2) ht (go_tr ta hb.1 hb.2) (by omega), fun k hk => ?_⟩
  rw [show d' - u' = d - u by omega]
  exact rg k (by omega)
theorem X_redo {T f f' g : Nat → Int32} {S o u u' r r' d d' q : Int} {zi zj zt : Int32} (h : XOK T f g S o u r d) (hr : 1 ≤ r) (eu : u' = u + 1) (er : r' = r - 1) (ed : d' = d + 1) (hq : q = ((o + u) % 40) * 3) (ei : zi = g q.toNat) (ej : zj = g (q + 1).toNat) (et : zt = g (q + 2).toNat) (ta : taQ f f' zi.toInt zj.toInt zt 6) (hb : (0 ≤ zi.toInt ∧ zi.toInt ≤ 4) ∧ 0 ≤ zj.toInt ∧ zj.toInt ≤ 4) : XOK T f' g S o u' r' d' := by
  obtain ⟨b9, to_, by_, ti, mk, rg⟩ := h
  have r9 := rg u.toNat (by omega)
  have es : sl o ((u.toNat : Nat) : Int) = q.toNat := by unfold sl; rw [show ((u.toNat : Nat) : Int) = u by omega, hq]
  have ek : (d - u + ((u.toNat : Nat) : Int)).toNat = d.toNat := by omega
  rw [es, ek] at r9
  have q1 : (q + 1).toNat = q.toNat + 1 := by omega
  have q2 : (q + 2).toNat = q.toNat + 2 := by omega
  refine ⟨by omega, to_, by_, ti, M_redo mk (by omega) (by omega) ed er (ei.trans r9.1) (by rw [ej, q1]; exact r9.2.1) (by rw [et, q2]; exact r9.2.2) (go_tr ta hb.1 hb.2) (by omega), fun k hk => ?_⟩
  rw [show d' - u' = d - u by omega]
  exact rg k (by omega)
/-- how the counts go on -/
def urQ (u r u' r' n : Int) : Prop := (n = 0 ∧ u' = u ∧ r' = r) ∨ (1 ≤ n ∧ r' = 0 ∧ ((u + n ≤ 40 ∧ u' = u + n) ∨ (40 < u + n ∧ u' = 40)))
theorem ur_0 {u r n : Int} (h : n = 0) : urQ u r u r n := Or.inl ⟨h, rfl, rfl⟩
theorem ur_X {f f' g g' : Nat → Int32} {o o' u0 r0 u u' r r' d d' S res n n' : Int} (h : urQ u0 r0 u r n) (x : isX f f' g g' o o' u u' r r' d d' S res) (hr : ¬ res = 0) (hn : 0 ≤ n) (hu : 0 ≤ u0 ∧ u0 ≤ 40) (en : n' = n + 1) : urQ u0 r0 u' r' n' := by
  rcases x with ⟨_, er, _, _, i, j, t, _, q, _, c⟩ | x
  · unfold urQ at h ⊢
    omega
  · exact absurd x.1 hr
theorem ur_X0 {f f' g g' : Nat → Int32} {o o' u0 r0 u u' r r' d d' S res n : Int} (h : urQ u0 r0 u r n) (x : isX f f' g g' o o' u u' r r' d d' S res) (hr : res = 0) : urQ u0 r0 u' r' n := by
  rcases x with x | ⟨_, _, _, _, e4, e5, _, _⟩
  · exact absurd hr (by omega)
  · rw [e4, e5]
    exact h
theorem isX_end {f f' g g' : Nat → Int32} {o o' u u' r r' d d' S res : Int} (x : isX f f' g g' o o' u u' r r' d d' S res) (hr : res = 0) : d' = d ∧ (200 ≤ d' ∨ noq (trT f') 6 S S 0) := by
  rcases x with x | ⟨_, e1, _, _, _, _, e6, e7⟩
  · exact absurd hr (by omega)
  · rw [e1, e6]
    exact ⟨rfl, e7⟩
theorem isX_d {f f' g g' : Nat → Int32} {o o' u u' r r' d d' S res : Int} (x : isX f f' g g' o o' u u' r r' d d' S res) (hr : ¬ res = 0) : d' = d + 1 := by
  rcases x with x | x
  · exact x.2.2.1
  · exact absurd x.1 hr
def unQ (res u r d u' r' d' : Int) : Prop := (res = 0 ∧ u = 0 ∧ u' = u ∧ r' = r ∧ d' = d) ∨ (res = 1 ∧ 1 ≤ u ∧ u' = u - 1 ∧ r' = r + 1 ∧ d' = d - 1)
def reQ (res u r d u' r' d' : Int) : Prop := (res = 0 ∧ r = 0 ∧ u' = u ∧ r' = r ∧ d' = d) ∨ (res = 1 ∧ 1 ≤ r ∧ u' = u + 1 ∧ r' = r - 1 ∧ d' = d + 1)
def hzQ (res u r d u' r' d' : Int) : Prop := (res = -1 ∧ u' = u ∧ r' = r ∧ d' = d) ∨ (¬ res = -1 ∧ u' = 0 ∧ r' = 0 ∧ d' = 0)
