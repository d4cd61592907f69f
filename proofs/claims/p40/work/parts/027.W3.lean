/-! how large what is sent can be; the best digit (draft, p40 and on) -/
def xbW (x : Int → Int) (last : Int) : Prop := ∀ s : Int, 0 ≤ s → s < last → -30 ≤ x s ∧ x s ≤ 30
theorem tb_at {T : Nat → Int32} {s r : Int} (h : TB T 99) (h0 : 0 ≤ s) (hs : s ≤ 4) (r0 : 0 ≤ r) (hr : r ≤ 5) : -99 ≤ (T (6 * s + r).toNat).toInt ∧ (T (6 * s + r).toNat).toInt ≤ 99 := h _ (by omega)
theorem rs_bd {T : Nat → Int32} {x : Int → Int} {r : Int} (h : TB T 99) (r0 : 0 ≤ r) (hr : r ≤ 5) : ∀ n : Nat, n ≤ 5 → xbW x (n : Int) → -2970 * (n : Int) ≤ rsK T x r n ∧ rsK T x r n ≤ 2970 * (n : Int)
  | 0, _, _ => ⟨Int.le_refl 0, Int.le_refl 0⟩
  | n + 1, hn, hx => by
    have ih := rs_bd (T := T) (x := x) h r0 hr n (by omega) (fun s a b => hx s a (by omega))
    have q := n_mulb (A := 99) (B := 30) (by decide) (by decide) (tb_at (s := (n : Int)) h (by omega) (by omega) r0 hr) (hx (n : Int) (by omega) (by omega))
    show -2970 * ((n + 1 : Nat) : Int) ≤ rsK T x r n + (T (6 * (n : Int) + r).toNat).toInt * x (n : Int) ∧ rsK T x r n + (T (6 * (n : Int) + r).toNat).toInt * x (n : Int) ≤ 2970 * ((n + 1 : Nat) : Int)
    omega
theorem cr_bd {T : Nat → Int32} {x : Int → Int} {n : Nat} {j : Int} (h : TB T 99) (hn : n ≤ 5) (hx : xbW x (n : Int)) (j0 : 0 ≤ j) (hj : j ≤ 4) : ∀ m : Nat, m ≤ 6 → -1470150 * (m : Int) ≤ crK T x n j m ∧ crK T x n j m ≤ 1470150 * (m : Int)
  | 0, _ => ⟨Int.le_refl 0, Int.le_refl 0⟩
  | m + 1, hm => by
    have ih := cr_bd (T := T) (x := x) (n := n) (j := j) h hn hx j0 hj m (by omega)
    have r := rs_bd (T := T) (x := x) (r := (m : Int)) h (by omega) (by omega) n hn hx
    have q := n_mulb (A := 14850) (B := 99) (by decide) (by decide) (a := rsK T x (m : Int) n) (by omega) (tb_at (s := j) (r := (m : Int)) h j0 hj (by omega) (by omega))
    show -1470150 * ((m + 1 : Nat) : Int) ≤ crK T x n j m - rsK T x (m : Int) n * (T (6 * j + (m : Int)).toNat).toInt ∧ crK T x n j m - rsK T x (m : Int) n * (T (6 * j + (m : Int)).toNat).toInt ≤ 1470150 * ((m + 1 : Nat) : Int)
    omega
theorem bs_bd {T : Nat → Int32} {x : Int → Int} {n : Nat} (h : TB T 99) (hn : n ≤ 5) (hx : xbW x (n : Int)) : ∀ m : Nat, m ≤ 6 → 0 ≤ bsK T x n m ∧ bsK T x n m ≤ 220522500 * (m : Int)
  | 0, _ => ⟨Int.le_refl 0, Int.le_refl 0⟩
  | m + 1, hm => by
    have ih := bs_bd (T := T) (x := x) (n := n) h hn hx m (by omega)
    have r := rs_bd (T := T) (x := x) (r := (m : Int)) h (by omega) (by omega) n hn hx
    have q := n_sq (d := rsK T x (m : Int) n) (B := 14850) (by omega)
    show 0 ≤ bsK T x n m + rsK T x (m : Int) n * rsK T x (m : Int) n ∧ bsK T x n m + rsK T x (m : Int) n * rsK T x (m : Int) n ≤ 220522500 * ((m + 1 : Nat) : Int)
    omega
/-- squares of a row, with the last number put in -/
def yW (x : Int → Int) (n : Nat) (X : Int) : Int → Int := fun s => if s = (n : Int) then X else x s
theorem qd_row {T : Nat → Int32} {x : Int → Int} {n : Nat} {X : Int} : qdK (bsK T x n 6) (dtn T (n : Int) (n : Int) 6) (crK T x n (n : Int) 6) X = bsK T (yW x n X) (n + 1) 6 := by
  have c : ∀ k : Int, 0 ≤ k → k < (n : Int) → x k = yW x n X k := fun k a b => (if_neg (by omega)).symm
  rw [bsK_succ, bsK_congr c, crK_congr c]
  have e : yW x n X (n : Int) = X := if_pos rfl
  rw [e]
  rfl
theorem qd_bd {T : Nat → Int32} {x : Int → Int} {last X : Int} (h : TB T 99) (h0 : 0 ≤ last) (hl : last ≤ 4) (hx : xbW x last) (hX : -30 ≤ X ∧ X ≤ 30) : 0 ≤ qdK (bsK T x last.toNat 6) (dtn T last last 6) (crK T x last.toNat last 6) X ∧ qdK (bsK T x last.toNat 6) (dtn T last last 6) (crK T x last.toNat last 6) X ≤ 1323135000 := by
  obtain ⟨n, rfl⟩ : ∃ n : Nat, last = (n : Int) := ⟨last.toNat, by omega⟩
  have hn : ((n : Int)).toNat = n := by omega
  rw [hn, qd_row]
  have q := bs_bd (T := T) (x := yW x n X) (n := n + 1) h (by omega) (fun s a b => by
    unfold yW
    by_cases e : s = (n : Int)
    · rw [if_pos e]; exact hX
    · rw [if_neg e]; exact hx s a (by omega)) 6 (by omega)
  omega
theorem xv_eq {a b q : Int32} {lo g d : Int} (ha : a.toInt = lo) (hb : b.toInt = g) (hq : q.toInt = d) (h1 : -2147483648 ≤ g * d) (h2 : g * d ≤ 2147483647) (h3 : -2147483648 ≤ lo + g * d) (h4 : lo + g * d ≤ 2147483647) : (a + b * q).toInt = lo + g * d := n_add ha (n_mul hb hq h1 h2) h3 h4
/-! floor of a quotient -/
theorem tdiv_fl {a b q : Int} (hb : 0 < b) (h : (a < 0 ∧ ¬ a.tdiv b * b = a → q = a.tdiv b - 1) ∧ (¬ (a < 0 ∧ ¬ a.tdiv b * b = a) → q = a.tdiv b)) : q * b ≤ a ∧ a < (q + 1) * b := by
  have e : a.tdiv b * b + a.tmod b = a := by rw [Int.mul_comm]; exact Int.mul_tdiv_add_tmod a b
  have m1 : -b < a.tmod b := Int.lt_tmod_of_pos a hb
  have m2 : a.tmod b < b := Int.tmod_lt_of_pos a hb
  by_cases c : a < 0
  · have m3 : a.tmod b ≤ 0 := by
      have := Int.tmod_nonneg (a := -a) b (by omega)
      rw [Int.neg_tmod] at this
      omega
    by_cases c2 : a.tdiv b * b = a
    · have := h.2 (fun z => z.2 c2)
      rw [this, Int.add_mul, Int.one_mul]
      omega
    · have := h.1 ⟨c, c2⟩
      rw [this, Int.sub_add_cancel, Int.sub_mul, Int.one_mul]
      omega
  · have m3 : 0 ≤ a.tmod b := Int.tmod_nonneg b (by omega)
    have := h.2 (fun z => c z.1)
    rw [this, Int.add_mul, Int.one_mul]
    omega
theorem xor_neg {a b : Int64} (hb : 0 < b.toInt) : a ^^^ b < 0 ↔ a.toInt < 0 := by
  rw [Int64.lt_iff_toInt_lt]
  have z : (0 : Int64).toInt = 0 := by decide
  rw [z]
  have e1 : (a ^^^ b).toInt = (a.toBitVec ^^^ b.toBitVec).toInt := rfl
  have m := BitVec.msb_xor (x := a.toBitVec) (y := b.toBitVec)
  rw [BitVec.msb_eq_toInt, BitVec.msb_eq_toInt, BitVec.msb_eq_toInt] at m
  rw [e1]
  have hb2 : decide (b.toBitVec.toInt < 0) = false := decide_eq_false (by show ¬ b.toInt < 0; omega)
  rw [hb2, Bool.xor_false] at m
  exact ⟨fun h => of_decide_eq_true (m.symm.trans (decide_eq_true h)), fun h => of_decide_eq_true (m.trans (decide_eq_true h))⟩
theorem fl_W {a b r : Int64} {A B : Int} (h : flW a b r) (ha : a.toInt = A) (hb : b.toInt = B) (h0 : 0 < B) (hB : B ≤ 1099511627776) (hA : -1099511627776 ≤ A ∧ A ≤ 1099511627776) : r.toInt * B ≤ A ∧ A < (r.toInt + 1) * B := by
  have e : A.tdiv B * B + A.tmod B = A := by rw [Int.mul_comm]; exact Int.mul_tdiv_add_tmod A B
  have m1 : -B < A.tmod B := Int.lt_tmod_of_pos A h0
  have m2 : A.tmod B < B := Int.tmod_lt_of_pos A h0
  have d1 : (A.tdiv B).natAbs ≤ A.natAbs := by rw [Int.natAbs_tdiv]; exact Nat.div_le_self _ _
  have ed : (a / b).toInt = A.tdiv B := by rw [Int64.toInt_div, ha, hb]; exact n_bmL (by omega) (by omega)
  have ep : (a / b * b).toInt = A.tdiv B * B := n_mulL ed hb (by omega) (by omega)
  have hx : a ^^^ b < 0 ↔ A < 0 := by rw [xor_neg (by omega), ha]
  have hq : a / b * b = a ↔ A.tdiv B * B = A := by rw [← Int64.toInt_inj, ep, ha]
  refine tdiv_fl h0 ⟨fun c => ?_, fun c => ?_⟩
  · have er := h.1 ⟨hx.mpr c.1, fun z => c.2 (hq.mp z)⟩
    have one : (1 : Int64).toInt = 1 := by decide
    rw [er]
    exact n_subL ed one (by omega) (by omega)
  · have er := h.2 (fun z => c ⟨hx.mp z.1, fun y => z.2 (hq.mpr y)⟩)
    rw [er]
    exact ed
/-! the best digit of a line -/
theorem bd_P {T : Nat → Int32} {last : Int} (h : TB T 99) (h0 : 0 ≤ last) (hl : last ≤ 4) : 0 ≤ dtn T last last 6 ∧ dtn T last last 6 ≤ 58806 := ⟨dtn_nn 6, TB_SH h last h0 hl⟩
theorem bd_w {T : Nat → Int32} {pr : Nat → Int64} {last g : Int} {p w gl : Int64} (hp : prW pr T last) (h : TB T 99) (h0 : 0 ≤ last) (hl : last ≤ 4) (ep : p = pr (5 * last + last).toNat) (eg : gl.toInt = g) (hg : 1 ≤ g ∧ g ≤ 64) (ew : w = p * gl) : w.toInt = dtn T last last 6 * g ∧ 0 ≤ dtn T last last 6 * g ∧ dtn T last last 6 * g ≤ 3763584 := by
  have b := bd_P h h0 hl
  have q := n_mulb (A := 58806) (B := 64) (a := dtn T last last 6) (b := g) (by decide) (by decide) (by omega) (by omega)
  have n := Int.mul_nonneg b.1 (show (0 : Int) ≤ g by omega)
  have pi : p.toInt = dtn T last last 6 := by rw [ep, hp last last h0 (Int.le_refl _) h0 (Int.le_refl _), I6_to (by omega) (by omega)]
  refine ⟨?_, n, by omega⟩
  rw [ew]
  exact n_mulL pi eg (by omega) (by omega)
theorem bd_flat {T : Nat → Int32} {x : Int → Int} {pr : Nat → Int64} {last g lo m : Int} {p w gl : Int64} {d : Int} (hp : prW pr T last) (h : TB T 99) (h0 : 0 ≤ last) (hl : last ≤ 4) (ep : p = pr (5 * last + last).toNat) (eg : gl.toInt = g) (hg : 1 ≤ g ∧ g ≤ 64) (ew : w = p * gl) (hw : w.toInt ≤ 0) (hm : 1 ≤ m) (hd : d = 0) : fmQ (fun k => qdK (bsK T x last.toNat 6) (dtn T last last 6) (crK T x last.toNat last 6) (lo + g * k)) m d := by
  have b := bd_P h h0 hl
  have q := bd_w hp h h0 hl ep eg hg ew
  have z : dtn T last last 6 = 0 := by
    by_cases c : dtn T last last 6 = 0
    · exact c
    · have := Int.mul_pos (show 0 < dtn T last last 6 by omega) (show 0 < g by omega)
      omega
  rw [hd]
  have cz := crK_0 (x := x) (n := last.toNat) z
  rw [z]
  exact kw_flat cz hm
theorem bd_best {T : Nat → Int32} {x : Int → Int} {ba cr pr : Nat → Int64} {last g lo m d0 d : Int} {p p2 w gl c l64 a1 a2 r : Int64} (hs : seW T x ba cr last last) (hp : prW pr T last) (h : TB T 99) (hx : xbW x last) (h0 : 0 ≤ last) (hl : last ≤ 4) (ep : p = pr (5 * last + last).toNat) (eg : gl.toInt = g) (hg : 1 ≤ g ∧ g ≤ 64) (ew : w = p * gl) (hw : ¬ w.toInt ≤ 0) (hm : 1 ≤ m)
    (ec : c = cr (5 * last + last).toNat) (el : l64.toInt = lo) (hlo : -30 ≤ lo ∧ lo ≤ 30) (ep2 : p2 = pr (5 * last + last).toNat) (e1 : a1 = l64 * p2) (e2 : a2 = c - a1) (fl : flW a2 w r)
    (e0 : (r.toInt < 0 ∧ d0 = 0) ∨ (m - 1 ≤ r.toInt ∧ d0 = m - 1) ∨ (0 ≤ r.toInt ∧ r.toInt < m - 1 ∧ d0 = r.toInt))
    (hd : (d = d0 + 1 ∧ d0 + 1 < m ∧ qdK (bsK T x last.toNat 6) (dtn T last last 6) (crK T x last.toNat last 6) (lo + g * (d0 + 1)) < qdK (bsK T x last.toNat 6) (dtn T last last 6) (crK T x last.toNat last 6) (lo + g * d0)) ∨ (d = d0 ∧ ¬ (d0 + 1 < m ∧ qdK (bsK T x last.toNat 6) (dtn T last last 6) (crK T x last.toNat last 6) (lo + g * (d0 + 1)) < qdK (bsK T x last.toNat 6) (dtn T last last 6) (crK T x last.toNat last 6) (lo + g * d0)))) :
    fmQ (fun k => qdK (bsK T x last.toNat 6) (dtn T last last 6) (crK T x last.toNat last 6) (lo + g * k)) m d := by
  have b := bd_P h h0 hl
  have q := bd_w hp h h0 hl ep eg hg ew
  have n5 : last.toNat ≤ 5 := by omega
  have hx' : xbW x ((last.toNat : Nat) : Int) := fun s a b => hx s a (by omega)
  have cb := cr_bd (T := T) (x := x) (n := last.toNat) (j := last) h n5 hx' h0 hl 6 (by omega)
  have pi : p2.toInt = dtn T last last 6 := by rw [ep2, hp last last h0 (Int.le_refl _) h0 (Int.le_refl _), I6_to (by omega) (by omega)]
  have ci : c.toInt = crK T x last.toNat last 6 := by rw [ec, (hs last h0 (Int.le_refl _)).2 last (Int.le_refl _) (Int.le_refl _), I6_to (by omega) (by omega)]
  have mb := n_mulb (A := 30) (B := 58806) (a := lo) (b := dtn T last last 6) (by decide) (by decide) (by omega) (by omega)
  have i1 : a1.toInt = lo * dtn T last last 6 := by rw [e1]; exact n_mulL el pi (by omega) (by omega)
  have i2 : a2.toInt = crK T x last.toNat last 6 - lo * dtn T last last 6 := by rw [e2]; exact n_subL ci i1 (by omega) (by omega)
  have f := fl_W fl i2 q.1 (by omega) (by omega) (by omega)
  exact kw_best (by omega) hm rfl (by omega) rfl f.1 f.2 e0 hd
theorem l2i_e {z : Int32} {y : Int64} (e : z = y.toInt32) (h : -2147483648 ≤ y.toInt ∧ y.toInt ≤ 2147483647) : z.toInt = y.toInt := by
  rw [e, Int64.toInt_toInt32]
  exact n_bm h.1 h.2
/-- a place on the line lies within its ends -/
theorem ln_in {lo g m d : Int} (hg : 1 ≤ g) (hd : 0 ≤ d ∧ d < m) (h1 : -30 ≤ lo) (h2 : lo + g * (m - 1) ≤ 30) : -30 ≤ lo + g * d ∧ lo + g * d ≤ 30 ∧ 0 ≤ g * d ∧ g * d ≤ 60 := by
  have a1 : 0 ≤ g * d := Int.mul_nonneg (by omega) hd.1
  have a2 : g * d ≤ g * (m - 1) := Int.mul_le_mul_of_nonneg_left (by omega) (by omega)
  omega
theorem bd_q {T : Nat → Int32} {x : Int → Int} {last lo g m d : Int} {r : Int64} {a b q : Int32} (h : r = I6 (qdK (bsK T x last.toNat 6) (dtn T last last 6) (crK T x last.toNat last 6) (a + b * q).toInt)) (tb : TB T 99) (hx : xbW x last) (h0 : 0 ≤ last) (hl : last ≤ 4) (ha : a.toInt = lo) (hb : b.toInt = g) (hq : q.toInt = d) (hg : 1 ≤ g) (hd : 0 ≤ d ∧ d < m) (h1 : -30 ≤ lo) (h2 : lo + g * (m - 1) ≤ 30) : r.toInt = qdK (bsK T x last.toNat 6) (dtn T last last 6) (crK T x last.toNat last 6) (lo + g * d) := by
  have i := ln_in hg hd h1 h2
  have e := xv_eq ha hb hq (by omega) (by omega) (by omega) (by omega)
  have b := qd_bd (T := T) (x := x) (last := last) (X := lo + g * d) tb h0 hl hx ⟨i.1, i.2.1⟩
  rw [h, e]
  exact I6_to (by omega) (by omega)
theorem hd_a {Q : Int → Int} {m d d0 : Int} {r1 r0 : Int64} (e1 : r1.toInt = Q (d0 + 1)) (e0 : r0.toInt = Q d0) (hd : d = d0 + 1) (hm : d0 + 1 < m) (c : r1.toInt < r0.toInt) : (d = d0 + 1 ∧ d0 + 1 < m ∧ Q (d0 + 1) < Q d0) ∨ (d = d0 ∧ ¬ (d0 + 1 < m ∧ Q (d0 + 1) < Q d0)) := Or.inl ⟨hd, hm, by rw [← e1, ← e0]; exact c⟩
theorem hd_b {Q : Int → Int} {m d d0 : Int} (hd : d = d0) (hm : ¬ d0 + 1 < m) : (d = d0 + 1 ∧ d0 + 1 < m ∧ Q (d0 + 1) < Q d0) ∨ (d = d0 ∧ ¬ (d0 + 1 < m ∧ Q (d0 + 1) < Q d0)) := Or.inr ⟨hd, fun z => hm z.1⟩
theorem hd_c {Q : Int → Int} {m d d0 : Int} {r1 r0 : Int64} (e1 : r1.toInt = Q (d0 + 1)) (e0 : r0.toInt = Q d0) (hd : d = d0) (c : ¬ r1.toInt < r0.toInt) : (d = d0 + 1 ∧ d0 + 1 < m ∧ Q (d0 + 1) < Q d0) ∨ (d = d0 ∧ ¬ (d0 + 1 < m ∧ Q (d0 + 1) < Q d0)) := Or.inr ⟨hd, fun z => c (by rw [e1, e0]; exact z.2)⟩
/-! products, and nothing at first -/
theorem i6_of {y : Int64} {v : Int} (h : y.toInt = v) : y = I6 v := by
  have r := n_rngL y
  apply Int64.toInt_inj.mp
  rw [I6_to (by omega) (by omega), h]
def prP (pr : Nat → Int64) (T : Nat → Int32) (last a b : Int) : Prop := ∀ i j : Int, ((0 ≤ i ∧ i < a ∧ 0 ≤ j ∧ j ≤ last) ∨ (i = a ∧ 0 ≤ j ∧ j < b)) → pr (5 * i + j).toNat = I6 (dtn T i j 6)
theorem pp_0 {pr : Nat → Int64} {T : Nat → Int32} {last a b : Int} (ha : a = 0) (hb : b = 0) : prP pr T last a b := fun i j h => absurd h (by omega)
theorem pp_out {pr : Nat → Int64} {T : Nat → Int32} {last a b a' b' : Int} (h : prP pr T last a b) (hb : last < b) (ea : a' = a + 1) (eb : b' = 0) : prP pr T last a' b' := fun i j q => h i j (by omega)
theorem pp_in {pr : Nat → Int64} {T : Nat → Int32} {last a b b' : Int} (h : prP pr T last a b) (eb : b = b') : prP pr T last a b' := eb ▸ h
theorem pp_put {pr pr' : Nat → Int64} {T : Nat → Int32} {last a b b' n : Int} {y : Int64} (h : prP pr T last a b) (e : pr' = vp_updL pr n.toNat y) (en : n = 5 * a + b) (hy : y = I6 (dtn T a b 6)) (h0 : 0 ≤ a) (hb : 0 ≤ b ∧ b ≤ last) (hl : last ≤ 4) (eb : b' = b + 1) : prP pr' T last a b' := by
  intro i j q
  by_cases c : i = a ∧ j = b
  · obtain ⟨c1, c2⟩ := c
    subst c1 c2
    rw [e, u_eqL (by omega)]
    exact hy
  · rw [e, u_neL (by omega)]
    exact h i j (by omega)
theorem pp_end {pr : Nat → Int64} {T : Nat → Int32} {last a b : Int} (h : prP pr T last a b) (ha : last < a) : prW pr T last := fun i j a0 a1 b0 b1 => h i j (Or.inl ⟨a0, by omega, b0, b1⟩)
def czW (cr : Nat → Int64) (n : Int) : Prop := ∀ j : Int, 0 ≤ j → j < n → cr j.toNat = I6 0
theorem cz_put {cr cr' : Nat → Int64} {n n' : Int} {y : Int64} (h : czW cr n) (e : cr' = vp_updL cr n.toNat y) (hy : y = 0) (h0 : 0 ≤ n) (en : n' = n + 1) : czW cr' n' := by
  intro j a b
  by_cases c : j = n
  · subst c
    rw [e, u_eqL rfl, hy]; rfl
  · rw [e, u_neL (by omega)]
    exact h j a (by omega)
theorem z0_end {ba ba' cr : Nat → Int64} {last n : Int} {y : Int64} (h : czW cr n) (hn : last < n) (e : ba' = vp_updL ba (0 : Int).toNat y) (hy : y = 0) : z0W ba' cr last := by
  refine ⟨?_, fun j a b => h j a (by omega)⟩
  rw [e, u_eqL (show (0 : Nat) = (0 : Int).toNat from rfl), hy]; rfl
/-! how many lines -/
theorem lc_m {a c : Int} (ha : 0 ≤ a) (hc : 1 ≤ c ∧ c ≤ 24) : a ≤ a * c ∧ a * c ≤ 24 * a := by
  have h1 := Int.mul_le_mul_of_nonneg_left hc.1 ha
  have h2 := Int.mul_le_mul_of_nonneg_left hc.2 ha
  omega
theorem nm_step {co : Int → Int} {n n' a a' c : Int} (h : a = nmK co n.toNat) (h0 : 0 ≤ n) (hc : c = co n) (e : a' = a * c) (en : n' = n + 1) : a' = nmK co n'.toNat := by
  have z : n'.toNat = n.toNat + 1 := by omega
  rw [z, e, h, hc]
  show _ = nmK co n.toNat * co (n.toNat : Int)
  have z2 : ((n.toNat : Nat) : Int) = n := by omega
  rw [z2]
theorem lo30 {lo g m : Int} (hg : 1 ≤ g) (h : -30 ≤ lo ∧ lo + g * (m - 1) ≤ 30) (hm : 1 ≤ m) : -30 ≤ lo ∧ lo ≤ 30 := by
  have q := Int.mul_nonneg (show (0 : Int) ≤ g by omega) (show (0 : Int) ≤ m - 1 by omega)
  omega
