/-! how large what is sent can be; the best digit (draft, p40 and on) -/
def xbW (x : Int → Int) (last : Int) : Prop := ∀ s : Int, 0 ≤ s → s < last → -30 ≤ x s ∧ x s ≤ 30
theorem tb_at {T : Nat → Int32} {s r : Int} (h : TB T 99) (h0 : 0 ≤ s) (hs : s ≤ 4) (r0 : 0 ≤ r) (hr : r ≤ 5) : -99 ≤ (T (6 * s + r).toNat).toInt ∧ (T (6 * s + r).toNat).toInt ≤ 99 := h _ (by omega)
theorem rs_bd {T : Nat → Int32} {x : Int → Int} {r : Int} (h : TB T 99) (r0 : 0 ≤ r) (hr : r ≤ 5) : ∀ n : Nat, n ≤ 5 → xbW x (n : Int) → -2970 * (n : Int) ≤ rsK T x r n ∧ rsK T x r n ≤ 2970 * (n : Int)
  | 0, _, _ => ⟨Int.le_refl 0, Int.le_refl 0⟩
  | n + 1, hn, hx => by
    have ih := rs_bd (T := T) (x := x) h r0 hr n (by omega) (fun s a b => hx s a (by omega))
    have q := n_mulb (A := 99) (B := 30) (by decide) (by decide) (tb_at (s := (n : Int)) h (by omega) (by omega) r0 hr) (hx (n : Int) (by omega) (by omega))
    show -2970 * ((n + 1 : Nat) : Int) ≤ rsK T x r n + (T (6 * (n : Int) + r).toNat).toInt * x (n : Int) ∧ rsK T x r n + (T (6 * (n : Int) + r).toNat).toInt * x (n : Int) ≤ 2970 * ((n + 1 : Nat) : Int)
    omega
theorem cr_bd {T : Nat → Int32} {x : Int → Int} {n : Nat} {j : Int} (h : TB T 99) (hn : n ≤ 5) (hx : xbW x (n : Int)) (j0 : 0 ≤ j) (hj : j ≤ 4) : ∀ m : Nat, m ≤ 6 → -1470150 * (m : Int) ≤ crK T x n j m ∧ crK T x n j m ≤ 1470150 * (m : Int)
  | 0, _ => ⟨Int.le_refl 0, Int.le_refl 0⟩
  | m + 1, hm => by
    have ih := cr_bd (T := T) (x := x) (n := n) (j := j) h hn hx j0 hj m (by omega)
    have r := rs_bd (T := T) (x := x) (r := (m : Int)) h (by omega) (by omega) n hn hx
    have q := n_mulb (A := 14850) (B := 99) (by decide) (by decide) (a := rsK T x (m : Int) n) (by omega) (tb_at (s := j) (r := (m : Int)) h j0 hj (by omega) (by omega))
    show -1470150 * ((m + 1 : Nat) : Int) ≤ crK T x n j m - rsK T x (m : Int) n * (T (6 * j + (m : Int)).toNat).toInt ∧ crK T x n j m - rsK T x (m : Int) n * (T (6 * j + (m : Int)).toNat).toInt ≤ 1470150 * ((m + 1 : Nat) : Int)
    omega
theorem bs_bd {T : Nat → Int32} {x : Int → Int} {n : Nat} (h : TB T 99) (hn : n ≤ 5) (hx : xbW x (n : Int)) : ∀ m : Nat, m ≤ 6 → 0 ≤ bsK T x n m ∧ bsK T x n m ≤ 220522500 * (m : Int)
  | 0, _ => ⟨Int.le_refl 0, Int.le_refl 0⟩
  | m + 1, hm => by
    have ih := bs_bd (T := T) (x := x) (n := n) h hn hx m (by omega)
    have r := rs_bd (T := T) (x := x) (r := (m : Int)) h (by omega) (by omega) n hn hx
    have q := n_sq (d := rsK T x (m : Int) n) (B := 14850) (by omega)
    show 0 ≤ bsK T x n m + rsK T x (m : Int) n * rsK T x (m : Int) n ∧ bsK T x n m + rsK T x (m : Int) n * rsK T x (m : Int) n ≤ 220522500 * ((m + 1 : Nat) : Int)
    omega
/-- squares of a row, with the last number put in -/
def yW (x : Int → Int) (n : Nat) (X : Int) : Int → Int := fun s => if s = (n : Int) then X else x s
theorem qd_row {T : Nat → Int32} {x : Int → Int} {n : Nat} {X : Int} : qdK (bsK T x n 6) (dtn T (n : Int) (n : Int) 6) (crK T x n (n : Int) 6) X = bsK T (yW x n X) (n + 1) 6 := by
  have c : ∀ k : Int, 0 ≤ k → k < (n : Int) → x k = yW x n X k := fun k a b => (if_neg (by omega)).symm
  rw [bsK_succ, bsK_congr c, crK_congr c]
  have e : yW x n X (n : Int) = X := if_pos rfl
  rw [e]
  rfl
theorem qd_bd {T : Nat → Int32} {x : Int → Int} {last X : Int} (h : TB T 99) (h0 : 0 ≤ last) (hl : last ≤ 4) (hx : xbW x last) (hX : -30 ≤ X ∧ X ≤ 30) : 0 ≤ qdK (bsK T x last.toNat 6) (dtn T last last 6) (crK T x last.toNat last 6) X ∧ qdK (bsK T x last.toNat 6) (dtn T last last 6) (crK T x last.toNat last 6) X ≤ 1323135000 := by
  obtain ⟨n, rfl⟩ : ∃ n : Nat, last = (n : Int) := ⟨last.toNat, by omega⟩
  have hn : ((n : Int)).toNat = n := by omega
  rw [hn, qd_row]
  have q := bs_bd (T := T) (x := yW x n X) (n := n + 1) h (by omega) (fun s a b => by
    unfold yW
    by_cases e : s = (n : Int)
    · rw [if_pos e]; exact hX
    · rw [if_neg e]; exact hx s a (by omega)) 6 (by omega)
  omega
theorem xv_eq {a b q : Int32} {lo g d : Int} (ha : a.toInt = lo) (hb : b.toInt = g) (hq : q.toInt = d) (h1 : -2147483648 ≤ g * d) (h2 : g * d ≤ 2147483647) (h3 : -2147483648 ≤ lo + g * d) (h4 : lo + g * d ≤ 2147483647) : (a + b * q).toInt = lo + g * d := n_add ha (n_mul hb hq h1 h2) h3 h4
/-! floor of a quotient -/
theorem tdiv_fl {a b q : Int} (hb : 0 < b) (h : (a < 0 ∧ ¬ a.tdiv b * b = a → q = a.tdiv b - 1) ∧ (¬ (a < 0 ∧ ¬ a.tdiv b * b = a) → q = a.tdiv b)) : q * b ≤ a ∧ a < (q + 1) * b := by
  have e : a.tdiv b * b + a.tmod b = a := by rw [Int.mul_comm]; exact Int.mul_tdiv_add_tmod a b
  have m1 : -b < a.tmod b := Int.lt_tmod_of_pos a hb
  have m2 : a.tmod b < b := Int.tmod_lt_of_pos a hb
  by_cases c : a < 0
  · have m3 : a.tmod b ≤ 0 := by
      have := Int.tmod_nonneg (a := -a) b (by omega)
      rw [Int.neg_tmod] at this
      omega
    by_cases c2 : a.tdiv b * b = a
    · have := h.2 (fun z => z.2 c2)
      rw [this, Int.add_mul, Int.one_mul]
      omega
    · have := h.1 ⟨c, c2⟩
      rw [this, Int.sub_add_cancel, Int.sub_mul, Int.one_mul]
      omega
  · have m3 : 0 ≤ a.tmod b := Int.tmod_nonneg b (by omega)
    have := h.2 (fun z => c z.1)
    rw [this, Int.add_mul, Int.one_mul]
    omega
theorem xor_neg {a b : Int64} (hb : 0 < b.toInt) : a ^^^ b < 0 ↔ a.toInt < 0 := by
  rw [Int64.lt_iff_toInt_lt]
  have z : (0 : Int64).toInt = 0 := by decide
  rw [z]
  have e1 : (a ^^^ b).toInt = (a.toBitVec ^^^ b.toBitVec).toInt := rfl
  have m := BitVec.msb_xor (x := a.toBitVec) (y := b.toBitVec)
  rw [BitVec.msb_eq_toInt, BitVec.msb_eq_toInt, BitVec.msb_eq_toInt] at m
  rw [e1]
  have hb2 : decide (b.toBitVec.toInt < 0) = false := decide_eq_false (by show ¬ b.toInt < 0; omega)
  rw [hb2, Bool.xor_false] at m
  exact ⟨fun h => of_decide_eq_true (m.symm.trans (decide_eq_true h)), fun h => of_decide_eq_true (m.trans (decide_eq_true h))⟩
theorem fl_W {a b r : Int64} {A B : Int} (h : flW a b r) (ha : a.toInt = A) (hb : b.toInt = B) (h0 : 0 < B) (hB : B ≤ 1099511627776) (hA : -1099511627776 ≤ A ∧ A ≤ 1099511627776) : r.toInt * B ≤ A ∧ A < (r.toInt + 1) * B := by
  have e : A.tdiv B * B + A.tmod B = A := by rw [Int.mul_comm]; exact Int.mul_tdiv_add_tmod A B
  have m1 : -B < A.tmod B := Int.lt_tmod_of_pos A h0
  have m2 : A.tmod B < B := Int.tmod_lt_of_pos A h0
  have d1 : (A.tdiv B).natAbs ≤ A.natAbs := by rw [Int.natAbs_tdiv]; exact Nat.div_le_self _ _
  have ed : (a / b).toInt = A.tdiv B := by rw [Int64.toInt_div, ha, hb]; exact n_bmL (by omega) (by omega)
  have ep : (a / b * b).toInt = A.tdiv B * B := n_mulL ed hb (by omega) (by omega)
  have hx : a ^^^ b < 0 ↔ A < 0 := by rw [xor_neg (by omega), ha]
  have hq : a / b * b = a ↔ A.tdiv B * B = A := by rw [← Int64.toInt_inj, ep, ha]
  refine tdiv_fl h0 ⟨fun c => ?_, fun c => ?_⟩
  · have er := h.1 ⟨hx.mpr c.1, fun z => c.2 (hq.mp z)⟩
    have one : (1 : Int64).toInt = 1 := by decide
    rw [er]
    exact n_subL ed one (by omega) (by omega)
  · have er := h.2 (fun z => c ⟨hx.mp z.1, fun y => z.2 (hq.mpr y)⟩)
    rw [er]
    exact ed
/-! the best digit of a line -/
theorem bd_P {T : Nat → Int32} {last : Int} (h : TB T 99) (h0 : 0 ≤ last) (hl : last ≤ 4) : 0 ≤ dtn T last last 6 ∧ dtn T last last 6 ≤ 58806 := ⟨dtn_nn 6, TB_SH h last h0 hl⟩
theorem bd_w {T : Nat → Int32} {pr : Nat → Int64} {last g : Int} {p w gl : Int64} (hp : prW pr T last) (h : TB T 99) (h0 : 0 ≤ last) (hl : last ≤ 4) (ep : p = pr (5 * last + last).toNat) (eg : gl.toInt = g) (hg : 1 ≤ g ∧ g ≤ 64) (ew : w = p * gl) : w.toInt = dtn T last last 6 * g ∧ 0 ≤ dtn T last last 6 * g ∧ dtn T last last 6 * g ≤ 3763584 := by
  have b := bd_P h h0 hl
  have q := n_mulb (A := 58806) (B := 64) (a := dtn T last last 6) (b := g) (by decide) (by decide) (by omega) (by omega)
  have n := Int.mul_nonneg b.1 (show (0 : Int) ≤ g by omega)
  have pi : p.toInt = dtn T last last 6 := by rw [ep, hp last last h0 (Int.le_refl _) h0 (Int.le_refl _), I6_to (by omega) (by omega)]
  refine ⟨?_, n, by omega⟩
  rw [ew]
  exact n_mulL pi eg (by omega) (by omega)
theorem bd_flat {T : Nat → Int32} {x : Int → Int} {pr : Nat → Int64} {last g lo m : Int} {p w gl : Int64} {d : Int} (hp : prW pr T last) (h : TB T 99) (h0 : 0 ≤ last) (hl : last ≤ 4) (ep : p = pr (5 * last + last).toNat) (eg : gl.toInt = g) (hg : 1 ≤ g ∧ g ≤ 64) (ew : w = p * gl) (hw : w.toInt ≤ 0) (hm : 1 ≤ m) (hd : d = 0) : fmQ (fun k => qdK (bsK T x last.toNat 6) (dtn T last last 6) (crK T x last.toNat last 6) (lo + g * k)) m d := by
  have b := bd_P h h0 hl
  have q := bd_w hp h h0 hl ep eg hg ew
  have z : dtn T last last 6 = 0 := by
    by_cases c : dtn T last last 6 = 0
    · exact c
    · have := Int.mul_pos (show 0 < dtn T last last 6 by omega) (show 0 < g by omega)
      omega
  rw [hd]
  have cz := crK_0 (x := x) (n := last.toNat) z
  rw [z]
  exact kw_flat cz hm
theorem bd_best {T : Nat → Int32} {x : Int → Int} {ba cr pr : Nat → Int64} {last g lo m d0 d : Int} {p p2 w gl c l64 a1 a2 r : Int64} (hs : seW T x ba cr last last) (hp : prW pr T last) (h : TB T 99) (hx : xbW x last) (h0 : 0 ≤ last) (hl : last ≤ 4) (ep : p = pr (5 * last + last).toNat) (eg : gl.toInt = g) (hg : 1 ≤ g ∧ g ≤ 64) (ew : w = p * gl) (hw : ¬ w.toInt ≤ 0) (hm : 1 ≤ m)
    (ec : c = cr (5 * last + last).toNat) (el : l64.toInt = lo) (hlo : -30 ≤ lo ∧ lo ≤ 30) (ep2 : p2 = pr (5 * last + last).toNat) (e1 : a1 = l64 * p2) (e2 : a2 = c - a1) (fl : flW a2 w r)
    (e0 : (r.toInt < 0 ∧ d0 = 0) ∨ (m - 1 ≤ r.toInt ∧ d0 = m - 1) ∨ (0 ≤ r.toInt ∧ r.toInt < m - 1 ∧ d0 = r.toInt))
    (hd : (d = d0 + 1 ∧ d0 + 1 < m ∧ qdK (bsK T x last.toNat 6) (dtn T last last 6) (crK T x last.toNat last 6) (lo + g * (d0 + 1)) < qdK (bsK T x last.toNat 6) (dtn T last last 6) (crK T x last.toNat last 6) (lo + g * d0)) ∨ (d = d0 ∧ ¬ (d0 + 1 < m ∧ qdK (bsK T x last.toNat 6) (dtn T last last 6) (crK T x last.toNat last 6) (lo + g * (d0 + 1)) < qdK (bsK T x last.toNat 6) (dtn T last last 6) (crK T x last.toNat last 6) (lo + g * d0)))) :
    fmQ (fun k => qdK (bsK T x last.toNat 6) (dtn T last last 6) (crK T x last.toNat last 6) (lo + g * k)) m d := by
  have b := bd_P h h0 hl
  have q := bd_w hp h h0 hl ep eg hg ew
  have n5 : last.toNat ≤ 5 := by omega
  have hx' : xbW x ((last.toNat : Nat) : Int) := fun s a b => hx s a (by omega)
  have cb := cr_bd (T := T) (x := x) (n := last.toNat) (j := last) h n5 hx' h0 hl 6 (by omega)
  have pi : p2.toInt = dtn T last last 6 := by rw [ep2, hp last last h0 (Int.le_refl _) h0 (Int.le_refl _), I6_to (by omega) (by omega)]
  have ci : c.toInt = crK T x last.toNat last 6 := by rw [ec, (hs last h0 (Int.le_refl _)).2 last (Int.le_refl _) (Int.le_refl _), I6_to (by omega) (by omega)]
  have mb := n_mulb (A := 30) (B := 58806) (a := lo) (b := dtn T last last 6) (by decide) (by decide) (by omega) (by omega)
  have i1 : a1.toInt = lo * dtn T last last 6 := by rw [e1]; exact n_mulL el pi (by omega) (by omega)
  have i2 : a2.toInt = crK T x last.toNat last 6 - lo * dtn T last last 6 := by rw [e2]; exact n_subL ci i1 (by omega) (by omega)
  have f := fl_W fl i2 q.1 (by omega) (by omega) (by omega)
  exact kw_best (by omega) hm rfl (by omega) rfl f.1 f.2 e0 hd
theorem l2i_e {z : Int32} {y : Int64} (e : z = y.toInt32) (h : -2147483648 ≤ y.toInt ∧ y.toInt ≤ 2147483647) : z.toInt = y.toInt := by
  rw [e, Int64.toInt_toInt32]
  exact n_bm h.1 h.2
/-- a place on the line lies within its ends -/
theorem ln_in {lo g m d : Int} (hg : 1 ≤ g) (hd : 0 ≤ d ∧ d < m) (h1 : -30 ≤ lo) (h2 : lo + g * (m - 1) ≤ 30) : -30 ≤ lo + g * d ∧ lo + g * d ≤ 30 ∧ 0 ≤ g * d ∧ g * d ≤ 60 := by
  have a1 : 0 ≤ g * d := Int.mul_nonneg (by omega) hd.1
  have a2 : g * d ≤ g * (m - 1) := Int.mul_le_mul_of_nonneg_left (by omega) (by omega)
  omega
theorem bd_q {T : Nat → Int32} {x : Int → Int} {last lo g m d : Int} {r : Int64} {a b q : Int32} (h : r = I6 (qdK (bsK T x last.toNat 6) (dtn T last last 6) (crK T x last.toNat last 6) (a + b * q).toInt)) (tb : TB T 99) (hx : xbW x last) (h0 : 0 ≤ last) (hl : last ≤ 4) (ha : a.toInt = lo) (hb : b.toInt = g) (hq : q.toInt = d) (hg : 1 ≤ g) (hd : 0 ≤ d ∧ d < m) (h1 : -30 ≤ lo) (h2 : lo + g * (m - 1) ≤ 30) : r.toInt = qdK (bsK T x last.toNat 6) (dtn T last last 6) (crK T x last.toNat last 6) (lo + g * d) := by
  have i := ln_in hg hd h1 h2
  have e := xv_eq ha hb hq (by omega) (by omega) (by omega) (by omega)
  have b := qd_bd (T := T) (x := x) (last := last) (X := lo + g * d) tb h0 hl hx ⟨i.1, i.2.1⟩
  rw [h, e]
  exact I6_to (by omega) (by omega)
theorem hd_a {Q : Int → Int} {m d d0 : Int} {r1 r0 : Int64} (e1 : r1.toInt = Q (d0 + 1)) (e0 : r0.toInt = Q d0) (hd : d = d0 + 1) (hm : d0 + 1 < m) (c : r1.toInt < r0.toInt) : (d = d0 + 1 ∧ d0 + 1 < m ∧ Q (d0 + 1) < Q d0) ∨ (d = d0 ∧ ¬ (d0 + 1 < m ∧ Q (d0 + 1) < Q d0)) := Or.inl ⟨hd, hm, by rw [← e1, ← e0]; exact c⟩
theorem hd_b {Q : Int → Int} {m d d0 : Int} (hd : d = d0) (hm : ¬ d0 + 1 < m) : (d = d0 + 1 ∧ d0 + 1 < m ∧ Q (d0 + 1) < Q d0) ∨ (d = d0 ∧ ¬ (d0 + 1 < m ∧ Q (d0 + 1) < Q d0)) := Or.inr ⟨hd, fun z => hm z.1⟩
theorem hd_c {Q : Int → Int} {m d d0 : Int} {r1 r0 : Int64} (e1 : r1.toInt = Q (d0 + 1)) (e0 : r0.toInt = Q d0) (hd : d = d0) (c : ¬ r1.toInt < r0.toInt) : (d = d0 + 1 ∧ d0 + 1 < m ∧ Q (d0 + 1) < Q d0) ∨ (d = d0 ∧ ¬ (d0 + 1 < m ∧ Q (d0 + 1) < Q d0)) := Or.inr ⟨hd, fun z => c (by rw [e1, e0]; exact z.2)⟩
/-! products, and nothing at first -/
theorem i6_of {y : Int64} {v : Int} (h : y.toInt = v) : y = I6 v := by
  have r := n_rngL y
  apply Int64.toInt_inj.mp
  rw [I6_to (by omega) (by omega), h]
def prP (pr : Nat → Int64) (T : Nat → Int32) (last a b : Int) : Prop := ∀ i j : Int, ((0 ≤ i ∧ i < a ∧ 0 ≤ j ∧ j ≤ last) ∨ (i = a ∧ 0 ≤ j ∧ j < b)) → pr (5 * i + j).toNat = I6 (dtn T i j 6)
theorem pp_0 {pr : Nat → Int64} {T : Nat → Int32} {last a b : Int} (ha : a = 0) (hb : b = 0) : prP pr T last a b := fun i j h => absurd h (by omega)
theorem pp_out {pr : Nat → Int64} {T : Nat → Int32} {last a b a' b' : Int} (h : prP pr T last a b) (hb : last < b) (ea : a' = a + 1) (eb : b' = 0) : prP pr T last a' b' := fun i j q => h i j (by omega)
theorem pp_in {pr : Nat → Int64} {T : Nat → Int32} {last a b b' : Int} (h : prP pr T last a b) (eb : b = b') : prP pr T last a b' := eb ▸ h
theorem pp_put {pr pr' : Nat → Int64} {T : Nat → Int32} {last a b b' n : Int} {y : Int64} (h : prP pr T last a b) (e : pr' = vp_updL pr n.toNat y) (en : n = 5 * a + b) (hy : y = I6 (dtn T a b 6)) (h0 : 0 ≤ a) (hb : 0 ≤ b ∧ b ≤ last) (hl : last ≤ 4) (eb : b' = b + 1) : prP pr' T last a b' := by
  intro i j q
  by_cases c : i = a ∧ j = b
  · obtain ⟨c1, c2⟩ := c
    subst c1 c2
    rw [e, u_eqL (by omega)]
    exact hy
  · rw [e, u_neL (by omega)]
    exact h i j (by omega)
theorem pp_end {pr : Nat → Int64} {T : Nat → Int32} {last a b : Int} (h : prP pr T last a b) (ha : last < a) : prW pr T last := fun i j a0 a1 b0 b1 => h i j (Or.inl ⟨a0, by omega, b0, b1⟩)
def czW (cr : Nat → Int64) (n : Int) : Prop := ∀ j : Int, 0 ≤ j → j < n → cr j.toNat = I6 0
theorem cz_put {cr cr' : Nat → Int64} {n n' : Int} {y : Int64} (h : czW cr n) (e : cr' = vp_updL cr n.toNat y) (hy : y = 0) (h0 : 0 ≤ n) (en : n' = n + 1) : czW cr' n' := by
  intro j a b
  by_cases c : j = n
  · subst c
    rw [e, u_eqL rfl, hy]; rfl
  · rw [e, u_neL (by omega)]
    exact h j a (by omega)
theorem z0_end {ba ba' cr : Nat → Int64} {last n : Int} {y : Int64} (h : czW cr n) (hn : last < n) (e : ba' = vp_updL ba (0 : Int).toNat y) (hy : y = 0) : z0W ba' cr last := by
  refine ⟨?_, fun j a b => h j a (by omega)⟩
  rw [e, u_eqL (show (0 : Nat) = (0 : Int).toNat from rfl), hy]; rfl
/-! how many lines -/
theorem lc_m {a c : Int} (ha : 0 ≤ a) (hc : 1 ≤ c ∧ c ≤ 24) : a ≤ a * c ∧ a * c ≤ 24 * a := by
  have h1 := Int.mul_le_mul_of_nonneg_left hc.1 ha
  have h2 := Int.mul_le_mul_of_nonneg_left hc.2 ha
  omega
theorem nm_step {co : Int → Int} {n n' a a' c : Int} (h : a = nmK co n.toNat) (h0 : 0 ≤ n) (hc : c = co n) (e : a' = a * c) (en : n' = n + 1) : a' = nmK co n'.toNat := by
  have z : n'.toNat = n.toNat + 1 := by omega
  rw [z, e, h, hc]
  show _ = nmK co n.toNat * co (n.toNat : Int)
  have z2 : ((n.toNat : Nat) : Int) = n := by omega
  rw [z2]
theorem lo30 {lo g m : Int} (hg : 1 ≤ g) (h : -30 ≤ lo ∧ lo + g * (m - 1) ≤ 30) (hm : 1 ≤ m) : -30 ≤ lo ∧ lo ≤ 30 := by
  have q := Int.mul_nonneg (show (0 : Int) ≤ g by omega) (show (0 : Int) ≤ m - 1 by omega)
  omega
/-! what is put ahead: the rows in their order, line by line (draft, p40, p41) -/
def rowF (T row : Nat → Int32) (per : Int) (S : Nat) : Int → Int := fun k => bsK T (fun s => (row s.toNat).toInt - per + per * dgK (fun _ => 3) S k s) S 6
theorem rowF_at {T row : Nat → Int32} {per last L d : Int} {di x : Int → Int} (h0 : 0 ≤ last) (hd : 0 ≤ d ∧ d < 3) (hdi : ∀ s : Int, 0 ≤ s → s < last → 0 ≤ di s ∧ di s < 3) (hL : lnK (fun _ => 3) di last.toNat = L) (hx : ∀ s : Int, 0 ≤ s → s < last → x s = (row s.toNat).toInt - per + per * di s) : qdK (bsK T x last.toNat 6) (dtn T last last 6) (crK T x last.toNat last 6) ((row last.toNat).toInt - per + per * d) = rowF T row per (last.toNat + 1) (3 * L + d) := by
  obtain ⟨n, rfl⟩ : ∃ n : Nat, last = (n : Int) := ⟨last.toNat, by omega⟩
  have hn : ((n : Int)).toNat = n := by omega
  rw [hn] at hL ⊢
  rw [qd_row]
  unfold rowF
  refine bsK_congr (fun k k0 k1 => ?_) 6
  have e1 : (3 * L + d) / 3 = L := by omega
  have e2 : (3 * L + d) % 3 = d := by omega
  show yW x n ((row n).toInt - per + per * d) k = (row k.toNat).toInt - per + per * dgK (fun _ => 3) (n + 1) (3 * L + d) k
  by_cases c : k = (n : Int)
  · subst c
    rw [dg_last, e2, hn]
    exact if_pos rfl
  · have e3 : dgK (fun _ => 3) (n + 1) (3 * L + d) k = di k := by
      rw [dg_next (by omega)]
      show dgK (fun _ => 3) n ((3 * L + d) / 3) k = di k
      rw [e1, ← hL]
      exact dg_ln n (fun s a b => hdi s a b) k k0 (by omega)
    rw [e3, ← hx k k0 (by omega)]
    exact if_neg c
theorem rowF_bd {T row : Nat → Int32} {per : Int} {S : Nat} {k : Int} (h : TB T 99) (hS : S ≤ 5) (hr : ∀ s : Int, 0 ≤ s → s < (S : Int) → -7 ≤ (row s.toNat).toInt ∧ (row s.toNat).toInt ≤ 7) (hp : 2 ≤ per ∧ per ≤ 16) : 0 ≤ rowF T row per S k ∧ rowF T row per S k ≤ 1323135000 := by
  have q := bs_bd (T := T) (x := fun s => (row s.toNat).toInt - per + per * dgK (fun _ => 3) S k s) (n := S) h hS (fun s a b => by
    have d := dg_rng (co := fun _ => 3) S k s (fun _ _ _ => by show (1 : Int) ≤ 3; omega) a b
    have r := hr s a b
    have m1 := Int.mul_nonneg (show (0 : Int) ≤ per by omega) d.1
    have m2 : per * dgK (fun _ => 3) S k s ≤ per * 2 := Int.mul_le_mul_of_nonneg_left (by have := d.2; show dgK (fun _ => 3) S k s ≤ 2; omega) (by omega)
    show -30 ≤ (row s.toNat).toInt - per + per * dgK (fun _ => 3) S k s ∧ (row s.toNat).toInt - per + per * dgK (fun _ => 3) S k s ≤ 30
    omega) 6 (by omega)
  unfold rowF
  omega
def fdW (f : Nat → Int32) (S : Nat) (a : Int) : Prop := ∀ s : Int, 0 ≤ s → s < (S : Int) → (f s.toNat).toInt = dgK (fun _ => 3) S a s - 1
def bfW (F : Int → Int) (f : Nat → Int32) (S : Nat) (n b : Int) : Prop := ∃ a : Int, amK F n b a ∧ (0 < n → fdW f S a)
theorem bf_0 {F : Int → Int} {f : Nat → Int32} {S : Nat} {n b : Int} (hn : n = 0) (hb : b = 1000000000000000) : bfW F f S n b := ⟨0, Or.inl ⟨hn, hb⟩, fun h => absurd h (by omega)⟩
theorem bf_line {F : Int → Int} {f f' : Nat → Int32} {S : Nat} {n n' L b b' d v : Int} (h : bfW F f S n b) (en : n = 3 * L) (en' : n' = 3 * L + 3) (hL : 0 ≤ L) (fm : fmQ (fun k => F (3 * L + k)) 3 d) (ev : v = F (3 * L + d)) (hf : ∀ k : Int, F k < 1000000000000000) (c : (v < b ∧ b' = v ∧ fdW f' S (3 * L + d)) ∨ (¬ v < b ∧ b' = b ∧ f' = f)) : bfW F f' S n' b' := by
  obtain ⟨a, h1, h2⟩ := h
  rcases c with ⟨c1, c2, c3⟩ | ⟨c1, c2, c3⟩
  · exact ⟨3 * L + d, am_line h1 en en' (by omega) hL fm ev (fun k _ _ => hf k) (Or.inl ⟨c1, c2, rfl⟩), fun _ => c3⟩
  · refine ⟨a, am_line h1 en en' (by omega) hL fm ev (fun k _ _ => hf k) (Or.inr ⟨c1, c2, rfl⟩), fun _ => ?_⟩
    rw [c3]
    by_cases z : 0 < n
    · exact h2 z
    · exfalso
      rcases h1 with ⟨_, hb⟩ | ⟨a1, a2, _⟩
      · have := hf (3 * L + d); omega
      · omega
/-- the digits kept are those of the row's number -/
def kfW (f d : Nat → Int32) (last ld : Int) : Prop := (∀ s : Int, 0 ≤ s → s < last → (f s.toNat).toInt = (d s.toNat).toInt - 1) ∧ (f last.toNat).toInt = ld - 1
theorem kf_fd {f d : Nat → Int32} {last ld L : Int} {S : Nat} (h : kfW f d last ld) (h0 : 0 ≤ last) (hd : 0 ≤ ld ∧ ld < 3) (hdi : ∀ s : Int, 0 ≤ s → s < last → 0 ≤ (d s.toNat).toInt ∧ (d s.toNat).toInt < 3) (hL : lnK (fun _ => 3) (cW d) last.toNat = L) (eS : S = last.toNat + 1) : fdW f S (3 * L + ld) := by
  rw [eS]
  intro s a b
  obtain ⟨n, rfl⟩ : ∃ n : Nat, last = (n : Int) := ⟨last.toNat, by omega⟩
  have hn : ((n : Int)).toNat = n := by omega
  rw [hn] at hL b ⊢
  have e1 : (3 * L + ld) / 3 = L := by omega
  have e2 : (3 * L + ld) % 3 = ld := by omega
  by_cases c : s = (n : Int)
  · subst c
    rw [dg_last, e2]
    exact h.2
  · rw [dg_next (by omega), h.1 s a (by omega)]
    show _ = dgK (fun _ => 3) n ((3 * L + ld) / 3) s - 1
    rw [e1, ← hL, dg_ln (co := fun _ => 3) (di := cW d) n (fun s a b => hdi s a b) s a (by omega)]
    rfl
theorem kf_put {f f' d : Nat → Int32} {n n' : Int} {x z : Int32} (h : ∀ s : Int, 0 ≤ s → s < n → (f s.toNat).toInt = (d s.toNat).toInt - 1) (ex : x = d n.toNat) (ez : z.toInt = x.toInt - 1) (e : f' = upd f n.toNat z) (h0 : 0 ≤ n) (en : n' = n + 1) : ∀ s : Int, 0 ≤ s → s < n' → (f' s.toNat).toInt = (d s.toNat).toInt - 1 := by
  intro s a b
  rw [e]
  show (if s.toNat = n.toNat then z else f s.toNat).toInt = _
  by_cases c : s = n
  · subst c
    rw [if_pos rfl, ez, ex]
  · rw [if_neg (by omega)]
    exact h s a (by omega)
theorem kf_end {f f' d : Nat → Int32} {n last ld : Int} {z : Int32} (h : ∀ s : Int, 0 ≤ s → s < n → (f s.toNat).toInt = (d s.toNat).toInt - 1) (hn : last ≤ n ∧ n ≤ last ∧ 0 ≤ last) (e : f' = upd f last.toNat z) (ez : z.toInt = ld - 1) : kfW f' d last ld := by
  refine ⟨fun s a b => ?_, ?_⟩
  · rw [e]
    show (if s.toNat = last.toNat then z else f s.toNat).toInt = _
    rw [if_neg (by omega)]
    exact h s a (by omega)
  · rw [e]
    show (if last.toNat = last.toNat then z else f last.toNat).toInt = _
    rw [if_pos rfl]; exact ez
/-! the numbers set for a row -/
def snW (lo ga co row : Nat → Int32) (per n : Int) : Prop := ∀ k : Int, 0 ≤ k → k < n → (lo k.toNat).toInt = (row k.toNat).toInt - per ∧ (ga k.toNat).toInt = per ∧ (co k.toNat).toInt = 3
theorem sn_0 {lo ga co row : Nat → Int32} {per n : Int} (h : n = 0) : snW lo ga co row per n := fun k a b => absurd b (by omega)
theorem sn_put {lo lo' ga ga' co co' row : Nat → Int32} {per n n' r : Int} {v g c x : Int32} (h : snW lo ga co row per n) (e1 : lo' = upd lo n.toNat v) (e2 : ga' = upd ga n.toNat g) (e3 : co' = upd co n.toNat c) (ex : x = row n.toNat) (er : r = x.toInt) (ev : v.toInt = r - per) (eg : g.toInt = per) (ec : c.toInt = 3) (h0 : 0 ≤ n) (en : n' = n + 1) : snW lo' ga' co' row per n' := by
  intro k a b
  rw [e1, e2, e3]
  show (if k.toNat = n.toNat then v else lo k.toNat).toInt = _ ∧ (if k.toNat = n.toNat then g else ga k.toNat).toInt = per ∧ (if k.toNat = n.toNat then c else co k.toNat).toInt = 3
  by_cases q : k = n
  · subst q
    rw [if_pos rfl, if_pos rfl, if_pos rfl, ev, er, ex]
    exact ⟨rfl, eg, ec⟩
  · rw [if_neg (by omega), if_neg (by omega), if_neg (by omega)]
    exact h k a (by omega)
theorem sn_cn {lo ga co row : Nat → Int32} {per n last : Int} (h : snW lo ga co row per n) (hl : last ≤ n) : ∀ s : Int, 0 ≤ s → s < last → 1 ≤ cW co s ∧ cW co s ≤ 24 := by
  intro s a b
  have q := (h s a (by omega)).2.2
  unfold cW
  omega
theorem sn_di {lo ga co row d : Nat → Int32} {per n last : Int} (h : snW lo ga co row per n) (hl : last ≤ n) (z : ∀ s : Int, 0 ≤ s → s < 5 → (d s.toNat).toInt = 0) (h4 : last ≤ 4) : diW d co last := by
  intro s a b
  have q := (h s a (by omega)).2.2
  have w := z s a (by omega)
  unfold cW
  omega
theorem sn_nm {lo ga co row : Nat → Int32} {per n last : Int} (h : snW lo ga co row per n) (hl : last ≤ n) (h0 : 0 ≤ last) : ∀ di : Int → Int, lnK (cW co) di last.toNat = lnK (fun _ => 3) di last.toNat := fun di => ln_congr last.toNat (fun s a b => ⟨(h s a (by omega)).2.2, rfl⟩)
theorem nm_congr {co co' : Int → Int} : ∀ n : Nat, (∀ s : Int, 0 ≤ s → s < (n : Int) → co s = co' s) → nmK co n = nmK co' n
  | 0, _ => rfl
  | n + 1, h => by
    show nmK co n * co (n : Int) = nmK co' n * co' (n : Int)
    rw [nm_congr n (fun s a b => h s a (by omega)), h (n : Int) (by omega) (by omega)]
/-- where the walk stands: at a line of its number -/
def cuW (T row lo ga co d : Nat → Int32) (ba cr : Nat → Int64) (last L : Int) : Prop := seW T (xW lo ga d) ba cr last last ∧ diW d co last ∧ lnK (cW co) (cW d) last.toNat = L
theorem cu_0 {T row lo ga co d : Nat → Int32} {ba cr : Nat → Int64} {per n last L : Int} (hs : seW T (xW lo ga d) ba cr last last) (sn : snW lo ga co row per n) (hl : last ≤ n) (h0 : 0 ≤ last) (h4 : last ≤ 4) (z : ∀ s : Int, 0 ≤ s → s < 5 → (d s.toNat).toInt = 0) (hL : L = 0) : cuW T row lo ga co d ba cr last L :=
  ⟨hs, sn_di sn hl z h4, by rw [hL]; exact ln_0 last.toNat (fun s a b => z s a (by omega))⟩
theorem cu_next {T row lo ga co d d' : Nat → Int32} {ba cr ba' cr' : Nat → Int64} {last L L' N : Int} (h : cuW T row lo ga co d ba cr last L) (k : nlW T lo ga co d d' ba' cr' last) (eN : N = nmK (cW co) last.toNat) (hL : L + 1 < N) (eL : L' = L + 1) : cuW T row lo ga co d' ba' cr' last L' := by
  rcases k with ⟨k1, k2, k3⟩ | k
  · exact ⟨k3, k2, by rw [k1, h.2.2, eL]⟩
  · rw [h.2.2] at k; omega
/-- the numbers of the line at hand lie within 30 -/
theorem sn_x {lo ga co row d : Nat → Int32} {per n last : Int} (h : snW lo ga co row per n) (hl : last ≤ n) (hd : diW d co last) (hr : ∀ s : Int, 0 ≤ s → s < n → -7 ≤ (row s.toNat).toInt ∧ (row s.toNat).toInt ≤ 7) (hp : 2 ≤ per ∧ per ≤ 16) : ∀ s : Int, 0 ≤ s → s < last → xW lo ga d s = (row s.toNat).toInt - per + per * cW d s ∧ -30 ≤ xW lo ga d s ∧ xW lo ga d s ≤ 30 := by
  intro s a b
  have q := h s a (by omega)
  have w := hd s a b
  have r := hr s a (by omega)
  have w3 : cW co s = 3 := q.2.2
  have m1 := Int.mul_nonneg (show (0 : Int) ≤ per by omega) w.1
  have m2 : per * cW d s ≤ per * 2 := Int.mul_le_mul_of_nonneg_left (by omega) (by omega)
  have e := xv_eq (a := lo s.toNat) (b := ga s.toNat) (q := d s.toNat) (lo := (row s.toNat).toInt - per) (g := per) (d := cW d s) q.1 q.2.1 rfl (by omega) (by omega) (by omega) (by omega)
  have e2 : xW lo ga d s = (row s.toNat).toInt - per + per * cW d s := e
  exact ⟨e2, by omega⟩
theorem fm_congr {q q' : Int → Int} {m d : Int} (h : fmQ q m d) (e : ∀ k : Int, 0 ≤ k → k < m → q k = q' k) : fmQ q' m d := by
  obtain ⟨a, b, c, f⟩ := h
  refine ⟨a, b, fun k k0 k1 => ?_, fun k k0 k1 => ?_⟩
  · rw [← e d a b, ← e k k0 k1]; exact c k k0 k1
  · rw [← e d a b, ← e k k0 (by omega)]; exact f k k0 k1
/-- one line looked at -/
theorem lf_fm {T row lo ga co d : Nat → Int32} {ba cr : Nat → Int64} {per n last L : Int} {S : Nat} {x : Int → Int} (cu : cuW T row lo ga co d ba cr last L) (sn : snW lo ga co row per n) (hn : n = last + 1) (h0 : 0 ≤ last) (hr : ∀ s : Int, 0 ≤ s → s < n → -7 ≤ (row s.toNat).toInt ∧ (row s.toNat).toInt ≤ 7) (hp : 2 ≤ per ∧ per ≤ 16) (ex : x = xW lo ga d) (eS : S = last.toNat + 1) : ∀ k : Int, 0 ≤ k → k < 3 → qdK (bsK T x last.toNat 6) (dtn T last last 6) (crK T x last.toNat last 6) ((lo last.toNat).toInt + (ga last.toNat).toInt * k) = rowF T row per S (3 * L + k) := by
  intro k k0 k1
  rw [eS]
  have q := sn last h0 (by omega)
  rw [q.1, q.2.1, ex]
  exact rowF_at h0 ⟨k0, k1⟩ (di := cW d) (fun s a b => by
    have w := cu.2.1 s a b
    have w3 : cW co s = 3 := (sn s a (by omega)).2.2
    omega) (by rw [← sn_nm sn (by omega) h0]; exact cu.2.2) (fun s a b => (sn_x sn (by omega) cu.2.1 hr hp s a b).1)
theorem lf_L {T row lo ga co d : Nat → Int32} {ba cr : Nat → Int64} {per n last L : Int} (cu : cuW T row lo ga co d ba cr last L) (sn : snW lo ga co row per n) (hl : last ≤ n) (h0 : 0 ≤ last) : lnK (fun _ => 3) (cW d) last.toNat = L := by rw [← sn_nm sn hl h0]; exact cu.2.2
theorem lf_d {T row lo ga co d : Nat → Int32} {ba cr : Nat → Int64} {per n last L : Int} (cu : cuW T row lo ga co d ba cr last L) (sn : snW lo ga co row per n) (hl : last ≤ n) : ∀ s : Int, 0 ≤ s → s < last → 0 ≤ (d s.toNat).toInt ∧ (d s.toNat).toInt < 3 := by
  intro s a b
  have w := cu.2.1 s a b
  have w3 : cW co s = 3 := (sn s a (by omega)).2.2
  unfold cW at w w3
  omega
theorem lf_xb {T row lo ga co d : Nat → Int32} {ba cr : Nat → Int64} {per n last L : Int} (cu : cuW T row lo ga co d ba cr last L) (sn : snW lo ga co row per n) (hr : ∀ s : Int, 0 ≤ s → s < n → -7 ≤ (row s.toNat).toInt ∧ (row s.toNat).toInt ≤ 7) (hl : last ≤ n) (hp : 2 ≤ per ∧ per ≤ 16) : xbW (xW lo ga d) last := fun s a b => (sn_x sn hl cu.2.1 hr hp s a b).2
theorem lf_q {T row lo ga co d : Nat → Int32} {pr ba cr : Nat → Int64} {per n last L : Int} {S : Nat} {r : Int64} {q : Int32} {dg : Int} (h : ∀ T : Nat → Int32, prW pr T last → seW T (xW lo ga d) ba cr last last → r = I6 (qdK (bsK T (xW lo ga d) last.toNat 6) (dtn T last last 6) (crK T (xW lo ga d) last.toNat last 6) (lo last.toNat + ga last.toNat * q).toInt)) (hp : prW pr T last) (cu : cuW T row lo ga co d ba cr last L) (sn : snW lo ga co row per n) (tb : TB T 99) (hr : ∀ s : Int, 0 ≤ s → s < n → -7 ≤ (row s.toNat).toInt ∧ (row s.toNat).toInt ≤ 7) (hn : n = last + 1) (h0 : 0 ≤ last ∧ last ≤ 4) (hpe : 2 ≤ per ∧ per ≤ 16) (hd : 0 ≤ dg ∧ dg < 3) (eq : q.toInt = dg) (eS : S = last.toNat + 1) : r.toInt = rowF T row per S (3 * L + dg) := by
  have sl := sn last h0.1 (by omega)
  have xb := lf_xb cu sn hr (by omega) hpe
  have rl := hr last h0.1 (by omega)
  have e := bd_q (h T hp cu.1) tb xb h0.1 h0.2 rfl rfl eq (m := 3) (by omega) hd (by omega) (by omega)
  rw [e]
  exact lf_fm cu sn hn h0.1 hr hpe rfl eS dg hd.1 hd.2
theorem lf_nm {lo ga co row : Nat → Int32} {per n last N : Int} (sn : snW lo ga co row per n) (e : N = nmK (cW co) last.toNat) (hl : last ≤ n) (h0 : 0 ≤ last) : N = nmK (fun _ => 3) last.toNat := by
  rw [e]
  exact nm_congr last.toNat (fun s a b => (sn s a (by omega)).2.2)
theorem bf_end {T row : Nat → Int32} {f : Nat → Int32} {S : Nat} {n n' b per per' N : Int} (h : bfW (rowF T row per S) f S n b) (hn : n = 3 * N) (eN : N = n') (ep : per = per') : bfW (rowF T row per' S) f S (3 * n') b := by
  subst ep
  subst eN
  rw [← hn]; exact h
theorem sn_g {lo ga co row : Nat → Int32} {per n last : Int} (h : snW lo ga co row per n) (hl : last < n) (h0 : 0 ≤ last) (hp : 2 ≤ per ∧ per ≤ 16) : 1 ≤ (ga last.toNat).toInt ∧ (ga last.toNat).toInt ≤ 64 := by
  have q := (h last h0 hl).2.1
  omega
theorem sn_l {lo ga co row : Nat → Int32} {per n last m : Int} (h : snW lo ga co row per n) (hl : last < n) (h0 : 0 ≤ last) (hp : 2 ≤ per ∧ per ≤ 16) (hr : ∀ s : Int, 0 ≤ s → s < n → -7 ≤ (row s.toNat).toInt ∧ (row s.toNat).toInt ≤ 7) (hm : m = 3) : -30 ≤ (lo last.toNat).toInt ∧ (lo last.toNat).toInt + (ga last.toNat).toInt * (m - 1) ≤ 30 := by
  have q := h last h0 hl
  have r := hr last h0 hl
  rw [q.1, q.2.1, hm]
  omega
/-! what is put ahead, on both sides (draft, p40, p41) -/
def sqK (T : Nat → Int32) (t : Int → Int) (per : Int) (S m : Nat) : Int → Int := fun k => bsK T (fun s => t s - per + per * dgK (fun _ => 3) S k s) S m
theorem rowF_sq {T row : Nat → Int32} {t : Int → Int} {per : Int} {S : Nat} (h : ∀ s : Int, 0 ≤ s → s < (S : Int) → (row s.toNat).toInt = t s) (k : Int) : rowF T row per S k = sqK T t per S 6 k := by
  unfold rowF sqK
  exact bsK_congr (fun s a b => by
    show (row s.toNat).toInt - per + _ = t s - per + _
    rw [h s a b]) 6
def paA9 (F : Int → Int) (N M r : Int) : Prop := ∃ b a : Int, amK F N b a ∧ ((b ≤ M ∧ r = b) ∨ (M < b ∧ r = -1))
theorem pa_of {F : Int → Int} {f : Nat → Int32} {S : Nat} {N b M r : Int} (h : bfW F f S N b) (c : (b ≤ M ∧ r = b) ∨ (M < b ∧ r = -1)) : paA9 F N M r := by
  obtain ⟨a, h1, _⟩ := h
  exact ⟨b, a, h1, c⟩
theorem am_congr {F F' : Int → Int} {N b a : Int} (h : amK F N b a) (e : ∀ k : Int, 0 ≤ k → k < N → F k = F' k) : amK F' N b a := by
  rcases h with h | ⟨h1, h2, h3, h4, h5⟩
  · exact Or.inl h
  · refine Or.inr ⟨h1, h2, by rw [← e a h1 h2]; exact h3, fun k k0 k1 => ?_, fun k k0 k1 => ?_⟩
    · rw [← e k k0 k1]; exact h4 k k0 k1
    · rw [← e k k0 (by omega)]; exact h5 k k0 k1
theorem pa_congr {F F' : Int → Int} {N N' M M' r : Int} (h : paA9 F N M r) (e : ∀ k : Int, 0 ≤ k → k < N → F k = F' k) (eN : N = N') (eM : M = M') : paA9 F' N' M' r := by
  subst eN
  subst eM
  obtain ⟨b, a, h1, h2⟩ := h
  exact ⟨b, a, am_congr h1 e, h2⟩
theorem pa_uni {F : Int → Int} {N M r r' : Int} (h : paA9 F N M r) (k : paA9 F N M r') (hN : 0 < N) : r = r' := by
  obtain ⟨b, a, h1, h2⟩ := h
  obtain ⟨b', a', k1, k2⟩ := k
  have e := (am_uni h1 k1 hN).1
  omega
/-- the row on the tape, letter by letter -/
def rlQ (row : Nat → Int32) (t : Int → Int) (k : Int) : Prop := ∀ j : Int, 0 ≤ j → j < k → (row j.toNat).toInt = sb9 (t j)
theorem rl_0 {row : Nat → Int32} {t : Int → Int} {k : Int} (h : k ≤ 0) : rlQ row t k := fun j a b => absurd a (by omega)
theorem rl_put {row row' : Nat → Int32} {t : Int → Int} {k k' : Int} {z : Int32} (h : rlQ row t k) (e : row' = upd row k.toNat z) (ez : z.toInt = sb9 (t k)) (h0 : 0 ≤ k) (ek : k' = k + 1) : rlQ row' t k' := by
  intro j a b
  rw [e]
  show (if j.toNat = k.toNat then z else row j.toNat).toInt = _
  by_cases q : j = k
  · subst q
    rw [if_pos rfl]; exact ez
  · rw [if_neg (by omega)]
    exact h j a (by omega)
theorem rl_put2 {row row' : Nat → Int32} {t : Int → Int} {k k' : Int} {z x : Int32} (h : rlQ row t k) (e : row' = upd row k.toNat z) (ex : x = row' k.toNat) (ezx : x.toInt = sb9 (t k)) (h0 : 0 ≤ k) (ek : k' = k + 1) : rlQ row' t k' := by
  refine rl_put h e ?_ h0 ek
  rw [← ezx, ex, e, u_eq rfl]
theorem rl_cut {row : Nat → Int32} {t : Int → Int} {k k' : Int} (h : rlQ row t k) (e : k' ≤ k) : rlQ row t k' := fun j a b => h j a (by omega)
theorem rl_bd {row : Nat → Int32} {t : Int → Int} {z n L S : Int} (sw : swQ z n t L S) (hz : ¬ z = 0) (rl : rlQ row t S) (hL : L ≤ 8) : ∀ s : Int, 0 ≤ s → s < S → -7 ≤ (row s.toNat).toInt ∧ (row s.toNat).toInt ≤ 7 := by
  intro s a b
  have q := (sw.1 hz).2.2 s a b
  rw [rl s a b]
  unfold okL at q
  omega
theorem rw_L1 {t : Int → Int} {n L S : Int} (h : rwQ9 t n L S) : 1 ≤ L ∧ 1 ≤ S := by
  have q := h.2.2 0 (Int.le_refl 0) h.1
  have q1 := h.1
  unfold okL at q
  omega
def ahQ (r n : Int) (t : Int → Int) (L S lim : Int) (T : Nat → Int32) (m : Nat) : Prop := (rwQ9 t n L S → paA9 (sqK T (fun s => sb9 (t s)) (2 * L) S.toNat m) (nmK (fun _ => 3) S.toNat) (1000 * lim) r) ∧ (¬ rwQ9 t n L S → r = -1)
theorem nm_last {last S : Int} (h0 : 0 ≤ last) (h : S = last + 1) : nmK (fun _ => 3) S.toNat = 3 * nmK (fun _ => 3) last.toNat := by
  rw [show S.toNat = last.toNat + 1 by omega]
  show nmK (fun _ => 3) last.toNat * 3 = _
  omega
theorem ah_yes {r z n L S lim last : Int} {t : Int → Int} {T row : Nat → Int32} (sw : swQ z n t L S) (hz : ¬ z = 0) (rl : rlQ row t S) (pa : paA9 (rowF T row (2 * L) S.toNat) (3 * nmK (fun _ => 3) last.toNat) (1000 * lim) r) (hl : 0 ≤ last ∧ S = last + 1) : ahQ r n t L S lim T 6 :=
  ⟨fun _ => pa_congr pa (fun k _ _ => rowF_sq (t := fun s => sb9 (t s)) (fun s a b => rl s a (by omega)) k) (nm_last hl.1 hl.2).symm rfl, fun q => absurd (sw.1 hz) q⟩
theorem ah_no {r z n L S lim : Int} {t : Int → Int} {T : Nat → Int32} {m : Nat} (sw : swQ z n t L S) (hz : z = 0) (er : r = -1) : ahQ r n t L S lim T m := ⟨fun q => absurd q (sw.2 hz), fun _ => er⟩
/-! the reference's table as the class lays it -/
def tR (M : Nat → Int32) : Nat → Int32 := fun k => M (5 * (k % 6) + k / 6)
theorem tR_at {M : Nat → Int32} {s r : Int} (h0 : 0 ≤ s) (r0 : 0 ≤ r) (hr : r ≤ 5) : tR M (6 * s + r).toNat = M (5 * r + s).toNat := by
  unfold tR
  congr 1
  omega
theorem tR_TB {M : Nat → Int32} (h : TB M 99) : TB (tR M) 99 := fun j hj => h _ (by omega)
theorem sW_v {T t x : Nat → Int32} {y : Int → Int} {r : Int} (h : TB T 99) (r0 : 0 ≤ r) (hr : r ≤ 5) : ∀ n : Nat, n ≤ 5 → xbW y (n : Int) → (∀ k : Nat, k < n → t k = T (6 * (k : Int) + r).toNat ∧ (x k).toInt = y (k : Int)) → (sW t x n).toInt = rsK T y r n
  | 0, _, _, _ => by
    show (0 : Int32).toInt = (0 : Int)
    decide +kernel
  | n + 1, hn, hx, hk => by
    have hx' : xbW y (n : Int) := fun s a b => hx s a (by omega)
    have ih := sW_v (t := t) (x := x) h r0 hr n (by omega) hx' (fun k q => hk k (by omega))
    have b := rs_bd (T := T) (x := y) h r0 hr n (by omega) hx'
    obtain ⟨k1, k2⟩ := hk n (by omega)
    have q := n_mulb (A := 99) (B := 30) (by decide) (by decide) (tb_at (s := (n : Int)) h (by omega) (by omega) r0 hr) (hx (n : Int) (by omega) (by omega))
    have e1 := n_mul (x := t n) (y := x n) (congrArg Int32.toInt k1) k2 (by omega) (by omega)
    show (sW t x n + t n * x n).toInt = rsK T y r n + (T (6 * (n : Int) + r).toNat).toInt * y (n : Int)
    exact n_add ih e1 (by omega) (by omega)
theorem qW_v {T : Nat → Int32} {y : Int → Int} {n : Nat} {p : Nat → Int32} (h : TB T 99) (hn : n ≤ 5) (hx : xbW y (n : Int)) : ∀ m : Nat, m ≤ 6 → (∀ r : Nat, r < m → (p r).toInt = -rsK T y (r : Int) n) → (qW p m).toInt = bsK T y n m
  | 0, _, _ => by
    show (0 : Int64).toInt = (0 : Int)
    decide +kernel
  | m + 1, hm, hp => by
    have ih := qW_v (p := p) h hn hx m (by omega) (fun r q => hp r (by omega))
    have b := rs_bd (T := T) (x := y) (r := (m : Int)) h (by omega) (by omega) n hn hx
    have b2 := bs_bd (T := T) (x := y) (n := n) h hn hx m (by omega)
    have q := n_sq (d := rsK T y (m : Int) n) (B := 14850) (by omega)
    have e0 := (i64q (p m)).trans (hp m (by omega))
    have e1 := n_mulL e0 e0 (by rw [Int.neg_mul_neg]; omega) (by rw [Int.neg_mul_neg]; omega)
    rw [Int.neg_mul_neg] at e1
    show (qW p m + (p m).toInt64 * (p m).toInt64).toInt = bsK T y n m + rsK T y (m : Int) n * rsK T y (m : Int) n
    exact n_addL ih e1 (by omega) (by omega)
/-- the squares of what a row sends, as the reference counts them -/
theorem sqM_v {M row : Nat → Int32} {y : Int → Int} {S R : Int} {v : Int64} (q : v = qW (fun r : Nat => (0 : Int32) - sW (tM9 M (r : Int)) row S.toNat) R.toNat) (h : TB M 99) (hS : S ≤ 5) (hR : R ≤ 6) (hx : xbW y S) (hy : ∀ s : Int, 0 ≤ s → s < S → (row s.toNat).toInt = y s) : v.toInt = bsK (tR M) y S.toNat R.toNat := by
  rw [q]
  have hx' : xbW y ((S.toNat : Nat) : Int) := fun s a b => hx s a (by omega)
  refine qW_v (tR_TB h) (by omega) hx' R.toNat (by omega) (fun r hr => ?_)
  have b := rs_bd (T := tR M) (x := y) (r := (r : Int)) (tR_TB h) (by omega) (by omega) S.toNat (by omega) hx'
  have e := sW_v (T := tR M) (t := tM9 M (r : Int)) (x := row) (y := y) (r := (r : Int)) (tR_TB h) (by omega) (by omega) S.toNat (by omega) hx' (fun k hk => ⟨(tR_at (s := (k : Int)) (r := (r : Int)) (by omega) (by omega) (by omega)).symm, hy (k : Int) (by omega) (by omega)⟩)
  show ((0 : Int32) - sW (tM9 M (r : Int)) row S.toNat).toInt = _
  rw [n_sub (show (0 : Int32).toInt = 0 by decide +kernel) e (by omega) (by omega)]
  omega
theorem rs_nil {T : Nat → Int32} {x : Int → Int} {r : Int} : ∀ n : Nat, (∀ k : Nat, k < n → (T (6 * (k : Int) + r).toNat).toInt = 0) → rsK T x r n = 0
  | 0, _ => rfl
  | n + 1, h => by
    show rsK T x r n + (T (6 * (n : Int) + r).toNat).toInt * x (n : Int) = 0
    rw [rs_nil n (fun k hk => h k (by omega)), h n (by omega), Int.zero_mul]; rfl
theorem rs_T {T T' : Nat → Int32} {x : Int → Int} {r : Int} : ∀ n : Nat, (∀ k : Nat, k < n → T (6 * (k : Int) + r).toNat = T' (6 * (k : Int) + r).toNat) → rsK T x r n = rsK T' x r n
  | 0, _ => rfl
  | n + 1, h => by
    show rsK T x r n + (T (6 * (n : Int) + r).toNat).toInt * x (n : Int) = rsK T' x r n + (T' (6 * (n : Int) + r).toNat).toInt * x (n : Int)
    rw [rs_T n (fun k hk => h k (by omega)), h n (by omega)]
theorem bs_T {T T' : Nat → Int32} {x : Int → Int} {n : Nat} : ∀ m : Nat, (∀ r k : Nat, r < m → k < n → T (6 * (k : Int) + (r : Int)).toNat = T' (6 * (k : Int) + (r : Int)).toNat) → bsK T x n m = bsK T' x n m
  | 0, _ => rfl
  | m + 1, h => by
    show bsK T x n m + _ = bsK T' x n m + _
    rw [bs_T m (fun r k a b => h r k (by omega) b), rs_T (T := T) (T' := T') n (fun k hk => h m k (by omega) hk)]
theorem bs_cut {T : Nat → Int32} {x : Int → Int} {n R : Nat} : ∀ m : Nat, R ≤ m → (∀ r k : Nat, R ≤ r → r < m → k < n → (T (6 * (k : Int) + (r : Int)).toNat).toInt = 0) → bsK T x n m = bsK T x n R
  | 0, h, _ => by rw [show R = 0 by omega]
  | m + 1, h, hz => by
    by_cases e : R = m + 1
    · rw [e]
    · show bsK T x n m + rsK T x (m : Int) n * rsK T x (m : Int) n = _
      rw [rs_nil n (fun k hk => hz m k (by omega) (by omega) hk), bs_cut m (by omega) (fun r k a b c => hz r k a (by omega) c), Int.mul_zero, Int.add_zero]
theorem sq_two {T w M w' : Nat → Int32} {lim lim' wt S R per : Int} {t : Int → Int} (pe : plE T w lim M w' lim' wt S R) (hR : 0 ≤ R ∧ R ≤ 6) (hS : S ≤ 5) (k : Int) : sqK T t per S.toNat 6 k = sqK (tR M) t per S.toNat R.toNat k := by
  unfold sqK
  rw [bs_cut (R := R.toNat) 6 (by omega) (fun r k a b c => pe.2.2.2 (r : Int) (k : Int) (by omega) (by omega) (by omega) (by omega) (Or.inl (by omega)))]
  exact bs_T R.toNat (fun r k a b => by
    rw [tR_at (by omega) (by omega) (by omega)]
    exact Int32.toInt_inj.mp (pe.1 (r : Int) (k : Int) (by omega) (by omega) (by omega) (by omega)))
theorem ah_eq {r r' n n' L L' S S' R' : Int} {t t' : Int → Int} {T w M w' : Nat → Int32} {lim lim' wt R : Int} (pe : plE T w lim M w' lim' wt S R) (tb : TB T 99) (x : ahQ r n t L S lim T 6) (y : TB M 99 → ahQ r' n' t' L' S' lim' (tR M) R'.toNat) (et : t = t') (en : n = n') (eL : L = L') (eS : S = S') (eR : R' = R) (hR : 0 ≤ R ∧ R ≤ 6) (hS : S ≤ 5) : r = r' := by
  subst et
  subst en
  subst eL
  subst eS
  subst eR
  have hM : TB M 99 := fun j hj => by
    have e := pl_tr pe j hj
    rw [e, tr_lt hj]
    exact tb _ (by omega)
  have el := pe.2.2.1
  subst el
  have y := y hM
  by_cases c : rwQ9 t n L S
  · have x1 := x.1 c
    have y1 := y.1 c
    refine pa_uni (pa_congr x1 (fun k _ _ => sq_two pe hR hS k) rfl rfl) y1 ?_
    have := nm_pos (co := fun _ => 3) S.toNat (fun _ _ _ => by show (1 : Int) ≤ 3; omega)
    omega
  · rw [x.2 c, y.2 c]
/-! the reference goes through all that can be put ahead -/
def dvW (row ask : Nat → Int32) (per : Int) (S : Nat) (k j v : Int) : Prop := (∀ s : Int, j < s → s < (S : Int) → (row s.toNat).toInt = (ask s.toNat).toInt + per * (dgK (fun _ => 3) S k s - 1)) ∧ ∀ s : Int, 0 ≤ s → s ≤ j → dgK (fun _ => 3) S k s = dgK (fun _ => 3) (j + 1).toNat v s
theorem dv_0 {row ask : Nat → Int32} {per : Int} {S : Nat} {k j v : Int} (hj : j + 1 = (S : Int)) (hv : v = k) : dvW row ask per S k j v := by
  subst hv
  refine ⟨fun s a b => absurd a (by omega), fun s a b => ?_⟩
  rw [show (j + 1).toNat = S by omega]
theorem dv_step {row row' ask : Nat → Int32} {per : Int} {S : Nat} {k j j' v v' m p A B : Int} {a z : Int32} (h : dvW row ask per S k j v) (ea : a = ask j.toNat) (ez : z.toInt = a.toInt + p) (ep : p = A * B) (eA : A = per) (eB : B = m - 1) (em : m = v % 3) (e : row' = upd row j.toNat z) (h0 : 0 ≤ j) (hS : j < (S : Int)) (ev : v' = v / 3) (ej : j' = j - 1) : dvW row' ask per S k j' v' := by
  obtain ⟨n, rfl⟩ : ∃ n : Nat, j = (n : Int) := ⟨j.toNat, by omega⟩
  have hn : ((n : Int)).toNat = n := by omega
  have hn1 : ((n : Int) + 1).toNat = n + 1 := by omega
  rw [hn] at ea e
  have h2 := h.2
  rw [hn1] at h2
  refine ⟨fun s a1 b => ?_, fun s a1 b => ?_⟩
  · rw [e]
    show (if s.toNat = n then z else row s.toNat).toInt = _
    by_cases q : s = (n : Int)
    · subst q
      rw [if_pos hn, ez, ep, eA, eB, em, ea, h2 (n : Int) (by omega) (by omega), dg_last, hn]
    · rw [if_neg (by omega)]
      exact h.1 s (by omega) b
  · rw [h2 s a1 (by omega), dg_next (by omega), ev]
    rw [show (j' + 1).toNat = n by omega]
theorem dv_x {row ask : Nat → Int32} {per : Int} {S : Nat} {k j v : Int} (h : dvW row ask per S k j v) (hj : j = -1) {t : Int → Int} (ha : ∀ s : Int, 0 ≤ s → s < (S : Int) → (ask s.toNat).toInt = t s) : ∀ s : Int, 0 ≤ s → s < (S : Int) → (row s.toNat).toInt = t s - per + per * dgK (fun _ => 3) S k s := by
  intro s a b
  rw [h.1 s (by omega) b, ha s a b, Int.mul_sub, Int.mul_one]
  omega
theorem dv_bd {t : Int → Int} {per k S : Int} (hb : ∀ s : Int, 0 ≤ s → s < S → -7 ≤ t s ∧ t s ≤ 7) (hp : 2 ≤ per ∧ per ≤ 16) : xbW (fun s => t s - per + per * dgK (fun _ => 3) S.toNat k s) S := by
  intro s a b
  have d := dg_rng (co := fun _ => 3) S.toNat k s (fun _ _ _ => by show (1 : Int) ≤ 3; omega) a (by omega)
  have r := hb s a b
  have m1 := Int.mul_nonneg (show (0 : Int) ≤ per by omega) d.1
  have m2 : per * dgK (fun _ => 3) S.toNat k s ≤ per * 2 := Int.mul_le_mul_of_nonneg_left (by have := d.2; show dgK (fun _ => 3) S.toNat k s ≤ 2; omega) (by omega)
  show -30 ≤ t s - per + per * dgK (fun _ => 3) S.toNat k s ∧ t s - per + per * dgK (fun _ => 3) S.toNat k s ≤ 30
  omega
/-- a row's squares, told by its number -/
theorem dv_sq {M row ask : Nat → Int32} {per k j v2 S R : Int} {v : Int64} {t : Int → Int} (q : v = qW (fun r : Nat => (0 : Int32) - sW (tM9 M (r : Int)) row S.toNat) R.toNat) (h : TB M 99) (hS : 0 ≤ S ∧ S ≤ 5) (hR : R ≤ 6) (d : dvW row ask per S.toNat k j v2) (hj : j = -1) (ha : ∀ s : Int, 0 ≤ s → s < S → (ask s.toNat).toInt = t s) (hb : ∀ s : Int, 0 ≤ s → s < S → -7 ≤ t s ∧ t s ≤ 7) (hp : 2 ≤ per ∧ per ≤ 16) : v.toInt = sqK (tR M) t per S.toNat R.toNat k :=
  sqM_v q h hS.2 hR (dv_bd hb hp) (fun s a b => dv_x d hj (fun s a b => ha s a (by omega)) s a (by omega))
theorem sqK_pos {T : Nat → Int32} {t : Int → Int} {per : Int} {S : Nat} {k : Int} : ∀ m : Nat, 0 ≤ sqK T t per S m k
  | 0 => Int.le_refl 0
  | m + 1 => by
    have ih := sqK_pos (T := T) (t := t) (per := per) (S := S) (k := k) m
    have q := kw_sq (rsK T (fun s => t s - per + per * dgK (fun _ => 3) S k s) (m : Int) S)
    unfold sqK at ih ⊢
    show 0 ≤ bsK T _ S m + rsK T _ (m : Int) S * rsK T _ (m : Int) S
    omega
/-! the best so far, of the reference -/
def bmW (F : Int → Int) (f : Nat → Int32) (S : Nat) (n b : Int) : Prop := ∃ a : Int, ((n = 0 ∧ b = -1) ∨ (0 ≤ a ∧ a < n ∧ b = F a ∧ (∀ k, 0 ≤ k → k < n → b ≤ F k) ∧ (∀ k, 0 ≤ k → k < a → b < F k))) ∧ (0 < n → fdW f S a)
theorem bm_0 {F : Int → Int} {f : Nat → Int32} {S : Nat} {n b : Int} (hn : n = 0) (hb : b = -1) : bmW F f S n b := ⟨0, Or.inl ⟨hn, hb⟩, fun h => absurd h (by omega)⟩
theorem bm_yes {F : Int → Int} {f f' : Nat → Int32} {S : Nat} {n n' b b' : Int} (h : bmW F f S n b) (h0 : 0 ≤ n) (ev : b' = F n) (hc : b < 0 ∨ b' < b) (hF : ∀ k, 0 ≤ F k) (fd : fdW f' S n) (en : n' = n + 1) : bmW F f' S n' b' := by
  obtain ⟨a, h1, h2⟩ := h
  refine ⟨n, Or.inr ⟨h0, by omega, ev, fun k k0 k1 => ?_, fun k k0 k1 => ?_⟩, fun _ => fd⟩
  · by_cases q : k = n
    · subst q; omega
    · rcases h1 with ⟨z, _⟩ | ⟨a1, a2, a3, a4, a5⟩
      · omega
      · have := a4 k k0 (by omega)
        have := hF a
        omega
  · rcases h1 with ⟨z, _⟩ | ⟨a1, a2, a3, a4, a5⟩
    · omega
    · have := a4 k k0 (by omega)
      have := hF a
      omega
theorem bm_no {F : Int → Int} {f : Nat → Int32} {S : Nat} {n n' b v : Int} (h : bmW F f S n b) (h0 : 0 ≤ n) (ev : v = F n) (hc : 0 ≤ b ∧ b ≤ v) (en : n' = n + 1) : bmW F f S n' b := by
  obtain ⟨a, h1, h2⟩ := h
  rcases h1 with ⟨_, z⟩ | ⟨a1, a2, a3, a4, a5⟩
  · omega
  · refine ⟨a, Or.inr ⟨a1, by omega, a3, fun k k0 k1 => ?_, a5⟩, fun _ => h2 (by omega)⟩
    by_cases q : k = n
    · subst q; omega
    · exact a4 k k0 (by omega)
theorem bm_bf {F : Int → Int} {f : Nat → Int32} {S : Nat} {n N b : Int} (h : bmW F f S n b) (en : n = N) (hN : 0 < N) : bfW F f S N b := by
  subst en
  obtain ⟨a, h1, h2⟩ := h
  rcases h1 with ⟨z, _⟩ | h1
  · omega
  · exact ⟨a, Or.inr h1, h2⟩
/-- what is put ahead, sender by sender -/
def ptW (f : Nat → Int32) (S : Nat) (k n : Int) : Prop := ∀ s : Int, 0 ≤ s → s < n → (f s.toNat).toInt = dgK (fun _ => 3) S k s - 1
theorem pt_0 {f : Nat → Int32} {S : Nat} {k n : Int} (h : n ≤ 0) : ptW f S k n := fun s a b => absurd a (by omega)
theorem pt_put {f f' row ask : Nat → Int32} {per k n n' j v : Int} {S : Nat} {x y z a b : Int32} (h : ptW f S k n) (dv : dvW row ask per S k j v) (hj : j = -1) (ea : a = row n.toNat) (eb : b = ask n.toNat) (ex : x.toInt = a.toInt - b.toInt) (ey : y.toInt = per) (ez : z = x / y) (hp : 0 < per) (e : f' = upd f n.toNat z) (h0 : 0 ≤ n) (hS : n < (S : Int)) (en : n' = n + 1) : ptW f' S k n' := by
  intro s s0 s1
  rw [e]
  show (if s.toNat = n.toNat then z else f s.toNat).toInt = _
  by_cases q : s = n
  · subst q
    have d := dv.1 s (by omega) hS
    rw [← ea, ← eb] at d
    have e1 : x.toInt = (dgK (fun _ => 3) S k s - 1) * per := by rw [ex, d, Int.mul_comm]; omega
    rw [if_pos rfl, ez, n_div e1 ey hp]
    exact Int.mul_tdiv_cancel _ (by omega)
  · rw [if_neg (by omega)]
    exact h s s0 (by omega)
theorem pt_fd {f : Nat → Int32} {S : Nat} {k n : Int} (h : ptW f S k n) (hn : (S : Int) ≤ n) : fdW f S k := fun s a b => h s a (by omega)
def akW (ask row : Nat → Int32) (n : Int) : Prop := ∀ s : Int, 0 ≤ s → s < n → ask s.toNat = row s.toNat
theorem ak_put {ask ask' row : Nat → Int32} {n n' : Int} {z : Int32} (h : akW ask row n) (e : ask' = upd ask n.toNat z) (ez : z = row n.toNat) (h0 : 0 ≤ n) (en : n' = n + 1) : akW ask' row n' := by
  intro s s0 s1
  rw [e]
  show (if s.toNat = n.toNat then z else ask s.toNat) = _
  by_cases q : s = n
  · subst q
    rw [if_pos rfl, ez]
  · rw [if_neg (by omega)]
    exact h s s0 (by omega)
theorem ak_t {ask row : Nat → Int32} {n S : Int} (h : akW ask row n) (hn : S ≤ n) : ∀ s : Int, 0 ≤ s → s < S → (ask s.toNat).toInt = (row s.toNat).toInt := fun s a b => congrArg Int32.toInt (h s a (by omega))
theorem ak_b {ask row : Nat → Int32} {n S : Int} (h : akW ask row n) (hn : S ≤ n) (hb : ∀ s : Int, 0 ≤ s → s < S → -7 ≤ (row s.toNat).toInt ∧ (row s.toNat).toInt ≤ 7) : ∀ s : Int, 0 ≤ s → s < S → -7 ≤ (ask s.toNat).toInt ∧ (ask s.toNat).toInt ≤ 7 := by
  intro s a b
  rw [ak_t h hn s a b]
  exact hb s a b
theorem dv_rb {row ask : Nat → Int32} {per S k j v : Int} (h : dvW row ask per S.toNat k j v) (hj : j = -1) (hb : ∀ s : Int, 0 ≤ s → s < S → -7 ≤ (ask s.toNat).toInt ∧ (ask s.toNat).toInt ≤ 7) (hp : 2 ≤ per ∧ per ≤ 16) : ∀ s : Int, 0 ≤ s → s < S → -30 ≤ (row s.toNat).toInt ∧ (row s.toNat).toInt ≤ 30 := by
  intro s a b
  rw [dv_x h hj (t := fun s => (ask s.toNat).toInt) (fun _ _ _ => rfl) s a (by omega)]
  exact dv_bd (t := fun s => (ask s.toNat).toInt) hb hp s a b
theorem n3_end {n k S : Int} (h : n = nmK (fun _ => 3) k.toNat) (e : k = S) : n = nmK (fun _ => 3) S.toNat := by
  rw [← e]; exact h
theorem nm3_pos {n : Nat} : 0 < nmK (fun _ => 3) n := by
  have := nm_pos (co := fun _ => 3) n (fun _ _ _ => by show (1 : Int) ≤ 3; omega)
  omega
theorem n3_step {n n' k k' : Int} (h : n = nmK (fun _ => 3) k.toNat) (en : n' = n * 3) (h0 : 0 ≤ k) (ek : k' = k + 1) : n' = nmK (fun _ => 3) k'.toNat := by
  rw [show k'.toNat = k.toNat + 1 by omega]
  show n' = nmK (fun _ => 3) k.toNat * 3
  rw [← h, en]
/-- the reference's answer -/
theorem ahM_yes {r b z n L S lim : Int} {t : Int → Int} {T row f : Nat → Int32} {m : Nat} (sw : swQ z n t L S) (hz : ¬ z = 0) (rl : rlQ row t S) (bf : bfW (sqK T (fun s => (row s.toNat).toInt) (2 * L) S.toNat m) f S.toNat (nmK (fun _ => 3) S.toNat) b) (c : (b ≤ 1000 * lim ∧ r = b) ∨ (1000 * lim < b ∧ r = -1)) : ahQ r n t L S lim T m :=
  ⟨fun _ => pa_congr (pa_of bf c) (fun k _ _ => by
    unfold sqK
    exact bsK_congr (fun s a b => by
      show (row s.toNat).toInt - 2 * L + _ = sb9 (t s) - 2 * L + _
      rw [rl s a (by omega)]) m) rfl rfl, fun q => absurd (sw.1 hz) q⟩
