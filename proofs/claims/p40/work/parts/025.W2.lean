/-! lines as the machine keeps them: numbers of 64 bits, told by whole numbers (draft, p40 and on) -/
def I6 (v : Int) : Int64 := Int64.ofInt v
theorem I6_add (a b : Int) : I6 a + I6 b = I6 (a + b) := (Int64.ofInt_add a b).symm
theorem I6_sub (a b : Int) : I6 a - I6 b = I6 (a - b) := (Int64.ofInt_sub a b).symm
theorem I6_mul (a b : Int) : I6 a * I6 b = I6 (a * b) := (Int64.ofInt_mul a b).symm
theorem I6_to {v : Int} (h1 : -9223372036854775808 ≤ v) (h2 : v ≤ 9223372036854775807) : (I6 v).toInt = v := Int64.toInt_ofInt_of_le h1 (by omega)
theorem I6_w (x : Int32) : x.toInt64 = I6 x.toInt := by
  have h := n_rng x
  apply Int64.toInt_inj.mp
  rw [I6_to (by omega) (by omega), Int32.toInt_toInt64]
def xW (lo ga di : Nat → Int32) (s : Int) : Int := (lo s.toNat + ga s.toNat * di s.toNat).toInt
def prW (pr : Nat → Int64) (T : Nat → Int32) (last : Int) : Prop := ∀ i j : Int, 0 ≤ i → i ≤ last → 0 ≤ j → j ≤ last → pr (5 * i + j).toNat = I6 (dtn T i j 6)
def lvW (T : Nat → Int32) (x : Int → Int) (ba cr : Nat → Int64) (last s : Int) : Prop := ba s.toNat = I6 (bsK T x s.toNat 6) ∧ ∀ j : Int, s ≤ j → j ≤ last → cr (5 * s + j).toNat = I6 (crK T x s.toNat j 6)
/-- settled up to a level -/
def seW (T : Nat → Int32) (x : Int → Int) (ba cr : Nat → Int64) (last u : Int) : Prop := ∀ s : Int, 0 ≤ s → s ≤ u → lvW T x ba cr last s
theorem xW_eq {lo ga di : Nat → Int32} {s : Int} {a b c d e : Int32} {y : Int64} (h1 : a = lo s.toNat) (h2 : b = ga s.toNat) (h3 : c = di s.toNat) (h4 : d = b * c) (h5 : e = a + d) (h6 : y.toInt = e.toInt) : y = I6 (xW lo ga di s) := by
  have h := n_rng e
  apply Int64.toInt_inj.mp
  subst h1 h2 h3 h4 h5
  show y.toInt = (I6 (lo s.toNat + ga s.toNat * di s.toNat).toInt).toInt
  rw [I6_to (by omega) (by omega), h6]
theorem lv_base {T : Nat → Int32} {x : Int → Int} {ba cr pr : Nat → Int64} {last s : Int} {b y p c a1 a2 a3 a4 a5 two : Int64} (h : lvW T x ba cr last s) (hp : prW pr T last) (h0 : 0 ≤ s) (hl : s ≤ last) (eb : b = ba s.toNat) (ey : y = I6 (x s)) (ep : p = pr (5 * s + s).toNat) (ec : c = cr (5 * s + s).toNat) (et : two = 2)
    (e1 : a1 = y * p) (e2 : a2 = two * c) (e3 : a3 = a1 - a2) (e4 : a4 = y * a3) (e5 : a5 = b + a4) : a5 = I6 (bsK T x (s + 1).toNat 6) := by
  obtain ⟨n, rfl⟩ : ∃ n : Nat, s = (n : Int) := ⟨s.toNat, by omega⟩
  have z : ((n : Int) + 1).toNat = n + 1 := by omega
  have hn : ((n : Int)).toNat = n := by omega
  rw [hn] at eb
  have q1 := h.1
  have q2 := h.2 (n : Int) (Int.le_refl _) hl
  have q3 := hp (n : Int) (n : Int) h0 hl h0 hl
  rw [hn] at q1 q2
  have et2 : two = I6 2 := by rw [et]; rfl
  rw [z, bsK_succ, e5, e4, e3, e2, e1, eb, ey, ep, ec, q1, q2, q3, et2, I6_mul, I6_mul, I6_sub, I6_mul, I6_add]
theorem lv_cross {T : Nat → Int32} {x : Int → Int} {ba cr pr : Nat → Int64} {last s j : Int} {y p c a1 a2 : Int64} (h : lvW T x ba cr last s) (hp : prW pr T last) (h0 : 0 ≤ s) (hl : s ≤ last) (hj : s ≤ j) (hj2 : j ≤ last) (ey : y = I6 (x s)) (ep : p = pr (5 * s + j).toNat) (ec : c = cr (5 * s + j).toNat) (e1 : a1 = y * p) (e2 : a2 = c - a1) : a2 = I6 (crK T x (s + 1).toNat j 6) := by
  obtain ⟨n, rfl⟩ : ∃ n : Nat, s = (n : Int) := ⟨s.toNat, by omega⟩
  have z : ((n : Int) + 1).toNat = n + 1 := by omega
  have hn : ((n : Int)).toNat = n := by omega
  have q2 := h.2 j hj hj2
  have q3 := hp (n : Int) j h0 hl (by omega) hj2
  rw [hn] at q2
  rw [z, crK_succ, e2, e1, ey, ep, ec, q2, q3, I6_mul, I6_sub]
/-- one store of base, then those of cross up to j -/
def stW (T : Nat → Int32) (x : Int → Int) (ba cr : Nat → Int64) (last s j : Int) : Prop := ba (s + 1).toNat = I6 (bsK T x (s + 1).toNat 6) ∧ ∀ k : Int, s + 1 ≤ k → k < j → cr (5 * (s + 1) + k).toNat = I6 (crK T x (s + 1).toNat k 6)
theorem st_end {T : Nat → Int32} {x : Int → Int} {ba cr : Nat → Int64} {last s j u : Int} (h : seW T x ba cr last s) (k : stW T x ba cr last s j) (hj : last < j) (eu : u = s + 1) : seW T x ba cr last u := by
  intro t h0 h1
  by_cases e : t ≤ s
  · exact h t h0 e
  · have e2 : t = s + 1 := by omega
    subst e2
    exact ⟨k.1, fun i a b => k.2 i a (by omega)⟩
/-- a store at another level leaves the levels ahead -/
theorem se_base {T : Nat → Int32} {x : Int → Int} {ba ba' cr : Nat → Int64} {last s n : Int} {v : Int64} (h : seW T x ba cr last s) (e : ba' = vp_updL ba n.toNat v) (ht : s < n) : seW T x ba' cr last s := by
  intro i h0 h1
  have q := h i h0 h1
  refine ⟨?_, q.2⟩
  rw [e, u_neL (by omega)]
  exact q.1
theorem se_cross {T : Nat → Int32} {x : Int → Int} {ba cr cr' : Nat → Int64} {last s n : Int} {v : Int64} (h : seW T x ba cr last s) (hl : last ≤ 4) (e : cr' = vp_updL cr n.toNat v) (ht : 5 * s + 5 ≤ n) : seW T x ba cr' last s := by
  intro i h0 h1
  have q := h i h0 h1
  refine ⟨q.1, fun j a b => ?_⟩
  rw [e, u_neL (by omega)]
  exact q.2 j a b
theorem se_congr {T : Nat → Int32} {x y : Int → Int} {ba cr : Nat → Int64} {last s : Int} (h : seW T x ba cr last s) (e : ∀ k : Int, 0 ≤ k → k < s → x k = y k) : seW T y ba cr last s := by
  intro i h0 h1
  have q := h i h0 h1
  have c : ∀ k : Int, 0 ≤ k → k < ((i.toNat : Nat) : Int) → x k = y k := fun k a b => e k a (by omega)
  refine ⟨by rw [q.1, bsK_congr c], fun j a b => by rw [q.2 j a b, crK_congr c]⟩
theorem se_less {T : Nat → Int32} {x : Int → Int} {ba cr : Nat → Int64} {last s t : Int} (h : seW T x ba cr last s) (ht : t ≤ s) : seW T x ba cr last t := fun i h0 h1 => h i h0 (by omega)
/-- the squares of a row of the line -/
theorem sq_at {T : Nat → Int32} {x : Int → Int} {ba cr pr : Nat → Int64} {last : Int} {b y p c a1 a2 a3 a4 a5 two : Int64} {X : Int} (h : seW T x ba cr last last) (hp : prW pr T last) (h0 : 0 ≤ last) (eb : b = ba last.toNat) (ey : y = I6 X) (ep : p = pr (5 * last + last).toNat) (ec : c = cr (5 * last + last).toNat) (et : two = 2)
    (e1 : a1 = y * p) (e2 : a2 = two * c) (e3 : a3 = a1 - a2) (e4 : a4 = y * a3) (e5 : a5 = b + a4) : a5 = I6 (qdK (bsK T x last.toNat 6) (dtn T last last 6) (crK T x last.toNat last 6) X) := by
  have q := h last h0 (Int.le_refl _)
  have q2 := q.2 last (Int.le_refl _) (Int.le_refl _)
  have q3 := hp last last h0 (Int.le_refl _) h0 (Int.le_refl _)
  have et2 : two = I6 2 := by rw [et]; rfl
  unfold qdK
  rw [e5, e4, e3, e2, e1, eb, ey, ep, ec, q.1, q2, q3, et2, I6_mul, I6_mul, I6_sub, I6_mul, I6_add]
theorem qd_bs {T : Nat → Int32} {x : Int → Int} {n : Nat} : qdK (bsK T x n 6) (dtn T (n : Int) (n : Int) 6) (crK T x n (n : Int) 6) (x (n : Int)) = bsK T x (n + 1) 6 := (bsK_succ 6).symm
/-- the stores of one step -/
theorem st_0 {T : Nat → Int32} {x : Int → Int} {ba ba' cr : Nat → Int64} {last s n j : Int} {v : Int64} (e : ba' = vp_updL ba n.toNat v) (en : n = s + 1) (hv : v = I6 (bsK T x (s + 1).toNat 6)) (hj : j = s + 1) : stW T x ba' cr last s j := by
  refine ⟨?_, fun k a b => absurd b (by omega)⟩
  rw [e, u_eqL (by rw [en])]
  exact hv
theorem st_put {T : Nat → Int32} {x : Int → Int} {ba cr cr' : Nat → Int64} {last s n j j' : Int} {v : Int64} (h : stW T x ba cr last s j) (e : cr' = vp_updL cr n.toNat v) (en : n = 5 * s + 5 + j) (h0 : 0 ≤ s) (hs : s + 1 ≤ j) (hv : v = I6 (crK T x (s + 1).toNat j 6)) (ej : j' = j + 1) : stW T x ba cr' last s j' := by
  refine ⟨h.1, fun k a b => ?_⟩
  by_cases q : k = j
  · subst q
    rw [e, u_eqL (by omega)]
    exact hv
  · rw [e, u_neL (by omega)]
    exact h.2 k a (by omega)
theorem lW {f : Nat → Int64} {i j : Int} {z : Int64} (h : z = f i.toNat) (e : i = j) : z = f j.toNat := by rw [h, e]
theorem iW {f : Nat → Int32} {i j : Int} {z : Int32} (h : z = f i.toNat) (e : i = j) : z = f j.toNat := by rw [h, e]
/-! the next line -/
def cW (f : Nat → Int32) : Int → Int := fun s => (f s.toNat).toInt
def diW (d co : Nat → Int32) (last : Int) : Prop := ∀ s : Int, 0 ≤ s → s < last → 0 ≤ cW d s ∧ cW d s < cW co s
def dzW (d0 d co : Nat → Int32) (last s : Int) : Prop := (∀ k : Int, s < k → k < last → (d k.toNat).toInt = 0 ∧ (co k.toNat).toInt ≤ (d0 k.toNat).toInt + 1) ∧ ∀ k : Int, 0 ≤ k → k ≤ s → d k.toNat = d0 k.toNat
theorem dz_0 {d co : Nat → Int32} {last s : Int} (h : s = last - 1) : dzW d d co last s := ⟨fun k a b => absurd b (by omega), fun _ _ _ => rfl⟩
theorem dz_step {d0 d d' co : Nat → Int32} {last s s' : Int} {x y z : Int32} (h : dzW d0 d co last s) (ex : x = d s.toNat) (ey : y = co s.toNat) (hc : y.toInt ≤ x.toInt + 1) (e : d' = upd d s.toNat z) (ez : z.toInt = 0) (h0 : 0 ≤ s) (es : s' = s - 1) : dzW d0 d' co last s' := by
  refine ⟨fun k a b => ?_, fun k a b => ?_⟩
  · by_cases q : k = s
    · subst q
      rw [e, ← h.2 k h0 (Int.le_refl _), ← ex, ← ey]
      refine ⟨?_, hc⟩
      show (if k.toNat = k.toNat then z else d k.toNat).toInt = 0
      rw [if_pos rfl]; exact ez
    · have := h.1 k (by omega) b
      rw [e]
      show (if k.toNat = s.toNat then z else d k.toNat).toInt = 0 ∧ _
      rw [if_neg (by omega)]; exact this
  · rw [e]
    show (if k.toNat = s.toNat then z else d k.toNat) = _
    rw [if_neg (by omega)]; exact h.2 k a (by omega)
def nlW (T lo ga co d0 d : Nat → Int32) (ba cr : Nat → Int64) (last : Int) : Prop := (lnK (cW co) (cW d) last.toNat = lnK (cW co) (cW d0) last.toNat + 1 ∧ diW d co last ∧ seW T (xW lo ga d) ba cr last last) ∨ lnK (cW co) (cW d0) last.toNat + 1 = nmK (cW co) last.toNat
theorem ln_full {co di : Int → Int} : ∀ n : Nat, (∀ s : Int, 0 ≤ s → s < (n : Int) → di s + 1 = co s) → lnK co di n + 1 = nmK co n
  | 0, _ => rfl
  | n + 1, h => by
    have ih := ln_full n (fun s a b => h s a (by omega))
    have q := h (n : Int) (by omega) (by omega)
    show lnK co di n * co (n : Int) + di (n : Int) + 1 = nmK co n * co (n : Int)
    rw [← ih, Int.add_mul, Int.one_mul]
    omega
theorem nl_no {T lo ga co d0 d : Nat → Int32} {ba cr : Nat → Int64} {last s : Int} (h : dzW d0 d co last s) (hd : diW d0 co last) (hs : s < 0) (hl : 0 ≤ last) : nlW T lo ga co d0 d ba cr last := by
  refine Or.inr (ln_full last.toNat (fun k a b => ?_))
  have q := (h.1 k (by omega) (by omega)).2
  have q2 := (hd k a (by omega)).2
  unfold cW at q2 ⊢
  omega
/-- what a digit counts up -/
theorem xw_same {lo ga d d2 : Nat → Int32} {n k : Int} {z : Int32} (e : d2 = upd d n.toNat z) (h : 0 ≤ k ∧ k < n) : xW lo ga d2 k = xW lo ga d k := by
  unfold xW
  rw [e]
  show (lo k.toNat + ga k.toNat * (if k.toNat = n.toNat then z else d k.toNat)).toInt = _
  rw [if_neg (by omega)]
theorem xw_dz {lo ga co d0 d : Nat → Int32} {last s k : Int} (h : dzW d0 d co last s) (h0 : 0 ≤ k) (hk : k ≤ s) : xW lo ga d k = xW lo ga d0 k := by
  unfold xW
  rw [h.2 k h0 hk]
theorem nl_pre {T lo ga co d0 d d2 : Nat → Int32} {ba cr : Nat → Int64} {last s : Int} {z : Int32} (q : seW T (xW lo ga d0) ba cr last last) (h : dzW d0 d co last s) (e : d2 = upd d s.toNat z) (hs : s ≤ last) : seW T (xW lo ga d2) ba cr last s :=
  se_congr (se_less q hs) (fun k a b => by rw [xw_same e ⟨a, b⟩, xw_dz h a (by omega)])
theorem nl_yes {T lo ga co d0 d d2 : Nat → Int32} {ba cr : Nat → Int64} {last s : Int} {x y z : Int32} (h : dzW d0 d co last s) (hd : diW d0 co last) (h0 : 0 ≤ s) (hs : s < last) (ex : x = d s.toNat) (ey : y = co s.toNat) (hc : x.toInt + 1 < y.toInt) (ez : z.toInt = x.toInt + 1) (e : d2 = upd d s.toNat z) (q : seW T (xW lo ga d2) ba cr last last) : nlW T lo ga co d0 d2 ba cr last := by
  have at2 : ∀ k : Int, 0 ≤ k → ¬ k = s → d2 k.toNat = d k.toNat := fun k a b => by
    rw [e]
    show (if k.toNat = s.toNat then z else d k.toNat) = _
    rw [if_neg (by omega)]
  have ats : d2 s.toNat = z := by
    rw [e]
    show (if s.toNat = s.toNat then z else d s.toNat) = z
    rw [if_pos rfl]
  have d0s : (d0 s.toNat).toInt = x.toInt := by rw [← h.2 s h0 (Int.le_refl _), ex]
  have sn : ((s.toNat : Nat) : Int) = s := by omega
  refine Or.inl ⟨?_, fun k a b => ?_, q⟩
  · have base : lnK (cW co) (cW d2) (s.toNat + 1) = lnK (cW co) (cW d0) (s.toNat + 1) + 1 := by
      show lnK (cW co) (cW d2) s.toNat * cW co (s.toNat : Int) + cW d2 (s.toNat : Int) = lnK (cW co) (cW d0) s.toNat * cW co (s.toNat : Int) + cW d0 (s.toNat : Int) + 1
      rw [ln_congr (co := cW co) (co' := cW co) (di := cW d2) (di' := cW d0) s.toNat (fun k a b => ⟨rfl, by unfold cW; rw [at2 k a (by omega), h.2 k a (by omega)]⟩), sn]
      have e1 : cW d2 s = x.toInt + 1 := by unfold cW; rw [ats]; exact ez
      have e2 : cW d0 s = x.toInt := d0s
      rw [e1, e2]
      omega
    refine ln_carry (s.toNat + 1) last.toNat (by omega) (fun k a b => ?_) _ (fun k a b => ?_) base
    · have w := h.1 k (by omega) (by omega)
      have w2 := hd k (by omega) (by omega)
      unfold cW at w2 ⊢
      omega
    · have w := h.1 k (by omega) (by omega)
      unfold cW
      rw [at2 k (by omega) (by omega)]
      exact w.1
  · unfold cW
    by_cases c : k = s
    · subst c
      rw [ats]
      have w2 := hd k a b
      unfold cW at w2
      rw [← ey] at w2 ⊢
      omega
    · rw [at2 k a c]
      by_cases c2 : k < s
      · rw [h.2 k a (by omega)]
        exact hd k a b
      · have w := h.1 k (by omega) b
        have w2 := hd k a b
        unfold cW at w2
        omega
/-! the first line -/
theorem bsK_z {T : Nat → Int32} {x : Int → Int} : ∀ m : Nat, bsK T x 0 m = 0
  | 0 => rfl
  | m + 1 => by
    show bsK T x 0 m + (0 : Int) * 0 = 0
    rw [bsK_z m]; rfl
theorem crK_z {T : Nat → Int32} {x : Int → Int} {j : Int} : ∀ m : Nat, crK T x 0 j m = 0
  | 0 => rfl
  | m + 1 => by
    show crK T x 0 j m - (0 : Int) * _ = 0
    rw [crK_z m, Int.zero_mul]; rfl
def z0W (ba cr : Nat → Int64) (last : Int) : Prop := ba 0 = I6 0 ∧ ∀ j : Int, 0 ≤ j → j ≤ last → cr j.toNat = I6 0
theorem se_0 {T : Nat → Int32} {x : Int → Int} {ba cr : Nat → Int64} {last : Int} (h : z0W ba cr last) : seW T x ba cr last 0 := by
  intro s h0 h1
  have e : s = 0 := by omega
  subst e
  refine ⟨?_, fun j a b => ?_⟩
  · show ba 0 = I6 (bsK T x 0 6)
    rw [bsK_z]; exact h.1
  · show cr (5 * 0 + j).toNat = I6 (crK T x 0 j 6)
    rw [crK_z]
    have e2 : (5 * 0 + j).toNat = j.toNat := by omega
    rw [e2]; exact h.2 j a b
theorem ln_0 {co di : Int → Int} : ∀ n : Nat, (∀ s : Int, 0 ≤ s → s < (n : Int) → di s = 0) → lnK co di n = 0
  | 0, _ => rfl
  | n + 1, h => by
    show lnK co di n * co (n : Int) + di (n : Int) = 0
    rw [ln_0 n (fun s a b => h s a (by omega)), h (n : Int) (by omega) (by omega), Int.zero_mul]; rfl
theorem xW_v {lo ga : Nat → Int32} {s : Int} {a b q d e : Int32} {y : Int64} (h1 : a = lo s.toNat) (h2 : b = ga s.toNat) (h4 : d = b * q) (h5 : e = a + d) (h6 : y.toInt = e.toInt) : y = I6 (lo s.toNat + ga s.toNat * q).toInt := by
  have h := n_rng e
  apply Int64.toInt_inj.mp
  subst h1 h2 h4 h5
  rw [I6_to (by omega) (by omega), h6]
