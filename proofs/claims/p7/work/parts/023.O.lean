noncomputable def rkN (P : Int → Prop) : Nat → Int
  | 0 => 0
  | n + 1 => rkN P n + ci (P (n : Int)) 1 0
theorem rk_01 {p : Prop} : 0 ≤ ci p (1 : Int) 0 ∧ ci p (1 : Int) 0 ≤ 1 := by
  by_cases h : p
  · rw [ci_pos h]; omega
  · rw [ci_neg h]; omega
theorem rk_nn {P : Int → Prop} : ∀ n : Nat, 0 ≤ rkN P n
  | 0 => Int.le_refl 0
  | n + 1 => by
    show 0 ≤ rkN P n + ci (P (n : Int)) 1 0
    have h1 := rk_nn (P := P) n
    have h2 := rk_01 (p := P (n : Int))
    omega
theorem rk_le {P : Int → Prop} : ∀ n : Nat, rkN P n ≤ (n : Int)
  | 0 => Int.le_refl 0
  | n + 1 => by
    show rkN P n + ci (P (n : Int)) 1 0 ≤ ((n + 1 : Nat) : Int)
    have h1 := rk_le (P := P) n
    have h2 := rk_01 (p := P (n : Int))
    omega
theorem rk_imp {p q : Prop} (h : p → q) : ci p (1 : Int) 0 ≤ ci q (1 : Int) 0 := by
  by_cases a : p
  · rw [ci_pos a, ci_pos (h a)]; omega
  · rw [ci_neg a]; exact (rk_01 (p := q)).1
theorem rk_mono {P Q : Int → Prop} : ∀ n : Nat, (∀ t : Int, 0 ≤ t → t < (n : Int) → P t → Q t) → rkN P n ≤ rkN Q n
  | 0, _ => Int.le_refl 0
  | n + 1, h => by
    show rkN P n + ci (P (n : Int)) 1 0 ≤ rkN Q n + ci (Q (n : Int)) 1 0
    have h1 := rk_mono n (fun t a b => h t a (by omega))
    have h2 := rk_imp (h (n : Int) (by omega) (by omega))
    omega
theorem rk_strict {P Q : Int → Prop} {a : Int} : ∀ n : Nat, (∀ t : Int, 0 ≤ t → t < (n : Int) → P t → Q t) → 0 ≤ a → a < (n : Int) → ¬ P a → Q a → rkN P n + 1 ≤ rkN Q n
  | 0, _, h0, h1, _, _ => absurd h1 (by omega)
  | n + 1, h, h0, h1, hp, hq => by
    show rkN P n + ci (P (n : Int)) 1 0 + 1 ≤ rkN Q n + ci (Q (n : Int)) 1 0
    by_cases c : a = (n : Int)
    · rw [← c, ci_neg hp, ci_pos hq]
      have := rk_mono (P := P) (Q := Q) n (fun t a b => h t a (by omega))
      omega
    · have h3 := rk_strict n (fun t a b => h t a (by omega)) h0 (by omega) hp hq
      have h2 := rk_imp (h (n : Int) (by omega) (by omega))
      omega
theorem rk_step {P : Int → Prop} {c c2 k k2 : Int} (h : c = rkN P k.toNat) (h0 : 0 ≤ k) (hc : (P k ∧ c2 = c + 1) ∨ (¬ P k ∧ c2 = c)) (ek : k2 = k + 1) : c2 = rkN P k2.toNat := by
  rw [show k2.toNat = k.toNat + 1 by omega]
  show c2 = rkN P k.toNat + ci (P ((k.toNat : Nat) : Int)) 1 0
  rw [show ((k.toNat : Nat) : Int) = k by omega, ← h]
  rcases hc with ⟨p, q⟩ | ⟨p, q⟩
  · rw [ci_pos p, q]
  · rw [ci_neg p, q]; omega
/-- t stands ahead of s -/
def bfQ (q : Int → Int) (t s : Int) : Prop := q s < q t ∨ (q t = q s ∧ t < s)
theorem bf_no {q : Int → Int} {s : Int} : ¬ bfQ q s s := fun h => by unfold bfQ at h; omega
theorem bf_tr {q : Int → Int} {a b c : Int} (h : bfQ q a b) (k : bfQ q b c) : bfQ q a c := by unfold bfQ at h k ⊢; omega
theorem bf_tot {q : Int → Int} {a b : Int} (h : ¬ a = b) : bfQ q a b ∨ bfQ q b a := by unfold bfQ; omega
theorem rk_lt {q : Int → Int} {a b : Int} {n : Nat} (h : bfQ q a b) (ha : 0 ≤ a ∧ a < (n : Int)) : rkN (fun t => bfQ q t a) n + 1 ≤ rkN (fun t => bfQ q t b) n := rk_strict n (fun t _ _ z => bf_tr z h) ha.1 ha.2 bf_no h
theorem rk_inj {q : Int → Int} {a b : Int} {n : Nat} (ha : 0 ≤ a ∧ a < (n : Int)) (hb : 0 ≤ b ∧ b < (n : Int)) (e : rkN (fun t => bfQ q t a) n = rkN (fun t => bfQ q t b) n) : a = b := by
  by_cases c : a = b
  · exact c
  · rcases bf_tot (q := q) c with h | h
    · have := rk_lt h ha
      omega
    · have := rk_lt h hb
      omega
/-! the class: turns, put in one by one -/
def tJ (tr : Nat → Int32) (q : Int → Int) (n : Int) : Prop := ∀ j : Int, 0 ≤ j → j < n → (0 ≤ (tr j.toNat).toInt ∧ (tr j.toNat).toInt < n) ∧ rkN (fun t => bfQ q t (tr j.toNat).toInt) n.toNat = j
theorem tJ_0 {tr : Nat → Int32} {q : Int → Int} {n : Int} (h : n = 0) : tJ tr q n := fun j a b => absurd b (by omega)
theorem tJ_k {tr : Nat → Int32} {q : Int → Int} {n n2 : Int} (h : tJ tr q n) (e : n2 = n ∨ n2 ≤ 0) : tJ tr q n2 := by
  rcases e with e | e
  · rw [e]; exact h
  · exact fun j a b => absurd b (by omega)
def tW (tr0 tr : Nat → Int32) (q : Int → Int) (n qn k : Int) : Prop := (∀ j : Int, 0 ≤ j → j < k → tr j.toNat = tr0 j.toNat) ∧ (∀ j : Int, k < j → j ≤ n → tr j.toNat = tr0 (j - 1).toNat) ∧ (∀ j : Int, k ≤ j → j < n → q (tr0 j.toNat).toInt < qn)
theorem tW_0 {tr : Nat → Int32} {q : Int → Int} {n qn k : Int} (h : k = n) : tW tr tr q n qn k := ⟨fun _ _ _ => rfl, fun j a b => absurd a (by omega), fun j a b => absurd a (by omega)⟩
theorem tW_step {tr0 tr tr' : Nat → Int32} {q : Int → Int} {n qn k k2 a b c i : Int} {z1 z2 z3 r : Int32} {f : Nat → Int32} (h : tW tr0 tr q n qn k) (hq : ∀ s : Int, q s = (dw f s s 6).toInt) (e1 : z1 = tr a.toNat) (ha : a = k - 1) (e2 : z2 = tr b.toNat) (hb : b = k - 1) (er : r = dw f z1.toInt z2.toInt 6) (hr : r.toInt < qn) (e3 : z3 = tr c.toNat) (hc : c = k - 1) (e : tr' = upd tr i.toNat z3) (hi : i = k) (h1 : 1 ≤ k) (ek : k2 = k - 1) : tW tr0 tr' q n qn k2 := by
  subst ha
  subst hb
  subst hc
  subst hi
  have o : tr (i - 1).toNat = tr0 (i - 1).toNat := h.1 (i - 1) (by omega) (by omega)
  refine ⟨fun j x y => ?_, fun j x y => ?_, fun j x y => ?_⟩
  · rw [e, u_ne (by omega)]
    exact h.1 j x (by omega)
  · by_cases d : j = i
    · rw [e, u_eq (by rw [d]), e3, d]
      exact o
    · rw [e, u_ne (by omega)]
      exact h.2.1 j (by omega) y
  · by_cases d : j = i - 1
    · rw [d, hq, ← o, ← e1]
      have e12 : z2 = z1 := by rw [e1, e2]
      rw [e12] at er
      rw [← er]
      exact hr
    · exact h.2.2 j (by omega) y
theorem tJ_ins {tr0 tr tr' : Nat → Int32} {q : Int → Int} {n n2 qn k i : Int} {x : Int32} (J : tJ tr0 q n) (tw : tW tr0 tr q n qn k) (hx : k ≤ 0 ∨ qn ≤ q (tr0 (k - 1).toNat).toInt) (hq : qn = q n) (e : tr' = upd tr i.toNat x) (hi : i = k) (ex : x.toInt = n) (h0 : 0 ≤ k ∧ k ≤ n) (en : n2 = n + 1) : tJ tr' q n2 := by
  subst hi
  subst en
  obtain ⟨w1, w2, w3⟩ := tw
  have N : ((n.toNat : Nat) : Int) = n := by omega
  have N2 : (n + 1).toNat = n.toNat + 1 := by omega
  -- those ahead are no less
  have ge : ∀ j : Int, 0 ≤ j → j < i → qn ≤ q (tr0 j.toNat).toInt := by
    intro j a b
    have ja := J j a (by omega)
    have jk := J (i - 1) (by omega) (by omega)
    have hk : qn ≤ q (tr0 (i - 1).toNat).toInt := by
      rcases hx with z | z
      · omega
      · exact z
    rcases Int.lt_or_le (q (tr0 j.toNat).toInt) (q (tr0 (i - 1).toNat).toInt) with c | c
    · have l := rk_lt (q := q) (n := n.toNat) (show bfQ q (tr0 (i - 1).toNat).toInt (tr0 j.toNat).toInt from Or.inl c) ⟨jk.1.1, by rw [N]; exact jk.1.2⟩
      rw [ja.2, jk.2] at l
      omega
    · omega
  have last : ∀ P : Int → Prop, rkN P (n + 1).toNat = rkN P n.toNat + ci (P n) 1 0 := by
    intro P
    rw [N2]
    show rkN P n.toNat + ci (P ((n.toNat : Nat) : Int)) 1 0 = _
    rw [N]
  intro j a b
  by_cases c : j = i
  · have et : tr' j.toNat = x := by rw [e, u_eq (by rw [c])]
    rw [et, ex]
    refine ⟨by omega, ?_⟩
    rw [last, ci_neg bf_no]
    have up : rkN (fun t => bfQ q t n) n.toNat ≤ i := by
      by_cases d : i = n
      · have := rk_le (P := fun t => bfQ q t n) n.toNat
        omega
      · have jb := J i (by omega) (by omega)
        have hb := w3 i (by omega) (by omega)
        have := rk_mono (P := fun t => bfQ q t n) (Q := fun t => bfQ q t (tr0 i.toNat).toInt) n.toNat (fun t _ _ z => by unfold bfQ at z ⊢; omega)
        rw [jb.2] at this
        exact this
    have lo : i ≤ rkN (fun t => bfQ q t n) n.toNat := by
      by_cases d : i = 0
      · have := rk_nn (P := fun t => bfQ q t n) n.toNat
        omega
      · have jk := J (i - 1) (by omega) (by omega)
        have hk := ge (i - 1) (by omega) (by omega)
        have := rk_strict (P := fun t => bfQ q t (tr0 (i - 1).toNat).toInt) (Q := fun t => bfQ q t n) (a := (tr0 (i - 1).toNat).toInt) n.toNat (fun t _ u z => by unfold bfQ at z ⊢; omega) jk.1.1 (by rw [N]; exact jk.1.2) bf_no (by unfold bfQ; have := jk.1.2; omega)
        rw [jk.2] at this
        omega
    omega
  · rcases Int.lt_or_le j i with d | d
    · have et : tr' j.toNat = tr0 j.toNat := by rw [e, u_ne (by omega)]; exact w1 j a d
      have jj := J j a (by omega)
      have g := ge j a d
      rw [et]
      refine ⟨by omega, ?_⟩
      rw [last, jj.2, ci_neg (fun z => by unfold bfQ at z; have := jj.1.2; omega)]
      omega
    · have et : tr' j.toNat = tr0 (j - 1).toNat := by rw [e, u_ne (by omega)]; exact w2 j (by omega) (by omega)
      have jj := J (j - 1) (by omega) (by omega)
      have l := w3 (j - 1) (by omega) (by omega)
      rw [et]
      refine ⟨by omega, ?_⟩
      rw [last, jj.2, ci_pos (show bfQ q n (tr0 (j - 1).toNat).toInt from Or.inl (by omega))]
      omega
theorem tJ_ins1 {tr0 tr tr' : Nat → Int32} {q : Int → Int} {n n2 qn k i a b : Int} {x z1 z2 r y : Int32} {f : Nat → Int32} (J : tJ tr0 q n) (tw : tW tr0 tr q n qn k) (hq : ∀ s : Int, q s = (dw f s s 6).toInt) (e1 : z1 = tr a.toNat) (ha : a = k - 1) (e2 : z2 = tr b.toNat) (hb : b = k - 1) (er : r = dw f z1.toInt z2.toInt 6) (hr : qn ≤ r.toInt) (h1 : 1 ≤ k) (ey : y = dw f n n 6) (eq : qn = y.toInt) (e : tr' = upd tr i.toNat x) (hi : i = k) (ex : x.toInt = n) (h0 : 0 ≤ k ∧ k ≤ n) (en : n2 = n + 1) : tJ tr' q n2 := by
  refine tJ_ins J tw (Or.inr ?_) (by rw [hq, ← ey]; exact eq) e hi ex h0 en
  subst ha
  subst hb
  have o : tr (k - 1).toNat = tr0 (k - 1).toNat := tw.1 (k - 1) (by omega) (by omega)
  have e12 : z2 = z1 := by rw [e1, e2]
  rw [e12] at er
  rw [hq, ← o, ← e1, ← er]
  exact hr
theorem tJ_ins0 {tr0 tr tr' : Nat → Int32} {q : Int → Int} {n n2 qn k i : Int} {x y : Int32} {f : Nat → Int32} (J : tJ tr0 q n) (tw : tW tr0 tr q n qn k) (hq : ∀ s : Int, q s = (dw f s s 6).toInt) (hk : k ≤ 0) (ey : y = dw f n n 6) (eq : qn = y.toInt) (e : tr' = upd tr i.toNat x) (hi : i = k) (ex : x.toInt = n) (h0 : 0 ≤ k ∧ k ≤ n) (en : n2 = n + 1) : tJ tr' q n2 :=
  tJ_ins J tw (Or.inl hk) (by rw [hq, ← ey]; exact eq) e hi ex h0 en
/-! the reference: each at its place -/
def oR (tr : Nat → Int32) (q : Int → Int) (S n : Int) : Prop := ∀ s : Int, 0 ≤ s → s < n → (tr (rkN (fun t => bfQ q t s) S.toNat).toNat).toInt = s
theorem oR_0 {tr : Nat → Int32} {q : Int → Int} {S n : Int} (h : n = 0) : oR tr q S n := fun s a b => absurd b (by omega)
theorem oR_step {tr tr' : Nat → Int32} {q : Int → Int} {S n n2 i k : Int} {x : Int32} (h : oR tr q S n) (ei : i = rkN (fun t => bfQ q t n) k.toNat) (ek : k = S) (e : tr' = upd tr i.toNat x) (ex : x.toInt = n) (h0 : 0 ≤ n ∧ n < S) (en : n2 = n + 1) : oR tr' q S n2 := by
  subst ek
  subst en
  have N : ((k.toNat : Nat) : Int) = k := by omega
  intro s a b
  by_cases c : s = n
  · rw [e, c, ei, u_eq rfl]
    exact ex
  · have p1 := rk_nn (P := fun t => bfQ q t s) k.toNat
    have p2 := rk_nn (P := fun t => bfQ q t n) k.toNat
    have ne : ¬ rkN (fun t => bfQ q t s) k.toNat = rkN (fun t => bfQ q t n) k.toNat := fun z => c (rk_inj ⟨a, by omega⟩ ⟨h0.1, by omega⟩ z)
    rw [e, ei, u_ne (by omega)]
    exact h s a (by omega)
theorem bf_of {g : Nat → Int32} {k s c c2 : Int} {R : Nat} {q : Int → Int} {x y : Int32} (hq : ∀ s : Int, q s = (prn g s s R).toInt) (e1 : x = prn g k k R) (e2 : y = prn g s s R) (h : ((y.toInt < x.toInt ∨ (x.toInt = y.toInt ∧ k < s)) ∧ c2 = c + 1) ∨ (¬ (y.toInt < x.toInt ∨ (x.toInt = y.toInt ∧ k < s)) ∧ c2 = c)) : (bfQ q k s ∧ c2 = c + 1) ∨ (¬ bfQ q k s ∧ c2 = c) := by
  unfold bfQ
  rw [hq k, hq s, ← e1, ← e2]
  exact h
def orX (r k S : Int) (f : Nat → Int32) : Prop := ((0 ≤ k ∧ k < S) → (0 ≤ r ∧ r < S) ∧ rkN (fun t => bfQ (fun s => (dw f s s 6).toInt) t r) S.toNat = k) ∧ (¬ (0 ≤ k ∧ k < S) → r = -1)
theorem orX_yes {r k S i : Int} {f tr : Nat → Int32} {z : Int32} (hc : 0 ≤ k ∧ k < S) (J : tJ tr (fun s => (dw f s s 6).toInt) S) (e : z = tr i.toNat) (ei : i = k) (er : r = z.toInt) : orX r k S f := by
  subst ei
  refine ⟨fun _ => ?_, fun h => absurd hc h⟩
  rw [er, e]
  exact J i hc.1 hc.2
theorem orX_no {r k S : Int} {f : Nat → Int32} (hc : ¬ (0 ≤ k ∧ k < S)) (e : r = -1) : orX r k S f := ⟨fun h => absurd h hc, fun _ => e⟩
def orM (r k S R : Int) (g : Nat → Int32) : Prop := ((0 ≤ k ∧ k < S) → ∃ tr : Nat → Int32, r = (tr k.toNat).toInt ∧ oR tr (fun s => (prn g s s R.toNat).toInt) S S) ∧ (¬ (0 ≤ k ∧ k < S) → r = -1)
theorem orM_yes {r k S R i : Int} {g tr : Nat → Int32} {z : Int32} (hc : 0 ≤ k ∧ k < S) (J : oR tr (fun s => (prn g s s R.toNat).toInt) S S) (e : z = tr i.toNat) (ei : i = k) (er : r = z.toInt) : orM r k S R g := by
  subst ei
  exact ⟨fun _ => ⟨tr, by rw [er, e], J⟩, fun h => absurd hc h⟩
theorem orM_no {r k S R r1 : Int} {g : Nat → Int32} (i : inQ r1 k S) (h1 : r1 = 0) (e : r = -1) : orM r k S R g := ⟨fun h => absurd h (by unfold inQ at i; omega), fun _ => e⟩
