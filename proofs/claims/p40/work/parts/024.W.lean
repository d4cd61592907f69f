/-! lines of rows of numbers (p40 and on; draft): what senders send, level by level; the first least place along a line -/
def rsK (T : Nat → Int32) (x : Int → Int) (r : Int) : Nat → Int
  | 0 => 0
  | n + 1 => rsK T x r n + (T (6 * (n : Int) + r).toNat).toInt * x (n : Int)
def bsK (T : Nat → Int32) (x : Int → Int) (n : Nat) : Nat → Int
  | 0 => 0
  | m + 1 => bsK T x n m + rsK T x (m : Int) n * rsK T x (m : Int) n
def crK (T : Nat → Int32) (x : Int → Int) (n : Nat) (j : Int) : Nat → Int
  | 0 => 0
  | m + 1 => crK T x n j m - rsK T x (m : Int) n * (T (6 * j + (m : Int)).toNat).toInt
theorem rk_1 (a t u x : Int) : (a + t * x) * u = a * u + x * (t * u) := by
  rw [Int.add_mul, Int.mul_comm t x, Int.mul_assoc]
theorem rk_2 (a t x : Int) : (a + t * x) * (a + t * x) = a * a + x * (x * (t * t) + 2 * (a * t)) := by
  grind
theorem crK_succ {T : Nat → Int32} {x : Int → Int} {n : Nat} {j : Int} : ∀ m : Nat, crK T x (n + 1) j m = crK T x n j m - x (n : Int) * dtn T (n : Int) j m
  | 0 => by
    show (0 : Int) = 0 - x (n : Int) * 0
    rw [Int.mul_zero]; rfl
  | m + 1 => by
    have ih := crK_succ (T := T) (x := x) (n := n) (j := j) m
    show crK T x (n + 1) j m - (rsK T x (m : Int) n + (T (6 * (n : Int) + (m : Int)).toNat).toInt * x (n : Int)) * (T (6 * j + (m : Int)).toNat).toInt = crK T x n j m - rsK T x (m : Int) n * (T (6 * j + (m : Int)).toNat).toInt - x (n : Int) * (dtn T (n : Int) j m + (T (6 * (n : Int) + (m : Int)).toNat).toInt * (T (6 * j + (m : Int)).toNat).toInt)
    rw [ih, rk_1, Int.mul_add]
    omega
theorem bsK_succ {T : Nat → Int32} {x : Int → Int} {n : Nat} : ∀ m : Nat, bsK T x (n + 1) m = bsK T x n m + x (n : Int) * (x (n : Int) * dtn T (n : Int) (n : Int) m - 2 * crK T x n (n : Int) m)
  | 0 => by
    show (0 : Int) = 0 + x (n : Int) * (x (n : Int) * 0 - 2 * 0)
    rw [Int.mul_zero, Int.mul_zero, Int.sub_zero, Int.mul_zero]; rfl
  | m + 1 => by
    have ih := bsK_succ (T := T) (x := x) (n := n) m
    show bsK T x (n + 1) m + (rsK T x (m : Int) n + (T (6 * (n : Int) + (m : Int)).toNat).toInt * x (n : Int)) * (rsK T x (m : Int) n + (T (6 * (n : Int) + (m : Int)).toNat).toInt * x (n : Int)) = bsK T x n m + rsK T x (m : Int) n * rsK T x (m : Int) n + x (n : Int) * (x (n : Int) * (dtn T (n : Int) (n : Int) m + (T (6 * (n : Int) + (m : Int)).toNat).toInt * (T (6 * (n : Int) + (m : Int)).toNat).toInt) - 2 * (crK T x n (n : Int) m - rsK T x (m : Int) n * (T (6 * (n : Int) + (m : Int)).toNat).toInt))
    rw [ih, rk_2]
    generalize rsK T x (m : Int) n = a
    generalize (T (6 * (n : Int) + (m : Int)).toNat).toInt = t
    generalize x (n : Int) = y
    generalize dtn T (n : Int) (n : Int) m = p
    generalize crK T x n (n : Int) m = c
    generalize bsK T x n m = b
    grind
theorem rsK_congr {T : Nat → Int32} {x y : Int → Int} {r : Int} : ∀ n : Nat, (∀ k : Int, 0 ≤ k → k < (n : Int) → x k = y k) → rsK T x r n = rsK T y r n
  | 0, _ => rfl
  | n + 1, h => by
    show rsK T x r n + _ * x (n : Int) = rsK T y r n + _ * y (n : Int)
    rw [rsK_congr n (fun k h0 h1 => h k h0 (by omega)), h (n : Int) (by omega) (by omega)]
theorem bsK_congr {T : Nat → Int32} {x y : Int → Int} {n : Nat} (h : ∀ k : Int, 0 ≤ k → k < (n : Int) → x k = y k) : ∀ m : Nat, bsK T x n m = bsK T y n m
  | 0 => rfl
  | m + 1 => by
    show bsK T x n m + _ = bsK T y n m + _
    rw [bsK_congr h m, rsK_congr n h]
theorem crK_congr {T : Nat → Int32} {x y : Int → Int} {n : Nat} {j : Int} (h : ∀ k : Int, 0 ≤ k → k < (n : Int) → x k = y k) : ∀ m : Nat, crK T x n j m = crK T y n j m
  | 0 => rfl
  | m + 1 => by
    show crK T x n j m - _ = crK T y n j m - _
    rw [crK_congr h m, rsK_congr n h]
/-! a column of nothing -/
theorem crK_nil {T : Nat → Int32} {x : Int → Int} {n : Nat} {j : Int} : ∀ m : Nat, (∀ k : Nat, k < m → (T (6 * j + (k : Int)).toNat).toInt = 0) → crK T x n j m = 0
  | 0, _ => rfl
  | m + 1, h => by
    show crK T x n j m - rsK T x (m : Int) n * (T (6 * j + (m : Int)).toNat).toInt = 0
    rw [crK_nil m (fun k hk => h k (by omega)), h m (by omega), Int.mul_zero]; rfl
theorem kw_sq (a : Int) : 0 ≤ a * a := by
  rcases Int.le_total 0 a with h | h
  · exact Int.mul_nonneg h h
  · have q := Int.mul_nonneg (show 0 ≤ -a by omega) (show 0 ≤ -a by omega)
    rw [Int.neg_mul_neg] at q
    exact q
theorem crK_0 {T : Nat → Int32} {x : Int → Int} {n : Nat} {j : Int} (h : dtn T j j 6 = 0) : crK T x n j 6 = 0 := by
  refine crK_nil 6 (fun k hk => ?_)
  have h1 := dtn_ge (f := T) (a := j) 6 k hk
  rw [h] at h1
  have h2 : (T (6 * j + (k : Int)).toNat).toInt * (T (6 * j + (k : Int)).toNat).toInt = 0 := by
    have h3 := kw_sq (T (6 * j + (k : Int)).toNat).toInt
    omega
  rcases Int.mul_eq_zero.mp h2 with h4 | h4 <;> exact h4
/-! along a line -/
def qdK (b P C x : Int) : Int := b + x * (x * P - 2 * C)
theorem qd_step {b P C lo g k : Int} : qdK b P C (lo + g * (k + 1)) - qdK b P C (lo + g * k) = g * ((2 * k + 1) * (P * g) - 2 * (C - lo * P)) := by
  unfold qdK
  grind
def fmQ (q : Int → Int) (m d : Int) : Prop := 0 ≤ d ∧ d < m ∧ (∀ k, 0 ≤ k → k < m → q d ≤ q k) ∧ (∀ k, 0 ≤ k → k < d → q d < q k)
theorem kw_down {q : Int → Int} {a : Int} : ∀ (n : Nat) (b : Int), (b - a).toNat ≤ n → (∀ k, a ≤ k → k < b → q (k + 1) < q k) → ∀ k, a ≤ k → k < b → q b < q k
  | 0, b, hn, _ => fun k h1 h2 => absurd h2 (by omega)
  | n + 1, b, hn, h => fun k h1 h2 => by
    have h3 := h (b - 1) (by omega) (by omega)
    rw [Int.sub_add_cancel] at h3
    by_cases e : k = b - 1
    · rw [e]; exact h3
    · have h4 := kw_down n (b - 1) (by omega) (fun k a1 a2 => h k a1 (by omega)) k h1 (by omega)
      omega
theorem kw_up {q : Int → Int} {a : Int} : ∀ (n : Nat) (b : Int), (b - a).toNat ≤ n → (∀ k, a ≤ k → k < b → q k < q (k + 1)) → a < b → q a < q b
  | 0, b, hn, _ => fun h => absurd h (by omega)
  | n + 1, b, hn, h => fun hab => by
    have h3 := h (b - 1) (by omega) (by omega)
    rw [Int.sub_add_cancel] at h3
    by_cases e : a = b - 1
    · rw [← e] at h3; exact h3
    · have h4 := kw_up n (b - 1) (by omega) (fun k a1 a2 => h k a1 (by omega)) (by omega)
      omega
theorem kw_flat {b C lo g m : Int} (hC : C = 0) (hm : 1 ≤ m) : fmQ (fun k => qdK b 0 C (lo + g * k)) m 0 := by
  have e : ∀ x : Int, qdK b 0 C x = b := fun x => by
    unfold qdK
    rw [hC, Int.mul_zero, Int.mul_zero, Int.sub_zero, Int.mul_zero, Int.add_zero]
  refine ⟨by omega, by omega, fun k _ _ => ?_, fun k h0 h1 => absurd h1 (by omega)⟩
  show qdK b 0 C _ ≤ qdK b 0 C _
  rw [e, e]
  exact Int.le_refl b
theorem kw_sgn {g E : Int} (hg : 0 < g) : (E < 0 → g * E < 0) ∧ (0 < E → 0 < g * E) := ⟨fun h => Int.mul_neg_of_pos_of_neg hg h, fun h => Int.mul_pos hg h⟩
theorem kw_best {b P C lo g m w N place d0 d : Int} (hg : 0 < g) (hm : 1 ≤ m) (ew : w = P * g) (hw : 0 < w) (eN : N = C - lo * P) (h1 : place * w ≤ N) (h2 : N < (place + 1) * w) (e0 : (place < 0 ∧ d0 = 0) ∨ (m - 1 ≤ place ∧ d0 = m - 1) ∨ (0 ≤ place ∧ place < m - 1 ∧ d0 = place))
    (hd : (d = d0 + 1 ∧ d0 + 1 < m ∧ qdK b P C (lo + g * (d0 + 1)) < qdK b P C (lo + g * d0)) ∨ (d = d0 ∧ ¬ (d0 + 1 < m ∧ qdK b P C (lo + g * (d0 + 1)) < qdK b P C (lo + g * d0)))) : fmQ (fun k => qdK b P C (lo + g * k)) m d := by
  have st : ∀ k : Int, qdK b P C (lo + g * (k + 1)) - qdK b P C (lo + g * k) = g * ((2 * k + 1) * w - 2 * N) := fun k => by rw [ew, eN]; exact qd_step
  have dn : ∀ k : Int, k < place → qdK b P C (lo + g * (k + 1)) < qdK b P C (lo + g * k) := fun k hk => by
    have a1 : (2 * k + 1) * w ≤ (2 * place - 1) * w := Int.mul_le_mul_of_nonneg_right (by omega) (by omega)
    have a2 : (2 * place - 1) * w = 2 * (place * w) - w := by rw [Int.sub_mul, Int.mul_assoc, Int.one_mul]
    have a3 := (kw_sgn (E := (2 * k + 1) * w - 2 * N) hg).1 (by omega)
    have a4 := st k
    omega
  have up : ∀ k : Int, place < k → qdK b P C (lo + g * k) < qdK b P C (lo + g * (k + 1)) := fun k hk => by
    have a1 : (2 * (place + 1) + 1) * w ≤ (2 * k + 1) * w := Int.mul_le_mul_of_nonneg_right (by omega) (by omega)
    have a2 : (2 * (place + 1) + 1) * w = 2 * ((place + 1) * w) + w := by rw [Int.add_mul, Int.mul_assoc, Int.one_mul]
    have a3 := (kw_sgn (E := (2 * k + 1) * w - 2 * N) hg).2 (by omega)
    have a4 := st k
    omega
  have D : ∀ (e k : Int), e ≤ place → k < e → qdK b P C (lo + g * e) < qdK b P C (lo + g * k) := fun e k he hk =>
    kw_down (q := fun k => qdK b P C (lo + g * k)) (a := k) (e - k).toNat e (Nat.le_refl _) (fun j _ hj => dn j (by omega)) k (Int.le_refl k) hk
  have U : ∀ (e k : Int), place < e → e < k → qdK b P C (lo + g * e) < qdK b P C (lo + g * k) := fun e k he hk =>
    kw_up (q := fun k => qdK b P C (lo + g * k)) (a := e) (k - e).toNat k (Nat.le_refl _) (fun j hj _ => up j (by omega)) hk
  rcases e0 with ⟨p1, p2⟩ | ⟨p1, p2⟩ | ⟨p1, p3, p2⟩
  · have q0 : d = 0 := by
      rcases hd with ⟨z1, z2, z3⟩ | ⟨z1, _⟩
      · have := up d0 (by omega); omega
      · omega
    refine ⟨by omega, by omega, fun k k0 k1 => ?_, fun k k0 k1 => absurd k1 (by omega)⟩
    show qdK b P C (lo + g * d) ≤ qdK b P C (lo + g * k)
    by_cases e : k = d
    · rw [e]; exact Int.le_refl _
    · exact Int.le_of_lt (U d k (by omega) (by omega))
  · have q0 : d = m - 1 := by
      rcases hd with ⟨z1, z2, z3⟩ | ⟨z1, _⟩ <;> omega
    refine ⟨by omega, by omega, fun k k0 k1 => ?_, fun k k0 k1 => D d k (by omega) k1⟩
    show qdK b P C (lo + g * d) ≤ qdK b P C (lo + g * k)
    by_cases e : k = d
    · rw [e]; exact Int.le_refl _
    · exact Int.le_of_lt (D d k (by omega) (by omega))
  · rcases hd with ⟨z1, z2, z3⟩ | ⟨z1, z2⟩
    · rw [p2] at z3
      have z1' : d = place + 1 := by omega
      refine ⟨by omega, by omega, fun k k0 k1 => ?_, fun k k0 k1 => ?_⟩
      · show qdK b P C (lo + g * d) ≤ qdK b P C (lo + g * k)
        rw [z1']
        by_cases e : k = place + 1
        · rw [e]; exact Int.le_refl _
        · by_cases e2 : k = place
          · rw [e2]; exact Int.le_of_lt z3
          · by_cases e3 : k < place
            · have := D place k (Int.le_refl _) e3; omega
            · exact Int.le_of_lt (U (place + 1) k (by omega) (by omega))
      · show qdK b P C (lo + g * d) < qdK b P C (lo + g * k)
        rw [z1']
        by_cases e2 : k = place
        · rw [e2]; exact z3
        · have := D place k (Int.le_refl _) (by omega); omega
    · rw [p2] at z2
      have z1' : d = place := by omega
      have z4 : qdK b P C (lo + g * place) ≤ qdK b P C (lo + g * (place + 1)) := by
        by_cases e : qdK b P C (lo + g * (place + 1)) < qdK b P C (lo + g * place)
        · exact absurd ⟨by omega, e⟩ z2
        · omega
      refine ⟨by omega, by omega, fun k k0 k1 => ?_, fun k k0 k1 => ?_⟩
      · show qdK b P C (lo + g * d) ≤ qdK b P C (lo + g * k)
        rw [z1']
        by_cases e : k = place
        · rw [e]; exact Int.le_refl _
        · by_cases e3 : k < place
          · exact Int.le_of_lt (D place k (Int.le_refl _) e3)
          · by_cases e4 : k = place + 1
            · rw [e4]; exact z4
            · have := U (place + 1) k (by omega) (by omega); omega
      · show qdK b P C (lo + g * d) < qdK b P C (lo + g * k)
        rw [z1']
        exact D place k (Int.le_refl _) (by omega)
/-! the first least of many, line by line -/
def amK (f : Int → Int) (n b a : Int) : Prop := (n = 0 ∧ b = 1000000000000000) ∨ (0 ≤ a ∧ a < n ∧ b = f a ∧ (∀ k, 0 ≤ k → k < n → b ≤ f k) ∧ (∀ k, 0 ≤ k → k < a → b < f k))
theorem am_uni {f : Int → Int} {n b a b' a' : Int} (h : amK f n b a) (h' : amK f n b' a') (hn : 0 < n) : b = b' ∧ a = a' := by
  rcases h with ⟨h, _⟩ | ⟨h1, h2, h3, h4, h5⟩
  · omega
  rcases h' with ⟨h, _⟩ | ⟨k1, k2, k3, k4, k5⟩
  · omega
  have e1 := h4 a' k1 k2
  have e2 := k4 a h1 h2
  refine ⟨by omega, ?_⟩
  by_cases c : a < a'
  · have := k5 a h1 c; omega
  · by_cases c2 : a' < a
    · have := h5 a' k1 c2; omega
    · omega
theorem am_line {f : Int → Int} {m L n n' b a d v b' a' : Int} (h : amK f n b a) (en : n = m * L) (en' : n' = m * L + m) (hm : 1 ≤ m) (hL : 0 ≤ L) (hd : fmQ (fun k => f (m * L + k)) m d) (ev : v = f (m * L + d)) (hf : ∀ k, 0 ≤ k → k < n' → f k < 1000000000000000) (hb : (v < b ∧ b' = v ∧ a' = m * L + d) ∨ (¬ v < b ∧ b' = b ∧ a' = a)) : amK f n' b' a' := by
  obtain ⟨d0, d1, d2, d3⟩ := hd
  have hn0 : 0 ≤ m * L := Int.mul_nonneg (by omega) hL
  have at' : ∀ k, m * L ≤ k → k < n' → v ≤ f k := fun k k0 k1 => by
    have := d2 (k - m * L) (by omega) (by omega)
    have e : m * L + (k - m * L) = k := by omega
    simp only [e] at this
    omega
  have bef : ∀ k, m * L ≤ k → k < m * L + d → v < f k := fun k k0 k1 => by
    have := d3 (k - m * L) (by omega) (by omega)
    have e : m * L + (k - m * L) = k := by omega
    simp only [e] at this
    omega
  rcases h with ⟨z, zb⟩ | ⟨h1, h2, h3, h4, h5⟩
  · rcases hb with ⟨c, e1, e2⟩ | ⟨c, e1, e2⟩
    · exact Or.inr ⟨by omega, by omega, by rw [e1, e2]; exact ev, fun k k0 k1 => by have := at' k (by omega) k1; omega, fun k k0 k1 => by have := bef k (by omega) (by omega); omega⟩
    · have := hf (m * L + d) (by omega) (by omega); omega
  · rcases hb with ⟨c, e1, e2⟩ | ⟨c, e1, e2⟩
    · refine Or.inr ⟨by omega, by omega, by rw [e1, e2]; exact ev, fun k k0 k1 => ?_, fun k k0 k1 => ?_⟩
      · by_cases q : k < m * L
        · have := h4 k k0 (by omega); omega
        · have := at' k (by omega) k1; omega
      · by_cases q : k < m * L
        · have := h4 k k0 (by omega); omega
        · have := bef k (by omega) (by omega); omega
    · refine Or.inr ⟨by omega, by omega, by rw [e1, e2]; exact h3, fun k k0 k1 => ?_, fun k k0 k1 => by rw [e1]; exact h5 k k0 (by omega)⟩
      by_cases q : k < m * L
      · have := h4 k k0 (by omega); omega
      · have := at' k (by omega) k1; omega
/-! numbers of rows: digits by a mixed base, the first sender's the highest -/
def lnK (co di : Int → Int) : Nat → Int
  | 0 => 0
  | n + 1 => lnK co di n * co (n : Int) + di (n : Int)
def nmK (co : Int → Int) : Nat → Int
  | 0 => 1
  | n + 1 => nmK co n * co (n : Int)
def dgK (co : Int → Int) : Nat → Int → Int → Int
  | 0, _, _ => 0
  | n + 1, k, s => if s = (n : Int) then k % co (n : Int) else dgK co n (k / co (n : Int)) s
theorem ln_div {a c d : Int} (h : 0 ≤ d ∧ d < c) : (a * c + d) / c = a ∧ (a * c + d) % c = d := by
  have h1 : 0 < c := by omega
  have e1 : (a * c + d) / c = a := by
    rw [Int.add_comm, Int.add_mul_ediv_right _ _ (by omega), Int.ediv_eq_zero_of_lt h.1 h.2]
    omega
  have e2 := Int.emod_def (a * c + d) c
  rw [e1] at e2
  have e3 : c * a = a * c := Int.mul_comm c a
  exact ⟨e1, by omega⟩
theorem dg_ln {co di : Int → Int} : ∀ (n : Nat), (∀ s : Int, 0 ≤ s → s < (n : Int) → 0 ≤ di s ∧ di s < co s) → ∀ s : Int, 0 ≤ s → s < (n : Int) → dgK co n (lnK co di n) s = di s
  | 0, _ => fun s h0 h1 => absurd h1 (by omega)
  | n + 1, h => fun s h0 h1 => by
    have q := ln_div (a := lnK co di n) (h (n : Int) (by omega) (by omega))
    show (if s = (n : Int) then (lnK co di n * co (n : Int) + di (n : Int)) % co (n : Int) else dgK co n ((lnK co di n * co (n : Int) + di (n : Int)) / co (n : Int)) s) = di s
    by_cases e : s = (n : Int)
    · rw [if_pos e, q.2, e]
    · rw [if_neg e, q.1]
      exact dg_ln n (fun s a b => h s a (by omega)) s h0 (by omega)
theorem ln_rng {co di : Int → Int} : ∀ (n : Nat), (∀ s : Int, 0 ≤ s → s < (n : Int) → 0 ≤ di s ∧ di s < co s) → 0 ≤ lnK co di n ∧ lnK co di n < nmK co n
  | 0, _ => ⟨Int.le_refl 0, by show (0 : Int) < 1; omega⟩
  | n + 1, h => by
    have ih := ln_rng n (fun s a b => h s a (by omega))
    have q := h (n : Int) (by omega) (by omega)
    show 0 ≤ lnK co di n * co (n : Int) + di (n : Int) ∧ lnK co di n * co (n : Int) + di (n : Int) < nmK co n * co (n : Int)
    have a1 : 0 ≤ lnK co di n * co (n : Int) := Int.mul_nonneg ih.1 (by omega)
    have a2 : (lnK co di n + 1) * co (n : Int) ≤ nmK co n * co (n : Int) := Int.mul_le_mul_of_nonneg_right (by omega) (by omega)
    rw [Int.add_mul, Int.one_mul] at a2
    omega
theorem ln_congr {co co' di di' : Int → Int} : ∀ (n : Nat), (∀ s : Int, 0 ≤ s → s < (n : Int) → co s = co' s ∧ di s = di' s) → lnK co di n = lnK co' di' n
  | 0, _ => rfl
  | n + 1, h => by
    show lnK co di n * co (n : Int) + di (n : Int) = lnK co' di' n * co' (n : Int) + di' (n : Int)
    rw [ln_congr n (fun s a b => h s a (by omega)), (h (n : Int) (by omega) (by omega)).1, (h (n : Int) (by omega) (by omega)).2]
/-- all digits from a place on are full: one more is a one ahead of it and nothing from it on -/
theorem ln_carry {co di : Int → Int} (p : Nat) : ∀ (n : Nat), p ≤ n → (∀ s : Int, (p : Int) ≤ s → s < (n : Int) → di s + 1 = co s) → ∀ dj : Int → Int, (∀ s : Int, (p : Int) ≤ s → s < (n : Int) → dj s = 0) → lnK co dj p = lnK co di p + 1 → lnK co dj n = lnK co di n + 1
  | 0, hp, _ => fun _ _ h0 => by
    have e : p = 0 := by omega
    subst e
    exact h0
  | n + 1, hp, h => fun dj hz h0 => by
    by_cases e : p = n + 1
    · subst e; exact h0
    · have ih := ln_carry (co := co) (di := di) p n (by omega) (fun s a b => h s a (by omega)) dj (fun s a b => hz s a (by omega)) h0
      show lnK co dj n * co (n : Int) + dj (n : Int) = lnK co di n * co (n : Int) + di (n : Int) + 1
      have q1 := h (n : Int) (by omega) (by omega)
      have q2 := hz (n : Int) (by omega) (by omega)
      rw [ih, q2, Int.add_mul, Int.one_mul]
      omega
theorem nm_pos {co : Int → Int} : ∀ (n : Nat), (∀ s : Int, 0 ≤ s → s < (n : Int) → 1 ≤ co s) → 1 ≤ nmK co n
  | 0, _ => Int.le_refl 1
  | n + 1, h => by
    have ih := nm_pos n (fun s a b => h s a (by omega))
    have q := h (n : Int) (by omega) (by omega)
    show 1 ≤ nmK co n * co (n : Int)
    have := Int.mul_le_mul_of_nonneg_right (c := co (n : Int)) ih (by omega)
    omega
/-! the number's digits, one after the other from the last on (the reference) -/
theorem dg_last {co : Int → Int} {n : Nat} {k : Int} : dgK co (n + 1) k (n : Int) = k % co (n : Int) := if_pos rfl
theorem dg_next {co : Int → Int} {n : Nat} {k s : Int} (h : s < (n : Int)) : dgK co (n + 1) k s = dgK co n (k / co (n : Int)) s := if_neg (by omega)
theorem dg_rng {co : Int → Int} : ∀ (n : Nat) (k s : Int), (∀ s : Int, 0 ≤ s → s < (n : Int) → 1 ≤ co s) → 0 ≤ s → s < (n : Int) → 0 ≤ dgK co n k s ∧ dgK co n k s < co s
  | 0, k, s, _, h0, h1 => absurd h1 (by omega)
  | n + 1, k, s, h, h0, h1 => by
    by_cases e : s = (n : Int)
    · subst e
      rw [dg_last]
      have q := h (n : Int) (by omega) (by omega)
      exact ⟨Int.emod_nonneg _ (by omega), Int.emod_lt_of_pos _ (by omega)⟩
    · rw [dg_next (by omega)]
      exact dg_rng n _ s (fun s a b => h s a (by omega)) h0 (by omega)
