/-! lines of rows of numbers (p40 and on; draft): what senders send, level by level; the first least place along a line -/
def rsK (T : Nat → Int32) (x : Int → Int) (r : Int) : Nat → Int
  | 0 => 0
  | n + 1 => rsK T x r n + (T (6 * (n : Int) + r).toNat).toInt * x (n : Int)
def bsK (T : Nat → Int32) (x : Int → Int) (n : Nat) : Nat → Int
  | 0 => 0
  | m + 1 => bsK T x n m + rsK T x (m : Int) n * rsK T x (m : Int) n
def crK (T : Nat → Int32) (x : Int → Int) (n : Nat) (j : Int) : Nat → Int
  | 0 => 0
  | m + 1 => crK T x n j m - rsK T x (m : Int) n * (T (6 * j + (m : Int)).toNat).toInt
theorem rk_1 (a t u x : Int) : (a + t * x) * u = a * u + x * (t * u) := by
  rw [Int.add_mul, Int.mul_comm t x, Int.mul_assoc]
theorem rk_2 (a t x : Int) : (a + t * x) * (a + t * x) = a * a + x * (x * (t * t) + 2 * (a * t)) := by
  grind
theorem crK_succ {T : Nat → Int32} {x : Int → Int} {n : Nat} {j : Int} : ∀ m : Nat, crK T x (n + 1) j m = crK T x n j m - x (n : Int) * dtn T (n : Int) j m
  | 0 => by
    show (0 : Int) = 0 - x (n : Int) * 0
    rw [Int.mul_zero]; rfl
  | m + 1 => by
    have ih := crK_succ (T := T) (x := x) (n := n) (j := j) m
    show crK T x (n + 1) j m - (rsK T x (m : Int) n + (T (6 * (n : Int) + (m : Int)).toNat).toInt * x (n : Int)) * (T (6 * j + (m : Int)).toNat).toInt = crK T x n j m - rsK T x (m : Int) n * (T (6 * j + (m : Int)).toNat).toInt - x (n : Int) * (dtn T (n : Int) j m + (T (6 * (n : Int) + (m : Int)).toNat).toInt * (T (6 * j + (m : Int)).toNat).toInt)
    rw [ih, rk_1, Int.mul_add]
    omega
theorem bsK_succ {T : Nat → Int32} {x : Int → Int} {n : Nat} : ∀ m : Nat, bsK T x (n + 1) m = bsK T x n m + x (n : Int) * (x (n : Int) * dtn T (n : Int) (n : Int) m - 2 * crK T x n (n : Int) m)
  | 0 => by
    show (0 : Int) = 0 + x (n : Int) * (x (n : Int) * 0 - 2 * 0)
    rw [Int.mul_zero, Int.mul_zero, Int.sub_zero, Int.mul_zero]; rfl
  | m + 1 => by
    have ih := bsK_succ (T := T) (x := x) (n := n) m
    show bsK T x (n + 1) m + (rsK T x (m : Int) n + (T (6 * (n : Int) + (m : Int)).toNat).toInt * x (n : Int)) * (rsK T x (m : Int) n + (T (6 * (n : Int) + (m : Int)).toNat).toInt * x (n : Int)) = bsK T x n m + rsK T x (m : Int) n * rsK T x (m : Int) n + x (n : Int) * (x (n : Int) * (dtn T (n : Int) (n : Int) m + (T (6 * (n : Int) + (m : Int)).toNat).toInt * (T (6 * (n : Int) + (m : Int)).toNat).toInt) - 2 * (crK T x n (n : Int) m - rsK T x (m : Int) n * (T (6 * (n : Int) + (m : Int)).toNat).toInt))
    rw [ih, rk_2]
    generalize rsK T x (m : Int) n = a
    generalize (T (6 * (n : Int) + (m : Int)).toNat).toInt = t
    generalize x (n : Int) = y
    generalize dtn T (n : Int) (n : Int) m = p
    generalize crK T x n (n : Int) m = c
    generalize bsK T x n m = b
    grind
theorem rsK_congr {T : Nat → Int32} {x y : Int → Int} {r : Int} : ∀ n : Nat, (∀ k : Int, 0 ≤ k → k < (n : Int) → x k = y k) → rsK T x r n = rsK T y r n
  | 0, _ => rfl
  | n + 1, h => by
    show rsK T x r n + _ * x (n : Int) = rsK T y r n + _ * y (n : Int)
    rw [rsK_congr n (fun k h0 h1 => h k h0 (by omega)), h (n : Int) (by omega) (by omega)]
theorem bsK_congr {T : Nat → Int32} {x y : Int → Int} {n : Nat} (h : ∀ k : Int, 0 ≤ k → k < (n : Int) → x k = y k) : ∀ m : Nat, bsK T x n m = bsK T y n m
  | 0 => rfl
  | m + 1 => by
    show bsK T x n m + _ = bsK T y n m + _
    rw [bsK_congr h m, rsK_congr n h]
theorem crK_congr {T : Nat → Int32} {x y : Int → Int} {n : Nat} {j : Int} (h : ∀ k : Int, 0 ≤ k → k < (n : Int) → x k = y k) : ∀ m : Nat, crK T x n j m = crK T y n j m
  | 0 => rfl
  | m + 1 => by
    show crK T x n j m - _ = crK T y n j m - _
    rw [crK_congr h m, rsK_congr n h]
/-! a column of nothing -/
theorem crK_nil {T : Nat → Int32} {x : Int → Int} {n : Nat} {j : Int} : ∀ m : Nat, (∀ k : Nat, k < m → (T (6 * j + (k : Int)).toNat).toInt = 0) → crK T x n j m = 0
  | 0, _ => rfl
  | m + 1, h => by
    show crK T x n j m - rsK T x (m : Int) n * (T (6 * j + (m : Int)).toNat).toInt = 0
    rw [crK_nil m (fun k hk => h k (by omega)), h m (by omega), Int.mul_zero]; rfl
theorem kw_sq (a : Int) : 0 ≤ a * a := by
  rcases Int.le_total 0 a with h | h
  · exact Int.mul_nonneg h h
  · have q := Int.mul_nonneg (show 0 ≤ -a by omega) (show 0 ≤ -a by omega)
    rw [Int.neg_mul_neg] at q
    exact q
theorem crK_0 {T : Nat → Int32} {x : Int → Int} {n : Nat} {j : Int} (h : dtn T j j 6 = 0) : crK T x n j 6 = 0 := by
  refine crK_nil 6 (fun k hk => ?_)
  have h1 := dtn_ge (f := T) (a := j) 6 k hk
  rw [h] at h1
  have h2 : (T (6 * j + (k : Int)).toNat).toInt * (T (6 * j + (k : Int)).toNat).toInt = 0 := by
    have h3 := kw_sq (T (6 * j + (k : Int)).toNat).toInt
    omega
  rcases Int.mul_eq_zero.mp h2 with h4 | h4 <;> exact h4
/-! along a line -/
def qdK (b P C x : Int) : Int := b + x * (x * P - 2 * C)
theorem qd_step {b P C lo g k : Int} : qdK b P C (lo + g * (k + 1)) - qdK b P C (lo + g * k) = g * ((2 * k + 1) * (P * g) - 2 * (C - lo * P)) := by
  unfold qdK
  grind
def fmQ (q : Int → Int) (m d : Int) : Prop := 0 ≤ d ∧ d < m ∧ (∀ k, 0 ≤ k → k < m → q d ≤ q k) ∧ (∀ k, 0 ≤ k → k < d → q d < q k)
theorem kw_down {q : Int → Int} {a : Int} : ∀ (n : Nat) (b : Int), (b - a).toNat ≤ n → (∀ k, a ≤ k → k < b → q (k + 1) < q k) → ∀ k, a ≤ k → k < b → q b < q k
  | 0, b, hn, _ => fun k h1 h2 => absurd h2 (by omega)
  | n + 1, b, hn, h => fun k h1 h2 => by
    have h3 := h (b - 1) (by omega) (by omega)
    rw [Int.sub_add_cancel] at h3
    by_cases e : k = b - 1
    · rw [e]; exact h3
    · have h4 := kw_down n (b - 1) (by omega) (fun k a1 a2 => h k a1 (by omega)) k h1 (by omega)
      omega
theorem kw_up {q : Int → Int} {a : Int} : ∀ (n : Nat) (b : Int), (b - a).toNat ≤ n → (∀ k, a ≤ k → k < b → q k < q (k + 1)) → a < b → q a < q b
  | 0, b, hn, _ => fun h => absurd h (by omega)
  | n + 1, b, hn, h => fun hab => by
    have h3 := h (b - 1) (by omega) (by omega)
    rw [Int.sub_add_cancel] at h3
    by_cases e : a = b - 1
    · rw [← e] at h3; exact h3
    · have h4 := kw_up n (b - 1) (by omega) (fun k a1 a2 => h k a1 (by omega)) (by omega)
      omega
theorem kw_flat {b C lo g m : Int} (hC : C = 0) (hm : 1 ≤ m) : fmQ (fun k => qdK b 0 C (lo + g * k)) m 0 := by
  have e : ∀ x : Int, qdK b 0 C x = b := fun x => by
    unfold qdK
    rw [hC, Int.mul_zero, Int.mul_zero, Int.sub_zero, Int.mul_zero, Int.add_zero]
  refine ⟨by omega, by omega, fun k _ _ => ?_, fun k h0 h1 => absurd h1 (by omega)⟩
  show qdK b 0 C _ ≤ qdK b 0 C _
  rw [e, e]
  exact Int.le_refl b
theorem kw_sgn {g E : Int} (hg : 0 < g) : (E < 0 → g * E < 0) ∧ (0 < E → 0 < g * E) := ⟨fun h => Int.mul_neg_of_pos_of_neg hg h, fun h => Int.mul_pos hg h⟩
theorem kw_best {b P C lo g m w N place d0 d : Int} (hg : 0 < g) (hm : 1 ≤ m) (ew : w = P * g) (hw : 0 < w) (eN : N = C - lo * P) (h1 : place * w ≤ N) (h2 : N < (place + 1) * w) (e0 : (place < 0 ∧ d0 = 0) ∨ (m - 1 ≤ place ∧ d0 = m - 1) ∨ (0 ≤ place ∧ place < m - 1 ∧ d0 = place))
    (hd : (d = d0 + 1 ∧ d0 + 1 < m ∧ qdK b P C (lo + g * (d0 + 1)) < qdK b P C (lo + g * d0)) ∨ (d = d0 ∧ ¬ (d0 + 1 < m ∧ qdK b P C (lo + g * (d0 + 1)) < qdK b P C (lo + g * d0)))) : fmQ (fun k => qdK b P C (lo + g * k)) m d := by
  have st : ∀ k : Int, qdK b P C (lo + g * (k + 1)) - qdK b P C (lo + g * k) = g * ((2 * k + 1) * w - 2 * N) := fun k => by rw [ew, eN]; exact qd_step
  have dn : ∀ k : Int, k < place → qdK b P C (lo + g * (k + 1)) < qdK b P C (lo + g * k) := fun k hk => by
    have a1 : (2 * k + 1) * w ≤ (2 * place - 1) * w := Int.mul_le_mul_of_nonneg_right (by omega) (by omega)
    have a2 : (2 * place - 1) * w = 2 * (place * w) - w := by rw [Int.sub_mul, Int.mul_assoc, Int.one_mul]
    have a3 := (kw_sgn (E := (2 * k + 1) * w - 2 * N) hg).1 (by omega)
    have a4 := st k
    omega
  have up : ∀ k : Int, place < k → qdK b P C (lo + g * k) < qdK b P C (lo + g * (k + 1)) := fun k hk => by
    have a1 : (2 * (place + 1) + 1) * w ≤ (2 * k + 1) * w := Int.mul_le_mul_of_nonneg_right (by omega) (by omega)
    have a2 : (2 * (place + 1) + 1) * w = 2 * ((place + 1) * w) + w := by rw [Int.add_mul, Int.mul_assoc, Int.one_mul]
    have a3 := (kw_sgn (E := (2 * k + 1) * w - 2 * N) hg).2 (by omega)
    have a4 := st k
    omega
  have D : ∀ (e k : Int), e ≤ place → k < e → qdK b P C (lo + g * e) < qdK b P C (lo + g * k) := fun e k he hk =>
    kw_down (q := fun k => qdK b P C (lo + g * k)) (a := k) (e - k).toNat e (Nat.le_refl _) (fun j _ hj => dn j (by omega)) k (Int.le_refl k) hk
  have U : ∀ (e k : Int), place < e → e < k → qdK b P C (lo + g * e) < qdK b P C (lo + g * k) := fun e k he hk =>
    kw_up (q := fun k => qdK b P C (lo + g * k)) (a := e) (k - e).toNat k (Nat.le_refl _) (fun j hj _ => up j (by omega)) hk
  rcases e0 with ⟨p1, p2⟩ | ⟨p1, p2⟩ | ⟨p1, p3, p2⟩
  · have q0 : d = 0 := by
      rcases hd with ⟨z1, z2, z3⟩ | ⟨z1, _⟩
      · have := up d0 (by omega); omega
      · omega
    refine ⟨by omega, by omega, fun k k0 k1 => ?_, fun k k0 k1 => absurd k1 (by omega)⟩
    show qdK b P C (lo + g * d) ≤ qdK b P C (lo + g * k)
    by_cases e : k = d
    · rw [e]; exact Int.le_refl _
    · exact Int.le_of_lt (U d k (by omega) (by omega))
  · have q0 : d = m - 1 := by
      rcases hd with ⟨z1, z2, z3⟩ | ⟨z1, _⟩ <;> omega
    refine ⟨by omega, by omega, fun k k0 k1 => ?_, fun k k0 k1 => D d k (by omega) k1⟩
    show qdK b P C (lo + g * d) ≤ qdK b P C (lo + g * k)
    by_cases e : k = d
    · rw [e]; exact Int.le_refl _
    · exact Int.le_of_lt (D d k (by omega) (by omega))
  · rcases hd with ⟨z1, z2, z3⟩ | ⟨z1, z2⟩
    · rw [p2] at z3
      have z1' : d = place + 1 := by omega
      refine ⟨by omega, by omega, fun k k0 k1 => ?_, fun k k0 k1 => ?_⟩
      · show qdK b P C (lo + g * d) ≤ qdK b P C (lo + g * k)
        rw [z1']
        by_cases e : k = place + 1
        · rw [e]; exact Int.le_refl _
        · by_cases e2 : k = place
          · rw [e2]; exact Int.le_of_lt z3
          · by_cases e3 : k < place
            · have := D place k (Int.le_refl _) e3; omega
            · exact Int.le_of_lt (U (place + 1) k (by omega) (by omega))
      · show qdK b P C (lo + g * d) < qdK b P C (lo + g * k)
        rw [z1']
        by_cases e2 : k = place
        · rw [e2]; exact z3
        · have := D place k (Int.le_refl _) (by omega); omega
    · rw [p2] at z2
      have z1' : d = place := by omega
      have z4 : qdK b P C (lo + g * place) ≤ qdK b P C (lo + g * (place + 1)) := by
        by_cases e : qdK b P C (lo + g * (place + 1)) < qdK b P C (lo + g * place)
        · exact absurd ⟨by omega, e⟩ z2
        · omega
      refine ⟨by omega, by omega, fun k k0 k1 => ?_, fun k k0 k1 => ?_⟩
      · show qdK b P C (lo + g * d) ≤ qdK b P C (lo + g * k)
        rw [z1']
        by_cases e : k = place
        · rw [e]; exact Int.le_refl _
        · by_cases e3 : k < place
          · exact Int.le_of_lt (D place k (Int.le_refl _) e3)
          · by_cases e4 : k = place + 1
            · rw [e4]; exact z4
            · have := U (place + 1) k (by omega) (by omega); omega
      · show qdK b P C (lo + g * d) < qdK b P C (lo + g * k)
        rw [z1']
        exact D place k (Int.le_refl _) (by omega)
/-! the first least of many, line by line -/
def amK (f : Int → Int) (n b a : Int) : Prop := (n = 0 ∧ b = 1000000000000000) ∨ (0 ≤ a ∧ a < n ∧ b = f a ∧ (∀ k, 0 ≤ k → k < n → b ≤ f k) ∧ (∀ k, 0 ≤ k → k < a → b < f k))
theorem am_uni {f : Int → Int} {n b a b' a' : Int} (h : amK f n b a) (h' : amK f n b' a') (hn : 0 < n) : b = b' ∧ a = a' := by
  rcases h with ⟨h, _⟩ | ⟨h1, h2, h3, h4, h5⟩
  · omega
  rcases h' with ⟨h, _⟩ | ⟨k1, k2, k3, k4, k5⟩
  · omega
  have e1 := h4 a' k1 k2
  have e2 := k4 a h1 h2
  refine ⟨by omega, ?_⟩
  by_cases c : a < a'
  · have := k5 a h1 c; omega
  · by_cases c2 : a' < a
    · have := h5 a' k1 c2; omega
    · omega
theorem am_line {f : Int → Int} {m L n n' b a d v b' a' : Int} (h : amK f n b a) (en : n = m * L) (en' : n' = m * L + m) (hm : 1 ≤ m) (hL : 0 ≤ L) (hd : fmQ (fun k => f (m * L + k)) m d) (ev : v = f (m * L + d)) (hf : ∀ k, 0 ≤ k → k < n' → f k < 1000000000000000) (hb : (v < b ∧ b' = v ∧ a' = m * L + d) ∨ (¬ v < b ∧ b' = b ∧ a' = a)) : amK f n' b' a' := by
  obtain ⟨d0, d1, d2, d3⟩ := hd
  have hn0 : 0 ≤ m * L := Int.mul_nonneg (by omega) hL
  have at' : ∀ k, m * L ≤ k → k < n' → v ≤ f k := fun k k0 k1 => by
    have := d2 (k - m * L) (by omega) (by omega)
    have e : m * L + (k - m * L) = k := by omega
    simp only [e] at this
    omega
  have bef : ∀ k, m * L ≤ k → k < m * L + d → v < f k := fun k k0 k1 => by
    have := d3 (k - m * L) (by omega) (by omega)
    have e : m * L + (k - m * L) = k := by omega
    simp only [e] at this
    omega
  rcases h with ⟨z, zb⟩ | ⟨h1, h2, h3, h4, h5⟩
  · rcases hb with ⟨c, e1, e2⟩ | ⟨c, e1, e2⟩
    · exact Or.inr ⟨by omega, by omega, by rw [e1, e2]; exact ev, fun k k0 k1 => by have := at' k (by omega) k1; omega, fun k k0 k1 => by have := bef k (by omega) (by omega); omega⟩
    · have := hf (m * L + d) (by omega) (by omega); omega
  · rcases hb with ⟨c, e1, e2⟩ | ⟨c, e1, e2⟩
    · refine Or.inr ⟨by omega, by omega, by rw [e1, e2]; exact ev, fun k k0 k1 => ?_, fun k k0 k1 => ?_⟩
      · by_cases q : k < m * L
        · have := h4 k k0 (by omega); omega
        · have := at' k (by omega) k1; omega
      · by_cases q : k < m * L
        · have := h4 k k0 (by omega); omega
        · have := bef k (by omega) (by omega); omega
    · refine Or.inr ⟨by omega, by omega, by rw [e1, e2]; exact h3, fun k k0 k1 => ?_, fun k k0 k1 => by rw [e1]; exact h5 k k0 (by omega)⟩
      by_cases q : k < m * L
      · have := h4 k k0 (by omega); omega
      · have := at' k (by omega) k1; omega
/-! numbers of rows: digits by a mixed base, the first sender's the highest -/
def lnK (co di : Int → Int) : Nat → Int
  | 0 => 0
  | n + 1 => lnK co di n * co (n : Int) + di (n : Int)
def nmK (co : Int → Int) : Nat → Int
  | 0 => 1
  | n + 1 => nmK co n * co (n : Int)
def dgK (co : Int → Int) : Nat → Int → Int → Int
  | 0, _, _ => 0
  | n + 1, k, s => if s = (n : Int) then k % co (n : Int) else dgK co n (k / co (n : Int)) s
theorem ln_div {a c d : Int} (h : 0 ≤ d ∧ d < c) : (a * c + d) / c = a ∧ (a * c + d) % c = d := by
  have h1 : 0 < c := by omega
  have e1 : (a * c + d) / c = a := by
    rw [Int.add_comm, Int.add_mul_ediv_right _ _ (by omega), Int.ediv_eq_zero_of_lt h.1 h.2]
    omega
  have e2 := Int.emod_def (a * c + d) c
  rw [e1] at e2
  have e3 : c * a = a * c := Int.mul_comm c a
  exact ⟨e1, by omega⟩
theorem dg_ln {co di : Int → Int} : ∀ (n : Nat), (∀ s : Int, 0 ≤ s → s < (n : Int) → 0 ≤ di s ∧ di s < co s) → ∀ s : Int, 0 ≤ s → s < (n : Int) → dgK co n (lnK co di n) s = di s
  | 0, _ => fun s h0 h1 => absurd h1 (by omega)
  | n + 1, h => fun s h0 h1 => by
    have q := ln_div (a := lnK co di n) (h (n : Int) (by omega) (by omega))
    show (if s = (n : Int) then (lnK co di n * co (n : Int) + di (n : Int)) % co (n : Int) else dgK co n ((lnK co di n * co (n : Int) + di (n : Int)) / co (n : Int)) s) = di s
    by_cases e : s = (n : Int)
    · rw [if_pos e, q.2, e]
    · rw [if_neg e, q.1]
      exact dg_ln n (fun s a b => h s a (by omega)) s h0 (by omega)
theorem ln_congr {co co' di di' : Int → Int} : ∀ (n : Nat), (∀ s : Int, 0 ≤ s → s < (n : Int) → co s = co' s ∧ di s = di' s) → lnK co di n = lnK co' di' n
  | 0, _ => rfl
  | n + 1, h => by
    show lnK co di n * co (n : Int) + di (n : Int) = lnK co' di' n * co' (n : Int) + di' (n : Int)
    rw [ln_congr n (fun s a b => h s a (by omega)), (h (n : Int) (by omega) (by omega)).1, (h (n : Int) (by omega) (by omega)).2]
/-- all digits from a place on are full: one more is a one ahead of it and nothing from it on -/
theorem ln_carry {co di : Int → Int} (p : Nat) : ∀ (n : Nat), p ≤ n → (∀ s : Int, (p : Int) ≤ s → s < (n : Int) → di s + 1 = co s) → ∀ dj : Int → Int, (∀ s : Int, (p : Int) ≤ s → s < (n : Int) → dj s = 0) → lnK co dj p = lnK co di p + 1 → lnK co dj n = lnK co di n + 1
  | 0, hp, _ => fun _ _ h0 => by
    have e : p = 0 := by omega
    subst e
    exact h0
  | n + 1, hp, h => fun dj hz h0 => by
    by_cases e : p = n + 1
    · subst e; exact h0
    · have ih := ln_carry (co := co) (di := di) p n (by omega) (fun s a b => h s a (by omega)) dj (fun s a b => hz s a (by omega)) h0
      show lnK co dj n * co (n : Int) + dj (n : Int) = lnK co di n * co (n : Int) + di (n : Int) + 1
      have q1 := h (n : Int) (by omega) (by omega)
      have q2 := hz (n : Int) (by omega) (by omega)
      rw [ih, q2, Int.add_mul, Int.one_mul]
      omega
theorem nm_pos {co : Int → Int} : ∀ (n : Nat), (∀ s : Int, 0 ≤ s → s < (n : Int) → 1 ≤ co s) → 1 ≤ nmK co n
  | 0, _ => Int.le_refl 1
  | n + 1, h => by
    have ih := nm_pos n (fun s a b => h s a (by omega))
    have q := h (n : Int) (by omega) (by omega)
    show 1 ≤ nmK co n * co (n : Int)
    have := Int.mul_le_mul_of_nonneg_right (c := co (n : Int)) ih (by omega)
    omega
/-! the number's digits, one after the other from the last on (the reference) -/
theorem dg_last {co : Int → Int} {n : Nat} {k : Int} : dgK co (n + 1) k (n : Int) = k % co (n : Int) := if_pos rfl
theorem dg_next {co : Int → Int} {n : Nat} {k s : Int} (h : s < (n : Int)) : dgK co (n + 1) k s = dgK co n (k / co (n : Int)) s := if_neg (by omega)
theorem dg_rng {co : Int → Int} : ∀ (n : Nat) (k s : Int), (∀ s : Int, 0 ≤ s → s < (n : Int) → 1 ≤ co s) → 0 ≤ s → s < (n : Int) → 0 ≤ dgK co n k s ∧ dgK co n k s < co s
  | 0, k, s, _, h0, h1 => absurd h1 (by omega)
  | n + 1, k, s, h, h0, h1 => by
    by_cases e : s = (n : Int)
    · subst e
      rw [dg_last]
      have q := h (n : Int) (by omega) (by omega)
      exact ⟨Int.emod_nonneg _ (by omega), Int.emod_lt_of_pos _ (by omega)⟩
    · rw [dg_next (by omega)]
      exact dg_rng n _ s (fun s a b => h s a (by omega)) h0 (by omega)
/-! lines as the machine keeps them: numbers of 64 bits, told by whole numbers (draft, p40 and on) -/
def I6 (v : Int) : Int64 := Int64.ofInt v
theorem I6_add (a b : Int) : I6 a + I6 b = I6 (a + b) := (Int64.ofInt_add a b).symm
theorem I6_sub (a b : Int) : I6 a - I6 b = I6 (a - b) := (Int64.ofInt_sub a b).symm
theorem I6_mul (a b : Int) : I6 a * I6 b = I6 (a * b) := (Int64.ofInt_mul a b).symm
theorem I6_to {v : Int} (h1 : -9223372036854775808 ≤ v) (h2 : v ≤ 9223372036854775807) : (I6 v).toInt = v := Int64.toInt_ofInt_of_le h1 (by omega)
def xW (lo ga di : Nat → Int32) (s : Int) : Int := (lo s.toNat + ga s.toNat * di s.toNat).toInt
def prW (pr : Nat → Int64) (T : Nat → Int32) (last : Int) : Prop := ∀ i j : Int, 0 ≤ i → i ≤ last → 0 ≤ j → j ≤ last → pr (5 * i + j).toNat = I6 (dtn T i j 6)
def lvW (T : Nat → Int32) (x : Int → Int) (ba cr : Nat → Int64) (last s : Int) : Prop := ba s.toNat = I6 (bsK T x s.toNat 6) ∧ ∀ j : Int, s ≤ j → j ≤ last → cr (5 * s + j).toNat = I6 (crK T x s.toNat j 6)
/-- settled up to a level -/
def seW (T : Nat → Int32) (x : Int → Int) (ba cr : Nat → Int64) (last u : Int) : Prop := ∀ s : Int, 0 ≤ s → s ≤ u → lvW T x ba cr last s
theorem xW_eq {lo ga di : Nat → Int32} {s : Int} {a b c d e : Int32} {y : Int64} (h1 : a = lo s.toNat) (h2 : b = ga s.toNat) (h3 : c = di s.toNat) (h4 : d = b * c) (h5 : e = a + d) (h6 : y.toInt = e.toInt) : y = I6 (xW lo ga di s) := by
  have h := n_rng e
  apply Int64.toInt_inj.mp
  subst h1 h2 h3 h4 h5
  show y.toInt = (I6 (lo s.toNat + ga s.toNat * di s.toNat).toInt).toInt
  rw [I6_to (by omega) (by omega), h6]
theorem lv_base {T : Nat → Int32} {x : Int → Int} {ba cr pr : Nat → Int64} {last s : Int} {b y p c a1 a2 a3 a4 a5 two : Int64} (h : lvW T x ba cr last s) (hp : prW pr T last) (h0 : 0 ≤ s) (hl : s ≤ last) (eb : b = ba s.toNat) (ey : y = I6 (x s)) (ep : p = pr (5 * s + s).toNat) (ec : c = cr (5 * s + s).toNat) (et : two = 2)
    (e1 : a1 = y * p) (e2 : a2 = two * c) (e3 : a3 = a1 - a2) (e4 : a4 = y * a3) (e5 : a5 = b + a4) : a5 = I6 (bsK T x (s + 1).toNat 6) := by
  obtain ⟨n, rfl⟩ : ∃ n : Nat, s = (n : Int) := ⟨s.toNat, by omega⟩
  have z : ((n : Int) + 1).toNat = n + 1 := by omega
  have hn : ((n : Int)).toNat = n := by omega
  rw [hn] at eb
  have q1 := h.1
  have q2 := h.2 (n : Int) (Int.le_refl _) hl
  have q3 := hp (n : Int) (n : Int) h0 hl h0 hl
  rw [hn] at q1 q2
  have et2 : two = I6 2 := by rw [et]; rfl
  rw [z, bsK_succ, e5, e4, e3, e2, e1, eb, ey, ep, ec, q1, q2, q3, et2, I6_mul, I6_mul, I6_sub, I6_mul, I6_add]
theorem lv_cross {T : Nat → Int32} {x : Int → Int} {ba cr pr : Nat → Int64} {last s j : Int} {y p c a1 a2 : Int64} (h : lvW T x ba cr last s) (hp : prW pr T last) (h0 : 0 ≤ s) (hl : s ≤ last) (hj : s ≤ j) (hj2 : j ≤ last) (ey : y = I6 (x s)) (ep : p = pr (5 * s + j).toNat) (ec : c = cr (5 * s + j).toNat) (e1 : a1 = y * p) (e2 : a2 = c - a1) : a2 = I6 (crK T x (s + 1).toNat j 6) := by
  obtain ⟨n, rfl⟩ : ∃ n : Nat, s = (n : Int) := ⟨s.toNat, by omega⟩
  have z : ((n : Int) + 1).toNat = n + 1 := by omega
  have hn : ((n : Int)).toNat = n := by omega
  have q2 := h.2 j hj hj2
  have q3 := hp (n : Int) j h0 hl (by omega) hj2
  rw [hn] at q2
  rw [z, crK_succ, e2, e1, ey, ep, ec, q2, q3, I6_mul, I6_sub]
/-- one store of base, then those of cross up to j -/
def stW (T : Nat → Int32) (x : Int → Int) (ba cr : Nat → Int64) (last s j : Int) : Prop := ba (s + 1).toNat = I6 (bsK T x (s + 1).toNat 6) ∧ ∀ k : Int, s + 1 ≤ k → k < j → cr (5 * (s + 1) + k).toNat = I6 (crK T x (s + 1).toNat k 6)
theorem st_end {T : Nat → Int32} {x : Int → Int} {ba cr : Nat → Int64} {last s j u : Int} (h : seW T x ba cr last s) (k : stW T x ba cr last s j) (hj : last < j) (eu : u = s + 1) : seW T x ba cr last u := by
  intro t h0 h1
  by_cases e : t ≤ s
  · exact h t h0 e
  · have e2 : t = s + 1 := by omega
    subst e2
    exact ⟨k.1, fun i a b => k.2 i a (by omega)⟩
/-- a store at another level leaves the levels ahead -/
theorem se_base {T : Nat → Int32} {x : Int → Int} {ba ba' cr : Nat → Int64} {last s n : Int} {v : Int64} (h : seW T x ba cr last s) (e : ba' = vp_updL ba n.toNat v) (ht : s < n) : seW T x ba' cr last s := by
  intro i h0 h1
  have q := h i h0 h1
  refine ⟨?_, q.2⟩
  rw [e, u_neL (by omega)]
  exact q.1
theorem se_cross {T : Nat → Int32} {x : Int → Int} {ba cr cr' : Nat → Int64} {last s n : Int} {v : Int64} (h : seW T x ba cr last s) (hl : last ≤ 4) (e : cr' = vp_updL cr n.toNat v) (ht : 5 * s + 5 ≤ n) : seW T x ba cr' last s := by
  intro i h0 h1
  have q := h i h0 h1
  refine ⟨q.1, fun j a b => ?_⟩
  rw [e, u_neL (by omega)]
  exact q.2 j a b
theorem se_congr {T : Nat → Int32} {x y : Int → Int} {ba cr : Nat → Int64} {last s : Int} (h : seW T x ba cr last s) (e : ∀ k : Int, 0 ≤ k → k < s → x k = y k) : seW T y ba cr last s := by
  intro i h0 h1
  have q := h i h0 h1
  have c : ∀ k : Int, 0 ≤ k → k < ((i.toNat : Nat) : Int) → x k = y k := fun k a b => e k a (by omega)
  refine ⟨by rw [q.1, bsK_congr c], fun j a b => by rw [q.2 j a b, crK_congr c]⟩
theorem se_less {T : Nat → Int32} {x : Int → Int} {ba cr : Nat → Int64} {last s t : Int} (h : seW T x ba cr last s) (ht : t ≤ s) : seW T x ba cr last t := fun i h0 h1 => h i h0 (by omega)
/-- the squares of a row of the line -/
theorem sq_at {T : Nat → Int32} {x : Int → Int} {ba cr pr : Nat → Int64} {last : Int} {b y p c a1 a2 a3 a4 a5 two : Int64} {X : Int} (h : seW T x ba cr last last) (hp : prW pr T last) (h0 : 0 ≤ last) (eb : b = ba last.toNat) (ey : y = I6 X) (ep : p = pr (5 * last + last).toNat) (ec : c = cr (5 * last + last).toNat) (et : two = 2)
    (e1 : a1 = y * p) (e2 : a2 = two * c) (e3 : a3 = a1 - a2) (e4 : a4 = y * a3) (e5 : a5 = b + a4) : a5 = I6 (qdK (bsK T x last.toNat 6) (dtn T last last 6) (crK T x last.toNat last 6) X) := by
  have q := h last h0 (Int.le_refl _)
  have q2 := q.2 last (Int.le_refl _) (Int.le_refl _)
  have q3 := hp last last h0 (Int.le_refl _) h0 (Int.le_refl _)
  have et2 : two = I6 2 := by rw [et]; rfl
  unfold qdK
  rw [e5, e4, e3, e2, e1, eb, ey, ep, ec, q.1, q2, q3, et2, I6_mul, I6_mul, I6_sub, I6_mul, I6_add]
/-- the stores of one step -/
theorem st_0 {T : Nat → Int32} {x : Int → Int} {ba ba' cr : Nat → Int64} {last s n j : Int} {v : Int64} (e : ba' = vp_updL ba n.toNat v) (en : n = s + 1) (hv : v = I6 (bsK T x (s + 1).toNat 6)) (hj : j = s + 1) : stW T x ba' cr last s j := by
  refine ⟨?_, fun k a b => absurd b (by omega)⟩
  rw [e, u_eqL (by rw [en])]
  exact hv
theorem st_put {T : Nat → Int32} {x : Int → Int} {ba cr cr' : Nat → Int64} {last s n j j' : Int} {v : Int64} (h : stW T x ba cr last s j) (e : cr' = vp_updL cr n.toNat v) (en : n = 5 * s + 5 + j) (h0 : 0 ≤ s) (hs : s + 1 ≤ j) (hv : v = I6 (crK T x (s + 1).toNat j 6)) (ej : j' = j + 1) : stW T x ba cr' last s j' := by
  refine ⟨h.1, fun k a b => ?_⟩
  by_cases q : k = j
  · subst q
    rw [e, u_eqL (by omega)]
    exact hv
  · rw [e, u_neL (by omega)]
    exact h.2 k a (by omega)
theorem lW {f : Nat → Int64} {i j : Int} {z : Int64} (h : z = f i.toNat) (e : i = j) : z = f j.toNat := by rw [h, e]
/-! the next line -/
def cW (f : Nat → Int32) : Int → Int := fun s => (f s.toNat).toInt
def diW (d co : Nat → Int32) (last : Int) : Prop := ∀ s : Int, 0 ≤ s → s < last → 0 ≤ cW d s ∧ cW d s < cW co s
def dzW (d0 d co : Nat → Int32) (last s : Int) : Prop := (∀ k : Int, s < k → k < last → (d k.toNat).toInt = 0 ∧ (co k.toNat).toInt ≤ (d0 k.toNat).toInt + 1) ∧ ∀ k : Int, 0 ≤ k → k ≤ s → d k.toNat = d0 k.toNat
theorem dz_0 {d co : Nat → Int32} {last s : Int} (h : s = last - 1) : dzW d d co last s := ⟨fun k a b => absurd b (by omega), fun _ _ _ => rfl⟩
theorem dz_step {d0 d d' co : Nat → Int32} {last s s' : Int} {x y z : Int32} (h : dzW d0 d co last s) (ex : x = d s.toNat) (ey : y = co s.toNat) (hc : y.toInt ≤ x.toInt + 1) (e : d' = upd d s.toNat z) (ez : z.toInt = 0) (h0 : 0 ≤ s) (es : s' = s - 1) : dzW d0 d' co last s' := by
  refine ⟨fun k a b => ?_, fun k a b => ?_⟩
  · by_cases q : k = s
    · subst q
      rw [e, ← h.2 k h0 (Int.le_refl _), ← ex, ← ey]
      refine ⟨?_, hc⟩
      show (if k.toNat = k.toNat then z else d k.toNat).toInt = 0
      rw [if_pos rfl]; exact ez
    · have := h.1 k (by omega) b
      rw [e]
      show (if k.toNat = s.toNat then z else d k.toNat).toInt = 0 ∧ _
      rw [if_neg (by omega)]; exact this
  · rw [e]
    show (if k.toNat = s.toNat then z else d k.toNat) = _
    rw [if_neg (by omega)]; exact h.2 k a (by omega)
def nlW (T lo ga co d0 d : Nat → Int32) (ba cr : Nat → Int64) (last : Int) : Prop := (lnK (cW co) (cW d) last.toNat = lnK (cW co) (cW d0) last.toNat + 1 ∧ diW d co last ∧ seW T (xW lo ga d) ba cr last last) ∨ lnK (cW co) (cW d0) last.toNat + 1 = nmK (cW co) last.toNat
theorem ln_full {co di : Int → Int} : ∀ n : Nat, (∀ s : Int, 0 ≤ s → s < (n : Int) → di s + 1 = co s) → lnK co di n + 1 = nmK co n
  | 0, _ => rfl
  | n + 1, h => by
    have ih := ln_full n (fun s a b => h s a (by omega))
    have q := h (n : Int) (by omega) (by omega)
    show lnK co di n * co (n : Int) + di (n : Int) + 1 = nmK co n * co (n : Int)
    rw [← ih, Int.add_mul, Int.one_mul]
    omega
theorem nl_no {T lo ga co d0 d : Nat → Int32} {ba cr : Nat → Int64} {last s : Int} (h : dzW d0 d co last s) (hd : diW d0 co last) (hs : s < 0) (hl : 0 ≤ last) : nlW T lo ga co d0 d ba cr last := by
  refine Or.inr (ln_full last.toNat (fun k a b => ?_))
  have q := (h.1 k (by omega) (by omega)).2
  have q2 := (hd k a (by omega)).2
  unfold cW at q2 ⊢
  omega
/-- what a digit counts up -/
theorem xw_same {lo ga d d2 : Nat → Int32} {n k : Int} {z : Int32} (e : d2 = upd d n.toNat z) (h : 0 ≤ k ∧ k < n) : xW lo ga d2 k = xW lo ga d k := by
  unfold xW
  rw [e]
  show (lo k.toNat + ga k.toNat * (if k.toNat = n.toNat then z else d k.toNat)).toInt = _
  rw [if_neg (by omega)]
theorem xw_dz {lo ga co d0 d : Nat → Int32} {last s k : Int} (h : dzW d0 d co last s) (h0 : 0 ≤ k) (hk : k ≤ s) : xW lo ga d k = xW lo ga d0 k := by
  unfold xW
  rw [h.2 k h0 hk]
theorem nl_pre {T lo ga co d0 d d2 : Nat → Int32} {ba cr : Nat → Int64} {last s : Int} {z : Int32} (q : seW T (xW lo ga d0) ba cr last last) (h : dzW d0 d co last s) (e : d2 = upd d s.toNat z) (hs : s ≤ last) : seW T (xW lo ga d2) ba cr last s :=
  se_congr (se_less q hs) (fun k a b => by rw [xw_same e ⟨a, b⟩, xw_dz h a (by omega)])
theorem nl_yes {T lo ga co d0 d d2 : Nat → Int32} {ba cr : Nat → Int64} {last s : Int} {x y z : Int32} (h : dzW d0 d co last s) (hd : diW d0 co last) (h0 : 0 ≤ s) (hs : s < last) (ex : x = d s.toNat) (ey : y = co s.toNat) (hc : x.toInt + 1 < y.toInt) (ez : z.toInt = x.toInt + 1) (e : d2 = upd d s.toNat z) (q : seW T (xW lo ga d2) ba cr last last) : nlW T lo ga co d0 d2 ba cr last := by
  have at2 : ∀ k : Int, 0 ≤ k → ¬ k = s → d2 k.toNat = d k.toNat := fun k a b => by
    rw [e]
    show (if k.toNat = s.toNat then z else d k.toNat) = _
    rw [if_neg (by omega)]
  have ats : d2 s.toNat = z := by
    rw [e]
    show (if s.toNat = s.toNat then z else d s.toNat) = z
    rw [if_pos rfl]
  have d0s : (d0 s.toNat).toInt = x.toInt := by rw [← h.2 s h0 (Int.le_refl _), ex]
  have sn : ((s.toNat : Nat) : Int) = s := by omega
  refine Or.inl ⟨?_, fun k a b => ?_, q⟩
  · have base : lnK (cW co) (cW d2) (s.toNat + 1) = lnK (cW co) (cW d0) (s.toNat + 1) + 1 := by
      show lnK (cW co) (cW d2) s.toNat * cW co (s.toNat : Int) + cW d2 (s.toNat : Int) = lnK (cW co) (cW d0) s.toNat * cW co (s.toNat : Int) + cW d0 (s.toNat : Int) + 1
      rw [ln_congr (co := cW co) (co' := cW co) (di := cW d2) (di' := cW d0) s.toNat (fun k a b => ⟨rfl, by unfold cW; rw [at2 k a (by omega), h.2 k a (by omega)]⟩), sn]
      have e1 : cW d2 s = x.toInt + 1 := by unfold cW; rw [ats]; exact ez
      have e2 : cW d0 s = x.toInt := d0s
      rw [e1, e2]
      omega
    refine ln_carry (s.toNat + 1) last.toNat (by omega) (fun k a b => ?_) _ (fun k a b => ?_) base
    · have w := h.1 k (by omega) (by omega)
      have w2 := hd k (by omega) (by omega)
      unfold cW at w2 ⊢
      omega
    · have w := h.1 k (by omega) (by omega)
      unfold cW
      rw [at2 k (by omega) (by omega)]
      exact w.1
  · unfold cW
    by_cases c : k = s
    · subst c
      rw [ats]
      have w2 := hd k a b
      unfold cW at w2
      rw [← ey] at w2 ⊢
      omega
    · rw [at2 k a c]
      by_cases c2 : k < s
      · rw [h.2 k a (by omega)]
        exact hd k a b
      · have w := h.1 k (by omega) b
        have w2 := hd k a b
        unfold cW at w2
        omega
/-! the first line -/
theorem bsK_z {T : Nat → Int32} {x : Int → Int} : ∀ m : Nat, bsK T x 0 m = 0
  | 0 => rfl
  | m + 1 => by
    show bsK T x 0 m + (0 : Int) * 0 = 0
    rw [bsK_z m]; rfl
theorem crK_z {T : Nat → Int32} {x : Int → Int} {j : Int} : ∀ m : Nat, crK T x 0 j m = 0
  | 0 => rfl
  | m + 1 => by
    show crK T x 0 j m - (0 : Int) * _ = 0
    rw [crK_z m, Int.zero_mul]; rfl
def z0W (ba cr : Nat → Int64) (last : Int) : Prop := ba 0 = I6 0 ∧ ∀ j : Int, 0 ≤ j → j ≤ last → cr j.toNat = I6 0
theorem se_0 {T : Nat → Int32} {x : Int → Int} {ba cr : Nat → Int64} {last : Int} (h : z0W ba cr last) : seW T x ba cr last 0 := by
  intro s h0 h1
  have e : s = 0 := by omega
  subst e
  refine ⟨?_, fun j a b => ?_⟩
  · show ba 0 = I6 (bsK T x 0 6)
    rw [bsK_z]; exact h.1
  · show cr (5 * 0 + j).toNat = I6 (crK T x 0 j 6)
    rw [crK_z]
    have e2 : (5 * 0 + j).toNat = j.toNat := by omega
    rw [e2]; exact h.2 j a b
theorem ln_0 {co di : Int → Int} : ∀ n : Nat, (∀ s : Int, 0 ≤ s → s < (n : Int) → di s = 0) → lnK co di n = 0
  | 0, _ => rfl
  | n + 1, h => by
    show lnK co di n * co (n : Int) + di (n : Int) = 0
    rw [ln_0 n (fun s a b => h s a (by omega)), h (n : Int) (by omega) (by omega), Int.zero_mul]; rfl
theorem xW_v {lo ga : Nat → Int32} {s : Int} {a b q d e : Int32} {y : Int64} (h1 : a = lo s.toNat) (h2 : b = ga s.toNat) (h4 : d = b * q) (h5 : e = a + d) (h6 : y.toInt = e.toInt) : y = I6 (lo s.toNat + ga s.toNat * q).toInt := by
  have h := n_rng e
  apply Int64.toInt_inj.mp
  subst h1 h2 h4 h5
  rw [I6_to (by omega) (by omega), h6]
