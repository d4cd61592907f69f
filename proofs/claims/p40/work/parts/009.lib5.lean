section
/-! the led table: its columns stay short, whatever is undone and redone -/
section G5
variable {p : Program} {l : Launch} {e : Env} {R : Room} {s : State} {m : MethodId} {args : Array Value} {below : List Frame} {meth : Method} {c : Code} {cells slots : Nat} {Q : State → Prop} {D : va_G} {tys : List (ClassId × FieldType)} {ws : va_W} {H H0 : Heap} {locs : List Loc} {A : Nat → Prop} {a pc : Nat} {ls : Array Slot} {rest : List Value} {cc : ByteArray}
end G5
def TB (f : Nat → Int32) (M : Int) : Prop := ∀ j : Nat, j < 30 → -M ≤ (f j).toInt ∧ (f j).toInt ≤ M
def fillQ (f : Nat → Int32) (x : Int32) (k : Int) : Prop := ∀ j : Nat, (j : Int) < k → f j = x
theorem fill_step {f f' : Nat → Int32} {x : Int32} {k k' i : Int} (h : fillQ f x k) (e : f' = upd f i.toNat x) (hi : i = k) (h0 : 0 ≤ k) (ek : k' = k + 1) : fillQ f' x k' := by
  intro j hj
  by_cases q : j = i.toNat
  · rw [e, u_eq q]
  · rw [e, u_ne q]; exact h j (by omega)
def dtn (f : Nat → Int32) (a b : Int) : Nat → Int
  | 0 => 0
  | n + 1 => dtn f a b n + (f (6 * a + (n : Int)).toNat).toInt * (f (6 * b + (n : Int)).toNat).toInt
theorem dtn_step {f : Nat → Int32} {a b s s' n n' : Int} {x y : Int32} (h : s = dtn f a b n.toNat) (e1 : x = f (6 * a + n).toNat) (e2 : y = f (6 * b + n).toNat) (h0 : 0 ≤ n) (es : s' = s + x.toInt * y.toInt) (en : n' = n + 1) : s' = dtn f a b n'.toNat := by
  have q : n'.toNat = n.toNat + 1 := by omega
  rw [q]
  show s' = dtn f a b n.toNat + (f (6 * a + ((n.toNat : Nat) : Int)).toNat).toInt * (f (6 * b + ((n.toNat : Nat) : Int)).toNat).toInt
  rw [show ((n.toNat : Nat) : Int) = n by omega, ← e1, ← e2, ← h, es]
theorem sq_nn (x : Int) : 0 ≤ x * x := by
  rcases Int.le_total 0 x with h | h
  · exact Int.mul_nonneg h h
  · have := Int.mul_nonneg (show 0 ≤ -x by omega) (show 0 ≤ -x by omega)
    rw [Int.neg_mul_neg] at this
    exact this
theorem dtn_nn {f : Nat → Int32} {a : Int} : ∀ n : Nat, 0 ≤ dtn f a a n
  | 0 => Int.le_refl _
  | n + 1 => by
    have h1 := dtn_nn (f := f) (a := a) n
    have h2 := sq_nn (f (6 * a + (n : Int)).toNat).toInt
    show 0 ≤ dtn f a a n + _
    omega
theorem dtn_ge {f : Nat → Int32} {a : Int} : ∀ (n k : Nat), k < n → (f (6 * a + (k : Int)).toNat).toInt * (f (6 * a + (k : Int)).toNat).toInt ≤ dtn f a a n
  | 0, k, h => absurd h (by omega)
  | n + 1, k, h => by
    show _ ≤ dtn f a a n + _
    have h1 := dtn_nn (f := f) (a := a) n
    have h2 := sq_nn (f (6 * a + (n : Int)).toNat).toInt
    by_cases q : k = n
    · subst q; omega
    · have := dtn_ge (f := f) (a := a) n k (by omega)
      omega
theorem sq_le {x B : Int} (hB : 0 ≤ B) (h : x * x < (B + 1) * (B + 1)) : -B ≤ x ∧ x ≤ B := by
  have key : ∀ y : Int, 0 ≤ y → y * y < (B + 1) * (B + 1) → y ≤ B := by
    intro y hy hh
    rcases Int.lt_or_le B y with q | q
    · have h1 : (B + 1) * (B + 1) ≤ y * y := Int.mul_le_mul (by omega) (by omega) (by omega) hy
      omega
    · exact q
  rcases Int.le_total 0 x with q | q
  · have := key x q h
    omega
  · have := key (-x) (by omega) (by rw [Int.neg_mul_neg]; exact h)
    omega
def SH (f : Nat → Int32) : Prop := ∀ c : Int, 0 ≤ c → c ≤ 4 → dtn f c c 6 ≤ 58806
theorem SH_TB {f : Nat → Int32} (h : SH f) : TB f 242 := by
  intro j hj
  have h1 := h ((j / 6 : Nat) : Int) (by omega) (by omega)
  have h2 := dtn_ge (f := f) (a := ((j / 6 : Nat) : Int)) 6 (j % 6) (by omega)
  have e : (6 * ((j / 6 : Nat) : Int) + ((j % 6 : Nat) : Int)).toNat = j := by omega
  rw [e] at h2
  exact sq_le (by omega) (by omega)
theorem TB_SH {f : Nat → Int32} (h : TB f 99) : SH f := by
  intro c h0 h4
  have key : ∀ k : Nat, k < 6 → (f (6 * c + (k : Int)).toNat).toInt * (f (6 * c + (k : Int)).toNat).toInt ≤ 9801 := by
    intro k hk
    have := n_sq (B := 99) (h (6 * c + (k : Int)).toNat (by omega))
    omega
  have all : ∀ n : Nat, n ≤ 6 → dtn f c c n ≤ 9801 * (n : Int) := by
    intro n
    induction n with
    | zero => intro _; exact Int.le_refl _
    | succ n ih =>
      intro hn
      have h1 := ih (by omega)
      have h2 := key n (by omega)
      show dtn f c c n + _ ≤ _
      omega
  have := all 6 (by omega)
  omega
def sl (o k : Int) : Nat := (((o + k) % 40) * 3).toNat
end
