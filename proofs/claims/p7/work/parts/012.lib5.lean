section
/-! the led table: its columns stay short, whatever is undone and redone -/
theorem c_mod {v w : Int} (h : 0 ≤ v) : v.tmod w = v % w := by
  first
    | exact Int.tmod_eq_emod_of_nonneg h
    | exact Int.tmod_eq_emod h
section G5
variable {p : Program} {l : Launch} {e : Env} {R : Room} {s : State} {m : MethodId} {args : Array Value} {below : List Frame} {meth : Method} {c : Code} {cells slots : Nat} {Q : State → Prop} {D : va_G} {tys : List (ClassId × FieldType)} {ws : va_W} {H H0 : Heap} {locs : List Loc} {A : Nat → Prop} {a pc : Nat} {ls : Array Slot} {rest : List Value} {cc : ByteArray}
theorem c_irem (hexec : p.tables.exec = Jvm.exec) (hb : c.code = cc) {x y : Int32} {v w : Int} (hv : x.toInt = v) (hw : y.toInt = w) (h0 : 0 < w) (h1 : 0 ≤ v) (hdg : decode cc pc = .ok (.irem, 1)) (k : ∀ z : Int32, z.toInt = v % w → W p l e R s m args below meth c H locs cells slots Q (F0 m (pc + 1) ls (.int z :: rest))) : W p l e R s m args below meth c H locs cells slots Q (F0 m pc ls (.int y :: .int x :: rest)) := lv_irem hexec hb hdg (n_ne0 hw h0) (k _ (by rw [n_rem hv hw h0]; exact c_mod h1))
theorem e_copyi {cl : List vw_C} (hexec : p.tables.exec = Jvm.exec) (hb : c.code = cc) (hml : c.maxLocals = ls.size) {own : String} {index : Nat} (hown : s.vm.findClass own = some m.cls) (hlink : (Cond.methodLink own index arraycopyName).before args s = true) (hnat : (Cond.native arraycopyName).before args s = true) (hstat : (Cond.static arraycopyName).before args s = true) (hini : (Cond.initialized "java/lang/System").before args s = true)
    (hK : va_K D cl tys s) (hP : va_P D cl ws H) (hD : va_D A ws) (hS : va_S A H0 H locs) (q0 q1 t0 t1 : Nat) {a0 : Nat} {c0 c1 : ClassId} {n0 n1 : Nat} {f g : Nat → Int32} {ty : FieldType} (ha0 : ws[q0]? = some (a0, .inl (c0, n0, .inl f))) (ha1 : ws[q1]? = some (a, .inl (c1, n1, .inl g))) (ht0 : tys[t0]? = some (c0, ty)) (ht1 : tys[t1]? = some (c1, ty)) (hprim : refKind ty = false)
    {sp dp n : Int32} (h1 : ¬ sp < 0) (h2 : ¬ dp < 0) (h3 : ¬ n < 0) (h4 : sp.toNatClampNeg + n.toNatClampNeg ≤ n0) (h5 : dp.toNatClampNeg + n.toNatClampNeg ≤ n1) (hfit : ∀ i, i < n.toNatClampNeg → fits ty (.int (f (sp.toNatClampNeg + i))) = true)
    (hframes : 1 ≤ R.frames) (hlocals : (rest.map fun v => v.category).sum + (nativeFrameWords "java/lang/System" "arraycopy" 5 + 11) ≤ R.locals) (hdg : decode cc pc = .ok (.invokestatic index, 3))
    (kk : ∀ (g' : Nat → Int32), g' = va_cpy f g sp.toNatClampNeg dp.toNatClampNeg n.toNatClampNeg → ∀ (H1 : Heap) (locs1 : List Loc), va_P D cl (ws.set q1 (a, .inl (c1, n1, .inl g'))) H1 → va_D A (ws.set q1 (a, .inl (c1, n1, .inl g'))) → va_S A H0 H1 locs1 → W p l e R s m args below meth c H1 locs1 cells slots Q (F0 m (pc + 3) ls rest)) : W p l e R s m args below meth c H locs cells slots Q (F0 m pc ls (.int n :: .int dp :: .ref a :: .int sp :: .ref a0 :: rest)) :=
  va_copyi hexec hb hml hown hlink hnat hstat hini hK hP hD hS q0 q1 t0 t1 ha0 ha1 ht0 ht1 hprim h1 h2 h3 h4 h5 hfit hframes hlocals hdg (fun H1 locs1 g1 g2 g3 => kk _ rfl H1 locs1 g1 g2 g3)
end G5
theorem cpy_all {f g g' : Nat → Int32} (h : g' = va_cpy f g (0 : Int32).toNatClampNeg (0 : Int32).toNatClampNeg (30 : Int32).toNatClampNeg) : ∀ j : Nat, j < 30 → g' j = f j := by
  intro j hj
  have e : g' = va_cpy f g 0 0 30 := h
  rw [e]
  show (if 0 ≤ j ∧ j < 0 + 30 then f (0 + (j - 0)) else g j) = f j
  rw [if_pos (by omega)]
  congr 1; omega
def TB (f : Nat → Int32) (M : Int) : Prop := ∀ j : Nat, j < 30 → -M ≤ (f j).toInt ∧ (f j).toInt ≤ M
theorem TB_upd {f f' : Nat → Int32} {M : Int} {n : Nat} {x : Int32} (h : TB f M) (e : f' = upd f n x) (hx : -M ≤ x.toInt ∧ x.toInt ≤ M) : TB f' M := by
  intro j hj
  by_cases q : j = n
  · rw [e, u_eq q]; exact hx
  · rw [e, u_ne q]; exact h j hj
theorem TB_eq {f f' : Nat → Int32} {M : Int} (h : TB f M) (e : ∀ j : Nat, j < 30 → f' j = f j) : TB f' M := fun j hj => by rw [e j hj]; exact h j hj
def fillQ (f : Nat → Int32) (x : Int32) (k : Int) : Prop := ∀ j : Nat, (j : Int) < k → f j = x
theorem fill_step {f f' : Nat → Int32} {x : Int32} {k k' i : Int} (h : fillQ f x k) (e : f' = upd f i.toNat x) (hi : i = k) (h0 : 0 ≤ k) (ek : k' = k + 1) : fillQ f' x k' := by
  intro j hj
  by_cases q : j = i.toNat
  · rw [e, u_eq q]
  · rw [e, u_ne q]; exact h j (by omega)
theorem fill_TB {f : Nat → Int32} {x : Int32} {k M : Int} (h : fillQ f x k) (hk : 30 ≤ k) (hx : -M ≤ x.toInt ∧ x.toInt ≤ M) : TB f M := fun j hj => by rw [h j (by omega)]; exact hx
def dtn (f : Nat → Int32) (a b : Int) : Nat → Int
  | 0 => 0
  | n + 1 => dtn f a b n + (f (6 * a + (n : Int)).toNat).toInt * (f (6 * b + (n : Int)).toNat).toInt
theorem dtn_step {f : Nat → Int32} {a b s s' n n' : Int} {x y : Int32} (h : s = dtn f a b n.toNat) (e1 : x = f (6 * a + n).toNat) (e2 : y = f (6 * b + n).toNat) (h0 : 0 ≤ n) (es : s' = s + x.toInt * y.toInt) (en : n' = n + 1) : s' = dtn f a b n'.toNat := by
  have q : n'.toNat = n.toNat + 1 := by omega
  rw [q]
  show s' = dtn f a b n.toNat + (f (6 * a + ((n.toNat : Nat) : Int)).toNat).toInt * (f (6 * b + ((n.toNat : Nat) : Int)).toNat).toInt
  rw [show ((n.toNat : Nat) : Int) = n by omega, ← e1, ← e2, ← h, es]
theorem sq_nn (x : Int) : 0 ≤ x * x := by
  rcases Int.le_total 0 x with h | h
  · exact Int.mul_nonneg h h
  · have := Int.mul_nonneg (show 0 ≤ -x by omega) (show 0 ≤ -x by omega)
    rw [Int.neg_mul_neg] at this
    exact this
theorem dtn_nn {f : Nat → Int32} {a : Int} : ∀ n : Nat, 0 ≤ dtn f a a n
  | 0 => Int.le_refl _
  | n + 1 => by
    have h1 := dtn_nn (f := f) (a := a) n
    have h2 := sq_nn (f (6 * a + (n : Int)).toNat).toInt
    show 0 ≤ dtn f a a n + _
    omega
theorem dtn_ge {f : Nat → Int32} {a : Int} : ∀ (n k : Nat), k < n → (f (6 * a + (k : Int)).toNat).toInt * (f (6 * a + (k : Int)).toNat).toInt ≤ dtn f a a n
  | 0, k, h => absurd h (by omega)
  | n + 1, k, h => by
    show _ ≤ dtn f a a n + _
    have h1 := dtn_nn (f := f) (a := a) n
    have h2 := sq_nn (f (6 * a + (n : Int)).toNat).toInt
    by_cases q : k = n
    · subst q; omega
    · have := dtn_ge (f := f) (a := a) n k (by omega)
      omega
theorem dtn_congr {f g : Nat → Int32} {a b : Int} : ∀ n : Nat, (∀ k : Nat, k < n → f (6 * a + (k : Int)).toNat = g (6 * a + (k : Int)).toNat ∧ f (6 * b + (k : Int)).toNat = g (6 * b + (k : Int)).toNat) → dtn f a b n = dtn g a b n
  | 0, _ => rfl
  | n + 1, h => by
    show dtn f a b n + _ = dtn g a b n + _
    rw [dtn_congr n (fun k hk => h k (by omega)), (h n (by omega)).1, (h n (by omega)).2]
theorem sq_le {x B : Int} (hB : 0 ≤ B) (h : x * x < (B + 1) * (B + 1)) : -B ≤ x ∧ x ≤ B := by
  have key : ∀ y : Int, 0 ≤ y → y * y < (B + 1) * (B + 1) → y ≤ B := by
    intro y hy hh
    rcases Int.lt_or_le B y with q | q
    · have h1 : (B + 1) * (B + 1) ≤ y * y := Int.mul_le_mul (by omega) (by omega) (by omega) hy
      omega
    · exact q
  rcases Int.le_total 0 x with q | q
  · have := key x q h
    omega
  · have := key (-x) (by omega) (by rw [Int.neg_mul_neg]; exact h)
    omega
def SH (f : Nat → Int32) : Prop := ∀ c : Int, 0 ≤ c → c ≤ 4 → dtn f c c 6 ≤ 58806
theorem SH_TB {f : Nat → Int32} (h : SH f) : TB f 242 := by
  intro j hj
  have h1 := h ((j / 6 : Nat) : Int) (by omega) (by omega)
  have h2 := dtn_ge (f := f) (a := ((j / 6 : Nat) : Int)) 6 (j % 6) (by omega)
  have e : (6 * ((j / 6 : Nat) : Int) + ((j % 6 : Nat) : Int)).toNat = j := by omega
  rw [e] at h2
  exact sq_le (by omega) (by omega)
theorem TB_SH {f : Nat → Int32} (h : TB f 99) : SH f := by
  intro c h0 h4
  have key : ∀ k : Nat, k < 6 → (f (6 * c + (k : Int)).toNat).toInt * (f (6 * c + (k : Int)).toNat).toInt ≤ 9801 := by
    intro k hk
    have := n_sq (B := 99) (h (6 * c + (k : Int)).toNat (by omega))
    omega
  have all : ∀ n : Nat, n ≤ 6 → dtn f c c n ≤ 9801 * (n : Int) := by
    intro n
    induction n with
    | zero => intro _; exact Int.le_refl _
    | succ n ih =>
      intro hn
      have h1 := ih (by omega)
      have h2 := key n (by omega)
      show dtn f c c n + _ ≤ _
      omega
  have := all 6 (by omega)
  omega
def tmQ (p s t : Int) : Prop := t * t * s ≤ 2 * (t * p) ∧ -1300000 ≤ t ∧ t ≤ 1300000
theorem tm_0 {p s t : Int} (h : t = 0) : tmQ p s t := by
  subst h
  refine ⟨?_, by omega, by omega⟩
  rw [Int.zero_mul, Int.zero_mul, Int.zero_mul]
  omega
theorem tm_ok {p s t P m y : Int} (hs : 0 < s) (hm : 0 ≤ m) (hP : 0 ≤ P) (hy : y = 2 * s) (hd : m * y ≤ 2 * P + s - 1) (hb : m ≤ 1300000) (ht : (t = m ∧ p = P) ∨ (t = -m ∧ p = -P)) : tmQ p s t := by
  have hms : m * y = 2 * (m * s) := by rw [hy, ← Int.mul_assoc, Int.mul_comm m 2, Int.mul_assoc]
  have h1 : m * s ≤ 2 * P := by
    rcases Int.lt_or_le 0 m with q | q
    · have h2 : 1 * s ≤ m * s := Int.mul_le_mul_of_nonneg_right (by omega) (by omega)
      omega
    · have e : m = 0 := by omega
      rw [e, Int.zero_mul]; omega
  have h3 : m * (m * s) ≤ m * (2 * P) := Int.mul_le_mul_of_nonneg_left h1 hm
  have h4 : m * (2 * P) = 2 * (m * P) := by rw [← Int.mul_assoc, Int.mul_comm m 2, Int.mul_assoc]
  have h5 : m * m * s = m * (m * s) := Int.mul_assoc _ _ _
  rcases ht with ⟨e1, e2⟩ | ⟨e1, e2⟩
  · subst e1; subst e2
    exact ⟨by omega, by omega, by omega⟩
  · subst e1; subst e2
    refine ⟨?_, by omega, by omega⟩
    rw [Int.neg_mul_neg, Int.neg_mul_neg]
    omega
def taQ (f f' : Nat → Int32) (a b : Int) (t : Int32) (n : Int) : Prop := (∀ k : Nat, (k : Int) < n → f' (6 * a + (k : Int)).toNat = f (6 * a + (k : Int)).toNat - t * f (6 * b + (k : Int)).toNat) ∧ ∀ x : Nat, (∀ k : Nat, (k : Int) < n → ¬ x = (6 * a + (k : Int)).toNat) → f' x = f x
theorem ta_0 {f : Nat → Int32} {a b n : Int} {t : Int32} (h : n = 0) : taQ f f a b t n := ⟨fun k hk => absurd hk (by omega), fun _ _ => rfl⟩
theorem ta_step {f f' f'' : Nat → Int32} {a b n n' i : Int} {t u v z w : Int32} (h : taQ f f' a b t n) (eu : u = f' (6 * a + n).toNat) (ev : v = f' (6 * b + n).toNat) (ez : z = t * v) (ew : w = u - z) (ef : f'' = upd f' i.toNat w) (hi : i = 6 * a + n) (ha : 0 ≤ a) (hb : 0 ≤ b) (hab : ¬ a = b) (h0 : 0 ≤ n) (h6 : n < 6) (en : n' = n + 1) : taQ f f'' a b t n' := by
  obtain ⟨q1, q2⟩ := h
  have e1 : f' (6 * a + n).toNat = f (6 * a + n).toNat := q2 _ (fun k hk => by omega)
  have e2 : f' (6 * b + n).toNat = f (6 * b + n).toNat := q2 _ (fun k hk => by omega)
  subst hi
  refine ⟨fun k hk => ?_, fun x hx => ?_⟩
  · by_cases q : (k : Int) = n
    · rw [q, ef, u_eq rfl, ew, ez, eu, ev, e1, e2]
    · rw [ef, u_ne (by omega)]; exact q1 k (by omega)
  · have q := hx n.toNat (by omega)
    rw [show ((n.toNat : Nat) : Int) = n by omega] at q
    rw [ef, u_ne q]
    exact q2 x (fun k hk => hx k (by omega))
theorem ta_uniq {f f1 f2 : Nat → Int32} {a b n : Int} {t : Int32} (h1 : taQ f f1 a b t n) (h2 : taQ f f2 a b t n) : f1 = f2 := by
  funext x
  by_cases q : ∃ k : Nat, (k : Int) < n ∧ x = (6 * a + (k : Int)).toNat
  · obtain ⟨k, hk, e⟩ := q
    rw [e, h1.1 k hk, h2.1 k hk]
  · have q1 : ∀ k : Nat, (k : Int) < n → ¬ x = (6 * a + (k : Int)).toNat := fun k hk e => q ⟨k, hk, e⟩
    rw [h1.2 x q1, h2.2 x q1]
theorem r_back (a b t : Int32) : a - t * b - -t * b = a := by
  rw [Int32.neg_mul, Int32.sub_neg, Int32.sub_add_cancel]
theorem ta_back {f f1 f2 : Nat → Int32} {a b : Int} {t t' : Int32} (h1 : taQ f f1 a b t 6) (h2 : taQ f1 f2 a b t' 6) (et : t' = -t) (ha : 0 ≤ a) (hb : 0 ≤ b) (hab : ¬ a = b) : f2 = f := by
  funext x
  by_cases q : ∃ k : Nat, (k : Int) < 6 ∧ x = (6 * a + (k : Int)).toNat
  · obtain ⟨k, hk, e⟩ := q
    rw [e, h2.1 k hk, h1.1 k hk, h1.2 (6 * b + (k : Int)).toNat (fun j hj => by omega), et]
    exact r_back _ _ _
  · have q1 : ∀ k : Nat, (k : Int) < 6 → ¬ x = (6 * a + (k : Int)).toNat := fun k hk e => q ⟨k, hk, e⟩
    rw [h2.2 x q1, h1.2 x q1]
theorem sq_sub (a b t : Int) : (a - t * b) * (a - t * b) = a * a - 2 * (t * (a * b)) + (t * t) * (b * b) := by
  have h1 : (a - t * b) * (a - t * b) = a * (a - t * b) - t * b * (a - t * b) := Int.sub_mul _ _ _
  have h2 : a * (a - t * b) = a * a - a * (t * b) := Int.mul_sub _ _ _
  have h3 : t * b * (a - t * b) = t * b * a - t * b * (t * b) := Int.mul_sub _ _ _
  have h4 : a * (t * b) = t * (a * b) := Int.mul_left_comm _ _ _
  have h5 : t * b * a = t * (a * b) := by rw [Int.mul_assoc, Int.mul_comm b a]
  have h6 : t * b * (t * b) = (t * t) * (b * b) := by rw [Int.mul_assoc t b (t * b), Int.mul_left_comm b t b, Int.mul_assoc t t (b * b)]
  rw [h1, h2, h3, h4, h5, h6]
  omega
theorem dtn_TA {f f' : Nat → Int32} {a b t : Int} : ∀ n : Nat, (∀ k : Nat, k < n → (f' (6 * a + (k : Int)).toNat).toInt = (f (6 * a + (k : Int)).toNat).toInt - t * (f (6 * b + (k : Int)).toNat).toInt) → dtn f' a a n = dtn f a a n - 2 * (t * dtn f a b n) + t * t * dtn f b b n
  | 0, _ => by
    show (0 : Int) = 0 - 2 * (t * 0) + t * t * 0
    rw [Int.mul_zero, Int.mul_zero]
    omega
  | n + 1, h => by
    have ih := dtn_TA (f := f) (f' := f') (a := a) (b := b) (t := t) n (fun k hk => h k (by omega))
    show dtn f' a a n + (f' (6 * a + (n : Int)).toNat).toInt * (f' (6 * a + (n : Int)).toNat).toInt = dtn f a a n + (f (6 * a + (n : Int)).toNat).toInt * (f (6 * a + (n : Int)).toNat).toInt - 2 * (t * (dtn f a b n + (f (6 * a + (n : Int)).toNat).toInt * (f (6 * b + (n : Int)).toNat).toInt)) + t * t * (dtn f b b n + (f (6 * b + (n : Int)).toNat).toInt * (f (6 * b + (n : Int)).toNat).toInt)
    rw [h n (by omega), sq_sub, ih, Int.mul_add t, Int.mul_add (t * t)]
    omega
theorem SH_ta {f f' : Nat → Int32} {a b : Int} {t : Int32} (h : SH f) (hm : tmQ (dtn f a b 6) (dtn f b b 6) t.toInt) (hq : taQ f f' a b t 6) (ha : 0 ≤ a ∧ a ≤ 4) (hb : 0 ≤ b ∧ b ≤ 4) : SH f' := by
  intro c h0 h4
  by_cases q : c = a
  · subst q
    have hT := SH_TB h
    have e := dtn_TA (f := f) (f' := f') (a := c) (b := b) (t := t.toInt) 6 (fun k hk => by
      rw [hq.1 k (by omega)]
      have b1 := hT (6 * c + (k : Int)).toNat (by omega)
      have b2 := hT (6 * b + (k : Int)).toNat (by omega)
      have b3 := n_mulb (A := 1300000) (B := 242) (by decide) (by decide) ⟨hm.2.1, hm.2.2⟩ b2
      exact n_sub rfl (n_mul rfl rfl (by omega) (by omega)) (by omega) (by omega))
    have h1 := h c h0 h4
    have h2 := hm.1
    omega
  · rw [dtn_congr (g := f) 6 (fun k hk => ⟨hq.2 _ (fun j hj => by omega), hq.2 _ (fun j hj => by omega)⟩)]
    exact h c h0 h4
def sl (o k : Int) : Nat := (((o + k) % 40) * 3).toNat
def stQ (F F' g : Nat → Int32) (p : Nat) : Prop := ∃ i j : Int, (0 ≤ i ∧ i ≤ 4 ∧ 0 ≤ j ∧ j ≤ 4 ∧ ¬ i = j) ∧ (g p).toInt = i ∧ (g (p + 1)).toInt = j ∧ taQ F F' i j (g (p + 2)) 6
def LedOK (f g : Nat → Int32) (o u r : Int) : Prop := ∃ G : Nat → Nat → Int32, f = G u.toNat ∧ (∀ k : Nat, (k : Int) ≤ u + r → SH (G k)) ∧ ∀ k : Nat, (k : Int) < u + r → stQ (G k) (G (k + 1)) g (sl o (k : Int))
theorem Led_SH {f g : Nat → Int32} {o u r : Int} (h : LedOK f g o u r) (hu : 0 ≤ u) (hr : 0 ≤ r) : SH f := by
  obtain ⟨G, e, h1, _⟩ := h
  rw [e]
  exact h1 _ (by omega)
theorem Led_start {f g : Nat → Int32} {o u r : Int} (h : SH f) (hu : u = 0) (hr : r = 0) : LedOK f g o u r := ⟨fun _ => f, rfl, fun _ _ => h, fun k hk => absurd hk (by omega)⟩
theorem Led_at {f g : Nat → Int32} {o u r k q : Int} (h : LedOK f g o u r) (h0 : 0 ≤ k) (hk : k < u + r) (hq : q = ((o + k) % 40) * 3) : 0 ≤ (g q.toNat).toInt ∧ (g q.toNat).toInt ≤ 4 ∧ 0 ≤ (g (q + 1).toNat).toInt ∧ (g (q + 1).toNat).toInt ≤ 4 ∧ ¬ (g q.toNat).toInt = (g (q + 1).toNat).toInt := by
  obtain ⟨G, _, _, h2⟩ := h
  obtain ⟨i, j, hb, e1, e2, _⟩ := h2 k.toNat (by omega)
  have ek : ((k.toNat : Nat) : Int) = k := by omega
  rw [ek] at e1 e2
  have es : sl o k = q.toNat := by unfold sl; rw [hq]
  rw [es] at e1 e2
  rw [show (q + 1).toNat = q.toNat + 1 by omega, e1, e2]
  omega
theorem Led_undo {f f' g : Nat → Int32} {o u u' r r' q : Int} {zi zj zt t : Int32} (h : LedOK f g o u r) (hu : 1 ≤ u) (hr : 0 ≤ r) (eu : u' = u - 1) (er : r' = r + 1) (hq : q = ((o + u') % 40) * 3) (ei : zi = g q.toNat) (ej : zj = g (q + 1).toNat) (et : zt = g (q + 2).toNat) (ht : t = -zt) (ha : taQ f f' zi.toInt zj.toInt t 6) : LedOK f' g o u' r' := by
  obtain ⟨G, e, h1, h2⟩ := h
  obtain ⟨i, j, hb, e1, e2, e3⟩ := h2 u'.toNat (by omega)
  have ek : ((u'.toNat : Nat) : Int) = u' := by omega
  rw [ek] at e1 e2 e3
  have es : sl o u' = q.toNat := by unfold sl; rw [hq]
  rw [es] at e1 e2 e3
  have q1 : zi.toInt = i := by rw [ei, e1]
  have q2 : zj.toInt = j := by rw [ej, show (q + 1).toNat = q.toNat + 1 by omega, e2]
  rw [q1, q2] at ha
  have q3 : g (q.toNat + 2) = zt := by rw [et]; congr 1; omega
  rw [q3] at e3
  rw [show u'.toNat + 1 = u.toNat by omega, ← e] at e3
  have q4 := ta_back e3 ha ht (by omega) (by omega) (by omega)
  exact ⟨G, q4, fun k hk => h1 k (by omega), fun k hk => h2 k (by omega)⟩
theorem Led_redo {f f' g : Nat → Int32} {o u u' r r' q : Int} {zi zj zt : Int32} (h : LedOK f g o u r) (hu : 0 ≤ u) (hr : 1 ≤ r) (eu : u' = u + 1) (er : r' = r - 1) (hq : q = ((o + u) % 40) * 3) (ei : zi = g q.toNat) (ej : zj = g (q + 1).toNat) (et : zt = g (q + 2).toNat) (ha : taQ f f' zi.toInt zj.toInt zt 6) : LedOK f' g o u' r' := by
  obtain ⟨G, e, h1, h2⟩ := h
  obtain ⟨i, j, hb, e1, e2, e3⟩ := h2 u.toNat (by omega)
  have ek : ((u.toNat : Nat) : Int) = u := by omega
  rw [ek] at e1 e2 e3
  have es : sl o u = q.toNat := by unfold sl; rw [hq]
  rw [es] at e1 e2 e3
  have q1 : zi.toInt = i := by rw [ei, e1]
  have q2 : zj.toInt = j := by rw [ej, show (q + 1).toNat = q.toNat + 1 by omega, e2]
  rw [q1, q2] at ha
  have q3 : g (q.toNat + 2) = zt := by rw [et]; congr 1; omega
  rw [q3, ← e] at e3
  have q4 := ta_uniq ha e3
  rw [show u.toNat + 1 = u'.toNat by omega] at q4
  exact ⟨G, q4, fun k hk => h1 k (by omega), fun k hk => h2 k (by omega)⟩
def remQ (g g' : Nat → Int32) (o o' u u' : Int) (i j t : Int32) : Prop := ∃ q : Int, g' = upd (upd (upd g q.toNat i) (q + 1).toNat j) (q + 2).toNat t ∧ ((u < 40 ∧ o' = o ∧ u' = u + 1 ∧ q = ((o + u) % 40) * 3) ∨ (u = 40 ∧ o' = (o + 1) % 40 ∧ u' = 40 ∧ q = ((o' + 39) % 40) * 3))
theorem Led_cut {f g : Nat → Int32} {o o' r : Int} (h : LedOK f g o 40 r) (hr : 0 ≤ r) (ho : 0 ≤ o ∧ o < 40) (eo : o' = (o + 1) % 40) : LedOK f g o' 39 0 := by
  obtain ⟨G, e, h1, h2⟩ := h
  refine ⟨fun k => G (k + 1), e, fun k hk => h1 (k + 1) (by omega), fun k hk => ?_⟩
  have q := h2 (k + 1) (by omega)
  have es : sl o (((k + 1 : Nat) : Nat) : Int) = sl o' (k : Int) := by unfold sl; rw [eo]; congr 1; omega
  rw [es] at q
  exact q
theorem Led_put {f f' g g' : Nat → Int32} {o u r q : Int} {i j t : Int32} (h : LedOK f g o u r) (hu : 0 ≤ u ∧ u < 40) (hr : 0 ≤ r) (ho : 0 ≤ o ∧ o < 40) (eg : g' = upd (upd (upd g q.toNat i) (q + 1).toNat j) (q + 2).toNat t) (hq : q = ((o + u) % 40) * 3) (hi : 0 ≤ i.toInt ∧ i.toInt ≤ 4) (hj : 0 ≤ j.toInt ∧ j.toInt ≤ 4) (hij : ¬ i.toInt = j.toInt) (ha : taQ f f' i.toInt j.toInt t 6) (hs : SH f') : LedOK f' g' o (u + 1) 0 := by
  obtain ⟨G, e, h1, h2⟩ := h
  refine ⟨fun k => if k ≤ u.toNat then G k else f', ?_, fun k hk => ?_, fun k hk => ?_⟩
  · show f' = if (u + 1).toNat ≤ u.toNat then G (u + 1).toNat else f'
    rw [if_neg (by omega)]
  · show SH (if k ≤ u.toNat then G k else f')
    by_cases q1 : k ≤ u.toNat
    · rw [if_pos q1]; exact h1 k (by omega)
    · rw [if_neg q1]; exact hs
  · show stQ (if k ≤ u.toNat then G k else f') (if k + 1 ≤ u.toNat then G (k + 1) else f') g' (sl o (k : Int))
    rw [if_pos (show k ≤ u.toNat by omega)]
    by_cases q1 : k = u.toNat
    · rw [if_neg (by omega)]
      have es : sl o (k : Int) = q.toNat := by unfold sl; rw [hq]; congr 2; omega
      rw [es, q1, ← e]
      have w1 : g' q.toNat = i := by rw [eg, u_ne (by omega), u_ne (by omega), u_eq rfl]
      have w2 : g' (q.toNat + 1) = j := by rw [eg, u_ne (by omega), u_eq (by omega)]
      have w3 : g' (q.toNat + 2) = t := by rw [eg, u_eq (by omega)]
      exact ⟨i.toInt, j.toInt, by omega, by rw [w1], by rw [w2], by rw [w3]; exact ha⟩
    · rw [if_pos (by omega)]
      obtain ⟨i', j', hb, e1, e2, e3⟩ := h2 k (by omega)
      have hne : ∀ d : Nat, d < 3 → ¬ sl o (k : Int) + d = q.toNat ∧ ¬ sl o (k : Int) + d = (q + 1).toNat ∧ ¬ sl o (k : Int) + d = (q + 2).toNat := by
        intro d hd
        unfold sl
        rw [hq]
        omega
      have w : ∀ d : Nat, d < 3 → g' (sl o (k : Int) + d) = g (sl o (k : Int) + d) := by
        intro d hd
        obtain ⟨n1, n2, n3⟩ := hne d hd
        rw [eg, u_ne n3, u_ne n2, u_ne n1]
      exact ⟨i', j', hb, by rw [show g' (sl o (k : Int)) = g (sl o (k : Int)) from w 0 (by omega)]; exact e1, by rw [w 1 (by omega)]; exact e2, by rw [w 2 (by omega)]; exact e3⟩
theorem Led_push {f f' g g' : Nat → Int32} {o o' u u' r r' : Int} {i j t : Int32} (h : LedOK f g o u r) (hq : remQ g g' o o' u u' i j t) (hu : 0 ≤ u ∧ u ≤ 40) (hr : 0 ≤ r) (er : r' = 0) (ho : 0 ≤ o ∧ o < 40) (hi : 0 ≤ i.toInt ∧ i.toInt ≤ 4) (hj : 0 ≤ j.toInt ∧ j.toInt ≤ 4) (hij : ¬ i.toInt = j.toInt) (ha : taQ f f' i.toInt j.toInt t 6) (hm : tmQ (dtn f i.toInt j.toInt 6) (dtn f j.toInt j.toInt 6) t.toInt) : LedOK f' g' o' u' r' := by
  have hs := SH_ta (Led_SH h (by omega) hr) hm ha hi hj
  subst er
  obtain ⟨q, eg, ⟨c1, c2, c3, c4⟩ | ⟨c1, c2, c3, c4⟩⟩ := hq
  · rw [c2, c3]
    exact Led_put h (by omega) hr ho eg c4 hi hj hij ha hs
  · subst c1
    have h9 := Led_cut h hr ho c2
    rw [c3]
    exact Led_put (u := 39) h9 (by omega) (by omega) (by omega) eg c4 hi hj hij ha hs
end
