section
/-! rows of longs, exactly -/
section GC
variable {p : Program} {l : Launch} {e : Env} {R : Room} {s : State} {m : MethodId} {args : Array Value} {below : List Frame} {meth : Method} {c : Code} {cells slots : Nat} {Q : State → Prop} {D : va_G} {tys : List (ClassId × FieldType)} {ws : va_W} {H H0 : Heap} {locs : List Loc} {A : Nat → Prop} {a pc : Nat} {ls : Array Slot} {rest : List Value} {cc : ByteArray}
theorem e_lastore {cl : List vw_C} (hexec : p.tables.exec = Jvm.exec) (hb : c.code = cc) (hK : va_K D cl tys s) (hP : va_P D cl ws H) (hD : va_D A ws) (hS : va_S A H0 H locs) (q0 t0 : Nat) {cA : ClassId} {n : Nat} {f : Nat → Int64} (ha : ws[q0]? = some (a, .inl (cA, n, .inr (.inl f)))) (ht : tys[t0]? = some (cA, .long)) {i : Int32} {x : Int64} (hin : vp_in i n) (hdg : decode cc pc = .ok (.lastore, 1))
    (kk : ∀ (f' : Nat → Int64), f' = vp_updL f (i.toInt).toNat x → ∀ (H1 : Heap) (locs1 : List Loc), va_P D cl (ws.set q0 (a, .inl (cA, n, .inr (.inl f')))) H1 → va_D A (ws.set q0 (a, .inl (cA, n, .inr (.inl f')))) → va_S A H0 H1 locs1 → W p l e R s m args below meth c H1 locs1 cells slots Q (F0 m (pc + 1) ls rest)) : W p l e R s m args below meth c H locs cells slots Q (F0 m pc ls (.long x :: .int i :: .ref a :: rest)) :=
  va_last hexec hb hK hP hD hS q0 t0 ha ht hin hdg (fun H1 locs1 h1 h2 h3 => kk _ rfl H1 locs1 h1 h2 h3)
end GC
theorem u_eqL {f : Nat → Int64} {n k : Nat} {x : Int64} (h : k = n) : vp_updL f n x k = x := by unfold vp_updL; rw [if_pos h]
theorem u_neL {f : Nat → Int64} {n k : Nat} {x : Int64} (h : ¬ k = n) : vp_updL f n x k = f k := by unfold vp_updL; rw [if_neg h]
/-! words: what pairs of them are worth (by the machine's own arithmetic) -/
def sW (t x : Nat → Int32) : Nat → Int32
  | 0 => 0
  | n + 1 => sW t x n + t n * x n
theorem sW_step {t x : Nat → Int32} {k k' : Int} {s s' u v z : Int32} (h : s = sW t x k.toNat) (eu : u = t k.toNat) (ev : v = x k.toNat) (ez : z = u * v) (es : s' = s + z) (h0 : 0 ≤ k) (ek : k' = k + 1) : s' = sW t x k'.toNat := by
  rw [show k'.toNat = k.toNat + 1 by omega]
  show s' = sW t x k.toNat + t k.toNat * x k.toNat
  rw [← h, ← eu, ← ev, es, ez]
theorem sW_congr {t t' x x' : Nat → Int32} : ∀ n : Nat, (∀ k : Nat, k < n → t k = t' k ∧ x k = x' k) → sW t x n = sW t' x' n
  | 0, _ => rfl
  | n + 1, h => by
    show sW t x n + t n * x n = sW t' x' n + t' n * x' n
    rw [sW_congr n (fun k hk => h k (by omega)), (h n (by omega)).1, (h n (by omega)).2]
def qW (p : Nat → Int32) : Nat → Int64
  | 0 => 0
  | n + 1 => qW p n + (p n).toInt64 * (p n).toInt64
theorem qW_step {p : Nat → Int32} {k k' : Int} {s s' y z : Int64} {v : Int32} (h : s = qW p k.toNat) (ev : v = p k.toNat) (ey : y.toInt = v.toInt) (ez : z = y * y) (es : s' = s + z) (h0 : 0 ≤ k) (ek : k' = k + 1) : s' = qW p k'.toNat := by
  rw [show k'.toNat = k.toNat + 1 by omega]
  show s' = qW p k.toNat + (p k.toNat).toInt64 * (p k.toNat).toInt64
  rw [← h, ← ev, es, ez, i64_of ey]
theorem qW_congr {p p' : Nat → Int32} : ∀ n : Nat, (∀ k : Nat, k < n → (p k).toInt64 * (p k).toInt64 = (p' k).toInt64 * (p' k).toInt64) → qW p n = qW p' n
  | 0, _ => rfl
  | n + 1, h => by
    show qW p n + (p n).toInt64 * (p n).toInt64 = qW p' n + (p' n).toInt64 * (p' n).toInt64
    rw [qW_congr n (fun k hk => h k (by omega)), h n (by omega)]
/-- a receiver's row of the table; the difference of two words -/
def tX9 (f : Nat → Int32) (r : Int) : Nat → Int32 := fun s => f (6 * (s : Int) + r).toNat
def tM9 (g : Nat → Int32) (r : Int) : Nat → Int32 := fun s => g (5 * r + (s : Int)).toNat
def wD (w : Nat → Int32) (a b : Int) : Nat → Int32 := fun s => w (5 * a + (s : Int)).toNat - w (5 * b + (s : Int)).toNat
def pX9 (f w : Nat → Int32) (S R a b : Int) : Int64 := qW (fun r => sW (tX9 f (r : Int)) (wD w a b) S.toNat) R.toNat
def pM9 (g w : Nat → Int32) (S R a b : Int) : Int64 := qW (fun r => (0 : Int32) - sW (tM9 g (r : Int)) (wD w a b) S.toNat) R.toNat
def dfQ (d w : Nat → Int32) (a b k : Int) : Prop := ∀ s : Nat, (s : Int) < k → d s = wD w a b s
theorem df_0 {d w : Nat → Int32} {a b k : Int} (h : k ≤ 0) : dfQ d w a b k := fun s hs => absurd hs (by omega)
theorem df_step {d d' w : Nat → Int32} {a b k k' i i1 i2 : Int} {u v z : Int32} (h : dfQ d w a b k) (eu : u = w i1.toNat) (h1 : i1 = 5 * a + k) (ev : v = w i2.toNat) (h2 : i2 = 5 * b + k) (ez : z = u - v) (e : d' = upd d i.toNat z) (hi : i = k) (h0 : 0 ≤ k) (ek : k' = k + 1) : dfQ d' w a b k' := by
  intro s hs
  by_cases q : (s : Int) = k
  · rw [e, u_eq (by omega), ez, eu, ev, h1, h2]
    show _ = w (5 * a + (s : Int)).toNat - w (5 * b + (s : Int)).toNat
    rw [q]
  · rw [e, u_ne (by omega)]
    exact h s (by omega)
theorem df_to {d w : Nat → Int32} {a b k S : Int} (h : dfQ d w a b k) (hk : S ≤ k ∨ S ≤ 0) (t : Nat → Int32) : sW t d S.toNat = sW t (wD w a b) S.toNat := sW_congr _ (fun s hs => ⟨rfl, h s (by omega)⟩)
/-! the least of pairs: the least, how many, the first -/
abbrev t39 : Type := Int × Int × Int
def prB9 (W out i j : Int) : Prop := i < j ∧ j < W ∧ ¬ i = out ∧ ¬ j = out
noncomputable def flX (c : Int → Int → Int) (W out : Int) (z : t39) : Nat → t39
  | 0 => z
  | k + 1 => ci (prB9 W out ((k / 16 : Nat) : Int) ((k % 16 : Nat) : Int)) (ci (c ((k / 16 : Nat) : Int) ((k % 16 : Nat) : Int) < (flX c W out z k).1) (c ((k / 16 : Nat) : Int) ((k % 16 : Nat) : Int), 1, 100 * ((k / 16 : Nat) : Int) + ((k % 16 : Nat) : Int)) (ci (c ((k / 16 : Nat) : Int) ((k % 16 : Nat) : Int) = (flX c W out z k).1) ((flX c W out z k).1, (flX c W out z k).2.1 + 1, (flX c W out z k).2.2) (flX c W out z k))) (flX c W out z k)
noncomputable def flM (c : Int → Int → Int) (W out : Int) : Nat → t39
  | 0 => (-1, 0, 0)
  | k + 1 => ci (prB9 W out ((k / 16 : Nat) : Int) ((k % 16 : Nat) : Int)) (ci ((flM c W out k).1 < 0 ∨ c ((k / 16 : Nat) : Int) ((k % 16 : Nat) : Int) < (flM c W out k).1) (c ((k / 16 : Nat) : Int) ((k % 16 : Nat) : Int), 1, 100 * ((k / 16 : Nat) : Int) + ((k % 16 : Nat) : Int)) (ci (c ((k / 16 : Nat) : Int) ((k % 16 : Nat) : Int) = (flM c W out k).1) ((flM c W out k).1, (flM c W out k).2.1 + 1, (flM c W out k).2.2) (flM c W out k))) (flM c W out k)
/-! a fold over pairs, by the loops that go through them -/
def flE (P : Nat → t39) (a b e k : Int) : Prop := a = (P k.toNat).1 ∧ b = (P k.toNat).2.1 ∧ e = (P k.toNat).2.2
def flS (P : Nat → t39) (W out : Int) : Prop := ∀ k : Nat, ¬ prB9 W out ((k / 16 : Nat) : Int) ((k % 16 : Nat) : Int) → P (k + 1) = P k
theorem flS_X {c : Int → Int → Int} {W out : Int} {z : t39} : flS (flX c W out z) W out := fun k h => by
  show ci _ _ _ = _
  exact ci_neg h
theorem flS_M {c : Int → Int → Int} {W out : Int} : flS (flM c W out) W out := fun k h => by
  show ci _ _ _ = _
  exact ci_neg h
theorem flS_to {P : Nat → t39} {W out : Int} (hs : flS P W out) (a : Nat) : ∀ d : Nat, (∀ x : Nat, a ≤ x → x < a + d → ¬ prB9 W out ((x / 16 : Nat) : Int) ((x % 16 : Nat) : Int)) → P (a + d) = P a
  | 0, _ => rfl
  | d + 1, h => (hs (a + d) (h (a + d) (by omega) (by omega))).trans (flS_to hs a d (fun x h1 h2 => h x h1 (by omega)))
theorem fl_to {P : Nat → t39} {W out a b e k k' : Int} (hs : flS P W out) (h : flE P a b e k) (h0 : 0 ≤ k) (hk : k ≤ k') (n : ∀ x : Nat, k ≤ (x : Int) → (x : Int) < k' → ¬ prB9 W out ((x / 16 : Nat) : Int) ((x % 16 : Nat) : Int)) : flE P a b e k' := by
  have e1 : k'.toNat = k.toNat + (k' - k).toNat := by omega
  unfold flE
  rw [e1, flS_to hs _ _ (fun x h1 h2 => n x (by omega) (by omega))]
  exact h
theorem fl_in {P : Nat → t39} {W out a b e i j k k' : Int} (hs : flS P W out) (h : flE P a b e k) (h0 : 0 ≤ i) (h5 : i < 16) (ek : k = 16 * i) (ek' : k' = 16 * i + j) (ej : j = i + 1) : flE P a b e k' := fl_to hs h (by omega) (by omega) (fun x h1 h2 => by unfold prB9; omega)
theorem fl_out {P : Nat → t39} {W out a b e i j k k' : Int} (hs : flS P W out) (h : flE P a b e k) (h0 : 0 ≤ i) (hj : W ≤ j) (hj0 : 0 ≤ j) (hj5 : j ≤ 16) (ek : k = 16 * i + j) (ek' : k' = 16 * (i + 1)) : flE P a b e k' := fl_to hs h (by omega) (by omega) (fun x h1 h2 => by unfold prB9; omega)
theorem fl_skip {P : Nat → t39} {W out a b e i j k k' : Int} (hs : flS P W out) (h : flE P a b e k) (h0 : 0 ≤ i) (hj0 : 0 ≤ j) (hj : j < 16) (ho : i = out ∨ j = out) (ek : k = 16 * i + j) (ek' : k' = k + 1) : flE P a b e k' := fl_to hs h (by omega) (by omega) (fun x h1 h2 => by unfold prB9; omega)
def wgQ (v a b e a' b' e' i j : Int) : Prop := (v < a ∧ a' = v ∧ b' = 1 ∧ e' = 100 * i + j) ∨ (v = a ∧ a' = a ∧ b' = b + 1 ∧ e' = e) ∨ (a < v ∧ a' = a ∧ b' = b ∧ e' = e)
theorem fl_weigh {c : Int → Int → Int} {z : t39} {W out a b e a' b' e' i j k k' v : Int} (h : flE (flX c W out z) a b e k) (hw : wgQ v a b e a' b' e' i j) (ev : v = c i j) (h0 : 0 ≤ i) (hp : i < j ∧ j < W ∧ ¬ i = out ∧ ¬ j = out) (hj : j < 16) (ek : k = 16 * i + j) (ek' : k' = k + 1) : flE (flX c W out z) a' b' e' k' := by
  obtain ⟨h1, h2, h3⟩ := h
  have e0 : k'.toNat = k.toNat + 1 := by omega
  have e1 : ((k.toNat / 16 : Nat) : Int) = i := by omega
  have e2 : ((k.toNat % 16 : Nat) : Int) = j := by omega
  have s : flX c W out z (k.toNat + 1) = ci (prB9 W out i j) (ci (c i j < (flX c W out z k.toNat).1) (c i j, 1, 100 * i + j) (ci (c i j = (flX c W out z k.toNat).1) ((flX c W out z k.toNat).1, (flX c W out z k.toNat).2.1 + 1, (flX c W out z k.toNat).2.2) (flX c W out z k.toNat))) (flX c W out z k.toNat) := by
    rw [← e1, ← e2]
    rfl
  have hp' : prB9 W out i j := hp
  rw [ci_pos hp', ← h1, ← h2, ← h3, ← ev] at s
  unfold flE
  rw [e0, s]
  rcases hw with ⟨q, w1, w2, w3⟩ | ⟨q, w1, w2, w3⟩ | ⟨q, w1, w2, w3⟩
  · rw [ci_pos q]
    exact ⟨w1, w2, w3⟩
  · rw [ci_neg (by omega), ci_pos q]
    exact ⟨w1, w2, w3⟩
  · rw [ci_neg (by omega), ci_neg (by omega), w1, w2, w3]
    exact ⟨h1, h2, h3⟩
def wmQ (v a b e a' b' e' i j : Int) : Prop := ((a < 0 ∨ v < a) ∧ a' = v ∧ b' = 1 ∧ e' = 100 * i + j) ∨ (¬ (a < 0 ∨ v < a) ∧ v = a ∧ a' = a ∧ b' = b + 1 ∧ e' = e) ∨ (¬ (a < 0 ∨ v < a) ∧ ¬ v = a ∧ a' = a ∧ b' = b ∧ e' = e)
theorem fl_weighM {c : Int → Int → Int} {W out a b e a' b' e' i j k k' v : Int} (h : flE (flM c W out) a b e k) (hw : wmQ v a b e a' b' e' i j) (ev : v = c i j) (h0 : 0 ≤ i) (hp : i < j ∧ j < W ∧ ¬ i = out ∧ ¬ j = out) (hj : j < 16) (ek : k = 16 * i + j) (ek' : k' = k + 1) : flE (flM c W out) a' b' e' k' := by
  obtain ⟨h1, h2, h3⟩ := h
  have e0 : k'.toNat = k.toNat + 1 := by omega
  have e1 : ((k.toNat / 16 : Nat) : Int) = i := by omega
  have e2 : ((k.toNat % 16 : Nat) : Int) = j := by omega
  have s : flM c W out (k.toNat + 1) = ci (prB9 W out i j) (ci ((flM c W out k.toNat).1 < 0 ∨ c i j < (flM c W out k.toNat).1) (c i j, 1, 100 * i + j) (ci (c i j = (flM c W out k.toNat).1) ((flM c W out k.toNat).1, (flM c W out k.toNat).2.1 + 1, (flM c W out k.toNat).2.2) (flM c W out k.toNat))) (flM c W out k.toNat) := by
    rw [← e1, ← e2]
    rfl
  have hp' : prB9 W out i j := hp
  rw [ci_pos hp', ← h1, ← h2, ← h3, ← ev] at s
  unfold flE
  rw [e0, s]
  rcases hw with ⟨q, w1, w2, w3⟩ | ⟨q, q2, w1, w2, w3⟩ | ⟨q, q2, w1, w2, w3⟩
  · rw [ci_pos q]
    exact ⟨w1, w2, w3⟩
  · rw [ci_neg q, ci_pos q2]
    exact ⟨w1, w2, w3⟩
  · rw [ci_neg q, ci_neg q2, w1, w2, w3]
    exact ⟨h1, h2, h3⟩
/-- only the least is asked -/
def fl19 (P : Nat → t39) (a k : Int) : Prop := ∃ b e : Int, flE P a b e k
theorem fl1_weighM {c : Int → Int → Int} {W out a a' i j k k' v : Int} (h : fl19 (flM c W out) a k) (hw : ((a < 0 ∨ v < a) ∧ a' = v) ∨ (¬ (a < 0 ∨ v < a) ∧ a' = a)) (ev : v = c i j) (h0 : 0 ≤ i) (hp : i < j ∧ j < W ∧ ¬ i = out ∧ ¬ j = out) (hj : j < 16) (ek : k = 16 * i + j) (ek' : k' = k + 1) : fl19 (flM c W out) a' k' := by
  obtain ⟨b, e, h⟩ := h
  rcases hw with ⟨q, w1⟩ | ⟨q, w1⟩
  · exact ⟨1, 100 * i + j, fl_weighM h (Or.inl ⟨q, w1, rfl, rfl⟩) ev h0 hp hj ek ek'⟩
  · by_cases s : v = a
    · exact ⟨b + 1, e, fl_weighM h (Or.inr (Or.inl ⟨q, s, w1, rfl, rfl⟩)) ev h0 hp hj ek ek'⟩
    · exact ⟨b, e, fl_weighM h (Or.inr (Or.inr ⟨q, s, w1, rfl, rfl⟩)) ev h0 hp hj ek ek'⟩
theorem fl1_in {P : Nat → t39} {W out a i j k k' : Int} (hs : flS P W out) (h : fl19 P a k) (h0 : 0 ≤ i) (h5 : i < 16) (ek : k = 16 * i) (ek' : k' = 16 * i + j) (ej : j = i + 1) : fl19 P a k' := by
  obtain ⟨b, e, h⟩ := h
  exact ⟨b, e, fl_in hs h h0 h5 ek ek' ej⟩
theorem fl1_out {P : Nat → t39} {W out a i j k k' : Int} (hs : flS P W out) (h : fl19 P a k) (h0 : 0 ≤ i) (hj : W ≤ j) (hj0 : 0 ≤ j) (hj5 : j ≤ 16) (ek : k = 16 * i + j) (ek' : k' = 16 * (i + 1)) : fl19 P a k' := by
  obtain ⟨b, e, h⟩ := h
  exact ⟨b, e, fl_out hs h h0 hj hj0 hj5 ek ek'⟩
theorem fl1_skip {P : Nat → t39} {W out a i j k k' : Int} (hs : flS P W out) (h : fl19 P a k) (h0 : 0 ≤ i) (hj0 : 0 ≤ j) (hj : j < 16) (ho : i = out ∨ j = out) (ek : k = 16 * i + j) (ek' : k' = k + 1) : fl19 P a k' := by
  obtain ⟨b, e, h⟩ := h
  exact ⟨b, e, fl_skip hs h h0 hj0 hj ho ek ek'⟩
theorem fl1_end {P : Nat → t39} {a i k W : Int} (h : fl19 P a k) (h0 : 0 ≤ i) (hi : W ≤ i) (hk : i ≤ W ∨ i = 0) (ek : k = 16 * i) : a = (P (16 * W).toNat).1 := by
  obtain ⟨b, e, h⟩ := h
  have q := h.1
  rw [show k.toNat = (16 * W).toNat by omega] at q
  exact q
theorem flE_end {P : Nat → t39} {a b e i k W : Int} (h : flE P a b e k) (h0 : 0 ≤ i) (hi : W ≤ i) (hk : i ≤ W ∨ i = 0) (ek : k = 16 * i) : flE P a b e (16 * W) := by
  unfold flE at h ⊢
  rw [show k.toNat = (16 * W).toNat by omega] at h
  exact h
theorem flE_0 {c : Int → Int → Int} {W out a b e k : Int} {z : t39} (ha : a = z.1) (hb : b = z.2.1) (he : e = z.2.2) (hk : k = 0) : flE (flX c W out z) a b e k := by
  subst hk
  exact ⟨ha, hb, he⟩
theorem flE_0M {c : Int → Int → Int} {W out a b e k : Int} (ha : a = -1) (hb : b = 0) (he : e = 0) (hk : k = 0) : flE (flM c W out) a b e k := by
  subst hk
  exact ⟨ha, hb, he⟩
theorem fl1_0M {c : Int → Int → Int} {W out a k : Int} (ha : a = -1) (hk : k = 0) : fl19 (flM c W out) a k := ⟨0, 0, flE_0M ha rfl rfl hk⟩
/-! what the class remembers of pairs -/
def wlQ (g : Nat → Int64) (f w : Nat → Int32) (S R W i j : Int) : Prop := ∀ a b : Int, 0 ≤ a → a < b → b < W → (a < i ∨ (a = i ∧ b < j)) → g (16 * a + b).toNat = pX9 f w S R a b
theorem wl_0 {g : Nat → Int64} {f w : Nat → Int32} {S R W i j : Int} (hi : i = 0) (hj : j ≤ 0) : wlQ g f w S R W i j := fun a b h0 h1 h2 h3 => by omega
theorem wl_in {g : Nat → Int64} {f w : Nat → Int32} {S R W i j j' : Int} (h : wlQ g f w S R W i j) (hj : j' ≤ i + 1) : wlQ g f w S R W i j' := fun a b h0 h1 h2 h3 => h a b h0 h1 h2 (by omega)
theorem wl_out {g : Nat → Int64} {f w : Nat → Int32} {S R W i j i' j' : Int} (h : wlQ g f w S R W i j) (hj : W ≤ j) (ei : i' = i + 1) (ej : j' ≤ 0) : wlQ g f w S R W i' j' := fun a b h0 h1 h2 h3 => h a b h0 h1 h2 (by omega)
theorem wl_put {g g' : Nat → Int64} {f w : Nat → Int32} {S R W i j j' n : Int} {y : Int64} (h : wlQ g f w S R W i j) (e : g' = vp_updL g n.toNat y) (hn : n = i * 16 + j) (ey : y = pX9 f w S R i j) (h0 : 0 ≤ i) (hj : i < j ∧ j < 16) (hW : W ≤ 16) (ej : j' = j + 1) : wlQ g' f w S R W i j' := by
  intro a b a0 a1 a2 a3
  by_cases q : a = i ∧ b = j
  · rw [e, q.1, q.2, ← ey]
    exact u_eqL (by omega)
  · rw [e, u_neL (by omega)]
    exact h a b a0 a1 a2 (by omega)
def knQ (kn wd : Int) (g : Nat → Int64) (f w : Nat → Int32) (S R W : Int) : Prop := kn = 0 ∨ (wd = W ∧ wlQ g f w S R W W 0)
theorem kn_yes {kn wd : Int} {g : Nat → Int64} {f w : Nat → Int32} {S R W : Int} (h : knQ kn wd g f w S R W) (hk : ¬ kn = 0) : wd = W ∧ wlQ g f w S R W W 0 := h.resolve_left hk
theorem kn_end {kn wd : Int} {g : Nat → Int64} {f w : Nat → Int32} {S R W i j : Int} (h : wlQ g f w S R W i j) (hi : W ≤ i) (ew : wd = W) : wd = W ∧ wlQ g f w S R W W 0 := ⟨ew, fun a b h0 h1 h2 _ => h a b h0 h1 h2 (by omega)⟩
/-! the most power; what leaves most -/
def sqS (x : Nat → Int) : Nat → Int
  | 0 => 0
  | n + 1 => sqS x n + x n * x n
theorem sqS_step {x : Nat → Int} {s s' v k k' : Int} (h : s = sqS x k.toNat) (ev : v = x k.toNat) (h0 : 0 ≤ k) (es : s' = s + v * v) (ek : k' = k + 1) : s' = sqS x k'.toNat := by
  rw [show k'.toNat = k.toNat + 1 by omega]
  show s' = sqS x k.toNat + x k.toNat * x k.toNat
  rw [← h, ← ev, es]
def wP (w : Nat → Int32) (S a : Int) : Int := sqS (fun s => (w (5 * a + (s : Int)).toNat).toInt) S.toNat
noncomputable def mxP (p : Int → Int) : Nat → Int
  | 0 => 0
  | n + 1 => ci (mxP p n < p (n : Int)) (p (n : Int)) (mxP p n)
theorem mx_step {p : Int → Int} {m m' v k k' : Int} (h : m = mxP p k.toNat) (ev : v = p k) (h0 : 0 ≤ k) (hm : (m < v ∧ m' = v) ∨ (¬ m < v ∧ m' = m)) (ek : k' = k + 1) : m' = mxP p k'.toNat := by
  rw [show k'.toNat = k.toNat + 1 by omega]
  show m' = ci (mxP p k.toNat < p ((k.toNat : Nat) : Int)) (p ((k.toNat : Nat) : Int)) (mxP p k.toNat)
  rw [show ((k.toNat : Nat) : Int) = k by omega, ← h, ← ev]
  rcases hm with ⟨q, e⟩ | ⟨q, e⟩
  · rw [ci_pos q, e]
  · rw [ci_neg q, e]
noncomputable def lvP (L : Int → Int) : Nat → Int × Int
  | 0 => (-1, 0)
  | k + 1 => ci ((lvP L k).1 = -1 ∨ (lvP L k).2 < L (k : Int)) ((k : Int), L (k : Int)) (lvP L k)
def lvE (L : Int → Int) (b m k : Int) : Prop := b = (lvP L k.toNat).1 ∧ m = (lvP L k.toNat).2
theorem lv_0 {L : Int → Int} {b m k : Int} (hb : b = -1) (hm : m = 0) (hk : k = 0) : lvE L b m k := by
  subst hk
  exact ⟨hb, hm⟩
theorem lv_step {L : Int → Int} {b m k k' v b' m' : Int} (h : lvE L b m k) (ev : v = L k) (h0 : 0 ≤ k) (hc : ((b = -1 ∨ m < v) ∧ b' = k ∧ m' = v) ∨ (¬ (b = -1 ∨ m < v) ∧ b' = b ∧ m' = m)) (ek : k' = k + 1) : lvE L b' m' k' := by
  obtain ⟨h1, h2⟩ := h
  have e0 : k'.toNat = k.toNat + 1 := by omega
  have s : lvP L (k.toNat + 1) = ci (b = -1 ∨ m < v) (k, v) (lvP L k.toNat) := by
    show ci ((lvP L k.toNat).1 = -1 ∨ (lvP L k.toNat).2 < L ((k.toNat : Nat) : Int)) (((k.toNat : Nat) : Int), L ((k.toNat : Nat) : Int)) (lvP L k.toNat) = _
    rw [show ((k.toNat : Nat) : Int) = k by omega, ← h1, ← h2, ← ev]
  unfold lvE
  rw [e0, s]
  rcases hc with ⟨q, e1, e2⟩ | ⟨q, e1, e2⟩
  · rw [ci_pos q]
    exact ⟨e1, e2⟩
  · rw [ci_neg q, e1, e2]
    exact ⟨h1, h2⟩
/-- the reference begins with the first -/
theorem lv_1 {L : Int → Int} {b k : Int} (hb : b = 0) (hk : k = 1) : lvE L b (L b) k := by
  subst hb
  subst hk
  have s : lvP L 1 = (0, L 0) := by
    show ci ((-1 : Int) = -1 ∨ (0 : Int) < L ((0 : Nat) : Int)) (((0 : Nat) : Int), L ((0 : Nat) : Int)) (-1, 0) = _
    rw [ci_pos (Or.inl rfl)]
    rfl
  unfold lvE
  show 0 = (lvP L 1).1 ∧ L 0 = (lvP L 1).2
  rw [s]
  exact ⟨rfl, rfl⟩
theorem lv_stepM {L : Int → Int} {b k k' v u b' : Int} (h : lvE L b (L b) k) (ev : v = L k) (eu : u = L b) (h0 : 0 ≤ k) (hb : 0 ≤ b) (hc : (u < v ∧ b' = k) ∨ (¬ u < v ∧ b' = b)) (ek : k' = k + 1) : lvE L b' (L b') k' := by
  refine lv_step h ev h0 ?_ ek
  rcases hc with ⟨q, e⟩ | ⟨q, e⟩
  · exact Or.inl ⟨Or.inr (by omega), e, by rw [e, ev]⟩
  · exact Or.inr ⟨by omega, e, by rw [e]⟩
/-! the answers -/
def cdQ (r k W m : Int) (P : t39) : Prop := (k = 3 → (W = 0 → r = -1) ∧ (¬ W = 0 → r = m)) ∧ (¬ k = 3 → ((0 ≤ k ∧ k ≤ 2 ∧ 2 ≤ W) → (k = 0 → r = P.1) ∧ (k = 1 → r = P.2.1) ∧ (k = 2 → r = P.2.2)) ∧ (¬ (0 ≤ k ∧ k ≤ 2 ∧ 2 ≤ W) → r = -1))
theorem cd_no3 {r k W m : Int} {P : t39} (hk : k = 3) (hW : W = 0) (e : r = -1) : cdQ r k W m P := ⟨fun _ => ⟨fun _ => e, fun h => absurd hW h⟩, fun h => absurd hk h⟩
theorem cd_3 {r k W m : Int} {P : t39} (hk : k = 3) (hW : ¬ W = 0) (e : r = m) : cdQ r k W m P := ⟨fun _ => ⟨fun h => absurd h hW, fun _ => e⟩, fun h => absurd hk h⟩
theorem cd_no {r k W m : Int} {P : t39} (hk : ¬ k = 3) (h : ¬ (0 ≤ k ∧ k ≤ 2 ∧ 2 ≤ W)) (e : r = -1) : cdQ r k W m P := ⟨fun h => absurd h hk, fun _ => ⟨fun q => absurd q h, fun _ => e⟩⟩
theorem cd_yes {r k W m a b e : Int} {P : Nat → t39} (f : flE P a b e (16 * W)) (h : 0 ≤ k ∧ k ≤ 2 ∧ 2 ≤ W) (c : (k = 0 ∧ r = a) ∨ (k = 1 ∧ r = b) ∨ (k = 2 ∧ r = e)) : cdQ r k W m (P (16 * W).toNat) := by
  obtain ⟨f1, f2, f3⟩ := f
  refine ⟨fun q => absurd q (by omega), fun _ => ⟨fun _ => ⟨fun q => ?_, fun q => ?_, fun q => ?_⟩, fun q => absurd h q⟩⟩
  · rw [← f1]; omega
  · rw [← f2]; omega
  · rw [← f3]; omega
def lvQ (r k W : Int) (L : Int → Int) : Prop := ((0 ≤ k ∧ k ≤ 1 ∧ 3 ≤ W) → (k = 0 → r = (lvP L W.toNat).1) ∧ (k = 1 → r = (lvP L W.toNat).2)) ∧ (¬ (0 ≤ k ∧ k ≤ 1 ∧ 3 ≤ W) → r = -1)
theorem lq_no {r k W : Int} {L : Int → Int} (h : ¬ (0 ≤ k ∧ k ≤ 1 ∧ 3 ≤ W)) (e : r = -1) : lvQ r k W L := ⟨fun q => absurd q h, fun _ => e⟩
theorem lq_yes {r k W b m x : Int} {L : Int → Int} (f : lvE L b m x) (ex : x = W) (h : 0 ≤ k ∧ k ≤ 1 ∧ 3 ≤ W) (c : (k = 0 ∧ r = b) ∨ (k = 1 ∧ r = m)) : lvQ r k W L := by
  subst ex
  obtain ⟨f1, f2⟩ := f
  refine ⟨fun _ => ⟨fun q => ?_, fun q => ?_⟩, fun q => absurd h q⟩
  · rw [← f1]; omega
  · rw [← f2]; omega
/-! what the loops bring along -/
theorem tx_e {f : Nat → Int32} {k r : Int} {u : Int32} (h : u = f (6 * k + r).toNat) (h0 : 0 ≤ k) : u = tX9 f r k.toNat := by
  show u = f (6 * ((k.toNat : Nat) : Int) + r).toNat
  rw [show ((k.toNat : Nat) : Int) = k by omega]
  exact h
theorem tm_e {g : Nat → Int32} {k r i : Int} {u : Int32} (h : u = g i.toNat) (e : i = 5 * r + k) (h0 : 0 ≤ k) : u = tM9 g r k.toNat := by
  show u = g (5 * r + ((k.toNat : Nat) : Int)).toNat
  rw [show ((k.toNat : Nat) : Int) = k by omega, ← e]
  exact h
theorem wo_ev {f d w : Nat → Int32} {S k a b k9 : Int} {v : Int32} (h : v = sW (tX9 f k) d S.toNat) (hd : dfQ d w a b k9) (hk : S ≤ k9 ∨ S ≤ 0) (h0 : 0 ≤ k) : v = (fun r : Nat => sW (tX9 f (r : Int)) (wD w a b) S.toNat) k.toNat := by
  show v = sW (tX9 f ((k.toNat : Nat) : Int)) (wD w a b) S.toNat
  rw [show ((k.toNat : Nat) : Int) = k by omega]
  exact h.trans (df_to hd hk _)
theorem sl_ev {g d : Nat → Int32} {S k : Int} {v z : Int32} (ez : z = (0 : Int32) - v) (h : v = sW (tM9 g k) d S.toNat) (h0 : 0 ≤ k) : z = (fun r : Nat => (0 : Int32) - sW (tM9 g (r : Int)) d S.toNat) k.toNat := by
  show z = (0 : Int32) - sW (tM9 g ((k.toNat : Nat) : Int)) d S.toNat
  rw [show ((k.toNat : Nat) : Int) = k by omega, ← h, ez]
theorem pM_of {g d w : Nat → Int32} {S R a b k : Int} {y : Int64} (h : y = qW (fun r : Nat => (0 : Int32) - sW (tM9 g (r : Int)) d S.toNat) R.toNat) (hd : dfQ d w a b k) (hk : S ≤ k ∨ S ≤ 0) : y = pM9 g w S R a b := by
  rw [h]
  refine qW_congr _ (fun r _ => ?_)
  show ((0 : Int32) - sW (tM9 g (r : Int)) d S.toNat).toInt64 * ((0 : Int32) - sW (tM9 g (r : Int)) d S.toNat).toInt64 = ((0 : Int32) - sW (tM9 g (r : Int)) (wD w a b) S.toNat).toInt64 * ((0 : Int32) - sW (tM9 g (r : Int)) (wD w a b) S.toNat).toInt64
  rw [df_to hd hk]
def wrC (g : Nat → Int64) (i j : Int) : Int := (g (16 * i + j).toNat).toInt
theorem wr_e {g : Nat → Int64} {i a b : Int} {y : Int64} (h : y = g i.toNat) (e : i = 16 * a + b) : wrC g a b = y.toInt := by
  unfold wrC
  rw [h, e]
theorem flX_congr {c c' : Int → Int → Int} {W out : Int} {z : t39} (h : ∀ i j : Int, 0 ≤ i → i < j → j < W → c i j = c' i j) : ∀ k : Nat, flX c W out z k = flX c' W out z k
  | 0 => rfl
  | k + 1 => by
    have ih := flX_congr (out := out) (z := z) h k
    by_cases p : prB9 W out ((k / 16 : Nat) : Int) ((k % 16 : Nat) : Int)
    · have e := h ((k / 16 : Nat) : Int) ((k % 16 : Nat) : Int) (by omega) p.1 p.2.1
      show ci _ (ci (c ((k / 16 : Nat) : Int) ((k % 16 : Nat) : Int) < _) (c ((k / 16 : Nat) : Int) ((k % 16 : Nat) : Int), 1, _) (ci (c ((k / 16 : Nat) : Int) ((k % 16 : Nat) : Int) = _) _ _)) _ = ci _ (ci (c' ((k / 16 : Nat) : Int) ((k % 16 : Nat) : Int) < _) (c' ((k / 16 : Nat) : Int) ((k % 16 : Nat) : Int), 1, _) (ci (c' ((k / 16 : Nat) : Int) ((k % 16 : Nat) : Int) = _) _ _)) _
      rw [e, ih]
    · have e1 : flX c W out z (k + 1) = flX c W out z k := by
        show ci _ _ _ = _
        exact ci_neg p
      have e2 : flX c' W out z (k + 1) = flX c' W out z k := by
        show ci _ _ _ = _
        exact ci_neg p
      rw [e1, e2, ih]
theorem fl_kn {g : Nat → Int64} {f w : Nat → Int32} {S R W wd out out' a b e : Int} {z : t39} (h : flE (flX (wrC g) wd out z) a b e (16 * wd)) (q : wd = W ∧ wlQ g f w S R W W 0) (eo : out = out') : flE (flX (fun i j => (pX9 f w S R i j).toInt) W out' z) a b e (16 * W) := by
  obtain ⟨q1, q2⟩ := q
  subst q1
  subst eo
  unfold flE at h ⊢
  rw [flX_congr (c := wrC g) (c' := fun i j => (pX9 f w S R i j).toInt) (fun i j h0 h1 h2 => congrArg Int64.toInt (q2 i j h0 h1 h2 (Or.inl (by omega))))] at h
  exact h
theorem flX_12 {c : Int → Int → Int} {W out x f0 f1 : Int} : ∀ k : Nat, (flX c W out (x, 0, f0) k).1 = (flX c W out (x, 0, f1) k).1 ∧ (flX c W out (x, 0, f0) k).2.1 = (flX c W out (x, 0, f1) k).2.1
  | 0 => ⟨rfl, rfl⟩
  | k + 1 => by
    obtain ⟨i1, i2⟩ := flX_12 (c := c) (W := W) (out := out) (x := x) (f0 := f0) (f1 := f1) k
    by_cases p : prB9 W out ((k / 16 : Nat) : Int) ((k % 16 : Nat) : Int)
    · by_cases q : c ((k / 16 : Nat) : Int) ((k % 16 : Nat) : Int) < (flX c W out (x, 0, f0) k).1
      · have e : ∀ y : Int, c ((k / 16 : Nat) : Int) ((k % 16 : Nat) : Int) < (flX c W out (x, 0, y) k).1 → flX c W out (x, 0, y) (k + 1) = (c ((k / 16 : Nat) : Int) ((k % 16 : Nat) : Int), 1, 100 * ((k / 16 : Nat) : Int) + ((k % 16 : Nat) : Int)) := fun y hy => by
          show ci _ _ _ = _
          rw [ci_pos p]
          exact ci_pos hy
        rw [e f0 q, e f1 (by rw [← i1]; exact q)]
        exact ⟨rfl, rfl⟩
      · by_cases r : c ((k / 16 : Nat) : Int) ((k % 16 : Nat) : Int) = (flX c W out (x, 0, f0) k).1
        · have e : ∀ y : Int, ¬ c ((k / 16 : Nat) : Int) ((k % 16 : Nat) : Int) < (flX c W out (x, 0, y) k).1 → c ((k / 16 : Nat) : Int) ((k % 16 : Nat) : Int) = (flX c W out (x, 0, y) k).1 → flX c W out (x, 0, y) (k + 1) = ((flX c W out (x, 0, y) k).1, (flX c W out (x, 0, y) k).2.1 + 1, (flX c W out (x, 0, y) k).2.2) := fun y h1 h2 => by
            show ci _ _ _ = _
            rw [ci_pos p, ci_neg h1]
            exact ci_pos h2
          rw [e f0 q r, e f1 (by rw [← i1]; exact q) (by rw [← i1]; exact r)]
          exact ⟨i1, by show _ + 1 = _ + 1; rw [i2]⟩
        · have e : ∀ y : Int, ¬ c ((k / 16 : Nat) : Int) ((k % 16 : Nat) : Int) < (flX c W out (x, 0, y) k).1 → ¬ c ((k / 16 : Nat) : Int) ((k % 16 : Nat) : Int) = (flX c W out (x, 0, y) k).1 → flX c W out (x, 0, y) (k + 1) = flX c W out (x, 0, y) k := fun y h1 h2 => by
            show ci _ _ _ = _
            rw [ci_pos p, ci_neg h1]
            exact ci_neg h2
          rw [e f0 q r, e f1 (by rw [← i1]; exact q) (by rw [← i1]; exact r)]
          exact ⟨i1, i2⟩
    · have e : ∀ y : Int, flX c W out (x, 0, y) (k + 1) = flX c W out (x, 0, y) k := fun y => by
        show ci _ _ _ = _
        exact ci_neg p
      rw [e f0, e f1]
      exact ⟨i1, i2⟩
noncomputable def lvX (f w : Nat → Int32) (S R W : Int) (x : Int) : Int := (flX (fun i j => (pX9 f w S R i j).toInt) W x (1000000000000000, 0, 0) (16 * W).toNat).1
noncomputable def lvM (g w : Nat → Int32) (S R W : Int) (x : Int) : Int := (flM (fun i j => (pM9 g w S R i j).toInt) W x (16 * W).toNat).1
theorem lv_kn {g : Nat → Int64} {f w : Nat → Int32} {S R W wd out a b e f0 : Int} (h : flE (flX (wrC g) wd out (1000000000000000, 0, f0)) a b e (16 * wd)) (q : wd = W ∧ wlQ g f w S R W W 0) : a = lvX f w S R W out := by
  have k := fl_kn h q rfl
  exact k.1.trans (flX_12 _).1
theorem wS_e {w : Nat → Int32} {a k v : Int} (h : v = (w (ixW a k).toNat).toInt) (h0 : 0 ≤ k) : v = (fun s : Nat => (w (5 * a + (s : Int)).toNat).toInt) k.toNat := by
  show v = (w (5 * a + ((k.toNat : Nat) : Int)).toNat).toInt
  rw [show ((k.toNat : Nat) : Int) = k by omega]
  exact h
theorem sqS_two {x : Nat → Int} {s s' v u z k k' : Int} (h : s = sqS x k.toNat) (ev : v = x k.toNat) (eu : u = x k.toNat) (ez : z = v * u) (es : s' = s + z) (h0 : 0 ≤ k) (ek : k' = k + 1) : s' = sqS x k'.toNat := sqS_step h ev h0 (by rw [es, ez, eu, ev]) ek
theorem wS_m {w : Nat → Int32} {a k i : Int} {v : Int32} (h : v = w i.toNat) (e : i = 5 * a + k) (h0 : 0 ≤ k) : v.toInt = (fun s : Nat => (w (5 * a + (s : Int)).toNat).toInt) k.toNat := by
  show v.toInt = (w (5 * a + ((k.toNat : Nat) : Int)).toNat).toInt
  rw [show ((k.toNat : Nat) : Int) = k by omega, ← e, h]
end
