/-! how alike two columns are; the most alike; all squares -/
theorem i64q (x : Int32) : x.toInt64.toInt = x.toInt := by
  first
    | exact Int32.toInt_toInt64 x
    | simp
def clF (p q1 q2 : Int32) : Int32 := if q1.toInt64 * q2.toInt64 = 0 then 0 else (1000 * p.toInt64 * p.toInt64 / (q1.toInt64 * q2.toInt64)).toInt32
theorem i64_of {P : Int64} {p : Int32} (h : P.toInt = p.toInt) : P = p.toInt64 := Int64.toInt_inj.mp (h.trans (i64q p).symm)
theorem cl_yes {p q1 q2 r : Int32} {P Q1 Q2 A AP SQ Z : Int64} (eP : P.toInt = p.toInt) (e1 : Q1.toInt = q1.toInt) (e2 : Q2.toInt = q2.toInt) (eA : A.toInt = 1000 * P.toInt) (eAP : AP = A * P) (eS : SQ = Q1 * Q2) (hS : ¬ SQ.toInt = 0) (eZ : Z = AP / SQ) (er : r = Z.toInt32) : r = clF p q1 q2 := by
  have hb := n_rng p
  have hA : A = 1000 * p.toInt64 := Int64.toInt_inj.mp (by
    rw [n_mulL (show (1000 : Int64).toInt = 1000 by decide +kernel) (i64q p) (by omega) (by omega), eA, eP])
  have hP := i64_of eP
  have h1 := i64_of e1
  have h2 := i64_of e2
  have hn : ¬ q1.toInt64 * q2.toInt64 = 0 := fun h => hS (by rw [eS, h1, h2, h]; decide +kernel)
  unfold clF
  rw [if_neg hn, er, eZ, eAP, eS, hA, hP, h1, h2]
theorem cl_no {p q1 q2 r : Int32} {Q1 Q2 SQ : Int64} (e1 : Q1.toInt = q1.toInt) (e2 : Q2.toInt = q2.toInt) (eS : SQ = Q1 * Q2) (hS : SQ.toInt = 0) (er : r = 0) : r = clF p q1 q2 := by
  have hz : q1.toInt64 * q2.toInt64 = 0 := by
    rw [← i64_of e1, ← i64_of e2, ← eS]
    exact Int64.toInt_inj.mp (hS.trans (show (0 : Int) = (0 : Int64).toInt by decide +kernel))
  unfold clF
  rw [if_pos hz, er]
theorem cl_noM {p q1 q2 r : Int32} {Q1 Q2 : Int64} (e1 : Q1.toInt = q1.toInt) (e2 : Q2.toInt = q2.toInt) (h : Q1.toInt = 0 ∨ Q2.toInt = 0) (er : r = 0) : r = clF p q1 q2 := by
  have hz : q1.toInt64 * q2.toInt64 = 0 := by
    rw [← i64_of e1, ← i64_of e2]
    rcases h with h | h
    · rw [show Q1 = 0 from Int64.toInt_inj.mp (h.trans (show (0 : Int) = (0 : Int64).toInt by decide +kernel)), Int64.zero_mul]
    · rw [show Q2 = 0 from Int64.toInt_inj.mp (h.trans (show (0 : Int) = (0 : Int64).toInt by decide +kernel)), Int64.mul_zero]
  unfold clF
  rw [if_pos hz, er]
def clT (f : Nat → Int32) (i j : Int) : Int := (clF (dw f i j 6) (dw f i i 6) (dw f j j 6)).toInt
def clM (g : Nat → Int32) (R i j : Int) : Int := (clF (prn g i j R.toNat) (prn g i i R.toNat) (prn g j j R.toNat)).toInt
def wsP (c : Int → Int → Int) (S : Int) : Nat → Int × Int
  | 0 => (-1, -1)
  | k + 1 => if ((k / 5 : Nat) : Int) < ((k % 5 : Nat) : Int) ∧ ((k % 5 : Nat) : Int) < S ∧ (wsP c S k).2 < c ((k / 5 : Nat) : Int) ((k % 5 : Nat) : Int) then (100 * ((k / 5 : Nat) : Int) + ((k % 5 : Nat) : Int), c ((k / 5 : Nat) : Int) ((k % 5 : Nat) : Int)) else wsP c S k
theorem ws_skip {c : Int → Int → Int} {S : Int} {a : Nat} : ∀ d : Nat, (∀ k : Nat, a ≤ k → k < a + d → ¬ (((k / 5 : Nat) : Int) < ((k % 5 : Nat) : Int) ∧ ((k % 5 : Nat) : Int) < S)) → wsP c S (a + d) = wsP c S a
  | 0, _ => rfl
  | d + 1, h => by
    have q := h (a + d) (by omega) (by omega)
    show (if (((a + d) / 5 : Nat) : Int) < (((a + d) % 5 : Nat) : Int) ∧ (((a + d) % 5 : Nat) : Int) < S ∧ (wsP c S (a + d)).2 < c (((a + d) / 5 : Nat) : Int) (((a + d) % 5 : Nat) : Int) then (100 * (((a + d) / 5 : Nat) : Int) + (((a + d) % 5 : Nat) : Int), c (((a + d) / 5 : Nat) : Int) (((a + d) % 5 : Nat) : Int)) else wsP c S (a + d)) = wsP c S a
    rw [if_neg (fun z => q ⟨z.1, z.2.1⟩)]
    exact ws_skip d (fun k h1 h2 => h k h1 (by omega))
theorem ws_congr {c c' : Int → Int → Int} {S : Int} (h : ∀ i j : Int, 0 ≤ i → i < j → j < S → c i j = c' i j) : ∀ k : Nat, wsP c S k = wsP c' S k
  | 0 => rfl
  | k + 1 => by
    have ih := ws_congr h k
    show (if ((k / 5 : Nat) : Int) < ((k % 5 : Nat) : Int) ∧ ((k % 5 : Nat) : Int) < S ∧ (wsP c S k).2 < c ((k / 5 : Nat) : Int) ((k % 5 : Nat) : Int) then (100 * ((k / 5 : Nat) : Int) + ((k % 5 : Nat) : Int), c ((k / 5 : Nat) : Int) ((k % 5 : Nat) : Int)) else wsP c S k) = (if ((k / 5 : Nat) : Int) < ((k % 5 : Nat) : Int) ∧ ((k % 5 : Nat) : Int) < S ∧ (wsP c' S k).2 < c' ((k / 5 : Nat) : Int) ((k % 5 : Nat) : Int) then (100 * ((k / 5 : Nat) : Int) + ((k % 5 : Nat) : Int), c' ((k / 5 : Nat) : Int) ((k % 5 : Nat) : Int)) else wsP c' S k)
    rw [ih]
    by_cases q : ((k / 5 : Nat) : Int) < ((k % 5 : Nat) : Int) ∧ ((k % 5 : Nat) : Int) < S
    · rw [h _ _ (by omega) q.1 q.2]
    · rw [if_neg (fun z => q ⟨z.1, z.2.1⟩), if_neg (fun z => q ⟨z.1, z.2.1⟩)]
def wsE (b m : Int) (c : Int → Int → Int) (S k : Int) : Prop := b = (wsP c S k.toNat).1 ∧ m = (wsP c S k.toNat).2
theorem ws_0 {b m S k : Int} {c : Int → Int → Int} (hb : b = -1) (hm : m = -1) (hk : k = 0) : wsE b m c S k := by
  subst hk
  exact ⟨hb, hm⟩
theorem ws_to {b m S k k' : Int} {c : Int → Int → Int} (h : wsE b m c S k) (h0 : 0 ≤ k) (hk : k ≤ k') (n : ∀ x : Nat, k ≤ (x : Int) → (x : Int) < k' → ¬ (((x / 5 : Nat) : Int) < ((x % 5 : Nat) : Int) ∧ ((x % 5 : Nat) : Int) < S)) : wsE b m c S k' := by
  have e : k'.toNat = k.toNat + (k' - k).toNat := by omega
  unfold wsE
  rw [e, ws_skip _ (fun x h1 h2 => n x (by omega) (by omega))]
  exact h
theorem ws_in {b m S i j k k' : Int} {c : Int → Int → Int} (h : wsE b m c S k) (h0 : 0 ≤ i) (h5 : i < 5) (ek : k = 5 * i) (ek' : k' = 5 * i + j) (ej : j = i + 1) : wsE b m c S k' := ws_to h (by omega) (by omega) (fun x h1 h2 => by omega)
theorem ws_out {b m S i j k k' : Int} {c : Int → Int → Int} (h : wsE b m c S k) (h0 : 0 ≤ i) (hj : S ≤ j) (hj0 : 0 ≤ j) (hj5 : j ≤ 5) (ek : k = 5 * i + j) (ek' : k' = 5 * (i + 1)) : wsE b m c S k' := ws_to h (by omega) (by omega) (fun x h1 h2 => by omega)
theorem ws_yes {b m S i j k k' v b' : Int} {c : Int → Int → Int} (h : wsE b m c S k) (h0 : 0 ≤ i) (hij : i < j) (hj : j < S) (hS : S ≤ 5) (ev : v = c i j) (hm : m < v) (eb : b' = 100 * i + j) (ek : k = 5 * i + j) (ek' : k' = k + 1) : wsE b' v c S k' := by
  obtain ⟨h1, h2⟩ := h
  have e : k'.toNat = k.toNat + 1 := by omega
  have e1 : ((k.toNat / 5 : Nat) : Int) = i := by omega
  have e2 : ((k.toNat % 5 : Nat) : Int) = j := by omega
  have q : wsP c S (k.toNat + 1) = (100 * i + j, c i j) := by
    show (if ((k.toNat / 5 : Nat) : Int) < ((k.toNat % 5 : Nat) : Int) ∧ ((k.toNat % 5 : Nat) : Int) < S ∧ (wsP c S k.toNat).2 < c ((k.toNat / 5 : Nat) : Int) ((k.toNat % 5 : Nat) : Int) then (100 * ((k.toNat / 5 : Nat) : Int) + ((k.toNat % 5 : Nat) : Int), c ((k.toNat / 5 : Nat) : Int) ((k.toNat % 5 : Nat) : Int)) else wsP c S k.toNat) = _
    rw [e1, e2, if_pos ⟨hij, hj, by rw [← h2, ← ev]; exact hm⟩]
  unfold wsE
  rw [e, q]
  exact ⟨eb, ev⟩
theorem ws_no {b m S i j k k' v : Int} {c : Int → Int → Int} (h : wsE b m c S k) (h0 : 0 ≤ i) (hij : i < j) (hj : j < S) (hS : S ≤ 5) (ev : v = c i j) (hm : v ≤ m) (ek : k = 5 * i + j) (ek' : k' = k + 1) : wsE b m c S k' := by
  obtain ⟨h1, h2⟩ := h
  have e : k'.toNat = k.toNat + 1 := by omega
  have e1 : ((k.toNat / 5 : Nat) : Int) = i := by omega
  have e2 : ((k.toNat % 5 : Nat) : Int) = j := by omega
  have q : wsP c S (k.toNat + 1) = wsP c S k.toNat := by
    show (if ((k.toNat / 5 : Nat) : Int) < ((k.toNat % 5 : Nat) : Int) ∧ ((k.toNat % 5 : Nat) : Int) < S ∧ (wsP c S k.toNat).2 < c ((k.toNat / 5 : Nat) : Int) ((k.toNat % 5 : Nat) : Int) then (100 * ((k.toNat / 5 : Nat) : Int) + ((k.toNat % 5 : Nat) : Int), c ((k.toNat / 5 : Nat) : Int) ((k.toNat % 5 : Nat) : Int)) else wsP c S k.toNat) = _
    rw [e1, e2, if_neg (fun z => by have z3 := z.2.2; rw [← h2, ← ev] at z3; omega)]
  unfold wsE
  rw [e, q]
  exact ⟨h1, h2⟩
def wsW (c : Int → Int → Int) (S : Int) : Int := (wsP c S (5 * S).toNat).1
theorem ws_end {b m S i k : Int} {c : Int → Int → Int} (h : wsE b m c S k) (h0 : 0 ≤ i) (hi : S ≤ i) (hk : i ≤ S ∨ i = 0) (ek : k = 5 * i) : b = wsW c S := by
  have e : k.toNat = (5 * S).toNat := by omega
  unfold wsW
  rw [← e]
  exact h.1
theorem ws_eq {c c' : Int → Int → Int} {S : Int} (h : ∀ i j : Int, 0 ≤ i → i < j → j < S → c i j = c' i j) : wsW c S = wsW c' S := by
  unfold wsW
  rw [ws_congr h]
def sqT (f : Nat → Int32) : Nat → Int
  | 0 => 0
  | n + 1 => sqT f n + (dw f (n : Int) (n : Int) 6).toInt
theorem sqT_step {f : Nat → Int32} {s s' v k k' : Int} (h : s = sqT f k.toNat) (ev : v = (dw f k k 6).toInt) (h0 : 0 ≤ k) (es : s' = s + v) (ek : k' = k + 1) : s' = sqT f k'.toNat := by
  rw [show k'.toNat = k.toNat + 1 by omega]
  show s' = sqT f k.toNat + (dw f ((k.toNat : Nat) : Int) ((k.toNat : Nat) : Int) 6).toInt
  rw [show ((k.toNat : Nat) : Int) = k by omega, ← h, ← ev, es]
def sqM (g : Nat → Int32) (R : Int) : Nat → Int
  | 0 => 0
  | n + 1 => sqM g R n + (prn g (n : Int) (n : Int) R.toNat).toInt
theorem sqM_step {g : Nat → Int32} {R s s' v k k' : Int} (h : s = sqM g R k.toNat) (ev : v = (prn g k k R.toNat).toInt) (h0 : 0 ≤ k) (es : s' = s + v) (ek : k' = k + 1) : s' = sqM g R k'.toNat := by
  rw [show k'.toNat = k.toNat + 1 by omega]
  show s' = sqM g R k.toNat + (prn g ((k.toNat : Nat) : Int) ((k.toNat : Nat) : Int) R.toNat).toInt
  rw [show ((k.toNat : Nat) : Int) = k by omega, ← h, ← ev, es]
theorem sq_eq {f g : Nat → Int32} {R S : Int} (e : ∀ k : Int, 0 ≤ k → k ≤ 4 → dw f k k 6 = prn g k k R.toNat) (z : ∀ k : Int, 0 ≤ k → S ≤ k → k ≤ 4 → dw f k k 6 = 0) : ∀ n : Nat, n ≤ 5 → sqT f n = sqM g R (if (n : Int) ≤ S then n else S.toNat)
  | 0, _ => by
    by_cases c : ((0 : Nat) : Int) ≤ S
    · rw [if_pos c]; rfl
    · rw [if_neg c, show S.toNat = 0 by omega]; rfl
  | n + 1, h => by
    have ih := sq_eq e z n (by omega)
    show sqT f n + (dw f (n : Int) (n : Int) 6).toInt = _
    by_cases c : ((n + 1 : Nat) : Int) ≤ S
    · rw [if_pos c, ih, if_pos (by omega), e (n : Int) (by omega) (by omega)]
      rfl
    · rw [if_neg c, ih, z (n : Int) (by omega) (by omega) (by omega), show (0 : Int32).toInt = 0 by decide +kernel, Int.add_zero]
      by_cases d : (n : Int) ≤ S
      · rw [if_pos d, show n = S.toNat by omega]
      · rw [if_neg d]
/-! columns of nothing beyond the senders -/
def zC (G : Nat → Int32) (S : Int) : Prop := ∀ r s : Int, 0 ≤ r → r < 6 → 0 ≤ s → S ≤ s → s ≤ 4 → G (5 * r + s).toNat = 0
theorem zC_stp {G G' : Nat → Int32} {n S i j : Int} {t : Int32} (z : zC G S) (h : stp G G' n S i j t) : zC G' S := fun r s h0 h1 h2 h3 h4 => by
  obtain ⟨b, _, _, _, g⟩ := h
  rw [g.2 _ (fun k hk => by omega)]
  exact z r s h0 h1 h2 h3 h4
theorem zC_X {T f g : Nat → Int32} {S o u r d : Int} (x : XOK T f g S o u r d) (z : zC (trT T) S) : ∀ s : Int, 0 ≤ s → S ≤ s → s ≤ 4 → dw f s s 6 = 0 := by
  obtain ⟨hb, t1, t2, t39, ⟨G, g1, g2, g3⟩, _⟩ := x
  have zk : ∀ k : Nat, (k : Int) ≤ d + r → zC (G k) S := by
    intro k
    induction k with
    | zero => intro _; rw [← g1, nm_tr]; exact z
    | succ k ih => intro hk; exact zC_stp (ih (by omega)) (g3 k (by omega))
  have zf := zk d.toNat (by omega)
  rw [← g2, nm_tr] at zf
  intro s h0 h1 h4
  have key : ∀ n : Nat, n ≤ 6 → dw f s s n = 0 := by
    intro n
    induction n with
    | zero => intro _; rfl
    | succ n ih =>
      intro hn
      have q := zf (n : Int) s (by omega) (by omega) h0 h1 h4
      rw [tr_at (by omega) ⟨h0, h4⟩] at q
      show dw f s s n + f (6 * s + (n : Int)).toNat * f (6 * s + (n : Int)).toNat = 0
      rw [ih (by omega), q, Int32.zero_mul, Int32.add_zero]
  exact key 6 (Nat.le_refl 6)
theorem pl_zC {f w f' w' : Nat → Int32} {lim lim' wt S R : Int} (pe : plE f w lim f' w' lim' wt S R) : zC (trT f) S := fun r s h0 h1 h2 h3 h4 => by
  rw [tr_at (by omega) (by omega)]
  exact Int32.toInt_inj.mp ((pe.2.2.2 r s h0 h1 h2 (by omega) (Or.inr h3)).trans (show (0 : Int) = (0 : Int32).toInt by decide +kernel))
theorem zC_h {f : Nat → Int32} {S : Int} (z : zC (trT f) S) : ∀ s : Int, 0 ≤ s → S ≤ s → s ≤ 4 → dw f s s 6 = 0 := by
  intro s h0 h1 h4
  have key : ∀ n : Nat, n ≤ 6 → dw f s s n = 0 := by
    intro n
    induction n with
    | zero => intro _; rfl
    | succ n ih =>
      intro hn
      have q := z (n : Int) s (by omega) (by omega) h0 h1 h4
      rw [tr_at (by omega) ⟨h0, h4⟩] at q
      show dw f s s n + f (6 * s + (n : Int)).toNat * f (6 * s + (n : Int)).toNat = 0
      rw [ih (by omega), q, Int32.zero_mul, Int32.add_zero]
  exact key 6 (Nat.le_refl 6)
def clP (a b S : Int) : Prop := (0 ≤ a ∧ a < S) ∧ (0 ≤ b ∧ b < S) ∧ ¬ a = b
theorem ca_eq {T w T' w' f g f' to_ by_ ti : Nat → Int32} {lim lim' wt S R S' S2 R2 o u r d st r' y1 y2 l l' res res' z : Int} (pe : plE T w lim T' w' lim' wt S R) (x : XOK T f g S' o u r d) (m : MOK T' f' to_ by_ ti R2 S2 st r') (a : cvQ res (clP y1 y2 S) l (clT f y1 y2) (clT T y1 y2) z) (b : cvQ res' (clP y1 y2 S2) l' (clM f' R2 y1 y2) (clM T' R2 y1 y2) z) (e1 : S' = S2) (e2 : S2 = S) (e3 : R2 = R) (hR : 0 ≤ R ∧ R ≤ 6) (hS : S ≤ 5) (ed : d = st) (h0 : 0 ≤ r') (hl : l = 0 ↔ l' = 0) : res = res' := by
  subst e2
  subst e3
  have d1 : ∀ i j : Int, 0 ≤ i → i ≤ 4 → 0 ≤ j → j ≤ 4 → dw f i j 6 = prn f' i j R2.toNat := fun i j a1 a2 a3 a4 => dwl_eq pe x m e1 rfl hR ed h0 ⟨a1, a2⟩ ⟨a3, a4⟩
  have d2 : ∀ i j : Int, 0 ≤ i → i ≤ 4 → 0 ≤ j → j ≤ 4 → dw T i j 6 = prn T' i j R2.toNat := fun i j a1 a2 a3 a4 => dwh_eq pe hR ⟨a1, a2⟩ ⟨a3, a4⟩
  refine cv_eq a b Iff.rfl hl (fun h => ?_) (fun h => ?_) rfl
  · unfold clP at h
    unfold clT clM
    rw [d1 y1 y2 (by omega) (by omega) (by omega) (by omega), d1 y1 y1 (by omega) (by omega) (by omega) (by omega), d1 y2 y2 (by omega) (by omega) (by omega) (by omega)]
  · unfold clP at h
    unfold clT clM
    rw [d2 y1 y2 (by omega) (by omega) (by omega) (by omega), d2 y1 y1 (by omega) (by omega) (by omega) (by omega), d2 y2 y2 (by omega) (by omega) (by omega) (by omega)]
theorem wo9_eq {T w T' w' f g f' to_ by_ ti : Nat → Int32} {lim lim' wt S R S' S2 R2 o u r d st r' l l' res res' z : Int} (pe : plE T w lim T' w' lim' wt S R) (x : XOK T f g S' o u r d) (m : MOK T' f' to_ by_ ti R2 S2 st r') (a : cvQ res True l (wsW (clT f) S) (wsW (clT T) S) z) (b : cvQ res' True l' (wsW (clM f' R2) S2) (wsW (clM T' R2) S2) z) (e1 : S' = S2) (e2 : S2 = S) (e3 : R2 = R) (hR : 0 ≤ R ∧ R ≤ 6) (hS : S ≤ 5) (ed : d = st) (h0 : 0 ≤ r') (hl : l = 0 ↔ l' = 0) : res = res' := by
  subst e2
  subst e3
  have d1 : ∀ i j : Int, 0 ≤ i → i ≤ 4 → 0 ≤ j → j ≤ 4 → dw f i j 6 = prn f' i j R2.toNat := fun i j a1 a2 a3 a4 => dwl_eq pe x m e1 rfl hR ed h0 ⟨a1, a2⟩ ⟨a3, a4⟩
  have d2 : ∀ i j : Int, 0 ≤ i → i ≤ 4 → 0 ≤ j → j ≤ 4 → dw T i j 6 = prn T' i j R2.toNat := fun i j a1 a2 a3 a4 => dwh_eq pe hR ⟨a1, a2⟩ ⟨a3, a4⟩
  refine cv_eq a b Iff.rfl hl (fun _ => ws_eq (fun i j i0 ij j5 => ?_)) (fun _ => ws_eq (fun i j i0 ij j5 => ?_)) rfl
  · unfold clT clM
    rw [d1 i j (by omega) (by omega) (by omega) (by omega), d1 i i (by omega) (by omega) (by omega) (by omega), d1 j j (by omega) (by omega) (by omega) (by omega)]
  · unfold clT clM
    rw [d2 i j (by omega) (by omega) (by omega) (by omega), d2 i i (by omega) (by omega) (by omega) (by omega), d2 j j (by omega) (by omega) (by omega) (by omega)]
theorem sq9_eq {T w T' w' f g f' to_ by_ ti : Nat → Int32} {lim lim' wt S R S' S2 R2 o u r d st r' l l' res res' z : Int} (pe : plE T w lim T' w' lim' wt S R) (x : XOK T f g S' o u r d) (m : MOK T' f' to_ by_ ti R2 S2 st r') (a : cvQ res True l (sqT f 5) (sqT T 5) z) (b : cvQ res' True l' (sqM f' R2 S2.toNat) (sqM T' R2 S2.toNat) z) (e1 : S' = S2) (e2 : S2 = S) (e3 : R2 = R) (hR : 0 ≤ R ∧ R ≤ 6) (hS : S ≤ 5) (ed : d = st) (h0 : 0 ≤ r') (hl : l = 0 ↔ l' = 0) : res = res' := by
  subst e1
  subst e2
  subst e3
  have fin : ∀ F G : Nat → Int32, (∀ k : Int, 0 ≤ k → k ≤ 4 → dw F k k 6 = prn G k k R2.toNat) → (∀ k : Int, 0 ≤ k → S' ≤ k → k ≤ 4 → dw F k k 6 = 0) → sqT F 5 = sqM G R2 S'.toNat := fun F G q1 q2 => by
    rw [sq_eq q1 q2 5 (Nat.le_refl 5)]
    by_cases c : ((5 : Nat) : Int) ≤ S'
    · rw [if_pos c, show S'.toNat = 5 by omega]
    · rw [if_neg c]
  refine cv_eq a b Iff.rfl hl (fun _ => fin f f' (fun k a1 a2 => dwl_eq pe x m rfl rfl hR ed h0 ⟨a1, a2⟩ ⟨a1, a2⟩) (zC_X x (pl_zC pe))) (fun _ => fin T T' (fun k a1 a2 => dwh_eq pe hR ⟨a1, a2⟩ ⟨a1, a2⟩) (zC_h (pl_zC pe))) rfl
