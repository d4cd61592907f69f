/-! the text of a house as an automaton reads it: t i the byte at i, -1 outside -/
noncomputable def ci {α : Type} (p : Prop) (a b : α) : α := @ite α p (Classical.propDecidable p) a b
theorem ci_pos {α : Type} {p : Prop} {a b : α} (h : p) : ci p a b = a := @if_pos p (Classical.propDecidable p) h α a b
theorem ci_neg {α : Type} {p : Prop} {a b : α} (h : ¬ p) : ci p a b = b := @if_neg p (Classical.propDecidable p) h α a b
def isBl (c : Int) : Prop := c = 10 ∨ c = 32
def isSm (c : Int) : Prop := 97 ≤ c ∧ c ≤ 122
def isDg (c : Int) : Prop := 48 ≤ c ∧ c ≤ 57
noncomputable def sk (t : Int → Int) : Nat → Int → Int
  | 0, p => p
  | k + 1, p => ci (isBl (t p)) (sk t k (p + 1)) p
noncomputable def skp (t : Int → Int) (p : Int) : Int := sk t 1700 p
theorem sk_at {t : Int → Int} : ∀ (k : Nat) {p q : Int}, p ≤ q → q - p ≤ (k : Int) → (∀ j, p ≤ j → j < q → isBl (t j)) → ¬ isBl (t q) → sk t k p = q
  | 0, p, q, h1, h2, _, _ => by
    show p = q
    omega
  | k + 1, p, q, h1, h2, h3, h4 => by
    show ci (isBl (t p)) (sk t k (p + 1)) p = q
    by_cases e : p = q
    · subst e
      rw [ci_neg h4]
    · rw [ci_pos (h3 p (by omega) (by omega))]
      exact sk_at k (by omega) (by omega) (fun j a b => h3 j (by omega) b) h4
/-- from p to q blanks alone -/
def bls (t : Int → Int) (p q : Int) : Prop := p ≤ q ∧ ∀ j, p ≤ j → j < q → isBl (t j)
theorem bls_nil {t : Int → Int} {p : Int} : bls t p p := ⟨by omega, fun j a b => absurd a (by omega)⟩
theorem bls_up {t : Int → Int} {p q q' : Int} (h : bls t p q) (hb : isBl (t q)) (e : q' = q + 1) : bls t p q' := by
  subst e
  refine ⟨by have := h.1; omega, fun j a b => ?_⟩
  by_cases e : j = q
  · subst e; exact hb
  · exact h.2 j a (by omega)
theorem skp_at {t : Int → Int} {p q : Int} (h : bls t p q) (hn : ¬ isBl (t q)) (hl : q - p ≤ 1700) : skp t p = q := sk_at 1700 h.1 hl h.2 hn
theorem skp_self {t : Int → Int} {q : Int} (hn : ¬ isBl (t q)) : skp t q = q := skp_at bls_nil hn (by omega)
noncomputable def sgn (t : Int → Int) (q e : Int) : Int := ci (q = e ∧ (isSm (t q) ∨ isDg (t q))) 0 (t q)
def mt (t : Int → Int) : Int → List Int → Prop
  | _, [] => True
  | q, a :: w => t q = a ∧ mt t (q + 1) w
def wd (t : Int → Int) (q sg : Int) (w : List Int) : Prop := sg ≠ 0 ∧ mt t q w ∧ ¬ isSm (t (q + (w.length : Int)))
noncomputable def ndk (t : Int → Int) : Nat → Int → Int
  | 0, _ => 0
  | k + 1, q => ci (isDg (t q)) (1 + ndk t k (q + 1)) 0
noncomputable def nd (t : Int → Int) (q : Int) : Int := ndk t 5 q
theorem ndk_at {t : Int → Int} : ∀ (k : Nat) {q n : Int}, 0 ≤ n → n ≤ (k : Int) → (∀ j, q ≤ j → j < q + n → isDg (t j)) → (n < (k : Int) → ¬ isDg (t (q + n))) → ndk t k q = n
  | 0, q, n, h0, h1, _, _ => by
    show (0 : Int) = n
    omega
  | k + 1, q, n, h0, h1, h2, h3 => by
    show ci (isDg (t q)) (1 + ndk t k (q + 1)) 0 = n
    by_cases e : n = 0
    · subst e
      have := h3 (by omega)
      rw [ci_neg (by rwa [Int.add_zero] at this)]
    · rw [ci_pos (h2 q (by omega) (by omega)), ndk_at k (n := n - 1) (by omega) (by omega) (fun j a b => h2 j (by omega) (by omega)) (fun h => by
        have q1 := h3 (by omega)
        rwa [show q + 1 + (n - 1) = q + n by omega])]
      omega
/-- n digits from q on, and no more than they -/
def dgs (t : Int → Int) (q n : Int) : Prop := 0 ≤ n ∧ ∀ j, q ≤ j → j < q + n → isDg (t j)
theorem nd_at {t : Int → Int} {q n : Int} (h : dgs t q n) (hn : n ≤ 5) (hx : n < 5 → ¬ isDg (t (q + n))) : nd t q = n := ndk_at 5 h.1 (by omega) h.2 (fun h => hx (by omega))
abbrev wMin : List Int := [109, 105, 110]
abbrev wMax : List Int := [109, 97, 120]
abbrev wSender : List Int := [115, 101, 110, 100, 101, 114]
abbrev wSquare : List Int := [115, 113, 117, 97, 114, 101]
abbrev wPeak : List Int := [112, 101, 97, 107]
abbrev wWhen : List Int := [119, 104, 101, 110]
abbrev wNot : List Int := [110, 111, 116]
abbrev wAll : List Int := [97, 108, 108]
abbrev wAnd : List Int := [97, 110, 100]
abbrev wOr : List Int := [111, 114]
abbrev aCf : Type := Int × Int × Int × Int × List Int
abbrev aOu : Type := Int × Int × Int × Int
noncomputable def aS (t : Int → Int) (ph p o : Int) (K : List Int) : aCf ⊕ aOu := .inl (ph, skp t p, t (skp t p), o, K)
noncomputable def aW (t : Int → Int) (ph p o : Int) (K : List Int) : aCf ⊕ aOu := .inl (ph, skp t p, sgn t (skp t p) p, o, K)
def aF (kind q : Int) : aCf ⊕ aOu := .inr (kind, q, 0, 0)
noncomputable def aOp (t : Int → Int) (q o m : Int) (K : List Int) : aCf ⊕ aOu := ci (o = 6) (aF 3 q) (aS t 1 (q + 1) (o + 1) (m :: K))
noncomputable def aPr (t : Int → Int) (q sg o m : Int) (K : List Int) : aCf ⊕ aOu := ci (sg = 40) (aOp t q o m K) (aF 1 q)
noncomputable def aNum (t : Int → Int) (q sg o : Int) (K : List Int) : aCf ⊕ aOu := ci (isDg sg) (ci (nd t q = 5) (aF 1 (q + 4)) (aW t 2 (q + nd t q) o K)) (aF 1 q)
noncomputable def a1 (t : Int → Int) (q sg o : Int) (K : List Int) : aCf ⊕ aOu :=
  ci (sg = 40) (aOp t q o 20 K)
  (ci (wd t q sg wMin) (aW t 5 (q + 3) o K)
  (ci (wd t q sg wMax) (aW t 6 (q + 3) o K)
  (ci (wd t q sg wSender ∨ wd t q sg wSquare) (aW t 2 (q + 6) o K)
  (ci (wd t q sg wPeak) (aW t 2 (q + 4) o K)
  (aNum t q sg o K)))))
def hd9 : List Int → Int
  | [] => 99
  | a :: _ => a
noncomputable def a2 (t : Int → Int) (q sg o : Int) (K : List Int) : aCf ⊕ aOu :=
  ci (sg = 41 ∧ (hd9 K = 20 ∨ hd9 K = 23 ∨ hd9 K = 24)) (aS t 2 (q + 1) (o - 1) K.tail)
  (ci (sg = 42 ∨ sg = 47 ∨ sg = 43 ∨ sg = 45) (aS t 1 (q + 1) o K)
  (ci (hd9 K = 21 ∨ hd9 K = 22) (ci (sg = 44) (aS t 1 (q + 1) o ((hd9 K + 2) :: K.tail)) (aF 1 q))
  (ci (hd9 K = 30) (ci (wd t q sg wWhen) (aW t 3 (q + 4) 0 K.tail) (aF 1 q))
  (ci (hd9 K = 31) (ci (sg = 60 ∨ sg = 61 ∨ sg = 62) (aS t 1 (q + 1) o (32 :: K.tail)) (aF 1 q))
  (ci (hd9 K = 32) (.inl (4, q, sg, o, K.tail)) (aF 1 q))))))
noncomputable def a3 (t : Int → Int) (q sg o : Int) (K : List Int) : aCf ⊕ aOu :=
  ci (wd t q sg wNot) (ci (o = 6) (aF 3 q) (aW t 3 (q + 3) (o + 1) (16 :: K)))
  (ci (sg = 91) (ci (o = 6) (aF 3 q) (aS t 3 (q + 1) (o + 1) (25 :: K)))
  (ci (wd t q sg wAll) (aW t 4 (q + 3) o K)
  (.inl (1, q, sg, o, 31 :: K))))
noncomputable def a4 (t : Int → Int) (q sg o : Int) (K : List Int) : aCf ⊕ aOu :=
  ci (hd9 K = 16) (.inl (4, q, sg, o - 1, K.tail))
  (ci (sg = 93 ∧ hd9 K = 25) (aS t 4 (q + 1) (o - 1) K.tail)
  (ci (wd t q sg wAnd) (aW t 3 (q + 3) o K)
  (ci (wd t q sg wOr) (aW t 3 (q + 2) o K)
  (ci (hd9 K = 25) (aF 1 q) (.inr (0, 0, q, sg))))))
noncomputable def aStp (t : Int → Int) (c : aCf) : aCf ⊕ aOu :=
  ci (c.1 = 1) (a1 t c.2.1 c.2.2.1 c.2.2.2.1 c.2.2.2.2)
  (ci (c.1 = 2) (a2 t c.2.1 c.2.2.1 c.2.2.2.1 c.2.2.2.2)
  (ci (c.1 = 3) (a3 t c.2.1 c.2.2.1 c.2.2.2.1 c.2.2.2.2)
  (ci (c.1 = 5) (aPr t c.2.1 c.2.2.1 c.2.2.2.1 21 c.2.2.2.2)
  (ci (c.1 = 6) (aPr t c.2.1 c.2.2.1 c.2.2.2.1 22 c.2.2.2.2)
  (a4 t c.2.1 c.2.2.1 c.2.2.2.1 c.2.2.2.2)))))
noncomputable def aIt (t : Int → Int) : Nat → aCf → Option aOu
  | 0, _ => none
  | n + 1, c => match aStp t c with
    | .inl c' => aIt t n c'
    | .inr o => some o
def Rn (t : Int → Int) (ph q sg o : Int) (K : List Int) (out : aOu) : Prop := ∃ n, aIt t n (ph, q, sg, o, K) = some out
theorem aIt_mono {t : Int → Int} {out : aOu} : ∀ (n m : Nat) (c : aCf), n ≤ m → aIt t n c = some out → aIt t m c = some out
  | 0, _, _, _, h => by cases h
  | n + 1, 0, _, hm, _ => absurd hm (by omega)
  | n + 1, m + 1, c, hm, h => by
    have h : (match aStp t c with | .inl c' => aIt t n c' | .inr o => some o) = some out := h
    show (match aStp t c with | .inl c' => aIt t m c' | .inr o => some o) = some out
    cases e : aStp t c with
    | inl c' =>
      rw [e] at h
      exact aIt_mono n m c' (by omega) h
    | inr o =>
      rw [e] at h
      exact h
theorem Rn_det {t : Int → Int} {ph q sg o : Int} {K : List Int} {x y : aOu} (h1 : Rn t ph q sg o K x) (h2 : Rn t ph q sg o K y) : x = y := by
  obtain ⟨n, h1⟩ := h1
  obtain ⟨m, h2⟩ := h2
  have e1 := aIt_mono n (n + m) _ (by omega) h1
  have e2 := aIt_mono m (n + m) _ (by omega) h2
  rw [e1] at e2
  exact Option.some.inj e2
theorem Rn_go {t : Int → Int} {c c' : aCf} {out : aOu} (e : aStp t c = .inl c') (h : Rn t c'.1 c'.2.1 c'.2.2.1 c'.2.2.2.1 c'.2.2.2.2 out) : Rn t c.1 c.2.1 c.2.2.1 c.2.2.2.1 c.2.2.2.2 out := by
  obtain ⟨n, h⟩ := h
  refine ⟨n + 1, ?_⟩
  show (match aStp t c with | .inl c' => aIt t n c' | .inr o => some o) = some out
  rw [e]
  exact h
theorem Rn_end {t : Int → Int} {c : aCf} {out : aOu} (e : aStp t c = .inr out) : Rn t c.1 c.2.1 c.2.2.1 c.2.2.2.1 c.2.2.2.2 out := by
  refine ⟨1, ?_⟩
  show (match aStp t c with | .inl c' => aIt t 0 c' | .inr o => some o) = some out
  rw [e]
def svQ (t : Int → Int) (q sg : Int) : Prop := (sg = 0 ∧ (isSm (t q) ∨ isDg (t q))) ∨ sg = t q
theorem aS1 {t : Int → Int} {q sg o : Int} {K : List Int} : aStp t (1, q, sg, o, K) = a1 t q sg o K := ci_pos rfl
theorem aS2 {t : Int → Int} {q sg o : Int} {K : List Int} : aStp t (2, q, sg, o, K) = a2 t q sg o K := (ci_neg (fun h => absurd (show (2 : Int) = 1 from h) (by decide))).trans (ci_pos rfl)
theorem aS3 {t : Int → Int} {q sg o : Int} {K : List Int} : aStp t (3, q, sg, o, K) = a3 t q sg o K := (ci_neg (fun h => absurd (show (3 : Int) = 1 from h) (by decide))).trans ((ci_neg (fun h => absurd (show (3 : Int) = 2 from h) (by decide))).trans (ci_pos rfl))
theorem aS4 {t : Int → Int} {q sg o : Int} {K : List Int} : aStp t (4, q, sg, o, K) = a4 t q sg o K := ((ci_neg (fun h => absurd (show (4 : Int) = 1 from h) (by decide))).trans ((ci_neg (fun h => absurd (show (4 : Int) = 2 from h) (by decide))).trans ((ci_neg (fun h => absurd (show (4 : Int) = 3 from h) (by decide))).trans ((ci_neg (fun h => absurd (show (4 : Int) = 5 from h) (by decide))).trans (ci_neg (fun h => absurd (show (4 : Int) = 6 from h) (by decide)))))))
theorem aS5 {t : Int → Int} {q sg o : Int} {K : List Int} : aStp t (5, q, sg, o, K) = aPr t q sg o 21 K := ((ci_neg (fun h => absurd (show (5 : Int) = 1 from h) (by decide))).trans ((ci_neg (fun h => absurd (show (5 : Int) = 2 from h) (by decide))).trans ((ci_neg (fun h => absurd (show (5 : Int) = 3 from h) (by decide))).trans (ci_pos rfl))))
theorem aS6 {t : Int → Int} {q sg o : Int} {K : List Int} : aStp t (6, q, sg, o, K) = aPr t q sg o 22 K := ((ci_neg (fun h => absurd (show (6 : Int) = 1 from h) (by decide))).trans ((ci_neg (fun h => absurd (show (6 : Int) = 2 from h) (by decide))).trans ((ci_neg (fun h => absurd (show (6 : Int) = 3 from h) (by decide))).trans ((ci_neg (fun h => absurd (show (6 : Int) = 5 from h) (by decide))).trans (ci_pos rfl)))))
theorem wd_0 {t : Int → Int} {q sg a : Int} {w : List Int} (h : wd t q sg (a :: w)) : t q = a := h.2.1.1
theorem wd_1 {t : Int → Int} {q sg a b : Int} {w : List Int} (h : wd t q sg (a :: b :: w)) : t (q + 1) = b := h.2.1.2.1
theorem wd_sg {t : Int → Int} {q sg a : Int} {w : List Int} (h : wd t q sg (a :: w)) (hv : svQ t q sg) : sg = a := by
  have h0 := wd_0 h
  rcases hv with e | e
  · exact absurd e.1 h.1
  · omega
theorem R1_par {t : Int → Int} {q sg o : Int} {K : List Int} {out : aOu} {q2 : Int} (hs : sg = 40) (ho : ¬ o = 6) (e : skp t (q + 1) = q2) (h : Rn t 1 q2 (t q2) (o + 1) (20 :: K) out) : Rn t 1 q sg o K out := by
  refine Rn_go (c := (1, q, sg, o, K)) (c' := (1, q2, (t q2), (o + 1), (20 :: K))) ?_ h
  rw [aS1]
  unfold a1 aOp aS; rw [ci_pos hs, ci_neg (by omega), e]
theorem R1_parF {t : Int → Int} {q sg o : Int} {K : List Int} (hs : sg = 40) (ho : o = 6) : Rn t 1 q sg o K (3, q, 0, 0) := by
  refine Rn_end (c := (1, q, sg, o, K)) ?_
  rw [aS1]
  unfold a1 aOp aF; rw [ci_pos hs, ci_pos ho]
theorem R1_Min {t : Int → Int} {q sg o : Int} {K : List Int} {out : aOu} {q2 : Int} (hw : wd t q sg wMin) (hv : svQ t q sg) (e : skp t (q + 3) = q2) (h : Rn t 5 q2 (sgn t q2 (q + 3)) o K out) : Rn t 1 q sg o K out := by
  refine Rn_go (c := (1, q, sg, o, K)) (c' := (5, q2, (sgn t q2 (q + 3)), o, K)) ?_ h
  rw [aS1]
  unfold a1; rw [ci_neg (by have := wd_sg hw hv; omega), ci_pos hw]; unfold aW; rw [e]
theorem R5_21 {t : Int → Int} {q sg o : Int} {K : List Int} {out : aOu} {q2 : Int} (hs : sg = 40) (ho : ¬ o = 6) (e : skp t (q + 1) = q2) (h : Rn t 1 q2 (t q2) (o + 1) (21 :: K) out) : Rn t 5 q sg o K out := by
  refine Rn_go (c := (5, q, sg, o, K)) (c' := (1, q2, (t q2), (o + 1), (21 :: K))) ?_ h
  rw [aS5]
  unfold aPr aOp aS; rw [ci_pos hs, ci_neg (by omega), e]
theorem R5_21F3 {t : Int → Int} {q sg o : Int} {K : List Int} (hs : sg = 40) (ho : o = 6) : Rn t 5 q sg o K (3, q, 0, 0) := by
  refine Rn_end (c := (5, q, sg, o, K)) ?_
  rw [aS5]
  unfold aPr aOp aF; rw [ci_pos hs, ci_pos ho]
theorem R5_21F1 {t : Int → Int} {q sg o : Int} {K : List Int} (hs : ¬ sg = 40) : Rn t 5 q sg o K (1, q, 0, 0) := by
  refine Rn_end (c := (5, q, sg, o, K)) ?_
  rw [aS5]
  unfold aPr aF; rw [ci_neg hs]
theorem R1_Max {t : Int → Int} {q sg o : Int} {K : List Int} {out : aOu} {q2 : Int} (hw : wd t q sg wMax) (hv : svQ t q sg) (e : skp t (q + 3) = q2) (h : Rn t 6 q2 (sgn t q2 (q + 3)) o K out) : Rn t 1 q sg o K out := by
  refine Rn_go (c := (1, q, sg, o, K)) (c' := (6, q2, (sgn t q2 (q + 3)), o, K)) ?_ h
  rw [aS1]
  unfold a1; rw [ci_neg (by have := wd_sg hw hv; omega), ci_neg (fun h => by have a := wd_1 h; have b := wd_1 hw; omega), ci_pos hw]; unfold aW; rw [e]
theorem R5_22 {t : Int → Int} {q sg o : Int} {K : List Int} {out : aOu} {q2 : Int} (hs : sg = 40) (ho : ¬ o = 6) (e : skp t (q + 1) = q2) (h : Rn t 1 q2 (t q2) (o + 1) (22 :: K) out) : Rn t 6 q sg o K out := by
  refine Rn_go (c := (6, q, sg, o, K)) (c' := (1, q2, (t q2), (o + 1), (22 :: K))) ?_ h
  rw [aS6]
  unfold aPr aOp aS; rw [ci_pos hs, ci_neg (by omega), e]
theorem R5_22F3 {t : Int → Int} {q sg o : Int} {K : List Int} (hs : sg = 40) (ho : o = 6) : Rn t 6 q sg o K (3, q, 0, 0) := by
  refine Rn_end (c := (6, q, sg, o, K)) ?_
  rw [aS6]
  unfold aPr aOp aF; rw [ci_pos hs, ci_pos ho]
theorem R5_22F1 {t : Int → Int} {q sg o : Int} {K : List Int} (hs : ¬ sg = 40) : Rn t 6 q sg o K (1, q, 0, 0) := by
  refine Rn_end (c := (6, q, sg, o, K)) ?_
  rw [aS6]
  unfold aPr aF; rw [ci_neg hs]
theorem R5_go {t : Int → Int} {ph q sg o q2 : Int} {K : List Int} {out : aOu} (hp : ph = 5 ∨ ph = 6) (hs : sg = 40) (ho : ¬ o = 6) (e : skp t (q + 1) = q2) (h : Rn t 1 q2 (t q2) (o + 1) ((ph + 16) :: K) out) : Rn t ph q sg o K out := by
  rcases hp with a | a
  · subst a
    exact R5_21 hs ho e h
  · subst a
    exact R5_22 hs ho e h
theorem R5_F3 {t : Int → Int} {ph q sg o : Int} {K : List Int} (hp : ph = 5 ∨ ph = 6) (hs : sg = 40) (ho : o = 6) : Rn t ph q sg o K (3, q, 0, 0) := by
  rcases hp with a | a
  · subst a
    exact R5_21F3 hs ho
  · subst a
    exact R5_22F3 hs ho
theorem R5_F1 {t : Int → Int} {ph q sg o : Int} {K : List Int} (hp : ph = 5 ∨ ph = 6) (hs : ¬ sg = 40) : Rn t ph q sg o K (1, q, 0, 0) := by
  rcases hp with a | a
  · subst a
    exact R5_21F1 hs
  · subst a
    exact R5_22F1 hs
theorem R1_six {t : Int → Int} {q sg o : Int} {K : List Int} {out : aOu} {q2 : Int} (hw : wd t q sg wSender ∨ wd t q sg wSquare) (hv : svQ t q sg) (e : skp t (q + 6) = q2) (h : Rn t 2 q2 (sgn t q2 (q + 6)) o K out) : Rn t 1 q sg o K out := by
  refine Rn_go (c := (1, q, sg, o, K)) (c' := (2, q2, (sgn t q2 (q + 6)), o, K)) ?_ h
  rw [aS1]
  have hb : t q = 115 := hw.elim wd_0 wd_0
  have hc : sg = 115 := hw.elim (fun h => wd_sg h hv) (fun h => wd_sg h hv)
  unfold a1 aW; rw [ci_neg (by omega), ci_neg (fun h => by have a := wd_0 h; omega), ci_neg (fun h => by have a := wd_0 h; omega), ci_pos hw, e]
theorem R1_Peak {t : Int → Int} {q sg o : Int} {K : List Int} {out : aOu} {q2 : Int} (hw : wd t q sg wPeak) (hv : svQ t q sg) (e : skp t (q + 4) = q2) (h : Rn t 2 q2 (sgn t q2 (q + 4)) o K out) : Rn t 1 q sg o K out := by
  refine Rn_go (c := (1, q, sg, o, K)) (c' := (2, q2, (sgn t q2 (q + 4)), o, K)) ?_ h
  rw [aS1]
  have hb := wd_0 hw
  have hc := wd_sg hw hv
  unfold a1 aW; rw [ci_neg (by omega), ci_neg (fun h => by have a := wd_0 h; omega), ci_neg (fun h => by have a := wd_0 h; omega), ci_neg (fun h => by have a := h.elim wd_0 wd_0; omega), ci_pos hw, e]
theorem R1_num {t : Int → Int} {q sg o : Int} {K : List Int} {out : aOu} {q2 n : Int} (hd : isDg sg) (hv : svQ t q sg) (hn : nd t q = n) (h5 : n ≤ 4) (e : skp t (q + n) = q2) (h : Rn t 2 q2 (sgn t q2 (q + n)) o K out) : Rn t 1 q sg o K out := by
  refine Rn_go (c := (1, q, sg, o, K)) (c' := (2, q2, (sgn t q2 (q + n)), o, K)) ?_ h
  rw [aS1]
  have hb : t q = sg := by
    unfold isDg at hd
    rcases hv with a | a
    · have := a.1; omega
    · omega
  have hd2 := hd
  unfold isDg at hd2
  unfold a1 aNum aW; rw [ci_neg (by omega), ci_neg (fun h => by have a := wd_0 h; omega), ci_neg (fun h => by have a := wd_0 h; omega), ci_neg (fun h => by have a := h.elim wd_0 wd_0; omega), ci_neg (fun h => by have a := wd_0 h; omega), ci_pos hd, ci_neg (by omega), hn, e]
theorem R1_num5 {t : Int → Int} {q sg o : Int} {K : List Int} (hd : isDg sg) (hv : svQ t q sg) (hn : nd t q = 5) : Rn t 1 q sg o K (1, (q + 4), 0, 0) := by
  refine Rn_end (c := (1, q, sg, o, K)) ?_
  rw [aS1]
  have hb : t q = sg := by
    unfold isDg at hd
    rcases hv with a | a
    · have := a.1; omega
    · omega
  have hd2 := hd
  unfold isDg at hd2
  unfold a1 aNum aF; rw [ci_neg (by omega), ci_neg (fun h => by have a := wd_0 h; omega), ci_neg (fun h => by have a := wd_0 h; omega), ci_neg (fun h => by have a := h.elim wd_0 wd_0; omega), ci_neg (fun h => by have a := wd_0 h; omega), ci_pos hd, ci_pos hn]
theorem R1_numF {t : Int → Int} {q sg o : Int} {K : List Int} (hd : ¬ isDg sg) (hs : ¬ sg = 40) (h1 : ¬ wd t q sg wMin) (h2 : ¬ wd t q sg wMax) (h3 : ¬ wd t q sg wSender) (h4 : ¬ wd t q sg wSquare) (h5 : ¬ wd t q sg wPeak) : Rn t 1 q sg o K (1, q, 0, 0) := by
  refine Rn_end (c := (1, q, sg, o, K)) ?_
  rw [aS1]
  unfold a1 aNum aF; rw [ci_neg hs, ci_neg h1, ci_neg h2, ci_neg (fun h => h.elim h3 h4), ci_neg h5, ci_neg hd]
theorem R2_close {t : Int → Int} {q sg o : Int} {K : List Int} {out : aOu} {m q2 : Int} (hs : sg = 41) (hm : m = 20 ∨ m = 23 ∨ m = 24) (e : skp t (q + 1) = q2) (h : Rn t 2 q2 (t q2) (o - 1) K out) : Rn t 2 q sg o (m :: K) out := by
  refine Rn_go (c := (2, q, sg, o, (m :: K))) (c' := (2, q2, (t q2), (o - 1), K)) ?_ h
  rw [aS2]
  have e9 : hd9 (m :: K) = m := rfl
  have eT : (m :: K).tail = K := rfl
  unfold a2; rw [e9, eT]; unfold aS; rw [ci_pos ⟨hs, hm⟩, e]
theorem R2_op {t : Int → Int} {q sg o : Int} {K : List Int} {out : aOu} {q2 : Int} (hs : sg = 42 ∨ sg = 47 ∨ sg = 43 ∨ sg = 45) (e : skp t (q + 1) = q2) (h : Rn t 1 q2 (t q2) o K out) : Rn t 2 q sg o K out := by
  refine Rn_go (c := (2, q, sg, o, K)) (c' := (1, q2, (t q2), o, K)) ?_ h
  rw [aS2]
  unfold a2 aS; rw [ci_neg (fun h => by have := h.1; omega), ci_pos hs, e]
theorem R2_comma {t : Int → Int} {q sg o : Int} {K : List Int} {out : aOu} {m q2 : Int} (hs : sg = 44) (hm : m = 21 ∨ m = 22) (e : skp t (q + 1) = q2) (h : Rn t 1 q2 (t q2) o ((m + 2) :: K) out) : Rn t 2 q sg o (m :: K) out := by
  refine Rn_go (c := (2, q, sg, o, (m :: K))) (c' := (1, q2, (t q2), o, ((m + 2) :: K))) ?_ h
  rw [aS2]
  have e9 : hd9 (m :: K) = m := rfl
  have eT : (m :: K).tail = K := rfl
  unfold a2; rw [e9, eT]; unfold aS; rw [ci_neg (fun h => by have := h.1; omega), ci_neg (by omega), ci_pos hm, ci_pos hs, e]
theorem R2_commaF {t : Int → Int} {q sg o : Int} {K : List Int} {m : Int} (hs : ¬ sg = 44) (hm : m = 21 ∨ m = 22) (hn : ¬ (sg = 42 ∨ sg = 47 ∨ sg = 43 ∨ sg = 45)) : Rn t 2 q sg o (m :: K) (1, q, 0, 0) := by
  refine Rn_end (c := (2, q, sg, o, (m :: K))) ?_
  rw [aS2]
  have e9 : hd9 (m :: K) = m := rfl
  have eT : (m :: K).tail = K := rfl
  unfold a2; rw [e9, eT]; unfold aF; rw [ci_neg (fun h => by have := h.2; omega), ci_neg hn, ci_pos hm, ci_neg hs]
theorem R2_closeF {t : Int → Int} {q sg o : Int} {K : List Int} {m : Int} (hs : ¬ sg = 41) (hm : m = 20 ∨ m = 23 ∨ m = 24) (hn : ¬ (sg = 42 ∨ sg = 47 ∨ sg = 43 ∨ sg = 45)) : Rn t 2 q sg o (m :: K) (1, q, 0, 0) := by
  refine Rn_end (c := (2, q, sg, o, (m :: K))) ?_
  rw [aS2]
  have e9 : hd9 (m :: K) = m := rfl
  have eT : (m :: K).tail = K := rfl
  unfold a2; rw [e9, eT]; rw [ci_neg (fun h => hs h.1), ci_neg hn, ci_neg (by omega), ci_neg (by omega), ci_neg (by omega), ci_neg (by omega)]; rfl
theorem R2_when {t : Int → Int} {q sg o : Int} {K : List Int} {out : aOu} {q2 : Int} (hw : wd t q sg wWhen) (hv : svQ t q sg) (e : skp t (q + 4) = q2) (h : Rn t 3 q2 (sgn t q2 (q + 4)) 0 K out) : Rn t 2 q sg o (30 :: K) out := by
  refine Rn_go (c := (2, q, sg, o, (30 :: K))) (c' := (3, q2, (sgn t q2 (q + 4)), 0, K)) ?_ h
  rw [aS2]
  have hc := wd_sg hw hv
  have e9 : hd9 (30 :: K) = 30 := rfl
  have eT : (30 :: K).tail = K := rfl
  unfold a2; rw [e9, eT]; unfold aW; rw [ci_neg (fun h => by have := h.2; omega), ci_neg (by omega), ci_neg (by omega), ci_pos rfl, ci_pos hw, e]
theorem R2_whenF {t : Int → Int} {q sg o : Int} {K : List Int} (hw : ¬ wd t q sg wWhen) (hn : ¬ (sg = 42 ∨ sg = 47 ∨ sg = 43 ∨ sg = 45)) : Rn t 2 q sg o (30 :: K) (1, q, 0, 0) := by
  refine Rn_end (c := (2, q, sg, o, (30 :: K))) ?_
  rw [aS2]
  have e9 : hd9 (30 :: K) = 30 := rfl
  have eT : (30 :: K).tail = K := rfl
  unfold a2; rw [e9, eT]; unfold aF; rw [ci_neg (fun h => by have := h.2; omega), ci_neg hn, ci_neg (by omega), ci_pos rfl, ci_neg hw]
theorem R2_cmp {t : Int → Int} {q sg o : Int} {K : List Int} {out : aOu} {q2 : Int} (hs : sg = 60 ∨ sg = 61 ∨ sg = 62) (e : skp t (q + 1) = q2) (h : Rn t 1 q2 (t q2) o (32 :: K) out) : Rn t 2 q sg o (31 :: K) out := by
  refine Rn_go (c := (2, q, sg, o, (31 :: K))) (c' := (1, q2, (t q2), o, (32 :: K))) ?_ h
  rw [aS2]
  have e9 : hd9 (31 :: K) = 31 := rfl
  have eT : (31 :: K).tail = K := rfl
  unfold a2; rw [e9, eT]; unfold aS; rw [ci_neg (fun h => by have := h.2; omega), ci_neg (by omega), ci_neg (by omega), ci_neg (by omega), ci_pos rfl, ci_pos hs, e]
theorem R2_cmpF {t : Int → Int} {q sg o : Int} {K : List Int} (hs : ¬ (sg = 60 ∨ sg = 61 ∨ sg = 62)) (hn : ¬ (sg = 42 ∨ sg = 47 ∨ sg = 43 ∨ sg = 45)) : Rn t 2 q sg o (31 :: K) (1, q, 0, 0) := by
  refine Rn_end (c := (2, q, sg, o, (31 :: K))) ?_
  rw [aS2]
  have e9 : hd9 (31 :: K) = 31 := rfl
  have eT : (31 :: K).tail = K := rfl
  unfold a2; rw [e9, eT]; unfold aF; rw [ci_neg (fun h => by have := h.2; omega), ci_neg hn, ci_neg (by omega), ci_neg (by omega), ci_pos rfl, ci_neg hs]
theorem R2_end {t : Int → Int} {q sg o : Int} {K : List Int} {out : aOu} (hn : ¬ (sg = 42 ∨ sg = 47 ∨ sg = 43 ∨ sg = 45)) (h : Rn t 4 q sg o K out) : Rn t 2 q sg o (32 :: K) out := by
  refine Rn_go (c := (2, q, sg, o, (32 :: K))) (c' := (4, q, sg, o, K)) ?_ h
  rw [aS2]
  have e9 : hd9 (32 :: K) = 32 := rfl
  have eT : (32 :: K).tail = K := rfl
  unfold a2; rw [e9, eT]; rw [ci_neg (fun h => by have := h.2; omega), ci_neg hn, ci_neg (by omega), ci_neg (by omega), ci_neg (by omega), ci_pos rfl]
theorem R3_not {t : Int → Int} {q sg o : Int} {K : List Int} {out : aOu} {q2 : Int} (hw : wd t q sg wNot) (ho : ¬ o = 6) (e : skp t (q + 3) = q2) (h : Rn t 3 q2 (sgn t q2 (q + 3)) (o + 1) (16 :: K) out) : Rn t 3 q sg o K out := by
  refine Rn_go (c := (3, q, sg, o, K)) (c' := (3, q2, (sgn t q2 (q + 3)), (o + 1), (16 :: K))) ?_ h
  rw [aS3]
  unfold a3 aW; rw [ci_pos hw, ci_neg (by omega), e]
theorem R3_notF {t : Int → Int} {q sg o : Int} {K : List Int} (hw : wd t q sg wNot) (ho : o = 6) : Rn t 3 q sg o K (3, q, 0, 0) := by
  refine Rn_end (c := (3, q, sg, o, K)) ?_
  rw [aS3]
  unfold a3 aF; rw [ci_pos hw, ci_pos ho]
theorem R3_sq {t : Int → Int} {q sg o : Int} {K : List Int} {out : aOu} {q2 : Int} (hs : sg = 91) (hv : svQ t q sg) (ho : ¬ o = 6) (e : skp t (q + 1) = q2) (h : Rn t 3 q2 (t q2) (o + 1) (25 :: K) out) : Rn t 3 q sg o K out := by
  refine Rn_go (c := (3, q, sg, o, K)) (c' := (3, q2, (t q2), (o + 1), (25 :: K))) ?_ h
  rw [aS3]
  unfold a3 aS; rw [ci_neg (fun h => by have := wd_sg h hv; omega), ci_pos hs, ci_neg (by omega), e]
theorem R3_sqF {t : Int → Int} {q sg o : Int} {K : List Int} (hs : sg = 91) (hv : svQ t q sg) (ho : o = 6) : Rn t 3 q sg o K (3, q, 0, 0) := by
  refine Rn_end (c := (3, q, sg, o, K)) ?_
  rw [aS3]
  unfold a3 aF; rw [ci_neg (fun h => by have := wd_sg h hv; omega), ci_pos hs, ci_pos ho]
theorem R3_all {t : Int → Int} {q sg o : Int} {K : List Int} {out : aOu} {q2 : Int} (hw : wd t q sg wAll) (hv : svQ t q sg) (e : skp t (q + 3) = q2) (h : Rn t 4 q2 (sgn t q2 (q + 3)) o K out) : Rn t 3 q sg o K out := by
  refine Rn_go (c := (3, q, sg, o, K)) (c' := (4, q2, (sgn t q2 (q + 3)), o, K)) ?_ h
  rw [aS3]
  have hc := wd_sg hw hv
  unfold a3 aW; rw [ci_neg (fun h => by have := wd_sg h hv; omega), ci_neg (by omega), ci_pos hw, e]
theorem R3_sum {t : Int → Int} {q sg o : Int} {K : List Int} {out : aOu} (h1 : ¬ wd t q sg wNot) (h2 : ¬ sg = 91) (h3 : ¬ wd t q sg wAll) (h : Rn t 1 q sg o (31 :: K) out) : Rn t 3 q sg o K out := by
  refine Rn_go (c := (3, q, sg, o, K)) (c' := (1, q, sg, o, (31 :: K))) ?_ h
  rw [aS3]
  unfold a3; rw [ci_neg h1, ci_neg h2, ci_neg h3]
theorem R4_not {t : Int → Int} {q sg o : Int} {K : List Int} {out : aOu}  (h : Rn t 4 q sg (o - 1) K out) : Rn t 4 q sg o (16 :: K) out := by
  refine Rn_go (c := (4, q, sg, o, (16 :: K))) (c' := (4, q, sg, (o - 1), K)) ?_ h
  rw [aS4]
  have e9 : hd9 (16 :: K) = 16 := rfl
  have eT : (16 :: K).tail = K := rfl
  unfold a4; rw [e9, eT]; rw [ci_pos rfl]
theorem R4_sq {t : Int → Int} {q sg o : Int} {K : List Int} {out : aOu} {q2 : Int} (hs : sg = 93) (e : skp t (q + 1) = q2) (h : Rn t 4 q2 (t q2) (o - 1) K out) : Rn t 4 q sg o (25 :: K) out := by
  refine Rn_go (c := (4, q, sg, o, (25 :: K))) (c' := (4, q2, (t q2), (o - 1), K)) ?_ h
  rw [aS4]
  have e9 : hd9 (25 :: K) = 25 := rfl
  have eT : (25 :: K).tail = K := rfl
  unfold a4; rw [e9, eT]; unfold aS; rw [ci_neg (by omega), ci_pos ⟨hs, rfl⟩, e]
theorem R4_and {t : Int → Int} {q sg o : Int} {K : List Int} {out : aOu} {q2 : Int} (hk : ¬ hd9 K = 16) (hw : wd t q sg wAnd) (hv : svQ t q sg) (e : skp t (q + 3) = q2) (h : Rn t 3 q2 (sgn t q2 (q + 3)) o K out) : Rn t 4 q sg o K out := by
  refine Rn_go (c := (4, q, sg, o, K)) (c' := (3, q2, (sgn t q2 (q + 3)), o, K)) ?_ h
  rw [aS4]
  have hc := wd_sg hw hv
  unfold a4 aW; rw [ci_neg hk, ci_neg (fun h => by have := h.1; omega), ci_pos hw, e]
theorem R4_or {t : Int → Int} {q sg o : Int} {K : List Int} {out : aOu} {q2 : Int} (hk : ¬ hd9 K = 16) (hw : wd t q sg wOr) (hv : svQ t q sg) (e : skp t (q + 2) = q2) (h : Rn t 3 q2 (sgn t q2 (q + 2)) o K out) : Rn t 4 q sg o K out := by
  refine Rn_go (c := (4, q, sg, o, K)) (c' := (3, q2, (sgn t q2 (q + 2)), o, K)) ?_ h
  rw [aS4]
  have hc := wd_sg hw hv
  unfold a4 aW; rw [ci_neg hk, ci_neg (fun h => by have := h.1; omega), ci_neg (fun h => by have := wd_sg h hv; omega), ci_pos hw, e]
theorem R4_sqF {t : Int → Int} {q sg o : Int} {K : List Int} (hs : ¬ sg = 93) (h1 : ¬ wd t q sg wAnd) (h2 : ¬ wd t q sg wOr) : Rn t 4 q sg o (25 :: K) (1, q, 0, 0) := by
  refine Rn_end (c := (4, q, sg, o, (25 :: K))) ?_
  rw [aS4]
  have e9 : hd9 (25 :: K) = 25 := rfl
  have eT : (25 :: K).tail = K := rfl
  unfold a4; rw [e9, eT]; rw [ci_neg (by omega), ci_neg (fun h => hs h.1), ci_neg h1, ci_neg h2, ci_pos rfl]; rfl
theorem R4_end {t : Int → Int} {q sg o : Int} {K : List Int} (h1 : ¬ wd t q sg wAnd) (h2 : ¬ wd t q sg wOr) : Rn t 4 q sg o [] (0, 0, q, sg) := by
  refine Rn_end (c := (4, q, sg, o, [])) ?_
  rw [aS4]
  have e9 : hd9 [] = 99 := rfl
  unfold a4; rw [e9, ci_neg (by omega), ci_neg (fun h => absurd h.2 (by omega)), ci_neg h1, ci_neg h2, ci_neg (by omega)]
/-! the class reads as the automaton does -/
def taub (f : Nat → Int32) (n i : Int) : Int := if 0 ≤ i ∧ i < n then (f i.toNat).toInt % 256 else -1
theorem taub_in {f : Nat → Int32} {n i : Int} (h1 : 0 ≤ i) (h2 : i < n) : taub f n i = (f i.toNat).toInt % 256 := if_pos ⟨h1, h2⟩
theorem taub_out {f : Nat → Int32} {n i : Int} (h : i < 0 ∨ n ≤ i) : taub f n i = -1 := if_neg (fun q => by omega)
theorem taub_lt {f : Nat → Int32} {n i : Int} (h : 0 ≤ taub f n i) : 0 ≤ i ∧ i < n := by
  by_cases q : 0 ≤ i ∧ i < n
  · exact q
  · have e : taub f n i = -1 := if_neg q
    omega
theorem and255 {x z : Int32} (h : z = x &&& 255) : z.toInt = x.toInt % 256 := by
  subst h
  have h1 : (x &&& 255).toBitVec.toNat = x.toBitVec.toNat % 256 := by
    rw [Int32.toBitVec_and]
    show (x.toBitVec &&& 255#32).toNat = _
    rw [BitVec.toNat_and]
    exact Nat.and_two_pow_sub_one_eq_mod _ 8
  have h2 : (x &&& 255).toInt = (x &&& 255).toBitVec.toInt := rfl
  have h3 : x.toInt = x.toBitVec.toInt := rfl
  rw [h2, h3, BitVec.toInt_eq_toNat_cond, BitVec.toInt_eq_toNat_cond, h1]
  have := x.toBitVec.isLt
  split <;> split <;> omega
theorem and1 {x z : Int32} (h : z = x &&& 1) : z.toInt = x.toInt % 2 := by
  subst h
  have h1 : (x &&& 1).toBitVec.toNat = x.toBitVec.toNat % 2 := by
    rw [Int32.toBitVec_and]
    show (x.toBitVec &&& 1#32).toNat = _
    rw [BitVec.toNat_and]
    exact Nat.and_two_pow_sub_one_eq_mod _ 1
  have h2 : (x &&& 1).toInt = (x &&& 1).toBitVec.toInt := rfl
  have h3 : x.toInt = x.toBitVec.toInt := rfl
  rw [h2, h3, BitVec.toInt_eq_toNat_cond, BitVec.toInt_eq_toNat_cond, h1]
  have := x.toBitVec.isLt
  split <;> split <;> omega
noncomputable def gsn (t : Int → Int) (p q nb : Int) : Int := ci (¬ nb = 0 ∧ q = p ∧ (isSm (t q) ∨ isDg (t q))) 0 (t q)
theorem gsn_g {t : Int → Int} {p q nb : Int} (h1 : ¬ nb = 0) (h2 : q = p) (h3 : isSm (t q) ∨ isDg (t q)) : gsn t p q nb = 0 := ci_pos ⟨h1, h2, h3⟩
theorem gsn_t {t : Int → Int} {p q nb : Int} (h : nb = 0 ∨ ¬ q = p ∨ ¬ (isSm (t q) ∨ isDg (t q))) : gsn t p q nb = t q := ci_neg (fun a => by
  rcases h with h | h | h
  · exact a.1 h
  · exact h a.2.1
  · exact h a.2.2)
theorem gsn_w {t : Int → Int} {p q nb : Int} (h : ¬ nb = 0) : gsn t p q nb = sgn t q p := by
  unfold gsn sgn
  by_cases q1 : q = p ∧ (isSm (t q) ∨ isDg (t q))
  · rw [ci_pos q1, ci_pos ⟨h, q1⟩]
  · rw [ci_neg q1, ci_neg (fun a => q1 a.2)]
theorem sgn_sv {t : Int → Int} {q e : Int} : svQ t q (sgn t q e) := by
  unfold sgn
  by_cases q1 : q = e ∧ (isSm (t q) ∨ isDg (t q))
  · rw [ci_pos q1]; exact Or.inl ⟨rfl, q1.2⟩
  · rw [ci_neg q1]; exact Or.inr rfl
theorem sv_lt {f : Nat → Int32} {n q sg : Int} (h : svQ (taub f n) q sg) (h1 : 1 ≤ sg) : 0 ≤ q ∧ q < n := by
  rcases h with e | e
  · have := e.1; omega
  · exact taub_lt (f := f) (by omega)
theorem mt_lt {f : Nat → Int32} {n : Int} : ∀ (w : List Int) {q : Int}, mt (taub f n) q w → (∀ a ∈ w, 0 ≤ a) → ¬ w = [] → q + (w.length : Int) ≤ n
  | [], _, _, _, h => absurd rfl h
  | [a], q, h, hp, _ => by
    have h0 : taub f n q = a := h.1
    have := hp a List.mem_cons_self
    have := taub_lt (f := f) (n := n) (i := q) (by omega)
    show q + ((1 : Nat) : Int) ≤ n
    omega
  | a :: b :: w, q, h, hp, _ => by
    have := mt_lt (b :: w) (q := q + 1) h.2 (fun c hc => hp c (List.mem_cons_of_mem _ hc)) (by simp)
    show q + (((b :: w).length + 1 : Nat) : Int) ≤ n
    omega
/-- what was read of a word so far -/
def mtk (t : Int → Int) (q : Int) (w : List Int) (k : Int) : Prop := ∀ j : Nat, (j : Int) < k → t (q + (j : Int)) = w.getD j 0
theorem mtk_0 {t : Int → Int} {q k : Int} {w : List Int} (h : k ≤ 0) : mtk t q w k := fun j hj => absurd hj (by omega)
theorem mtk_up {t : Int → Int} {q k k' p a b : Int} {w : List Int} (h : mtk t q w k) (h0 : 0 ≤ k) (ek : k' = k + 1) (hp : p = q + k) (ha : a = t p) (hb : b = w.getD k.toNat 0) (e : a = b) : mtk t q w k' := by
  intro j hj
  by_cases q1 : (j : Int) = k
  · have : j = k.toNat := by omega
    subst this
    rw [← hb, ← e, ha, hp, q1]
  · exact h j (by omega)
theorem mt_of : ∀ (w : List Int) {t : Int → Int} {q : Int}, mtk t q w (w.length : Int) → mt t q w
  | [], _, _, _ => trivial
  | a :: w, t, q, h => by
    refine ⟨?_, mt_of w (fun j hj => ?_)⟩
    · have := h 0 (by show ((0 : Nat) : Int) < ((w.length + 1 : Nat) : Int); omega)
      rwa [show q + ((0 : Nat) : Int) = q by omega] at this
    · have := h (j + 1) (by show ((j + 1 : Nat) : Int) < ((w.length + 1 : Nat) : Int); omega)
      rwa [show q + ((j + 1 : Nat) : Int) = q + 1 + (j : Int) by omega] at this
theorem mt_to : ∀ (w : List Int) {t : Int → Int} {q : Int}, mt t q w → ∀ j : Nat, j < w.length → t (q + (j : Int)) = w.getD j 0
  | [], _, _, _, j, hj => absurd hj (Nat.not_lt_zero _)
  | a :: w, t, q, h, 0, _ => by
    rw [show q + ((0 : Nat) : Int) = q by omega]
    exact h.1
  | a :: w, t, q, h, j + 1, hj => by
    have := mt_to w h.2 j (by simpa using hj)
    rw [show q + ((j + 1 : Nat) : Int) = q + 1 + (j : Int) by omega]
    exact this
def waQ (t : Int → Int) (q sg : Int) (w : List Int) (r : Int) : Prop := (¬ r = 0 → wd t q sg w) ∧ (r = 0 → ¬ wd t q sg w)
theorem wa_yes {t : Int → Int} {q sg r n p a : Int} {w : List Int} (h : mtk t q w n) (hn : n = (w.length : Int)) (h0 : ¬ sg = 0) (hp : p = q + n) (ha : a = t p) (hs : ¬ (97 ≤ a ∧ a ≤ 122)) (hr : ¬ r = 0) : waQ t q sg w r := by
  subst hn
  subst hp
  subst ha
  exact ⟨fun _ => ⟨h0, mt_of w h, hs⟩, fun e => absurd e hr⟩
theorem wa_diff {t : Int → Int} {q sg r k p a b : Int} {w : List Int} (h0 : 0 ≤ k) (hk : k < (w.length : Int)) (hp : p = q + k) (ha : a = t p) (hb : b = w.getD k.toNat 0) (e : ¬ a = b) (hr : r = 0) : waQ t q sg w r := by
  refine ⟨fun h => absurd hr h, fun _ h => e ?_⟩
  have := mt_to w h.2.1 k.toNat (by omega)
  rw [ha, hb, hp, ← this]
  congr 1
  omega
theorem wa_no0 {t : Int → Int} {q sg r : Int} {w : List Int} (h0 : sg = 0) (hr : r = 0) : waQ t q sg w r := ⟨fun h => absurd hr h, fun _ h => h.1 h0⟩
theorem wa_more {t : Int → Int} {q sg r n p a : Int} {w : List Int} (hn : n = (w.length : Int)) (hp : p = q + n) (ha : a = t p) (hs : 97 ≤ a ∧ a ≤ 122) (hr : r = 0) : waQ t q sg w r := by
  subst hn
  subst hp
  subst ha
  exact ⟨fun h => absurd hr h, fun _ h => h.2.2 hs⟩
def tsQ (t : Int → Int) (q sg c q' sg' r : Int) : Prop := (¬ r = 0 → sg = c ∧ skp t (q + 1) = q' ∧ sg' = t q') ∧ (r = 0 → ¬ sg = c ∧ q' = q ∧ sg' = sg)
theorem ts_yes {t : Int → Int} {q sg c q' sg' r p z : Int} (h : sg = c) (hp : p = q + 1) (ha : q' = skp t p) (hs : sg' = gsn t p q' z) (hz : z = 0) (hr : ¬ r = 0) : tsQ t q sg c q' sg' r := by
  subst hp
  exact ⟨fun _ => ⟨h, ha.symm, hs.trans (gsn_t (Or.inl hz))⟩, fun e => absurd e hr⟩
theorem ts_no {t : Int → Int} {q sg c r : Int} (h : ¬ sg = c) (hr : r = 0) : tsQ t q sg c q sg r := ⟨fun e => absurd hr e, fun _ => ⟨h, rfl, rfl⟩⟩
def rsQ (t : Int → Int) (q sg c q' sg' r f p : Int) : Prop := (¬ r = 0 → sg = c ∧ skp t (q + 1) = q' ∧ sg' = t q') ∧ (r = 0 → ¬ sg = c ∧ f = 1 ∧ p = q)
theorem rs_yes {t : Int → Int} {q sg c q' sg' r p z f pl : Int} (h : sg = c) (hp : p = q + 1) (ha : q' = skp t p) (hs : sg' = gsn t p q' z) (hz : z = 0) (hr : ¬ r = 0) : rsQ t q sg c q' sg' r f pl := by
  subst hp
  exact ⟨fun _ => ⟨h, ha.symm, hs.trans (gsn_t (Or.inl hz))⟩, fun e => absurd e hr⟩
theorem rs_no {t : Int → Int} {q sg c q' sg' r f p : Int} (h : ¬ sg = c) (hr : r = 0) (hf : f = 1) (hp : p = q) : rsQ t q sg c q' sg' r f p := ⟨fun e => absurd hr e, fun _ => ⟨h, hf, hp⟩⟩
def twQ (t : Int → Int) (q sg : Int) (w : List Int) (q' sg' r : Int) : Prop := (¬ r = 0 → wd t q sg w ∧ skp t (q + (w.length : Int)) = q' ∧ sg' = sgn t q' (q + (w.length : Int))) ∧ (r = 0 → ¬ wd t q sg w ∧ q' = q ∧ sg' = sg)
theorem tw_yes {t : Int → Int} {q sg q' sg' r r1 p z n : Int} {w : List Int} (h : waQ t q sg w r1) (h1 : ¬ r1 = 0) (hp : p = q + n) (hn : n = (w.length : Int)) (ha : q' = skp t p) (hs : sg' = gsn t p q' z) (hz : ¬ z = 0) (hr : ¬ r = 0) : twQ t q sg w q' sg' r := by
  subst hn
  subst hp
  exact ⟨fun _ => ⟨h.1 h1, ha.symm, hs.trans (gsn_w hz)⟩, fun e => absurd e hr⟩
theorem tw_no {t : Int → Int} {q sg r r1 : Int} {w : List Int} (h : waQ t q sg w r1) (h1 : r1 = 0) (hr : r = 0) : twQ t q sg w q sg r := ⟨fun e => absurd hr e, fun _ => ⟨h.2 h1, rfl, rfl⟩⟩
def rwQ (t : Int → Int) (q sg : Int) (w : List Int) (q' sg' r f p : Int) : Prop := (¬ r = 0 → wd t q sg w ∧ skp t (q + (w.length : Int)) = q' ∧ sg' = sgn t q' (q + (w.length : Int))) ∧ (r = 0 → ¬ wd t q sg w ∧ f = 1 ∧ p = q)
theorem rw_yes {t : Int → Int} {q sg q' sg' r r1 f p : Int} {w : List Int} (h : twQ t q sg w q' sg' r1) (h1 : ¬ r1 = 0) (hr : ¬ r = 0) : rwQ t q sg w q' sg' r f p := ⟨fun _ => h.1 h1, fun e => absurd e hr⟩
theorem rw_no {t : Int → Int} {q sg q' sg' q2 sg2 r r1 f p : Int} {w : List Int} (h : twQ t q sg w q' sg' r1) (h1 : r1 = 0) (hr : r = 0) (hf : f = 1) (hp : p = q') : rwQ t q sg w q2 sg2 r f p := ⟨fun e => absurd hr e, fun _ => ⟨(h.2 h1).1, hf, hp.trans (h.2 h1).2.1⟩⟩
def nvk (t : Int → Int) (q : Int) : Nat → Int
  | 0 => 0
  | k + 1 => 10 * nvk t q k + t (q + (k : Int)) - 48
noncomputable def nvn (t : Int → Int) (q : Int) : Int := nvk t q (nd t q).toNat
theorem nvk_up {t : Int → Int} {q v v' n n' a p : Int} (h : v = nvk t q n.toNat) (h0 : 0 ≤ n) (hn : n' = n + 1) (hp : p = q + n) (ha : a = t p) (hv : v' = 10 * v + a - 48) : v' = nvk t q n'.toNat := by
  have e : n'.toNat = n.toNat + 1 := by omega
  rw [e]
  show v' = 10 * nvk t q n.toNat + t (q + (n.toNat : Int)) - 48
  rw [← h, hv, ha, hp, show (n.toNat : Int) = n by omega]
theorem dgs_0 {t : Int → Int} {q n : Int} (h : n = 0) : dgs t q n := ⟨by omega, fun j a b => absurd a (by omega)⟩
theorem dgs_up {t : Int → Int} {q n n' p a : Int} (h : dgs t q n) (hn : n' = n + 1) (hp : p = q + n) (ha : a = t p) (hd : 48 ≤ a ∧ a ≤ 57) : dgs t q n' := by
  subst hn
  refine ⟨by have := h.1; omega, fun j a1 b1 => ?_⟩
  by_cases e : j = p
  · subst e
    unfold isDg
    omega
  · exact h.2 j a1 (by omega)
def nuQ (t : Int → Int) (q sg r q' sg' na f p : Int) : Prop := (¬ r = -1 → isDg sg ∧ nd t q ≤ 4 ∧ r = nvn t q ∧ skp t (q + nd t q) = q' ∧ sg' = sgn t q' (q + nd t q) ∧ na = q ∧ 0 ≤ r) ∧ (r = -1 → f = 1 ∧ ((¬ isDg sg ∧ p = q) ∨ (isDg sg ∧ nd t q = 5 ∧ p = q + 4)))
theorem nu_none {t : Int → Int} {q sg r q' sg' na f p : Int} (h : ¬ (48 ≤ sg ∧ sg ≤ 57)) (hr : r = -1) (hf : f = 1) (hp : p = q) : nuQ t q sg r q' sg' na f p := ⟨fun e => absurd hr e, fun _ => ⟨hf, Or.inl ⟨h, hp⟩⟩⟩
theorem nu_five {t : Int → Int} {q sg r q' sg' na f p n a : Int} (h : 48 ≤ sg ∧ sg ≤ 57) (hd : dgs t q n) (hn : n = 4) (hp : p = q + n) (ha : a = t p) (hx : 48 ≤ a ∧ a ≤ 57) (hr : r = -1) (hf : f = 1) : nuQ t q sg r q' sg' na f p := by
  refine ⟨fun e => absurd hr e, fun _ => ⟨hf, Or.inr ⟨h, nd_at (dgs_up hd (n' := 5) (by omega) hp ha hx) (by omega) (fun q => absurd q (by omega)), by omega⟩⟩⟩
theorem nu_yes {t : Int → Int} {q sg r q' sg' na f p n a z b : Int} (h : 48 ≤ sg ∧ sg ≤ 57) (hd : dgs t q n) (hn : n ≤ 4) (hb : b = q + n) (ha : a = t b) (hx : ¬ (48 ≤ a ∧ a ≤ 57)) (hv : r = nvk t q n.toNat) (hr : 0 ≤ r) (h1 : q' = skp t b) (h2 : sg' = gsn t b q' z) (hz : ¬ z = 0) (hna : na = q) : nuQ t q sg r q' sg' na f p := by
  have e : nd t q = n := nd_at hd (by omega) (fun _ => by rw [← hb]; unfold isDg; rw [← ha]; exact hx)
  refine ⟨fun _ => ⟨h, by omega, by unfold nvn; rw [e]; exact hv, by rw [e, ← hb]; exact h1.symm, by rw [e, ← hb, h2]; exact gsn_w hz, hna, hr⟩, fun e => absurd e (by omega)⟩
/-- from the phase a to the phase b: what was read from q to q' is what the automaton reads there -/
def prQ (t : Int → Int) (a b : Int) (q sg o q' sg' r f p : Int) : Prop := (¬ r = 0 → svQ t q' sg' ∧ ∀ (K : List Int) (out : aOu), Rn t b q' sg' o K out → Rn t a q sg o K out) ∧ (r = 0 → ∀ K : List Int, Rn t a q sg o K (f, p, 0, 0))
def nopQ (sg r : Int) : Prop := ¬ r = 0 → ¬ (sg = 42 ∨ sg = 47 ∨ sg = 43 ∨ sg = 45)
theorem tsv {t : Int → Int} {q : Int} : svQ t q (t q) := Or.inr rfl
/-! sums and tests, as the class reads them -/
theorem pr_parF3 {t : Int → Int} {q sg o q' sg' r f p : Int} (hs : sg = 40) (ho : o = 6) (hr : r = 0) (hf : f = 3) (hp : p = q) : prQ t 1 2 q sg o q' sg' r f p := by
  subst hf
  subst hp
  exact ⟨fun e => absurd hr e, fun _ K => R1_parF hs ho⟩
theorem pr_par {t : Int → Int} {q sg o o1 q1 s1 q2 s2 q' sg' r f p r1 f1 p1 r2 f2 p2 r3 f3 p3 : Int} (ho : ¬ o = 6) (eo : o1 = o + 1) (h1 : rsQ t q sg 40 q1 s1 r1 f1 p1) (e1 : ¬ r1 = 0) (h2 : prQ t 1 2 q1 s1 o1 q2 s2 r2 f2 p2) (e2 : ¬ r2 = 0) (h3 : rsQ t q2 s2 41 q' sg' r3 f3 p3) (e3 : ¬ r3 = 0) (hr : ¬ r = 0) : prQ t 1 2 q sg o q' sg' r f p := by
  obtain ⟨a1, a2, a3⟩ := h1.1 e1
  obtain ⟨b1, b2⟩ := h2.1 e2
  obtain ⟨c1, c2, c3⟩ := h3.1 e3
  subst a3
  subst c3
  subst eo
  exact ⟨fun _ => ⟨tsv, fun K out h => R1_par a1 ho a2 (b2 (20 :: K) out (R2_close c1 (Or.inl rfl) c2 (by rw [show o + 1 - 1 = o by omega]; exact h)))⟩, fun e => absurd e hr⟩
theorem pr_parFs {t : Int → Int} {q sg o o1 q1 s1 q2 s2 q' sg' r r1 f1 p1 r2 f2 p2 : Int} (ho : ¬ o = 6) (eo : o1 = o + 1) (h1 : rsQ t q sg 40 q1 s1 r1 f1 p1) (e1 : ¬ r1 = 0) (h2 : prQ t 1 2 q1 s1 o1 q2 s2 r2 f2 p2) (e2 : r2 = 0) (hr : r = 0) : prQ t 1 2 q sg o q' sg' r f2 p2 := by
  obtain ⟨a1, a2, a3⟩ := h1.1 e1
  subst a3
  subst eo
  exact ⟨fun e => absurd hr e, fun _ K => R1_par a1 ho a2 (h2.2 e2 (20 :: K))⟩
theorem pr_parFc {t : Int → Int} {q sg o o1 q1 s1 q2 s2 q' sg' q3 s3 r f p r1 f1 p1 r2 f2 p2 r3 : Int} (ho : ¬ o = 6) (eo : o1 = o + 1) (h1 : rsQ t q sg 40 q1 s1 r1 f1 p1) (e1 : ¬ r1 = 0) (h2 : prQ t 1 2 q1 s1 o1 q2 s2 r2 f2 p2) (e2 : ¬ r2 = 0) (hn : nopQ s2 r2) (h3 : rsQ t q2 s2 41 q3 s3 r3 f p) (e3 : r3 = 0) (hr : r = 0) : prQ t 1 2 q sg o q' sg' r f p := by
  obtain ⟨a1, a2, a3⟩ := h1.1 e1
  obtain ⟨b1, b2⟩ := h2.1 e2
  obtain ⟨c1, c2, c3⟩ := h3.2 e3
  subst a3
  subst c2
  subst c3
  subst eo
  exact ⟨fun e => absurd hr e, fun _ K => R1_par a1 ho a2 (b2 (20 :: K) _ (R2_closeF c1 (Or.inl rfl) (hn e2)))⟩
theorem pr_six {t : Int → Int} {q sg o q' sg' r f p r1 : Int} {w : List Int} (h : twQ t q sg w q' sg' r1) (e : ¬ r1 = 0) (hw : w = wSender ∨ w = wSquare) (hv : svQ t q sg) (hr : ¬ r = 0) : prQ t 1 2 q sg o q' sg' r f p := by
  obtain ⟨a, b, c⟩ := h.1 e
  refine ⟨fun _ => ⟨?_, fun K out k => ?_⟩, fun e => absurd e hr⟩
  · rw [c]; exact sgn_sv
  · have hl : (w.length : Int) = 6 := by rcases hw with e | e <;> (subst e; rfl)
    rw [hl] at b c
    subst c
    exact R1_six (by rcases hw with e | e <;> (subst e; simp [a])) hv b k
theorem pr_peak {t : Int → Int} {q sg o q' sg' r f p r1 : Int} (h : twQ t q sg wPeak q' sg' r1) (e : ¬ r1 = 0) (hv : svQ t q sg) (hr : ¬ r = 0) : prQ t 1 2 q sg o q' sg' r f p := by
  obtain ⟨a, b, c⟩ := h.1 e
  refine ⟨fun _ => ⟨?_, fun K out k => ?_⟩, fun e => absurd e hr⟩
  · rw [c]; exact sgn_sv
  · subst c
    exact R1_Peak a hv b k
theorem pr_num {t : Int → Int} {q sg o q' sg' r f p r1 na : Int} (h : nuQ t q sg r1 q' sg' na f p) (hs : ¬ sg = 40) (h1 : ¬ wd t q sg wMin) (h2 : ¬ wd t q sg wMax) (h3 : ¬ wd t q sg wSender) (h4 : ¬ wd t q sg wSquare) (h5 : ¬ wd t q sg wPeak) (hv : svQ t q sg) (hr : r = 0 ↔ r1 = -1) : prQ t 1 2 q sg o q' sg' r f p := by
  refine ⟨fun e => ?_, fun e K => ?_⟩
  · obtain ⟨a, b, _, c, d, _⟩ := h.1 (fun x => e (hr.mpr x))
    refine ⟨by rw [d]; exact sgn_sv, fun K out k => ?_⟩
    subst d
    exact R1_num a hv rfl b c k
  · obtain ⟨a, b⟩ := h.2 (hr.mp e)
    subst a
    rcases b with ⟨b1, b2⟩ | ⟨b1, b2, b3⟩
    · subst b2
      exact R1_numF b1 hs h1 h2 h3 h4 h5
    · subst b3
      exact R1_num5 b1 hv b2
def paQ (t : Int → Int) (q sg o q' sg' r f p : Int) : Prop := (¬ r = 0 → svQ t q' sg' ∧ ∀ (ph : Int) (K : List Int) (out : aOu), (ph = 5 ∨ ph = 6) → Rn t 2 q' sg' o K out → Rn t ph q sg o K out) ∧ (r = 0 → ∀ (ph : Int) (K : List Int), (ph = 5 ∨ ph = 6) → Rn t ph q sg o K (f, p, 0, 0))
theorem pa_F1 {t : Int → Int} {q sg o q' sg' r f p : Int} (hs : ¬ sg = 40) (hr : r = 0) (hf : f = 1) (hp : p = q) : paQ t q sg o q' sg' r f p := by
  subst hf
  subst hp
  exact ⟨fun e => absurd hr e, fun _ ph K h => R5_F1 h hs⟩
theorem pa_F3 {t : Int → Int} {q sg o q' sg' r f p : Int} (hs : sg = 40) (ho : o = 6) (hr : r = 0) (hf : f = 3) (hp : p = q) : paQ t q sg o q' sg' r f p := by
  subst hf
  subst hp
  exact ⟨fun e => absurd hr e, fun _ ph K h => R5_F3 h hs ho⟩
theorem pa_Fa {t : Int → Int} {q sg o o1 q1 s1 q2 s2 q' sg' r r1 f1 p1 r2 f2 p2 : Int} (ho : ¬ o = 6) (eo : o1 = o + 1) (h1 : rsQ t q sg 40 q1 s1 r1 f1 p1) (e1 : ¬ r1 = 0) (h2 : prQ t 1 2 q1 s1 o1 q2 s2 r2 f2 p2) (e2 : r2 = 0) (hr : r = 0) : paQ t q sg o q' sg' r f2 p2 := by
  obtain ⟨a1, a2, a3⟩ := h1.1 e1
  subst a3
  subst eo
  exact ⟨fun e => absurd hr e, fun _ ph K h => R5_go h a1 ho a2 (h2.2 e2 _)⟩
theorem pa_Fk {t : Int → Int} {q sg o o1 q1 s1 q2 s2 q3 s3 q' sg' r f p r1 f1 p1 r2 f2 p2 r3 : Int} (ho : ¬ o = 6) (eo : o1 = o + 1) (h1 : rsQ t q sg 40 q1 s1 r1 f1 p1) (e1 : ¬ r1 = 0) (h2 : prQ t 1 2 q1 s1 o1 q2 s2 r2 f2 p2) (e2 : ¬ r2 = 0) (hn : nopQ s2 r2) (h3 : rsQ t q2 s2 44 q3 s3 r3 f p) (e3 : r3 = 0) (hr : r = 0) : paQ t q sg o q' sg' r f p := by
  obtain ⟨a1, a2, a3⟩ := h1.1 e1
  obtain ⟨b1, b2⟩ := h2.1 e2
  obtain ⟨c1, c2, c3⟩ := h3.2 e3
  subst a3
  subst eo
  subst c2
  subst c3
  exact ⟨fun e => absurd hr e, fun _ ph K h => R5_go h a1 ho a2 (b2 _ _ (R2_commaF c1 (by omega) (hn e2)))⟩
theorem pa_Fb {t : Int → Int} {q sg o o1 o3 q1 s1 q2 s2 q3 s3 q4 s4 q' sg' r r1 f1 p1 r2 f2 p2 r3 f3 p3 r4 f4 p4 : Int} (ho : ¬ o = 6) (eo : o1 = o + 1) (h1 : rsQ t q sg 40 q1 s1 r1 f1 p1) (e1 : ¬ r1 = 0) (h2 : prQ t 1 2 q1 s1 o1 q2 s2 r2 f2 p2) (e2 : ¬ r2 = 0) (h3 : rsQ t q2 s2 44 q3 s3 r3 f3 p3) (e3 : ¬ r3 = 0) (h4 : prQ t 1 2 q3 s3 o3 q4 s4 r4 f4 p4) (eo3 : o3 = o1) (e4 : r4 = 0) (hr : r = 0) : paQ t q sg o q' sg' r f4 p4 := by
  obtain ⟨a1, a2, a3⟩ := h1.1 e1
  obtain ⟨b1, b2⟩ := h2.1 e2
  obtain ⟨c1, c2, c3⟩ := h3.1 e3
  subst eo3
  subst a3
  subst eo
  subst c3
  exact ⟨fun e => absurd hr e, fun _ ph K h => R5_go h a1 ho a2 (b2 _ _ (R2_comma c1 (by omega) c2 (h4.2 e4 _)))⟩
theorem pa_Fc {t : Int → Int} {q sg o o1 o3 q1 s1 q2 s2 q3 s3 q4 s4 q5 s5 q' sg' r f p r1 f1 p1 r2 f2 p2 r3 f3 p3 r4 f4 p4 r5 : Int} (ho : ¬ o = 6) (eo : o1 = o + 1) (h1 : rsQ t q sg 40 q1 s1 r1 f1 p1) (e1 : ¬ r1 = 0) (h2 : prQ t 1 2 q1 s1 o1 q2 s2 r2 f2 p2) (e2 : ¬ r2 = 0) (h3 : rsQ t q2 s2 44 q3 s3 r3 f3 p3) (e3 : ¬ r3 = 0) (h4 : prQ t 1 2 q3 s3 o3 q4 s4 r4 f4 p4) (eo3 : o3 = o1) (e4 : ¬ r4 = 0) (hn : nopQ s4 r4) (h5 : rsQ t q4 s4 41 q5 s5 r5 f p) (e5 : r5 = 0) (hr : r = 0) : paQ t q sg o q' sg' r f p := by
  obtain ⟨a1, a2, a3⟩ := h1.1 e1
  obtain ⟨b1, b2⟩ := h2.1 e2
  obtain ⟨c1, c2, c3⟩ := h3.1 e3
  obtain ⟨d1, d2⟩ := h4.1 e4
  obtain ⟨g1, g2, g3⟩ := h5.2 e5
  subst eo3
  subst a3
  subst eo
  subst c3
  subst g2
  subst g3
  exact ⟨fun e => absurd hr e, fun _ ph K h => R5_go h a1 ho a2 (b2 _ _ (R2_comma c1 (by omega) c2 (d2 _ _ (R2_closeF g1 (by omega) (hn e4)))))⟩
theorem pa_yes {t : Int → Int} {q sg o o1 o3 q1 s1 q2 s2 q3 s3 q4 s4 q' sg' r f p r1 f1 p1 r2 f2 p2 r3 f3 p3 r4 f4 p4 r5 f5 p5 : Int} (ho : ¬ o = 6) (eo : o1 = o + 1) (h1 : rsQ t q sg 40 q1 s1 r1 f1 p1) (e1 : ¬ r1 = 0) (h2 : prQ t 1 2 q1 s1 o1 q2 s2 r2 f2 p2) (e2 : ¬ r2 = 0) (h3 : rsQ t q2 s2 44 q3 s3 r3 f3 p3) (e3 : ¬ r3 = 0) (h4 : prQ t 1 2 q3 s3 o3 q4 s4 r4 f4 p4) (eo3 : o3 = o1) (e4 : ¬ r4 = 0) (h5 : rsQ t q4 s4 41 q' sg' r5 f5 p5) (e5 : ¬ r5 = 0) (hr : ¬ r = 0) : paQ t q sg o q' sg' r f p := by
  obtain ⟨a1, a2, a3⟩ := h1.1 e1
  obtain ⟨b1, b2⟩ := h2.1 e2
  obtain ⟨c1, c2, c3⟩ := h3.1 e3
  obtain ⟨d1, d2⟩ := h4.1 e4
  obtain ⟨g1, g2, g3⟩ := h5.1 e5
  subst eo3
  subst a3
  subst eo
  subst c3
  subst g3
  exact ⟨fun _ => ⟨tsv, fun ph K out h k => R5_go h a1 ho a2 (b2 _ _ (R2_comma c1 (by omega) c2 (d2 _ _ (R2_close g1 (by omega) g2 (by rw [show o + 1 - 1 = o by omega]; exact k)))))⟩, fun e => absurd e hr⟩
theorem pr_min {t : Int → Int} {q sg o q1 s1 q' sg' r f p r1 r2 : Int} (h : twQ t q sg wMin q1 s1 r1) (e : ¬ r1 = 0) (h2 : paQ t q1 s1 o q' sg' r2 f p) (hv : svQ t q sg) (hr : r = 0 ↔ r2 = 0) : prQ t 1 2 q sg o q' sg' r f p := by
  obtain ⟨a, b, c⟩ := h.1 e
  subst c
  refine ⟨fun e => ?_, fun e K => ?_⟩
  · obtain ⟨d1, d2⟩ := h2.1 (fun x => e (hr.mpr x))
    exact ⟨d1, fun K out k => R1_Min a hv b (d2 5 K out (by omega) k)⟩
  · exact R1_Min a hv b (h2.2 (hr.mp e) 5 K (by omega))
theorem pr_max {t : Int → Int} {q sg o q1 s1 q' sg' r f p r1 r2 : Int} (h : twQ t q sg wMax q1 s1 r1) (e : ¬ r1 = 0) (h2 : paQ t q1 s1 o q' sg' r2 f p) (hv : svQ t q sg) (hr : r = 0 ↔ r2 = 0) : prQ t 1 2 q sg o q' sg' r f p := by
  obtain ⟨a, b, c⟩ := h.1 e
  subst c
  refine ⟨fun e => ?_, fun e K => ?_⟩
  · obtain ⟨d1, d2⟩ := h2.1 (fun x => e (hr.mpr x))
    exact ⟨d1, fun K out k => R1_Max a hv b (d2 6 K out (by omega) k)⟩
  · exact R1_Max a hv b (h2.2 (hr.mp e) 6 K (by omega))
theorem pr_op {t : Int → Int} {q sg o o1 q1 s1 q2 s2 q3 s3 g0 f0 p0 c r1 r2 r f p : Int} (h : prQ t 1 2 q sg o q1 s1 g0 f0 p0) (hg : ¬ g0 = 0) (hs : tsQ t q1 s1 c q2 s2 r1) (e1 : ¬ r1 = 0) (hc : c = 42 ∨ c = 47 ∨ c = 43 ∨ c = 45) (h2 : prQ t 1 2 q2 s2 o1 q3 s3 r2 f p) (eo : o1 = o) (hr : r = 0 ↔ r2 = 0) : prQ t 1 2 q sg o q3 s3 r f p := by
  subst eo
  obtain ⟨a, b, d⟩ := hs.1 e1
  subst d
  refine ⟨fun e => ?_, fun e K => ?_⟩
  · obtain ⟨g1, g2⟩ := h2.1 (fun x => e (hr.mpr x))
    exact ⟨g1, fun K out k => (h.1 hg).2 K out (R2_op (by omega) b (g2 K out k))⟩
  · exact (h.1 hg).2 K _ (R2_op (by omega) b (h2.2 (hr.mp e) K))
theorem pr_same {t : Int → Int} {a b q sg o q' sg' q2 s2 r r2 f p : Int} (h : prQ t a b q sg o q' sg' r f p) (hr : r2 = 0 ↔ r = 0) (e1 : q2 = q') (e2 : s2 = sg') : prQ t a b q sg o q2 s2 r2 f p := by
  subst e1
  subst e2
  exact ⟨fun e => h.1 (fun x => e (hr.mpr x)), fun e => h.2 (hr.mp e)⟩
/-! tests -/
def prT (t : Int → Int) (q sg o q' sg' r f p : Int) : Prop := (¬ r = 0 → svQ t q' sg' ∧ ∀ (K : List Int) (out : aOu), ¬ hd9 K = 16 → Rn t 4 q' sg' o K out → Rn t 3 q sg o K out) ∧ (r = 0 → ∀ K : List Int, ¬ hd9 K = 16 → Rn t 3 q sg o K (f, p, 0, 0))
theorem pf_notF3 {t : Int → Int} {q sg o q' sg' r f p r1 : Int} (h : waQ t q sg wNot r1) (e : ¬ r1 = 0) (ho : o = 6) (hr : r = 0) (hf : f = 3) (hp : p = q) : prQ t 3 4 q sg o q' sg' r f p := by
  subst hf
  subst hp
  exact ⟨fun e => absurd hr e, fun _ K => R3_notF (h.1 e) ho⟩
theorem pf_not {t : Int → Int} {q sg o o1 q1 s1 q' sg' r f p r1 f1 p1 r2 : Int} (ho : ¬ o = 6) (eo : o1 = o + 1) (h : rwQ t q sg wNot q1 s1 r1 f1 p1) (e : ¬ r1 = 0) (h2 : prQ t 3 4 q1 s1 o1 q' sg' r2 f p) (hr : r = 0 ↔ r2 = 0) : prQ t 3 4 q sg o q' sg' r f p := by
  obtain ⟨a, b, c⟩ := h.1 e
  subst c
  subst eo
  refine ⟨fun e => ?_, fun e K => ?_⟩
  · obtain ⟨d1, d2⟩ := h2.1 (fun x => e (hr.mpr x))
    exact ⟨d1, fun K out k => R3_not a ho b (d2 (16 :: K) out (R4_not (by rw [show o + 1 - 1 = o by omega]; exact k)))⟩
  · exact R3_not a ho b (h2.2 (hr.mp e) (16 :: K))
theorem pf_sqF3 {t : Int → Int} {q sg o q' sg' r f p : Int} (hs : sg = 91) (hv : svQ t q sg) (ho : o = 6) (hr : r = 0) (hf : f = 3) (hp : p = q) : prQ t 3 4 q sg o q' sg' r f p := by
  subst hf
  subst hp
  exact ⟨fun e => absurd hr e, fun _ K => R3_sqF hs hv ho⟩
theorem hd_25 {K : List Int} : ¬ hd9 (25 :: K) = 16 := fun h => absurd (show (25 : Int) = 16 from h) (by decide)
theorem pf_sqFt {t : Int → Int} {q sg o o1 q1 s1 q2 s2 q' sg' r f p r1 f1 p1 r2 : Int} (hv : svQ t q sg) (ho : ¬ o = 6) (eo : o1 = o + 1) (h : rsQ t q sg 91 q1 s1 r1 f1 p1) (e : ¬ r1 = 0) (h2 : prT t q1 s1 o1 q2 s2 r2 f p) (e2 : r2 = 0) (hr : r = 0) : prQ t 3 4 q sg o q' sg' r f p := by
  obtain ⟨a, b, c⟩ := h.1 e
  subst c
  subst eo
  exact ⟨fun e => absurd hr e, fun _ K => R3_sq a hv ho b (h2.2 e2 (25 :: K) hd_25)⟩
theorem pf_sqFc {t : Int → Int} {q sg o o1 q1 s1 q2 s2 q3 s3 q' sg' r f p r1 f1 p1 r2 f2 p2 r3 : Int} (hv : svQ t q sg) (ho : ¬ o = 6) (eo : o1 = o + 1) (h : rsQ t q sg 91 q1 s1 r1 f1 p1) (e : ¬ r1 = 0) (h2 : prT t q1 s1 o1 q2 s2 r2 f2 p2) (e2 : ¬ r2 = 0) (na : ¬ wd t q2 s2 wAnd) (no : ¬ wd t q2 s2 wOr) (h3 : rsQ t q2 s2 93 q3 s3 r3 f p) (e3 : r3 = 0) (hr : r = 0) : prQ t 3 4 q sg o q' sg' r f p := by
  obtain ⟨a, b, c⟩ := h.1 e
  obtain ⟨d1, d2⟩ := h2.1 e2
  obtain ⟨g1, g2, g3⟩ := h3.2 e3
  subst c
  subst eo
  subst g2
  subst g3
  exact ⟨fun e => absurd hr e, fun _ K => R3_sq a hv ho b (d2 (25 :: K) _ hd_25 (R4_sqF g1 na no))⟩
theorem pf_sq {t : Int → Int} {q sg o o1 q1 s1 q2 s2 q' sg' r f p r1 f1 p1 r2 f2 p2 r3 f3 p3 : Int} (hv : svQ t q sg) (ho : ¬ o = 6) (eo : o1 = o + 1) (h : rsQ t q sg 91 q1 s1 r1 f1 p1) (e : ¬ r1 = 0) (h2 : prT t q1 s1 o1 q2 s2 r2 f2 p2) (e2 : ¬ r2 = 0) (h3 : rsQ t q2 s2 93 q' sg' r3 f3 p3) (e3 : ¬ r3 = 0) (hr : ¬ r = 0) : prQ t 3 4 q sg o q' sg' r f p := by
  obtain ⟨a, b, c⟩ := h.1 e
  obtain ⟨d1, d2⟩ := h2.1 e2
  obtain ⟨g1, g2, g3⟩ := h3.1 e3
  subst c
  subst eo
  subst g3
  exact ⟨fun _ => ⟨tsv, fun K out k => R3_sq a hv ho b (d2 (25 :: K) _ hd_25 (R4_sq g1 g2 (by rw [show o + 1 - 1 = o by omega]; exact k)))⟩, fun e => absurd e hr⟩
theorem pf_all {t : Int → Int} {q sg o q' sg' r f p r1 : Int} (h : twQ t q sg wAll q' sg' r1) (e : ¬ r1 = 0) (hv : svQ t q sg) (hr : ¬ r = 0) : prQ t 3 4 q sg o q' sg' r f p := by
  obtain ⟨a, b, c⟩ := h.1 e
  refine ⟨fun _ => ⟨?_, fun K out k => ?_⟩, fun e => absurd e hr⟩
  · rw [c]; exact sgn_sv
  · subst c
    exact R3_all a hv b k
theorem pf_sumF {t : Int → Int} {q sg o q1 s1 q' sg' r f p r1 : Int} (h1 : ¬ wd t q sg wNot) (h2 : ¬ sg = 91) (h3 : ¬ wd t q sg wAll) (h : prQ t 1 2 q sg o q1 s1 r1 f p) (e : r1 = 0) (hr : r = 0) : prQ t 3 4 q sg o q' sg' r f p :=
  ⟨fun e => absurd hr e, fun _ K => R3_sum h1 h2 h3 (h.2 e _)⟩
theorem pf_cmpF {t : Int → Int} {q sg o q1 s1 q' sg' r f p r1 f1 p1 : Int} (h1 : ¬ wd t q sg wNot) (h2 : ¬ sg = 91) (h3 : ¬ wd t q sg wAll) (h : prQ t 1 2 q sg o q1 s1 r1 f1 p1) (e : ¬ r1 = 0) (hn : nopQ s1 r1) (hc : ¬ (s1 = 60 ∨ s1 = 61 ∨ s1 = 62)) (hr : r = 0) (hf : f = 1) (hp : p = q1) : prQ t 3 4 q sg o q' sg' r f p := by
  subst hf
  subst hp
  exact ⟨fun e => absurd hr e, fun _ K => R3_sum h1 h2 h3 ((h.1 e).2 _ _ (R2_cmpF hc (hn e)))⟩
theorem pf_cmp {t : Int → Int} {q sg o o3 q1 s1 q2 s2 b z q' sg' r f p r1 f1 p1 r2 : Int} (h1 : ¬ wd t q sg wNot) (h2 : ¬ sg = 91) (h3 : ¬ wd t q sg wAll) (h : prQ t 1 2 q sg o q1 s1 r1 f1 p1) (e : ¬ r1 = 0) (hc : s1 = 60 ∨ s1 = 61 ∨ s1 = 62) (hb : b = q1 + 1) (ha : q2 = skp t b) (hs : s2 = gsn t b q2 z) (hz : z = 0) (h4 : prQ t 1 2 q2 s2 o3 q' sg' r2 f p) (eo3 : o3 = o) (hn : nopQ sg' r2) (hr : r = 0 ↔ r2 = 0) : prQ t 3 4 q sg o q' sg' r f p := by
  subst eo3
  subst hb
  have hs2 : s2 = t q2 := hs.trans (gsn_t (Or.inl hz))
  subst hs2
  refine ⟨fun e9 => ?_, fun e9 K => ?_⟩
  · have e8 : ¬ r2 = 0 := fun x => e9 (hr.mpr x)
    obtain ⟨d1, d2⟩ := h4.1 e8
    exact ⟨d1, fun K out k => R3_sum h1 h2 h3 ((h.1 e).2 _ _ (R2_cmp hc ha.symm (d2 _ _ (R2_end (hn e8) k))))⟩
  · exact R3_sum h1 h2 h3 ((h.1 e).2 _ _ (R2_cmp hc ha.symm (h4.2 (hr.mp e9) _)))
theorem pT_of {t : Int → Int} {q sg o q' sg' r r2 f p : Int} (h : prQ t 3 4 q sg o q' sg' r f p) (hr : r2 = 0 ↔ r = 0) : prT t q sg o q' sg' r2 f p :=
  ⟨fun e => ⟨(h.1 (fun x => e (hr.mpr x))).1, fun K out _ k => (h.1 (fun x => e (hr.mpr x))).2 K out k⟩, fun e K _ => h.2 (hr.mp e) K⟩
theorem pT_and {t : Int → Int} {q sg o o1 q1 s1 q2 s2 q3 s3 g0 f0 p0 r1 r2 r f p : Int} (h : prT t q sg o q1 s1 g0 f0 p0) (hg : ¬ g0 = 0) (hw : twQ t q1 s1 wAnd q2 s2 r1) (e1 : ¬ r1 = 0) (h2 : prQ t 3 4 q2 s2 o1 q3 s3 r2 f p) (eo : o1 = o) (hr : r = 0 ↔ r2 = 0) : prT t q sg o q3 s3 r f p := by
  subst eo
  obtain ⟨a, b, d⟩ := hw.1 e1
  subst d
  have hv := (h.1 hg).1
  refine ⟨fun e => ?_, fun e K hk => ?_⟩
  · obtain ⟨g1, g2⟩ := h2.1 (fun x => e (hr.mpr x))
    exact ⟨g1, fun K out hk k => (h.1 hg).2 K out hk (R4_and hk a hv b (g2 K out k))⟩
  · exact (h.1 hg).2 K _ hk (R4_and hk a hv b (h2.2 (hr.mp e) K))
theorem pT_or {t : Int → Int} {q sg o o1 q1 s1 q2 s2 q3 s3 g0 f0 p0 r1 r2 r f p : Int} (h : prT t q sg o q1 s1 g0 f0 p0) (hg : ¬ g0 = 0) (hw : twQ t q1 s1 wOr q2 s2 r1) (e1 : ¬ r1 = 0) (h2 : prT t q2 s2 o1 q3 s3 r2 f p) (eo : o1 = o) (hr : r = 0 ↔ r2 = 0) : prT t q sg o q3 s3 r f p := by
  subst eo
  obtain ⟨a, b, d⟩ := hw.1 e1
  subst d
  have hv := (h.1 hg).1
  refine ⟨fun e => ?_, fun e K hk => ?_⟩
  · obtain ⟨g1, g2⟩ := h2.1 (fun x => e (hr.mpr x))
    exact ⟨g1, fun K out hk k => (h.1 hg).2 K out hk (R4_or hk a hv b (g2 K out hk k))⟩
  · exact (h.1 hg).2 K _ hk (R4_or hk a hv b (h2.2 (hr.mp e) K hk))
/-- a rule: the automaton's answer from its sum on -/
def ruQ (t : Int → Int) (q sg q' sg' r f p : Int) : Prop := (¬ r = 0 → svQ t q' sg' ∧ Rn t 1 q sg 0 [30] (0, 0, q', sg')) ∧ (r = 0 → Rn t 1 q sg 0 [30] (f, p, 0, 0))
theorem ru_Fs {t : Int → Int} {q sg o q1 s1 q' sg' r f p r1 : Int} (ho : o = 0) (h : prQ t 1 2 q sg o q1 s1 r1 f p) (e : r1 = 0) (hr : r = 0) : ruQ t q sg q' sg' r f p := by
  subst ho
  exact ⟨fun e => absurd hr e, fun _ => h.2 e _⟩
theorem ru_Fw {t : Int → Int} {q sg o q1 s1 q2 s2 q' sg' r f p r1 f1 p1 r2 : Int} (ho : o = 0) (h : prQ t 1 2 q sg o q1 s1 r1 f1 p1) (e : ¬ r1 = 0) (hn : nopQ s1 r1) (h2 : rwQ t q1 s1 wWhen q2 s2 r2 f p) (e2 : r2 = 0) (hr : r = 0) : ruQ t q sg q' sg' r f p := by
  obtain ⟨a, b, c⟩ := h2.2 e2
  subst ho
  subst b
  subst c
  exact ⟨fun e => absurd hr e, fun _ => (h.1 e).2 _ _ (R2_whenF a (hn e))⟩
theorem hd_nil : ¬ hd9 [] = 16 := fun h => absurd (show (99 : Int) = 16 from h) (by decide)
theorem ru_Ft {t : Int → Int} {q sg o o3 q1 s1 q2 s2 q3 s3 q' sg' r f p r1 f1 p1 r2 f2 p2 r3 : Int} (ho : o = 0) (h : prQ t 1 2 q sg o q1 s1 r1 f1 p1) (e : ¬ r1 = 0) (h2 : rwQ t q1 s1 wWhen q2 s2 r2 f2 p2) (e2 : ¬ r2 = 0) (h3 : prT t q2 s2 o3 q3 s3 r3 f p) (eo3 : o3 = o) (e3 : r3 = 0) (hr : r = 0) : ruQ t q sg q' sg' r f p := by
  obtain ⟨a, b, c⟩ := h2.1 e2
  subst eo3
  subst ho
  subst c
  exact ⟨fun e => absurd hr e, fun _ => (h.1 e).2 _ _ (R2_when a (h.1 e).1 b (h3.2 e3 [] hd_nil))⟩
theorem ru_yes {t : Int → Int} {q sg o o3 q1 s1 q2 s2 q' sg' r f p r1 f1 p1 r2 f2 p2 r3 f3 p3 : Int} (ho : o = 0) (h : prQ t 1 2 q sg o q1 s1 r1 f1 p1) (e : ¬ r1 = 0) (h2 : rwQ t q1 s1 wWhen q2 s2 r2 f2 p2) (e2 : ¬ r2 = 0) (h3 : prT t q2 s2 o3 q' sg' r3 f3 p3) (eo3 : o3 = o) (e3 : ¬ r3 = 0) (na : ¬ wd t q' sg' wAnd) (no : ¬ wd t q' sg' wOr) (hr : ¬ r = 0) : ruQ t q sg q' sg' r f p := by
  obtain ⟨a, b, c⟩ := h2.1 e2
  subst eo3
  subst ho
  subst c
  exact ⟨fun _ => ⟨(h3.1 e3).1, (h.1 e).2 _ _ (R2_when a (h.1 e).1 b ((h3.1 e3).2 [] _ hd_nil (R4_end (K := []) na no)))⟩, fun e => absurd e hr⟩
theorem pr_at {t : Int → Int} {a b q sg q1 s1 o q' sg' r f p : Int} (e1 : q1 = q) (e2 : s1 = sg) (h : prQ t a b q1 s1 o q' sg' r f p) : prQ t a b q sg o q' sg' r f p := by
  subst e1
  subst e2
  exact h
theorem pr_wd {t : Int → Int} {q sg q1 s1 : Int} {w : List Int} (h : ¬ wd t q sg w) (e1 : q1 = q) (e2 : s1 = sg) : ¬ wd t q1 s1 w := by
  subst e1
  subst e2
  exact h
theorem pr_hop {t : Int → Int} {q sg o q1 s1 q2 s2 g0 f p c r1 : Int} (h : prQ t 1 2 q sg o q1 s1 g0 f p) (h1 : tsQ t q1 s1 c q2 s2 r1) (e1 : r1 = 0) : prQ t 1 2 q sg o q2 s2 g0 f p := by
  obtain ⟨_, a, b⟩ := h1.2 e1
  subst a
  subst b
  exact h
theorem pr_hop2 {t : Int → Int} {q sg o q1 s1 q2 s2 q3 s3 g0 f p c r1 d r2 r : Int} (h : prQ t 1 2 q sg o q1 s1 g0 f p) (h1 : tsQ t q1 s1 c q2 s2 r1) (e1 : r1 = 0) (h2 : tsQ t q2 s2 d q3 s3 r2) (e2 : r2 = 0) (hr : r = 0 ↔ g0 = 0) : prQ t 1 2 q sg o q3 s3 r f p :=
  pr_same (pr_hop (pr_hop h h1 e1) h2 e2) hr rfl rfl
def npP (sg r : Int) : Prop := ¬ r = 0 → ¬ (sg = 42 ∨ sg = 47)
theorem np_ts {t : Int → Int} {q1 s1 q2 s2 q3 s3 c r1 d r2 : Int} (h1 : tsQ t q1 s1 c q2 s2 r1) (e1 : r1 = 0) (h2 : tsQ t q2 s2 d q3 s3 r2) (e2 : r2 = 0) : ¬ (s3 = c ∨ s3 = d) := by
  obtain ⟨a, _, b⟩ := h1.2 e1
  obtain ⟨a', _, b'⟩ := h2.2 e2
  omega
theorem np_keep {t : Int → Int} {q1 s1 q2 s2 q3 s3 c r1 d r2 : Int} (h1 : tsQ t q1 s1 c q2 s2 r1) (e1 : r1 = 0) (h2 : tsQ t q2 s2 d q3 s3 r2) (e2 : r2 = 0) : s3 = s1 := by
  obtain ⟨a, _, b⟩ := h1.2 e1
  obtain ⟨a', _, b'⟩ := h2.2 e2
  omega
theorem sv_end {f : Nat → Int32} {n q sg : Int} (h : svQ (taub f n) q sg) (h1 : n ≤ q) : sg = -1 := by
  have e := taub_out (f := f) (n := n) (i := q) (Or.inr h1)
  rcases h with a | a
  · have := a.2
    unfold isSm isDg at this
    omega
  · omega
theorem wd_end {f : Nat → Int32} {n q sg a : Int} {w : List Int} (h1 : n ≤ q) (ha : 0 ≤ a) : ¬ wd (taub f n) q sg (a :: w) := by
  intro h
  have e := taub_out (f := f) (n := n) (i := q) (Or.inr h1)
  have := wd_0 h
  omega
theorem pT_hop {t : Int → Int} {q sg o q1 s1 q2 s2 g0 f p r1 : Int} {w : List Int} (h : prT t q sg o q1 s1 g0 f p) (h1 : twQ t q1 s1 w q2 s2 r1) (e1 : r1 = 0) : prT t q sg o q2 s2 g0 f p := by
  obtain ⟨_, a, b⟩ := h1.2 e1
  subst a
  subst b
  exact h
theorem tw_not {t : Int → Int} {q sg q' sg' r : Int} {w : List Int} (h : twQ t q sg w q' sg' r) (e : r = 0) : ¬ wd t q' sg' w := by
  obtain ⟨a, b, c⟩ := h.2 e
  subst b
  subst c
  exact a
theorem tw_not2 {t : Int → Int} {q sg q' sg' r : Int} {w w2 : List Int} (h : twQ t q sg w q' sg' r) (e : r = 0) (hn : ¬ wd t q sg w2) : ¬ wd t q' sg' w2 := by
  obtain ⟨a, b, c⟩ := h.2 e
  subst b
  subst c
  exact hn
/-! numbers, rows, statements: functions of the text -/
abbrev sR : Type := Int × Int × Int × Int × Int
noncomputable def nuF (t : Int → Int) (q sg : Int) : sR := ci (isDg sg) (ci (nd t q = 5) (1, q + 4, 0, 0, 0) (0, 0, nvn t q, skp t (q + nd t q), sgn t (skp t (q + nd t q)) (q + nd t q))) (1, q, 0, 0, 0)
theorem nuF_yes {t : Int → Int} {q sg r q' sg' na f p : Int} (h : nuQ t q sg r q' sg' na f p) (e : ¬ r = -1) : nuF t q sg = (0, 0, r, q', sg') := by
  obtain ⟨a, b, c, d, g, _⟩ := h.1 e
  unfold nuF
  rw [ci_pos a, ci_neg (by omega), ← c, d, ← g]
theorem nuF_no {t : Int → Int} {q sg r q' sg' na f p : Int} (h : nuQ t q sg r q' sg' na f p) (e : r = -1) : nuF t q sg = (f, p, 0, 0, 0) := by
  obtain ⟨a, b⟩ := h.2 e
  subst a
  unfold nuF
  rcases b with ⟨b, c⟩ | ⟨b, c, d⟩
  · subst c; rw [ci_neg b]
  · subst d; rw [ci_pos b, ci_pos c]
theorem nu_sv {t : Int → Int} {q sg r q' sg' na f p : Int} (h : nuQ t q sg r q' sg' na f p) (e : ¬ r = -1) : svQ t q' sg' := by
  obtain ⟨a, b, c, d, g, _⟩ := h.1 e
  rw [g]; exact sgn_sv
/-- what a method that answers bad on a fault tells: its function of the text -/
def fnQ (x : sR) (t : Int → Int) (r bad q' sg' f p : Int) : Prop := (¬ r = bad → x = (0, 0, r, q', sg') ∧ svQ t q' sg') ∧ (r = bad → x = (f, p, 0, 0, 0) ∧ ¬ f = 0)
noncomputable def btF (t : Int → Int) (q sg lo hi : Int) : sR := ci ((nuF t q sg).1 = 0 ∧ ¬ (lo ≤ (nuF t q sg).2.2.1 ∧ (nuF t q sg).2.2.1 ≤ hi)) (2, q, 0, 0, 0) (nuF t q sg)
theorem bt_no {t : Int → Int} {q sg lo hi r1 r q1 s1 q' sg' na f p : Int} (h : nuQ t q sg r1 q1 s1 na f p) (e : r1 = -1) (hr : r = -1) : fnQ (btF t q sg lo hi) t r (-1) q' sg' f p := by
  have a := nuF_no h e
  have b := (h.2 e).1
  refine ⟨fun e => absurd hr e, fun _ => ⟨?_, by omega⟩⟩
  unfold btF
  rw [a, ci_neg (fun x => by have : f = 0 := x.1; omega)]
theorem bt_out {t : Int → Int} {q sg lo hi r1 r q1 s1 q' sg' na f0 p0 f p : Int} (h : nuQ t q sg r1 q1 s1 na f0 p0) (e : ¬ r1 = -1) (ho : ¬ (lo ≤ r1 ∧ r1 ≤ hi)) (hr : r = -1) (hf : f = 2) (hp : p = q) : fnQ (btF t q sg lo hi) t r (-1) q' sg' f p := by
  have a := nuF_yes h e
  subst hf
  subst hp
  refine ⟨fun e => absurd hr e, fun _ => ⟨?_, by omega⟩⟩
  unfold btF
  rw [a, ci_pos ⟨rfl, ho⟩]
theorem bt_yes {t : Int → Int} {q sg lo hi r q' sg' na f p : Int} (h : nuQ t q sg r q' sg' na f p) (e : ¬ r = -1) (ho : lo ≤ r ∧ r ≤ hi) : fnQ (btF t q sg lo hi) t r (-1) q' sg' f p := by
  have a := nuF_yes h e
  refine ⟨fun e => ⟨?_, nu_sv h e⟩, fun x => absurd x e⟩
  unfold btF
  rw [a, ci_neg (fun x => x.2 ho)]
noncomputable def sdF (t : Int → Int) (q sg : Int) : sR := ci (sg = 45) ((nuF t (skp t (q + 1)) (t (skp t (q + 1)))).1, (nuF t (skp t (q + 1)) (t (skp t (q + 1)))).2.1, -(nuF t (skp t (q + 1)) (t (skp t (q + 1)))).2.2.1, (nuF t (skp t (q + 1)) (t (skp t (q + 1)))).2.2.2) (nuF t q sg)
theorem sd_no {t : Int → Int} {c0 q sg q1 s1 r1 r2 r q2 s2 q' sg' na f p : Int} (h1 : tsQ t q sg c0 q1 s1 r1) (hc : c0 = 45) (h : nuQ t q1 s1 r2 q2 s2 na f p) (e : r2 = -1) (hr : r = -1000000000) : fnQ (sdF t q sg) t r (-1000000000) q' sg' f p := by
  subst hc
  have a := nuF_no h e
  have b := (h.2 e).1
  refine ⟨fun e => absurd hr e, fun _ => ⟨?_, by omega⟩⟩
  unfold sdF
  by_cases c : r1 = 0
  · obtain ⟨c1, c2, c3⟩ := h1.2 c
    subst c2
    subst c3
    rw [ci_neg c1, a]
  · obtain ⟨c1, c2, c3⟩ := h1.1 c
    subst c3
    rw [ci_pos c1, c2, a]
    rfl
theorem sd_yes {t : Int → Int} {c0 q sg q1 s1 r1 r2 r q' sg' na f0 p0 f p : Int} (h1 : tsQ t q sg c0 q1 s1 r1) (hc : c0 = 45) (h : nuQ t q1 s1 r2 q' sg' na f0 p0) (e : ¬ r2 = -1) (hr : (r1 = 0 ∧ r = r2) ∨ (¬ r1 = 0 ∧ r = -r2)) (hb : ¬ r = -1000000000) : fnQ (sdF t q sg) t r (-1000000000) q' sg' f p := by
  subst hc
  have a := nuF_yes h e
  refine ⟨fun _ => ⟨?_, nu_sv h e⟩, fun x => absurd x hb⟩
  unfold sdF
  by_cases c : r1 = 0
  · obtain ⟨c1, c2, c3⟩ := h1.2 c
    subst c2
    subst c3
    rw [ci_neg c1, a]
    have : r = r2 := by omega
    rw [this]
  · obtain ⟨c1, c2, c3⟩ := h1.1 c
    subst c3
    rw [ci_pos c1, c2, a]
    have : r = -r2 := by omega
    rw [this]
/-- a true answer: where it is read to; a false one: what is wrong -/
def boQ (x : sR) (t : Int → Int) (r q' sg' f p : Int) : Prop := (¬ r = 0 → x = (0, 0, 0, q', sg') ∧ svQ t q' sg') ∧ (r = 0 → x = (f, p, 0, 0, 0) ∧ ¬ f = 0)
/-- so many numbers with a sign, each as it must be -/
noncomputable def rwF (t : Int → Int) (ok : Int → Prop) : Nat → Int → Int → sR
  | 0, q, sg => (0, 0, 0, q, sg)
  | k + 1, q, sg => ci ((sdF t q sg).1 = 0) (ci (ok (sdF t q sg).2.2.1) (rwF t ok k (sdF t q sg).2.2.2.1 (sdF t q sg).2.2.2.2) (2, q, 0, 0, 0)) ((sdF t q sg).1, (sdF t q sg).2.1, 0, 0, 0)
theorem rw_step {t : Int → Int} {ok : Int → Prop} {x : sR} {n n' q sg v q' sg' f p bad : Int} (h : x = rwF t ok n.toNat q sg) (hn : 1 ≤ n) (hn' : n' = n - 1) (hs : fnQ (sdF t q sg) t v bad q' sg' f p) (hv : ¬ v = bad) (ho : ok v) : x = rwF t ok n'.toNat q' sg' := by
  have e : n.toNat = n'.toNat + 1 := by omega
  rw [h, e]
  show ci _ _ _ = _
  rw [(hs.1 hv).1, ci_pos rfl, ci_pos ho]
theorem rw_out {t : Int → Int} {ok : Int → Prop} {x : sR} {n q sg v q' sg' f0 p0 f p bad r q2 s2 : Int} (h : x = rwF t ok n.toNat q sg) (hn : 1 ≤ n) (hs : fnQ (sdF t q sg) t v bad q' sg' f0 p0) (hv : ¬ v = bad) (ho : ¬ ok v) (hr : r = 0) (hf : f = 2) (hp : p = q) : boQ x t r q2 s2 f p := by
  subst hf
  subst hp
  refine ⟨fun e => absurd hr e, fun _ => ⟨?_, by omega⟩⟩
  have e : n.toNat = (n - 1).toNat + 1 := by omega
  rw [h, e]
  show ci _ _ _ = _
  rw [(hs.1 hv).1, ci_pos rfl, ci_neg ho]
theorem rw_fail {t : Int → Int} {ok : Int → Prop} {x : sR} {n q sg v q' sg' f p bad r q2 s2 : Int} (h : x = rwF t ok n.toNat q sg) (hn : 1 ≤ n) (hs : fnQ (sdF t q sg) t v bad q' sg' f p) (hv : v = bad) (hr : r = 0) : boQ x t r q2 s2 f p := by
  refine ⟨fun e => absurd hr e, fun _ => ⟨?_, (hs.2 hv).2⟩⟩
  have e : n.toNat = (n - 1).toNat + 1 := by omega
  rw [h, e]
  show ci _ _ _ = _
  rw [(hs.2 hv).1, ci_neg (hs.2 hv).2]
theorem rw_done {t : Int → Int} {ok : Int → Prop} {x : sR} {n q sg : Int} (h : x = rwF t ok n.toNat q sg) (hn : n ≤ 0) : x = (0, 0, 0, q, sg) := by
  rw [h, show n.toNat = 0 by omega]
  rfl
theorem bo_done {t : Int → Int} {ok : Int → Prop} {x : sR} {n q sg r f p : Int} (h : x = rwF t ok n.toNat q sg) (hn : n ≤ 0) (hv : svQ t q sg) (hr : ¬ r = 0) : boQ x t r q sg f p := ⟨fun _ => ⟨rw_done h hn, hv⟩, fun e => absurd e hr⟩
def okR (v : Int) : Prop := -99 ≤ v ∧ v ≤ 99
def okL (L v : Int) : Prop := -L < v ∧ v < L ∧ (v + L) % 2 = 1
abbrev sZ : Type := Int × Int × Int × Int × Int × Int × Int
noncomputable def szH (t : Int → Int) (L S q sg : Int) : sZ := ci ((btF t q sg 1 6).1 = 0) (0, 0, L, S, (btF t q sg 1 6).2.2.1, (btF t q sg 1 6).2.2.2.1, (btF t q sg 1 6).2.2.2.2) ((btF t q sg 1 6).1, (btF t q sg 1 6).2.1, 0, 0, 0, 0, 0)
noncomputable def szG (t : Int → Int) (L q sg : Int) : sZ := ci ((btF t q sg 1 5).1 = 0) (szH t L (btF t q sg 1 5).2.2.1 (btF t q sg 1 5).2.2.2.1 (btF t q sg 1 5).2.2.2.2) ((btF t q sg 1 5).1, (btF t q sg 1 5).2.1, 0, 0, 0, 0, 0)
noncomputable def szF (t : Int → Int) (q sg : Int) : sZ := ci ((btF t q sg 2 8).1 = 0) (szG t (btF t q sg 2 8).2.2.1 (btF t q sg 2 8).2.2.2.1 (btF t q sg 2 8).2.2.2.2) ((btF t q sg 2 8).1, (btF t q sg 2 8).2.1, 0, 0, 0, 0, 0)
def szQ (x : sZ) (t : Int → Int) (r L S R q' sg' f p : Int) : Prop := (¬ r = 0 → x = (0, 0, L, S, R, q', sg') ∧ svQ t q' sg') ∧ (r = 0 → x = (f, p, 0, 0, 0, 0, 0) ∧ ¬ f = 0)
theorem szF_go {t : Int → Int} {q sg lo hi v q1 s1 f p : Int} (h : fnQ (btF t q sg lo hi) t v (-1) q1 s1 f p) (e1 : lo = 2) (e2 : hi = 8) (e : ¬ v = -1) : szF t q sg = szG t v q1 s1 := by
  subst e1
  subst e2
  unfold szF
  rw [(h.1 e).1, ci_pos rfl]
theorem szG_go {t : Int → Int} {L q sg lo hi v q1 s1 f p : Int} (h : fnQ (btF t q sg lo hi) t v (-1) q1 s1 f p) (e1 : lo = 1) (e2 : hi = 5) (e : ¬ v = -1) : szG t L q sg = szH t L v q1 s1 := by
  subst e1
  subst e2
  unfold szG
  rw [(h.1 e).1, ci_pos rfl]
theorem sz_1 {t : Int → Int} {q sg lo hi v q1 s1 f p r L S R q' sg' : Int} (h : fnQ (btF t q sg lo hi) t v (-1) q1 s1 f p) (e1 : lo = 2) (e2 : hi = 8) (e : v = -1) (hr : r = 0) : szQ (szF t q sg) t r L S R q' sg' f p := by
  subst e1
  subst e2
  refine ⟨fun x => absurd hr x, fun _ => ⟨?_, (h.2 e).2⟩⟩
  unfold szF
  rw [(h.2 e).1, ci_neg (h.2 e).2]
theorem sz_2 {t : Int → Int} {q sg lo0 hi0 v0 q0 s0 f0 p0 lo hi v q1 s1 f p r L S R q' sg' : Int} (h0 : fnQ (btF t q sg lo0 hi0) t v0 (-1) q0 s0 f0 p0) (a1 : lo0 = 2) (a2 : hi0 = 8) (a : ¬ v0 = -1) (h : fnQ (btF t q0 s0 lo hi) t v (-1) q1 s1 f p) (e1 : lo = 1) (e2 : hi = 5) (e : v = -1) (hr : r = 0) : szQ (szF t q sg) t r L S R q' sg' f p := by
  subst e1
  subst e2
  refine ⟨fun x => absurd hr x, fun _ => ⟨?_, (h.2 e).2⟩⟩
  rw [szF_go h0 a1 a2 a]
  unfold szG
  rw [(h.2 e).1, ci_neg (h.2 e).2]
theorem sz_3 {t : Int → Int} {q sg lo0 hi0 v0 q0 s0 f0 p0 lo1 hi1 v1 q1 s1 f1 p1 lo hi v q2 s2 f p r L S R q' sg' : Int} (h0 : fnQ (btF t q sg lo0 hi0) t v0 (-1) q0 s0 f0 p0) (a1 : lo0 = 2) (a2 : hi0 = 8) (a : ¬ v0 = -1) (h1 : fnQ (btF t q0 s0 lo1 hi1) t v1 (-1) q1 s1 f1 p1) (b1 : lo1 = 1) (b2 : hi1 = 5) (b : ¬ v1 = -1) (h : fnQ (btF t q1 s1 lo hi) t v (-1) q2 s2 f p) (e1 : lo = 1) (e2 : hi = 6) (e : v = -1) (hr : r = 0) : szQ (szF t q sg) t r L S R q' sg' f p := by
  subst e1
  subst e2
  refine ⟨fun x => absurd hr x, fun _ => ⟨?_, (h.2 e).2⟩⟩
  rw [szF_go h0 a1 a2 a, szG_go h1 b1 b2 b]
  unfold szH
  rw [(h.2 e).1, ci_neg (h.2 e).2]
theorem sz_ok {t : Int → Int} {q sg lo0 hi0 v0 q0 s0 f0 p0 lo1 hi1 v1 q1 s1 f1 p1 lo hi v f2 p2 f p r q' sg' : Int} (h0 : fnQ (btF t q sg lo0 hi0) t v0 (-1) q0 s0 f0 p0) (a1 : lo0 = 2) (a2 : hi0 = 8) (a : ¬ v0 = -1) (h1 : fnQ (btF t q0 s0 lo1 hi1) t v1 (-1) q1 s1 f1 p1) (b1 : lo1 = 1) (b2 : hi1 = 5) (b : ¬ v1 = -1) (h : fnQ (btF t q1 s1 lo hi) t v (-1) q' sg' f2 p2) (e1 : lo = 1) (e2 : hi = 6) (e : ¬ v = -1) (hr : ¬ r = 0) : szQ (szF t q sg) t r v0 v1 v q' sg' f p := by
  subst e1
  subst e2
  refine ⟨fun _ => ⟨?_, (h.1 e).2⟩, fun x => absurd x hr⟩
  rw [szF_go h0 a1 a2 a, szG_go h1 b1 b2 b]
  unfold szH
  rw [(h.1 e).1, ci_pos rfl]
noncomputable def limF (t : Int → Int) (q sg : Int) : sR := ((btF t q sg 0 9999).1, (btF t q sg 0 9999).2.1, 0, (btF t q sg 0 9999).2.2.2.1, (btF t q sg 0 9999).2.2.2.2)
theorem bo_bt {t : Int → Int} {q sg lo hi v q' sg' f p r : Int} (h : fnQ (btF t q sg lo hi) t v (-1) q' sg' f p) (e1 : lo = 0) (e2 : hi = 9999) (hr : r = 0 ↔ v = -1) : boQ (limF t q sg) t r q' sg' f p := by
  subst e1
  subst e2
  refine ⟨fun e => ?_, fun e => ?_⟩
  · obtain ⟨a, b⟩ := h.1 (fun x => e (hr.mpr x))
    refine ⟨?_, b⟩
    unfold limF
    rw [a]
  · obtain ⟨a, b⟩ := h.2 (hr.mp e)
    refine ⟨?_, b⟩
    unfold limF
    rw [a]
def wL : List (List Int) := [[104, 111, 117, 115, 101], [114, 111, 119], [119, 111, 114, 100], [119, 111, 114, 116, 104], [115, 101, 110, 100, 101, 114], [115, 113, 117, 97, 114, 101], [112, 101, 97, 107], [109, 105, 110], [109, 97, 120], [119, 104, 101, 110], [110, 111, 116], [97, 108, 108], [97, 110, 100], [111, 114], [108, 105, 109, 105, 116]]
/-! the words -/
theorem wd_lt {f : Nat → Int32} {n q sg : Int} {w : List Int} (h : wd (taub f n) q sg w) (hp : ∀ a ∈ w, 0 ≤ a) (hn : ¬ w = []) : q + (w.length : Int) ≤ n := mt_lt w h.2.1 hp hn
theorem s_wl {i : Nat} (hi : i < 15) : ((wL.getD i []).length : Int) = ((lenS.getD i 0 : Nat) : Int) := by
  have h : ∀ i : Nat, i < 15 → (wL.getD i []).length = lenS.getD i 0 := by decide +kernel
  rw [h i hi]
theorem s_pos {i : Nat} (hi : i < 15) : ∀ a ∈ wL.getD i [], 0 ≤ a := by
  have h : ∀ i : Nat, i < 15 → ∀ a ∈ wL.getD i [], 0 ≤ a := by decide +kernel
  exact h i hi
theorem s_ne {i : Nat} (hi : i < 15) : ¬ wL.getD i [] = [] := by
  have h : ∀ i : Nat, i < 15 → ¬ wL.getD i [] = [] := by decide +kernel
  exact h i hi
theorem s_ch {i n : Nat} (hi : i < 15) (hn : n < 6) {z : Int32} (e : z = ((((bytS.getD i []).getD n 0) &&& 255).toUInt32 % 65536).toInt32) : z.toInt = (wL.getD i []).getD n 0 := by
  have h : ∀ i : Nat, i < 15 → ∀ n : Nat, n < 6 → (((((bytS.getD i []).getD n 0) &&& 255).toUInt32 % 65536).toInt32).toInt = (wL.getD i []).getD n 0 := by decide +kernel
  rw [e]
  exact h i hi n hn
theorem s_l1 {i : Nat} (hi : i < 15) : 1 ≤ lenS.getD i 0 := by
  have h : ∀ i : Nat, i < 15 → 1 ≤ lenS.getD i 0 := by decide +kernel
  exact h i hi
/-! a statement, the house: functions of the text -/
noncomputable def ruE (t : Int → Int) (q sg : Int) : aOu := @Classical.epsilon aOu ⟨(0, 0, 0, 0)⟩ (fun out => Rn t 1 q sg 0 [30] out)
theorem ruE_at {t : Int → Int} {q sg : Int} {out : aOu} (h : Rn t 1 q sg 0 [30] out) : ruE t q sg = out := Rn_det (@Classical.epsilon_spec aOu (fun o => Rn t 1 q sg 0 [30] o) ⟨out, h⟩) h
noncomputable def ruF (t : Int → Int) (q sg : Int) : sR := ((ruE t q sg).1, (ruE t q sg).2.1, 0, (ruE t q sg).2.2.1, (ruE t q sg).2.2.2)
theorem bo_ru {t : Int → Int} {q sg r q' sg' f p : Int} (h : ruQ t q sg q' sg' r f p) (hf : r = 0 → ¬ f = 0) : boQ (ruF t q sg) t r q' sg' f p := by
  refine ⟨fun e => ?_, fun e => ⟨?_, hf e⟩⟩
  · obtain ⟨a, b⟩ := h.1 e
    refine ⟨?_, a⟩
    unfold ruF
    rw [ruE_at b]
  · unfold ruF
    rw [ruE_at (h.2 e)]
abbrev wHouse : List Int := [104, 111, 117, 115, 101]
abbrev wRow : List Int := [114, 111, 119]
abbrev wWord : List Int := [119, 111, 114, 100]
abbrev wWorth : List Int := [119, 111, 114, 116, 104]
abbrev wLimit : List Int := [108, 105, 109, 105, 116]
/-- kind, place, where it goes on, the sign there, rows, words, rules told -/
abbrev sS : Type := Int × Int × Int × Int × Int × Int × Int
noncomputable def stR (x : sR) (rt wt rc : Int) : sS := ci (x.1 = 0) (0, 0, x.2.2.2.1, x.2.2.2.2, rt, wt, rc) (x.1, x.2.1, 0, 0, 0, 0, 0)
noncomputable def stF (t : Int → Int) (L S R rt wt rc q sg : Int) : sS :=
  ci (wd t q sg wRow) (ci (rt < R) (stR (rwF t okR S.toNat (skp t (q + 3)) (sgn t (skp t (q + 3)) (q + 3))) (rt + 1) wt rc) (4, q, 0, 0, 0, 0, 0))
  (ci (wd t q sg wWord) (ci (wt < 16) (stR (rwF t (okL L) S.toNat (skp t (q + 4)) (sgn t (skp t (q + 4)) (q + 4))) rt (wt + 1) rc) (4, q, 0, 0, 0, 0, 0))
  (ci (wd t q sg wWorth) (ci (rc < 8) (stR (ruF t (skp t (q + 5)) (sgn t (skp t (q + 5)) (q + 5))) rt wt (rc + 1)) (4, q, 0, 0, 0, 0, 0))
  (ci (wd t q sg wLimit) (stR (limF t (skp t (q + 5)) (sgn t (skp t (q + 5)) (q + 5))) rt wt rc) (1, q, 0, 0, 0, 0, 0))))
def stmQ (x : sS) (t : Int → Int) (r q' sg' rt wt rc f p : Int) : Prop := (¬ r = 0 → x = (0, 0, q', sg', rt, wt, rc) ∧ svQ t q' sg') ∧ (r = 0 → x = (f, p, 0, 0, 0, 0, 0) ∧ ¬ f = 0)
/-- the words ahead, one by one: which of the four ways is gone -/
theorem st_row {t : Int → Int} {L S R rt wt rc q sg : Int} (h : wd t q sg wRow) (hr : rt < R) : stF t L S R rt wt rc q sg = stR (rwF t okR S.toNat (skp t (q + 3)) (sgn t (skp t (q + 3)) (q + 3))) (rt + 1) wt rc := by
  unfold stF
  rw [ci_pos h, ci_pos hr]
theorem st_rowF {t : Int → Int} {L S R rt wt rc q sg : Int} (h : wd t q sg wRow) (hr : ¬ rt < R) : stF t L S R rt wt rc q sg = (4, q, 0, 0, 0, 0, 0) := by
  unfold stF
  rw [ci_pos h, ci_neg hr]
theorem st_word {t : Int → Int} {L S R rt wt rc q sg : Int} (h0 : ¬ wd t q sg wRow) (h : wd t q sg wWord) (hr : wt < 16) : stF t L S R rt wt rc q sg = stR (rwF t (okL L) S.toNat (skp t (q + 4)) (sgn t (skp t (q + 4)) (q + 4))) rt (wt + 1) rc := by
  unfold stF
  rw [ci_neg h0, ci_pos h, ci_pos hr]
theorem st_wordF {t : Int → Int} {L S R rt wt rc q sg : Int} (h0 : ¬ wd t q sg wRow) (h : wd t q sg wWord) (hr : ¬ wt < 16) : stF t L S R rt wt rc q sg = (4, q, 0, 0, 0, 0, 0) := by
  unfold stF
  rw [ci_neg h0, ci_pos h, ci_neg hr]
theorem st_worth {t : Int → Int} {L S R rt wt rc q sg : Int} (h0 : ¬ wd t q sg wRow) (h1 : ¬ wd t q sg wWord) (h : wd t q sg wWorth) (hr : rc < 8) : stF t L S R rt wt rc q sg = stR (ruF t (skp t (q + 5)) (sgn t (skp t (q + 5)) (q + 5))) rt wt (rc + 1) := by
  unfold stF
  rw [ci_neg h0, ci_neg h1, ci_pos h, ci_pos hr]
theorem st_worthF {t : Int → Int} {L S R rt wt rc q sg : Int} (h0 : ¬ wd t q sg wRow) (h1 : ¬ wd t q sg wWord) (h : wd t q sg wWorth) (hr : ¬ rc < 8) : stF t L S R rt wt rc q sg = (4, q, 0, 0, 0, 0, 0) := by
  unfold stF
  rw [ci_neg h0, ci_neg h1, ci_pos h, ci_neg hr]
theorem st_limit {t : Int → Int} {L S R rt wt rc q sg : Int} (h0 : ¬ wd t q sg wRow) (h1 : ¬ wd t q sg wWord) (h2 : ¬ wd t q sg wWorth) (h : wd t q sg wLimit) : stF t L S R rt wt rc q sg = stR (limF t (skp t (q + 5)) (sgn t (skp t (q + 5)) (q + 5))) rt wt rc := by
  unfold stF
  rw [ci_neg h0, ci_neg h1, ci_neg h2, ci_pos h]
theorem st_none {t : Int → Int} {L S R rt wt rc q sg : Int} (h0 : ¬ wd t q sg wRow) (h1 : ¬ wd t q sg wWord) (h2 : ¬ wd t q sg wWorth) (h : ¬ wd t q sg wLimit) : stF t L S R rt wt rc q sg = (1, q, 0, 0, 0, 0, 0) := by
  unfold stF
  rw [ci_neg h0, ci_neg h1, ci_neg h2, ci_neg h]
theorem st_bo {x : sR} {y : sS} {t : Int → Int} {r r2 q' sg' q2 s2 f p rt wt rc rt2 wt2 rc2 : Int} (h : boQ x t r q' sg' f p) (e : y = stR x rt wt rc) (hr : r2 = 0 ↔ r = 0) (hq : ¬ r = 0 → q2 = q' ∧ s2 = sg' ∧ rt2 = rt ∧ wt2 = wt ∧ rc2 = rc) : stmQ y t r2 q2 s2 rt2 wt2 rc2 f p := by
  refine ⟨fun a => ?_, fun a => ?_⟩
  · have b : ¬ r = 0 := fun z => a (hr.mpr z)
    obtain ⟨e1, e2, e3, e4, e5⟩ := hq b
    subst e1
    subst e2
    subst e3
    subst e4
    subst e5
    refine ⟨?_, (h.1 b).2⟩
    rw [e, (h.1 b).1]
    exact ci_pos rfl
  · obtain ⟨b1, b2⟩ := h.2 (hr.mp a)
    refine ⟨?_, b2⟩
    rw [e, b1]
    exact ci_neg b2
theorem st_no {y : sS} {t : Int → Int} {k r q' sg' f p rt wt rc q : Int} (e : y = (k, q, 0, 0, 0, 0, 0)) (hr : r = 0) (hf : f = k) (hk : ¬ k = 0) (hp : p = q) : stmQ y t r q' sg' rt wt rc f p := by
  subst hf
  subst hp
  exact ⟨fun a => absurd hr a, fun _ => ⟨e, hk⟩⟩
/-- statement by statement: kind, place, how many, letters, senders, receivers, rows, words, rules -/
abbrev hO : Type := Int × Int × Int × Int × Int × Int × Int × Int × Int
def hF (k q : Int) : hO := (k, q, 0, 0, 0, 0, 0, 0, 0)
noncomputable def lpF (t : Int → Int) (L S R : Int) : Nat → Int → Int → Int → Int → Int → Int → hO
  | 0, _, _, _, _, _, _ => hF 0 0
  | k + 1, n, rt, wt, rc, q, sg => ci (sg = -1) (0, 0, n, L, S, R, rt, wt, rc) (ci (n = 60) (hF 4 q)
      (ci ((stF t L S R rt wt rc q sg).1 = 0)
        (ci ((stF t L S R rt wt rc q sg).2.2.2.1 = 59)
          (lpF t L S R k (n + 1) (stF t L S R rt wt rc q sg).2.2.2.2.1 (stF t L S R rt wt rc q sg).2.2.2.2.2.1 (stF t L S R rt wt rc q sg).2.2.2.2.2.2 (skp t ((stF t L S R rt wt rc q sg).2.2.1 + 1)) (t (skp t ((stF t L S R rt wt rc q sg).2.2.1 + 1))))
          (hF 1 (stF t L S R rt wt rc q sg).2.2.1))
        (hF (stF t L S R rt wt rc q sg).1 (stF t L S R rt wt rc q sg).2.1)))
noncomputable def hsF (t : Int → Int) (q sg : Int) : sZ := ci (wd t q sg wHouse) (szF t (skp t (q + 5)) (sgn t (skp t (q + 5)) (q + 5))) (1, q, 0, 0, 0, 0, 0)
noncomputable def hoG (t : Int → Int) (x : sZ) : hO :=
  ci (x.1 = 0) (ci (x.2.2.2.2.2.2 = 59) (lpF t x.2.2.1 x.2.2.2.1 x.2.2.2.2.1 60 1 0 0 0 (skp t (x.2.2.2.2.2.1 + 1)) (t (skp t (x.2.2.2.2.2.1 + 1)))) (hF 1 x.2.2.2.2.2.1)) (hF x.1 x.2.1)
noncomputable def hoF (t : Int → Int) : hO := hoG t (hsF t (skp t 0) (t (skp t 0)))
