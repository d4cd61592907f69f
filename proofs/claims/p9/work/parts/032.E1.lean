/-! the text of a house as an automaton reads it: t i the byte at i, -1 outside -/
noncomputable def ci {α : Type} (p : Prop) (a b : α) : α := @ite α p (Classical.propDecidable p) a b
theorem ci_pos {α : Type} {p : Prop} {a b : α} (h : p) : ci p a b = a := @if_pos p (Classical.propDecidable p) h α a b
theorem ci_neg {α : Type} {p : Prop} {a b : α} (h : ¬ p) : ci p a b = b := @if_neg p (Classical.propDecidable p) h α a b
def isBl (c : Int) : Prop := c = 10 ∨ c = 32
def isSm (c : Int) : Prop := 97 ≤ c ∧ c ≤ 122
def isDg (c : Int) : Prop := 48 ≤ c ∧ c ≤ 57
noncomputable def sk (t : Int → Int) : Nat → Int → Int
  | 0, p => p
  | k + 1, p => ci (isBl (t p)) (sk t k (p + 1)) p
noncomputable def skp (t : Int → Int) (p : Int) : Int := sk t 1700 p
theorem sk_at {t : Int → Int} : ∀ (k : Nat) {p q : Int}, p ≤ q → q - p ≤ (k : Int) → (∀ j, p ≤ j → j < q → isBl (t j)) → ¬ isBl (t q) → sk t k p = q
  | 0, p, q, h1, h2, _, _ => by
    show p = q
    omega
  | k + 1, p, q, h1, h2, h3, h4 => by
    show ci (isBl (t p)) (sk t k (p + 1)) p = q
    by_cases e : p = q
    · subst e
      rw [ci_neg h4]
    · rw [ci_pos (h3 p (by omega) (by omega))]
      exact sk_at k (by omega) (by omega) (fun j a b => h3 j (by omega) b) h4
/-- from p to q blanks alone -/
def bls (t : Int → Int) (p q : Int) : Prop := p ≤ q ∧ ∀ j, p ≤ j → j < q → isBl (t j)
theorem bls_nil {t : Int → Int} {p : Int} : bls t p p := ⟨by omega, fun j a b => absurd a (by omega)⟩
theorem bls_up {t : Int → Int} {p q q' : Int} (h : bls t p q) (hb : isBl (t q)) (e : q' = q + 1) : bls t p q' := by
  subst e
  refine ⟨by have := h.1; omega, fun j a b => ?_⟩
  by_cases e : j = q
  · subst e; exact hb
  · exact h.2 j a (by omega)
theorem skp_at {t : Int → Int} {p q : Int} (h : bls t p q) (hn : ¬ isBl (t q)) (hl : q - p ≤ 1700) : skp t p = q := sk_at 1700 h.1 hl h.2 hn
theorem skp_self {t : Int → Int} {q : Int} (hn : ¬ isBl (t q)) : skp t q = q := skp_at bls_nil hn (by omega)
noncomputable def sgn (t : Int → Int) (q e : Int) : Int := ci (q = e ∧ (isSm (t q) ∨ isDg (t q))) 0 (t q)
def mt (t : Int → Int) : Int → List Int → Prop
  | _, [] => True
  | q, a :: w => t q = a ∧ mt t (q + 1) w
def wd (t : Int → Int) (q sg : Int) (w : List Int) : Prop := sg ≠ 0 ∧ mt t q w ∧ ¬ isSm (t (q + (w.length : Int)))
noncomputable def ndk (t : Int → Int) : Nat → Int → Int
  | 0, _ => 0
  | k + 1, q => ci (isDg (t q)) (1 + ndk t k (q + 1)) 0
noncomputable def nd (t : Int → Int) (q : Int) : Int := ndk t 5 q
theorem ndk_at {t : Int → Int} : ∀ (k : Nat) {q n : Int}, 0 ≤ n → n ≤ (k : Int) → (∀ j, q ≤ j → j < q + n → isDg (t j)) → (n < (k : Int) → ¬ isDg (t (q + n))) → ndk t k q = n
  | 0, q, n, h0, h1, _, _ => by
    show (0 : Int) = n
    omega
  | k + 1, q, n, h0, h1, h2, h3 => by
    show ci (isDg (t q)) (1 + ndk t k (q + 1)) 0 = n
    by_cases e : n = 0
    · subst e
      have := h3 (by omega)
      rw [ci_neg (by rwa [Int.add_zero] at this)]
    · rw [ci_pos (h2 q (by omega) (by omega)), ndk_at k (n := n - 1) (by omega) (by omega) (fun j a b => h2 j (by omega) (by omega)) (fun h => by
        have q1 := h3 (by omega)
        rwa [show q + 1 + (n - 1) = q + n by omega])]
      omega
/-- n digits from q on, and no more than they -/
def dgs (t : Int → Int) (q n : Int) : Prop := 0 ≤ n ∧ ∀ j, q ≤ j → j < q + n → isDg (t j)
theorem nd_at {t : Int → Int} {q n : Int} (h : dgs t q n) (hn : n ≤ 5) (hx : n < 5 → ¬ isDg (t (q + n))) : nd t q = n := ndk_at 5 h.1 (by omega) h.2 (fun h => hx (by omega))
abbrev wMin : List Int := [109, 105, 110]
abbrev wMax : List Int := [109, 97, 120]
abbrev wSender : List Int := [115, 101, 110, 100, 101, 114]
abbrev wSquare : List Int := [115, 113, 117, 97, 114, 101]
abbrev wPeak : List Int := [112, 101, 97, 107]
abbrev wWhen : List Int := [119, 104, 101, 110]
abbrev wNot : List Int := [110, 111, 116]
abbrev wAll : List Int := [97, 108, 108]
abbrev wAnd : List Int := [97, 110, 100]
abbrev wOr : List Int := [111, 114]
abbrev aCf : Type := Int × Int × Int × Int × List Int
abbrev aOu : Type := Int × Int × Int × Int
noncomputable def aS (t : Int → Int) (ph p o : Int) (K : List Int) : aCf ⊕ aOu := .inl (ph, skp t p, t (skp t p), o, K)
noncomputable def aW (t : Int → Int) (ph p o : Int) (K : List Int) : aCf ⊕ aOu := .inl (ph, skp t p, sgn t (skp t p) p, o, K)
def aF (kind q : Int) : aCf ⊕ aOu := .inr (kind, q, 0, 0)
noncomputable def aOp (t : Int → Int) (q o m : Int) (K : List Int) : aCf ⊕ aOu := ci (o = 6) (aF 3 q) (aS t 1 (q + 1) (o + 1) (m :: K))
noncomputable def aPr (t : Int → Int) (q sg o m : Int) (K : List Int) : aCf ⊕ aOu := ci (sg = 40) (aOp t q o m K) (aF 1 q)
noncomputable def aNum (t : Int → Int) (q sg o : Int) (K : List Int) : aCf ⊕ aOu := ci (isDg sg) (ci (nd t q = 5) (aF 1 (q + 4)) (aW t 2 (q + nd t q) o K)) (aF 1 q)
noncomputable def a1 (t : Int → Int) (q sg o : Int) (K : List Int) : aCf ⊕ aOu :=
  ci (sg = 40) (aOp t q o 20 K)
  (ci (wd t q sg wMin) (aW t 5 (q + 3) o K)
  (ci (wd t q sg wMax) (aW t 6 (q + 3) o K)
  (ci (wd t q sg wSender ∨ wd t q sg wSquare) (aW t 2 (q + 6) o K)
  (ci (wd t q sg wPeak) (aW t 2 (q + 4) o K)
  (aNum t q sg o K)))))
def hd9 : List Int → Int
  | [] => 99
  | a :: _ => a
noncomputable def a2 (t : Int → Int) (q sg o : Int) (K : List Int) : aCf ⊕ aOu :=
  ci (sg = 41 ∧ (hd9 K = 20 ∨ hd9 K = 23 ∨ hd9 K = 24)) (aS t 2 (q + 1) (o - 1) K.tail)
  (ci (sg = 42 ∨ sg = 47 ∨ sg = 43 ∨ sg = 45) (aS t 1 (q + 1) o K)
  (ci (hd9 K = 21 ∨ hd9 K = 22) (ci (sg = 44) (aS t 1 (q + 1) o ((hd9 K + 2) :: K.tail)) (aF 1 q))
  (ci (hd9 K = 30) (ci (wd t q sg wWhen) (aW t 3 (q + 4) 0 K.tail) (aF 1 q))
  (ci (hd9 K = 31) (ci (sg = 60 ∨ sg = 61 ∨ sg = 62) (aS t 1 (q + 1) o (32 :: K.tail)) (aF 1 q))
  (ci (hd9 K = 32) (.inl (4, q, sg, o, K.tail)) (aF 1 q))))))
noncomputable def a3 (t : Int → Int) (q sg o : Int) (K : List Int) : aCf ⊕ aOu :=
  ci (wd t q sg wNot) (ci (o = 6) (aF 3 q) (aW t 3 (q + 3) (o + 1) (16 :: K)))
  (ci (sg = 91) (ci (o = 6) (aF 3 q) (aS t 3 (q + 1) (o + 1) (25 :: K)))
  (ci (wd t q sg wAll) (aW t 4 (q + 3) o K)
  (.inl (1, q, sg, o, 31 :: K))))
noncomputable def a4 (t : Int → Int) (q sg o : Int) (K : List Int) : aCf ⊕ aOu :=
  ci (hd9 K = 16) (.inl (4, q, sg, o - 1, K.tail))
  (ci (sg = 93 ∧ hd9 K = 25) (aS t 4 (q + 1) (o - 1) K.tail)
  (ci (wd t q sg wAnd) (aW t 3 (q + 3) o K)
  (ci (wd t q sg wOr) (aW t 3 (q + 2) o K)
  (ci (hd9 K = 25) (aF 1 q) (.inr (0, 0, q, sg))))))
noncomputable def aStp (t : Int → Int) (c : aCf) : aCf ⊕ aOu :=
  ci (c.1 = 1) (a1 t c.2.1 c.2.2.1 c.2.2.2.1 c.2.2.2.2)
  (ci (c.1 = 2) (a2 t c.2.1 c.2.2.1 c.2.2.2.1 c.2.2.2.2)
  (ci (c.1 = 3) (a3 t c.2.1 c.2.2.1 c.2.2.2.1 c.2.2.2.2)
  (ci (c.1 = 5) (aPr t c.2.1 c.2.2.1 c.2.2.2.1 21 c.2.2.2.2)
  (ci (c.1 = 6) (aPr t c.2.1 c.2.2.1 c.2.2.2.1 22 c.2.2.2.2)
  (a4 t c.2.1 c.2.2.1 c.2.2.2.1 c.2.2.2.2)))))
noncomputable def aIt (t : Int → Int) : Nat → aCf → Option aOu
  | 0, _ => none
  | n + 1, c => match aStp t c with
    | .inl c' => aIt t n c'
    | .inr o => some o
def Rn (t : Int → Int) (ph q sg o : Int) (K : List Int) (out : aOu) : Prop := ∃ n, aIt t n (ph, q, sg, o, K) = some out
theorem aIt_mono {t : Int → Int} {out : aOu} : ∀ (n m : Nat) (c : aCf), n ≤ m → aIt t n c = some out → aIt t m c = some out
  | 0, _, _, _, h => by cases h
  | n + 1, 0, _, hm, _ => absurd hm (by omega)
  | n + 1, m + 1, c, hm, h => by
    have h : (match aStp t c with | .inl c' => aIt t n c' | .inr o => some o) = some out := h
    show (match aStp t c with | .inl c' => aIt t m c' | .inr o => some o) = some out
    cases e : aStp t c with
    | inl c' =>
      rw [e] at h
      exact aIt_mono n m c' (by omega) h
    | inr o =>
      rw [e] at h
      exact h
theorem Rn_det {t : Int → Int} {ph q sg o : Int} {K : List Int} {x y : aOu} (h1 : Rn t ph q sg o K x) (h2 : Rn t ph q sg o K y) : x = y := by
  obtain ⟨n, h1⟩ := h1
  obtain ⟨m, h2⟩ := h2
  have e1 := aIt_mono n (n + m) _ (by omega) h1
  have e2 := aIt_mono m (n + m) _ (by omega) h2
  rw [e1] at e2
  exact Option.some.inj e2
theorem Rn_go {t : Int → Int} {c c' : aCf} {out : aOu} (e : aStp t c = .inl c') (h : Rn t c'.1 c'.2.1 c'.2.2.1 c'.2.2.2.1 c'.2.2.2.2 out) : Rn t c.1 c.2.1 c.2.2.1 c.2.2.2.1 c.2.2.2.2 out := by
  obtain ⟨n, h⟩ := h
  refine ⟨n + 1, ?_⟩
  show (match aStp t c with | .inl c' => aIt t n c' | .inr o => some o) = some out
  rw [e]
  exact h
theorem Rn_end {t : Int → Int} {c : aCf} {out : aOu} (e : aStp t c = .inr out) : Rn t c.1 c.2.1 c.2.2.1 c.2.2.2.1 c.2.2.2.2 out := by
  refine ⟨1, ?_⟩
  show (match aStp t c with | .inl c' => aIt t 0 c' | .inr o => some o) = some out
  rw [e]
def svQ (t : Int → Int) (q sg : Int) : Prop := (sg = 0 ∧ (isSm (t q) ∨ isDg (t q))) ∨ sg = t q
theorem aS1 {t : Int → Int} {q sg o : Int} {K : List Int} : aStp t (1, q, sg, o, K) = a1 t q sg o K := ci_pos rfl
theorem aS2 {t : Int → Int} {q sg o : Int} {K : List Int} : aStp t (2, q, sg, o, K) = a2 t q sg o K := (ci_neg (fun h => absurd (show (2 : Int) = 1 from h) (by decide))).trans (ci_pos rfl)
theorem aS3 {t : Int → Int} {q sg o : Int} {K : List Int} : aStp t (3, q, sg, o, K) = a3 t q sg o K := (ci_neg (fun h => absurd (show (3 : Int) = 1 from h) (by decide))).trans ((ci_neg (fun h => absurd (show (3 : Int) = 2 from h) (by decide))).trans (ci_pos rfl))
theorem aS4 {t : Int → Int} {q sg o : Int} {K : List Int} : aStp t (4, q, sg, o, K) = a4 t q sg o K := ((ci_neg (fun h => absurd (show (4 : Int) = 1 from h) (by decide))).trans ((ci_neg (fun h => absurd (show (4 : Int) = 2 from h) (by decide))).trans ((ci_neg (fun h => absurd (show (4 : Int) = 3 from h) (by decide))).trans ((ci_neg (fun h => absurd (show (4 : Int) = 5 from h) (by decide))).trans (ci_neg (fun h => absurd (show (4 : Int) = 6 from h) (by decide)))))))
theorem aS5 {t : Int → Int} {q sg o : Int} {K : List Int} : aStp t (5, q, sg, o, K) = aPr t q sg o 21 K := ((ci_neg (fun h => absurd (show (5 : Int) = 1 from h) (by decide))).trans ((ci_neg (fun h => absurd (show (5 : Int) = 2 from h) (by decide))).trans ((ci_neg (fun h => absurd (show (5 : Int) = 3 from h) (by decide))).trans (ci_pos rfl))))
theorem aS6 {t : Int → Int} {q sg o : Int} {K : List Int} : aStp t (6, q, sg, o, K) = aPr t q sg o 22 K := ((ci_neg (fun h => absurd (show (6 : Int) = 1 from h) (by decide))).trans ((ci_neg (fun h => absurd (show (6 : Int) = 2 from h) (by decide))).trans ((ci_neg (fun h => absurd (show (6 : Int) = 3 from h) (by decide))).trans ((ci_neg (fun h => absurd (show (6 : Int) = 5 from h) (by decide))).trans (ci_pos rfl)))))
theorem wd_0 {t : Int → Int} {q sg a : Int} {w : List Int} (h : wd t q sg (a :: w)) : t q = a := h.2.1.1
theorem wd_1 {t : Int → Int} {q sg a b : Int} {w : List Int} (h : wd t q sg (a :: b :: w)) : t (q + 1) = b := h.2.1.2.1
theorem wd_sg {t : Int → Int} {q sg a : Int} {w : List Int} (h : wd t q sg (a :: w)) (hv : svQ t q sg) : sg = a := by
  have h0 := wd_0 h
  rcases hv with e | e
  · exact absurd e.1 h.1
  · omega
theorem R1_par {t : Int → Int} {q sg o : Int} {K : List Int} {out : aOu} {q2 : Int} (hs : sg = 40) (ho : ¬ o = 6) (e : skp t (q + 1) = q2) (h : Rn t 1 q2 (t q2) (o + 1) (20 :: K) out) : Rn t 1 q sg o K out := by
  refine Rn_go (c := (1, q, sg, o, K)) (c' := (1, q2, (t q2), (o + 1), (20 :: K))) ?_ h
  rw [aS1]
  unfold a1 aOp aS; rw [ci_pos hs, ci_neg (by omega), e]
theorem R1_parF {t : Int → Int} {q sg o : Int} {K : List Int} (hs : sg = 40) (ho : o = 6) : Rn t 1 q sg o K (3, q, 0, 0) := by
  refine Rn_end (c := (1, q, sg, o, K)) ?_
  rw [aS1]
  unfold a1 aOp aF; rw [ci_pos hs, ci_pos ho]
theorem R1_Min {t : Int → Int} {q sg o : Int} {K : List Int} {out : aOu} {q2 : Int} (hw : wd t q sg wMin) (hv : svQ t q sg) (e : skp t (q + 3) = q2) (h : Rn t 5 q2 (sgn t q2 (q + 3)) o K out) : Rn t 1 q sg o K out := by
  refine Rn_go (c := (1, q, sg, o, K)) (c' := (5, q2, (sgn t q2 (q + 3)), o, K)) ?_ h
  rw [aS1]
  unfold a1; rw [ci_neg (by have := wd_sg hw hv; omega), ci_pos hw]; unfold aW; rw [e]
theorem R5_21 {t : Int → Int} {q sg o : Int} {K : List Int} {out : aOu} {q2 : Int} (hs : sg = 40) (ho : ¬ o = 6) (e : skp t (q + 1) = q2) (h : Rn t 1 q2 (t q2) (o + 1) (21 :: K) out) : Rn t 5 q sg o K out := by
  refine Rn_go (c := (5, q, sg, o, K)) (c' := (1, q2, (t q2), (o + 1), (21 :: K))) ?_ h
  rw [aS5]
  unfold aPr aOp aS; rw [ci_pos hs, ci_neg (by omega), e]
theorem R5_21F3 {t : Int → Int} {q sg o : Int} {K : List Int} (hs : sg = 40) (ho : o = 6) : Rn t 5 q sg o K (3, q, 0, 0) := by
  refine Rn_end (c := (5, q, sg, o, K)) ?_
  rw [aS5]
  unfold aPr aOp aF; rw [ci_pos hs, ci_pos ho]
theorem R5_21F1 {t : Int → Int} {q sg o : Int} {K : List Int} (hs : ¬ sg = 40) : Rn t 5 q sg o K (1, q, 0, 0) := by
  refine Rn_end (c := (5, q, sg, o, K)) ?_
  rw [aS5]
  unfold aPr aF; rw [ci_neg hs]
theorem R1_Max {t : Int → Int} {q sg o : Int} {K : List Int} {out : aOu} {q2 : Int} (hw : wd t q sg wMax) (hv : svQ t q sg) (e : skp t (q + 3) = q2) (h : Rn t 6 q2 (sgn t q2 (q + 3)) o K out) : Rn t 1 q sg o K out := by
  refine Rn_go (c := (1, q, sg, o, K)) (c' := (6, q2, (sgn t q2 (q + 3)), o, K)) ?_ h
  rw [aS1]
  unfold a1; rw [ci_neg (by have := wd_sg hw hv; omega), ci_neg (fun h => by have a := wd_1 h; have b := wd_1 hw; omega), ci_pos hw]; unfold aW; rw [e]
theorem R5_22 {t : Int → Int} {q sg o : Int} {K : List Int} {out : aOu} {q2 : Int} (hs : sg = 40) (ho : ¬ o = 6) (e : skp t (q + 1) = q2) (h : Rn t 1 q2 (t q2) (o + 1) (22 :: K) out) : Rn t 6 q sg o K out := by
  refine Rn_go (c := (6, q, sg, o, K)) (c' := (1, q2, (t q2), (o + 1), (22 :: K))) ?_ h
  rw [aS6]
  unfold aPr aOp aS; rw [ci_pos hs, ci_neg (by omega), e]
theorem R5_22F3 {t : Int → Int} {q sg o : Int} {K : List Int} (hs : sg = 40) (ho : o = 6) : Rn t 6 q sg o K (3, q, 0, 0) := by
  refine Rn_end (c := (6, q, sg, o, K)) ?_
  rw [aS6]
  unfold aPr aOp aF; rw [ci_pos hs, ci_pos ho]
theorem R5_22F1 {t : Int → Int} {q sg o : Int} {K : List Int} (hs : ¬ sg = 40) : Rn t 6 q sg o K (1, q, 0, 0) := by
  refine Rn_end (c := (6, q, sg, o, K)) ?_
  rw [aS6]
  unfold aPr aF; rw [ci_neg hs]
theorem R5_go {t : Int → Int} {ph q sg o q2 : Int} {K : List Int} {out : aOu} (hp : ph = 5 ∨ ph = 6) (hs : sg = 40) (ho : ¬ o = 6) (e : skp t (q + 1) = q2) (h : Rn t 1 q2 (t q2) (o + 1) ((ph + 16) :: K) out) : Rn t ph q sg o K out := by
  rcases hp with a | a
  · subst a
    exact R5_21 hs ho e h
  · subst a
    exact R5_22 hs ho e h
theorem R5_F3 {t : Int → Int} {ph q sg o : Int} {K : List Int} (hp : ph = 5 ∨ ph = 6) (hs : sg = 40) (ho : o = 6) : Rn t ph q sg o K (3, q, 0, 0) := by
  rcases hp with a | a
  · subst a
    exact R5_21F3 hs ho
  · subst a
    exact R5_22F3 hs ho
theorem R5_F1 {t : Int → Int} {ph q sg o : Int} {K : List Int} (hp : ph = 5 ∨ ph = 6) (hs : ¬ sg = 40) : Rn t ph q sg o K (1, q, 0, 0) := by
  rcases hp with a | a
  · subst a
    exact R5_21F1 hs
  · subst a
    exact R5_22F1 hs
theorem R1_six {t : Int → Int} {q sg o : Int} {K : List Int} {out : aOu} {q2 : Int} (hw : wd t q sg wSender ∨ wd t q sg wSquare) (hv : svQ t q sg) (e : skp t (q + 6) = q2) (h : Rn t 2 q2 (sgn t q2 (q + 6)) o K out) : Rn t 1 q sg o K out := by
  refine Rn_go (c := (1, q, sg, o, K)) (c' := (2, q2, (sgn t q2 (q + 6)), o, K)) ?_ h
  rw [aS1]
  have hb : t q = 115 := hw.elim wd_0 wd_0
  have hc : sg = 115 := hw.elim (fun h => wd_sg h hv) (fun h => wd_sg h hv)
  unfold a1 aW; rw [ci_neg (by omega), ci_neg (fun h => by have a := wd_0 h; omega), ci_neg (fun h => by have a := wd_0 h; omega), ci_pos hw, e]
theorem R1_Peak {t : Int → Int} {q sg o : Int} {K : List Int} {out : aOu} {q2 : Int} (hw : wd t q sg wPeak) (hv : svQ t q sg) (e : skp t (q + 4) = q2) (h : Rn t 2 q2 (sgn t q2 (q + 4)) o K out) : Rn t 1 q sg o K out := by
  refine Rn_go (c := (1, q, sg, o, K)) (c' := (2, q2, (sgn t q2 (q + 4)), o, K)) ?_ h
  rw [aS1]
  have hb := wd_0 hw
  have hc := wd_sg hw hv
  unfold a1 aW; rw [ci_neg (by omega), ci_neg (fun h => by have a := wd_0 h; omega), ci_neg (fun h => by have a := wd_0 h; omega), ci_neg (fun h => by have a := h.elim wd_0 wd_0; omega), ci_pos hw, e]
theorem R1_num {t : Int → Int} {q sg o : Int} {K : List Int} {out : aOu} {q2 n : Int} (hd : isDg sg) (hv : svQ t q sg) (hn : nd t q = n) (h5 : n ≤ 4) (e : skp t (q + n) = q2) (h : Rn t 2 q2 (sgn t q2 (q + n)) o K out) : Rn t 1 q sg o K out := by
  refine Rn_go (c := (1, q, sg, o, K)) (c' := (2, q2, (sgn t q2 (q + n)), o, K)) ?_ h
  rw [aS1]
  have hb : t q = sg := by
    unfold isDg at hd
    rcases hv with a | a
    · have := a.1; omega
    · omega
  have hd2 := hd
  unfold isDg at hd2
  unfold a1 aNum aW; rw [ci_neg (by omega), ci_neg (fun h => by have a := wd_0 h; omega), ci_neg (fun h => by have a := wd_0 h; omega), ci_neg (fun h => by have a := h.elim wd_0 wd_0; omega), ci_neg (fun h => by have a := wd_0 h; omega), ci_pos hd, ci_neg (by omega), hn, e]
theorem R1_num5 {t : Int → Int} {q sg o : Int} {K : List Int} (hd : isDg sg) (hv : svQ t q sg) (hn : nd t q = 5) : Rn t 1 q sg o K (1, (q + 4), 0, 0) := by
  refine Rn_end (c := (1, q, sg, o, K)) ?_
  rw [aS1]
  have hb : t q = sg := by
    unfold isDg at hd
    rcases hv with a | a
    · have := a.1; omega
    · omega
  have hd2 := hd
  unfold isDg at hd2
  unfold a1 aNum aF; rw [ci_neg (by omega), ci_neg (fun h => by have a := wd_0 h; omega), ci_neg (fun h => by have a := wd_0 h; omega), ci_neg (fun h => by have a := h.elim wd_0 wd_0; omega), ci_neg (fun h => by have a := wd_0 h; omega), ci_pos hd, ci_pos hn]
theorem R1_numF {t : Int → Int} {q sg o : Int} {K : List Int} (hd : ¬ isDg sg) (hs : ¬ sg = 40) (h1 : ¬ wd t q sg wMin) (h2 : ¬ wd t q sg wMax) (h3 : ¬ wd t q sg wSender) (h4 : ¬ wd t q sg wSquare) (h5 : ¬ wd t q sg wPeak) : Rn t 1 q sg o K (1, q, 0, 0) := by
  refine Rn_end (c := (1, q, sg, o, K)) ?_
  rw [aS1]
  unfold a1 aNum aF; rw [ci_neg hs, ci_neg h1, ci_neg h2, ci_neg (fun h => h.elim h3 h4), ci_neg h5, ci_neg hd]
theorem R2_close {t : Int → Int} {q sg o : Int} {K : List Int} {out : aOu} {m q2 : Int} (hs : sg = 41) (hm : m = 20 ∨ m = 23 ∨ m = 24) (e : skp t (q + 1) = q2) (h : Rn t 2 q2 (t q2) (o - 1) K out) : Rn t 2 q sg o (m :: K) out := by
  refine Rn_go (c := (2, q, sg, o, (m :: K))) (c' := (2, q2, (t q2), (o - 1), K)) ?_ h
  rw [aS2]
  have e9 : hd9 (m :: K) = m := rfl
  have eT : (m :: K).tail = K := rfl
  unfold a2; rw [e9, eT]; unfold aS; rw [ci_pos ⟨hs, hm⟩, e]
theorem R2_op {t : Int → Int} {q sg o : Int} {K : List Int} {out : aOu} {q2 : Int} (hs : sg = 42 ∨ sg = 47 ∨ sg = 43 ∨ sg = 45) (e : skp t (q + 1) = q2) (h : Rn t 1 q2 (t q2) o K out) : Rn t 2 q sg o K out := by
  refine Rn_go (c := (2, q, sg, o, K)) (c' := (1, q2, (t q2), o, K)) ?_ h
  rw [aS2]
  unfold a2 aS; rw [ci_neg (fun h => by have := h.1; omega), ci_pos hs, e]
theorem R2_comma {t : Int → Int} {q sg o : Int} {K : List Int} {out : aOu} {m q2 : Int} (hs : sg = 44) (hm : m = 21 ∨ m = 22) (e : skp t (q + 1) = q2) (h : Rn t 1 q2 (t q2) o ((m + 2) :: K) out) : Rn t 2 q sg o (m :: K) out := by
  refine Rn_go (c := (2, q, sg, o, (m :: K))) (c' := (1, q2, (t q2), o, ((m + 2) :: K))) ?_ h
  rw [aS2]
  have e9 : hd9 (m :: K) = m := rfl
  have eT : (m :: K).tail = K := rfl
  unfold a2; rw [e9, eT]; unfold aS; rw [ci_neg (fun h => by have := h.1; omega), ci_neg (by omega), ci_pos hm, ci_pos hs, e]
theorem R2_commaF {t : Int → Int} {q sg o : Int} {K : List Int} {m : Int} (hs : ¬ sg = 44) (hm : m = 21 ∨ m = 22) (hn : ¬ (sg = 42 ∨ sg = 47 ∨ sg = 43 ∨ sg = 45)) : Rn t 2 q sg o (m :: K) (1, q, 0, 0) := by
  refine Rn_end (c := (2, q, sg, o, (m :: K))) ?_
  rw [aS2]
  have e9 : hd9 (m :: K) = m := rfl
  have eT : (m :: K).tail = K := rfl
  unfold a2; rw [e9, eT]; unfold aF; rw [ci_neg (fun h => by have := h.2; omega), ci_neg hn, ci_pos hm, ci_neg hs]
theorem R2_closeF {t : Int → Int} {q sg o : Int} {K : List Int} {m : Int} (hs : ¬ sg = 41) (hm : m = 20 ∨ m = 23 ∨ m = 24) (hn : ¬ (sg = 42 ∨ sg = 47 ∨ sg = 43 ∨ sg = 45)) : Rn t 2 q sg o (m :: K) (1, q, 0, 0) := by
  refine Rn_end (c := (2, q, sg, o, (m :: K))) ?_
  rw [aS2]
  have e9 : hd9 (m :: K) = m := rfl
  have eT : (m :: K).tail = K := rfl
  unfold a2; rw [e9, eT]; rw [ci_neg (fun h => hs h.1), ci_neg hn, ci_neg (by omega), ci_neg (by omega), ci_neg (by omega), ci_neg (by omega)]; rfl
theorem R2_when {t : Int → Int} {q sg o : Int} {K : List Int} {out : aOu} {q2 : Int} (hw : wd t q sg wWhen) (hv : svQ t q sg) (e : skp t (q + 4) = q2) (h : Rn t 3 q2 (sgn t q2 (q + 4)) 0 K out) : Rn t 2 q sg o (30 :: K) out := by
  refine Rn_go (c := (2, q, sg, o, (30 :: K))) (c' := (3, q2, (sgn t q2 (q + 4)), 0, K)) ?_ h
  rw [aS2]
  have hc := wd_sg hw hv
  have e9 : hd9 (30 :: K) = 30 := rfl
  have eT : (30 :: K).tail = K := rfl
  unfold a2; rw [e9, eT]; unfold aW; rw [ci_neg (fun h => by have := h.2; omega), ci_neg (by omega), ci_neg (by omega), ci_pos rfl, ci_pos hw, e]
theorem R2_whenF {t : Int → Int} {q sg o : Int} {K : List Int} (hw : ¬ wd t q sg wWhen) (hn : ¬ (sg = 42 ∨ sg = 47 ∨ sg = 43 ∨ sg = 45)) : Rn t 2 q sg o (30 :: K) (1, q, 0, 0) := by
  refine Rn_end (c := (2, q, sg, o, (30 :: K))) ?_
  rw [aS2]
  have e9 : hd9 (30 :: K) = 30 := rfl
  have eT : (30 :: K).tail = K := rfl
  unfold a2; rw [e9, eT]; unfold aF; rw [ci_neg (fun h => by have := h.2; omega), ci_neg hn, ci_neg (by omega), ci_pos rfl, ci_neg hw]
theorem R2_cmp {t : Int → Int} {q sg o : Int} {K : List Int} {out : aOu} {q2 : Int} (hs : sg = 60 ∨ sg = 61 ∨ sg = 62) (e : skp t (q + 1) = q2) (h : Rn t 1 q2 (t q2) o (32 :: K) out) : Rn t 2 q sg o (31 :: K) out := by
  refine Rn_go (c := (2, q, sg, o, (31 :: K))) (c' := (1, q2, (t q2), o, (32 :: K))) ?_ h
  rw [aS2]
  have e9 : hd9 (31 :: K) = 31 := rfl
  have eT : (31 :: K).tail = K := rfl
  unfold a2; rw [e9, eT]; unfold aS; rw [ci_neg (fun h => by have := h.2; omega), ci_neg (by omega), ci_neg (by omega), ci_neg (by omega), ci_pos rfl, ci_pos hs, e]
theorem R2_cmpF {t : Int → Int} {q sg o : Int} {K : List Int} (hs : ¬ (sg = 60 ∨ sg = 61 ∨ sg = 62)) (hn : ¬ (sg = 42 ∨ sg = 47 ∨ sg = 43 ∨ sg = 45)) : Rn t 2 q sg o (31 :: K) (1, q, 0, 0) := by
  refine Rn_end (c := (2, q, sg, o, (31 :: K))) ?_
  rw [aS2]
  have e9 : hd9 (31 :: K) = 31 := rfl
  have eT : (31 :: K).tail = K := rfl
  unfold a2; rw [e9, eT]; unfold aF; rw [ci_neg (fun h => by have := h.2; omega), ci_neg hn, ci_neg (by omega), ci_neg (by omega), ci_pos rfl, ci_neg hs]
theorem R2_end {t : Int → Int} {q sg o : Int} {K : List Int} {out : aOu} (hn : ¬ (sg = 42 ∨ sg = 47 ∨ sg = 43 ∨ sg = 45)) (h : Rn t 4 q sg o K out) : Rn t 2 q sg o (32 :: K) out := by
  refine Rn_go (c := (2, q, sg, o, (32 :: K))) (c' := (4, q, sg, o, K)) ?_ h
  rw [aS2]
  have e9 : hd9 (32 :: K) = 32 := rfl
  have eT : (32 :: K).tail = K := rfl
  unfold a2; rw [e9, eT]; rw [ci_neg (fun h => by have := h.2; omega), ci_neg hn, ci_neg (by omega), ci_neg (by omega), ci_neg (by omega), ci_pos rfl]
theorem R3_not {t : Int → Int} {q sg o : Int} {K : List Int} {out : aOu} {q2 : Int} (hw : wd t q sg wNot) (ho : ¬ o = 6) (e : skp t (q + 3) = q2) (h : Rn t 3 q2 (sgn t q2 (q + 3)) (o + 1) (16 :: K) out) : Rn t 3 q sg o K out := by
  refine Rn_go (c := (3, q, sg, o, K)) (c' := (3, q2, (sgn t q2 (q + 3)), (o + 1), (16 :: K))) ?_ h
  rw [aS3]
  unfold a3 aW; rw [ci_pos hw, ci_neg (by omega), e]
theorem R3_notF {t : Int → Int} {q sg o : Int} {K : List Int} (hw : wd t q sg wNot) (ho : o = 6) : Rn t 3 q sg o K (3, q, 0, 0) := by
  refine Rn_end (c := (3, q, sg, o, K)) ?_
  rw [aS3]
  unfold a3 aF; rw [ci_pos hw, ci_pos ho]
theorem R3_sq {t : Int → Int} {q sg o : Int} {K : List Int} {out : aOu} {q2 : Int} (hs : sg = 91) (hv : svQ t q sg) (ho : ¬ o = 6) (e : skp t (q + 1) = q2) (h : Rn t 3 q2 (t q2) (o + 1) (25 :: K) out) : Rn t 3 q sg o K out := by
  refine Rn_go (c := (3, q, sg, o, K)) (c' := (3, q2, (t q2), (o + 1), (25 :: K))) ?_ h
  rw [aS3]
  unfold a3 aS; rw [ci_neg (fun h => by have := wd_sg h hv; omega), ci_pos hs, ci_neg (by omega), e]
theorem R3_sqF {t : Int → Int} {q sg o : Int} {K : List Int} (hs : sg = 91) (hv : svQ t q sg) (ho : o = 6) : Rn t 3 q sg o K (3, q, 0, 0) := by
  refine Rn_end (c := (3, q, sg, o, K)) ?_
  rw [aS3]
  unfold a3 aF; rw [ci_neg (fun h => by have := wd_sg h hv; omega), ci_pos hs, ci_pos ho]
theorem R3_all {t : Int → Int} {q sg o : Int} {K : List Int} {out : aOu} {q2 : Int} (hw : wd t q sg wAll) (hv : svQ t q sg) (e : skp t (q + 3) = q2) (h : Rn t 4 q2 (sgn t q2 (q + 3)) o K out) : Rn t 3 q sg o K out := by
  refine Rn_go (c := (3, q, sg, o, K)) (c' := (4, q2, (sgn t q2 (q + 3)), o, K)) ?_ h
  rw [aS3]
  have hc := wd_sg hw hv
  unfold a3 aW; rw [ci_neg (fun h => by have := wd_sg h hv; omega), ci_neg (by omega), ci_pos hw, e]
theorem R3_sum {t : Int → Int} {q sg o : Int} {K : List Int} {out : aOu} (h1 : ¬ wd t q sg wNot) (h2 : ¬ sg = 91) (h3 : ¬ wd t q sg wAll) (h : Rn t 1 q sg o (31 :: K) out) : Rn t 3 q sg o K out := by
  refine Rn_go (c := (3, q, sg, o, K)) (c' := (1, q, sg, o, (31 :: K))) ?_ h
  rw [aS3]
  unfold a3; rw [ci_neg h1, ci_neg h2, ci_neg h3]
theorem R4_not {t : Int → Int} {q sg o : Int} {K : List Int} {out : aOu}  (h : Rn t 4 q sg (o - 1) K out) : Rn t 4 q sg o (16 :: K) out := by
  refine Rn_go (c := (4, q, sg, o, (16 :: K))) (c' := (4, q, sg, (o - 1), K)) ?_ h
  rw [aS4]
  have e9 : hd9 (16 :: K) = 16 := rfl
  have eT : (16 :: K).tail = K := rfl
  unfold a4; rw [e9, eT]; rw [ci_pos rfl]
theorem R4_sq {t : Int → Int} {q sg o : Int} {K : List Int} {out : aOu} {q2 : Int} (hs : sg = 93) (e : skp t (q + 1) = q2) (h : Rn t 4 q2 (t q2) (o - 1) K out) : Rn t 4 q sg o (25 :: K) out := by
  refine Rn_go (c := (4, q, sg, o, (25 :: K))) (c' := (4, q2, (t q2), (o - 1), K)) ?_ h
  rw [aS4]
  have e9 : hd9 (25 :: K) = 25 := rfl
  have eT : (25 :: K).tail = K := rfl
  unfold a4; rw [e9, eT]; unfold aS; rw [ci_neg (by omega), ci_pos ⟨hs, rfl⟩, e]
theorem R4_and {t : Int → Int} {q sg o : Int} {K : List Int} {out : aOu} {q2 : Int} (hk : ¬ hd9 K = 16) (hw : wd t q sg wAnd) (hv : svQ t q sg) (e : skp t (q + 3) = q2) (h : Rn t 3 q2 (sgn t q2 (q + 3)) o K out) : Rn t 4 q sg o K out := by
  refine Rn_go (c := (4, q, sg, o, K)) (c' := (3, q2, (sgn t q2 (q + 3)), o, K)) ?_ h
  rw [aS4]
  have hc := wd_sg hw hv
  unfold a4 aW; rw [ci_neg hk, ci_neg (fun h => by have := h.1; omega), ci_pos hw, e]
theorem R4_or {t : Int → Int} {q sg o : Int} {K : List Int} {out : aOu} {q2 : Int} (hk : ¬ hd9 K = 16) (hw : wd t q sg wOr) (hv : svQ t q sg) (e : skp t (q + 2) = q2) (h : Rn t 3 q2 (sgn t q2 (q + 2)) o K out) : Rn t 4 q sg o K out := by
  refine Rn_go (c := (4, q, sg, o, K)) (c' := (3, q2, (sgn t q2 (q + 2)), o, K)) ?_ h
  rw [aS4]
  have hc := wd_sg hw hv
  unfold a4 aW; rw [ci_neg hk, ci_neg (fun h => by have := h.1; omega), ci_neg (fun h => by have := wd_sg h hv; omega), ci_pos hw, e]
theorem R4_sqF {t : Int → Int} {q sg o : Int} {K : List Int} (hs : ¬ sg = 93) (h1 : ¬ wd t q sg wAnd) (h2 : ¬ wd t q sg wOr) : Rn t 4 q sg o (25 :: K) (1, q, 0, 0) := by
  refine Rn_end (c := (4, q, sg, o, (25 :: K))) ?_
  rw [aS4]
  have e9 : hd9 (25 :: K) = 25 := rfl
  have eT : (25 :: K).tail = K := rfl
  unfold a4; rw [e9, eT]; rw [ci_neg (by omega), ci_neg (fun h => hs h.1), ci_neg h1, ci_neg h2, ci_pos rfl]; rfl
theorem R4_end {t : Int → Int} {q sg o : Int} {K : List Int} (h1 : ¬ wd t q sg wAnd) (h2 : ¬ wd t q sg wOr) : Rn t 4 q sg o [] (0, 0, q, sg) := by
  refine Rn_end (c := (4, q, sg, o, [])) ?_
  rw [aS4]
  have e9 : hd9 [] = 99 := rfl
  unfold a4; rw [e9, ci_neg (by omega), ci_neg (fun h => absurd h.2 (by omega)), ci_neg h1, ci_neg h2, ci_neg (by omega)]
