/-! the text of a house as an automaton reads it: t i the byte at i, -1 outside -/
noncomputable def ci {α : Type} (p : Prop) (a b : α) : α := @ite α p (Classical.propDecidable p) a b
def isBl (c : Int) : Prop := c = 10 ∨ c = 32
def isSm (c : Int) : Prop := 97 ≤ c ∧ c ≤ 122
def isDg (c : Int) : Prop := 48 ≤ c ∧ c ≤ 57
noncomputable def sk (t : Int → Int) : Nat → Int → Int
  | 0, p => p
  | k + 1, p => ci (isBl (t p)) (sk t k (p + 1)) p
noncomputable def skp (t : Int → Int) (p : Int) : Int := sk t 1700 p
/-- from p to q blanks alone -/
noncomputable def sgn (t : Int → Int) (q e : Int) : Int := ci (q = e ∧ (isSm (t q) ∨ isDg (t q))) 0 (t q)
def mt (t : Int → Int) : Int → List Int → Prop
  | _, [] => True
  | q, a :: w => t q = a ∧ mt t (q + 1) w
def wd (t : Int → Int) (q sg : Int) (w : List Int) : Prop := sg ≠ 0 ∧ mt t q w ∧ ¬ isSm (t (q + (w.length : Int)))
noncomputable def ndk (t : Int → Int) : Nat → Int → Int
  | 0, _ => 0
  | k + 1, q => ci (isDg (t q)) (1 + ndk t k (q + 1)) 0
noncomputable def nd (t : Int → Int) (q : Int) : Int := ndk t 5 q
/-- n digits from q on, and no more than they -/
abbrev wMin : List Int := [109, 105, 110]
abbrev wMax : List Int := [109, 97, 120]
abbrev wSender : List Int := [115, 101, 110, 100, 101, 114]
abbrev wSquare : List Int := [115, 113, 117, 97, 114, 101]
abbrev wPeak : List Int := [112, 101, 97, 107]
abbrev wWhen : List Int := [119, 104, 101, 110]
abbrev wNot : List Int := [110, 111, 116]
abbrev wAll : List Int := [97, 108, 108]
abbrev wAnd : List Int := [97, 110, 100]
abbrev wOr : List Int := [111, 114]
abbrev aCf : Type := Int × Int × Int × Int × List Int
abbrev aOu : Type := Int × Int × Int × Int
noncomputable def aS (t : Int → Int) (ph p o : Int) (K : List Int) : aCf ⊕ aOu := .inl (ph, skp t p, t (skp t p), o, K)
noncomputable def aW (t : Int → Int) (ph p o : Int) (K : List Int) : aCf ⊕ aOu := .inl (ph, skp t p, sgn t (skp t p) p, o, K)
def aF (kind q : Int) : aCf ⊕ aOu := .inr (kind, q, 0, 0)
noncomputable def aOp (t : Int → Int) (q o m : Int) (K : List Int) : aCf ⊕ aOu := ci (o = 6) (aF 3 q) (aS t 1 (q + 1) (o + 1) (m :: K))
noncomputable def aPr (t : Int → Int) (q sg o m : Int) (K : List Int) : aCf ⊕ aOu := ci (sg = 40) (aOp t q o m K) (aF 1 q)
noncomputable def aNum (t : Int → Int) (q sg o : Int) (K : List Int) : aCf ⊕ aOu := ci (isDg sg) (ci (nd t q = 5) (aF 1 (q + 4)) (aW t 2 (q + nd t q) o K)) (aF 1 q)
noncomputable def a1 (t : Int → Int) (q sg o : Int) (K : List Int) : aCf ⊕ aOu :=
  ci (sg = 40) (aOp t q o 20 K)
  (ci (wd t q sg wMin) (aW t 5 (q + 3) o K)
  (ci (wd t q sg wMax) (aW t 6 (q + 3) o K)
  (ci (wd t q sg wSender ∨ wd t q sg wSquare) (aW t 2 (q + 6) o K)
  (ci (wd t q sg wPeak) (aW t 2 (q + 4) o K)
  (aNum t q sg o K)))))
def hd9 : List Int → Int
  | [] => 99
  | a :: _ => a
noncomputable def a2 (t : Int → Int) (q sg o : Int) (K : List Int) : aCf ⊕ aOu :=
  ci (sg = 41 ∧ (hd9 K = 20 ∨ hd9 K = 23 ∨ hd9 K = 24)) (aS t 2 (q + 1) (o - 1) K.tail)
  (ci (sg = 42 ∨ sg = 47 ∨ sg = 43 ∨ sg = 45) (aS t 1 (q + 1) o K)
  (ci (hd9 K = 21 ∨ hd9 K = 22) (ci (sg = 44) (aS t 1 (q + 1) o ((hd9 K + 2) :: K.tail)) (aF 1 q))
  (ci (hd9 K = 30) (ci (wd t q sg wWhen) (aW t 3 (q + 4) 0 K.tail) (aF 1 q))
  (ci (hd9 K = 31) (ci (sg = 60 ∨ sg = 61 ∨ sg = 62) (aS t 1 (q + 1) o (32 :: K.tail)) (aF 1 q))
  (ci (hd9 K = 32) (.inl (4, q, sg, o, K.tail)) (aF 1 q))))))
noncomputable def a3 (t : Int → Int) (q sg o : Int) (K : List Int) : aCf ⊕ aOu :=
  ci (wd t q sg wNot) (ci (o = 6) (aF 3 q) (aW t 3 (q + 3) (o + 1) (16 :: K)))
  (ci (sg = 91) (ci (o = 6) (aF 3 q) (aS t 3 (q + 1) (o + 1) (25 :: K)))
  (ci (wd t q sg wAll) (aW t 4 (q + 3) o K)
  (.inl (1, q, sg, o, 31 :: K))))
noncomputable def a4 (t : Int → Int) (q sg o : Int) (K : List Int) : aCf ⊕ aOu :=
  ci (hd9 K = 16) (.inl (4, q, sg, o - 1, K.tail))
  (ci (sg = 93 ∧ hd9 K = 25) (aS t 4 (q + 1) (o - 1) K.tail)
  (ci (wd t q sg wAnd) (aW t 3 (q + 3) o K)
  (ci (wd t q sg wOr) (aW t 3 (q + 2) o K)
  (ci (hd9 K = 25) (aF 1 q) (.inr (0, 0, q, sg))))))
noncomputable def aStp (t : Int → Int) (c : aCf) : aCf ⊕ aOu :=
  ci (c.1 = 1) (a1 t c.2.1 c.2.2.1 c.2.2.2.1 c.2.2.2.2)
  (ci (c.1 = 2) (a2 t c.2.1 c.2.2.1 c.2.2.2.1 c.2.2.2.2)
  (ci (c.1 = 3) (a3 t c.2.1 c.2.2.1 c.2.2.2.1 c.2.2.2.2)
  (ci (c.1 = 5) (aPr t c.2.1 c.2.2.1 c.2.2.2.1 21 c.2.2.2.2)
  (ci (c.1 = 6) (aPr t c.2.1 c.2.2.1 c.2.2.2.1 22 c.2.2.2.2)
  (a4 t c.2.1 c.2.2.1 c.2.2.2.1 c.2.2.2.2)))))
noncomputable def aIt (t : Int → Int) : Nat → aCf → Option aOu
  | 0, _ => none
  | n + 1, c => match aStp t c with
    | .inl c' => aIt t n c'
    | .inr o => some o
def Rn (t : Int → Int) (ph q sg o : Int) (K : List Int) (out : aOu) : Prop := ∃ n, aIt t n (ph, q, sg, o, K) = some out
/-! the class reads as the automaton does -/
/-- what was read of a word so far -/
def nvk (t : Int → Int) (q : Int) : Nat → Int
  | 0 => 0
  | k + 1 => 10 * nvk t q k + t (q + (k : Int)) - 48
noncomputable def nvn (t : Int → Int) (q : Int) : Int := nvk t q (nd t q).toNat
/-! sums and tests, as the class reads them -/
/-! tests -/
/-! numbers, rows, statements: functions of the text -/
abbrev sR : Type := Int × Int × Int × Int × Int
noncomputable def nuF (t : Int → Int) (q sg : Int) : sR := ci (isDg sg) (ci (nd t q = 5) (1, q + 4, 0, 0, 0) (0, 0, nvn t q, skp t (q + nd t q), sgn t (skp t (q + nd t q)) (q + nd t q))) (1, q, 0, 0, 0)
/-- what a method that answers bad on a fault tells: its function of the text -/
noncomputable def btF (t : Int → Int) (q sg lo hi : Int) : sR := ci ((nuF t q sg).1 = 0 ∧ ¬ (lo ≤ (nuF t q sg).2.2.1 ∧ (nuF t q sg).2.2.1 ≤ hi)) (2, q, 0, 0, 0) (nuF t q sg)
noncomputable def sdF (t : Int → Int) (q sg : Int) : sR := ci (sg = 45) ((nuF t (skp t (q + 1)) (t (skp t (q + 1)))).1, (nuF t (skp t (q + 1)) (t (skp t (q + 1)))).2.1, -(nuF t (skp t (q + 1)) (t (skp t (q + 1)))).2.2.1, (nuF t (skp t (q + 1)) (t (skp t (q + 1)))).2.2.2) (nuF t q sg)
/-- so many numbers with a sign, each as it must be -/
noncomputable def rwF (t : Int → Int) (ok : Int → Prop) : Nat → Int → Int → sR
  | 0, q, sg => (0, 0, 0, q, sg)
  | k + 1, q, sg => ci ((sdF t q sg).1 = 0) (ci (ok (sdF t q sg).2.2.1) (rwF t ok k (sdF t q sg).2.2.2.1 (sdF t q sg).2.2.2.2) (2, q, 0, 0, 0)) ((sdF t q sg).1, (sdF t q sg).2.1, 0, 0, 0)
def okR (v : Int) : Prop := -99 ≤ v ∧ v ≤ 99
def okL (L v : Int) : Prop := -L < v ∧ v < L ∧ (v + L) % 2 = 1
abbrev sZ : Type := Int × Int × Int × Int × Int × Int × Int
noncomputable def szH (t : Int → Int) (L S q sg : Int) : sZ := ci ((btF t q sg 1 6).1 = 0) (0, 0, L, S, (btF t q sg 1 6).2.2.1, (btF t q sg 1 6).2.2.2.1, (btF t q sg 1 6).2.2.2.2) ((btF t q sg 1 6).1, (btF t q sg 1 6).2.1, 0, 0, 0, 0, 0)
noncomputable def szG (t : Int → Int) (L q sg : Int) : sZ := ci ((btF t q sg 1 5).1 = 0) (szH t L (btF t q sg 1 5).2.2.1 (btF t q sg 1 5).2.2.2.1 (btF t q sg 1 5).2.2.2.2) ((btF t q sg 1 5).1, (btF t q sg 1 5).2.1, 0, 0, 0, 0, 0)
noncomputable def szF (t : Int → Int) (q sg : Int) : sZ := ci ((btF t q sg 2 8).1 = 0) (szG t (btF t q sg 2 8).2.2.1 (btF t q sg 2 8).2.2.2.1 (btF t q sg 2 8).2.2.2.2) ((btF t q sg 2 8).1, (btF t q sg 2 8).2.1, 0, 0, 0, 0, 0)
noncomputable def limF (t : Int → Int) (q sg : Int) : sR := ((btF t q sg 0 9999).1, (btF t q sg 0 9999).2.1, 0, (btF t q sg 0 9999).2.2.2.1, (btF t q sg 0 9999).2.2.2.2)
/-! the words -/
/-! a statement, the house: functions of the text -/
noncomputable def ruE (t : Int → Int) (q sg : Int) : aOu := @Classical.epsilon aOu ⟨(0, 0, 0, 0)⟩ (fun out => Rn t 1 q sg 0 [30] out)
noncomputable def ruF (t : Int → Int) (q sg : Int) : sR := ((ruE t q sg).1, (ruE t q sg).2.1, 0, (ruE t q sg).2.2.1, (ruE t q sg).2.2.2)
abbrev wHouse : List Int := [104, 111, 117, 115, 101]
abbrev wRow : List Int := [114, 111, 119]
abbrev wWord : List Int := [119, 111, 114, 100]
abbrev wWorth : List Int := [119, 111, 114, 116, 104]
abbrev wLimit : List Int := [108, 105, 109, 105, 116]
/-- kind, place, where it goes on, the sign there, rows, words, rules told -/
abbrev sS : Type := Int × Int × Int × Int × Int × Int × Int
noncomputable def stR (x : sR) (rt wt rc : Int) : sS := ci (x.1 = 0) (0, 0, x.2.2.2.1, x.2.2.2.2, rt, wt, rc) (x.1, x.2.1, 0, 0, 0, 0, 0)
noncomputable def stF (t : Int → Int) (L S R rt wt rc q sg : Int) : sS :=
  ci (wd t q sg wRow) (ci (rt < R) (stR (rwF t okR S.toNat (skp t (q + 3)) (sgn t (skp t (q + 3)) (q + 3))) (rt + 1) wt rc) (4, q, 0, 0, 0, 0, 0))
  (ci (wd t q sg wWord) (ci (wt < 16) (stR (rwF t (okL L) S.toNat (skp t (q + 4)) (sgn t (skp t (q + 4)) (q + 4))) rt (wt + 1) rc) (4, q, 0, 0, 0, 0, 0))
  (ci (wd t q sg wWorth) (ci (rc < 8) (stR (ruF t (skp t (q + 5)) (sgn t (skp t (q + 5)) (q + 5))) rt wt (rc + 1)) (4, q, 0, 0, 0, 0, 0))
  (ci (wd t q sg wLimit) (stR (limF t (skp t (q + 5)) (sgn t (skp t (q + 5)) (q + 5))) rt wt rc) (1, q, 0, 0, 0, 0, 0))))
/-- statement by statement: kind, place, how many, letters, senders, receivers, rows, words, rules -/
abbrev hO : Type := Int × Int × Int × Int × Int × Int × Int × Int × Int
def hF (k q : Int) : hO := (k, q, 0, 0, 0, 0, 0, 0, 0)
noncomputable def lpF (t : Int → Int) (L S R : Int) : Nat → Int → Int → Int → Int → Int → Int → hO
  | 0, _, _, _, _, _, _ => hF 0 0
  | k + 1, n, rt, wt, rc, q, sg => ci (sg = -1) (0, 0, n, L, S, R, rt, wt, rc) (ci (n = 60) (hF 4 q)
      (ci ((stF t L S R rt wt rc q sg).1 = 0)
        (ci ((stF t L S R rt wt rc q sg).2.2.2.1 = 59)
          (lpF t L S R k (n + 1) (stF t L S R rt wt rc q sg).2.2.2.2.1 (stF t L S R rt wt rc q sg).2.2.2.2.2.1 (stF t L S R rt wt rc q sg).2.2.2.2.2.2 (skp t ((stF t L S R rt wt rc q sg).2.2.1 + 1)) (t (skp t ((stF t L S R rt wt rc q sg).2.2.1 + 1))))
          (hF 1 (stF t L S R rt wt rc q sg).2.2.1))
        (hF (stF t L S R rt wt rc q sg).1 (stF t L S R rt wt rc q sg).2.1)))
noncomputable def hsF (t : Int → Int) (q sg : Int) : sZ := ci (wd t q sg wHouse) (szF t (skp t (q + 5)) (sgn t (skp t (q + 5)) (q + 5))) (1, q, 0, 0, 0, 0, 0)
noncomputable def hoG (t : Int → Int) (x : sZ) : hO :=
  ci (x.1 = 0) (ci (x.2.2.2.2.2.2 = 59) (lpF t x.2.2.1 x.2.2.2.1 x.2.2.2.2.1 60 1 0 0 0 (skp t (x.2.2.2.2.2.1 + 1)) (t (skp t (x.2.2.2.2.2.1 + 1)))) (hF 1 x.2.2.2.2.2.1)) (hF x.1 x.2.1)
noncomputable def hoF (t : Int → Int) : hO := hoG t (hsF t (skp t 0) (t (skp t 0)))
