/-! the reference reads as the automaton does -/
def tau (f : Nat → Int32) (n i : Int) : Int := if 0 ≤ i ∧ i < n then (f i.toNat).toInt else -1
theorem tau_in {f : Nat → Int32} {n i : Int} (h1 : 0 ≤ i) (h2 : i < n) : tau f n i = (f i.toNat).toInt := if_pos ⟨h1, h2⟩
theorem tau_out {f : Nat → Int32} {n i : Int} (h : i < 0 ∨ n ≤ i) : tau f n i = -1 := if_neg (fun q => by omega)
theorem sk_ge {t : Int → Int} : ∀ (k : Nat) (p : Int), p ≤ sk t k p
  | 0, p => by show p ≤ p; omega
  | k + 1, p => by
    show p ≤ ci (isBl (t p)) (sk t k (p + 1)) p
    by_cases h : isBl (t p)
    · rw [ci_pos h]
      have := sk_ge (t := t) k (p + 1)
      omega
    · rw [ci_neg h]
      omega
theorem skp_ge {t : Int → Int} {p : Int} : p ≤ skp t p := sk_ge 1700 p
theorem sgn_far {t : Int → Int} {q e : Int} (h : e < q) : sgn t q e = t q := ci_neg (fun a => by have := a.1; omega)
theorem sgn_c {t : Int → Int} {q e c : Int} (h : t q = c) (hc : c < 48 ∨ (57 < c ∧ c < 97) ∨ 122 < c) : sgn t q e = c := by
  unfold sgn
  rw [ci_neg (fun a => by have := a.2; unfold isSm isDg at this; omega)]
  exact h
theorem sgn_nc {t : Int → Int} {q e c : Int} (h : ¬ t q = c) (hc : ¬ c = 0) : ¬ sgn t q e = c := by
  unfold sgn
  by_cases a : q = e ∧ (isSm (t q) ∨ isDg (t q))
  · rw [ci_pos a]; omega
  · rw [ci_neg a]; exact h
theorem sgn_0 {t : Int → Int} {q e : Int} (h : q = e) (hs : isSm (t q) ∨ isDg (t q)) : sgn t q e = 0 := ci_pos ⟨h, hs⟩
theorem sgn_ne {t : Int → Int} {q e : Int} (h : ¬ q = e) : sgn t q e = t q := ci_neg (fun a => h a.1)
def Rm (t : Int → Int) (ph at_ e o : Int) (K : List Int) (out : aOu) : Prop := Rn t ph (skp t at_) (sgn t (skp t at_) e) o K out
theorem M1_par {t : Int → Int} {at_ e o q a2 : Int} {K : List Int} {out : aOu} (hq : q = skp t at_) (he : e ≤ q) (hc : t q = 40) (ho : ¬ o = 6) (ha : a2 = q + 1) (h : Rm t 1 a2 e (o + 1) (20 :: K) out) : Rm t 1 at_ e o K out := by
  subst ha
  subst hq
  unfold Rm at h ⊢
  rw [sgn_far (show e < skp t (skp t at_ + 1) by have := skp_ge (t := t) (p := skp t at_ + 1); omega)] at h
  exact R1_par (sgn_c hc (by omega)) ho rfl h
theorem M2_close {t : Int → Int} {at_ e o q a2 : Int} {K : List Int} {out : aOu} {m : Int} (hq : q = skp t at_) (he : e ≤ q) (hc : t q = 41) (hm : m = 20 ∨ m = 23 ∨ m = 24) (ha : a2 = q + 1) (h : Rm t 2 a2 e (o - 1) K out) : Rm t 2 at_ e o (m :: K) out := by
  subst ha
  subst hq
  unfold Rm at h ⊢
  rw [sgn_far (show e < skp t (skp t at_ + 1) by have := skp_ge (t := t) (p := skp t at_ + 1); omega)] at h
  exact R2_close (sgn_c hc (by omega)) hm rfl h
theorem M2_op {t : Int → Int} {at_ e o q a2 : Int} {K : List Int} {out : aOu} {c : Int} (hq : q = skp t at_) (he : e ≤ q) (hc : t q = c) (hx : c = 42 ∨ c = 47 ∨ c = 43 ∨ c = 45) (ha : a2 = q + 1) (h : Rm t 1 a2 e o K out) : Rm t 2 at_ e o K out := by
  subst ha
  subst hq
  unfold Rm at h ⊢
  rw [sgn_far (show e < skp t (skp t at_ + 1) by have := skp_ge (t := t) (p := skp t at_ + 1); omega)] at h
  exact R2_op (by have := sgn_c (e := e) hc (by omega); omega) rfl h
theorem M2_comma {t : Int → Int} {at_ e o q a2 : Int} {K : List Int} {out : aOu} {m : Int} (hq : q = skp t at_) (he : e ≤ q) (hc : t q = 44) (hm : m = 21 ∨ m = 22) (ha : a2 = q + 1) (h : Rm t 1 a2 e o ((m + 2) :: K) out) : Rm t 2 at_ e o (m :: K) out := by
  subst ha
  subst hq
  unfold Rm at h ⊢
  rw [sgn_far (show e < skp t (skp t at_ + 1) by have := skp_ge (t := t) (p := skp t at_ + 1); omega)] at h
  exact R2_comma (sgn_c hc (by omega)) hm rfl h
theorem M2_cmp {t : Int → Int} {at_ e o q a2 : Int} {K : List Int} {out : aOu} {c : Int} (hq : q = skp t at_) (he : e ≤ q) (hc : t q = c) (hx : c = 60 ∨ c = 61 ∨ c = 62) (ha : a2 = q + 1) (h : Rm t 1 a2 e o (32 :: K) out) : Rm t 2 at_ e o (31 :: K) out := by
  subst ha
  subst hq
  unfold Rm at h ⊢
  rw [sgn_far (show e < skp t (skp t at_ + 1) by have := skp_ge (t := t) (p := skp t at_ + 1); omega)] at h
  exact R2_cmp (by have := sgn_c (e := e) hc (by omega); omega) rfl h
theorem M3_sq {t : Int → Int} {at_ e o q a2 : Int} {K : List Int} {out : aOu} (hq : q = skp t at_) (he : e ≤ q) (hc : t q = 91) (ho : ¬ o = 6) (ha : a2 = q + 1) (h : Rm t 3 a2 e (o + 1) (25 :: K) out) : Rm t 3 at_ e o K out := by
  subst ha
  subst hq
  unfold Rm at h ⊢
  rw [sgn_far (show e < skp t (skp t at_ + 1) by have := skp_ge (t := t) (p := skp t at_ + 1); omega)] at h
  exact R3_sq (sgn_c hc (by omega)) sgn_sv ho rfl h
theorem M4_sq {t : Int → Int} {at_ e o q a2 : Int} {K : List Int} {out : aOu} (hq : q = skp t at_) (he : e ≤ q) (hc : t q = 93) (ha : a2 = q + 1) (h : Rm t 4 a2 e (o - 1) K out) : Rm t 4 at_ e o (25 :: K) out := by
  subst ha
  subst hq
  unfold Rm at h ⊢
  rw [sgn_far (show e < skp t (skp t at_ + 1) by have := skp_ge (t := t) (p := skp t at_ + 1); omega)] at h
  exact R4_sq (sgn_c hc (by omega)) rfl h
theorem M5_go {t : Int → Int} {at_ e o q a2 : Int} {K : List Int} {out : aOu} {ph : Int} (hq : q = skp t at_) (he : e ≤ q) (hc : t q = 40) (hp : ph = 5 ∨ ph = 6) (ho : ¬ o = 6) (ha : a2 = q + 1) (h : Rm t 1 a2 e (o + 1) ((ph + 16) :: K) out) : Rm t ph at_ e o K out := by
  subst ha
  subst hq
  unfold Rm at h ⊢
  rw [sgn_far (show e < skp t (skp t at_ + 1) by have := skp_ge (t := t) (p := skp t at_ + 1); omega)] at h
  exact R5_go hp (sgn_c hc (by omega)) ho rfl h
theorem M1_Min {t : Int → Int} {at_ e o q a2 : Int} {K : List Int} {out : aOu} (hq : q = skp t at_) (hw : wd t q (sgn t q e) wMin) (ha : a2 = q + 3) (h : Rm t 5 a2 a2 o K out) : Rm t 1 at_ e o K out := by
  subst ha
  subst hq
  unfold Rm at h ⊢
  exact R1_Min hw sgn_sv rfl h
theorem M1_Max {t : Int → Int} {at_ e o q a2 : Int} {K : List Int} {out : aOu} (hq : q = skp t at_) (hw : wd t q (sgn t q e) wMax) (ha : a2 = q + 3) (h : Rm t 6 a2 a2 o K out) : Rm t 1 at_ e o K out := by
  subst ha
  subst hq
  unfold Rm at h ⊢
  exact R1_Max hw sgn_sv rfl h
theorem M1_six {t : Int → Int} {at_ e o q a2 : Int} {K : List Int} {out : aOu} (hq : q = skp t at_) (hw : wd t q (sgn t q e) wSender ∨ wd t q (sgn t q e) wSquare) (ha : a2 = q + 6) (h : Rm t 2 a2 a2 o K out) : Rm t 1 at_ e o K out := by
  subst ha
  subst hq
  unfold Rm at h ⊢
  exact R1_six hw sgn_sv rfl h
theorem M1_Peak {t : Int → Int} {at_ e o q a2 : Int} {K : List Int} {out : aOu} (hq : q = skp t at_) (hw : wd t q (sgn t q e) wPeak) (ha : a2 = q + 4) (h : Rm t 2 a2 a2 o K out) : Rm t 1 at_ e o K out := by
  subst ha
  subst hq
  unfold Rm at h ⊢
  exact R1_Peak hw sgn_sv rfl h
theorem M2_when {t : Int → Int} {at_ e o q a2 : Int} {K : List Int} {out : aOu} (hq : q = skp t at_) (hw : wd t q (sgn t q e) wWhen) (ha : a2 = q + 4) (h : Rm t 3 a2 a2 0 K out) : Rm t 2 at_ e o (30 :: K) out := by
  subst ha
  subst hq
  unfold Rm at h ⊢
  exact R2_when hw sgn_sv rfl h
theorem M3_not {t : Int → Int} {at_ e o q a2 : Int} {K : List Int} {out : aOu} (hq : q = skp t at_) (hw : wd t q (sgn t q e) wNot) (ho : ¬ o = 6) (ha : a2 = q + 3) (h : Rm t 3 a2 a2 (o + 1) (16 :: K) out) : Rm t 3 at_ e o K out := by
  subst ha
  subst hq
  unfold Rm at h ⊢
  exact R3_not hw ho rfl h
theorem M3_all {t : Int → Int} {at_ e o q a2 : Int} {K : List Int} {out : aOu} (hq : q = skp t at_) (hw : wd t q (sgn t q e) wAll) (ha : a2 = q + 3) (h : Rm t 4 a2 a2 o K out) : Rm t 3 at_ e o K out := by
  subst ha
  subst hq
  unfold Rm at h ⊢
  exact R3_all hw sgn_sv rfl h
theorem M4_and {t : Int → Int} {at_ e o q a2 : Int} {K : List Int} {out : aOu} (hq : q = skp t at_) (hw : wd t q (sgn t q e) wAnd) (hk : ¬ hd9 K = 16) (ha : a2 = q + 3) (h : Rm t 3 a2 a2 o K out) : Rm t 4 at_ e o K out := by
  subst ha
  subst hq
  unfold Rm at h ⊢
  exact R4_and hk hw sgn_sv rfl h
theorem M4_or {t : Int → Int} {at_ e o q a2 : Int} {K : List Int} {out : aOu} (hq : q = skp t at_) (hw : wd t q (sgn t q e) wOr) (hk : ¬ hd9 K = 16) (ha : a2 = q + 2) (h : Rm t 3 a2 a2 o K out) : Rm t 4 at_ e o K out := by
  subst ha
  subst hq
  unfold Rm at h ⊢
  exact R4_or hk hw sgn_sv rfl h
theorem M1_parF {t : Int → Int} {at_ e o q : Int} {K : List Int} (hq : q = skp t at_) (hc : t q = 40) (ho : o = 6) : Rm t 1 at_ e o K (3, q, 0, 0) := by
  subst hq
  unfold Rm
  exact R1_parF (sgn_c hc (by omega)) ho
theorem M5_F3 {t : Int → Int} {at_ e o q : Int} {K : List Int} {ph : Int} (hq : q = skp t at_) (hp : ph = 5 ∨ ph = 6) (hc : t q = 40) (ho : o = 6) : Rm t ph at_ e o K (3, q, 0, 0) := by
  subst hq
  unfold Rm
  exact R5_F3 hp (sgn_c hc (by omega)) ho
theorem M5_F1 {t : Int → Int} {at_ e o q : Int} {K : List Int} {ph : Int} (hq : q = skp t at_) (hp : ph = 5 ∨ ph = 6) (hc : ¬ t q = 40) : Rm t ph at_ e o K (1, q, 0, 0) := by
  subst hq
  unfold Rm
  exact R5_F1 hp (sgn_nc hc (by omega))
theorem M2_commaF {t : Int → Int} {at_ e o q : Int} {K : List Int} {m : Int} (hq : q = skp t at_) (hc : ¬ t q = 44) (hm : m = 21 ∨ m = 22) (hn : ¬ (t q = 42 ∨ t q = 47 ∨ t q = 43 ∨ t q = 45)) : Rm t 2 at_ e o (m :: K) (1, q, 0, 0) := by
  subst hq
  unfold Rm
  exact R2_commaF (sgn_nc hc (by omega)) hm (by have a := sgn_nc (t := t) (q := skp t at_) (e := e) (c := 42) (by omega) (by omega); have b := sgn_nc (t := t) (q := skp t at_) (e := e) (c := 47) (by omega) (by omega); have c := sgn_nc (t := t) (q := skp t at_) (e := e) (c := 43) (by omega) (by omega); have d := sgn_nc (t := t) (q := skp t at_) (e := e) (c := 45) (by omega) (by omega); omega)
theorem M2_closeF {t : Int → Int} {at_ e o q : Int} {K : List Int} {m : Int} (hq : q = skp t at_) (hc : ¬ t q = 41) (hm : m = 20 ∨ m = 23 ∨ m = 24) (hn : ¬ (t q = 42 ∨ t q = 47 ∨ t q = 43 ∨ t q = 45)) : Rm t 2 at_ e o (m :: K) (1, q, 0, 0) := by
  subst hq
  unfold Rm
  exact R2_closeF (sgn_nc hc (by omega)) hm (by have a := sgn_nc (t := t) (q := skp t at_) (e := e) (c := 42) (by omega) (by omega); have b := sgn_nc (t := t) (q := skp t at_) (e := e) (c := 47) (by omega) (by omega); have c := sgn_nc (t := t) (q := skp t at_) (e := e) (c := 43) (by omega) (by omega); have d := sgn_nc (t := t) (q := skp t at_) (e := e) (c := 45) (by omega) (by omega); omega)
theorem M2_whenF {t : Int → Int} {at_ e o q : Int} {K : List Int} (hq : q = skp t at_) (hw : ¬ wd t q (sgn t q e) wWhen) (hn : ¬ (t q = 42 ∨ t q = 47 ∨ t q = 43 ∨ t q = 45)) : Rm t 2 at_ e o (30 :: K) (1, q, 0, 0) := by
  subst hq
  unfold Rm
  exact R2_whenF hw (by have a := sgn_nc (t := t) (q := skp t at_) (e := e) (c := 42) (by omega) (by omega); have b := sgn_nc (t := t) (q := skp t at_) (e := e) (c := 47) (by omega) (by omega); have c := sgn_nc (t := t) (q := skp t at_) (e := e) (c := 43) (by omega) (by omega); have d := sgn_nc (t := t) (q := skp t at_) (e := e) (c := 45) (by omega) (by omega); omega)
theorem M2_cmpF {t : Int → Int} {at_ e o q : Int} {K : List Int} (hq : q = skp t at_) (hc : ¬ (t q = 60 ∨ t q = 61 ∨ t q = 62)) (hn : ¬ (t q = 42 ∨ t q = 47 ∨ t q = 43 ∨ t q = 45)) : Rm t 2 at_ e o (31 :: K) (1, q, 0, 0) := by
  subst hq
  unfold Rm
  exact R2_cmpF (by have a := sgn_nc (t := t) (q := skp t at_) (e := e) (c := 60) (by omega) (by omega); have b := sgn_nc (t := t) (q := skp t at_) (e := e) (c := 61) (by omega) (by omega); have c := sgn_nc (t := t) (q := skp t at_) (e := e) (c := 62) (by omega) (by omega); omega) (by have a := sgn_nc (t := t) (q := skp t at_) (e := e) (c := 42) (by omega) (by omega); have b := sgn_nc (t := t) (q := skp t at_) (e := e) (c := 47) (by omega) (by omega); have c := sgn_nc (t := t) (q := skp t at_) (e := e) (c := 43) (by omega) (by omega); have d := sgn_nc (t := t) (q := skp t at_) (e := e) (c := 45) (by omega) (by omega); omega)
theorem M3_notF {t : Int → Int} {at_ e o q : Int} {K : List Int} (hq : q = skp t at_) (hw : wd t q (sgn t q e) wNot) (ho : o = 6) : Rm t 3 at_ e o K (3, q, 0, 0) := by
  subst hq
  unfold Rm
  exact R3_notF hw ho
theorem M3_sqF {t : Int → Int} {at_ e o q : Int} {K : List Int} (hq : q = skp t at_) (hc : t q = 91) (ho : o = 6) : Rm t 3 at_ e o K (3, q, 0, 0) := by
  subst hq
  unfold Rm
  exact R3_sqF (sgn_c hc (by omega)) sgn_sv ho
theorem M4_sqF {t : Int → Int} {at_ e o q : Int} {K : List Int} (hq : q = skp t at_) (hc : ¬ t q = 93) (h1 : ¬ wd t q (sgn t q e) wAnd) (h2 : ¬ wd t q (sgn t q e) wOr) : Rm t 4 at_ e o (25 :: K) (1, q, 0, 0) := by
  subst hq
  unfold Rm
  exact R4_sqF (sgn_nc hc (by omega)) h1 h2
theorem M2_end {t : Int → Int} {at_ e o q : Int} {K : List Int} {out : aOu} (hq : q = skp t at_) (hn : ¬ (t q = 42 ∨ t q = 47 ∨ t q = 43 ∨ t q = 45)) (h : Rm t 4 at_ e o K out) : Rm t 2 at_ e o (32 :: K) out := by
  subst hq
  unfold Rm at h ⊢
  exact R2_end (by have a := sgn_nc (t := t) (q := skp t at_) (e := e) (c := 42) (by omega) (by omega); have b := sgn_nc (t := t) (q := skp t at_) (e := e) (c := 47) (by omega) (by omega); have c := sgn_nc (t := t) (q := skp t at_) (e := e) (c := 43) (by omega) (by omega); have d := sgn_nc (t := t) (q := skp t at_) (e := e) (c := 45) (by omega) (by omega); omega) h
theorem M4_not {t : Int → Int} {at_ e o : Int} {K : List Int} {out : aOu} (h : Rm t 4 at_ e (o - 1) K out) : Rm t 4 at_ e o (16 :: K) out := R4_not h
theorem M3_sum {t : Int → Int} {at_ e o q : Int} {K : List Int} {out : aOu} (hq : q = skp t at_) (h1 : ¬ wd t q (sgn t q e) wNot) (h2 : ¬ t q = 91) (h3 : ¬ wd t q (sgn t q e) wAll) (h : Rm t 1 at_ e o (31 :: K) out) : Rm t 3 at_ e o K out := by
  subst hq
  exact R3_sum h1 (sgn_nc h2 (by omega)) h3 h
theorem M4_end {t : Int → Int} {at_ e o q : Int} (hq : q = skp t at_) (h1 : ¬ wd t q (sgn t q e) wAnd) (h2 : ¬ wd t q (sgn t q e) wOr) : Rm t 4 at_ e o [] (0, 0, q, sgn t q e) := by
  subst hq
  exact R4_end (K := []) h1 h2
theorem Rm_skip {t : Int → Int} {ph at_ e o q : Int} {K : List Int} {out : aOu} (hq : q = skp t at_) (hi : skp t q = q) : Rm t ph q e o K out ↔ Rm t ph at_ e o K out := by
  unfold Rm
  rw [hi, ← hq]
/-- what the reference has read so far: if nothing is wrong, the automaton goes on from here; else it comes to this fault -/
def soQ (A : List Int → aOu → Prop) (t : Int → Int) (ph at_ e o : Int) (K : List Int) (bad bp : Int) : Prop := (bad = 0 → ∀ (R : List Int) (out : aOu), Rm t ph at_ e o (K ++ R) out → A R out) ∧ (¬ bad = 0 → ∀ R : List Int, A R (bad, bp, 0, 0))
theorem so_refl {t : Int → Int} {ph at_ e o bad bp : Int} {K : List Int} (h : bad = 0) : soQ (fun R out => Rm t ph at_ e o (K ++ R) out) t ph at_ e o K bad bp := ⟨fun _ _ _ k => k, fun e => absurd h e⟩
theorem so_step {A : List Int → aOu → Prop} {t : Int → Int} {ph at_ e o bad bp ph2 a2 e2 o2 bad2 bp2 : Int} {K K2 : List Int} (h : soQ A t ph at_ e o K bad bp) (hb : bad = 0) (hb2 : bad2 = 0) (st : ∀ (R : List Int) (out : aOu), Rm t ph2 a2 e2 o2 (K2 ++ R) out → Rm t ph at_ e o (K ++ R) out) : soQ A t ph2 a2 e2 o2 K2 bad2 bp2 := ⟨fun _ R out k => h.1 hb R out (st R out k), fun e => absurd hb2 e⟩
theorem so_fail {A : List Int → aOu → Prop} {t : Int → Int} {ph at_ e o bad bp ph2 a2 e2 o2 bad2 bp2 : Int} {K K2 : List Int} (h : soQ A t ph at_ e o K bad bp) (hb : bad = 0) (hb2 : ¬ bad2 = 0) (st : ∀ R : List Int, Rm t ph at_ e o (K ++ R) (bad2, bp2, 0, 0)) : soQ A t ph2 a2 e2 o2 K2 bad2 bp2 := ⟨fun e => absurd e hb2, fun _ R => h.1 hb R _ (st R)⟩
theorem so_keep {A : List Int → aOu → Prop} {t : Int → Int} {ph at_ e o bad bp ph2 a2 e2 o2 : Int} {K K2 : List Int} (h : soQ A t ph at_ e o K bad bp) (hb : ¬ bad = 0) : soQ A t ph2 a2 e2 o2 K2 bad bp := ⟨fun e => absurd e hb, h.2⟩
/-- a method's own reading, put behind what was read before -/
theorem so_then {A : List Int → aOu → Prop} {t : Int → Int} {ph at_ e o bad bp ph2 a2 e2 o2 bad2 bp2 : Int} {K K2 : List Int} (h : soQ A t ph at_ e o K bad bp) (hb : bad = 0) (h2 : soQ (fun R out => Rm t ph at_ e o (K ++ R) out) t ph2 a2 e2 o2 K2 bad2 bp2) : soQ A t ph2 a2 e2 o2 K2 bad2 bp2 := ⟨fun b R out k => h.1 hb R out (h2.1 b R out k), fun b R => h.1 hb R _ (h2.2 b R)⟩
/-! the marks that wait -/
/-- of which kind a mark is: k = 0 of a sum (20 .. 24), k = 1 of a test (16, 25) -/
def isMk (g : Bool) (v : Int) : Prop := bif g then v = 16 ∨ v = 25 else 20 ≤ v ∧ v ≤ 24
noncomputable def mkL (g : Bool) (w : Nat → Int32) (lo : Nat) : Nat → List Int
  | 0 => []
  | k + 1 => ci (isMk g (w (lo + k)).toInt) ((w (lo + k)).toInt :: mkL g w lo k) (mkL g w lo k)
noncomputable def mks (g : Bool) (w : Nat → Int32) (b n : Int) : List Int := mkL g w b.toNat (n - b).toNat
theorem mks_nil {g : Bool} {w : Nat → Int32} {b n : Int} (h : n ≤ b) : mks g w b n = [] := by
  unfold mks
  rw [show (n - b).toNat = 0 by omega]
  rfl
theorem mkL_same {g : Bool} {w w2 : Nat → Int32} {lo : Nat} : ∀ (k : Nat), (∀ j : Nat, lo ≤ j → j < lo + k → w2 j = w j) → mkL g w2 lo k = mkL g w lo k
  | 0, _ => rfl
  | k + 1, h => by
    show ci _ _ _ = ci _ _ _
    rw [h (lo + k) (by omega) (by omega), mkL_same k (fun j a b => h j a (by omega))]
theorem mks_same {g : Bool} {w w2 : Nat → Int32} {b n : Int} (hb : 0 ≤ b) (h : ∀ j : Nat, b ≤ (j : Int) → (j : Int) < n → w2 j = w j) : mks g w2 b n = mks g w b n := mkL_same _ (fun j a c => h j (by omega) (by omega))
theorem mks_up {g : Bool} {w : Nat → Int32} {b n : Int} (hb : 0 ≤ b) (hn : b ≤ n) : mks g w b (n + 1) = ci (isMk g (w n.toNat).toInt) ((w n.toNat).toInt :: mks g w b n) (mks g w b n) := by
  unfold mks
  rw [show (n + 1 - b).toNat = (n - b).toNat + 1 by omega]
  show ci _ _ _ = _
  rw [show b.toNat + (n - b).toNat = n.toNat by omega]
theorem mks_upd {g : Bool} {w : Nat → Int32} {b n : Int} {k : Nat} {v : Int32} (hb : 0 ≤ b) (hk : n ≤ (k : Int)) : mks g (upd w k v) b n = mks g w b n := mks_same hb (fun j a c => u_ne (by omega))
/-- a mark is put on top -/
theorem mks_push {g : Bool} {w : Nat → Int32} {b n n2 v : Int} {x : Int32} (hb : 0 ≤ b) (hn : b ≤ n) (e2 : n2 = n + 1) (hx : x.toInt = v) (hm : isMk g v) : mks g (upd w n.toNat x) b n2 = v :: mks g w b n := by
  subst e2
  subst hx
  rw [mks_up hb hn, u_eq rfl, ci_pos hm, mks_upd hb (by omega)]
/-- what is no mark is put on top -/
theorem mks_put {g : Bool} {w : Nat → Int32} {b n n2 v : Int} {x : Int32} (hb : 0 ≤ b) (hn : b ≤ n) (e2 : n2 = n + 1) (hx : x.toInt = v) (hm : ¬ isMk g v) : mks g (upd w n.toNat x) b n2 = mks g w b n := by
  subst e2
  subst hx
  rw [mks_up hb hn, u_eq rfl, ci_neg hm, mks_upd hb (by omega)]
theorem mks_drop {g : Bool} {w : Nat → Int32} {b n n2 v : Int} (hb : 0 ≤ b) (hn : b ≤ n2) (e2 : n = n2 + 1) (hx : (w n2.toNat).toInt = v) (hm : ¬ isMk g v) : mks g w b n = mks g w b n2 := by
  subst e2
  subst hx
  rw [mks_up hb hn, ci_neg hm]
theorem mks_pop {g : Bool} {w : Nat → Int32} {b n n2 v : Int} (hb : 0 ≤ b) (hn : b ≤ n2) (e2 : n = n2 + 1) (hx : (w n2.toNat).toInt = v) (hm : isMk g v) : mks g w b n = v :: mks g w b n2 := by
  subst e2
  subst hx
  rw [mks_up hb hn, ci_pos hm]
/-! signs and words of the reference -/
theorem sk_nb {t : Int → Int} {n : Int} (ht : ∀ j, n ≤ j → ¬ isBl (t j)) : ∀ (k : Nat) (p : Int), n - p ≤ (k : Int) → ¬ isBl (t (sk t k p))
  | 0, p, h => by
    show ¬ isBl (t p)
    exact ht p (by omega)
  | k + 1, p, h => by
    show ¬ isBl (t (ci (isBl (t p)) (sk t k (p + 1)) p))
    by_cases c : isBl (t p)
    · rw [ci_pos c]
      exact sk_nb ht k (p + 1) (by omega)
    · rw [ci_neg c]
      exact c
theorem skp_id {f : Nat → Int32} {n p : Int} (h0 : 0 ≤ p) (hn : n ≤ 1700) : skp (tau f n) (skp (tau f n) p) = skp (tau f n) p := by
  refine skp_self (sk_nb (n := n) (fun j hj => ?_) 1700 p (by omega))
  rw [tau_out (Or.inr hj)]
  unfold isBl
  omega
theorem so_look {A : List Int → aOu → Prop} {t : Int → Int} {ph at_ e o b bp q : Int} {K : List Int} (h : soQ A t ph at_ e o K b bp) (e1 : q = skp t at_) (hi : skp t (skp t at_) = skp t at_) : soQ A t ph q e o K b bp := by
  subst e1
  exact ⟨fun hb R out k => h.1 hb R out ((Rm_skip rfl hi).mp k), h.2⟩
def tsM (t : Int → Int) (at_ c a2 r : Int) : Prop := (¬ r = 0 → t (skp t at_) = c ∧ a2 = skp t at_ + 1) ∧ (r = 0 → ¬ t (skp t at_) = c ∧ a2 = skp t at_)
theorem tsM_yes {t : Int → Int} {at_ c a2 r q r0 : Int} (e1 : q = skp t at_) (e2 : r0 = t q) (hc : r0 = c) (ha : a2 = q + 1) (hr : ¬ r = 0) : tsM t at_ c a2 r := by
  subst e1
  exact ⟨fun _ => ⟨by omega, ha⟩, fun e => absurd e hr⟩
theorem tsM_no {t : Int → Int} {at_ c a2 r q r0 : Int} (e1 : q = skp t at_) (e2 : r0 = t q) (hc : ¬ r0 = c) (ha : a2 = q) (hr : r = 0) : tsM t at_ c a2 r := by
  subst e1
  exact ⟨fun e => absurd hr e, fun _ => ⟨by omega, ha⟩⟩
def asM (t : Int → Int) (at_ b bp c a2 b2 bp2 : Int) : Prop := (¬ b = 0 → a2 = at_ ∧ b2 = b ∧ bp2 = bp) ∧ (b = 0 → (b2 = 0 → t (skp t at_) = c ∧ a2 = skp t at_ + 1) ∧ (¬ b2 = 0 → ¬ t (skp t at_) = c ∧ b2 = 1 ∧ bp2 = skp t at_))
theorem asM_no {t : Int → Int} {at_ b bp c a2 b2 bp2 : Int} (h : ¬ b = 0) (h2 : a2 = at_) (h3 : b2 = b ∧ bp2 = bp) : asM t at_ b bp c a2 b2 bp2 := ⟨fun _ => ⟨h2, h3⟩, fun e => absurd e h⟩
theorem asM_yes {t : Int → Int} {at_ b bp c a2 b2 bp2 r : Int} (h : tsM t at_ c a2 r) (hr : ¬ r = 0) (h2 : b2 = 0) (hb : b = 0) : asM t at_ b bp c a2 b2 bp2 := ⟨fun e => absurd hb e, fun _ => ⟨fun _ => h.1 hr, fun e => absurd h2 e⟩⟩
theorem asM_bad {t : Int → Int} {at_ b bp c a1 a2 b2 bp2 r : Int} (h : tsM t at_ c a1 r) (hr : r = 0) (h2 : b2 = 1) (h3 : bp2 = a1) (hb : b = 0) : asM t at_ b bp c a2 b2 bp2 := ⟨fun e => absurd hb e, fun _ => ⟨fun e => absurd h2 (by omega), fun _ => ⟨(h.2 hr).1, h2, h3.trans (h.2 hr).2⟩⟩⟩
def rowL (f : Nat → Int32) (n : Nat) : List Int := (List.range n).map (fun j => (f j).toInt)
theorem rowL_len {f : Nat → Int32} {n : Nat} : ((rowL f n).length : Int) = (n : Int) := by
  unfold rowL
  rw [List.length_map, List.length_range]
theorem rowL_at {f : Nat → Int32} {n j : Nat} (h : j < n) : (rowL f n).getD j 0 = (f j).toInt := by
  unfold rowL
  rw [List.getD_eq_getElem?_getD, List.getElem?_map, List.getElem?_range h]
  rfl
def smL (w : List Int) : Prop := ∀ a ∈ w, 97 ≤ a ∧ a ≤ 122
theorem smL_at {w : List Int} (h : smL w) {j : Nat} (hj : j < w.length) : 97 ≤ w.getD j 0 ∧ w.getD j 0 ≤ 122 := by
  have e : w.getD j 0 = w[j] := by rw [List.getD_eq_getElem?_getD, List.getElem?_eq_getElem hj]; rfl
  rw [e]
  exact h _ (List.getElem_mem hj)
theorem wa_nl {t : Int → Int} {q sg r : Int} {w : List Int} (h : ¬ (97 ≤ t q ∧ t q ≤ 122)) (hs : smL w) (hn : ¬ w = []) (hr : r = 0) : waQ t q sg w r := by
  refine ⟨fun e => absurd hr e, fun _ hw => ?_⟩
  cases w with
  | nil => exact hn rfl
  | cons a w =>
    have := wd_0 hw
    have := hs a List.mem_cons_self
    omega
/-- from a to b small letters alone -/
def sms (t : Int → Int) (a b : Int) : Prop := a ≤ b ∧ ∀ j, a ≤ j → j < b → 97 ≤ t j ∧ t j ≤ 122
theorem sms_nil {t : Int → Int} {a : Int} : sms t a a := ⟨by omega, fun j h k => absurd h (by omega)⟩
theorem sms_up {t : Int → Int} {a b b2 : Int} (h : sms t a b) (hb : 97 ≤ t b ∧ t b ≤ 122) (e : b2 = b + 1) : sms t a b2 := by
  subst e
  refine ⟨by have := h.1; omega, fun j h1 h2 => ?_⟩
  by_cases e : j = b
  · subst e; exact hb
  · exact h.2 j h1 (by omega)
theorem wa_len {t : Int → Int} {q sg r k : Int} {w : List Int} (h : sms t q k) (hk : ¬ (97 ≤ t k ∧ t k ≤ 122)) (hs : smL w) (hn : ¬ k - q = (w.length : Int)) (hr : r = 0) : waQ t q sg w r := by
  refine ⟨fun e => absurd hr e, fun _ hw => ?_⟩
  have h1 := h.1
  by_cases c : k - q < (w.length : Int)
  · have a := mt_to w hw.2.1 (k - q).toNat (by omega)
    have b := smL_at hs (j := (k - q).toNat) (by omega)
    rw [← a, show q + (((k - q).toNat : Nat) : Int) = k by omega] at b
    exact hk b
  · exact hw.2.2 (h.2 (q + (w.length : Int)) (by omega) (by omega))
def tkM (t : Int → Int) (at_ e : Int) (w : List Int) (a2 e2 r : Int) : Prop := (¬ r = 0 → wd t (skp t at_) (sgn t (skp t at_) e) w ∧ a2 = skp t at_ + (w.length : Int) ∧ e2 = a2) ∧ (r = 0 → ¬ wd t (skp t at_) (sgn t (skp t at_) e) w ∧ a2 = skp t at_ ∧ e2 = e)
theorem tkM_yes {t : Int → Int} {at_ e a2 e2 r r1 q : Int} {w : List Int} (h : waQ t q (sgn t q e) w r1) (h1 : ¬ r1 = 0) (e1 : q = skp t at_) (ha : a2 = q + (w.length : Int)) (he : e2 = a2) (hr : ¬ r = 0) : tkM t at_ e w a2 e2 r := by
  subst e1
  exact ⟨fun _ => ⟨h.1 h1, ha, he⟩, fun x => absurd x hr⟩
theorem tkM_no {t : Int → Int} {at_ e r r1 q : Int} {w : List Int} (h : waQ t q (sgn t q e) w r1) (h1 : r1 = 0) (e1 : q = skp t at_) (hr : r = 0) : tkM t at_ e w q e r := by
  subst e1
  exact ⟨fun x => absurd hr x, fun _ => ⟨h.2 h1, rfl, rfl⟩⟩
def akM (t : Int → Int) (at_ e b bp : Int) (w : List Int) (a2 e2 b2 bp2 : Int) : Prop := (¬ b = 0 → a2 = at_ ∧ e2 = e ∧ b2 = b ∧ bp2 = bp) ∧ (b = 0 → (b2 = 0 → wd t (skp t at_) (sgn t (skp t at_) e) w ∧ a2 = skp t at_ + (w.length : Int) ∧ e2 = a2) ∧ (¬ b2 = 0 → ¬ wd t (skp t at_) (sgn t (skp t at_) e) w ∧ b2 = 1 ∧ bp2 = skp t at_))
theorem akM_no {t : Int → Int} {at_ e b bp a2 e2 b2 bp2 : Int} {w : List Int} (h : ¬ b = 0) (h2 : a2 = at_ ∧ e2 = e ∧ b2 = b ∧ bp2 = bp) : akM t at_ e b bp w a2 e2 b2 bp2 := ⟨fun _ => h2, fun x => absurd x h⟩
theorem akM_yes {t : Int → Int} {at_ e b bp a2 e2 b2 bp2 r : Int} {w : List Int} (h : tkM t at_ e w a2 e2 r) (hr : ¬ r = 0) (h2 : b2 = 0) (hb : b = 0) : akM t at_ e b bp w a2 e2 b2 bp2 := ⟨fun x => absurd hb x, fun _ => ⟨fun _ => h.1 hr, fun x => absurd h2 x⟩⟩
theorem akM_bad {t : Int → Int} {at_ e b bp a1 a2 e1 e2 b2 bp2 r : Int} {w : List Int} (h : tkM t at_ e w a1 e1 r) (hr : r = 0) (h2 : b2 = 1) (h3 : bp2 = a1) (hb : b = 0) : akM t at_ e b bp w a2 e2 b2 bp2 := ⟨fun x => absurd hb x, fun _ => ⟨fun x => absurd h2 (by omega), fun _ => ⟨(h.2 hr).1, h2, h3.trans (h.2 hr).2.1⟩⟩⟩
def nbM (t : Int → Int) (at_ e b bp lo hi a2 e2 b2 bp2 r : Int) : Prop := (¬ b = 0 → a2 = at_ ∧ e2 = e ∧ b2 = b ∧ bp2 = bp ∧ r = 0) ∧ (b = 0 → (b2 = 0 → isDg (sgn t (skp t at_) e) ∧ nd t (skp t at_) ≤ 4 ∧ r = nvn t (skp t at_) ∧ lo ≤ r ∧ r ≤ hi ∧ a2 = skp t at_ + nd t (skp t at_) ∧ e2 = a2) ∧ (¬ b2 = 0 → (b2 = 1 ∧ ((¬ isDg (sgn t (skp t at_) e) ∧ bp2 = skp t at_) ∨ (isDg (sgn t (skp t at_) e) ∧ nd t (skp t at_) = 5 ∧ bp2 = skp t at_ + 4))) ∨ (b2 = 2 ∧ bp2 = skp t at_ ∧ isDg (sgn t (skp t at_) e) ∧ nd t (skp t at_) ≤ 4 ∧ ¬ (lo ≤ nvn t (skp t at_) ∧ nvn t (skp t at_) ≤ hi))))
theorem nbM_no {t : Int → Int} {at_ e b bp lo hi a2 e2 b2 bp2 r : Int} (h : ¬ b = 0) (h2 : a2 = at_ ∧ e2 = e ∧ b2 = b ∧ bp2 = bp ∧ r = 0) : nbM t at_ e b bp lo hi a2 e2 b2 bp2 r := ⟨fun _ => h2, fun x => absurd x h⟩
theorem nbM_nd {t : Int → Int} {at_ e b bp lo hi a2 e2 b2 bp2 r q r0 : Int} (e1 : q = skp t at_) (e2' : r0 = t q) (hd : ¬ (48 ≤ r0 ∧ r0 ≤ 57) ∨ q = e) (h2 : b2 = 1) (h3 : bp2 = q) (hb : b = 0) : nbM t at_ e b bp lo hi a2 e2 b2 bp2 r := by
  subst e1
  refine ⟨fun x => absurd hb x, fun _ => ⟨fun x => absurd x (by omega), fun _ => Or.inl ⟨h2, Or.inl ⟨?_, h3⟩⟩⟩⟩
  unfold sgn
  by_cases a : skp t at_ = e ∧ (isSm (t (skp t at_)) ∨ isDg (t (skp t at_)))
  · rw [ci_pos a]; unfold isDg; omega
  · rw [ci_neg a]
    unfold isDg at a ⊢
    rcases hd with c | c
    · omega
    · intro d
      exact a ⟨c, Or.inr d⟩
theorem sgn_dg {t : Int → Int} {q e r0 : Int} (e2 : r0 = t q) (hd : 48 ≤ r0 ∧ r0 ≤ 57) (hn : ¬ q = e) : isDg (sgn t q e) := by
  rw [sgn_ne hn]
  unfold isDg
  omega
theorem nbM_five {t : Int → Int} {at_ e b bp lo hi a2 e2 b2 bp2 r q r0 n p : Int} (e1 : q = skp t at_) (e2' : r0 = t q) (hd : 48 ≤ r0 ∧ r0 ≤ 57) (hne : ¬ q = e) (h : dgs t q n) (hn : n = 4) (hp : p = q + n) (hx : 48 ≤ t p ∧ t p ≤ 57) (h2 : b2 = 1) (h3 : bp2 = p) (hb : b = 0) : nbM t at_ e b bp lo hi a2 e2 b2 bp2 r := by
  subst e1
  exact ⟨fun x => absurd hb x, fun _ => ⟨fun x => absurd x (by omega), fun _ => Or.inl ⟨h2, Or.inr ⟨sgn_dg e2' hd hne, nd_at (dgs_up h (n' := 5) (by omega) hp rfl hx) (by omega) (fun q => absurd q (by omega)), by omega⟩⟩⟩⟩
theorem nbM_yes {t : Int → Int} {at_ e b bp lo hi a2 e2 b2 bp2 r q r0 n : Int} (e1 : q = skp t at_) (e2' : r0 = t q) (hd : 48 ≤ r0 ∧ r0 ≤ 57) (hne : ¬ q = e) (h : dgs t q n) (hn : n ≤ 4) (ha : a2 = q + n) (nn : ¬ (48 ≤ t a2 ∧ t a2 ≤ 57)) (hv : r = nvk t q n.toNat) (hr : lo ≤ r ∧ r ≤ hi) (h2 : b2 = 0 ∧ e2 = a2) (hb : b = 0) : nbM t at_ e b bp lo hi a2 e2 b2 bp2 r := by
  subst e1
  have e9 : nd t (skp t at_) = n := nd_at h (by omega) (fun _ => by rw [← ha]; exact nn)
  exact ⟨fun x => absurd hb x, fun _ => ⟨fun _ => ⟨sgn_dg e2' hd hne, by omega, by unfold nvn; rw [e9]; exact hv, hr.1, hr.2, by rw [e9]; exact ha, h2.2⟩, fun x => absurd h2.1 x⟩⟩
theorem nbM_out {t : Int → Int} {at_ e b bp lo hi a2 a3 e2 b2 bp2 r r9 q r0 n : Int} (e1 : q = skp t at_) (e2' : r0 = t q) (hd : 48 ≤ r0 ∧ r0 ≤ 57) (hne : ¬ q = e) (h : dgs t q n) (hn : n ≤ 4) (ha : a3 = q + n) (nn : ¬ (48 ≤ t a3 ∧ t a3 ≤ 57)) (hv : r = nvk t q n.toNat) (hr : ¬ (lo ≤ r ∧ r ≤ hi)) (h2 : b2 = 2 ∧ bp2 = q) (hb : b = 0) : nbM t at_ e b bp lo hi a2 e2 b2 bp2 r9 := by
  subst e1
  have e9 : nd t (skp t at_) = n := nd_at h (by omega) (fun _ => by rw [← ha]; exact nn)
  exact ⟨fun x => absurd hb x, fun _ => ⟨fun x => absurd h2.1 (by omega), fun _ => Or.inr ⟨h2.1, h2.2, sgn_dg e2' hd hne, by omega, by unfold nvn; rw [e9, ← hv]; exact hr⟩⟩⟩
theorem wa_w {t : Int → Int} {q sg r : Int} {w w2 : List Int} (e : w = w2) (h : waQ t q sg w r) : waQ t q sg w2 r := e ▸ h
theorem tk_w {t : Int → Int} {at_ e a2 e2 r : Int} {w w2 : List Int} (e1 : w = w2) (h : tkM t at_ e w a2 e2 r) : tkM t at_ e w2 a2 e2 r := e1 ▸ h
theorem ak_w {t : Int → Int} {at_ e b bp a2 e2 b2 bp2 : Int} {w w2 : List Int} (e1 : w = w2) (h : akM t at_ e b bp w a2 e2 b2 bp2) : akM t at_ e b bp w2 a2 e2 b2 bp2 := e1 ▸ h
theorem so_tkno {A : List Int → aOu → Prop} {t : Int → Int} {ph at_ e o b bp a2 e2 r : Int} {K w : List Int} (h : soQ A t ph at_ e o K b bp) (tk : tkM t at_ e w a2 e2 r) (hr : r = 0) (hi : skp t (skp t at_) = skp t at_) : soQ A t ph a2 e2 o K b bp := by
  obtain ⟨_, h2, h3⟩ := tk.2 hr
  subst h3
  exact so_look h h2 hi
theorem tk_not {t : Int → Int} {at_ e a2 e2 r : Int} {w : List Int} (tk : tkM t at_ e w a2 e2 r) (hr : r = 0) (hi : skp t (skp t at_) = skp t at_) : ¬ wd t (skp t a2) (sgn t (skp t a2) e2) w ∧ skp t a2 = skp t at_ ∧ e2 = e := by
  obtain ⟨h1, h2, h3⟩ := tk.2 hr
  subst h3
  rw [h2, hi]
  exact ⟨h1, rfl, rfl⟩
/-- the place is the same: what is no word there is none here -/
theorem nw_at {t : Int → Int} {q q2 e e2 : Int} {w : List Int} (h : ¬ wd t q (sgn t q e) w) (h1 : q2 = q) (h2 : e2 = e) : ¬ wd t q2 (sgn t q2 e2) w := by
  subst h1
  subst h2
  exact h
/-! one part of a sum -/
def opX (o b bp o2 b2 bp2 pl : Int) (w w2 : Nat → Int32) (n n2 : Int) (x : Int32) : Prop := (o = 6 ∧ b2 = 3 ∧ bp2 = pl ∧ o2 = o ∧ w2 = w ∧ n2 = n) ∨ (¬ o = 6 ∧ o2 = o + 1 ∧ b2 = b ∧ bp2 = bp ∧ w2 = upd w n.toNat x ∧ n2 = n + 1)
theorem isMk_s {v : Int} (h : 20 ≤ v ∧ v ≤ 24) : isMk false v := h
theorem isMk_t {v : Int} (h : v = 16 ∨ v = 25) : isMk true v := h
theorem noMk_s {v : Int} (h : ¬ (20 ≤ v ∧ v ≤ 24)) : ¬ isMk false v := h
theorem noMk_t {v : Int} (h : ¬ (v = 16 ∨ v = 25)) : ¬ isMk true v := h
theorem so_open {A : List Int → aOu → Prop} {t : Int → Int} {at_ e o b bp q c a2 o2 b2 bp2 pl bs n n2 : Int} {w w2 : Nat → Int32} {x : Int32} (h : soQ A t 1 at_ e o (mks false w bs n) b bp) (hb : b = 0) (e1 : q = skp t at_) (he : e ≤ q) (e2 : c = t q) (hc : c = 40) (ox : opX o b bp o2 b2 bp2 pl w w2 n n2 x) (hp : pl = q) (hx : x.toInt = 20) (ha : a2 = q + 1) (hbs : 0 ≤ bs) (hn : bs ≤ n) : soQ A t 1 a2 e o2 (mks false w2 bs n2) b2 bp2 := by
  rcases ox with ⟨o6, hb2, hbp2, _, _, _⟩ | ⟨o6, ho2, hb2, _, hw2, hn2⟩
  · subst hb2
    refine so_fail h hb (by decide) (fun R => ?_)
    rw [hbp2, hp]
    exact M1_parF e1 (by omega) o6
  · subst ho2
    subst hw2
    refine so_step h hb (by omega) (fun R out k => ?_)
    rw [mks_push hbs hn hn2 hx (isMk_s (by omega))] at k
    exact M1_par e1 he (by omega) o6 ha k
theorem so_word {A : List Int → aOu → Prop} {t : Int → Int} {ph at_ e o b bp a2 e2 r : Int} {K w0 w1 : List Int} (h : soQ A t 1 at_ e o K b bp) (hb : b = 0) (tk : tkM t at_ e w0 a2 e2 r) (hr : ¬ r = 0) (hw : (ph = 5 ∧ w0 = wMin) ∨ (ph = 6 ∧ w0 = wMax) ∨ (ph = 2 ∧ (w0 = wSender ∨ w0 = wSquare ∨ w0 = wPeak))) : soQ A t ph a2 e2 o K b bp := by
  obtain ⟨h1, h2, h3⟩ := tk.1 hr
  subst h3
  refine so_step h hb hb (fun R out k => ?_)
  rcases hw with ⟨a, c⟩ | ⟨a, c⟩ | ⟨a, c⟩
  · subst a
    subst c
    exact M1_Min rfl h1 h2 k
  · subst a
    subst c
    exact M1_Max rfl h1 h2 k
  · subst a
    rcases c with c | c | c
    · subst c
      exact M1_six rfl (Or.inl h1) h2 k
    · subst c
      exact M1_six rfl (Or.inr h1) h2 k
    · subst c
      exact M1_Peak rfl h1 h2 k
theorem ak_tk {t : Int → Int} {at_ e b bp a2 e2 b2 bp2 : Int} {w : List Int} (h : akM t at_ e b bp w a2 e2 b2 bp2) (hb : b = 0) (hw : wd t (skp t at_) (sgn t (skp t at_) e) w) : b2 = 0 ∧ tkM t at_ e w a2 e2 1 := by
  have q := h.2 hb
  by_cases c : b2 = 0
  · exact ⟨c, fun _ => q.1 c, fun x => absurd x (by decide)⟩
  · exact absurd hw (q.2 c).1
/-- behind min or max: an open sign follows and is put, or none follows -/
def joQ (A : List Int → aOu → Prop) (t : Int → Int) (at_ e o : Int) (K : List Int) (b bp : Int) : Prop := (t at_ = 40 ∧ soQ A t 1 (at_ + 1) e o K b bp) ∨ (¬ t at_ = 40 ∧ b = 0 ∧ ∃ ph : Int, (ph = 5 ∨ ph = 6) ∧ soQ A t ph at_ e o K b bp)
theorem jo_no {A : List Int → aOu → Prop} {t : Int → Int} {ph at_ e o b bp q c : Int} {K : List Int} (h : soQ A t ph at_ e o K b bp) (hb : b = 0) (hp : ph = 5 ∨ ph = 6) (e1 : q = skp t at_) (hi : skp t q = q) (e2 : c = t q) (hc : ¬ c = 40) : joQ A t q e o K b bp := by
  refine Or.inr ⟨by omega, hb, ph, hp, so_step h hb hb (fun R out k => (Rm_skip e1 hi).mp k)⟩
theorem jo_open {A : List Int → aOu → Prop} {t : Int → Int} {ph at_ e o b bp q c o2 b2 bp2 pl bs n n2 : Int} {w w2 : Nat → Int32} {x : Int32} (h : soQ A t ph at_ e o (mks false w bs n) b bp) (hb : b = 0) (hp : ph = 5 ∨ ph = 6) (e1 : q = skp t at_) (he : e ≤ q) (e2 : c = t q) (hc : c = 40) (ox : opX o b bp o2 b2 bp2 pl w w2 n n2 x) (hpl : pl = q) (hx : x.toInt = ph + 16) (hbs : 0 ≤ bs) (hn : bs ≤ n) : joQ A t q e o2 (mks false w2 bs n2) b2 bp2 := by
  refine Or.inl ⟨by omega, ?_⟩
  rcases ox with ⟨o6, hb2, hbp2, _, _, _⟩ | ⟨o6, ho2, hb2, _, hw2, hn2⟩
  · subst hb2
    refine so_fail h hb (by decide) (fun R => ?_)
    rw [hbp2, hpl]
    exact M5_F3 e1 hp (by omega) o6
  · subst ho2
    subst hw2
    refine so_step h hb (by omega) (fun R out k => ?_)
    rw [mks_push hbs hn hn2 hx (isMk_s (by omega))] at k
    exact M5_go e1 he (by omega) hp o6 rfl k
theorem jo_sign {A : List Int → aOu → Prop} {t : Int → Int} {at_ e o b bp a2 b2 bp2 c : Int} {K : List Int} (h : joQ A t at_ e o K b bp) (hi : skp t at_ = at_) (hs : asM t at_ b bp c a2 b2 bp2) (hc : c = 40) : soQ A t 1 a2 e o K b2 bp2 := by
  subst hc
  by_cases hb : b = 0
  · obtain ⟨s1, s2⟩ := hs.2 hb
    rw [hi] at s1 s2
    rcases h with ⟨h1, h2⟩ | ⟨h1, _, ph, hp, h2⟩
    · by_cases c : b2 = 0
      · have q := (s1 c).2
        subst q
        exact so_step h2 hb c (fun _ _ k => k)
      · exact absurd h1 (s2 c).1
    · by_cases c : b2 = 0
      · exact absurd (s1 c).1 h1
      · obtain ⟨_, q1, q2⟩ := s2 c
        subst q1
        subst q2
        exact so_fail h2 hb (by decide) (fun R => M5_F1 hi.symm hp h1)
  · obtain ⟨q1, q2, q3⟩ := hs.1 hb
    subst q2
    subst q3
    rcases h with ⟨_, h2⟩ | ⟨_, h2, _⟩
    · exact so_keep h2 hb
    · exact absurd h2 hb
theorem ndk_dg {t : Int → Int} : ∀ (k : Nat) (q : Int), 0 ≤ ndk t k q ∧ ∀ j, q ≤ j → j < q + ndk t k q → isDg (t j)
  | 0, q => ⟨by show (0 : Int) ≤ 0; omega, fun j a b => absurd b (by show ¬ j < q + 0; omega)⟩
  | k + 1, q => by
    have ih := ndk_dg (t := t) k (q + 1)
    show 0 ≤ ci (isDg (t q)) (1 + ndk t k (q + 1)) 0 ∧ ∀ j, q ≤ j → j < q + ci (isDg (t q)) (1 + ndk t k (q + 1)) 0 → isDg (t j)
    by_cases c : isDg (t q)
    · rw [ci_pos c]
      refine ⟨by have := ih.1; omega, fun j a b => ?_⟩
      by_cases e : j = q
      · subst e; exact c
      · exact ih.2 j (by omega) (by omega)
    · rw [ci_neg c]
      exact ⟨by omega, fun j a b => absurd a (by omega)⟩
theorem nvn_rng {t : Int → Int} {q : Int} (h : nd t q ≤ 4) : 0 ≤ nvn t q ∧ nvn t q ≤ 9999 := by
  have hd := ndk_dg (t := t) 5 q
  have h0 : 0 ≤ nd t q := hd.1
  have h1 : ∀ j, q ≤ j → j < q + nd t q → isDg (t j) := hd.2
  unfold isDg at h1
  unfold nvn
  rcases (show nd t q = 0 ∨ nd t q = 1 ∨ nd t q = 2 ∨ nd t q = 3 ∨ nd t q = 4 by omega) with e | e | e | e | e
  · rw [e]; show (0 : Int) ≤ 0 ∧ (0 : Int) ≤ 9999; omega
  · have a := h1 (q + 0) (by omega) (by omega)
    rw [e]
    show 0 ≤ 10 * 0 + t (q + 0) - 48 ∧ 10 * 0 + t (q + 0) - 48 ≤ 9999
    omega
  · have a := h1 (q + 0) (by omega) (by omega)
    have b := h1 (q + 1) (by omega) (by omega)
    rw [e]
    show 0 ≤ 10 * (10 * 0 + t (q + 0) - 48) + t (q + 1) - 48 ∧ 10 * (10 * 0 + t (q + 0) - 48) + t (q + 1) - 48 ≤ 9999
    omega
  · have a := h1 (q + 0) (by omega) (by omega)
    have b := h1 (q + 1) (by omega) (by omega)
    have c := h1 (q + 2) (by omega) (by omega)
    rw [e]
    show 0 ≤ 10 * (10 * (10 * 0 + t (q + 0) - 48) + t (q + 1) - 48) + t (q + 2) - 48 ∧ 10 * (10 * (10 * 0 + t (q + 0) - 48) + t (q + 1) - 48) + t (q + 2) - 48 ≤ 9999
    omega
  · have a := h1 (q + 0) (by omega) (by omega)
    have b := h1 (q + 1) (by omega) (by omega)
    have c := h1 (q + 2) (by omega) (by omega)
    have d := h1 (q + 3) (by omega) (by omega)
    rw [e]
    show 0 ≤ 10 * (10 * (10 * (10 * 0 + t (q + 0) - 48) + t (q + 1) - 48) + t (q + 2) - 48) + t (q + 3) - 48 ∧ 10 * (10 * (10 * (10 * 0 + t (q + 0) - 48) + t (q + 1) - 48) + t (q + 2) - 48) + t (q + 3) - 48 ≤ 9999
    omega
theorem so_num {A : List Int → aOu → Prop} {t : Int → Int} {at_ e o b bp a2 e2 b2 bp2 r lo hi : Int} {K : List Int} (h : soQ A t 1 at_ e o K b bp) (hb : b = 0) (nb : nbM t at_ e b bp lo hi a2 e2 b2 bp2 r) (hl : lo ≤ 0) (hh : 9999 ≤ hi) (hs : ¬ t (skp t at_) = 40) (h1 : ¬ wd t (skp t at_) (sgn t (skp t at_) e) wMin) (h2 : ¬ wd t (skp t at_) (sgn t (skp t at_) e) wMax) (h3 : ¬ wd t (skp t at_) (sgn t (skp t at_) e) wSender) (h4 : ¬ wd t (skp t at_) (sgn t (skp t at_) e) wSquare) (h5 : ¬ wd t (skp t at_) (sgn t (skp t at_) e) wPeak) : soQ A t 2 a2 e2 o K b2 bp2 := by
  obtain ⟨y, n⟩ := nb.2 hb
  by_cases c : b2 = 0
  · obtain ⟨q1, q2, _, _, _, q3, q4⟩ := y c
    subst q4
    subst q3
    exact so_step h hb c (fun R out k => R1_num q1 sgn_sv rfl q2 rfl k)
  · rcases n c with ⟨q1, q2⟩ | ⟨_, _, _, q4, q5⟩
    · subst q1
      refine so_fail h hb (by decide) (fun R => ?_)
      rcases q2 with ⟨q2, q3⟩ | ⟨q2, q3, q4⟩
      · subst q3
        exact R1_numF q2 (sgn_nc hs (by decide)) h1 h2 h3 h4 h5
      · subst q4
        exact R1_num5 q2 sgn_sv q3
    · have q6 := nvn_rng q4
      exact absurd ⟨by omega, by omega⟩ q5
theorem so_bad {A : List Int → aOu → Prop} {t : Int → Int} {ph at_ e o b bp b2 bp2 : Int} {K : List Int} (h : soQ A t ph at_ e o K b bp) (hb : b = 0) (hb2 : b2 = 0) : soQ A t ph at_ e o K b2 bp2 := so_step h hb hb2 (fun _ _ k => k)
theorem mx_of {t : Int → Int} {at_ e a2 e2 r : Int} (wm : wd t at_ (sgn t at_ e) wMin ∨ wd t at_ (sgn t at_ e) wMax) (tk : tkM t at_ e wMin a2 e2 r) (hr : r = 0) (hi : skp t at_ = at_) : wd t (skp t a2) (sgn t (skp t a2) e2) wMax := by
  obtain ⟨h1, h2, h3⟩ := tk.2 hr
  subst h3
  rw [hi] at h1 h2
  subst h2
  rw [hi]
  exact wm.resolve_left h1
/-! behind a part -/
theorem mks_noM {w : Nat → Int32} {b : Int} (hb : 0 ≤ b) : ∀ (k : Nat) {n2 n : Int}, noM w n2 n → b ≤ n2 → n = n2 + (k : Int) → mks false w b n = mks false w b n2
  | 0, n2, n, _, _, e => by rw [show n = n2 by omega]
  | k + 1, n2, n, h, h1, e => by
    have a := h (n - 1) (by omega) (by omega)
    rw [mks_drop hb (n2 := n - 1) (by omega) (by omega) rfl (noMk_s a)]
    exact mks_noM hb k (fun j p q => h j p (by omega)) h1 (by omega)
theorem mks_no {w : Nat → Int32} {b n2 n : Int} (h : noM w n2 n) (hb : 0 ≤ b) (h1 : b ≤ n2) (h2 : n2 ≤ n) : mks false w b n = mks false w b n2 := mks_noM hb (n - n2).toNat h h1 (by omega)
theorem mk_hd {w : Nat → Int32} {b n r : Int} (h : mkQ w b n r) (hb : 0 ≤ b) (hn : b ≤ n) : (r = -1 ∧ mks false w b n = []) ∨ (20 ≤ r ∧ r ≤ 24 ∧ ∃ K : List Int, mks false w b n = r :: K) := by
  rcases h with ⟨h1, h2⟩ | ⟨k, h1, h2, h3, h4, h5⟩
  · exact Or.inl ⟨h1, by rw [mks_no h2 hb (by omega) hn]; exact mks_nil (by omega)⟩
  · unfold pM at h4
    refine Or.inr ⟨by omega, by omega, mks false w b k, ?_⟩
    rw [mks_no h5 hb (by omega) (by omega)]
    exact mks_pop hb h1 rfl h3 (isMk_s (by omega))
theorem so_mks {A : List Int → aOu → Prop} {t : Int → Int} {ph at_ e o b bp : Int} {K K2 : List Int} (h : soQ A t ph at_ e o K b bp) (ek : K = K2) : soQ A t ph at_ e o K2 b bp := ek ▸ h
theorem so_close {A : List Int → aOu → Prop} {t : Int → Int} {at_ e o b bp q c a2 o2 bs n n1 n2 r : Int} {w : Nat → Int32} (h : soQ A t 2 at_ e o (mks false w bs n) b bp) (hb : b = 0) (e1 : q = skp t at_) (he : e ≤ q) (e2 : c = t q) (hc : c = 41) (hN : noM w n1 n) (hbs : 0 ≤ bs) (h1 : bs < n1) (h2 : n1 ≤ n) (hr : (w (n1 - 1).toNat).toInt = r) (hm : r = 20 ∨ r = 23 ∨ r = 24) (ha : a2 = q + 1) (hn2 : n2 = n1 - 1) (ho : o2 = o - 1) : soQ A t 2 a2 e o2 (mks false w bs n2) b bp := by
  subst ho
  subst hn2
  refine so_step h hb hb (fun R out k => ?_)
  rw [mks_no hN hbs (by omega) h2, mks_pop hbs (n2 := n1 - 1) (by omega) (by omega) hr (isMk_s (by omega))]
  exact M2_close e1 he (by omega) hm ha k
theorem so_op {A : List Int → aOu → Prop} {t : Int → Int} {at_ e o b bp a2 c r : Int} {K : List Int} (h : soQ A t 2 at_ e o K b bp) (hb : b = 0) (ts : tsM t at_ c a2 r) (hr : ¬ r = 0) (hx : c = 42 ∨ c = 47 ∨ c = 43 ∨ c = 45) (he : e ≤ at_) : soQ A t 1 a2 e o K b bp := by
  obtain ⟨h1, h2⟩ := ts.1 hr
  refine so_step h hb hb (fun R out k => M2_op rfl ?_ h1 hx h2 k)
  have := skp_ge (t := t) (p := at_)
  omega
theorem so_tsno {A : List Int → aOu → Prop} {t : Int → Int} {ph at_ e o b bp a2 c r : Int} {K : List Int} (h : soQ A t ph at_ e o K b bp) (ts : tsM t at_ c a2 r) (hr : r = 0) (hi : skp t (skp t at_) = skp t at_) : soQ A t ph a2 e o K b bp := so_look h (ts.2 hr).2 hi
theorem ts_nc {t : Int → Int} {at_ a2 c r : Int} (ts : tsM t at_ c a2 r) (hr : r = 0) (hi : skp t (skp t at_) = skp t at_) : ¬ t (skp t a2) = c ∧ skp t a2 = skp t at_ := by
  obtain ⟨h1, h2⟩ := ts.2 hr
  rw [h2, hi]
  exact ⟨h1, rfl⟩
theorem so_comma {A : List Int → aOu → Prop} {t : Int → Int} {at_ e o b bp a2 bs n n1 r c b2 bp2 : Int} {w w2 : Nat → Int32} {x : Int32} (h : soQ A t 2 at_ e o (mks false w bs n) b bp) (hb : b = 0) (hs : asM t at_ b bp c a2 b2 bp2) (hc : c = 44) (hb2 : b2 = 0) (he : e ≤ at_) (hN : noM w n1 n) (hbs : 0 ≤ bs) (h1 : bs < n1) (h2 : n1 ≤ n) (hr : (w (n1 - 1).toNat).toInt = r) (hm : r = 21 ∨ r = 22) (hw : w2 = upd w (n1 - 1).toNat x) (hx : x.toInt = r + 2) : soQ A t 1 a2 e o (mks false w2 bs n1) b2 bp2 := by
  subst hw
  subst hc
  obtain ⟨s1, s2⟩ := (hs.2 hb).1 hb2
  refine so_step h hb hb2 (fun R out k => ?_)
  rw [mks_no hN hbs (by omega) h2, mks_pop hbs (n2 := n1 - 1) (by omega) (by omega) hr (isMk_s (by omega))]
  rw [mks_push hbs (n := n1 - 1) (by omega) (by omega) hx (isMk_s (by omega))] at k
  have := skp_ge (t := t) (p := at_)
  exact M2_comma rfl (by omega) s1 hm s2 k
theorem so_commaF {A : List Int → aOu → Prop} {t : Int → Int} {ph at_ e o b bp a2 e2 o2 r c b2 bp2 : Int} {K K2 K3 : List Int} (h : soQ A t 2 at_ e o K b bp) (hb : b = 0) (hs : asM t at_ b bp c a2 b2 bp2) (hc : c = 44) (hb2 : ¬ b2 = 0) (hk : K = r :: K2) (hm : r = 21 ∨ r = 22) (hn : ¬ (t (skp t at_) = 42 ∨ t (skp t at_) = 47 ∨ t (skp t at_) = 43 ∨ t (skp t at_) = 45)) : soQ A t ph a2 e2 o2 K3 b2 bp2 := by
  subst hc
  obtain ⟨s1, s2, s3⟩ := (hs.2 hb).2 hb2
  subst s2
  subst s3
  subst hk
  exact so_fail h hb (by decide) (fun R => M2_commaF rfl s1 hm hn)
theorem so_closeF {A : List Int → aOu → Prop} {t : Int → Int} {ph at_ e o b bp a2 e2 o2 r b2 bp2 : Int} {K K2 K3 : List Int} (h : soQ A t 2 at_ e o K b bp) (hb : b = 0) (hi : skp t at_ = at_) (hc : ¬ t at_ = 41) (hk : K = r :: K2) (hm : r = 20 ∨ r = 23 ∨ r = 24) (hn : ¬ (t at_ = 42 ∨ t at_ = 47 ∨ t at_ = 43 ∨ t at_ = 45)) (hb2 : b2 = 1) (hbp : bp2 = at_) : soQ A t ph a2 e2 o2 K3 b2 bp2 := by
  subst hb2
  subst hbp
  subst hk
  exact so_fail h hb (by decide) (fun R => M2_closeF hi.symm hc hm hn)
theorem mks_dropP {g : Bool} {w : Nat → Int32} {b n n2 v : Int} (hb : 0 ≤ b) (hn : b ≤ n2) (e2 : n2 = n - 1) (hx : (w (n - 1).toNat).toInt = v) (hm : ¬ isMk g v) : mks g w b n = mks g w b n2 := by
  subst e2
  exact mks_drop hb hn (by omega) hx hm
theorem mk_eq {w : Nat → Int32} {b n r v : Int} (h : mkQ w b n r) (hb : 0 ≤ b) (hn : b ≤ n) (e : hd9 (mks false w b n) = v) (hv : 20 ≤ v ∧ v ≤ 24) : r = v := by
  rcases mk_hd h hb hn with ⟨_, h2⟩ | ⟨_, _, K, h2⟩
  · rw [h2] at e
    have e : (99 : Int) = v := e
    omega
  · rw [h2] at e
    exact e
theorem nc_of {w : Nat → Int32} {b n r1 r2 r3 : Int} (m1 : mkQ w b n r1) (m2 : mkQ w b n r2) (m3 : mkQ w b n r3) (hb : 0 ≤ b) (hn : b ≤ n) (n1 : ¬ r1 = 20) (n2 : ¬ r2 = 23) (n3 : ¬ r3 = 24) : ¬ (hd9 (mks false w b n) = 20 ∨ hd9 (mks false w b n) = 23 ∨ hd9 (mks false w b n) = 24) := by
  intro h
  rcases h with h | h | h
  · exact n1 (mk_eq m1 hb hn h (by omega))
  · exact n2 (mk_eq m2 hb hn h (by omega))
  · exact n3 (mk_eq m3 hb hn h (by omega))
theorem mk_K {w : Nat → Int32} {b n r : Int} (h : mkQ w b n r) (hb : 0 ≤ b) (hn : b ≤ n) (hr : ¬ r = -1) : 20 ≤ r ∧ r ≤ 24 ∧ ∃ K : List Int, mks false w b n = r :: K := by
  rcases mk_hd h hb hn with ⟨h1, _⟩ | h2
  · exact absurd h1 hr
  · exact h2
/-- behind goesOn that asks no more: nothing of the sum is open, and no sign follows -/
def enQ (t : Int → Int) (at_ : Int) (K : List Int) : Prop := K = [] ∧ skp t at_ = at_ ∧ ¬ (t at_ = 42 ∨ t at_ = 47 ∨ t at_ = 43 ∨ t at_ = 45)
theorem cl_of {w : Nat → Int32} {b n r1 r2 r3 : Int} (m1 : mkQ w b n r1) (n1 : ¬ r1 = 21) (m2 : mkQ w b n r2) (n2 : ¬ r2 = 22) (m3 : mkQ w b n r3) (n3 : ¬ r3 = -1) (hb : 0 ≤ b) (hn : b ≤ n) : (r3 = 20 ∨ r3 = 23 ∨ r3 = 24) ∧ hd9 (mks false w b n) = r3 ∧ ∃ K : List Int, mks false w b n = r3 :: K := by
  obtain ⟨h1, h2, K, h3⟩ := mk_K m3 hb hn n3
  have e : hd9 (mks false w b n) = r3 := by rw [h3]; rfl
  have a := mk_eq m1 hb hn e (by omega)
  have c := mk_eq m2 hb hn e (by omega)
  exact ⟨by omega, e, K, h3⟩
