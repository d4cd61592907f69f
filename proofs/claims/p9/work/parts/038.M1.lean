/-! the reference reads as the automaton does -/
def tau (f : Nat → Int32) (n i : Int) : Int := if 0 ≤ i ∧ i < n then (f i.toNat).toInt else -1
theorem tau_in {f : Nat → Int32} {n i : Int} (h1 : 0 ≤ i) (h2 : i < n) : tau f n i = (f i.toNat).toInt := if_pos ⟨h1, h2⟩
theorem tau_out {f : Nat → Int32} {n i : Int} (h : i < 0 ∨ n ≤ i) : tau f n i = -1 := if_neg (fun q => by omega)
theorem sk_ge {t : Int → Int} : ∀ (k : Nat) (p : Int), p ≤ sk t k p
  | 0, p => by show p ≤ p; omega
  | k + 1, p => by
    show p ≤ ci (isBl (t p)) (sk t k (p + 1)) p
    by_cases h : isBl (t p)
    · rw [ci_pos h]
      have := sk_ge (t := t) k (p + 1)
      omega
    · rw [ci_neg h]
      omega
theorem skp_ge {t : Int → Int} {p : Int} : p ≤ skp t p := sk_ge 1700 p
theorem sgn_far {t : Int → Int} {q e : Int} (h : e < q) : sgn t q e = t q := ci_neg (fun a => by have := a.1; omega)
theorem sgn_c {t : Int → Int} {q e c : Int} (h : t q = c) (hc : c < 48 ∨ (57 < c ∧ c < 97) ∨ 122 < c) : sgn t q e = c := by
  unfold sgn
  rw [ci_neg (fun a => by have := a.2; unfold isSm isDg at this; omega)]
  exact h
theorem sgn_nc {t : Int → Int} {q e c : Int} (h : ¬ t q = c) (hc : ¬ c = 0) : ¬ sgn t q e = c := by
  unfold sgn
  by_cases a : q = e ∧ (isSm (t q) ∨ isDg (t q))
  · rw [ci_pos a]; omega
  · rw [ci_neg a]; exact h
theorem sgn_0 {t : Int → Int} {q e : Int} (h : q = e) (hs : isSm (t q) ∨ isDg (t q)) : sgn t q e = 0 := ci_pos ⟨h, hs⟩
theorem sgn_ne {t : Int → Int} {q e : Int} (h : ¬ q = e) : sgn t q e = t q := ci_neg (fun a => h a.1)
def Rm (t : Int → Int) (ph at_ e o : Int) (K : List Int) (out : aOu) : Prop := Rn t ph (skp t at_) (sgn t (skp t at_) e) o K out
theorem M1_par {t : Int → Int} {at_ e o q a2 : Int} {K : List Int} {out : aOu} (hq : q = skp t at_) (he : e ≤ q) (hc : t q = 40) (ho : ¬ o = 6) (ha : a2 = q + 1) (h : Rm t 1 a2 e (o + 1) (20 :: K) out) : Rm t 1 at_ e o K out := by
  subst ha
  subst hq
  unfold Rm at h ⊢
  rw [sgn_far (show e < skp t (skp t at_ + 1) by have := skp_ge (t := t) (p := skp t at_ + 1); omega)] at h
  exact R1_par (sgn_c hc (by omega)) ho rfl h
theorem M2_close {t : Int → Int} {at_ e o q a2 : Int} {K : List Int} {out : aOu} {m : Int} (hq : q = skp t at_) (he : e ≤ q) (hc : t q = 41) (hm : m = 20 ∨ m = 23 ∨ m = 24) (ha : a2 = q + 1) (h : Rm t 2 a2 e (o - 1) K out) : Rm t 2 at_ e o (m :: K) out := by
  subst ha
  subst hq
  unfold Rm at h ⊢
  rw [sgn_far (show e < skp t (skp t at_ + 1) by have := skp_ge (t := t) (p := skp t at_ + 1); omega)] at h
  exact R2_close (sgn_c hc (by omega)) hm rfl h
theorem M2_op {t : Int → Int} {at_ e o q a2 : Int} {K : List Int} {out : aOu} {c : Int} (hq : q = skp t at_) (he : e ≤ q) (hc : t q = c) (hx : c = 42 ∨ c = 47 ∨ c = 43 ∨ c = 45) (ha : a2 = q + 1) (h : Rm t 1 a2 e o K out) : Rm t 2 at_ e o K out := by
  subst ha
  subst hq
  unfold Rm at h ⊢
  rw [sgn_far (show e < skp t (skp t at_ + 1) by have := skp_ge (t := t) (p := skp t at_ + 1); omega)] at h
  exact R2_op (by have := sgn_c (e := e) hc (by omega); omega) rfl h
theorem M2_comma {t : Int → Int} {at_ e o q a2 : Int} {K : List Int} {out : aOu} {m : Int} (hq : q = skp t at_) (he : e ≤ q) (hc : t q = 44) (hm : m = 21 ∨ m = 22) (ha : a2 = q + 1) (h : Rm t 1 a2 e o ((m + 2) :: K) out) : Rm t 2 at_ e o (m :: K) out := by
  subst ha
  subst hq
  unfold Rm at h ⊢
  rw [sgn_far (show e < skp t (skp t at_ + 1) by have := skp_ge (t := t) (p := skp t at_ + 1); omega)] at h
  exact R2_comma (sgn_c hc (by omega)) hm rfl h
theorem M2_cmp {t : Int → Int} {at_ e o q a2 : Int} {K : List Int} {out : aOu} {c : Int} (hq : q = skp t at_) (he : e ≤ q) (hc : t q = c) (hx : c = 60 ∨ c = 61 ∨ c = 62) (ha : a2 = q + 1) (h : Rm t 1 a2 e o (32 :: K) out) : Rm t 2 at_ e o (31 :: K) out := by
  subst ha
  subst hq
  unfold Rm at h ⊢
  rw [sgn_far (show e < skp t (skp t at_ + 1) by have := skp_ge (t := t) (p := skp t at_ + 1); omega)] at h
  exact R2_cmp (by have := sgn_c (e := e) hc (by omega); omega) rfl h
theorem M3_sq {t : Int → Int} {at_ e o q a2 : Int} {K : List Int} {out : aOu} (hq : q = skp t at_) (he : e ≤ q) (hc : t q = 91) (ho : ¬ o = 6) (ha : a2 = q + 1) (h : Rm t 3 a2 e (o + 1) (25 :: K) out) : Rm t 3 at_ e o K out := by
  subst ha
  subst hq
  unfold Rm at h ⊢
  rw [sgn_far (show e < skp t (skp t at_ + 1) by have := skp_ge (t := t) (p := skp t at_ + 1); omega)] at h
  exact R3_sq (sgn_c hc (by omega)) sgn_sv ho rfl h
theorem M4_sq {t : Int → Int} {at_ e o q a2 : Int} {K : List Int} {out : aOu} (hq : q = skp t at_) (he : e ≤ q) (hc : t q = 93) (ha : a2 = q + 1) (h : Rm t 4 a2 e (o - 1) K out) : Rm t 4 at_ e o (25 :: K) out := by
  subst ha
  subst hq
  unfold Rm at h ⊢
  rw [sgn_far (show e < skp t (skp t at_ + 1) by have := skp_ge (t := t) (p := skp t at_ + 1); omega)] at h
  exact R4_sq (sgn_c hc (by omega)) rfl h
theorem M5_go {t : Int → Int} {at_ e o q a2 : Int} {K : List Int} {out : aOu} {ph : Int} (hq : q = skp t at_) (he : e ≤ q) (hc : t q = 40) (hp : ph = 5 ∨ ph = 6) (ho : ¬ o = 6) (ha : a2 = q + 1) (h : Rm t 1 a2 e (o + 1) ((ph + 16) :: K) out) : Rm t ph at_ e o K out := by
  subst ha
  subst hq
  unfold Rm at h ⊢
  rw [sgn_far (show e < skp t (skp t at_ + 1) by have := skp_ge (t := t) (p := skp t at_ + 1); omega)] at h
  exact R5_go hp (sgn_c hc (by omega)) ho rfl h
theorem M1_Min {t : Int → Int} {at_ e o q a2 : Int} {K : List Int} {out : aOu} (hq : q = skp t at_) (hw : wd t q (sgn t q e) wMin) (ha : a2 = q + 3) (h : Rm t 5 a2 a2 o K out) : Rm t 1 at_ e o K out := by
  subst ha
  subst hq
  unfold Rm at h ⊢
  exact R1_Min hw sgn_sv rfl h
theorem M1_Max {t : Int → Int} {at_ e o q a2 : Int} {K : List Int} {out : aOu} (hq : q = skp t at_) (hw : wd t q (sgn t q e) wMax) (ha : a2 = q + 3) (h : Rm t 6 a2 a2 o K out) : Rm t 1 at_ e o K out := by
  subst ha
  subst hq
  unfold Rm at h ⊢
  exact R1_Max hw sgn_sv rfl h
theorem M1_six {t : Int → Int} {at_ e o q a2 : Int} {K : List Int} {out : aOu} (hq : q = skp t at_) (hw : wd t q (sgn t q e) wSender ∨ wd t q (sgn t q e) wSquare) (ha : a2 = q + 6) (h : Rm t 2 a2 a2 o K out) : Rm t 1 at_ e o K out := by
  subst ha
  subst hq
  unfold Rm at h ⊢
  exact R1_six hw sgn_sv rfl h
theorem M1_Peak {t : Int → Int} {at_ e o q a2 : Int} {K : List Int} {out : aOu} (hq : q = skp t at_) (hw : wd t q (sgn t q e) wPeak) (ha : a2 = q + 4) (h : Rm t 2 a2 a2 o K out) : Rm t 1 at_ e o K out := by
  subst ha
  subst hq
  unfold Rm at h ⊢
  exact R1_Peak hw sgn_sv rfl h
theorem M2_when {t : Int → Int} {at_ e o q a2 : Int} {K : List Int} {out : aOu} (hq : q = skp t at_) (hw : wd t q (sgn t q e) wWhen) (ha : a2 = q + 4) (h : Rm t 3 a2 a2 0 K out) : Rm t 2 at_ e o (30 :: K) out := by
  subst ha
  subst hq
  unfold Rm at h ⊢
  exact R2_when hw sgn_sv rfl h
theorem M3_not {t : Int → Int} {at_ e o q a2 : Int} {K : List Int} {out : aOu} (hq : q = skp t at_) (hw : wd t q (sgn t q e) wNot) (ho : ¬ o = 6) (ha : a2 = q + 3) (h : Rm t 3 a2 a2 (o + 1) (16 :: K) out) : Rm t 3 at_ e o K out := by
  subst ha
  subst hq
  unfold Rm at h ⊢
  exact R3_not hw ho rfl h
theorem M3_all {t : Int → Int} {at_ e o q a2 : Int} {K : List Int} {out : aOu} (hq : q = skp t at_) (hw : wd t q (sgn t q e) wAll) (ha : a2 = q + 3) (h : Rm t 4 a2 a2 o K out) : Rm t 3 at_ e o K out := by
  subst ha
  subst hq
  unfold Rm at h ⊢
  exact R3_all hw sgn_sv rfl h
theorem M4_and {t : Int → Int} {at_ e o q a2 : Int} {K : List Int} {out : aOu} (hq : q = skp t at_) (hw : wd t q (sgn t q e) wAnd) (hk : ¬ hd9 K = 16) (ha : a2 = q + 3) (h : Rm t 3 a2 a2 o K out) : Rm t 4 at_ e o K out := by
  subst ha
  subst hq
  unfold Rm at h ⊢
  exact R4_and hk hw sgn_sv rfl h
theorem M4_or {t : Int → Int} {at_ e o q a2 : Int} {K : List Int} {out : aOu} (hq : q = skp t at_) (hw : wd t q (sgn t q e) wOr) (hk : ¬ hd9 K = 16) (ha : a2 = q + 2) (h : Rm t 3 a2 a2 o K out) : Rm t 4 at_ e o K out := by
  subst ha
  subst hq
  unfold Rm at h ⊢
  exact R4_or hk hw sgn_sv rfl h
theorem M1_parF {t : Int → Int} {at_ e o q : Int} {K : List Int} (hq : q = skp t at_) (hc : t q = 40) (ho : o = 6) : Rm t 1 at_ e o K (3, q, 0, 0) := by
  subst hq
  unfold Rm
  exact R1_parF (sgn_c hc (by omega)) ho
theorem M5_F3 {t : Int → Int} {at_ e o q : Int} {K : List Int} {ph : Int} (hq : q = skp t at_) (hp : ph = 5 ∨ ph = 6) (hc : t q = 40) (ho : o = 6) : Rm t ph at_ e o K (3, q, 0, 0) := by
  subst hq
  unfold Rm
  exact R5_F3 hp (sgn_c hc (by omega)) ho
theorem M5_F1 {t : Int → Int} {at_ e o q : Int} {K : List Int} {ph : Int} (hq : q = skp t at_) (hp : ph = 5 ∨ ph = 6) (hc : ¬ t q = 40) : Rm t ph at_ e o K (1, q, 0, 0) := by
  subst hq
  unfold Rm
  exact R5_F1 hp (sgn_nc hc (by omega))
theorem M2_commaF {t : Int → Int} {at_ e o q : Int} {K : List Int} {m : Int} (hq : q = skp t at_) (hc : ¬ t q = 44) (hm : m = 21 ∨ m = 22) (hn : ¬ (t q = 42 ∨ t q = 47 ∨ t q = 43 ∨ t q = 45)) : Rm t 2 at_ e o (m :: K) (1, q, 0, 0) := by
  subst hq
  unfold Rm
  exact R2_commaF (sgn_nc hc (by omega)) hm (by have a := sgn_nc (t := t) (q := skp t at_) (e := e) (c := 42) (by omega) (by omega); have b := sgn_nc (t := t) (q := skp t at_) (e := e) (c := 47) (by omega) (by omega); have c := sgn_nc (t := t) (q := skp t at_) (e := e) (c := 43) (by omega) (by omega); have d := sgn_nc (t := t) (q := skp t at_) (e := e) (c := 45) (by omega) (by omega); omega)
theorem M2_closeF {t : Int → Int} {at_ e o q : Int} {K : List Int} {m : Int} (hq : q = skp t at_) (hc : ¬ t q = 41) (hm : m = 20 ∨ m = 23 ∨ m = 24) (hn : ¬ (t q = 42 ∨ t q = 47 ∨ t q = 43 ∨ t q = 45)) : Rm t 2 at_ e o (m :: K) (1, q, 0, 0) := by
  subst hq
  unfold Rm
  exact R2_closeF (sgn_nc hc (by omega)) hm (by have a := sgn_nc (t := t) (q := skp t at_) (e := e) (c := 42) (by omega) (by omega); have b := sgn_nc (t := t) (q := skp t at_) (e := e) (c := 47) (by omega) (by omega); have c := sgn_nc (t := t) (q := skp t at_) (e := e) (c := 43) (by omega) (by omega); have d := sgn_nc (t := t) (q := skp t at_) (e := e) (c := 45) (by omega) (by omega); omega)
theorem M2_whenF {t : Int → Int} {at_ e o q : Int} {K : List Int} (hq : q = skp t at_) (hw : ¬ wd t q (sgn t q e) wWhen) (hn : ¬ (t q = 42 ∨ t q = 47 ∨ t q = 43 ∨ t q = 45)) : Rm t 2 at_ e o (30 :: K) (1, q, 0, 0) := by
  subst hq
  unfold Rm
  exact R2_whenF hw (by have a := sgn_nc (t := t) (q := skp t at_) (e := e) (c := 42) (by omega) (by omega); have b := sgn_nc (t := t) (q := skp t at_) (e := e) (c := 47) (by omega) (by omega); have c := sgn_nc (t := t) (q := skp t at_) (e := e) (c := 43) (by omega) (by omega); have d := sgn_nc (t := t) (q := skp t at_) (e := e) (c := 45) (by omega) (by omega); omega)
theorem M2_cmpF {t : Int → Int} {at_ e o q : Int} {K : List Int} (hq : q = skp t at_) (hc : ¬ (t q = 60 ∨ t q = 61 ∨ t q = 62)) (hn : ¬ (t q = 42 ∨ t q = 47 ∨ t q = 43 ∨ t q = 45)) : Rm t 2 at_ e o (31 :: K) (1, q, 0, 0) := by
  subst hq
  unfold Rm
  exact R2_cmpF (by have a := sgn_nc (t := t) (q := skp t at_) (e := e) (c := 60) (by omega) (by omega); have b := sgn_nc (t := t) (q := skp t at_) (e := e) (c := 61) (by omega) (by omega); have c := sgn_nc (t := t) (q := skp t at_) (e := e) (c := 62) (by omega) (by omega); omega) (by have a := sgn_nc (t := t) (q := skp t at_) (e := e) (c := 42) (by omega) (by omega); have b := sgn_nc (t := t) (q := skp t at_) (e := e) (c := 47) (by omega) (by omega); have c := sgn_nc (t := t) (q := skp t at_) (e := e) (c := 43) (by omega) (by omega); have d := sgn_nc (t := t) (q := skp t at_) (e := e) (c := 45) (by omega) (by omega); omega)
theorem M3_notF {t : Int → Int} {at_ e o q : Int} {K : List Int} (hq : q = skp t at_) (hw : wd t q (sgn t q e) wNot) (ho : o = 6) : Rm t 3 at_ e o K (3, q, 0, 0) := by
  subst hq
  unfold Rm
  exact R3_notF hw ho
theorem M3_sqF {t : Int → Int} {at_ e o q : Int} {K : List Int} (hq : q = skp t at_) (hc : t q = 91) (ho : o = 6) : Rm t 3 at_ e o K (3, q, 0, 0) := by
  subst hq
  unfold Rm
  exact R3_sqF (sgn_c hc (by omega)) sgn_sv ho
theorem M4_sqF {t : Int → Int} {at_ e o q : Int} {K : List Int} (hq : q = skp t at_) (hc : ¬ t q = 93) (h1 : ¬ wd t q (sgn t q e) wAnd) (h2 : ¬ wd t q (sgn t q e) wOr) : Rm t 4 at_ e o (25 :: K) (1, q, 0, 0) := by
  subst hq
  unfold Rm
  exact R4_sqF (sgn_nc hc (by omega)) h1 h2
theorem M2_end {t : Int → Int} {at_ e o q : Int} {K : List Int} {out : aOu} (hq : q = skp t at_) (hn : ¬ (t q = 42 ∨ t q = 47 ∨ t q = 43 ∨ t q = 45)) (h : Rm t 4 at_ e o K out) : Rm t 2 at_ e o (32 :: K) out := by
  subst hq
  unfold Rm at h ⊢
  exact R2_end (by have a := sgn_nc (t := t) (q := skp t at_) (e := e) (c := 42) (by omega) (by omega); have b := sgn_nc (t := t) (q := skp t at_) (e := e) (c := 47) (by omega) (by omega); have c := sgn_nc (t := t) (q := skp t at_) (e := e) (c := 43) (by omega) (by omega); have d := sgn_nc (t := t) (q := skp t at_) (e := e) (c := 45) (by omega) (by omega); omega) h
theorem M4_not {t : Int → Int} {at_ e o : Int} {K : List Int} {out : aOu} (h : Rm t 4 at_ e (o - 1) K out) : Rm t 4 at_ e o (16 :: K) out := R4_not h
theorem M3_sum {t : Int → Int} {at_ e o q : Int} {K : List Int} {out : aOu} (hq : q = skp t at_) (h1 : ¬ wd t q (sgn t q e) wNot) (h2 : ¬ t q = 91) (h3 : ¬ wd t q (sgn t q e) wAll) (h : Rm t 1 at_ e o (31 :: K) out) : Rm t 3 at_ e o K out := by
  subst hq
  exact R3_sum h1 (sgn_nc h2 (by omega)) h3 h
theorem M4_end {t : Int → Int} {at_ e o q : Int} (hq : q = skp t at_) (h1 : ¬ wd t q (sgn t q e) wAnd) (h2 : ¬ wd t q (sgn t q e) wOr) : Rm t 4 at_ e o [] (0, 0, q, sgn t q e) := by
  subst hq
  exact R4_end (K := []) h1 h2
theorem Rm_skip {t : Int → Int} {ph at_ e o q : Int} {K : List Int} {out : aOu} (hq : q = skp t at_) (hi : skp t q = q) : Rm t ph q e o K out ↔ Rm t ph at_ e o K out := by
  unfold Rm
  rw [hi, ← hq]
/-- what the reference has read so far: if nothing is wrong, the automaton goes on from here; else it comes to this fault -/
def soQ (A : List Int → aOu → Prop) (t : Int → Int) (ph at_ e o : Int) (K : List Int) (bad bp : Int) : Prop := (bad = 0 → ∀ (R : List Int) (out : aOu), Rm t ph at_ e o (K ++ R) out → A R out) ∧ (¬ bad = 0 → ∀ R : List Int, A R (bad, bp, 0, 0))
theorem so_refl {t : Int → Int} {ph at_ e o bad bp : Int} {K : List Int} (h : bad = 0) : soQ (fun R out => Rm t ph at_ e o (K ++ R) out) t ph at_ e o K bad bp := ⟨fun _ _ _ k => k, fun e => absurd h e⟩
theorem so_step {A : List Int → aOu → Prop} {t : Int → Int} {ph at_ e o bad bp ph2 a2 e2 o2 bad2 bp2 : Int} {K K2 : List Int} (h : soQ A t ph at_ e o K bad bp) (hb : bad = 0) (hb2 : bad2 = 0) (st : ∀ (R : List Int) (out : aOu), Rm t ph2 a2 e2 o2 (K2 ++ R) out → Rm t ph at_ e o (K ++ R) out) : soQ A t ph2 a2 e2 o2 K2 bad2 bp2 := ⟨fun _ R out k => h.1 hb R out (st R out k), fun e => absurd hb2 e⟩
theorem so_fail {A : List Int → aOu → Prop} {t : Int → Int} {ph at_ e o bad bp ph2 a2 e2 o2 bad2 bp2 : Int} {K K2 : List Int} (h : soQ A t ph at_ e o K bad bp) (hb : bad = 0) (hb2 : ¬ bad2 = 0) (st : ∀ R : List Int, Rm t ph at_ e o (K ++ R) (bad2, bp2, 0, 0)) : soQ A t ph2 a2 e2 o2 K2 bad2 bp2 := ⟨fun e => absurd e hb2, fun _ R => h.1 hb R _ (st R)⟩
theorem so_keep {A : List Int → aOu → Prop} {t : Int → Int} {ph at_ e o bad bp ph2 a2 e2 o2 : Int} {K K2 : List Int} (h : soQ A t ph at_ e o K bad bp) (hb : ¬ bad = 0) : soQ A t ph2 a2 e2 o2 K2 bad bp := ⟨fun e => absurd e hb, h.2⟩
/-- a method's own reading, put behind what was read before -/
theorem so_then {A : List Int → aOu → Prop} {t : Int → Int} {ph at_ e o bad bp ph2 a2 e2 o2 bad2 bp2 : Int} {K K2 : List Int} (h : soQ A t ph at_ e o K bad bp) (hb : bad = 0) (h2 : soQ (fun R out => Rm t ph at_ e o (K ++ R) out) t ph2 a2 e2 o2 K2 bad2 bp2) : soQ A t ph2 a2 e2 o2 K2 bad2 bp2 := ⟨fun b R out k => h.1 hb R out (h2.1 b R out k), fun b R => h.1 hb R _ (h2.2 b R)⟩
/-! the marks that wait -/
/-- of which kind a mark is: k = 0 of a sum (20 .. 24), k = 1 of a test (16, 25) -/
def isMk (g : Bool) (v : Int) : Prop := bif g then v = 16 ∨ v = 25 else 20 ≤ v ∧ v ≤ 24
noncomputable def mkL (g : Bool) (w : Nat → Int32) (lo : Nat) : Nat → List Int
  | 0 => []
  | k + 1 => ci (isMk g (w (lo + k)).toInt) ((w (lo + k)).toInt :: mkL g w lo k) (mkL g w lo k)
noncomputable def mks (g : Bool) (w : Nat → Int32) (b n : Int) : List Int := mkL g w b.toNat (n - b).toNat
theorem mks_nil {g : Bool} {w : Nat → Int32} {b n : Int} (h : n ≤ b) : mks g w b n = [] := by
  unfold mks
  rw [show (n - b).toNat = 0 by omega]
  rfl
theorem mkL_same {g : Bool} {w w2 : Nat → Int32} {lo : Nat} : ∀ (k : Nat), (∀ j : Nat, lo ≤ j → j < lo + k → w2 j = w j) → mkL g w2 lo k = mkL g w lo k
  | 0, _ => rfl
  | k + 1, h => by
    show ci _ _ _ = ci _ _ _
    rw [h (lo + k) (by omega) (by omega), mkL_same k (fun j a b => h j a (by omega))]
theorem mks_same {g : Bool} {w w2 : Nat → Int32} {b n : Int} (hb : 0 ≤ b) (h : ∀ j : Nat, b ≤ (j : Int) → (j : Int) < n → w2 j = w j) : mks g w2 b n = mks g w b n := mkL_same _ (fun j a c => h j (by omega) (by omega))
theorem mks_up {g : Bool} {w : Nat → Int32} {b n : Int} (hb : 0 ≤ b) (hn : b ≤ n) : mks g w b (n + 1) = ci (isMk g (w n.toNat).toInt) ((w n.toNat).toInt :: mks g w b n) (mks g w b n) := by
  unfold mks
  rw [show (n + 1 - b).toNat = (n - b).toNat + 1 by omega]
  show ci _ _ _ = _
  rw [show b.toNat + (n - b).toNat = n.toNat by omega]
theorem mks_upd {g : Bool} {w : Nat → Int32} {b n : Int} {k : Nat} {v : Int32} (hb : 0 ≤ b) (hk : n ≤ (k : Int)) : mks g (upd w k v) b n = mks g w b n := mks_same hb (fun j a c => u_ne (by omega))
/-- a mark is put on top -/
theorem mks_push {g : Bool} {w : Nat → Int32} {b n n2 v : Int} {x : Int32} (hb : 0 ≤ b) (hn : b ≤ n) (e2 : n2 = n + 1) (hx : x.toInt = v) (hm : isMk g v) : mks g (upd w n.toNat x) b n2 = v :: mks g w b n := by
  subst e2
  subst hx
  rw [mks_up hb hn, u_eq rfl, ci_pos hm, mks_upd hb (by omega)]
/-- what is no mark is put on top -/
theorem mks_put {g : Bool} {w : Nat → Int32} {b n n2 v : Int} {x : Int32} (hb : 0 ≤ b) (hn : b ≤ n) (e2 : n2 = n + 1) (hx : x.toInt = v) (hm : ¬ isMk g v) : mks g (upd w n.toNat x) b n2 = mks g w b n := by
  subst e2
  subst hx
  rw [mks_up hb hn, u_eq rfl, ci_neg hm, mks_upd hb (by omega)]
theorem mks_drop {g : Bool} {w : Nat → Int32} {b n n2 v : Int} (hb : 0 ≤ b) (hn : b ≤ n2) (e2 : n = n2 + 1) (hx : (w n2.toNat).toInt = v) (hm : ¬ isMk g v) : mks g w b n = mks g w b n2 := by
  subst e2
  subst hx
  rw [mks_up hb hn, ci_neg hm]
theorem mks_pop {g : Bool} {w : Nat → Int32} {b n n2 v : Int} (hb : 0 ≤ b) (hn : b ≤ n2) (e2 : n = n2 + 1) (hx : (w n2.toNat).toInt = v) (hm : isMk g v) : mks g w b n = v :: mks g w b n2 := by
  subst e2
  subst hx
  rw [mks_up hb hn, ci_pos hm]
