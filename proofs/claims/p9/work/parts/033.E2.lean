/-! the class reads as the automaton does -/
def taub (f : Nat → Int32) (n i : Int) : Int := if 0 ≤ i ∧ i < n then (f i.toNat).toInt % 256 else -1
theorem taub_in {f : Nat → Int32} {n i : Int} (h1 : 0 ≤ i) (h2 : i < n) : taub f n i = (f i.toNat).toInt % 256 := if_pos ⟨h1, h2⟩
theorem taub_out {f : Nat → Int32} {n i : Int} (h : i < 0 ∨ n ≤ i) : taub f n i = -1 := if_neg (fun q => by omega)
theorem taub_lt {f : Nat → Int32} {n i : Int} (h : 0 ≤ taub f n i) : 0 ≤ i ∧ i < n := by
  by_cases q : 0 ≤ i ∧ i < n
  · exact q
  · have e : taub f n i = -1 := if_neg q
    omega
theorem and255 {x z : Int32} (h : z = x &&& 255) : z.toInt = x.toInt % 256 := by
  subst h
  have h1 : (x &&& 255).toBitVec.toNat = x.toBitVec.toNat % 256 := by
    rw [Int32.toBitVec_and]
    show (x.toBitVec &&& 255#32).toNat = _
    rw [BitVec.toNat_and]
    exact Nat.and_two_pow_sub_one_eq_mod _ 8
  have h2 : (x &&& 255).toInt = (x &&& 255).toBitVec.toInt := rfl
  have h3 : x.toInt = x.toBitVec.toInt := rfl
  rw [h2, h3, BitVec.toInt_eq_toNat_cond, BitVec.toInt_eq_toNat_cond, h1]
  have := x.toBitVec.isLt
  split <;> split <;> omega
theorem and1 {x z : Int32} (h : z = x &&& 1) : z.toInt = x.toInt % 2 := by
  subst h
  have h1 : (x &&& 1).toBitVec.toNat = x.toBitVec.toNat % 2 := by
    rw [Int32.toBitVec_and]
    show (x.toBitVec &&& 1#32).toNat = _
    rw [BitVec.toNat_and]
    exact Nat.and_two_pow_sub_one_eq_mod _ 1
  have h2 : (x &&& 1).toInt = (x &&& 1).toBitVec.toInt := rfl
  have h3 : x.toInt = x.toBitVec.toInt := rfl
  rw [h2, h3, BitVec.toInt_eq_toNat_cond, BitVec.toInt_eq_toNat_cond, h1]
  have := x.toBitVec.isLt
  split <;> split <;> omega
noncomputable def gsn (t : Int → Int) (p q nb : Int) : Int := ci (¬ nb = 0 ∧ q = p ∧ (isSm (t q) ∨ isDg (t q))) 0 (t q)
theorem gsn_g {t : Int → Int} {p q nb : Int} (h1 : ¬ nb = 0) (h2 : q = p) (h3 : isSm (t q) ∨ isDg (t q)) : gsn t p q nb = 0 := ci_pos ⟨h1, h2, h3⟩
theorem gsn_t {t : Int → Int} {p q nb : Int} (h : nb = 0 ∨ ¬ q = p ∨ ¬ (isSm (t q) ∨ isDg (t q))) : gsn t p q nb = t q := ci_neg (fun a => by
  rcases h with h | h | h
  · exact a.1 h
  · exact h a.2.1
  · exact h a.2.2)
theorem gsn_w {t : Int → Int} {p q nb : Int} (h : ¬ nb = 0) : gsn t p q nb = sgn t q p := by
  unfold gsn sgn
  by_cases q1 : q = p ∧ (isSm (t q) ∨ isDg (t q))
  · rw [ci_pos q1, ci_pos ⟨h, q1⟩]
  · rw [ci_neg q1, ci_neg (fun a => q1 a.2)]
theorem sgn_sv {t : Int → Int} {q e : Int} : svQ t q (sgn t q e) := by
  unfold sgn
  by_cases q1 : q = e ∧ (isSm (t q) ∨ isDg (t q))
  · rw [ci_pos q1]; exact Or.inl ⟨rfl, q1.2⟩
  · rw [ci_neg q1]; exact Or.inr rfl
theorem sv_lt {f : Nat → Int32} {n q sg : Int} (h : svQ (taub f n) q sg) (h1 : 1 ≤ sg) : 0 ≤ q ∧ q < n := by
  rcases h with e | e
  · have := e.1; omega
  · exact taub_lt (f := f) (by omega)
theorem mt_lt {f : Nat → Int32} {n : Int} : ∀ (w : List Int) {q : Int}, mt (taub f n) q w → (∀ a ∈ w, 0 ≤ a) → ¬ w = [] → q + (w.length : Int) ≤ n
  | [], _, _, _, h => absurd rfl h
  | [a], q, h, hp, _ => by
    have h0 : taub f n q = a := h.1
    have := hp a List.mem_cons_self
    have := taub_lt (f := f) (n := n) (i := q) (by omega)
    show q + ((1 : Nat) : Int) ≤ n
    omega
  | a :: b :: w, q, h, hp, _ => by
    have := mt_lt (b :: w) (q := q + 1) h.2 (fun c hc => hp c (List.mem_cons_of_mem _ hc)) (by simp)
    show q + (((b :: w).length + 1 : Nat) : Int) ≤ n
    omega
/-- what was read of a word so far -/
def mtk (t : Int → Int) (q : Int) (w : List Int) (k : Int) : Prop := ∀ j : Nat, (j : Int) < k → t (q + (j : Int)) = w.getD j 0
theorem mtk_0 {t : Int → Int} {q k : Int} {w : List Int} (h : k ≤ 0) : mtk t q w k := fun j hj => absurd hj (by omega)
theorem mtk_up {t : Int → Int} {q k k' p a b : Int} {w : List Int} (h : mtk t q w k) (h0 : 0 ≤ k) (ek : k' = k + 1) (hp : p = q + k) (ha : a = t p) (hb : b = w.getD k.toNat 0) (e : a = b) : mtk t q w k' := by
  intro j hj
  by_cases q1 : (j : Int) = k
  · have : j = k.toNat := by omega
    subst this
    rw [← hb, ← e, ha, hp, q1]
  · exact h j (by omega)
theorem mt_of : ∀ (w : List Int) {t : Int → Int} {q : Int}, mtk t q w (w.length : Int) → mt t q w
  | [], _, _, _ => trivial
  | a :: w, t, q, h => by
    refine ⟨?_, mt_of w (fun j hj => ?_)⟩
    · have := h 0 (by show ((0 : Nat) : Int) < ((w.length + 1 : Nat) : Int); omega)
      rwa [show q + ((0 : Nat) : Int) = q by omega] at this
    · have := h (j + 1) (by show ((j + 1 : Nat) : Int) < ((w.length + 1 : Nat) : Int); omega)
      rwa [show q + ((j + 1 : Nat) : Int) = q + 1 + (j : Int) by omega] at this
theorem mt_to : ∀ (w : List Int) {t : Int → Int} {q : Int}, mt t q w → ∀ j : Nat, j < w.length → t (q + (j : Int)) = w.getD j 0
  | [], _, _, _, j, hj => absurd hj (Nat.not_lt_zero _)
  | a :: w, t, q, h, 0, _ => by
    rw [show q + ((0 : Nat) : Int) = q by omega]
    exact h.1
  | a :: w, t, q, h, j + 1, hj => by
    have := mt_to w h.2 j (by simpa using hj)
    rw [show q + ((j + 1 : Nat) : Int) = q + 1 + (j : Int) by omega]
    exact this
def waQ (t : Int → Int) (q sg : Int) (w : List Int) (r : Int) : Prop := (¬ r = 0 → wd t q sg w) ∧ (r = 0 → ¬ wd t q sg w)
theorem wa_yes {t : Int → Int} {q sg r n p a : Int} {w : List Int} (h : mtk t q w n) (hn : n = (w.length : Int)) (h0 : ¬ sg = 0) (hp : p = q + n) (ha : a = t p) (hs : ¬ (97 ≤ a ∧ a ≤ 122)) (hr : ¬ r = 0) : waQ t q sg w r := by
  subst hn
  subst hp
  subst ha
  exact ⟨fun _ => ⟨h0, mt_of w h, hs⟩, fun e => absurd e hr⟩
theorem wa_diff {t : Int → Int} {q sg r k p a b : Int} {w : List Int} (h0 : 0 ≤ k) (hk : k < (w.length : Int)) (hp : p = q + k) (ha : a = t p) (hb : b = w.getD k.toNat 0) (e : ¬ a = b) (hr : r = 0) : waQ t q sg w r := by
  refine ⟨fun h => absurd hr h, fun _ h => e ?_⟩
  have := mt_to w h.2.1 k.toNat (by omega)
  rw [ha, hb, hp, ← this]
  congr 1
  omega
theorem wa_no0 {t : Int → Int} {q sg r : Int} {w : List Int} (h0 : sg = 0) (hr : r = 0) : waQ t q sg w r := ⟨fun h => absurd hr h, fun _ h => h.1 h0⟩
theorem wa_more {t : Int → Int} {q sg r n p a : Int} {w : List Int} (hn : n = (w.length : Int)) (hp : p = q + n) (ha : a = t p) (hs : 97 ≤ a ∧ a ≤ 122) (hr : r = 0) : waQ t q sg w r := by
  subst hn
  subst hp
  subst ha
  exact ⟨fun h => absurd hr h, fun _ h => h.2.2 hs⟩
def tsQ (t : Int → Int) (q sg c q' sg' r : Int) : Prop := (¬ r = 0 → sg = c ∧ skp t (q + 1) = q' ∧ sg' = t q') ∧ (r = 0 → ¬ sg = c ∧ q' = q ∧ sg' = sg)
theorem ts_yes {t : Int → Int} {q sg c q' sg' r p z : Int} (h : sg = c) (hp : p = q + 1) (ha : q' = skp t p) (hs : sg' = gsn t p q' z) (hz : z = 0) (hr : ¬ r = 0) : tsQ t q sg c q' sg' r := by
  subst hp
  exact ⟨fun _ => ⟨h, ha.symm, hs.trans (gsn_t (Or.inl hz))⟩, fun e => absurd e hr⟩
theorem ts_no {t : Int → Int} {q sg c r : Int} (h : ¬ sg = c) (hr : r = 0) : tsQ t q sg c q sg r := ⟨fun e => absurd hr e, fun _ => ⟨h, rfl, rfl⟩⟩
def rsQ (t : Int → Int) (q sg c q' sg' r f p : Int) : Prop := (¬ r = 0 → sg = c ∧ skp t (q + 1) = q' ∧ sg' = t q') ∧ (r = 0 → ¬ sg = c ∧ f = 1 ∧ p = q)
theorem rs_yes {t : Int → Int} {q sg c q' sg' r p z f pl : Int} (h : sg = c) (hp : p = q + 1) (ha : q' = skp t p) (hs : sg' = gsn t p q' z) (hz : z = 0) (hr : ¬ r = 0) : rsQ t q sg c q' sg' r f pl := by
  subst hp
  exact ⟨fun _ => ⟨h, ha.symm, hs.trans (gsn_t (Or.inl hz))⟩, fun e => absurd e hr⟩
theorem rs_no {t : Int → Int} {q sg c q' sg' r f p : Int} (h : ¬ sg = c) (hr : r = 0) (hf : f = 1) (hp : p = q) : rsQ t q sg c q' sg' r f p := ⟨fun e => absurd hr e, fun _ => ⟨h, hf, hp⟩⟩
def twQ (t : Int → Int) (q sg : Int) (w : List Int) (q' sg' r : Int) : Prop := (¬ r = 0 → wd t q sg w ∧ skp t (q + (w.length : Int)) = q' ∧ sg' = sgn t q' (q + (w.length : Int))) ∧ (r = 0 → ¬ wd t q sg w ∧ q' = q ∧ sg' = sg)
theorem tw_yes {t : Int → Int} {q sg q' sg' r r1 p z n : Int} {w : List Int} (h : waQ t q sg w r1) (h1 : ¬ r1 = 0) (hp : p = q + n) (hn : n = (w.length : Int)) (ha : q' = skp t p) (hs : sg' = gsn t p q' z) (hz : ¬ z = 0) (hr : ¬ r = 0) : twQ t q sg w q' sg' r := by
  subst hn
  subst hp
  exact ⟨fun _ => ⟨h.1 h1, ha.symm, hs.trans (gsn_w hz)⟩, fun e => absurd e hr⟩
theorem tw_no {t : Int → Int} {q sg r r1 : Int} {w : List Int} (h : waQ t q sg w r1) (h1 : r1 = 0) (hr : r = 0) : twQ t q sg w q sg r := ⟨fun e => absurd hr e, fun _ => ⟨h.2 h1, rfl, rfl⟩⟩
def rwQ (t : Int → Int) (q sg : Int) (w : List Int) (q' sg' r f p : Int) : Prop := (¬ r = 0 → wd t q sg w ∧ skp t (q + (w.length : Int)) = q' ∧ sg' = sgn t q' (q + (w.length : Int))) ∧ (r = 0 → ¬ wd t q sg w ∧ f = 1 ∧ p = q)
theorem rw_yes {t : Int → Int} {q sg q' sg' r r1 f p : Int} {w : List Int} (h : twQ t q sg w q' sg' r1) (h1 : ¬ r1 = 0) (hr : ¬ r = 0) : rwQ t q sg w q' sg' r f p := ⟨fun _ => h.1 h1, fun e => absurd e hr⟩
theorem rw_no {t : Int → Int} {q sg q' sg' q2 sg2 r r1 f p : Int} {w : List Int} (h : twQ t q sg w q' sg' r1) (h1 : r1 = 0) (hr : r = 0) (hf : f = 1) (hp : p = q') : rwQ t q sg w q2 sg2 r f p := ⟨fun e => absurd hr e, fun _ => ⟨(h.2 h1).1, hf, hp.trans (h.2 h1).2.1⟩⟩
def nvk (t : Int → Int) (q : Int) : Nat → Int
  | 0 => 0
  | k + 1 => 10 * nvk t q k + t (q + (k : Int)) - 48
noncomputable def nvn (t : Int → Int) (q : Int) : Int := nvk t q (nd t q).toNat
theorem nvk_up {t : Int → Int} {q v v' n n' a p : Int} (h : v = nvk t q n.toNat) (h0 : 0 ≤ n) (hn : n' = n + 1) (hp : p = q + n) (ha : a = t p) (hv : v' = 10 * v + a - 48) : v' = nvk t q n'.toNat := by
  have e : n'.toNat = n.toNat + 1 := by omega
  rw [e]
  show v' = 10 * nvk t q n.toNat + t (q + (n.toNat : Int)) - 48
  rw [← h, hv, ha, hp, show (n.toNat : Int) = n by omega]
theorem dgs_0 {t : Int → Int} {q n : Int} (h : n = 0) : dgs t q n := ⟨by omega, fun j a b => absurd a (by omega)⟩
theorem dgs_up {t : Int → Int} {q n n' p a : Int} (h : dgs t q n) (hn : n' = n + 1) (hp : p = q + n) (ha : a = t p) (hd : 48 ≤ a ∧ a ≤ 57) : dgs t q n' := by
  subst hn
  refine ⟨by have := h.1; omega, fun j a1 b1 => ?_⟩
  by_cases e : j = p
  · subst e
    unfold isDg
    omega
  · exact h.2 j a1 (by omega)
def nuQ (t : Int → Int) (q sg r q' sg' na f p : Int) : Prop := (¬ r = -1 → isDg sg ∧ nd t q ≤ 4 ∧ r = nvn t q ∧ skp t (q + nd t q) = q' ∧ sg' = sgn t q' (q + nd t q) ∧ na = q ∧ 0 ≤ r) ∧ (r = -1 → f = 1 ∧ ((¬ isDg sg ∧ p = q) ∨ (isDg sg ∧ nd t q = 5 ∧ p = q + 4)))
theorem nu_none {t : Int → Int} {q sg r q' sg' na f p : Int} (h : ¬ (48 ≤ sg ∧ sg ≤ 57)) (hr : r = -1) (hf : f = 1) (hp : p = q) : nuQ t q sg r q' sg' na f p := ⟨fun e => absurd hr e, fun _ => ⟨hf, Or.inl ⟨h, hp⟩⟩⟩
theorem nu_five {t : Int → Int} {q sg r q' sg' na f p n a : Int} (h : 48 ≤ sg ∧ sg ≤ 57) (hd : dgs t q n) (hn : n = 4) (hp : p = q + n) (ha : a = t p) (hx : 48 ≤ a ∧ a ≤ 57) (hr : r = -1) (hf : f = 1) : nuQ t q sg r q' sg' na f p := by
  refine ⟨fun e => absurd hr e, fun _ => ⟨hf, Or.inr ⟨h, nd_at (dgs_up hd (n' := 5) (by omega) hp ha hx) (by omega) (fun q => absurd q (by omega)), by omega⟩⟩⟩
theorem nu_yes {t : Int → Int} {q sg r q' sg' na f p n a z b : Int} (h : 48 ≤ sg ∧ sg ≤ 57) (hd : dgs t q n) (hn : n ≤ 4) (hb : b = q + n) (ha : a = t b) (hx : ¬ (48 ≤ a ∧ a ≤ 57)) (hv : r = nvk t q n.toNat) (hr : 0 ≤ r) (h1 : q' = skp t b) (h2 : sg' = gsn t b q' z) (hz : ¬ z = 0) (hna : na = q) : nuQ t q sg r q' sg' na f p := by
  have e : nd t q = n := nd_at hd (by omega) (fun _ => by rw [← hb]; unfold isDg; rw [← ha]; exact hx)
  refine ⟨fun _ => ⟨h, by omega, by unfold nvn; rw [e]; exact hv, by rw [e, ← hb]; exact h1.symm, by rw [e, ← hb, h2]; exact gsn_w hz, hna, hr⟩, fun e => absurd e (by omega)⟩
/-- from the phase a to the phase b: what was read from q to q' is what the automaton reads there -/
def prQ (t : Int → Int) (a b : Int) (q sg o q' sg' r f p : Int) : Prop := (¬ r = 0 → svQ t q' sg' ∧ ∀ (K : List Int) (out : aOu), Rn t b q' sg' o K out → Rn t a q sg o K out) ∧ (r = 0 → ∀ K : List Int, Rn t a q sg o K (f, p, 0, 0))
def nopQ (sg r : Int) : Prop := ¬ r = 0 → ¬ (sg = 42 ∨ sg = 47 ∨ sg = 43 ∨ sg = 45)
theorem tsv {t : Int → Int} {q : Int} : svQ t q (t q) := Or.inr rfl
