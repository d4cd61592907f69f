/-! sums, facts, tests, as the reference reads them -/
theorem pF_op {w0 w w2 : Nat → Int32} {bs o b bp o2 b2 bp2 pl n n2 : Int} {x : Int32} (h : pF w0 w bs) (ox : opX o b bp o2 b2 bp2 pl w w2 n n2 x) (hn : bs ≤ n) : pF w0 w2 bs := by
  rcases ox with ⟨_, _, _, _, e, _⟩ | ⟨_, _, _, _, e, _⟩
  · rw [e]; exact h
  · exact pF_upd h e hn
theorem so_nil {t : Int → Int} {ph at_ e o b bp : Int} {K : List Int} (hb : b = 0) (hk : K = []) : soQ (fun R out => Rm t ph at_ e o R out) t ph at_ e o K b bp := by
  subst hk
  exact so_refl hb
def slQ (A : List Int → aOu → Prop) (t : Int → Int) (m at_ e o : Int) (K : List Int) (b bp : Int) : Prop := (¬ m = 0 → soQ A t 1 at_ e o K b bp) ∧ (m = 0 → soQ A t 2 at_ e o K b bp ∧ (b = 0 → enQ t at_ K))
def suR (A : List Int → aOu → Prop) (t : Int → Int) (a2 e2 o2 b bp : Int) : Prop := soQ A t 2 a2 e2 o2 [] b bp ∧ (b = 0 → skp t a2 = a2 ∧ ¬ (t a2 = 42 ∨ t a2 = 47 ∨ t a2 = 43 ∨ t a2 = 45))
def suQ (t : Int → Int) (at_ e o a2 e2 o2 b bp : Int) : Prop := suR (fun R out => Rm t 1 at_ e o R out) t a2 e2 o2 b bp
theorem sl_start {t : Int → Int} {m at_ e o b bp : Int} {K : List Int} (hb : b = 0) (hk : K = []) (hm : ¬ m = 0) : slQ (fun R out => Rm t 1 at_ e o R out) t m at_ e o K b bp := ⟨fun _ => so_nil hb hk, fun x => absurd x hm⟩
theorem sl_on {A : List Int → aOu → Prop} {t : Int → Int} {m a e o b bp a1 e1 o1 b1 bp1 a2 e2 o2 b2 bp2 m2 : Int} {K K1 K2 : List Int} (h : slQ A t m a e o K b bp) (hm : ¬ m = 0) (hb : b = 0) (h1 : soQ (fun R out => Rm t 1 a e o (K ++ R) out) t 2 a1 e1 o1 K1 b1 bp1) (hb1 : b1 = 0) (h2 : soQ (fun R out => Rm t 2 a1 e1 o1 (K1 ++ R) out) t 1 a2 e2 o2 K2 b2 bp2) (hm2 : ¬ m2 = 0) : slQ A t m2 a2 e2 o2 K2 b2 bp2 := ⟨fun _ => so_then (so_then (h.1 hm) hb h1) hb1 h2, fun x => absurd x hm2⟩
theorem sl_off {A : List Int → aOu → Prop} {t : Int → Int} {m a e o b bp a1 e1 o1 b1 bp1 a2 e2 o2 b2 bp2 m2 : Int} {K K1 K2 : List Int} (h : slQ A t m a e o K b bp) (hm : ¬ m = 0) (hb : b = 0) (h1 : soQ (fun R out => Rm t 1 a e o (K ++ R) out) t 2 a1 e1 o1 K1 b1 bp1) (hb1 : b1 = 0) (h2 : soQ (fun R out => Rm t 2 a1 e1 o1 (K1 ++ R) out) t 2 a2 e2 o2 K2 b2 bp2 ∧ (b2 = 0 → enQ t a2 K2)) (hm2 : m2 = 0) : slQ A t m2 a2 e2 o2 K2 b2 bp2 := ⟨fun x => absurd hm2 x, fun _ => ⟨so_then (so_then (h.1 hm) hb h1) hb1 h2.1, h2.2⟩⟩
theorem sl_bad {A : List Int → aOu → Prop} {t : Int → Int} {m a e o b bp a1 e1 o1 b1 bp1 m2 : Int} {K K1 : List Int} (h : slQ A t m a e o K b bp) (hm : ¬ m = 0) (hb : b = 0) (h1 : soQ (fun R out => Rm t 1 a e o (K ++ R) out) t 2 a1 e1 o1 K1 b1 bp1) (hb1 : ¬ b1 = 0) (hm2 : m2 = 0) : slQ A t m2 a1 e1 o1 K1 b1 bp1 := ⟨fun x => absurd hm2 x, fun _ => ⟨so_then (h.1 hm) hb h1, fun x => absurd x hb1⟩⟩
theorem su_of {A : List Int → aOu → Prop} {t : Int → Int} {m a e o b bp : Int} {K : List Int} (h : slQ A t m a e o K b bp) (hx : m = 0 ∨ ¬ b = 0) : suR A t a e o b bp := by
  by_cases hb : b = 0
  · obtain ⟨x, y⟩ := h.2 (by omega)
    obtain ⟨k, z, w⟩ := y hb
    subst k
    exact ⟨x, fun _ => ⟨z, w⟩⟩
  · have s : ∀ R : List Int, A R (b, bp, 0, 0) := by
      by_cases hm : m = 0
      · exact (h.2 hm).1.2 hb
      · exact (h.1 hm).2 hb
    exact ⟨⟨fun x => absurd x hb, fun _ => s⟩, fun x => absurd x hb⟩
def nfQ (t : Int → Int) (at_ e : Int) : Prop := skp t at_ = at_ ∧ ¬ t at_ = 91 ∧ ¬ wd t at_ (sgn t at_ e) wNot
def faQ (t : Int → Int) (at_ e o a2 e2 o2 b bp : Int) : Prop := soQ (fun R out => Rm t 3 at_ e o R out) t 4 a2 e2 o2 [] b bp
theorem fa_all {t : Int → Int} {at_ e o a2 e2 b bp r : Int} (h : tkM t at_ e wAll a2 e2 r) (hr : ¬ r = 0) (hb : b = 0) : faQ t at_ e o a2 e2 o b bp := by
  obtain ⟨x, y, z⟩ := h.1 hr
  rw [show ((wAll.length : Nat) : Int) = 3 from rfl] at y
  subst z
  exact ⟨fun _ R out k => M3_all rfl x y k, fun q => absurd hb q⟩
theorem fa_in {t : Int → Int} {at_ e o a1 e1 r : Int} (n : nfQ t at_ e) (h : tkM t at_ e wAll a1 e1 r) (hr : r = 0) : ∀ (R : List Int) (out : aOu), Rm t 1 a1 e1 o (31 :: R) out → Rm t 3 at_ e o R out := by
  obtain ⟨x, y, z⟩ := h.2 hr
  obtain ⟨a, b, c⟩ := n
  rw [a] at x y
  subst y
  subst z
  intro R out k
  exact M3_sum a.symm c b x k
theorem fa_F1 {t : Int → Int} {at_ e o a1 e1 a2 e2 o2 b bp : Int} (fi : ∀ (R : List Int) (out : aOu), Rm t 1 a1 e1 o (31 :: R) out → Rm t 3 at_ e o R out) (s : suQ t a1 e1 o a2 e2 o2 b bp) (hb : ¬ b = 0) : faQ t at_ e o a2 e2 o2 b bp := ⟨fun x => absurd x hb, fun _ R => fi R _ (s.1.2 hb (31 :: R))⟩
theorem fa_Fc {t : Int → Int} {at_ e o a1 e1 a2 e2 o2 b1 bp1 q c a3 e3 o3 b bp : Int} (fi : ∀ (R : List Int) (out : aOu), Rm t 1 a1 e1 o (31 :: R) out → Rm t 3 at_ e o R out) (s : suQ t a1 e1 o a2 e2 o2 b1 bp1) (hb1 : b1 = 0) (eq : q = skp t a2) (ec : c = t q) (hc : ¬ (c = 60 ∨ c = 61 ∨ c = 62)) (hb : b = 1) (hp : bp = q) : faQ t at_ e o a3 e3 o3 b bp := by
  subst hb
  subst hp
  refine ⟨fun x => absurd x (by decide), fun _ R => fi R _ (s.1.1 hb1 (31 :: R) _ (M2_cmpF eq (by rw [← ec]; exact hc) (by rw [eq, (s.2 hb1).1]; exact (s.2 hb1).2)))⟩
theorem fa_2 {t : Int → Int} {at_ e o a1 e1 a2 e2 o2 b1 bp1 q c a3 a4 e4 o4 b bp : Int} (fi : ∀ (R : List Int) (out : aOu), Rm t 1 a1 e1 o (31 :: R) out → Rm t 3 at_ e o R out) (s : suQ t a1 e1 o a2 e2 o2 b1 bp1) (hb1 : b1 = 0) (eq : q = skp t a2) (ec : c = t q) (hc : c = 60 ∨ c = 61 ∨ c = 62) (he : e2 ≤ q) (ea : a3 = q + 1) (s2 : suQ t a3 e2 o2 a4 e4 o4 b bp) : faQ t at_ e o a4 e4 o4 b bp := by
  have g : ∀ (R : List Int) (out : aOu), Rm t 1 a3 e2 o2 (32 :: R) out → Rm t 3 at_ e o R out := fun R out k => fi R _ (s.1.1 hb1 (31 :: R) _ (M2_cmp eq he ec.symm hc ea k))
  exact ⟨fun hb R out k => g R out (s2.1.1 hb (32 :: R) out (M2_end (s2.2 hb).1.symm (s2.2 hb).2 k)), fun hb R => g R _ (s2.1.2 hb (32 :: R))⟩
/-! tests: the whole stack is at hand -/
def toQ (A : aOu → Prop) (t : Int → Int) (ph at_ e o : Int) (K : List Int) (b bp : Int) : Prop := (b = 0 → ∀ out : aOu, Rm t ph at_ e o K out → A out) ∧ (¬ b = 0 → A (b, bp, 0, 0))
theorem to_refl {t : Int → Int} {ph at_ e o b bp : Int} {K : List Int} (hb : b = 0) : toQ (fun out => Rm t ph at_ e o K out) t ph at_ e o K b bp := ⟨fun _ _ k => k, fun x => absurd hb x⟩
theorem to_nil {t : Int → Int} {ph at_ e o b bp : Int} {K : List Int} (hb : b = 0) (hk : K = []) : toQ (fun out => Rm t ph at_ e o [] out) t ph at_ e o K b bp := by
  subst hk
  exact to_refl hb
theorem to_look {A : aOu → Prop} {t : Int → Int} {ph at_ e o b bp q : Int} {K : List Int} (h : toQ A t ph at_ e o K b bp) (e1 : q = skp t at_) (hi : skp t (skp t at_) = skp t at_) : toQ A t ph q e o K b bp := ⟨fun hb out k => h.1 hb out ((Rm_skip e1 (by rw [e1]; exact hi)).mp k), h.2⟩
theorem to_mks {A : aOu → Prop} {t : Int → Int} {ph at_ e o b bp : Int} {K K2 : List Int} (h : toQ A t ph at_ e o K b bp) (ek : K = K2) : toQ A t ph at_ e o K2 b bp := ek ▸ h
theorem to_at {A : aOu → Prop} {t : Int → Int} {ph at_ a2 e o b bp : Int} {K : List Int} (h : toQ A t ph at_ e o K b bp) (ea : a2 = at_) : toQ A t ph a2 e o K b bp := ea ▸ h
theorem to_keep {A : aOu → Prop} {t : Int → Int} {ph at_ e o b bp ph2 a2 e2 o2 : Int} {K K2 : List Int} (h : toQ A t ph at_ e o K b bp) (hb : ¬ b = 0) : toQ A t ph2 a2 e2 o2 K2 b bp := ⟨fun e => absurd e hb, h.2⟩
theorem to_then {A : aOu → Prop} {t : Int → Int} {ph at_ e o bad bp ph2 a2 e2 o2 bad2 bp2 : Int} {K K2 : List Int} (h : toQ A t ph at_ e o K bad bp) (hb : bad = 0) (h2 : toQ (fun out => Rm t ph at_ e o K out) t ph2 a2 e2 o2 K2 bad2 bp2) : toQ A t ph2 a2 e2 o2 K2 bad2 bp2 := ⟨fun b out k => h.1 hb out (h2.1 b out k), fun b => h.1 hb _ (h2.2 b)⟩
def dnQ (t : Int → Int) (w : Nat → Int32) (at_ e o n o2 n2 : Int) : Prop := ∀ out : aOu, Rm t 4 at_ e o2 (mks true w 0 n2) out → Rm t 4 at_ e o (mks true w 0 n) out
theorem dn_refl {t : Int → Int} {w : Nat → Int32} {a e o n : Int} : dnQ t w a e o n o n := fun _ k => k
theorem dn_step {t : Int → Int} {w : Nat → Int32} {a e o n o1 n1 o2 n2 : Int} (h : dnQ t w a e o n o1 n1) (h1 : 0 < n1) (hv : (w (n1 - 1).toNat).toInt = 16) (eo : o2 = o1 - 1) (en : n2 = n1 - 1) : dnQ t w a e o n o2 n2 := by
  intro out k
  apply h out
  rw [mks_pop (n2 := n2) (v := 16) (by decide) (by omega) (by omega) (by rw [en]; exact hv) (isMk_t (Or.inl rfl))]
  subst eo
  exact M4_not k
theorem to_dn {A : aOu → Prop} {t : Int → Int} {w : Nat → Int32} {a e o n o2 n2 b bp : Int} (h : toQ A t 4 a e o (mks true w 0 n) b bp) (d : dnQ t w a e o n o2 n2) : toQ A t 4 a e o2 (mks true w 0 n2) b bp := ⟨fun hb out k => h.1 hb out (d out k), h.2⟩
def tpQ (w : Nat → Int32) (n : Int) : Prop := n ≤ 0 ∨ ¬ (w (n - 1).toNat).toInt = 16
/-- a not that waits has a not or a square above it, or stands on top -/
def nIq (w : Nat → Int32) (n : Int) : Prop := ∀ k : Nat, (k : Int) + 1 < n → (w k).toInt = 16 → (w (k + 1)).toInt = 16 ∨ (w (k + 1)).toInt = 25
theorem nIq0 {w : Nat → Int32} {n : Int} (h : n ≤ 1) : nIq w n := fun k hk => absurd hk (by omega)
theorem nI_sub {w : Nat → Int32} {n m : Int} (h : nIq w n) (hm : m ≤ n) : nIq w m := fun k hk => h k (by omega)
theorem nI_same {w w2 : Nat → Int32} {n m b : Int} (h : nIq w n) (hf : pF w w2 b) (hb : n ≤ b) (hm : m ≤ n) : nIq w2 m := by
  intro k hk hv
  have e1 := hf k (by omega)
  have e2 := hf (k + 1) (by omega)
  rw [e1] at hv
  rw [e2]
  exact h k (by omega) hv
theorem nI_push {w w2 : Nat → Int32} {n m : Int} {x : Int32} (h : nIq w n) (h0 : 0 ≤ n) (e : w2 = upd w n.toNat x) (em : m = n + 1) (hx : (x.toInt = 16 ∨ x.toInt = 25) ∨ tpQ w n) : nIq w2 m := by
  intro k hk hv
  subst e
  rw [u_ne (show ¬ k = n.toNat by omega)] at hv
  by_cases q : (k : Int) + 1 < n
  · rw [u_ne (show ¬ k + 1 = n.toNat by omega)]
    exact h k q hv
  · rw [u_eq (show k + 1 = n.toNat by omega)]
    rcases hx with hx | hx
    · exact hx
    · rcases hx with hx | hx
      · exact absurd hx (by omega)
      · rw [show (n - 1).toNat = k by omega] at hx
        exact absurd hv hx
theorem nI_op {w w2 : Nat → Int32} {o b bp o2 b2 bp2 pl n n2 : Int} {x : Int32} (h : nIq w n) (ox : opX o b bp o2 b2 bp2 pl w w2 n n2 x) (h0 : 0 ≤ n) (hx : x.toInt = 16 ∨ x.toInt = 25) : nIq w2 n2 := by
  rcases ox with ⟨_, _, _, _, e, e2⟩ | ⟨_, _, _, _, e, e2⟩
  · rw [e, e2]; exact h
  · exact nI_push h h0 e e2 (Or.inl hx)
theorem tp_drop {w : Nat → Int32} {n m : Int} (h : nIq w n) (hv : ¬ ((w (n - 1).toNat).toInt = 16 ∨ (w (n - 1).toNat).toInt = 25)) (hn : 0 < n) (em : m = n - 1) : tpQ w m := by
  by_cases q : m ≤ 0
  · exact Or.inl q
  · refine Or.inr (fun x => hv ?_)
    have k := h (m - 1).toNat (by omega) x
    rw [show (m - 1).toNat + 1 = (n - 1).toNat by omega] at k
    exact k
theorem mkT {w : Nat → Int32} : ∀ (k : Nat) (n : Int), n = (k : Int) → nIq w n → tpQ w n → (mks true w 0 n = [] ∧ noSq w n) ∨ (hd9 (mks true w 0 n) = 25 ∧ hasQ w n)
  | 0, n, e, h, tp => Or.inl ⟨mks_nil (by omega), fun k hk => absurd hk (by omega)⟩
  | k + 1, n, e, h, tp => by
    by_cases h25 : (w (n - 1).toNat).toInt = 25
    · refine Or.inr ⟨?_, (n - 1).toNat, by omega, h25⟩
      rw [mks_pop (n2 := n - 1) (v := 25) (by decide) (by omega) (by omega) h25 (isMk_t (Or.inr rfl))]
      rfl
    · have h16 : ¬ (w (n - 1).toNat).toInt = 16 := by
        rcases tp with q | q
        · exact absurd q (by omega)
        · exact q
      have tp2 : tpQ w (n - 1) := tp_drop h (by omega) (by omega) rfl
      rw [mks_drop (n2 := n - 1) (v := (w (n - 1).toNat).toInt) (by decide) (by omega) (by omega) rfl (noMk_t (by omega))]
      rcases mkT k (n - 1) (by omega) (nI_sub h (by omega)) tp2 with ⟨a, b⟩ | ⟨a, j, b, c⟩
      · refine Or.inl ⟨a, fun j hj => ?_⟩
        by_cases q : (j : Int) < n - 1
        · exact b j q
        · rw [show j = (n - 1).toNat by omega]
          exact h25
      · exact Or.inr ⟨a, j, by omega, c⟩
theorem hd_n16 {w : Nat → Int32} {n : Int} (h : nIq w n) (tp : tpQ w n) (h0 : 0 ≤ n) : ¬ hd9 (mks true w 0 n) = 16 := by
  rcases mkT n.toNat n (by omega) h tp with ⟨a, _⟩ | ⟨a, _⟩
  · rw [a]
    exact hd_nil
  · rw [a]
    decide
theorem hd_nosq {w : Nat → Int32} {n : Int} (h : nIq w n) (tp : tpQ w n) (h0 : 0 ≤ n) (hs : noSq w n) : mks true w 0 n = [] := by
  rcases mkT n.toNat n (by omega) h tp with ⟨a, _⟩ | ⟨_, j, b, c⟩
  · exact a
  · exact absurd c (hs j b)
theorem hd_sq {w : Nat → Int32} {n : Int} (h : nIq w n) (tp : tpQ w n) (h0 : 0 ≤ n) (hs : hasQ w n) : ∃ K : List Int, mks true w 0 n = 25 :: K := by
  rcases mkT n.toNat n (by omega) h tp with ⟨_, b⟩ | ⟨a, _⟩
  · obtain ⟨j, c, d⟩ := hs
    exact absurd d (b j c)
  · cases e : mks true w 0 n with
    | nil => rw [e] at a; exact absurd (show (99 : Int) = 25 from a) (by decide)
    | cons v K =>
      rw [e] at a
      have a : v = 25 := a
      exact ⟨K, by rw [a]⟩
theorem to_sqC {A : aOu → Prop} {t : Int → Int} {w : Nat → Int32} {a0 q e o n b bp a2 o2 n2 : Int} (h : toQ A t 4 a0 e o (mks true w 0 n) b bp) (hb : b = 0) (eq : q = a0) (hi : skp t q = q) (he : e ≤ q) (hc : t q = 93) (hv : 0 < n ∧ (w (n - 1).toNat).toInt = 25) (ea : a2 = q + 1) (eo : o2 = o - 1) (en : n2 = n - 1) : toQ A t 4 a2 e o2 (mks true w 0 n2) b bp := by
  subst eq
  subst eo
  refine ⟨fun _ out k => h.1 hb out ?_, fun x => absurd hb x⟩
  rw [mks_pop (n2 := n2) (v := 25) (by decide) (by omega) (by omega) (by rw [en]; exact hv.2) (isMk_t (Or.inr rfl))]
  exact M4_sq hi.symm he hc ea k
theorem to_and {A : aOu → Prop} {t : Int → Int} {a e o b bp a2 e2 r : Int} {K : List Int} (h : toQ A t 4 a e o K b bp) (hb : b = 0) (tk : tkM t a e wAnd a2 e2 r) (hr : ¬ r = 0) (hk : ¬ hd9 K = 16) : toQ A t 3 a2 e2 o K b bp := by
  obtain ⟨x, y, z⟩ := tk.1 hr
  rw [show ((wAnd.length : Nat) : Int) = 3 from rfl] at y
  subst z
  exact ⟨fun _ out k => h.1 hb out (M4_and rfl x hk y k), fun x => absurd hb x⟩
theorem to_or {A : aOu → Prop} {t : Int → Int} {a e o b bp a2 e2 r : Int} {K : List Int} (h : toQ A t 4 a e o K b bp) (hb : b = 0) (tk : tkM t a e wOr a2 e2 r) (hr : ¬ r = 0) (hk : ¬ hd9 K = 16) : toQ A t 3 a2 e2 o K b bp := by
  obtain ⟨x, y, z⟩ := tk.1 hr
  rw [show ((wOr.length : Nat) : Int) = 2 from rfl] at y
  subst z
  exact ⟨fun _ out k => h.1 hb out (M4_or rfl x hk y k), fun x => absurd hb x⟩
theorem to_tkno {A : aOu → Prop} {t : Int → Int} {ph at_ e o b bp a2 e2 r : Int} {K w : List Int} (h : toQ A t ph at_ e o K b bp) (tk : tkM t at_ e w a2 e2 r) (hr : r = 0) (hi : skp t (skp t at_) = skp t at_) : toQ A t ph a2 e2 o K b bp := by
  obtain ⟨_, y, z⟩ := tk.2 hr
  subst z
  exact to_look h y hi
def edQ (t : Int → Int) (at_ e : Int) (K : List Int) : Prop := K = [] ∧ ¬ wd t (skp t at_) (sgn t (skp t at_) e) wAnd ∧ ¬ wd t (skp t at_) (sgn t (skp t at_) e) wOr
theorem to_sqF {A : aOu → Prop} {t : Int → Int} {a e o b bp q b2 bp2 ph a2 e2 o2 : Int} {K K2 : List Int} (h : toQ A t 4 a e o K b bp) (hb : b = 0) (hk : ∃ K1 : List Int, K = 25 :: K1) (hi : skp t a = q) (hc : ¬ t q = 93) (h1 : ¬ wd t q (sgn t q e) wAnd) (h2 : ¬ wd t q (sgn t q e) wOr) (hb2 : b2 = 1) (hp : bp2 = q) : toQ A t ph a2 e2 o2 K2 b2 bp2 := by
  obtain ⟨K1, hk⟩ := hk
  subst hk
  subst hb2
  subst hp
  exact ⟨fun x => absurd x (by decide), fun _ => h.1 hb _ (M4_sqF hi.symm hc h1 h2)⟩
/-- a square opens -/
theorem to_sqO {A : aOu → Prop} {t : Int → Int} {at_ e o b bp q c a2 o2 b2 bp2 pl n n2 : Int} {w w2 : Nat → Int32} {x : Int32} (h : toQ A t 3 at_ e o (mks true w 0 n) b bp) (hb : b = 0) (e1 : q = skp t at_) (he : e ≤ q) (e2 : c = t q) (hc : c = 91) (ox : opX o b bp o2 b2 bp2 pl w w2 n n2 x) (hp : pl = q) (hx : x.toInt = 25) (ha : a2 = q + 1) (hn : 0 ≤ n) : toQ A t 3 a2 e o2 (mks true w2 0 n2) b2 bp2 := by
  have hc' : t q = 91 := by omega
  rcases ox with ⟨o6, eb, ep, _, _, _⟩ | ⟨o6, eo, eb, _, ew, en⟩
  · subst eb
    refine ⟨fun z => absurd z (by decide), fun _ => ?_⟩
    rw [ep, hp]
    exact h.1 hb _ (M3_sqF e1 hc' o6)
  · subst ew
    subst eo
    rw [mks_push (v := 25) (by decide) hn en hx (isMk_t (Or.inr rfl))]
    exact ⟨fun _ out k => h.1 hb out (M3_sq e1 he hc' o6 ha k), fun z => absurd (eb.trans hb) z⟩
/-- a not -/
theorem to_notO {A : aOu → Prop} {t : Int → Int} {at_ e o b bp a2 e2 o2 b1 bp1 b2 bp2 pl n n2 r : Int} {w w2 : Nat → Int32} {x : Int32} (h : toQ A t 3 at_ e o (mks true w 0 n) b bp) (hb : b = 0) (hi : skp t at_ = at_) (wa : waQ t at_ (sgn t at_ e) wNot r) (hr : ¬ r = 0) (ox : opX o b bp o2 b1 bp1 pl w w2 n n2 x) (hp : pl = at_) (hx : x.toInt = 16) (hn : 0 ≤ n) (ak : akM t at_ e b1 bp1 wNot a2 e2 b2 bp2) : toQ A t 3 a2 e2 o2 (mks true w2 0 n2) b2 bp2 := by
  have hw := wa.1 hr
  rcases ox with ⟨o6, eb, ep, _, _, _⟩ | ⟨o6, eo, eb, _, ew, en⟩
  · obtain ⟨_, _, eb2, ep2⟩ := ak.1 (by omega)
    refine ⟨fun z => absurd z (by omega), fun _ => ?_⟩
    rw [eb2, ep2, eb, ep, hp]
    exact h.1 hb _ (M3_notF hi.symm hw o6)
  · obtain ⟨g1, g2⟩ := ak.2 (by omega)
    have hw2 : wd t (skp t at_) (sgn t (skp t at_) e) wNot := by rw [hi]; exact hw
    have b20 : b2 = 0 := by
      by_cases z : b2 = 0
      · exact z
      · exact absurd hw2 (g2 z).1
    obtain ⟨_, ea, ee⟩ := g1 b20
    rw [show ((wNot.length : Nat) : Int) = 3 from rfl, hi] at ea
    subst ee
    subst ew
    subst eo
    rw [mks_push (v := 16) (by decide) hn en hx (isMk_t (Or.inl rfl))]
    exact ⟨fun _ out k => h.1 hb out (M3_not hi.symm hw o6 ea k), fun z => absurd b20 z⟩
theorem to_fact {A : aOu → Prop} {t : Int → Int} {a e o a2 e2 o2 b bp b2 bp2 : Int} {K : List Int} (h : toQ A t 3 a e o K b bp) (hb : b = 0) (f : faQ t a e o a2 e2 o2 b2 bp2) : toQ A t 4 a2 e2 o2 K b2 bp2 := ⟨fun hb2 out k => h.1 hb out (f.1 hb2 K out k), fun hb2 => h.1 hb _ (f.2 hb2 K)⟩
theorem to_mksB {A : aOu → Prop} {t : Int → Int} {ph at_ e o b bp : Int} {K K2 : List Int} (h : toQ A t ph at_ e o K b bp) (ek : b = 0 → K = K2) : toQ A t ph at_ e o K2 b bp := by
  by_cases hb : b = 0
  · exact to_mks h (ek hb)
  · exact to_keep h hb
theorem mks_pF {g : Bool} {w w2 : Nat → Int32} {n n2 b : Int} (hf : pF w w2 b) (hb : n ≤ b) (en : n2 = n) : mks g w 0 n = mks g w2 0 n2 := by
  rw [en]
  exact (mks_same (by decide) (fun j _ c => hf j (by omega))).symm
def teQ (A : aOu → Prop) (t : Int → Int) (m at_ e o : Int) (K : List Int) (b bp : Int) : Prop := (¬ m = 0 → toQ A t 3 at_ e o K b bp) ∧ (m = 0 → toQ A t 4 at_ e o K b bp ∧ (b = 0 → edQ t at_ e K))
def tM (t : Int → Int) (at_ e o a2 e2 b bp : Int) : Prop := (b = 0 → Rm t 3 at_ e o [] (0, 0, skp t a2, sgn t (skp t a2) e2)) ∧ (¬ b = 0 → Rm t 3 at_ e o [] (b, bp, 0, 0))
theorem te_end {t : Int → Int} {at_ e o m a2 e2 o2 b bp : Int} {K : List Int} (h : teQ (fun out => Rm t 3 at_ e o [] out) t m a2 e2 o2 K b bp) (hx : m = 0 ∨ ¬ b = 0) : tM t at_ e o a2 e2 b bp := by
  refine ⟨fun hb => ?_, fun hb => ?_⟩
  · obtain ⟨x, y⟩ := h.2 (by omega)
    obtain ⟨k, n1, n2⟩ := y hb
    subst k
    exact x.1 hb _ (M4_end rfl n1 n2)
  · by_cases hm : m = 0
    · exact (h.2 hm).1.2 hb
    · exact (h.1 hm).2 hb
/-! a rule -/
def ruM (t : Int → Int) (at_ e a2 e2 b bp : Int) : Prop := (b = 0 → Rm t 1 at_ e 0 [30] (0, 0, skp t a2, sgn t (skp t a2) e2)) ∧ (¬ b = 0 → Rm t 1 at_ e 0 [30] (b, bp, 0, 0))
theorem ruM_Fs {t : Int → Int} {at_ e o a1 e1 o1 b1 bp1 w a2 e2 a3 e3 b2 bp2 : Int} (s : suQ t at_ e o a1 e1 o1 b1 bp1) (ho : o = 0) (ak : akM t a1 e1 b1 bp1 wWhen a2 e2 b2 bp2) (hb : ¬ b1 = 0) : ruM t at_ e a3 e3 b2 bp2 := by
  subst ho
  obtain ⟨_, _, x, y⟩ := ak.1 hb
  subst x
  subst y
  exact ⟨fun z => absurd z hb, fun _ => s.1.2 hb [30]⟩
theorem ruM_Fw {t : Int → Int} {at_ e o a1 e1 o1 b1 bp1 a2 e2 a3 e3 b2 bp2 : Int} (s : suQ t at_ e o a1 e1 o1 b1 bp1) (ho : o = 0) (ak : akM t a1 e1 b1 bp1 wWhen a2 e2 b2 bp2) (hb : ¬ b2 = 0) : ruM t at_ e a3 e3 b2 bp2 := by
  by_cases h1 : b1 = 0
  · subst ho
    obtain ⟨x, y, z⟩ := (ak.2 h1).2 hb
    subst y
    subst z
    exact ⟨fun z => absurd z hb, fun _ => s.1.1 h1 [30] _ (M2_whenF rfl x (by rw [(s.2 h1).1]; exact (s.2 h1).2))⟩
  · exact ruM_Fs s ho ak h1 (w := 0)
theorem ruM_yes {t : Int → Int} {at_ e o a1 e1 o1 b1 bp1 a2 e2 o3 a3 e3 b2 bp2 b bp : Int} (s : suQ t at_ e o a1 e1 o1 b1 bp1) (ho : o = 0) (ak : akM t a1 e1 b1 bp1 wWhen a2 e2 b2 bp2) (hb2 : b2 = 0) (hb1 : b1 = 0) (ho3 : o3 = 0) (h : tM t a2 e2 o3 a3 e3 b bp) : ruM t at_ e a3 e3 b bp := by
  subst ho
  subst ho3
  obtain ⟨x, y, z⟩ := (ak.2 hb1).1 hb2
  rw [show ((wWhen.length : Nat) : Int) = 4 from rfl] at y
  subst z
  exact ⟨fun hb => s.1.1 hb1 [30] _ (M2_when rfl x y (h.1 hb)), fun hb => s.1.1 hb1 [30] _ (M2_when rfl x y (h.2 hb))⟩
/-! numbers with a sign, rows, statements, the house, as the reference reads them -/
theorem nb_bt {t : Int → Int} {at_ e b bp lo hi a2 e2 b2 bp2 r : Int} (h : nbM t at_ e b bp lo hi a2 e2 b2 bp2 r) (hb : b = 0) : (b2 = 0 → btF t (skp t at_) (sgn t (skp t at_) e) lo hi = (0, 0, r, skp t a2, sgn t (skp t a2) e2)) ∧ (¬ b2 = 0 → btF t (skp t at_) (sgn t (skp t at_) e) lo hi = (b2, bp2, 0, 0, 0)) := by
  obtain ⟨g1, g2⟩ := h.2 hb
  refine ⟨fun z => ?_, fun z => ?_⟩
  · obtain ⟨x1, x2, x3, x4, x5, x6, x7⟩ := g1 z
    have e1 : nuF t (skp t at_) (sgn t (skp t at_) e) = (0, 0, r, skp t a2, sgn t (skp t a2) e2) := by
      unfold nuF
      rw [ci_pos x1, ci_neg (by omega), ← x3, x7, x6]
    unfold btF
    rw [e1, ci_neg (fun q => q.2 ⟨x4, x5⟩)]
  · rcases g2 z with ⟨y1, y2⟩ | ⟨y1, y2, y3, y4, y5⟩
    · have e1 : nuF t (skp t at_) (sgn t (skp t at_) e) = (b2, bp2, 0, 0, 0) := by
        rcases y2 with ⟨k1, k2⟩ | ⟨k1, k2, k3⟩
        · unfold nuF
          rw [ci_neg k1, y1, k2]
        · unfold nuF
          rw [ci_pos k1, ci_pos k2, y1, k3]
      unfold btF
      rw [e1, ci_neg (fun q => z q.1)]
    · have e1 : (nuF t (skp t at_) (sgn t (skp t at_) e)).1 = 0 ∧ (nuF t (skp t at_) (sgn t (skp t at_) e)).2.2.1 = nvn t (skp t at_) := by
        unfold nuF
        rw [ci_pos y3, ci_neg (by omega)]
        exact ⟨rfl, rfl⟩
      unfold btF
      rw [ci_pos ⟨e1.1, by rw [e1.2]; exact y5⟩, y1, y2]
theorem nb_nu {t : Int → Int} {at_ e b bp lo hi a2 e2 b2 bp2 r : Int} (h : nbM t at_ e b bp lo hi a2 e2 b2 bp2 r) (hb : b = 0) (hl : lo = 0) (hh : hi = 9999) : (b2 = 0 → nuF t (skp t at_) (sgn t (skp t at_) e) = (0, 0, r, skp t a2, sgn t (skp t a2) e2)) ∧ (¬ b2 = 0 → nuF t (skp t at_) (sgn t (skp t at_) e) = (b2, bp2, 0, 0, 0)) := by
  obtain ⟨g1, g2⟩ := h.2 hb
  refine ⟨fun z => ?_, fun z => ?_⟩
  · obtain ⟨x1, x2, x3, x4, x5, x6, x7⟩ := g1 z
    unfold nuF
    rw [ci_pos x1, ci_neg (by omega), ← x3, x7, x6]
  · rcases g2 z with ⟨y1, y2⟩ | ⟨y1, y2, y3, y4, y5⟩
    · rcases y2 with ⟨k1, k2⟩ | ⟨k1, k2, k3⟩
      · unfold nuF
        rw [ci_neg k1, y1, k2]
      · unfold nuF
        rw [ci_pos k1, ci_pos k2, y1, k3]
    · have := nvn_rng y4
      exact absurd (by omega) y5
theorem sdn {t : Int → Int} {at_ q e b bp lo hi a1 a2 e2 b2 bp2 r r' : Int} (hm : (t q = 45 ∧ a1 = q + 1 ∧ r' = -r) ∨ (¬ t q = 45 ∧ a1 = q ∧ r' = r)) (hq : q = skp t at_) (hi' : skp t q = q) (he : e ≤ q) (nb : nbM t a1 e b bp lo hi a2 e2 b2 bp2 r) (hb : b = 0) (hl : lo = 0) (hh : hi = 9999) : (b2 = 0 → sdF t (skp t at_) (sgn t (skp t at_) e) = (0, 0, r', skp t a2, sgn t (skp t a2) e2)) ∧ (¬ b2 = 0 → sdF t (skp t at_) (sgn t (skp t at_) e) = (b2, bp2, 0, 0, 0)) := by
  have n := nb_nu nb hb hl hh
  rw [← hq]
  rcases hm with ⟨h1, h2, h3⟩ | ⟨h1, h2, h3⟩
  · subst h2
    subst h3
    have f : sgn t (skp t (q + 1)) e = t (skp t (q + 1)) := sgn_far (by have := skp_ge (t := t) (p := q + 1); omega)
    rw [f] at n
    have s : sgn t q e = 45 := sgn_c h1 (by decide)
    unfold sdF
    rw [ci_pos s]
    refine ⟨fun z => ?_, fun z => ?_⟩
    · rw [n.1 z]
    · rw [n.2 z]
      rfl
  · subst h2
    subst h3
    rw [hi'] at n
    unfold sdF
    rw [ci_neg (sgn_nc h1 (by decide))]
    exact n
def okG (mo st v : Int) : Prop := -mo ≤ v ∧ v ≤ mo ∧ (st = 2 → (v + mo) % 2 = 0)
def sdM (t : Int → Int) (at_ e b bp mo st a2 e2 b2 bp2 r : Int) : Prop := (¬ b = 0 → a2 = at_ ∧ e2 = e ∧ b2 = b ∧ bp2 = bp) ∧ (b = 0 → (b2 = 0 → sdF t (skp t at_) (sgn t (skp t at_) e) = (0, 0, r, skp t a2, sgn t (skp t a2) e2) ∧ okG mo st r) ∧ (¬ b2 = 0 → sdF t (skp t at_) (sgn t (skp t at_) e) = (b2, bp2, 0, 0, 0) ∨ (b2 = 2 ∧ bp2 = skp t at_ ∧ ∃ v x y : Int, sdF t (skp t at_) (sgn t (skp t at_) e) = (0, 0, v, x, y) ∧ ¬ okG mo st v)))
theorem sdM_no {t : Int → Int} {at_ e b bp mo st a2 e2 b2 bp2 r : Int} (h : ¬ b = 0) (h2 : a2 = at_ ∧ e2 = e ∧ b2 = b ∧ bp2 = bp) : sdM t at_ e b bp mo st a2 e2 b2 bp2 r := ⟨fun _ => h2, fun x => absurd x h⟩
theorem sdM_F {t : Int → Int} {at_ e b bp mo st a2 e2 b2 bp2 r : Int} (hb : b = 0) (h : ¬ b2 = 0 → sdF t (skp t at_) (sgn t (skp t at_) e) = (b2, bp2, 0, 0, 0)) (h2 : ¬ b2 = 0) : sdM t at_ e b bp mo st a2 e2 b2 bp2 r := ⟨fun x => absurd hb x, fun _ => ⟨fun x => absurd x h2, fun _ => Or.inl (h h2)⟩⟩
theorem sdM_yes {t : Int → Int} {at_ e b bp mo st a2 e2 b2 bp2 r : Int} (hb : b = 0) (h : b2 = 0 → sdF t (skp t at_) (sgn t (skp t at_) e) = (0, 0, r, skp t a2, sgn t (skp t a2) e2)) (h2 : b2 = 0) (ok : okG mo st r) : sdM t at_ e b bp mo st a2 e2 b2 bp2 r := ⟨fun x => absurd hb x, fun _ => ⟨fun _ => ⟨h h2, ok⟩, fun x => absurd h2 x⟩⟩
theorem sdM_out {t : Int → Int} {at_ q e b bp mo st a1 e1 b1 a2 e2 b2 bp2 r v : Int} (hb : b = 0) (h : b1 = 0 → sdF t (skp t at_) (sgn t (skp t at_) e) = (0, 0, v, skp t a1, sgn t (skp t a1) e1)) (h1 : b1 = 0) (no : ¬ okG mo st v) (h2 : b2 = 2) (hq : q = skp t at_) (hp : bp2 = q) : sdM t at_ e b bp mo st a2 e2 b2 bp2 r := ⟨fun x => absurd hb x, fun _ => ⟨fun x => absurd x (by omega), fun _ => Or.inr ⟨h2, hp.trans hq, v, _, _, h h1, no⟩⟩⟩
/-- so far of a row: what is left of it, or what is wrong -/
def rwM (t : Int → Int) (ok : Int → Prop) (x : sR) (n at_ e b bp : Int) : Prop := (b = 0 → x = rwF t ok n.toNat (skp t at_) (sgn t (skp t at_) e)) ∧ (¬ b = 0 → x = (b, bp, 0, 0, 0))
theorem rwM_0 {t : Int → Int} {ok : Int → Prop} {n n2 at_ e b bp : Int} (hb : b = 0) (hn : n2 = n) : rwM t ok (rwF t ok n.toNat (skp t at_) (sgn t (skp t at_) e)) n2 at_ e b bp := ⟨fun _ => by rw [hn], fun x => absurd hb x⟩
theorem rwM_step {t : Int → Int} {ok : Int → Prop} {x : sR} {n n2 at_ e b bp mo st a2 e2 b2 bp2 r : Int} (h : rwM t ok x n at_ e b bp) (hn : 1 ≤ n) (s : sdM t at_ e b bp mo st a2 e2 b2 bp2 r) (hk : ∀ v : Int, okG mo st v ↔ ok v) (en : n2 = n - 1) : rwM t ok x n2 a2 e2 b2 bp2 := by
  have e0 : n.toNat = n2.toNat + 1 := by omega
  by_cases hb : b = 0
  · obtain ⟨g1, g2⟩ := s.2 hb
    have hx := h.1 hb
    rw [e0] at hx
    refine ⟨fun z => ?_, fun z => ?_⟩
    · obtain ⟨a, c⟩ := g1 z
      rw [hx]
      show ci _ _ _ = _
      rw [a, ci_pos rfl, ci_pos ((hk r).mp c)]
    · rw [hx]
      show ci _ _ _ = _
      rcases g2 z with a | ⟨a, c, v, x1, x2, d, f⟩
      · rw [a, ci_neg z]
      · rw [d, ci_pos rfl, ci_neg (fun q => f ((hk v).mpr q)), a, c]
  · obtain ⟨a, c, d, f⟩ := s.1 hb
    subst d
    subst f
    exact ⟨fun z => absurd z hb, h.2⟩
def boM (x : sR) (t : Int → Int) (at_ e b bp : Int) : Prop := (b = 0 → x = (0, 0, 0, skp t at_, sgn t (skp t at_) e)) ∧ (¬ b = 0 → x = (b, bp, 0, 0, 0))
theorem rwM_end {t : Int → Int} {ok : Int → Prop} {x : sR} {n at_ e b bp : Int} (h : rwM t ok x n at_ e b bp) (hn : n ≤ 0) : boM x t at_ e b bp := ⟨fun z => by rw [h.1 z, show n.toNat = 0 by omega]; rfl, h.2⟩
theorem okG_R {mo st : Int} (h1 : mo = 99) (h2 : st = 1) : ∀ v : Int, okG mo st v ↔ okR v := by
  intro v
  unfold okG okR
  constructor
  · intro h
    omega
  · intro h
    exact ⟨by omega, by omega, fun q => absurd q (by omega)⟩
theorem okG_L {L mo st : Int} (h1 : mo = L - 1) (h2 : st = 2) : ∀ v : Int, okG mo st v ↔ okL L v := by
  intro v
  unfold okG okL
  constructor
  · intro h
    have := h.2.2 h2
    omega
  · intro h
    exact ⟨by omega, by omega, fun _ => by omega⟩
/-! a statement -/
def stM (x : sS) (t : Int → Int) (at_ e rt wt rc b bp : Int) : Prop := (b = 0 → x = (0, 0, skp t at_, sgn t (skp t at_) e, rt, wt, rc)) ∧ (¬ b = 0 → x = (b, bp, 0, 0, 0, 0, 0))
theorem stM_bo {x : sR} {y : sS} {t : Int → Int} {at_ e rt wt rc rt2 wt2 rc2 b bp : Int} (h : boM x t at_ e b bp) (ey : y = stR x rt wt rc) (e1 : b = 0 → rt2 = rt ∧ wt2 = wt ∧ rc2 = rc) : stM y t at_ e rt2 wt2 rc2 b bp := by
  refine ⟨fun z => ?_, fun z => ?_⟩
  · obtain ⟨a, c, d⟩ := e1 z
    rw [ey, h.1 z, a, c, d]
    exact ci_pos rfl
  · rw [ey, h.2 z]
    exact ci_neg z
theorem stM_no {y : sS} {t : Int → Int} {k at_ e rt wt rc b bp q : Int} (ey : y = (k, q, 0, 0, 0, 0, 0)) (hk : ¬ k = 0) (hb : b = k) (hp : bp = q) : stM y t at_ e rt wt rc b bp := by
  subst hb
  subst hp
  exact ⟨fun z => absurd z hk, fun _ => ey⟩
theorem tk_to {t : Int → Int} {q e a1 e1 r n : Int} {w : List Int} (h : tkM t q e w a1 e1 r) (hr : ¬ r = 0) (hi : skp t q = q) (hn : (w.length : Int) = n) : wd t q (sgn t q e) w ∧ a1 = q + n ∧ e1 = q + n := by
  obtain ⟨a, b, c⟩ := h.1 hr
  rw [hi] at a b
  rw [hn] at b
  exact ⟨a, b, c.trans b⟩
theorem tk_nw {t : Int → Int} {q e a1 e1 r : Int} {w : List Int} (h : tkM t q e w a1 e1 r) (hr : r = 0) (hi : skp t q = q) : ¬ wd t q (sgn t q e) w ∧ a1 = q ∧ e1 = e := by
  obtain ⟨a, b, c⟩ := h.2 hr
  rw [hi] at a b
  exact ⟨a, b, c⟩
theorem stM_row {t : Int → Int} {L S R rt wt rc q e a1 e1 r a2 e2 b bp rt2 wt2 rc2 : Int} (h : tkM t q e wRow a1 e1 r) (hr : ¬ r = 0) (hi : skp t q = q) (hc : rt < R) (o : boM (rwF t okR S.toNat (skp t a1) (sgn t (skp t a1) e1)) t a2 e2 b bp) (ee : b = 0 → rt2 = rt + 1 ∧ wt2 = wt ∧ rc2 = rc) : stM (stF t L S R rt wt rc q (sgn t q e)) t a2 e2 rt2 wt2 rc2 b bp := by
  obtain ⟨x, y, z⟩ := tk_to h hr hi (n := 3) rfl
  subst y
  subst z
  exact stM_bo o (st_row x hc) ee
theorem stM_row4 {t : Int → Int} {L S R rt wt rc q e a1 e1 r a2 e2 b bp rt2 wt2 rc2 : Int} (h : tkM t q e wRow a1 e1 r) (hr : ¬ r = 0) (hi : skp t q = q) (hc : ¬ rt < R) (hb : b = 4) (hp : bp = q) : stM (stF t L S R rt wt rc q (sgn t q e)) t a2 e2 rt2 wt2 rc2 b bp :=
  stM_no (st_rowF (tk_to h hr hi rfl).1 hc) (by decide) hb hp
theorem stM_word {t : Int → Int} {L S R rt wt rc q q1 e e0 a1 e1 r a2 e2 b bp rt2 wt2 rc2 : Int} (n0 : ¬ wd t q (sgn t q e) wRow ∧ q1 = q ∧ e0 = e) (h : tkM t q1 e0 wWord a1 e1 r) (hr : ¬ r = 0) (hi : skp t q = q) (hc : wt < 16) (o : boM (rwF t (okL L) S.toNat (skp t a1) (sgn t (skp t a1) e1)) t a2 e2 b bp) (ee : b = 0 → rt2 = rt ∧ wt2 = wt + 1 ∧ rc2 = rc) : stM (stF t L S R rt wt rc q (sgn t q e)) t a2 e2 rt2 wt2 rc2 b bp := by
  obtain ⟨n0, z1, z2⟩ := n0
  subst z1
  subst z2
  obtain ⟨x, y, z⟩ := tk_to h hr hi (n := 4) rfl
  subst y
  subst z
  exact stM_bo o (st_word n0 x hc) ee
theorem stM_word4 {t : Int → Int} {L S R rt wt rc q q1 e e0 a1 e1 r a2 e2 b bp rt2 wt2 rc2 : Int} (n0 : ¬ wd t q (sgn t q e) wRow ∧ q1 = q ∧ e0 = e) (h : tkM t q1 e0 wWord a1 e1 r) (hr : ¬ r = 0) (hi : skp t q = q) (hc : ¬ wt < 16) (hb : b = 4) (hp : bp = q) : stM (stF t L S R rt wt rc q (sgn t q e)) t a2 e2 rt2 wt2 rc2 b bp := by
  obtain ⟨n0, z1, z2⟩ := n0
  subst z1
  subst z2
  exact stM_no (st_wordF n0 (tk_to h hr hi rfl).1 hc) (by decide) hb hp
/-- behind two or three words that don't stand here -/
theorem nn_2 {t : Int → Int} {q q1 q2 e e0 e1 r : Int} {w w2 : List Int} (n0 : ¬ wd t q (sgn t q e) w ∧ q1 = q ∧ e0 = e) (h : tkM t q1 e0 w2 q2 e1 r) (hr : r = 0) (hi : skp t q = q) : ¬ wd t q (sgn t q e) w2 ∧ q2 = q ∧ e1 = e := by
  obtain ⟨_, z1, z2⟩ := n0
  subst z1
  subst z2
  exact tk_nw h hr hi
theorem stM_limit {t : Int → Int} {L S R rt wt rc q q2 e e2 a1 e1 r a3 e3 b1 bp1 b bp lo hi v rt2 wt2 rc2 : Int} (n0 : ¬ wd t q (sgn t q e) wRow) (n1 : ¬ wd t q (sgn t q e) wWord ∧ q2 = q ∧ e2 = e) (h : tkM t q2 e2 wLimit a1 e1 r) (hr : ¬ r = 0) (hi' : skp t q = q) (nb : nbM t a1 e1 b1 bp1 lo hi a3 e3 b bp v) (hb1 : b1 = 0) (hl : lo = 0) (hh : hi = 9999) (ee : b = 0 → rt2 = rt ∧ wt2 = wt ∧ rc2 = rc) : stM (stF t L S R rt wt rc q (sgn t q e)) t a3 e3 rt2 wt2 rc2 b bp := by
  obtain ⟨n1, z1, z2⟩ := n1
  subst z1
  subst z2
  subst hl
  subst hh
  obtain ⟨x, y, z⟩ := tk_to h hr hi' (n := 5) rfl
  subst y
  subst z
  have n2 : ¬ wd t q2 (sgn t q2 e2) wWorth := fun k => by
    have k1 := wd_0 k
    have k2 := wd_0 x
    omega
  have g := nb_bt nb hb1
  have o : boM (limF t (skp t (q2 + 5)) (sgn t (skp t (q2 + 5)) (q2 + 5))) t a3 e3 b bp := by
    refine ⟨fun z => ?_, fun z => ?_⟩
    · unfold limF
      rw [g.1 z]
    · unfold limF
      rw [g.2 z]
  exact stM_bo o (st_limit n0 n1 n2 x) ee
theorem stM_none {t : Int → Int} {L S R rt wt rc q q3 e e3 a1 e1 b1 bp1 a2 e2 b bp rt2 wt2 rc2 : Int} (n0 : ¬ wd t q (sgn t q e) wRow) (n1 : ¬ wd t q (sgn t q e) wWord) (n2 : ¬ wd t q (sgn t q e) wLimit ∧ q3 = q ∧ e3 = e) (h : akM t q3 e3 b1 bp1 wWorth a1 e1 b bp) (hb1 : b1 = 0) (hi : skp t q = q) (hb : ¬ b = 0) : stM (stF t L S R rt wt rc q (sgn t q e)) t a2 e2 rt2 wt2 rc2 b bp := by
  obtain ⟨n2, z1, z2⟩ := n2
  subst z1
  subst z2
  obtain ⟨x, y, z⟩ := (h.2 hb1).2 hb
  rw [hi] at x z
  exact stM_no (st_none n0 n1 x n2) (by decide) y z
theorem stM_worth {t : Int → Int} {L S R rt wt rc q q3 e e3 a1 e1 b1 bp1 b2 bp2 a2 e2 b bp rt2 wt2 rc2 : Int} (n0 : ¬ wd t q (sgn t q e) wRow) (n1 : ¬ wd t q (sgn t q e) wWord) (n2 : ¬ wd t q (sgn t q e) wLimit ∧ q3 = q ∧ e3 = e) (h : akM t q3 e3 b1 bp1 wWorth a1 e1 b2 bp2) (hb1 : b1 = 0) (hb2 : b2 = 0) (hi : skp t q = q) (hc : rc < 8) (o : ruM t a1 e1 a2 e2 b bp) (ee : b = 0 → rt2 = rt ∧ wt2 = wt ∧ rc2 = rc + 1) : stM (stF t L S R rt wt rc q (sgn t q e)) t a2 e2 rt2 wt2 rc2 b bp := by
  obtain ⟨n2, z1, z2⟩ := n2
  subst z1
  subst z2
  obtain ⟨x, y, z⟩ := (h.2 hb1).1 hb2
  rw [hi] at x y
  rw [show ((wWorth.length : Nat) : Int) = 5 from rfl] at y
  rw [y] at z
  subst y
  subst z
  have o2 : boM (ruF t (skp t (q3 + 5)) (sgn t (skp t (q3 + 5)) (q3 + 5))) t a2 e2 b bp := by
    refine ⟨fun z => ?_, fun z => ?_⟩
    · unfold ruF
      rw [ruE_at (o.1 z)]
    · unfold ruF
      rw [ruE_at (o.2 z)]
  exact stM_bo o2 (st_worth n0 n1 x hc) ee
theorem stM_worth4 {t : Int → Int} {L S R rt wt rc q q3 e e3 a1 e1 b1 bp1 b2 bp2 a2 e2 b bp rt2 wt2 rc2 : Int} (n0 : ¬ wd t q (sgn t q e) wRow) (n1 : ¬ wd t q (sgn t q e) wWord) (n2 : ¬ wd t q (sgn t q e) wLimit ∧ q3 = q ∧ e3 = e) (h : akM t q3 e3 b1 bp1 wWorth a1 e1 b2 bp2) (hb1 : b1 = 0) (hb2 : b2 = 0) (hi : skp t q = q) (hc : ¬ rc < 8) (hb : b = 4) (hp : bp = q) : stM (stF t L S R rt wt rc q (sgn t q e)) t a2 e2 rt2 wt2 rc2 b bp := by
  obtain ⟨n2, z1, z2⟩ := n2
  subst z1
  subst z2
  obtain ⟨x, y, z⟩ := (h.2 hb1).1 hb2
  rw [hi] at x
  exact stM_no (st_worthF n0 n1 x hc) (by decide) hb hp
def htQ (t : Int → Int) (n L S R rt wt rc q sg b bp a2 rt2 wt2 rc2 : Int) : Prop := (b = 0 → ¬ n = 60 ∧ ∀ k : Nat, lpF t L S R (k + 1) n rt wt rc q sg = lpF t L S R k (n + 1) rt2 wt2 rc2 (skp t a2) (t (skp t a2))) ∧ (¬ b = 0 → ∀ k : Nat, lpF t L S R (k + 1) n rt wt rc q sg = hF b bp)
theorem ht_60 {t : Int → Int} {n L S R rt wt rc q sg b bp a2 rt2 wt2 rc2 : Int} (hn : n = 60) (hs : ¬ sg = -1) (hb : b = 4) (hp : bp = q) : htQ t n L S R rt wt rc q sg b bp a2 rt2 wt2 rc2 := by
  refine ⟨fun z => absurd z (by omega), fun _ k => ?_⟩
  show ci _ _ _ = _
  rw [ci_neg hs, ci_pos hn, hb, hp]
theorem ht_of {t : Int → Int} {n L S R rt wt rc q sg b1 bp1 a1 e1 c b bp a2 rt2 wt2 rc2 : Int} (h : stM (stF t L S R rt wt rc q sg) t a1 e1 rt2 wt2 rc2 b1 bp1) (s : asM t a1 b1 bp1 c a2 b bp) (hc : c = 59) (hn : ¬ n = 60) (hs : ¬ sg = -1) : htQ t n L S R rt wt rc q sg b bp a2 rt2 wt2 rc2 := by
  subst hc
  by_cases hb : b1 = 0
  · obtain ⟨g1, g2⟩ := s.2 hb
    have x := h.1 hb
    refine ⟨fun z => ⟨hn, fun k => ?_⟩, fun z k => ?_⟩
    · obtain ⟨u, v⟩ := g1 z
      have s9 : sgn t (skp t a1) e1 = 59 := sgn_c u (by decide)
      show ci _ _ _ = _
      rw [ci_neg hs, ci_neg hn, x, ci_pos rfl, ci_pos s9, v]
    · obtain ⟨u, v, w⟩ := g2 z
      show ci _ _ _ = _
      rw [ci_neg hs, ci_neg hn, x, ci_pos rfl, ci_neg (sgn_nc u (by decide)), v, w]
  · obtain ⟨_, y, z⟩ := s.1 hb
    subst y
    subst z
    refine ⟨fun z => absurd z hb, fun _ k => ?_⟩
    show ci _ _ _ = _
    rw [ci_neg hs, ci_neg hn, h.2 hb, ci_neg hb]
/-! the house -/
def g1Q (t : Int → Int) (y : sZ) (x : sZ) (b bp : Int) : Prop := (b = 0 → x = y) ∧ (¬ b = 0 → x = (b, bp, 0, 0, 0, 0, 0))
theorem g_ask {t : Int → Int} {at_ e b bp a1 e1 b1 bp1 : Int} (h : akM t at_ e b bp wHouse a1 e1 b1 bp1) (hb : b = 0) (ha : at_ = 0) (he : e = -1) : g1Q t (szF t (skp t a1) (sgn t (skp t a1) e1)) (hsF t (skp t 0) (t (skp t 0))) b1 bp1 := by
  subst ha
  subst he
  have f : sgn t (skp t 0) (-1) = t (skp t 0) := sgn_far (by have := skp_ge (t := t) (p := 0); omega)
  obtain ⟨g1, g2⟩ := h.2 hb
  rw [f] at g1 g2
  refine ⟨fun z => ?_, fun z => ?_⟩
  · obtain ⟨x, y, w⟩ := g1 z
    rw [show ((wHouse.length : Nat) : Int) = 5 from rfl] at y
    unfold hsF
    rw [ci_pos x, w, y]
  · obtain ⟨x, y, w⟩ := g2 z
    unfold hsF
    rw [ci_neg x, y, w]
theorem g_n1 {t : Int → Int} {x : sZ} {lo hi at_ e b bp a2 e2 b2 bp2 r : Int} (h : g1Q t (szF t (skp t at_) (sgn t (skp t at_) e)) x b bp) (n : nbM t at_ e b bp lo hi a2 e2 b2 bp2 r) (hl : lo = 2) (hh : hi = 8) : g1Q t (szG t r (skp t a2) (sgn t (skp t a2) e2)) x b2 bp2 := by
  subst hl
  subst hh
  by_cases hb : b = 0
  · have g := nb_bt n hb
    refine ⟨fun z => ?_, fun z => ?_⟩
    · rw [h.1 hb]
      unfold szF
      rw [g.1 z, ci_pos rfl]
    · rw [h.1 hb]
      unfold szF
      rw [g.2 z, ci_neg z]
  · obtain ⟨_, _, y, z, _⟩ := n.1 hb
    subst y
    subst z
    exact ⟨fun z => absurd z hb, h.2⟩
theorem g_n2 {t : Int → Int} {x : sZ} {L lo hi at_ e b bp a2 e2 b2 bp2 r : Int} (h : g1Q t (szG t L (skp t at_) (sgn t (skp t at_) e)) x b bp) (n : nbM t at_ e b bp lo hi a2 e2 b2 bp2 r) (hl : lo = 1) (hh : hi = 5) : g1Q t (szH t L r (skp t a2) (sgn t (skp t a2) e2)) x b2 bp2 := by
  subst hl
  subst hh
  by_cases hb : b = 0
  · have g := nb_bt n hb
    refine ⟨fun z => ?_, fun z => ?_⟩
    · rw [h.1 hb]
      unfold szG
      rw [g.1 z, ci_pos rfl]
    · rw [h.1 hb]
      unfold szG
      rw [g.2 z, ci_neg z]
  · obtain ⟨_, _, y, z, _⟩ := n.1 hb
    subst y
    subst z
    exact ⟨fun z => absurd z hb, h.2⟩
theorem g_n3 {t : Int → Int} {x : sZ} {L S lo hi at_ e b bp a2 e2 b2 bp2 r : Int} (h : g1Q t (szH t L S (skp t at_) (sgn t (skp t at_) e)) x b bp) (n : nbM t at_ e b bp lo hi a2 e2 b2 bp2 r) (hl : lo = 1) (hh : hi = 6) : g1Q t (0, 0, L, S, r, skp t a2, sgn t (skp t a2) e2) x b2 bp2 := by
  subst hl
  subst hh
  by_cases hb : b = 0
  · have g := nb_bt n hb
    refine ⟨fun z => ?_, fun z => ?_⟩
    · rw [h.1 hb]
      unfold szH
      rw [g.1 z, ci_pos rfl]
    · rw [h.1 hb]
      unfold szH
      rw [g.2 z, ci_neg z]
  · obtain ⟨_, _, y, z, _⟩ := n.1 hb
    subst y
    subst z
    exact ⟨fun z => absurd z hb, h.2⟩
def hlQ (t : Int → Int) (n L S R rt wt rc at_ b bp : Int) : Prop := (b = 0 → hoF t = lpF t L S R (61 - n).toNat n rt wt rc (skp t at_) (t (skp t at_))) ∧ (¬ b = 0 → hoF t = hF b bp)
theorem hl_0 {t : Int → Int} {n L S R L2 S2 R2 rt wt rc at_ e b bp c a2 b2 bp2 : Int} (h : g1Q t (0, 0, L, S, R, skp t at_, sgn t (skp t at_) e) (hsF t (skp t 0) (t (skp t 0))) b bp) (s : asM t at_ b bp c a2 b2 bp2) (hc : c = 59) (hn : n = 1) (e1 : L2 = L) (e2 : S2 = S) (e3 : R2 = R) (e4 : rt = 0) (e5 : wt = 0) (e6 : rc = 0) : hlQ t n L2 S2 R2 rt wt rc a2 b2 bp2 := by
  subst hc
  subst hn
  subst e1
  subst e2
  subst e3
  subst e4
  subst e5
  subst e6
  by_cases hb : b = 0
  · obtain ⟨g1, g2⟩ := s.2 hb
    have x := h.1 hb
    refine ⟨fun z => ?_, fun z => ?_⟩
    · obtain ⟨u, v⟩ := g1 z
      have s9 : sgn t (skp t at_) e = 59 := sgn_c u (by decide)
      unfold hoF
      rw [x]
      show ci _ _ _ = _
      rw [ci_pos rfl]
      show ci _ _ _ = _
      rw [ci_pos s9, v]
      rfl
    · obtain ⟨u, v, w⟩ := g2 z
      unfold hoF
      rw [x]
      show ci _ _ _ = _
      rw [ci_pos rfl]
      show ci _ _ _ = _
      rw [ci_neg (sgn_nc u (by decide)), v, w]
  · obtain ⟨_, y, z⟩ := s.1 hb
    subst y
    subst z
    refine ⟨fun z => absurd z hb, fun _ => ?_⟩
    unfold hoF
    rw [h.2 hb]
    exact ci_neg hb
theorem hl_go {t : Int → Int} {n n2 L S R L2 S2 R2 rt wt rc at_ q e b bp b2 bp2 a2 rt2 wt2 rc2 : Int} (h : hlQ t n L S R rt wt rc at_ b bp) (hb : b = 0) (hn : 1 ≤ n ∧ n ≤ 60) (hq : q = skp t at_) (he : e < q) (k : htQ t n L S R rt wt rc q (sgn t q e) b2 bp2 a2 rt2 wt2 rc2) (en : b2 = 0 → n2 = n + 1) (e1 : b2 = 0 → L2 = L ∧ S2 = S ∧ R2 = R) : hlQ t n2 L2 S2 R2 rt2 wt2 rc2 a2 b2 bp2 := by
  have x := h.1 hb
  rw [← hq, show (61 - n).toNat = (61 - (n + 1)).toNat + 1 by omega, ← sgn_far (t := t) he] at x
  refine ⟨fun z => ?_, fun z => ?_⟩
  · obtain ⟨a, b, c⟩ := e1 z
    rw [x, (k.1 z).2, en z, a, b, c]
  · rw [x, k.2 z]
/-- the numbers kept of a house -/
def rgQ (f g : Nat → Int32) (d3 d4 : Int) : Prop := (g 0).toInt = (f 0).toInt ∧ (g 1).toInt = (f 1).toInt ∧ (g 2).toInt = (f 2).toInt ∧ (g 3).toInt = (f 3).toInt + d3 ∧ (g 4).toInt = (f 4).toInt + d4
theorem rg_3 {f g : Nat → Int32} {n : Nat} {v : Int32} (e : g = upd f n v) (hn : n = 3) (hv : v.toInt = (f 3).toInt + 1) : rgQ f g 1 0 := by
  subst hn
  subst e
  exact ⟨rfl, rfl, rfl, hv, by show (f 4).toInt = (f 4).toInt + 0; omega⟩
theorem rg_4 {f g : Nat → Int32} {n : Nat} {v : Int32} (e : g = upd f n v) (hn : n = 4) (hv : v.toInt = (f 4).toInt + 1) : rgQ f g 0 1 := by
  subst hn
  subst e
  exact ⟨rfl, rfl, rfl, by show (f 3).toInt = (f 3).toInt + 0; omega, hv⟩
theorem rg_5 {f g : Nat → Int32} {n : Nat} {v : Int32} (e : g = upd f n v) (hn : n = 5) : rgQ f g 0 0 := by
  subst hn
  subst e
  exact ⟨rfl, rfl, rfl, by show (f 3).toInt = (f 3).toInt + 0; omega, by show (f 4).toInt = (f 4).toInt + 0; omega⟩
theorem rg_mk {f f0 f1 f2 f3 f4 f5 : Nat → Int32} {n0 n1 n2 n3 n4 n5 : Nat} {v0 v1 v2 v3 v4 v5 : Int32} (e0 : f0 = upd f n0 v0) (e1 : f1 = upd f0 n1 v1) (e2 : f2 = upd f1 n2 v2) (e3 : f3 = upd f2 n3 v3) (e4 : f4 = upd f3 n4 v4) (e5 : f5 = upd f4 n5 v5) (g0 : n0 = 0) (g1 : n1 = 1) (g2 : n2 = 2) (g3 : n3 = 3) (g4 : n4 = 4) (g5 : n5 = 5) : (f5 0).toInt = v0.toInt ∧ (f5 1).toInt = v1.toInt ∧ (f5 2).toInt = v2.toInt ∧ (f5 3).toInt = v3.toInt ∧ (f5 4).toInt = v4.toInt := by
  subst g0; subst g1; subst g2; subst g3; subst g4; subst g5
  subst e0; subst e1; subst e2; subst e3; subst e4; subst e5
  exact ⟨rfl, rfl, rfl, rfl, rfl⟩
theorem stM_rowC {t : Int → Int} {f g : Nat → Int32} {rc q e a1 e1 r a2 e2 b bp pl : Int} (h : tkM t q e wRow a1 e1 r) (hr : ¬ r = 0) (hi : skp t q = q) (rd : RD f) (o : ¬ (f 3).toInt = (f 2).toInt → boM (rwF t okR ((f 1).toInt).toNat (skp t a1) (sgn t (skp t a1) e1)) t a2 e2 b bp) (o4 : (f 3).toInt = (f 2).toInt → b = 4 ∧ bp = pl) (hp : pl = q) (rg : b = 0 → rgQ f g 1 0) : stM (stF t (f 0).toInt (f 1).toInt (f 2).toInt (f 3).toInt (f 4).toInt rc q (sgn t q e)) t a2 e2 (g 3).toInt (g 4).toInt rc b bp := by
  have l := rd.2.2.2.1
  by_cases c : (f 3).toInt = (f 2).toInt
  · exact stM_row4 h hr hi (by omega) (o4 c).1 ((o4 c).2.trans hp)
  · exact stM_row h hr hi (by omega) (o c) (fun z => ⟨(rg z).2.2.2.1, by have := (rg z).2.2.2.2; omega, rfl⟩)
theorem stM_wordC {t : Int → Int} {f g : Nat → Int32} {rc q q1 e e0 a1 e1 r a2 e2 b bp pl : Int} (n0 : ¬ wd t q (sgn t q e) wRow ∧ q1 = q ∧ e0 = e) (h : tkM t q1 e0 wWord a1 e1 r) (hr : ¬ r = 0) (hi : skp t q = q) (rd : RD f) (o : ¬ (f 4).toInt = 16 → boM (rwF t (okL (f 0).toInt) ((f 1).toInt).toNat (skp t a1) (sgn t (skp t a1) e1)) t a2 e2 b bp) (o4 : (f 4).toInt = 16 → b = 4 ∧ bp = pl) (hp : pl = q) (rg : b = 0 → rgQ f g 0 1) : stM (stF t (f 0).toInt (f 1).toInt (f 2).toInt (f 3).toInt (f 4).toInt rc q (sgn t q e)) t a2 e2 (g 3).toInt (g 4).toInt rc b bp := by
  have l := rd.2.2.2.2
  by_cases c : (f 4).toInt = 16
  · exact stM_word4 n0 h hr hi (by omega) (o4 c).1 ((o4 c).2.trans hp)
  · exact stM_word n0 h hr hi (by omega) (o c) (fun z => ⟨by have := (rg z).2.2.2.1; omega, (rg z).2.2.2.2, rfl⟩)
theorem stM_worthC {t : Int → Int} {L S R rt wt rc rc2 q q3 e e3 a1 e1 b1 bp1 b2 bp2 a2 e2 b bp pl : Int} (n0 : ¬ wd t q (sgn t q e) wRow) (n1 : ¬ wd t q (sgn t q e) wWord) (n2 : ¬ wd t q (sgn t q e) wLimit ∧ q3 = q ∧ e3 = e) (h : akM t q3 e3 b1 bp1 wWorth a1 e1 b2 bp2) (hb1 : b1 = 0) (hb2 : b2 = 0) (hi : skp t q = q) (hc : rc ≤ 8) (o : ¬ rc = 8 → ruM t a1 e1 a2 e2 b bp) (o4 : rc = 8 → b = 4 ∧ bp = pl) (hp : pl = q) (er : b = 0 → rc2 = rc + 1) : stM (stF t L S R rt wt rc q (sgn t q e)) t a2 e2 rt wt rc2 b bp := by
  by_cases c : rc = 8
  · exact stM_worth4 n0 n1 n2 h hb1 hb2 hi (by omega) (o4 c).1 ((o4 c).2.trans hp)
  · exact stM_worth n0 n1 n2 h hb1 hb2 hi (by omega) (o c) (fun z => ⟨rfl, rfl, er z⟩)
theorem stM_limC {t : Int → Int} {f g : Nat → Int32} {L S R rc q q2 e e2 a1 e1 r a3 e3 b1 bp1 b bp lo hi v : Int} (n0 : ¬ wd t q (sgn t q e) wRow) (n1 : ¬ wd t q (sgn t q e) wWord ∧ q2 = q ∧ e2 = e) (h : tkM t q2 e2 wLimit a1 e1 r) (hr : ¬ r = 0) (hi' : skp t q = q) (nb : nbM t a1 e1 b1 bp1 lo hi a3 e3 b bp v) (hb1 : b1 = 0) (hl : lo = 0) (hh : hi = 9999) (rg : rgQ f g 0 0) : stM (stF t L S R (f 3).toInt (f 4).toInt rc q (sgn t q e)) t a3 e3 (g 3).toInt (g 4).toInt rc b bp :=
  stM_limit n0 n1 h hr hi' nb hb1 hl hh (fun _ => ⟨by have := rg.2.2.2.1; omega, by have := rg.2.2.2.2; omega, rfl⟩)
