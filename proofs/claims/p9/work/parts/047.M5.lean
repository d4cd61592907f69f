/-! sums, facts, tests, as the reference reads them -/
theorem pF_op {w0 w w2 : Nat → Int32} {bs o b bp o2 b2 bp2 pl n n2 : Int} {x : Int32} (h : pF w0 w bs) (ox : opX o b bp o2 b2 bp2 pl w w2 n n2 x) (hn : bs ≤ n) : pF w0 w2 bs := by
  rcases ox with ⟨_, _, _, _, e, _⟩ | ⟨_, _, _, _, e, _⟩
  · rw [e]; exact h
  · exact pF_upd h e hn
theorem so_nil {t : Int → Int} {ph at_ e o b bp : Int} {K : List Int} (hb : b = 0) (hk : K = []) : soQ (fun R out => Rm t ph at_ e o R out) t ph at_ e o K b bp := by
  subst hk
  exact so_refl hb
def slQ (A : List Int → aOu → Prop) (t : Int → Int) (m at_ e o : Int) (K : List Int) (b bp : Int) : Prop := (¬ m = 0 → soQ A t 1 at_ e o K b bp) ∧ (m = 0 → soQ A t 2 at_ e o K b bp ∧ (b = 0 → enQ t at_ K))
def suR (A : List Int → aOu → Prop) (t : Int → Int) (a2 e2 o2 b bp : Int) : Prop := soQ A t 2 a2 e2 o2 [] b bp ∧ (b = 0 → skp t a2 = a2 ∧ ¬ (t a2 = 42 ∨ t a2 = 47 ∨ t a2 = 43 ∨ t a2 = 45))
def suQ (t : Int → Int) (at_ e o a2 e2 o2 b bp : Int) : Prop := suR (fun R out => Rm t 1 at_ e o R out) t a2 e2 o2 b bp
theorem sl_start {t : Int → Int} {m at_ e o b bp : Int} {K : List Int} (hb : b = 0) (hk : K = []) (hm : ¬ m = 0) : slQ (fun R out => Rm t 1 at_ e o R out) t m at_ e o K b bp := ⟨fun _ => so_nil hb hk, fun x => absurd x hm⟩
theorem sl_on {A : List Int → aOu → Prop} {t : Int → Int} {m a e o b bp a1 e1 o1 b1 bp1 a2 e2 o2 b2 bp2 m2 : Int} {K K1 K2 : List Int} (h : slQ A t m a e o K b bp) (hm : ¬ m = 0) (hb : b = 0) (h1 : soQ (fun R out => Rm t 1 a e o (K ++ R) out) t 2 a1 e1 o1 K1 b1 bp1) (hb1 : b1 = 0) (h2 : soQ (fun R out => Rm t 2 a1 e1 o1 (K1 ++ R) out) t 1 a2 e2 o2 K2 b2 bp2) (hm2 : ¬ m2 = 0) : slQ A t m2 a2 e2 o2 K2 b2 bp2 := ⟨fun _ => so_then (so_then (h.1 hm) hb h1) hb1 h2, fun x => absurd x hm2⟩
theorem sl_off {A : List Int → aOu → Prop} {t : Int → Int} {m a e o b bp a1 e1 o1 b1 bp1 a2 e2 o2 b2 bp2 m2 : Int} {K K1 K2 : List Int} (h : slQ A t m a e o K b bp) (hm : ¬ m = 0) (hb : b = 0) (h1 : soQ (fun R out => Rm t 1 a e o (K ++ R) out) t 2 a1 e1 o1 K1 b1 bp1) (hb1 : b1 = 0) (h2 : soQ (fun R out => Rm t 2 a1 e1 o1 (K1 ++ R) out) t 2 a2 e2 o2 K2 b2 bp2 ∧ (b2 = 0 → enQ t a2 K2)) (hm2 : m2 = 0) : slQ A t m2 a2 e2 o2 K2 b2 bp2 := ⟨fun x => absurd hm2 x, fun _ => ⟨so_then (so_then (h.1 hm) hb h1) hb1 h2.1, h2.2⟩⟩
theorem sl_bad {A : List Int → aOu → Prop} {t : Int → Int} {m a e o b bp a1 e1 o1 b1 bp1 m2 : Int} {K K1 : List Int} (h : slQ A t m a e o K b bp) (hm : ¬ m = 0) (hb : b = 0) (h1 : soQ (fun R out => Rm t 1 a e o (K ++ R) out) t 2 a1 e1 o1 K1 b1 bp1) (hb1 : ¬ b1 = 0) (hm2 : m2 = 0) : slQ A t m2 a1 e1 o1 K1 b1 bp1 := ⟨fun x => absurd hm2 x, fun _ => ⟨so_then (h.1 hm) hb h1, fun x => absurd x hb1⟩⟩
theorem su_of {A : List Int → aOu → Prop} {t : Int → Int} {m a e o b bp : Int} {K : List Int} (h : slQ A t m a e o K b bp) (hx : m = 0 ∨ ¬ b = 0) : suR A t a e o b bp := by
  by_cases hb : b = 0
  · obtain ⟨x, y⟩ := h.2 (by omega)
    obtain ⟨k, z, w⟩ := y hb
    subst k
    exact ⟨x, fun _ => ⟨z, w⟩⟩
  · have s : ∀ R : List Int, A R (b, bp, 0, 0) := by
      by_cases hm : m = 0
      · exact (h.2 hm).1.2 hb
      · exact (h.1 hm).2 hb
    exact ⟨⟨fun x => absurd x hb, fun _ => s⟩, fun x => absurd x hb⟩
def nfQ (t : Int → Int) (at_ e : Int) : Prop := skp t at_ = at_ ∧ ¬ t at_ = 91 ∧ ¬ wd t at_ (sgn t at_ e) wNot
def faQ (t : Int → Int) (at_ e o a2 e2 o2 b bp : Int) : Prop := soQ (fun R out => Rm t 3 at_ e o R out) t 4 a2 e2 o2 [] b bp
theorem fa_all {t : Int → Int} {at_ e o a2 e2 b bp r : Int} (h : tkM t at_ e wAll a2 e2 r) (hr : ¬ r = 0) (hb : b = 0) : faQ t at_ e o a2 e2 o b bp := by
  obtain ⟨x, y, z⟩ := h.1 hr
  rw [show ((wAll.length : Nat) : Int) = 3 from rfl] at y
  subst z
  exact ⟨fun _ R out k => M3_all rfl x y k, fun q => absurd hb q⟩
theorem fa_in {t : Int → Int} {at_ e o a1 e1 r : Int} (n : nfQ t at_ e) (h : tkM t at_ e wAll a1 e1 r) (hr : r = 0) : ∀ (R : List Int) (out : aOu), Rm t 1 a1 e1 o (31 :: R) out → Rm t 3 at_ e o R out := by
  obtain ⟨x, y, z⟩ := h.2 hr
  obtain ⟨a, b, c⟩ := n
  rw [a] at x y
  subst y
  subst z
  intro R out k
  exact M3_sum a.symm c b x k
theorem fa_F1 {t : Int → Int} {at_ e o a1 e1 a2 e2 o2 b bp : Int} (fi : ∀ (R : List Int) (out : aOu), Rm t 1 a1 e1 o (31 :: R) out → Rm t 3 at_ e o R out) (s : suQ t a1 e1 o a2 e2 o2 b bp) (hb : ¬ b = 0) : faQ t at_ e o a2 e2 o2 b bp := ⟨fun x => absurd x hb, fun _ R => fi R _ (s.1.2 hb (31 :: R))⟩
theorem fa_Fc {t : Int → Int} {at_ e o a1 e1 a2 e2 o2 b1 bp1 q c a3 e3 o3 b bp : Int} (fi : ∀ (R : List Int) (out : aOu), Rm t 1 a1 e1 o (31 :: R) out → Rm t 3 at_ e o R out) (s : suQ t a1 e1 o a2 e2 o2 b1 bp1) (hb1 : b1 = 0) (eq : q = skp t a2) (ec : c = t q) (hc : ¬ (c = 60 ∨ c = 61 ∨ c = 62)) (hb : b = 1) (hp : bp = q) : faQ t at_ e o a3 e3 o3 b bp := by
  subst hb
  subst hp
  refine ⟨fun x => absurd x (by decide), fun _ R => fi R _ (s.1.1 hb1 (31 :: R) _ (M2_cmpF eq (by rw [← ec]; exact hc) (by rw [eq, (s.2 hb1).1]; exact (s.2 hb1).2)))⟩
theorem fa_2 {t : Int → Int} {at_ e o a1 e1 a2 e2 o2 b1 bp1 q c a3 a4 e4 o4 b bp : Int} (fi : ∀ (R : List Int) (out : aOu), Rm t 1 a1 e1 o (31 :: R) out → Rm t 3 at_ e o R out) (s : suQ t a1 e1 o a2 e2 o2 b1 bp1) (hb1 : b1 = 0) (eq : q = skp t a2) (ec : c = t q) (hc : c = 60 ∨ c = 61 ∨ c = 62) (he : e2 ≤ q) (ea : a3 = q + 1) (s2 : suQ t a3 e2 o2 a4 e4 o4 b bp) : faQ t at_ e o a4 e4 o4 b bp := by
  have g : ∀ (R : List Int) (out : aOu), Rm t 1 a3 e2 o2 (32 :: R) out → Rm t 3 at_ e o R out := fun R out k => fi R _ (s.1.1 hb1 (31 :: R) _ (M2_cmp eq he ec.symm hc ea k))
  exact ⟨fun hb R out k => g R out (s2.1.1 hb (32 :: R) out (M2_end (s2.2 hb).1.symm (s2.2 hb).2 k)), fun hb R => g R _ (s2.1.2 hb (32 :: R))⟩
/-! tests: the whole stack is at hand -/
def toQ (A : aOu → Prop) (t : Int → Int) (ph at_ e o : Int) (K : List Int) (b bp : Int) : Prop := (b = 0 → ∀ out : aOu, Rm t ph at_ e o K out → A out) ∧ (¬ b = 0 → A (b, bp, 0, 0))
theorem to_refl {t : Int → Int} {ph at_ e o b bp : Int} {K : List Int} (hb : b = 0) : toQ (fun out => Rm t ph at_ e o K out) t ph at_ e o K b bp := ⟨fun _ _ k => k, fun x => absurd hb x⟩
theorem to_nil {t : Int → Int} {ph at_ e o b bp : Int} {K : List Int} (hb : b = 0) (hk : K = []) : toQ (fun out => Rm t ph at_ e o [] out) t ph at_ e o K b bp := by
  subst hk
  exact to_refl hb
theorem to_look {A : aOu → Prop} {t : Int → Int} {ph at_ e o b bp q : Int} {K : List Int} (h : toQ A t ph at_ e o K b bp) (e1 : q = skp t at_) (hi : skp t (skp t at_) = skp t at_) : toQ A t ph q e o K b bp := ⟨fun hb out k => h.1 hb out ((Rm_skip e1 (by rw [e1]; exact hi)).mp k), h.2⟩
theorem to_mks {A : aOu → Prop} {t : Int → Int} {ph at_ e o b bp : Int} {K K2 : List Int} (h : toQ A t ph at_ e o K b bp) (ek : K = K2) : toQ A t ph at_ e o K2 b bp := ek ▸ h
theorem to_at {A : aOu → Prop} {t : Int → Int} {ph at_ a2 e o b bp : Int} {K : List Int} (h : toQ A t ph at_ e o K b bp) (ea : a2 = at_) : toQ A t ph a2 e o K b bp := ea ▸ h
theorem to_keep {A : aOu → Prop} {t : Int → Int} {ph at_ e o b bp ph2 a2 e2 o2 : Int} {K K2 : List Int} (h : toQ A t ph at_ e o K b bp) (hb : ¬ b = 0) : toQ A t ph2 a2 e2 o2 K2 b bp := ⟨fun e => absurd e hb, h.2⟩
theorem to_then {A : aOu → Prop} {t : Int → Int} {ph at_ e o bad bp ph2 a2 e2 o2 bad2 bp2 : Int} {K K2 : List Int} (h : toQ A t ph at_ e o K bad bp) (hb : bad = 0) (h2 : toQ (fun out => Rm t ph at_ e o K out) t ph2 a2 e2 o2 K2 bad2 bp2) : toQ A t ph2 a2 e2 o2 K2 bad2 bp2 := ⟨fun b out k => h.1 hb out (h2.1 b out k), fun b => h.1 hb _ (h2.2 b)⟩
def dnQ (t : Int → Int) (w : Nat → Int32) (at_ e o n o2 n2 : Int) : Prop := ∀ out : aOu, Rm t 4 at_ e o2 (mks true w 0 n2) out → Rm t 4 at_ e o (mks true w 0 n) out
theorem dn_refl {t : Int → Int} {w : Nat → Int32} {a e o n : Int} : dnQ t w a e o n o n := fun _ k => k
theorem dn_step {t : Int → Int} {w : Nat → Int32} {a e o n o1 n1 o2 n2 : Int} (h : dnQ t w a e o n o1 n1) (h1 : 0 < n1) (hv : (w (n1 - 1).toNat).toInt = 16) (eo : o2 = o1 - 1) (en : n2 = n1 - 1) : dnQ t w a e o n o2 n2 := by
  intro out k
  apply h out
  rw [mks_pop (n2 := n2) (v := 16) (by decide) (by omega) (by omega) (by rw [en]; exact hv) (isMk_t (Or.inl rfl))]
  subst eo
  exact M4_not k
theorem to_dn {A : aOu → Prop} {t : Int → Int} {w : Nat → Int32} {a e o n o2 n2 b bp : Int} (h : toQ A t 4 a e o (mks true w 0 n) b bp) (d : dnQ t w a e o n o2 n2) : toQ A t 4 a e o2 (mks true w 0 n2) b bp := ⟨fun hb out k => h.1 hb out (d out k), h.2⟩
def tpQ (w : Nat → Int32) (n : Int) : Prop := n ≤ 0 ∨ ¬ (w (n - 1).toNat).toInt = 16
/-- a not that waits has a not or a square above it, or stands on top -/
def nIq (w : Nat → Int32) (n : Int) : Prop := ∀ k : Nat, (k : Int) + 1 < n → (w k).toInt = 16 → (w (k + 1)).toInt = 16 ∨ (w (k + 1)).toInt = 25
theorem nIq0 {w : Nat → Int32} {n : Int} (h : n ≤ 1) : nIq w n := fun k hk => absurd hk (by omega)
theorem nI_sub {w : Nat → Int32} {n m : Int} (h : nIq w n) (hm : m ≤ n) : nIq w m := fun k hk => h k (by omega)
theorem nI_same {w w2 : Nat → Int32} {n m b : Int} (h : nIq w n) (hf : pF w w2 b) (hb : n ≤ b) (hm : m ≤ n) : nIq w2 m := by
  intro k hk hv
  have e1 := hf k (by omega)
  have e2 := hf (k + 1) (by omega)
  rw [e1] at hv
  rw [e2]
  exact h k (by omega) hv
theorem nI_push {w w2 : Nat → Int32} {n m : Int} {x : Int32} (h : nIq w n) (h0 : 0 ≤ n) (e : w2 = upd w n.toNat x) (em : m = n + 1) (hx : (x.toInt = 16 ∨ x.toInt = 25) ∨ tpQ w n) : nIq w2 m := by
  intro k hk hv
  subst e
  rw [u_ne (show ¬ k = n.toNat by omega)] at hv
  by_cases q : (k : Int) + 1 < n
  · rw [u_ne (show ¬ k + 1 = n.toNat by omega)]
    exact h k q hv
  · rw [u_eq (show k + 1 = n.toNat by omega)]
    rcases hx with hx | hx
    · exact hx
    · rcases hx with hx | hx
      · exact absurd hx (by omega)
      · rw [show (n - 1).toNat = k by omega] at hx
        exact absurd hv hx
theorem nI_op {w w2 : Nat → Int32} {o b bp o2 b2 bp2 pl n n2 : Int} {x : Int32} (h : nIq w n) (ox : opX o b bp o2 b2 bp2 pl w w2 n n2 x) (h0 : 0 ≤ n) (hx : x.toInt = 16 ∨ x.toInt = 25) : nIq w2 n2 := by
  rcases ox with ⟨_, _, _, _, e, e2⟩ | ⟨_, _, _, _, e, e2⟩
  · rw [e, e2]; exact h
  · exact nI_push h h0 e e2 (Or.inl hx)
theorem tp_drop {w : Nat → Int32} {n m : Int} (h : nIq w n) (hv : ¬ ((w (n - 1).toNat).toInt = 16 ∨ (w (n - 1).toNat).toInt = 25)) (hn : 0 < n) (em : m = n - 1) : tpQ w m := by
  by_cases q : m ≤ 0
  · exact Or.inl q
  · refine Or.inr (fun x => hv ?_)
    have k := h (m - 1).toNat (by omega) x
    rw [show (m - 1).toNat + 1 = (n - 1).toNat by omega] at k
    exact k
theorem mkT {w : Nat → Int32} : ∀ (k : Nat) (n : Int), n = (k : Int) → nIq w n → tpQ w n → (mks true w 0 n = [] ∧ noSq w n) ∨ (hd9 (mks true w 0 n) = 25 ∧ hasQ w n)
  | 0, n, e, h, tp => Or.inl ⟨mks_nil (by omega), fun k hk => absurd hk (by omega)⟩
  | k + 1, n, e, h, tp => by
    by_cases h25 : (w (n - 1).toNat).toInt = 25
    · refine Or.inr ⟨?_, (n - 1).toNat, by omega, h25⟩
      rw [mks_pop (n2 := n - 1) (v := 25) (by decide) (by omega) (by omega) h25 (isMk_t (Or.inr rfl))]
      rfl
    · have h16 : ¬ (w (n - 1).toNat).toInt = 16 := by
        rcases tp with q | q
        · exact absurd q (by omega)
        · exact q
      have tp2 : tpQ w (n - 1) := tp_drop h (by omega) (by omega) rfl
      rw [mks_drop (n2 := n - 1) (v := (w (n - 1).toNat).toInt) (by decide) (by omega) (by omega) rfl (noMk_t (by omega))]
      rcases mkT k (n - 1) (by omega) (nI_sub h (by omega)) tp2 with ⟨a, b⟩ | ⟨a, j, b, c⟩
      · refine Or.inl ⟨a, fun j hj => ?_⟩
        by_cases q : (j : Int) < n - 1
        · exact b j q
        · rw [show j = (n - 1).toNat by omega]
          exact h25
      · exact Or.inr ⟨a, j, by omega, c⟩
theorem hd_n16 {w : Nat → Int32} {n : Int} (h : nIq w n) (tp : tpQ w n) (h0 : 0 ≤ n) : ¬ hd9 (mks true w 0 n) = 16 := by
  rcases mkT n.toNat n (by omega) h tp with ⟨a, _⟩ | ⟨a, _⟩
  · rw [a]
    exact hd_nil
  · rw [a]
    decide
theorem hd_nosq {w : Nat → Int32} {n : Int} (h : nIq w n) (tp : tpQ w n) (h0 : 0 ≤ n) (hs : noSq w n) : mks true w 0 n = [] := by
  rcases mkT n.toNat n (by omega) h tp with ⟨a, _⟩ | ⟨_, j, b, c⟩
  · exact a
  · exact absurd c (hs j b)
theorem hd_sq {w : Nat → Int32} {n : Int} (h : nIq w n) (tp : tpQ w n) (h0 : 0 ≤ n) (hs : hasQ w n) : ∃ K : List Int, mks true w 0 n = 25 :: K := by
  rcases mkT n.toNat n (by omega) h tp with ⟨_, b⟩ | ⟨a, _⟩
  · obtain ⟨j, c, d⟩ := hs
    exact absurd d (b j c)
  · cases e : mks true w 0 n with
    | nil => rw [e] at a; exact absurd (show (99 : Int) = 25 from a) (by decide)
    | cons v K =>
      rw [e] at a
      have a : v = 25 := a
      exact ⟨K, by rw [a]⟩
theorem to_sqC {A : aOu → Prop} {t : Int → Int} {w : Nat → Int32} {a0 q e o n b bp a2 o2 n2 : Int} (h : toQ A t 4 a0 e o (mks true w 0 n) b bp) (hb : b = 0) (eq : q = a0) (hi : skp t q = q) (he : e ≤ q) (hc : t q = 93) (hv : 0 < n ∧ (w (n - 1).toNat).toInt = 25) (ea : a2 = q + 1) (eo : o2 = o - 1) (en : n2 = n - 1) : toQ A t 4 a2 e o2 (mks true w 0 n2) b bp := by
  subst eq
  subst eo
  refine ⟨fun _ out k => h.1 hb out ?_, fun x => absurd hb x⟩
  rw [mks_pop (n2 := n2) (v := 25) (by decide) (by omega) (by omega) (by rw [en]; exact hv.2) (isMk_t (Or.inr rfl))]
  exact M4_sq hi.symm he hc ea k
theorem to_and {A : aOu → Prop} {t : Int → Int} {a e o b bp a2 e2 r : Int} {K : List Int} (h : toQ A t 4 a e o K b bp) (hb : b = 0) (tk : tkM t a e wAnd a2 e2 r) (hr : ¬ r = 0) (hk : ¬ hd9 K = 16) : toQ A t 3 a2 e2 o K b bp := by
  obtain ⟨x, y, z⟩ := tk.1 hr
  rw [show ((wAnd.length : Nat) : Int) = 3 from rfl] at y
  subst z
  exact ⟨fun _ out k => h.1 hb out (M4_and rfl x hk y k), fun x => absurd hb x⟩
theorem to_or {A : aOu → Prop} {t : Int → Int} {a e o b bp a2 e2 r : Int} {K : List Int} (h : toQ A t 4 a e o K b bp) (hb : b = 0) (tk : tkM t a e wOr a2 e2 r) (hr : ¬ r = 0) (hk : ¬ hd9 K = 16) : toQ A t 3 a2 e2 o K b bp := by
  obtain ⟨x, y, z⟩ := tk.1 hr
  rw [show ((wOr.length : Nat) : Int) = 2 from rfl] at y
  subst z
  exact ⟨fun _ out k => h.1 hb out (M4_or rfl x hk y k), fun x => absurd hb x⟩
theorem to_tkno {A : aOu → Prop} {t : Int → Int} {ph at_ e o b bp a2 e2 r : Int} {K w : List Int} (h : toQ A t ph at_ e o K b bp) (tk : tkM t at_ e w a2 e2 r) (hr : r = 0) (hi : skp t (skp t at_) = skp t at_) : toQ A t ph a2 e2 o K b bp := by
  obtain ⟨_, y, z⟩ := tk.2 hr
  subst z
  exact to_look h y hi
def edQ (t : Int → Int) (at_ e : Int) (K : List Int) : Prop := K = [] ∧ ¬ wd t (skp t at_) (sgn t (skp t at_) e) wAnd ∧ ¬ wd t (skp t at_) (sgn t (skp t at_) e) wOr
theorem to_sqF {A : aOu → Prop} {t : Int → Int} {a e o b bp q b2 bp2 ph a2 e2 o2 : Int} {K K2 : List Int} (h : toQ A t 4 a e o K b bp) (hb : b = 0) (hk : ∃ K1 : List Int, K = 25 :: K1) (hi : skp t a = q) (hc : ¬ t q = 93) (h1 : ¬ wd t q (sgn t q e) wAnd) (h2 : ¬ wd t q (sgn t q e) wOr) (hb2 : b2 = 1) (hp : bp2 = q) : toQ A t ph a2 e2 o2 K2 b2 bp2 := by
  obtain ⟨K1, hk⟩ := hk
  subst hk
  subst hb2
  subst hp
  exact ⟨fun x => absurd x (by decide), fun _ => h.1 hb _ (M4_sqF hi.symm hc h1 h2)⟩
/-- a square opens -/
theorem to_sqO {A : aOu → Prop} {t : Int → Int} {at_ e o b bp q c a2 o2 b2 bp2 pl n n2 : Int} {w w2 : Nat → Int32} {x : Int32} (h : toQ A t 3 at_ e o (mks true w 0 n) b bp) (hb : b = 0) (e1 : q = skp t at_) (he : e ≤ q) (e2 : c = t q) (hc : c = 91) (ox : opX o b bp o2 b2 bp2 pl w w2 n n2 x) (hp : pl = q) (hx : x.toInt = 25) (ha : a2 = q + 1) (hn : 0 ≤ n) : toQ A t 3 a2 e o2 (mks true w2 0 n2) b2 bp2 := by
  have hc' : t q = 91 := by omega
  rcases ox with ⟨o6, eb, ep, _, _, _⟩ | ⟨o6, eo, eb, _, ew, en⟩
  · subst eb
    refine ⟨fun z => absurd z (by decide), fun _ => ?_⟩
    rw [ep, hp]
    exact h.1 hb _ (M3_sqF e1 hc' o6)
  · subst ew
    subst eo
    rw [mks_push (v := 25) (by decide) hn en hx (isMk_t (Or.inr rfl))]
    exact ⟨fun _ out k => h.1 hb out (M3_sq e1 he hc' o6 ha k), fun z => absurd (eb.trans hb) z⟩
/-- a not -/
theorem to_notO {A : aOu → Prop} {t : Int → Int} {at_ e o b bp a2 e2 o2 b1 bp1 b2 bp2 pl n n2 r : Int} {w w2 : Nat → Int32} {x : Int32} (h : toQ A t 3 at_ e o (mks true w 0 n) b bp) (hb : b = 0) (hi : skp t at_ = at_) (wa : waQ t at_ (sgn t at_ e) wNot r) (hr : ¬ r = 0) (ox : opX o b bp o2 b1 bp1 pl w w2 n n2 x) (hp : pl = at_) (hx : x.toInt = 16) (hn : 0 ≤ n) (ak : akM t at_ e b1 bp1 wNot a2 e2 b2 bp2) : toQ A t 3 a2 e2 o2 (mks true w2 0 n2) b2 bp2 := by
  have hw := wa.1 hr
  rcases ox with ⟨o6, eb, ep, _, _, _⟩ | ⟨o6, eo, eb, _, ew, en⟩
  · obtain ⟨_, _, eb2, ep2⟩ := ak.1 (by omega)
    refine ⟨fun z => absurd z (by omega), fun _ => ?_⟩
    rw [eb2, ep2, eb, ep, hp]
    exact h.1 hb _ (M3_notF hi.symm hw o6)
  · obtain ⟨g1, g2⟩ := ak.2 (by omega)
    have hw2 : wd t (skp t at_) (sgn t (skp t at_) e) wNot := by rw [hi]; exact hw
    have b20 : b2 = 0 := by
      by_cases z : b2 = 0
      · exact z
      · exact absurd hw2 (g2 z).1
    obtain ⟨_, ea, ee⟩ := g1 b20
    rw [show ((wNot.length : Nat) : Int) = 3 from rfl, hi] at ea
    subst ee
    subst ew
    subst eo
    rw [mks_push (v := 16) (by decide) hn en hx (isMk_t (Or.inl rfl))]
    exact ⟨fun _ out k => h.1 hb out (M3_not hi.symm hw o6 ea k), fun z => absurd b20 z⟩
theorem to_fact {A : aOu → Prop} {t : Int → Int} {a e o a2 e2 o2 b bp b2 bp2 : Int} {K : List Int} (h : toQ A t 3 a e o K b bp) (hb : b = 0) (f : faQ t a e o a2 e2 o2 b2 bp2) : toQ A t 4 a2 e2 o2 K b2 bp2 := ⟨fun hb2 out k => h.1 hb out (f.1 hb2 K out k), fun hb2 => h.1 hb _ (f.2 hb2 K)⟩
theorem to_mksB {A : aOu → Prop} {t : Int → Int} {ph at_ e o b bp : Int} {K K2 : List Int} (h : toQ A t ph at_ e o K b bp) (ek : b = 0 → K = K2) : toQ A t ph at_ e o K2 b bp := by
  by_cases hb : b = 0
  · exact to_mks h (ek hb)
  · exact to_keep h hb
theorem mks_pF {g : Bool} {w w2 : Nat → Int32} {n n2 b : Int} (hf : pF w w2 b) (hb : n ≤ b) (en : n2 = n) : mks g w 0 n = mks g w2 0 n2 := by
  rw [en]
  exact (mks_same (by decide) (fun j _ c => hf j (by omega))).symm
def teQ (A : aOu → Prop) (t : Int → Int) (m at_ e o : Int) (K : List Int) (b bp : Int) : Prop := (¬ m = 0 → toQ A t 3 at_ e o K b bp) ∧ (m = 0 → toQ A t 4 at_ e o K b bp ∧ (b = 0 → edQ t at_ e K))
def tM (t : Int → Int) (at_ e o a2 e2 b bp : Int) : Prop := (b = 0 → Rm t 3 at_ e o [] (0, 0, skp t a2, sgn t (skp t a2) e2)) ∧ (¬ b = 0 → Rm t 3 at_ e o [] (b, bp, 0, 0))
theorem te_end {t : Int → Int} {at_ e o m a2 e2 o2 b bp : Int} {K : List Int} (h : teQ (fun out => Rm t 3 at_ e o [] out) t m a2 e2 o2 K b bp) (hx : m = 0 ∨ ¬ b = 0) : tM t at_ e o a2 e2 b bp := by
  refine ⟨fun hb => ?_, fun hb => ?_⟩
  · obtain ⟨x, y⟩ := h.2 (by omega)
    obtain ⟨k, n1, n2⟩ := y hb
    subst k
    exact x.1 hb _ (M4_end rfl n1 n2)
  · by_cases hm : m = 0
    · exact (h.2 hm).1.2 hb
    · exact (h.1 hm).2 hb
/-! a rule -/
def ruM (t : Int → Int) (at_ e a2 e2 b bp : Int) : Prop := (b = 0 → Rm t 1 at_ e 0 [30] (0, 0, skp t a2, sgn t (skp t a2) e2)) ∧ (¬ b = 0 → Rm t 1 at_ e 0 [30] (b, bp, 0, 0))
theorem ruM_Fs {t : Int → Int} {at_ e o a1 e1 o1 b1 bp1 w a2 e2 a3 e3 b2 bp2 : Int} (s : suQ t at_ e o a1 e1 o1 b1 bp1) (ho : o = 0) (ak : akM t a1 e1 b1 bp1 wWhen a2 e2 b2 bp2) (hb : ¬ b1 = 0) : ruM t at_ e a3 e3 b2 bp2 := by
  subst ho
  obtain ⟨_, _, x, y⟩ := ak.1 hb
  subst x
  subst y
  exact ⟨fun z => absurd z hb, fun _ => s.1.2 hb [30]⟩
theorem ruM_Fw {t : Int → Int} {at_ e o a1 e1 o1 b1 bp1 a2 e2 a3 e3 b2 bp2 : Int} (s : suQ t at_ e o a1 e1 o1 b1 bp1) (ho : o = 0) (ak : akM t a1 e1 b1 bp1 wWhen a2 e2 b2 bp2) (hb : ¬ b2 = 0) : ruM t at_ e a3 e3 b2 bp2 := by
  by_cases h1 : b1 = 0
  · subst ho
    obtain ⟨x, y, z⟩ := (ak.2 h1).2 hb
    subst y
    subst z
    exact ⟨fun z => absurd z hb, fun _ => s.1.1 h1 [30] _ (M2_whenF rfl x (by rw [(s.2 h1).1]; exact (s.2 h1).2))⟩
  · exact ruM_Fs s ho ak h1 (w := 0)
theorem ruM_yes {t : Int → Int} {at_ e o a1 e1 o1 b1 bp1 a2 e2 o3 a3 e3 b2 bp2 b bp : Int} (s : suQ t at_ e o a1 e1 o1 b1 bp1) (ho : o = 0) (ak : akM t a1 e1 b1 bp1 wWhen a2 e2 b2 bp2) (hb2 : b2 = 0) (hb1 : b1 = 0) (ho3 : o3 = 0) (h : tM t a2 e2 o3 a3 e3 b bp) : ruM t at_ e a3 e3 b bp := by
  subst ho
  subst ho3
  obtain ⟨x, y, z⟩ := (ak.2 hb1).1 hb2
  rw [show ((wWhen.length : Nat) : Int) = 4 from rfl] at y
  subst z
  exact ⟨fun hb => s.1.1 hb1 [30] _ (M2_when rfl x y (h.1 hb)), fun hb => s.1.1 hb1 [30] _ (M2_when rfl x y (h.2 hb))⟩
