/-! answers out of tables and steps: the same on both sides -/
theorem rc_iff {a b A B a' b' A' B' : Int} (e1 : a = a') (e2 : b = b') (e3 : A = A') (e4 : B = B') : rcP a b A B ↔ rcP a' b' A' B' := by
  rw [e1, e2, e3, e4]
theorem tb_eq {T w T' w' f g f' to_ by_ ti : Nat → Int32} {lim lim' wt S R S' S2 R2 o u r d st r' y1 y2 l l' res res' z : Int} (pe : plE T w lim T' w' lim' wt S R) (x : XOK T f g S' o u r d) (m : MOK T' f' to_ by_ ti R2 S2 st r') (a : cvQ res (rcP y1 y2 R S) l ((f (6 * y2 + y1).toNat).toInt) ((T (6 * y2 + y1).toNat).toInt) z) (b : cvQ res' (rcP y1 y2 R2 S2) l' ((f' (5 * y1 + y2).toNat).toInt) ((T' (5 * y1 + y2).toNat).toInt) z) (e1 : S' = S2) (e2 : S2 = S) (e3 : R2 = R) (hR : 0 ≤ R ∧ R ≤ 6) (hS : S ≤ 5) (ed : d = st) (h0 : 0 ≤ r') (hl : l = 0 ↔ l' = 0) : res = res' := by
  subst e1
  subst e2
  subst e3
  have le := led_eq pe x m rfl rfl hR.1 ed h0
  refine cv_eq a b Iff.rfl hl (fun h => ?_) (fun h => ?_) rfl
  · unfold rcP at h
    exact congrArg Int32.toInt (le.1 y1 y2 (by omega) (by omega) (by omega) (by omega))
  · unfold rcP at h
    exact pe.1 y1 y2 (by omega) (by omega) (by omega) (by omega)
theorem dwl_eq {T w T' w' f g f' to_ by_ ti : Nat → Int32} {lim lim' wt S R S' S2 R2 o u r d st r' a b : Int} (pe : plE T w lim T' w' lim' wt S R) (x : XOK T f g S' o u r d) (m : MOK T' f' to_ by_ ti R2 S2 st r') (e1 : S' = S2) (e3 : R2 = R) (hR : 0 ≤ R ∧ R ≤ 6) (ed : d = st) (h0 : 0 ≤ r') (ha : 0 ≤ a ∧ a ≤ 4) (hb : 0 ≤ b ∧ b ≤ 4) : dw f a b 6 = prn f' a b R.toNat := by
  subst e3
  have le := led_eq pe x m e1 rfl hR.1 ed h0
  have z : ∀ k : Nat, R2.toNat ≤ k → k < 6 → f (6 * a + (k : Int)).toNat = 0 := fun k h1 h2 => by
    rw [le.1 (k : Int) a (by omega) (by omega) ha.1 ha.2]
    have q := le.2.1 (k : Int) a (by omega) (by omega) (by omega) ha.1 ha.2
    rw [nm_lt (by omega)] at q
    exact q
  rw [dw_prn (g := f') (R := R2.toNat) (fun k hk => ⟨le.1 (k : Int) a (by omega) (by omega) ha.1 ha.2, le.1 (k : Int) b (by omega) (by omega) hb.1 hb.2⟩) z 6 (Nat.le_refl 6)]
  by_cases c : 6 ≤ R2.toNat
  · rw [if_pos c, show R2.toNat = 6 by omega]
  · rw [if_neg c]
theorem dwh_eq {f w f' w' : Nat → Int32} {lim lim' wt S R a b : Int} (pe : plE f w lim f' w' lim' wt S R) (hR : 0 ≤ R ∧ R ≤ 6) (ha : 0 ≤ a ∧ a ≤ 4) (hb : 0 ≤ b ∧ b ≤ 4) : dw f a b 6 = prn f' a b R.toNat := by
  have key : ∀ (k : Nat) (c : Int), 0 ≤ c ∧ c ≤ 4 → k < 6 → f (6 * c + (k : Int)).toNat = f' (5 * (k : Int) + c).toNat := fun k c hc hk => Int32.toInt_inj.mp (pe.1 (k : Int) c (by omega) (by omega) hc.1 (by omega))
  have z : ∀ k : Nat, R.toNat ≤ k → k < 6 → f (6 * a + (k : Int)).toNat = 0 := fun k h1 h2 => Int32.toInt_inj.mp ((pe.2.2.2 (k : Int) a (by omega) (by omega) ha.1 (by omega) (Or.inl (by omega))).trans (show (0 : Int) = (0 : Int32).toInt by decide +kernel))
  rw [dw_prn (g := f') (R := R.toNat) (fun k hk => ⟨key k a ha (by omega), key k b hb (by omega)⟩) z 6 (Nat.le_refl 6)]
  by_cases c : 6 ≤ R.toNat
  · rw [if_pos c, show R.toNat = 6 by omega]
  · rw [if_neg c]
theorem pd_eq {T w T' w' f g f' to_ by_ ti : Nat → Int32} {lim lim' wt S R S' S2 R2 o u r d st r' y1 y2 l l' res res' z : Int} (pe : plE T w lim T' w' lim' wt S R) (x : XOK T f g S' o u r d) (m : MOK T' f' to_ by_ ti R2 S2 st r') (a : cvQ res (rcP y1 y2 S S) l ((dw f y1 y2 6).toInt) ((dw T y1 y2 6).toInt) z) (b : cvQ res' (rcP y1 y2 S2 S2) l' ((prn f' y1 y2 R2.toNat).toInt) ((prn T' y1 y2 R2.toNat).toInt) z) (e1 : S' = S2) (e2 : S2 = S) (e3 : R2 = R) (hR : 0 ≤ R ∧ R ≤ 6) (hS : S ≤ 5) (ed : d = st) (h0 : 0 ≤ r') (hl : l = 0 ↔ l' = 0) : res = res' := by
  subst e2
  subst e3
  refine cv_eq a b Iff.rfl hl (fun h => ?_) (fun h => ?_) rfl
  · unfold rcP at h
    exact congrArg Int32.toInt (dwl_eq pe x m e1 rfl hR ed h0 (by omega) (by omega))
  · unfold rcP at h
    exact congrArg Int32.toInt (dwh_eq pe hR (by omega) (by omega))
theorem sp_eq {T w T' w' f g f' to_ by_ ti : Nat → Int32} {lim lim' wt S R S' S2 R2 o u r d st r' k c res res' u' u2 : Int} (pe : plE T w lim T' w' lim' wt S R) (x : XOK T f g S' o u r d) (m : MOK T' f' to_ by_ ti R2 S2 st r') (a : stP9 res k c u (g (sl o k)).toInt (g (sl o k + 1)).toInt (g (sl o k + 2)).toInt) (b : stP9 res' k c u' (to_ (st - u' + k).toNat).toInt (by_ (st - u' + k).toNat).toInt (ti (st - u' + k).toNat).toInt) (e1 : S' = S2) (e2 : S2 = S) (e3 : R2 = R) (hR : 0 ≤ R ∧ R ≤ 6) (ed : d = st) (eu : u = u') (h0 : 0 ≤ r') : res = res' := by
  subst e2
  subst e3
  subst eu
  have le := led_eq pe x m e1 rfl hR.1 ed h0
  refine st9_eq a b rfl rfl rfl (fun k0 k1 => ?_)
  obtain ⟨q1, q2, q3⟩ := le.2.2 k.toNat (by omega)
  rw [show ((k.toNat : Nat) : Int) = k by omega] at q1 q2 q3
  exact ⟨q1, q2, congrArg Int32.toInt q3⟩
