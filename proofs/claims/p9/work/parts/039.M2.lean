/-! signs and words of the reference -/
theorem sk_nb {t : Int → Int} {n : Int} (ht : ∀ j, n ≤ j → ¬ isBl (t j)) : ∀ (k : Nat) (p : Int), n - p ≤ (k : Int) → ¬ isBl (t (sk t k p))
  | 0, p, h => by
    show ¬ isBl (t p)
    exact ht p (by omega)
  | k + 1, p, h => by
    show ¬ isBl (t (ci (isBl (t p)) (sk t k (p + 1)) p))
    by_cases c : isBl (t p)
    · rw [ci_pos c]
      exact sk_nb ht k (p + 1) (by omega)
    · rw [ci_neg c]
      exact c
theorem skp_id {f : Nat → Int32} {n p : Int} (h0 : 0 ≤ p) (hn : n ≤ 1700) : skp (tau f n) (skp (tau f n) p) = skp (tau f n) p := by
  refine skp_self (sk_nb (n := n) (fun j hj => ?_) 1700 p (by omega))
  rw [tau_out (Or.inr hj)]
  unfold isBl
  omega
theorem so_look {A : List Int → aOu → Prop} {t : Int → Int} {ph at_ e o b bp q : Int} {K : List Int} (h : soQ A t ph at_ e o K b bp) (e1 : q = skp t at_) (hi : skp t (skp t at_) = skp t at_) : soQ A t ph q e o K b bp := by
  subst e1
  exact ⟨fun hb R out k => h.1 hb R out ((Rm_skip rfl hi).mp k), h.2⟩
def tsM (t : Int → Int) (at_ c a2 r : Int) : Prop := (¬ r = 0 → t (skp t at_) = c ∧ a2 = skp t at_ + 1) ∧ (r = 0 → ¬ t (skp t at_) = c ∧ a2 = skp t at_)
theorem tsM_yes {t : Int → Int} {at_ c a2 r q r0 : Int} (e1 : q = skp t at_) (e2 : r0 = t q) (hc : r0 = c) (ha : a2 = q + 1) (hr : ¬ r = 0) : tsM t at_ c a2 r := by
  subst e1
  exact ⟨fun _ => ⟨by omega, ha⟩, fun e => absurd e hr⟩
theorem tsM_no {t : Int → Int} {at_ c a2 r q r0 : Int} (e1 : q = skp t at_) (e2 : r0 = t q) (hc : ¬ r0 = c) (ha : a2 = q) (hr : r = 0) : tsM t at_ c a2 r := by
  subst e1
  exact ⟨fun e => absurd hr e, fun _ => ⟨by omega, ha⟩⟩
def asM (t : Int → Int) (at_ b bp c a2 b2 bp2 : Int) : Prop := (¬ b = 0 → a2 = at_ ∧ b2 = b ∧ bp2 = bp) ∧ (b = 0 → (b2 = 0 → t (skp t at_) = c ∧ a2 = skp t at_ + 1) ∧ (¬ b2 = 0 → ¬ t (skp t at_) = c ∧ b2 = 1 ∧ bp2 = skp t at_))
theorem asM_no {t : Int → Int} {at_ b bp c a2 b2 bp2 : Int} (h : ¬ b = 0) (h2 : a2 = at_) (h3 : b2 = b ∧ bp2 = bp) : asM t at_ b bp c a2 b2 bp2 := ⟨fun _ => ⟨h2, h3⟩, fun e => absurd e h⟩
theorem asM_yes {t : Int → Int} {at_ b bp c a2 b2 bp2 r : Int} (h : tsM t at_ c a2 r) (hr : ¬ r = 0) (h2 : b2 = 0) (hb : b = 0) : asM t at_ b bp c a2 b2 bp2 := ⟨fun e => absurd hb e, fun _ => ⟨fun _ => h.1 hr, fun e => absurd h2 e⟩⟩
theorem asM_bad {t : Int → Int} {at_ b bp c a1 a2 b2 bp2 r : Int} (h : tsM t at_ c a1 r) (hr : r = 0) (h2 : b2 = 1) (h3 : bp2 = a1) (hb : b = 0) : asM t at_ b bp c a2 b2 bp2 := ⟨fun e => absurd hb e, fun _ => ⟨fun e => absurd h2 (by omega), fun _ => ⟨(h.2 hr).1, h2, h3.trans (h.2 hr).2⟩⟩⟩
def rowL (f : Nat → Int32) (n : Nat) : List Int := (List.range n).map (fun j => (f j).toInt)
theorem rowL_len {f : Nat → Int32} {n : Nat} : ((rowL f n).length : Int) = (n : Int) := by
  unfold rowL
  rw [List.length_map, List.length_range]
theorem rowL_at {f : Nat → Int32} {n j : Nat} (h : j < n) : (rowL f n).getD j 0 = (f j).toInt := by
  unfold rowL
  rw [List.getD_eq_getElem?_getD, List.getElem?_map, List.getElem?_range h]
  rfl
def smL (w : List Int) : Prop := ∀ a ∈ w, 97 ≤ a ∧ a ≤ 122
theorem smL_at {w : List Int} (h : smL w) {j : Nat} (hj : j < w.length) : 97 ≤ w.getD j 0 ∧ w.getD j 0 ≤ 122 := by
  have e : w.getD j 0 = w[j] := by rw [List.getD_eq_getElem?_getD, List.getElem?_eq_getElem hj]; rfl
  rw [e]
  exact h _ (List.getElem_mem hj)
theorem wa_nl {t : Int → Int} {q sg r : Int} {w : List Int} (h : ¬ (97 ≤ t q ∧ t q ≤ 122)) (hs : smL w) (hn : ¬ w = []) (hr : r = 0) : waQ t q sg w r := by
  refine ⟨fun e => absurd hr e, fun _ hw => ?_⟩
  cases w with
  | nil => exact hn rfl
  | cons a w =>
    have := wd_0 hw
    have := hs a List.mem_cons_self
    omega
/-- from a to b small letters alone -/
def sms (t : Int → Int) (a b : Int) : Prop := a ≤ b ∧ ∀ j, a ≤ j → j < b → 97 ≤ t j ∧ t j ≤ 122
theorem sms_nil {t : Int → Int} {a : Int} : sms t a a := ⟨by omega, fun j h k => absurd h (by omega)⟩
theorem sms_up {t : Int → Int} {a b b2 : Int} (h : sms t a b) (hb : 97 ≤ t b ∧ t b ≤ 122) (e : b2 = b + 1) : sms t a b2 := by
  subst e
  refine ⟨by have := h.1; omega, fun j h1 h2 => ?_⟩
  by_cases e : j = b
  · subst e; exact hb
  · exact h.2 j h1 (by omega)
theorem wa_len {t : Int → Int} {q sg r k : Int} {w : List Int} (h : sms t q k) (hk : ¬ (97 ≤ t k ∧ t k ≤ 122)) (hs : smL w) (hn : ¬ k - q = (w.length : Int)) (hr : r = 0) : waQ t q sg w r := by
  refine ⟨fun e => absurd hr e, fun _ hw => ?_⟩
  have h1 := h.1
  by_cases c : k - q < (w.length : Int)
  · have a := mt_to w hw.2.1 (k - q).toNat (by omega)
    have b := smL_at hs (j := (k - q).toNat) (by omega)
    rw [← a, show q + (((k - q).toNat : Nat) : Int) = k by omega] at b
    exact hk b
  · exact hw.2.2 (h.2 (q + (w.length : Int)) (by omega) (by omega))
def tkM (t : Int → Int) (at_ e : Int) (w : List Int) (a2 e2 r : Int) : Prop := (¬ r = 0 → wd t (skp t at_) (sgn t (skp t at_) e) w ∧ a2 = skp t at_ + (w.length : Int) ∧ e2 = a2) ∧ (r = 0 → ¬ wd t (skp t at_) (sgn t (skp t at_) e) w ∧ a2 = skp t at_ ∧ e2 = e)
theorem tkM_yes {t : Int → Int} {at_ e a2 e2 r r1 q : Int} {w : List Int} (h : waQ t q (sgn t q e) w r1) (h1 : ¬ r1 = 0) (e1 : q = skp t at_) (ha : a2 = q + (w.length : Int)) (he : e2 = a2) (hr : ¬ r = 0) : tkM t at_ e w a2 e2 r := by
  subst e1
  exact ⟨fun _ => ⟨h.1 h1, ha, he⟩, fun x => absurd x hr⟩
theorem tkM_no {t : Int → Int} {at_ e r r1 q : Int} {w : List Int} (h : waQ t q (sgn t q e) w r1) (h1 : r1 = 0) (e1 : q = skp t at_) (hr : r = 0) : tkM t at_ e w q e r := by
  subst e1
  exact ⟨fun x => absurd hr x, fun _ => ⟨h.2 h1, rfl, rfl⟩⟩
def akM (t : Int → Int) (at_ e b bp : Int) (w : List Int) (a2 e2 b2 bp2 : Int) : Prop := (¬ b = 0 → a2 = at_ ∧ e2 = e ∧ b2 = b ∧ bp2 = bp) ∧ (b = 0 → (b2 = 0 → wd t (skp t at_) (sgn t (skp t at_) e) w ∧ a2 = skp t at_ + (w.length : Int) ∧ e2 = a2) ∧ (¬ b2 = 0 → ¬ wd t (skp t at_) (sgn t (skp t at_) e) w ∧ b2 = 1 ∧ bp2 = skp t at_))
theorem akM_no {t : Int → Int} {at_ e b bp a2 e2 b2 bp2 : Int} {w : List Int} (h : ¬ b = 0) (h2 : a2 = at_ ∧ e2 = e ∧ b2 = b ∧ bp2 = bp) : akM t at_ e b bp w a2 e2 b2 bp2 := ⟨fun _ => h2, fun x => absurd x h⟩
theorem akM_yes {t : Int → Int} {at_ e b bp a2 e2 b2 bp2 r : Int} {w : List Int} (h : tkM t at_ e w a2 e2 r) (hr : ¬ r = 0) (h2 : b2 = 0) (hb : b = 0) : akM t at_ e b bp w a2 e2 b2 bp2 := ⟨fun x => absurd hb x, fun _ => ⟨fun _ => h.1 hr, fun x => absurd h2 x⟩⟩
theorem akM_bad {t : Int → Int} {at_ e b bp a1 a2 e1 e2 b2 bp2 r : Int} {w : List Int} (h : tkM t at_ e w a1 e1 r) (hr : r = 0) (h2 : b2 = 1) (h3 : bp2 = a1) (hb : b = 0) : akM t at_ e b bp w a2 e2 b2 bp2 := ⟨fun x => absurd hb x, fun _ => ⟨fun x => absurd h2 (by omega), fun _ => ⟨(h.2 hr).1, h2, h3.trans (h.2 hr).2.1⟩⟩⟩
def nbM (t : Int → Int) (at_ e b bp lo hi a2 e2 b2 bp2 r : Int) : Prop := (¬ b = 0 → a2 = at_ ∧ e2 = e ∧ b2 = b ∧ bp2 = bp ∧ r = 0) ∧ (b = 0 → (b2 = 0 → isDg (sgn t (skp t at_) e) ∧ nd t (skp t at_) ≤ 4 ∧ r = nvn t (skp t at_) ∧ lo ≤ r ∧ r ≤ hi ∧ a2 = skp t at_ + nd t (skp t at_) ∧ e2 = a2) ∧ (¬ b2 = 0 → (b2 = 1 ∧ ((¬ isDg (sgn t (skp t at_) e) ∧ bp2 = skp t at_) ∨ (isDg (sgn t (skp t at_) e) ∧ nd t (skp t at_) = 5 ∧ bp2 = skp t at_ + 4))) ∨ (b2 = 2 ∧ bp2 = skp t at_ ∧ isDg (sgn t (skp t at_) e) ∧ nd t (skp t at_) ≤ 4 ∧ ¬ (lo ≤ nvn t (skp t at_) ∧ nvn t (skp t at_) ≤ hi))))
theorem nbM_no {t : Int → Int} {at_ e b bp lo hi a2 e2 b2 bp2 r : Int} (h : ¬ b = 0) (h2 : a2 = at_ ∧ e2 = e ∧ b2 = b ∧ bp2 = bp ∧ r = 0) : nbM t at_ e b bp lo hi a2 e2 b2 bp2 r := ⟨fun _ => h2, fun x => absurd x h⟩
theorem nbM_nd {t : Int → Int} {at_ e b bp lo hi a2 e2 b2 bp2 r q r0 : Int} (e1 : q = skp t at_) (e2' : r0 = t q) (hd : ¬ (48 ≤ r0 ∧ r0 ≤ 57) ∨ q = e) (h2 : b2 = 1) (h3 : bp2 = q) (hb : b = 0) : nbM t at_ e b bp lo hi a2 e2 b2 bp2 r := by
  subst e1
  refine ⟨fun x => absurd hb x, fun _ => ⟨fun x => absurd x (by omega), fun _ => Or.inl ⟨h2, Or.inl ⟨?_, h3⟩⟩⟩⟩
  unfold sgn
  by_cases a : skp t at_ = e ∧ (isSm (t (skp t at_)) ∨ isDg (t (skp t at_)))
  · rw [ci_pos a]; unfold isDg; omega
  · rw [ci_neg a]
    unfold isDg at a ⊢
    rcases hd with c | c
    · omega
    · intro d
      exact a ⟨c, Or.inr d⟩
theorem sgn_dg {t : Int → Int} {q e r0 : Int} (e2 : r0 = t q) (hd : 48 ≤ r0 ∧ r0 ≤ 57) (hn : ¬ q = e) : isDg (sgn t q e) := by
  rw [sgn_ne hn]
  unfold isDg
  omega
theorem nbM_five {t : Int → Int} {at_ e b bp lo hi a2 e2 b2 bp2 r q r0 n p : Int} (e1 : q = skp t at_) (e2' : r0 = t q) (hd : 48 ≤ r0 ∧ r0 ≤ 57) (hne : ¬ q = e) (h : dgs t q n) (hn : n = 4) (hp : p = q + n) (hx : 48 ≤ t p ∧ t p ≤ 57) (h2 : b2 = 1) (h3 : bp2 = p) (hb : b = 0) : nbM t at_ e b bp lo hi a2 e2 b2 bp2 r := by
  subst e1
  exact ⟨fun x => absurd hb x, fun _ => ⟨fun x => absurd x (by omega), fun _ => Or.inl ⟨h2, Or.inr ⟨sgn_dg e2' hd hne, nd_at (dgs_up h (n' := 5) (by omega) hp rfl hx) (by omega) (fun q => absurd q (by omega)), by omega⟩⟩⟩⟩
theorem nbM_yes {t : Int → Int} {at_ e b bp lo hi a2 e2 b2 bp2 r q r0 n : Int} (e1 : q = skp t at_) (e2' : r0 = t q) (hd : 48 ≤ r0 ∧ r0 ≤ 57) (hne : ¬ q = e) (h : dgs t q n) (hn : n ≤ 4) (ha : a2 = q + n) (nn : ¬ (48 ≤ t a2 ∧ t a2 ≤ 57)) (hv : r = nvk t q n.toNat) (hr : lo ≤ r ∧ r ≤ hi) (h2 : b2 = 0 ∧ e2 = a2) (hb : b = 0) : nbM t at_ e b bp lo hi a2 e2 b2 bp2 r := by
  subst e1
  have e9 : nd t (skp t at_) = n := nd_at h (by omega) (fun _ => by rw [← ha]; exact nn)
  exact ⟨fun x => absurd hb x, fun _ => ⟨fun _ => ⟨sgn_dg e2' hd hne, by omega, by unfold nvn; rw [e9]; exact hv, hr.1, hr.2, by rw [e9]; exact ha, h2.2⟩, fun x => absurd h2.1 x⟩⟩
theorem nbM_out {t : Int → Int} {at_ e b bp lo hi a2 a3 e2 b2 bp2 r r9 q r0 n : Int} (e1 : q = skp t at_) (e2' : r0 = t q) (hd : 48 ≤ r0 ∧ r0 ≤ 57) (hne : ¬ q = e) (h : dgs t q n) (hn : n ≤ 4) (ha : a3 = q + n) (nn : ¬ (48 ≤ t a3 ∧ t a3 ≤ 57)) (hv : r = nvk t q n.toNat) (hr : ¬ (lo ≤ r ∧ r ≤ hi)) (h2 : b2 = 2 ∧ bp2 = q) (hb : b = 0) : nbM t at_ e b bp lo hi a2 e2 b2 bp2 r9 := by
  subst e1
  have e9 : nd t (skp t at_) = n := nd_at h (by omega) (fun _ => by rw [← ha]; exact nn)
  exact ⟨fun x => absurd hb x, fun _ => ⟨fun x => absurd h2.1 (by omega), fun _ => Or.inr ⟨h2.1, h2.2, sgn_dg e2' hd hne, by omega, by unfold nvn; rw [e9, ← hv]; exact hr⟩⟩⟩
theorem wa_w {t : Int → Int} {q sg r : Int} {w w2 : List Int} (e : w = w2) (h : waQ t q sg w r) : waQ t q sg w2 r := e ▸ h
theorem tk_w {t : Int → Int} {at_ e a2 e2 r : Int} {w w2 : List Int} (e1 : w = w2) (h : tkM t at_ e w a2 e2 r) : tkM t at_ e w2 a2 e2 r := e1 ▸ h
theorem ak_w {t : Int → Int} {at_ e b bp a2 e2 b2 bp2 : Int} {w w2 : List Int} (e1 : w = w2) (h : akM t at_ e b bp w a2 e2 b2 bp2) : akM t at_ e b bp w2 a2 e2 b2 bp2 := e1 ▸ h
theorem so_tkno {A : List Int → aOu → Prop} {t : Int → Int} {ph at_ e o b bp a2 e2 r : Int} {K w : List Int} (h : soQ A t ph at_ e o K b bp) (tk : tkM t at_ e w a2 e2 r) (hr : r = 0) (hi : skp t (skp t at_) = skp t at_) : soQ A t ph a2 e2 o K b bp := by
  obtain ⟨_, h2, h3⟩ := tk.2 hr
  subst h3
  exact so_look h h2 hi
theorem tk_not {t : Int → Int} {at_ e a2 e2 r : Int} {w : List Int} (tk : tkM t at_ e w a2 e2 r) (hr : r = 0) (hi : skp t (skp t at_) = skp t at_) : ¬ wd t (skp t a2) (sgn t (skp t a2) e2) w ∧ skp t a2 = skp t at_ ∧ e2 = e := by
  obtain ⟨h1, h2, h3⟩ := tk.2 hr
  subst h3
  rw [h2, hi]
  exact ⟨h1, rfl, rfl⟩
/-- the place is the same: what is no word there is none here -/
theorem nw_at {t : Int → Int} {q q2 e e2 : Int} {w : List Int} (h : ¬ wd t q (sgn t q e) w) (h1 : q2 = q) (h2 : e2 = e) : ¬ wd t q2 (sgn t q2 e2) w := by
  subst h1
  subst h2
  exact h
