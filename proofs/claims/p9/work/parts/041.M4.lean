/-! behind a part -/
theorem mks_noM {w : Nat → Int32} {b : Int} (hb : 0 ≤ b) : ∀ (k : Nat) {n2 n : Int}, noM w n2 n → b ≤ n2 → n = n2 + (k : Int) → mks false w b n = mks false w b n2
  | 0, n2, n, _, _, e => by rw [show n = n2 by omega]
  | k + 1, n2, n, h, h1, e => by
    have a := h (n - 1) (by omega) (by omega)
    rw [mks_drop hb (n2 := n - 1) (by omega) (by omega) rfl (noMk_s a)]
    exact mks_noM hb k (fun j p q => h j p (by omega)) h1 (by omega)
theorem mks_no {w : Nat → Int32} {b n2 n : Int} (h : noM w n2 n) (hb : 0 ≤ b) (h1 : b ≤ n2) (h2 : n2 ≤ n) : mks false w b n = mks false w b n2 := mks_noM hb (n - n2).toNat h h1 (by omega)
theorem mk_hd {w : Nat → Int32} {b n r : Int} (h : mkQ w b n r) (hb : 0 ≤ b) (hn : b ≤ n) : (r = -1 ∧ mks false w b n = []) ∨ (20 ≤ r ∧ r ≤ 24 ∧ ∃ K : List Int, mks false w b n = r :: K) := by
  rcases h with ⟨h1, h2⟩ | ⟨k, h1, h2, h3, h4, h5⟩
  · exact Or.inl ⟨h1, by rw [mks_no h2 hb (by omega) hn]; exact mks_nil (by omega)⟩
  · unfold pM at h4
    refine Or.inr ⟨by omega, by omega, mks false w b k, ?_⟩
    rw [mks_no h5 hb (by omega) (by omega)]
    exact mks_pop hb h1 rfl h3 (isMk_s (by omega))
theorem so_mks {A : List Int → aOu → Prop} {t : Int → Int} {ph at_ e o b bp : Int} {K K2 : List Int} (h : soQ A t ph at_ e o K b bp) (ek : K = K2) : soQ A t ph at_ e o K2 b bp := ek ▸ h
theorem so_close {A : List Int → aOu → Prop} {t : Int → Int} {at_ e o b bp q c a2 o2 bs n n1 n2 r : Int} {w : Nat → Int32} (h : soQ A t 2 at_ e o (mks false w bs n) b bp) (hb : b = 0) (e1 : q = skp t at_) (he : e ≤ q) (e2 : c = t q) (hc : c = 41) (hN : noM w n1 n) (hbs : 0 ≤ bs) (h1 : bs < n1) (h2 : n1 ≤ n) (hr : (w (n1 - 1).toNat).toInt = r) (hm : r = 20 ∨ r = 23 ∨ r = 24) (ha : a2 = q + 1) (hn2 : n2 = n1 - 1) (ho : o2 = o - 1) : soQ A t 2 a2 e o2 (mks false w bs n2) b bp := by
  subst ho
  subst hn2
  refine so_step h hb hb (fun R out k => ?_)
  rw [mks_no hN hbs (by omega) h2, mks_pop hbs (n2 := n1 - 1) (by omega) (by omega) hr (isMk_s (by omega))]
  exact M2_close e1 he (by omega) hm ha k
theorem so_op {A : List Int → aOu → Prop} {t : Int → Int} {at_ e o b bp a2 c r : Int} {K : List Int} (h : soQ A t 2 at_ e o K b bp) (hb : b = 0) (ts : tsM t at_ c a2 r) (hr : ¬ r = 0) (hx : c = 42 ∨ c = 47 ∨ c = 43 ∨ c = 45) (he : e ≤ at_) : soQ A t 1 a2 e o K b bp := by
  obtain ⟨h1, h2⟩ := ts.1 hr
  refine so_step h hb hb (fun R out k => M2_op rfl ?_ h1 hx h2 k)
  have := skp_ge (t := t) (p := at_)
  omega
theorem so_tsno {A : List Int → aOu → Prop} {t : Int → Int} {ph at_ e o b bp a2 c r : Int} {K : List Int} (h : soQ A t ph at_ e o K b bp) (ts : tsM t at_ c a2 r) (hr : r = 0) (hi : skp t (skp t at_) = skp t at_) : soQ A t ph a2 e o K b bp := so_look h (ts.2 hr).2 hi
theorem ts_nc {t : Int → Int} {at_ a2 c r : Int} (ts : tsM t at_ c a2 r) (hr : r = 0) (hi : skp t (skp t at_) = skp t at_) : ¬ t (skp t a2) = c ∧ skp t a2 = skp t at_ := by
  obtain ⟨h1, h2⟩ := ts.2 hr
  rw [h2, hi]
  exact ⟨h1, rfl⟩
theorem so_comma {A : List Int → aOu → Prop} {t : Int → Int} {at_ e o b bp a2 bs n n1 r c b2 bp2 : Int} {w w2 : Nat → Int32} {x : Int32} (h : soQ A t 2 at_ e o (mks false w bs n) b bp) (hb : b = 0) (hs : asM t at_ b bp c a2 b2 bp2) (hc : c = 44) (hb2 : b2 = 0) (he : e ≤ at_) (hN : noM w n1 n) (hbs : 0 ≤ bs) (h1 : bs < n1) (h2 : n1 ≤ n) (hr : (w (n1 - 1).toNat).toInt = r) (hm : r = 21 ∨ r = 22) (hw : w2 = upd w (n1 - 1).toNat x) (hx : x.toInt = r + 2) : soQ A t 1 a2 e o (mks false w2 bs n1) b2 bp2 := by
  subst hw
  subst hc
  obtain ⟨s1, s2⟩ := (hs.2 hb).1 hb2
  refine so_step h hb hb2 (fun R out k => ?_)
  rw [mks_no hN hbs (by omega) h2, mks_pop hbs (n2 := n1 - 1) (by omega) (by omega) hr (isMk_s (by omega))]
  rw [mks_push hbs (n := n1 - 1) (by omega) (by omega) hx (isMk_s (by omega))] at k
  have := skp_ge (t := t) (p := at_)
  exact M2_comma rfl (by omega) s1 hm s2 k
theorem so_commaF {A : List Int → aOu → Prop} {t : Int → Int} {ph at_ e o b bp a2 e2 o2 r c b2 bp2 : Int} {K K2 K3 : List Int} (h : soQ A t 2 at_ e o K b bp) (hb : b = 0) (hs : asM t at_ b bp c a2 b2 bp2) (hc : c = 44) (hb2 : ¬ b2 = 0) (hk : K = r :: K2) (hm : r = 21 ∨ r = 22) (hn : ¬ (t (skp t at_) = 42 ∨ t (skp t at_) = 47 ∨ t (skp t at_) = 43 ∨ t (skp t at_) = 45)) : soQ A t ph a2 e2 o2 K3 b2 bp2 := by
  subst hc
  obtain ⟨s1, s2, s3⟩ := (hs.2 hb).2 hb2
  subst s2
  subst s3
  subst hk
  exact so_fail h hb (by decide) (fun R => M2_commaF rfl s1 hm hn)
theorem so_closeF {A : List Int → aOu → Prop} {t : Int → Int} {ph at_ e o b bp a2 e2 o2 r b2 bp2 : Int} {K K2 K3 : List Int} (h : soQ A t 2 at_ e o K b bp) (hb : b = 0) (hi : skp t at_ = at_) (hc : ¬ t at_ = 41) (hk : K = r :: K2) (hm : r = 20 ∨ r = 23 ∨ r = 24) (hn : ¬ (t at_ = 42 ∨ t at_ = 47 ∨ t at_ = 43 ∨ t at_ = 45)) (hb2 : b2 = 1) (hbp : bp2 = at_) : soQ A t ph a2 e2 o2 K3 b2 bp2 := by
  subst hb2
  subst hbp
  subst hk
  exact so_fail h hb (by decide) (fun R => M2_closeF hi.symm hc hm hn)
theorem mks_dropP {g : Bool} {w : Nat → Int32} {b n n2 v : Int} (hb : 0 ≤ b) (hn : b ≤ n2) (e2 : n2 = n - 1) (hx : (w (n - 1).toNat).toInt = v) (hm : ¬ isMk g v) : mks g w b n = mks g w b n2 := by
  subst e2
  exact mks_drop hb hn (by omega) hx hm
theorem mk_eq {w : Nat → Int32} {b n r v : Int} (h : mkQ w b n r) (hb : 0 ≤ b) (hn : b ≤ n) (e : hd9 (mks false w b n) = v) (hv : 20 ≤ v ∧ v ≤ 24) : r = v := by
  rcases mk_hd h hb hn with ⟨_, h2⟩ | ⟨_, _, K, h2⟩
  · rw [h2] at e
    have e : (99 : Int) = v := e
    omega
  · rw [h2] at e
    exact e
theorem nc_of {w : Nat → Int32} {b n r1 r2 r3 : Int} (m1 : mkQ w b n r1) (m2 : mkQ w b n r2) (m3 : mkQ w b n r3) (hb : 0 ≤ b) (hn : b ≤ n) (n1 : ¬ r1 = 20) (n2 : ¬ r2 = 23) (n3 : ¬ r3 = 24) : ¬ (hd9 (mks false w b n) = 20 ∨ hd9 (mks false w b n) = 23 ∨ hd9 (mks false w b n) = 24) := by
  intro h
  rcases h with h | h | h
  · exact n1 (mk_eq m1 hb hn h (by omega))
  · exact n2 (mk_eq m2 hb hn h (by omega))
  · exact n3 (mk_eq m3 hb hn h (by omega))
theorem mk_K {w : Nat → Int32} {b n r : Int} (h : mkQ w b n r) (hb : 0 ≤ b) (hn : b ≤ n) (hr : ¬ r = -1) : 20 ≤ r ∧ r ≤ 24 ∧ ∃ K : List Int, mks false w b n = r :: K := by
  rcases mk_hd h hb hn with ⟨h1, _⟩ | h2
  · exact absurd h1 hr
  · exact h2
/-- behind goesOn that asks no more: nothing of the sum is open, and no sign follows -/
def enQ (t : Int → Int) (at_ : Int) (K : List Int) : Prop := K = [] ∧ skp t at_ = at_ ∧ ¬ (t at_ = 42 ∨ t at_ = 47 ∨ t at_ = 43 ∨ t at_ = 45)
theorem cl_of {w : Nat → Int32} {b n r1 r2 r3 : Int} (m1 : mkQ w b n r1) (n1 : ¬ r1 = 21) (m2 : mkQ w b n r2) (n2 : ¬ r2 = 22) (m3 : mkQ w b n r3) (n3 : ¬ r3 = -1) (hb : 0 ≤ b) (hn : b ≤ n) : (r3 = 20 ∨ r3 = 23 ∨ r3 = 24) ∧ hd9 (mks false w b n) = r3 ∧ ∃ K : List Int, mks false w b n = r3 :: K := by
  obtain ⟨h1, h2, K, h3⟩ := mk_K m3 hb hn n3
  have e : hd9 (mks false w b n) = r3 := by rw [h3]; rfl
  have a := mk_eq m1 hb hn e (by omega)
  have c := mk_eq m2 hb hn e (by omega)
  exact ⟨by omega, e, K, h3⟩
