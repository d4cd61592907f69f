/-! one part of a sum -/
def opX (o b bp o2 b2 bp2 pl : Int) (w w2 : Nat → Int32) (n n2 : Int) (x : Int32) : Prop := (o = 6 ∧ b2 = 3 ∧ bp2 = pl ∧ o2 = o ∧ w2 = w ∧ n2 = n) ∨ (¬ o = 6 ∧ o2 = o + 1 ∧ b2 = b ∧ bp2 = bp ∧ w2 = upd w n.toNat x ∧ n2 = n + 1)
theorem isMk_s {v : Int} (h : 20 ≤ v ∧ v ≤ 24) : isMk false v := h
theorem isMk_t {v : Int} (h : v = 16 ∨ v = 25) : isMk true v := h
theorem noMk_s {v : Int} (h : ¬ (20 ≤ v ∧ v ≤ 24)) : ¬ isMk false v := h
theorem noMk_t {v : Int} (h : ¬ (v = 16 ∨ v = 25)) : ¬ isMk true v := h
theorem so_open {A : List Int → aOu → Prop} {t : Int → Int} {at_ e o b bp q c a2 o2 b2 bp2 pl bs n n2 : Int} {w w2 : Nat → Int32} {x : Int32} (h : soQ A t 1 at_ e o (mks false w bs n) b bp) (hb : b = 0) (e1 : q = skp t at_) (he : e ≤ q) (e2 : c = t q) (hc : c = 40) (ox : opX o b bp o2 b2 bp2 pl w w2 n n2 x) (hp : pl = q) (hx : x.toInt = 20) (ha : a2 = q + 1) (hbs : 0 ≤ bs) (hn : bs ≤ n) : soQ A t 1 a2 e o2 (mks false w2 bs n2) b2 bp2 := by
  rcases ox with ⟨o6, hb2, hbp2, _, _, _⟩ | ⟨o6, ho2, hb2, _, hw2, hn2⟩
  · subst hb2
    refine so_fail h hb (by decide) (fun R => ?_)
    rw [hbp2, hp]
    exact M1_parF e1 (by omega) o6
  · subst ho2
    subst hw2
    refine so_step h hb (by omega) (fun R out k => ?_)
    rw [mks_push hbs hn hn2 hx (isMk_s (by omega))] at k
    exact M1_par e1 he (by omega) o6 ha k
theorem so_word {A : List Int → aOu → Prop} {t : Int → Int} {ph at_ e o b bp a2 e2 r : Int} {K w0 w1 : List Int} (h : soQ A t 1 at_ e o K b bp) (hb : b = 0) (tk : tkM t at_ e w0 a2 e2 r) (hr : ¬ r = 0) (hw : (ph = 5 ∧ w0 = wMin) ∨ (ph = 6 ∧ w0 = wMax) ∨ (ph = 2 ∧ (w0 = wSender ∨ w0 = wSquare ∨ w0 = wPeak))) : soQ A t ph a2 e2 o K b bp := by
  obtain ⟨h1, h2, h3⟩ := tk.1 hr
  subst h3
  refine so_step h hb hb (fun R out k => ?_)
  rcases hw with ⟨a, c⟩ | ⟨a, c⟩ | ⟨a, c⟩
  · subst a
    subst c
    exact M1_Min rfl h1 h2 k
  · subst a
    subst c
    exact M1_Max rfl h1 h2 k
  · subst a
    rcases c with c | c | c
    · subst c
      exact M1_six rfl (Or.inl h1) h2 k
    · subst c
      exact M1_six rfl (Or.inr h1) h2 k
    · subst c
      exact M1_Peak rfl h1 h2 k
theorem ak_tk {t : Int → Int} {at_ e b bp a2 e2 b2 bp2 : Int} {w : List Int} (h : akM t at_ e b bp w a2 e2 b2 bp2) (hb : b = 0) (hw : wd t (skp t at_) (sgn t (skp t at_) e) w) : b2 = 0 ∧ tkM t at_ e w a2 e2 1 := by
  have q := h.2 hb
  by_cases c : b2 = 0
  · exact ⟨c, fun _ => q.1 c, fun x => absurd x (by decide)⟩
  · exact absurd hw (q.2 c).1
/-- behind min or max: an open sign follows and is put, or none follows -/
def joQ (A : List Int → aOu → Prop) (t : Int → Int) (at_ e o : Int) (K : List Int) (b bp : Int) : Prop := (t at_ = 40 ∧ soQ A t 1 (at_ + 1) e o K b bp) ∨ (¬ t at_ = 40 ∧ b = 0 ∧ ∃ ph : Int, (ph = 5 ∨ ph = 6) ∧ soQ A t ph at_ e o K b bp)
theorem jo_no {A : List Int → aOu → Prop} {t : Int → Int} {ph at_ e o b bp q c : Int} {K : List Int} (h : soQ A t ph at_ e o K b bp) (hb : b = 0) (hp : ph = 5 ∨ ph = 6) (e1 : q = skp t at_) (hi : skp t q = q) (e2 : c = t q) (hc : ¬ c = 40) : joQ A t q e o K b bp := by
  refine Or.inr ⟨by omega, hb, ph, hp, so_step h hb hb (fun R out k => (Rm_skip e1 hi).mp k)⟩
theorem jo_open {A : List Int → aOu → Prop} {t : Int → Int} {ph at_ e o b bp q c o2 b2 bp2 pl bs n n2 : Int} {w w2 : Nat → Int32} {x : Int32} (h : soQ A t ph at_ e o (mks false w bs n) b bp) (hb : b = 0) (hp : ph = 5 ∨ ph = 6) (e1 : q = skp t at_) (he : e ≤ q) (e2 : c = t q) (hc : c = 40) (ox : opX o b bp o2 b2 bp2 pl w w2 n n2 x) (hpl : pl = q) (hx : x.toInt = ph + 16) (hbs : 0 ≤ bs) (hn : bs ≤ n) : joQ A t q e o2 (mks false w2 bs n2) b2 bp2 := by
  refine Or.inl ⟨by omega, ?_⟩
  rcases ox with ⟨o6, hb2, hbp2, _, _, _⟩ | ⟨o6, ho2, hb2, _, hw2, hn2⟩
  · subst hb2
    refine so_fail h hb (by decide) (fun R => ?_)
    rw [hbp2, hpl]
    exact M5_F3 e1 hp (by omega) o6
  · subst ho2
    subst hw2
    refine so_step h hb (by omega) (fun R out k => ?_)
    rw [mks_push hbs hn hn2 hx (isMk_s (by omega))] at k
    exact M5_go e1 he (by omega) hp o6 rfl k
theorem jo_sign {A : List Int → aOu → Prop} {t : Int → Int} {at_ e o b bp a2 b2 bp2 c : Int} {K : List Int} (h : joQ A t at_ e o K b bp) (hi : skp t at_ = at_) (hs : asM t at_ b bp c a2 b2 bp2) (hc : c = 40) : soQ A t 1 a2 e o K b2 bp2 := by
  subst hc
  by_cases hb : b = 0
  · obtain ⟨s1, s2⟩ := hs.2 hb
    rw [hi] at s1 s2
    rcases h with ⟨h1, h2⟩ | ⟨h1, _, ph, hp, h2⟩
    · by_cases c : b2 = 0
      · have q := (s1 c).2
        subst q
        exact so_step h2 hb c (fun _ _ k => k)
      · exact absurd h1 (s2 c).1
    · by_cases c : b2 = 0
      · exact absurd (s1 c).1 h1
      · obtain ⟨_, q1, q2⟩ := s2 c
        subst q1
        subst q2
        exact so_fail h2 hb (by decide) (fun R => M5_F1 hi.symm hp h1)
  · obtain ⟨q1, q2, q3⟩ := hs.1 hb
    subst q2
    subst q3
    rcases h with ⟨_, h2⟩ | ⟨_, h2, _⟩
    · exact so_keep h2 hb
    · exact absurd h2 hb
theorem ndk_dg {t : Int → Int} : ∀ (k : Nat) (q : Int), 0 ≤ ndk t k q ∧ ∀ j, q ≤ j → j < q + ndk t k q → isDg (t j)
  | 0, q => ⟨by show (0 : Int) ≤ 0; omega, fun j a b => absurd b (by show ¬ j < q + 0; omega)⟩
  | k + 1, q => by
    have ih := ndk_dg (t := t) k (q + 1)
    show 0 ≤ ci (isDg (t q)) (1 + ndk t k (q + 1)) 0 ∧ ∀ j, q ≤ j → j < q + ci (isDg (t q)) (1 + ndk t k (q + 1)) 0 → isDg (t j)
    by_cases c : isDg (t q)
    · rw [ci_pos c]
      refine ⟨by have := ih.1; omega, fun j a b => ?_⟩
      by_cases e : j = q
      · subst e; exact c
      · exact ih.2 j (by omega) (by omega)
    · rw [ci_neg c]
      exact ⟨by omega, fun j a b => absurd a (by omega)⟩
theorem nvn_rng {t : Int → Int} {q : Int} (h : nd t q ≤ 4) : 0 ≤ nvn t q ∧ nvn t q ≤ 9999 := by
  have hd := ndk_dg (t := t) 5 q
  have h0 : 0 ≤ nd t q := hd.1
  have h1 : ∀ j, q ≤ j → j < q + nd t q → isDg (t j) := hd.2
  unfold isDg at h1
  unfold nvn
  rcases (show nd t q = 0 ∨ nd t q = 1 ∨ nd t q = 2 ∨ nd t q = 3 ∨ nd t q = 4 by omega) with e | e | e | e | e
  · rw [e]; show (0 : Int) ≤ 0 ∧ (0 : Int) ≤ 9999; omega
  · have a := h1 (q + 0) (by omega) (by omega)
    rw [e]
    show 0 ≤ 10 * 0 + t (q + 0) - 48 ∧ 10 * 0 + t (q + 0) - 48 ≤ 9999
    omega
  · have a := h1 (q + 0) (by omega) (by omega)
    have b := h1 (q + 1) (by omega) (by omega)
    rw [e]
    show 0 ≤ 10 * (10 * 0 + t (q + 0) - 48) + t (q + 1) - 48 ∧ 10 * (10 * 0 + t (q + 0) - 48) + t (q + 1) - 48 ≤ 9999
    omega
  · have a := h1 (q + 0) (by omega) (by omega)
    have b := h1 (q + 1) (by omega) (by omega)
    have c := h1 (q + 2) (by omega) (by omega)
    rw [e]
    show 0 ≤ 10 * (10 * (10 * 0 + t (q + 0) - 48) + t (q + 1) - 48) + t (q + 2) - 48 ∧ 10 * (10 * (10 * 0 + t (q + 0) - 48) + t (q + 1) - 48) + t (q + 2) - 48 ≤ 9999
    omega
  · have a := h1 (q + 0) (by omega) (by omega)
    have b := h1 (q + 1) (by omega) (by omega)
    have c := h1 (q + 2) (by omega) (by omega)
    have d := h1 (q + 3) (by omega) (by omega)
    rw [e]
    show 0 ≤ 10 * (10 * (10 * (10 * 0 + t (q + 0) - 48) + t (q + 1) - 48) + t (q + 2) - 48) + t (q + 3) - 48 ∧ 10 * (10 * (10 * (10 * 0 + t (q + 0) - 48) + t (q + 1) - 48) + t (q + 2) - 48) + t (q + 3) - 48 ≤ 9999
    omega
theorem so_num {A : List Int → aOu → Prop} {t : Int → Int} {at_ e o b bp a2 e2 b2 bp2 r lo hi : Int} {K : List Int} (h : soQ A t 1 at_ e o K b bp) (hb : b = 0) (nb : nbM t at_ e b bp lo hi a2 e2 b2 bp2 r) (hl : lo ≤ 0) (hh : 9999 ≤ hi) (hs : ¬ t (skp t at_) = 40) (h1 : ¬ wd t (skp t at_) (sgn t (skp t at_) e) wMin) (h2 : ¬ wd t (skp t at_) (sgn t (skp t at_) e) wMax) (h3 : ¬ wd t (skp t at_) (sgn t (skp t at_) e) wSender) (h4 : ¬ wd t (skp t at_) (sgn t (skp t at_) e) wSquare) (h5 : ¬ wd t (skp t at_) (sgn t (skp t at_) e) wPeak) : soQ A t 2 a2 e2 o K b2 bp2 := by
  obtain ⟨y, n⟩ := nb.2 hb
  by_cases c : b2 = 0
  · obtain ⟨q1, q2, _, _, _, q3, q4⟩ := y c
    subst q4
    subst q3
    exact so_step h hb c (fun R out k => R1_num q1 sgn_sv rfl q2 rfl k)
  · rcases n c with ⟨q1, q2⟩ | ⟨_, _, _, q4, q5⟩
    · subst q1
      refine so_fail h hb (by decide) (fun R => ?_)
      rcases q2 with ⟨q2, q3⟩ | ⟨q2, q3, q4⟩
      · subst q3
        exact R1_numF q2 (sgn_nc hs (by decide)) h1 h2 h3 h4 h5
      · subst q4
        exact R1_num5 q2 sgn_sv q3
    · have q6 := nvn_rng q4
      exact absurd ⟨by omega, by omega⟩ q5
theorem so_bad {A : List Int → aOu → Prop} {t : Int → Int} {ph at_ e o b bp b2 bp2 : Int} {K : List Int} (h : soQ A t ph at_ e o K b bp) (hb : b = 0) (hb2 : b2 = 0) : soQ A t ph at_ e o K b2 bp2 := so_step h hb hb2 (fun _ _ k => k)
theorem mx_of {t : Int → Int} {at_ e a2 e2 r : Int} (wm : wd t at_ (sgn t at_ e) wMin ∨ wd t at_ (sgn t at_ e) wMax) (tk : tkM t at_ e wMin a2 e2 r) (hr : r = 0) (hi : skp t at_ = at_) : wd t (skp t a2) (sgn t (skp t a2) e2) wMax := by
  obtain ⟨h1, h2, h3⟩ := tk.2 hr
  subst h3
  rw [hi] at h1 h2
  subst h2
  rw [hi]
  exact wm.resolve_left h1
