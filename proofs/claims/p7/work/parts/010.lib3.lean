section
/-! rows told exactly; the reference's text of sums and tests: what waits, what is laid -/
section G3
variable {p : Program} {l : Launch} {e : Env} {R : Room} {s : State} {m : MethodId} {args : Array Value} {below : List Frame} {meth : Method} {c : Code} {cells slots : Nat} {Q : State → Prop} {D : va_G} {tys : List (ClassId × FieldType)} {ws : va_W} {H H0 : Heap} {locs : List Loc} {A : Nat → Prop} {a pc : Nat} {ls : Array Slot} {rest : List Value} {cc : ByteArray}
theorem e_iastore {cl : List vw_C} (hexec : p.tables.exec = Jvm.exec) (hb : c.code = cc) (hK : va_K D cl tys s) (hP : va_P D cl ws H) (hD : va_D A ws) (hS : va_S A H0 H locs) (q0 t0 : Nat) {cA : ClassId} {n : Nat} {f : Nat → Int32} (ha : ws[q0]? = some (a, .inl (cA, n, .inl f))) (ht : tys[t0]? = some (cA, .int)) {i : Int32} {x : Int32} (hin : vp_in i n) (hdg : decode cc pc = .ok (.iastore, 1))
    (kk : ∀ (f' : Nat → Int32), f' = upd f (i.toInt).toNat x → ∀ (H1 : Heap) (locs1 : List Loc), va_P D cl (ws.set q0 (a, .inl (cA, n, .inl f'))) H1 → va_D A (ws.set q0 (a, .inl (cA, n, .inl f'))) → va_S A H0 H1 locs1 → W p l e R s m args below meth c H1 locs1 cells slots Q (F0 m (pc + 1) ls rest)) : W p l e R s m args below meth c H locs cells slots Q (F0 m pc ls (.int x :: .int i :: .ref a :: rest)) :=
  va_iast hexec hb hK hP hD hS q0 t0 ha ht hin hdg (fun H1 locs1 h1 h2 h3 => kk _ rfl H1 locs1 h1 h2 h3)
end G3
theorem e_at {f g : Nat → Int32} {i j : Int} {x : Int32} (h : g = upd f i.toNat x) (e : i = j) : g = upd f j.toNat x := by rw [h, e]
theorem e_val {f g : Nat → Int32} {n : Nat} {x y : Int32} (h : g = upd f n x) (e : y = x) : g = upd f n y := by rw [h, e]
theorem e_ld {f : Nat → Int32} {i j : Int} {z : Int32} (h : z = f i.toNat) (e : i = j) : f j.toNat = z := by rw [h, e]
theorem u_eq {f : Nat → Int32} {n k : Nat} {x : Int32} (h : k = n) : upd f n x k = x := by unfold upd; rw [if_pos h]
theorem u_ne {f : Nat → Int32} {n k : Nat} {x : Int32} (h : ¬ k = n) : upd f n x k = f k := by unfold upd; rw [if_neg h]
def pF (f g : Nat → Int32) (n : Int) : Prop := ∀ j : Nat, (j : Int) < n → g j = f j
theorem pF_refl {f : Nat → Int32} {n : Int} : pF f f n := fun _ _ => rfl
theorem pF_trans {f g h : Nat → Int32} {n m : Int} (h1 : pF f g n) (h2 : pF g h m) (hn : n ≤ m) : pF f h n := fun j hj => (h2 j (by omega)).trans (h1 j hj)
theorem pF_upd {f g h : Nat → Int32} {n m : Int} {v : Int32} (h1 : pF f g n) (h2 : h = upd g m.toNat v) (hn : n ≤ m) : pF f h n := by
  intro j hj
  rw [h2, u_ne (by omega)]
  exact h1 j hj
def pM (v : Int32) : Prop := 20 ≤ v.toInt ∧ v.toInt ≤ 24
def noM (f : Nat → Int32) (a b : Int) : Prop := ∀ j : Int, a ≤ j → j < b → ¬ pM (f j.toNat)
theorem noM_nil {f : Nat → Int32} {a b : Int} (h : b ≤ a) : noM f a b := fun _ h1 h2 => absurd h1 (by omega)
theorem noM_sub {f : Nat → Int32} {a b a' b' : Int} (h : noM f a b) (h1 : a ≤ a') (h2 : b' ≤ b) : noM f a' b' := fun j q1 q2 => h j (by omega) (by omega)
theorem noM_ext {f : Nat → Int32} {a a' b : Int} {z : Int32} (h : noM f a b) (e : a' + 1 = a) (hz : f a'.toNat = z) (hm : ¬ (20 ≤ z.toInt ∧ z.toInt ≤ 24)) : noM f a' b := by
  intro j h1 h2
  by_cases q : j = a'
  · subst q; rw [hz]; exact hm
  · exact h j (by omega) h2
def mkQ (f : Nat → Int32) (b w r : Int) : Prop := (r = -1 ∧ noM f b w) ∨ (∃ k : Int, b ≤ k ∧ k < w ∧ (f k.toNat).toInt = r ∧ pM (f k.toNat) ∧ noM f (k + 1) w)
theorem mkQ_no {f : Nat → Int32} {b w r k : Int} (h : noM f (k + 1) w) (hk : k < b) (hr : r = -1) : mkQ f b w r := Or.inl ⟨hr, noM_sub h (by omega) (Int.le_refl _)⟩
theorem mkQ_yes {f : Nat → Int32} {b w r k : Int} {z : Int32} (h : noM f (k + 1) w) (hz : f k.toNat = z) (hr : r = z.toInt) (hm : 20 ≤ z.toInt ∧ z.toInt ≤ 24) (h1 : b ≤ k) (h2 : k < w) : mkQ f b w r :=
  Or.inr ⟨k, h1, h2, by rw [hz, hr], by rw [hz]; exact hm, h⟩
theorem mk_none {f : Nat → Int32} {b w r : Int} (h : mkQ f b w r) (hr : r = -1) : noM f b w := by
  rcases h with h | ⟨k, h1, h2, h3, h4, _⟩
  · exact h.2
  · unfold pM at h4; omega
theorem mk_drop {f : Nat → Int32} {b w w' r : Int} (h : mkQ f b w r) (hn : noM f w' w) (ht : w' ≤ b ∨ pM (f (w' - 1).toNat)) (hw : w' ≤ w) (hr : ¬ r = -1) : b < w' ∧ (f (w' - 1).toNat).toInt = r := by
  rcases h with h | ⟨k, h1, h2, h3, h4, h5⟩
  · exact absurd h.1 hr
  · have q1 : k < w' := by
      rcases Int.lt_or_le k w' with q | q
      · exact q
      · exact absurd h4 (hn k q h2)
    have q2 : w' ≤ k + 1 := by
      rcases ht with q | q
      · omega
      · rcases Int.lt_or_le k (w' - 1) with q3 | q3
        · exact absurd q (h5 (w' - 1) (by omega) (by omega))
        · omega
    have q3 : w' - 1 = k := by omega
    exact ⟨by omega, by rw [q3]; exact h3⟩
def onQ (r w t v : Int) : Prop := (r = 1 ∧ 0 < w ∧ t = v) ∨ (r = 0 ∧ (w ≤ 0 ∨ t ≠ v))
theorem onQ_yes {r w t v : Int} (h : onQ r w t v) (hr : ¬ r = 0) : 0 < w ∧ t = v := by
  rcases h with h | h
  · exact h.2
  · exact absurd h.1 hr
theorem onQ_no {r w t v : Int} (h : onQ r w t v) (hr : r = 0) : w ≤ 0 ∨ t ≠ v := by
  rcases h with h | h
  · omega
  · exact h.2
def opQ (b b' : Int) (f f' : Nat → Int32) (w w' : Int) (v : Int32) : Prop := (b' ≠ 0 ∧ f' = f ∧ w' = w) ∨ (b' = b ∧ w' = w + 1 ∧ f' = upd f w.toNat v)
def noSq (f : Nat → Int32) (w : Int) : Prop := ∀ k : Nat, (k : Int) < w → ¬ (f k).toInt = 25
def hasQ (f : Nat → Int32) (w : Int) : Prop := ∃ k : Nat, (k : Int) < w ∧ (f k).toInt = 25
theorem noSq_sub {f : Nat → Int32} {w w' : Int} (h : noSq f w) (hw : w' ≤ w) : noSq f w' := fun k hk => h k (by omega)
theorem noSq_ext {f : Nat → Int32} {w w' : Int} {z : Int32} (h : noSq f w) (hz : f w.toNat = z) (hn : ¬ z.toInt = 25) (h0 : 0 ≤ w) (e : w' = w + 1) : noSq f w' := by
  intro k hk
  by_cases q : (k : Int) = w
  · have : k = w.toNat := by omega
    rw [this, hz]; exact hn
  · exact h k (by omega)
theorem hasQ_pos {f : Nat → Int32} {w : Int} (h : hasQ f w) : 0 < w := by
  obtain ⟨k, h1, _⟩ := h
  omega
theorem hasQ_drop {f : Nat → Int32} {w w' : Int} (h : hasQ f w) (ht : ¬ (f (w - 1).toNat).toInt = 25) (e : w' = w - 1) : hasQ f w' := by
  obtain ⟨k, h1, h2⟩ := h
  refine ⟨k, ?_, h2⟩
  by_cases q : (k : Int) = w - 1
  · have : (w - 1).toNat = k := by omega
    rw [this] at ht; exact absurd h2 ht
  · omega
/-! depths -/
def pNeed (v : Int32) : Nat := if v.toInt = 1 ∨ v.toInt = 2 ∨ v.toInt = 3 ∨ v.toInt = 4 ∨ v.toInt = 14 ∨ v.toInt = 15 ∨ v.toInt = 23 ∨ v.toInt = 24 then 1 else 0
def pB (f : Nat → Int32) : Nat → Nat
  | 0 => 0
  | n + 1 => pB f n + pNeed (f n)
def pStep (v : Int32) (d : Nat) : Option Nat :=
  if v.toInt ≥ 1000 ∨ v.toInt = 17 ∨ (7 ≤ v.toInt ∧ v.toInt ≤ 9) then some (d + 1)
  else if v.toInt = 16 then (if 1 ≤ d then some d else none)
  else if 2 ≤ d then some (d - 1) else none
def pD (f : Nat → Int32) (a : Nat) : Nat → Option Nat
  | 0 => some 0
  | n + 1 => (pD f a n).bind (pStep (f (a + n)))
theorem pB_congr {f g : Nat → Int32} : ∀ n : Nat, (∀ k, k < n → f k = g k) → pB f n = pB g n
  | 0, _ => rfl
  | n + 1, h => by
    show pB f n + pNeed (f n) = pB g n + pNeed (g n)
    rw [pB_congr n (fun k hk => h k (by omega)), h n (by omega)]
theorem pD_congr {f g : Nat → Int32} {a : Nat} : ∀ n : Nat, (∀ k, k < n → f (a + k) = g (a + k)) → pD f a n = pD g a n
  | 0, _ => rfl
  | n + 1, h => by
    show (pD f a n).bind (pStep (f (a + n))) = (pD g a n).bind (pStep (g (a + n)))
    rw [pD_congr n (fun k hk => h k (by omega)), h n (by omega)]
def pMT (v : Int32) : Prop := v.toInt = 14 ∨ v.toInt = 15 ∨ v.toInt = 16 ∨ v.toInt = 25
def pMS (v : Int32) : Prop := (1 ≤ v.toInt ∧ v.toInt ≤ 4) ∨ (20 ≤ v.toInt ∧ v.toInt ≤ 24)
def PS (wf : Nat → Int32) (w b : Int) (cf : Nat → Int32) (a : Nat) (cd : Int) (q : Nat) : Prop :=
  (0 ≤ b ∧ b ≤ w ∧ 0 ≤ cd ∧ (a : Int) ≤ 1600 + cd) ∧ (∀ k : Nat, (k : Int) < b → pMT (wf k)) ∧ (∀ k : Nat, b ≤ (k : Int) → (k : Int) < w → pMS (wf k)) ∧ pD cf a ((1600 + cd).toNat - a) = some (pB wf w.toNat + q)
theorem ps_T {wf cf : Nat → Int32} {w b cd : Int} {a q : Nat} (h : PS wf w b cf a cd q) (hw : w ≤ b) : PS wf w w cf a cd q := by
  obtain ⟨⟨h1, h2, h3, h4⟩, h5, h6, h7⟩ := h
  have e : b = w := by omega
  subst e
  exact ⟨⟨h1, h2, h3, h4⟩, h5, h6, h7⟩
theorem pD_lay {cf cf' : Nat → Int32} {a d : Nat} {cd cd' : Int} {v : Int32} (h : pD cf a ((1600 + cd).toNat - a) = some d) (e : cf' = upd cf (1600 + cd).toNat v) (h0 : 0 ≤ cd) (ha : (a : Int) ≤ 1600 + cd) (ec : cd' = cd + 1) : pD cf' a ((1600 + cd').toNat - a) = pStep v d := by
  have e1 : (1600 + cd').toNat - a = ((1600 + cd).toNat - a) + 1 := by omega
  rw [e1]
  show (pD cf' a ((1600 + cd).toNat - a)).bind (pStep (cf' (a + ((1600 + cd).toNat - a)))) = _
  have e2 : a + ((1600 + cd).toNat - a) = (1600 + cd).toNat := by omega
  rw [e2, e, u_eq rfl, pD_congr (g := cf) _ (fun k hk => u_ne (by omega)), h]
  rfl
theorem ps_layP {wf cf cf' : Nat → Int32} {w b cd cd' : Int} {a q : Nat} {v : Int32} (h : PS wf w b cf a cd q) (e : cf' = upd cf (1600 + cd).toNat v) (ec : cd' = cd + 1) (hv : 1000 ≤ v.toInt ∨ v.toInt = 17 ∨ (7 ≤ v.toInt ∧ v.toInt ≤ 9)) : PS wf w b cf' a cd' (q + 1) := by
  obtain ⟨⟨h1, h2, h3, h4⟩, h5, h6, h7⟩ := h
  refine ⟨⟨h1, h2, by omega, by omega⟩, h5, h6, ?_⟩
  rw [pD_lay h7 e h3 h4 ec]
  unfold pStep
  rw [if_pos (by omega)]
  rfl
theorem ps_layB {wf cf cf' : Nat → Int32} {w b cd cd' : Int} {a q : Nat} {v : Int32} (h : PS wf w b cf a cd (q + 2)) (e : cf' = upd cf (1600 + cd).toNat v) (ec : cd' = cd + 1) (hv : 11 ≤ v.toInt ∧ v.toInt ≤ 13) : PS wf w b cf' a cd' (q + 1) := by
  obtain ⟨⟨h1, h2, h3, h4⟩, h5, h6, h7⟩ := h
  refine ⟨⟨h1, h2, by omega, by omega⟩, h5, h6, ?_⟩
  rw [pD_lay h7 e h3 h4 ec]
  unfold pStep
  rw [if_neg (by omega), if_neg (by omega), if_pos (by omega)]
  congr 1
theorem pB_top {wf : Nat → Int32} {w w' : Int} (h : 0 < w) (e : w' = w - 1) : pB wf w.toNat = pB wf w'.toNat + pNeed (wf (w - 1).toNat) := by
  have e1 : w.toNat = w'.toNat + 1 := by omega
  have e2 : (w - 1).toNat = w'.toNat := by omega
  rw [e1, e2]
  rfl
theorem need1 {v : Int32} (h : v.toInt = 1 ∨ v.toInt = 2 ∨ v.toInt = 3 ∨ v.toInt = 4 ∨ v.toInt = 14 ∨ v.toInt = 15 ∨ v.toInt = 23 ∨ v.toInt = 24) : pNeed v = 1 := by unfold pNeed; rw [if_pos h]
theorem need0 {v : Int32} (h : ¬ (v.toInt = 1 ∨ v.toInt = 2 ∨ v.toInt = 3 ∨ v.toInt = 4 ∨ v.toInt = 14 ∨ v.toInt = 15 ∨ v.toInt = 23 ∨ v.toInt = 24)) : pNeed v = 0 := by unfold pNeed; rw [if_neg h]
theorem ps_topOp {wf cf : Nat → Int32} {w b cd : Int} {a q : Nat} (h : PS wf w b cf a cd q) (h0 : 0 < w) (hv : 1 ≤ (wf (w - 1).toNat).toInt ∧ (wf (w - 1).toNat).toInt ≤ 4) : b < w := by
  obtain ⟨⟨h1, h2, h3, h4⟩, h5, h6, h7⟩ := h
  rcases Int.lt_or_le b w with q1 | q1
  · exact q1
  · have := h5 (w - 1).toNat (by omega)
    unfold pMT at this
    omega
theorem ps_drop {wf cf cf' : Nat → Int32} {w w' b cd cd' : Int} {a q : Nat} (h : PS wf w b cf a cd (q + 1)) (e : cf' = upd cf (1600 + cd).toNat (wf (w - 1).toNat)) (hm : ¬ pM (wf (w - 1).toNat)) (hb : b < w) (ew : w' = w - 1) (ec : cd' = cd + 1) : PS wf w' b cf' a cd' (q + 1) := by
  obtain ⟨⟨h1, h2, h3, h4⟩, h5, h6, h7⟩ := h
  have hs := h6 (w - 1).toNat (by omega) (by omega)
  unfold pMS at hs
  unfold pM at hm
  refine ⟨⟨h1, by omega, by omega, by omega⟩, h5, fun k k1 k2 => h6 k k1 (by omega), ?_⟩
  rw [pD_lay h7 e h3 h4 ec, pB_top (by omega) ew, need1 (by omega)]
  unfold pStep
  rw [if_neg (by omega), if_neg (by omega), if_pos (by omega)]
  congr 1; omega
theorem ps_dropOp {wf cf cf' : Nat → Int32} {w w' b cd cd' : Int} {a q : Nat} (h : PS wf w b cf a cd (q + 1)) (e : cf' = upd cf (1600 + cd).toNat (wf (w - 1).toNat)) (h0 : 0 < w) (hv : 1 ≤ (wf (w - 1).toNat).toInt ∧ (wf (w - 1).toNat).toInt ≤ 4) (ew : w' = w - 1) (ec : cd' = cd + 1) : PS wf w' b cf' a cd' (q + 1) :=
  ps_drop h e (by unfold pM; omega) (ps_topOp h h0 hv) ew ec
theorem ps_dropT {wf cf cf' : Nat → Int32} {w w' cd cd' : Int} {a q : Nat} (h : PS wf w w cf a cd (q + 1)) (e : cf' = upd cf (1600 + cd).toNat (wf (w - 1).toNat)) (h0 : 0 < w) (hv : ¬ (wf (w - 1).toNat).toInt = 25) (ew : w' = w - 1) (ec : cd' = cd + 1) : PS wf w' w' cf' a cd' (q + 1) := by
  obtain ⟨⟨h1, h2, h3, h4⟩, h5, h6, h7⟩ := h
  have hs := h5 (w - 1).toNat (by omega)
  unfold pMT at hs
  refine ⟨⟨by omega, by omega, by omega, by omega⟩, fun k k1 => h5 k (by omega), fun k k1 k2 => absurd k1 (by omega), ?_⟩
  rw [pD_lay h7 e h3 h4 ec, pB_top (by omega) ew]
  unfold pStep
  by_cases q1 : (wf (w - 1).toNat).toInt = 16
  · rw [need0 (by omega), if_neg (by omega), if_pos q1, if_pos (by omega)]
    congr 1
  · rw [need1 (by omega), if_neg (by omega), if_neg q1, if_pos (by omega)]
    congr 1; omega
theorem pB_push {wf wf' : Nat → Int32} {w w' : Int} {v : Int32} (h : 0 ≤ w) (e : wf' = upd wf w.toNat v) (ew : w' = w + 1) : pB wf' w'.toNat = pB wf w.toNat + pNeed v := by
  have e1 : w'.toNat = w.toNat + 1 := by omega
  rw [e1]
  show pB wf' w.toNat + pNeed (wf' w.toNat) = _
  rw [e, u_eq rfl, pB_congr (g := wf) _ (fun k hk => u_ne (by omega))]
theorem ps_pushS {wf wf' cf : Nat → Int32} {w w' b cd : Int} {a q r : Nat} {v : Int32} (h : PS wf w b cf a cd q) (e : wf' = upd wf w.toNat v) (ew : w' = w + 1) (hv : pMS v) (hq : pNeed v + r = q) : PS wf' w' b cf a cd r := by
  obtain ⟨⟨h1, h2, h3, h4⟩, h5, h6, h7⟩ := h
  refine ⟨⟨h1, by omega, h3, h4⟩, fun k k1 => ?_, fun k k1 k2 => ?_, ?_⟩
  · rw [e, u_ne (by omega)]; exact h5 k k1
  · by_cases q1 : k = w.toNat
    · rw [e, u_eq q1]; exact hv
    · rw [e, u_ne q1]; exact h6 k k1 (by omega)
  · rw [h7, pB_push (by omega) e ew, ← hq]
    congr 1; omega
theorem ps_pushOp {wf wf' cf : Nat → Int32} {w w' b cd : Int} {a q : Nat} {v : Int32} (h : PS wf w b cf a cd (q + 1)) (e : wf' = upd wf w.toNat v) (ew : w' = w + 1) (hv : 1 ≤ v.toInt ∧ v.toInt ≤ 4) : PS wf' w' b cf a cd q :=
  ps_pushS h e ew (Or.inl hv) (by rw [need1 (by omega)]; omega)
theorem ps_opensM {wf wf' cf : Nat → Int32} {w w' b cd bd bd' : Int} {a q : Nat} {v : Int32} (ho : opQ bd bd' wf wf' w w' v) (h : PS wf w b cf a cd q) (hb : bd' = 0) (hv : 20 ≤ v.toInt ∧ v.toInt ≤ 22) : PS wf' w' b cf a cd q := by
  rcases ho with ho | ⟨_, ew, e⟩
  · exact absurd hb ho.1
  · exact ps_pushS h e ew (Or.inr (by omega)) (by rw [need0 (by omega)]; omega)
theorem ps_pushT {wf wf' cf : Nat → Int32} {w w' cd : Int} {a q r : Nat} {v : Int32} (h : PS wf w w cf a cd q) (e : wf' = upd wf w.toNat v) (ew : w' = w + 1) (hv : pMT v) (hq : pNeed v + r = q) : PS wf' w' w' cf a cd r := by
  obtain ⟨⟨h1, h2, h3, h4⟩, h5, h6, h7⟩ := h
  refine ⟨⟨by omega, by omega, h3, h4⟩, fun k k1 => ?_, fun k k1 k2 => absurd k1 (by omega), ?_⟩
  · by_cases q1 : k = w.toNat
    · rw [e, u_eq q1]; exact hv
    · rw [e, u_ne q1]; exact h5 k (by omega)
  · rw [h7, pB_push (by omega) e ew, ← hq]
    congr 1; omega
theorem ps_pushA {wf wf' cf : Nat → Int32} {w w' cd : Int} {a q : Nat} {v : Int32} (h : PS wf w w cf a cd (q + 1)) (e : wf' = upd wf w.toNat v) (ew : w' = w + 1) (hv : v.toInt = 14 ∨ v.toInt = 15) : PS wf' w' w' cf a cd q :=
  ps_pushT h e ew (by unfold pMT; omega) (by rw [need1 (by omega)]; omega)
theorem ps_opensT {wf wf' cf : Nat → Int32} {w w' cd bd bd' : Int} {a q : Nat} {v : Int32} (ho : opQ bd bd' wf wf' w w' v) (h : PS wf w w cf a cd q) (hb : bd' = 0) (hv : v.toInt = 16 ∨ v.toInt = 25) : PS wf' w' w' cf a cd q := by
  rcases ho with ho | ⟨_, ew, e⟩
  · exact absurd hb ho.1
  · exact ps_pushT h e ew (by unfold pMT; omega) (by rw [need0 (by omega)]; omega)
theorem ps_close0 {wf cf : Nat → Int32} {w w' b cd : Int} {a q : Nat} (h : PS wf w b cf a cd q) (hb : b < w) (hv : (wf (w - 1).toNat).toInt = 20) (ew : w' = w - 1) : PS wf w' b cf a cd q := by
  obtain ⟨⟨h1, h2, h3, h4⟩, h5, h6, h7⟩ := h
  refine ⟨⟨h1, by omega, h3, h4⟩, h5, fun k k1 k2 => h6 k k1 (by omega), ?_⟩
  rw [h7, pB_top (by omega) ew, need0 (by omega)]
  rfl
theorem ps_closeT {wf cf : Nat → Int32} {w w' cd : Int} {a q : Nat} (h : PS wf w w cf a cd q) (h0 : 0 < w) (hv : (wf (w - 1).toNat).toInt = 25) (ew : w' = w - 1) : PS wf w' w' cf a cd q := by
  obtain ⟨⟨h1, h2, h3, h4⟩, h5, h6, h7⟩ := h
  refine ⟨⟨by omega, by omega, h3, h4⟩, fun k k1 => h5 k (by omega), fun k k1 k2 => absurd k1 (by omega), ?_⟩
  rw [h7, pB_top (by omega) ew, need0 (by omega)]
  rfl
theorem ps_closeM {wf cf cf' : Nat → Int32} {w w' b cd cd' : Int} {a q : Nat} {v : Int32} (h : PS wf w b cf a cd (q + 1)) (e : cf' = upd cf (1600 + cd).toNat v) (hb : b < w) (hw : (wf (w - 1).toNat).toInt = 23 ∨ (wf (w - 1).toNat).toInt = 24) (ew : w' = w - 1) (ec : cd' = cd + 1) (hv : v.toInt = 5 ∨ v.toInt = 6) : PS wf w' b cf' a cd' (q + 1) := by
  obtain ⟨⟨h1, h2, h3, h4⟩, h5, h6, h7⟩ := h
  refine ⟨⟨h1, by omega, by omega, by omega⟩, h5, fun k k1 k2 => h6 k k1 (by omega), ?_⟩
  rw [pD_lay h7 e h3 h4 ec, pB_top (by omega) ew, need1 (by omega)]
  unfold pStep
  rw [if_neg (by omega), if_neg (by omega), if_pos (by omega)]
  congr 1; omega
theorem ps_comma {wf wf' cf : Nat → Int32} {w b cd : Int} {a q : Nat} {v : Int32} (h : PS wf w b cf a cd (q + 1)) (e : wf' = upd wf (w - 1).toNat v) (hb : b < w) (hw : (wf (w - 1).toNat).toInt = 21 ∨ (wf (w - 1).toNat).toInt = 22) (hv : v.toInt = 23 ∨ v.toInt = 24) : PS wf' w b cf a cd q := by
  obtain ⟨⟨h1, h2, h3, h4⟩, h5, h6, h7⟩ := h
  refine ⟨⟨h1, h2, h3, h4⟩, fun k k1 => ?_, fun k k1 k2 => ?_, ?_⟩
  · rw [e, u_ne (by omega)]; exact h5 k k1
  · by_cases q1 : k = (w - 1).toNat
    · rw [e, u_eq q1]; exact Or.inr (by omega)
    · rw [e, u_ne q1]; exact h6 k k1 k2
  · rw [h7, pB_top (wf := wf) (w' := w - 1) (by omega) rfl, pB_top (wf := wf') (w' := w - 1) (by omega) rfl, need0 (v := wf (w - 1).toNat) (by omega), pB_congr (f := wf') (g := wf) _ (fun k hk => by rw [e]; exact u_ne (by omega)), e, u_eq rfl, need1 (by omega)]
    congr 1; omega
/-! the rules that were told: their codes have all that they take -/
def RI (o : Nat) (n : Int) (cf sf se te : Nat → Int32) (cd : Int) : Prop := ∀ k : Nat, (k : Int) < n → (0 ≤ (sf (8 * o + k)).toInt ∧ (sf (8 * o + k)).toInt ≤ (se (8 * o + k)).toInt ∧ (se (8 * o + k)).toInt ≤ (te (8 * o + k)).toInt ∧ (te (8 * o + k)).toInt ≤ cd) ∧ pD cf (1600 * o + ((sf (8 * o + k)).toInt).toNat) (((se (8 * o + k)).toInt - (sf (8 * o + k)).toInt).toNat) ≠ none ∧ pD cf (1600 * o + ((se (8 * o + k)).toInt).toNat) (((te (8 * o + k)).toInt - (se (8 * o + k)).toInt).toNat) ≠ none
theorem RI_nil {o : Nat} {n cd : Int} {cf sf se te : Nat → Int32} (h : n ≤ 0) : RI o n cf sf se te cd := fun k hk => absurd hk (by omega)
theorem RI_frame {o : Nat} {n cd cd' : Int} {cf cf' sf se te : Nat → Int32} (h : RI o n cf sf se te cd) (hf : pF cf cf' (1600 * (o : Int) + cd)) (hc : cd ≤ cd') : RI o n cf' sf se te cd' := by
  intro k hk
  obtain ⟨⟨h1, h2, h3, h4⟩, h5, h6⟩ := h k hk
  refine ⟨⟨h1, h2, h3, by omega⟩, ?_, ?_⟩
  · rw [pD_congr (g := cf) _ (fun j hj => hf _ (by omega))]; exact h5
  · rw [pD_congr (g := cf) _ (fun j hj => hf _ (by omega))]; exact h6
theorem RI_rows {o : Nat} {n cd : Int} {cf sf se te sf' se' te' : Nat → Int32} (h : RI o n cf sf se te cd) (h1 : ∀ k : Nat, (k : Int) < n → sf' (8 * o + k) = sf (8 * o + k)) (h2 : ∀ k : Nat, (k : Int) < n → se' (8 * o + k) = se (8 * o + k)) (h3 : ∀ k : Nat, (k : Int) < n → te' (8 * o + k) = te (8 * o + k)) : RI o n cf sf' se' te' cd := by
  intro k hk
  rw [h1 k hk, h2 k hk, h3 k hk]
  exact h k hk
theorem RI_add {o : Nat} {n n' cd : Int} {cf sf se te : Nat → Int32} (h : RI o n cf sf se te cd) (e : n' = n + 1) (hn : 0 ≤ n) (k : Nat) (hk : (k : Int) = n) (h1 : 0 ≤ (sf (8 * o + k)).toInt ∧ (sf (8 * o + k)).toInt ≤ (se (8 * o + k)).toInt ∧ (se (8 * o + k)).toInt ≤ (te (8 * o + k)).toInt ∧ (te (8 * o + k)).toInt ≤ cd) (h2 : pD cf (1600 * o + ((sf (8 * o + k)).toInt).toNat) (((se (8 * o + k)).toInt - (sf (8 * o + k)).toInt).toNat) ≠ none) (h3 : pD cf (1600 * o + ((se (8 * o + k)).toInt).toNat) (((te (8 * o + k)).toInt - (se (8 * o + k)).toInt).toNat) ≠ none) : RI o n' cf sf se te cd := by
  intro j hj
  by_cases q : j = k
  · subst q; exact ⟨h1, h2, h3⟩
  · exact h j (by omega)
theorem PS_seg {wf cf : Nat → Int32} {w b cd : Int} {c0 : Int} {q : Nat} (h : PS wf w b cf (1600 + c0.toNat) cd q) (h0 : 0 ≤ c0) : c0 ≤ cd ∧ pD cf (1600 + c0.toNat) ((cd - c0).toNat) ≠ none := by
  obtain ⟨⟨h1, h2, h3, h4⟩, h5, h6, h7⟩ := h
  have e : (cd - c0).toNat = (1600 + cd).toNat - (1600 + c0.toNat) := by omega
  refine ⟨by omega, ?_⟩
  rw [e, h7]
  exact fun q => nomatch q
theorem PS_start {wf cf : Nat → Int32} {w cd : Int} (hw : w = 0) (h : 0 ≤ cd) : PS wf w w cf (1600 + cd.toNat) cd 0 := by
  subst hw
  refine ⟨⟨by omega, by omega, h, by omega⟩, fun k k1 => absurd k1 (by omega), fun k k1 k2 => absurd k2 (by omega), ?_⟩
  have e : (1600 + cd).toNat - (1600 + cd.toNat) = 0 := by omega
  rw [e]
  rfl
theorem pD_shift {f g : Nat → Int32} {a b : Nat} : ∀ n : Nat, (∀ k, k < n → f (a + k) = g (b + k)) → pD f a n = pD g b n
  | 0, _ => rfl
  | n + 1, h => by
    show (pD f a n).bind (pStep (f (a + n))) = (pD g b n).bind (pStep (g (b + n)))
    rw [pD_shift n (fun k hk => h k (by omega)), h n (by omega)]
theorem RI_worth {n n' c0 c1 c2 i : Int} {cf0 cf1 cf2 sf se te sf' se' te' : Nat → Int32} {v0 v1 v2 : Int32} (h : RI 1 n cf0 sf se te c0) (hn : 0 ≤ n) (en : n' = n + 1) (e1 : sf' = upd sf i.toNat v0) (e2 : se' = upd se i.toNat v1) (e3 : te' = upd te i.toNat v2) (hi : i = 8 + n) (hv0 : v0.toInt = c0) (hv1 : v1.toInt = c1) (hv2 : v2.toInt = c2) (f1 : pF cf0 cf1 (1600 + c0)) (f2 : pF cf1 cf2 (1600 + c1)) (h0 : 0 ≤ c0) (s1 : c0 ≤ c1 ∧ pD cf1 (1600 + c0.toNat) ((c1 - c0).toNat) ≠ none) (s2 : c1 ≤ c2 ∧ pD cf2 (1600 + c1.toNat) ((c2 - c1).toNat) ≠ none) : RI 1 n' cf2 sf' se' te' c2 := by
  have hf : pF cf0 cf2 (1600 * ((1 : Nat) : Int) + c0) := fun j hj => pF_trans f1 f2 (by omega) j (by omega)
  have ho : ∀ k : Nat, (k : Int) < n → ¬ 8 * 1 + k = i.toNat := fun k hk => by omega
  have h9 : RI 1 n cf2 sf' se' te' c2 := RI_rows (RI_frame h hf (by omega)) (fun k hk => by rw [e1, u_ne (ho k hk)]) (fun k hk => by rw [e2, u_ne (ho k hk)]) (fun k hk => by rw [e3, u_ne (ho k hk)])
  have hk : 8 * 1 + n.toNat = i.toNat := by omega
  have q1 : sf' (8 * 1 + n.toNat) = v0 := by rw [e1, u_eq hk]
  have q2 : se' (8 * 1 + n.toNat) = v1 := by rw [e2, u_eq hk]
  have q3 : te' (8 * 1 + n.toNat) = v2 := by rw [e3, u_eq hk]
  refine RI_add h9 en hn n.toNat (by omega) ?_ ?_ ?_
  · rw [q1, q2, q3]; omega
  · rw [q1, q2, hv0, hv1, show 1600 * 1 + c0.toNat = 1600 + c0.toNat by omega, pD_congr (g := cf1) _ (fun j hj => f2 _ (by omega))]; exact s1.2
  · rw [q2, q3, hv1, hv2, show 1600 * 1 + c1.toNat = 1600 + c1.toNat by omega]; exact s2.2
theorem RI0_worth {n c0 i1 i2 i3 : Int} {cf cf' sf se te sf' se' te' : Nat → Int32} {v0 v1 v2 : Int32} (h : RI 0 n cf sf se te 1600) (hn : n ≤ 8) (e1 : sf' = upd sf i1.toNat v0) (e2 : se' = upd se i2.toNat v1) (e3 : te' = upd te i3.toNat v2) (h1 : 8 ≤ i1) (h2 : 8 ≤ i2) (h3 : 8 ≤ i3) (f1 : pF cf cf' (1600 + c0)) (h0 : 0 ≤ c0) : RI 0 n cf' sf' se' te' 1600 :=
  RI_rows (RI_frame h (fun j hj => f1 j (by omega)) (Int.le_refl _)) (fun k hk => by rw [e1, u_ne (by omega)]) (fun k hk => by rw [e2, u_ne (by omega)]) (fun k hk => by rw [e3, u_ne (by omega)])
theorem RI_n {o : Nat} {n n' cd : Int} {cf sf se te : Nat → Int32} (h : RI o n cf sf se te cd) (e : n = n') : RI o n' cf sf se te cd := by rw [← e]; exact h
def CP (f0 f : Nat → Int32) (o : Nat) (k : Int) : Prop := ∀ j : Nat, f j = if (j : Int) < k then f0 (o + j) else f0 j
theorem CP_start {f : Nat → Int32} {o : Nat} {k : Int} (h : k = 0) : CP f f o k := fun j => by rw [if_neg (by omega)]
theorem CP_step {f0 f f' : Nat → Int32} {o : Nat} {k k' i t : Int} {z : Int32} (h : CP f0 f o k) (hz : z = f i.toNat) (hi : i = (o : Int) + k) (e : f' = upd f t.toNat z) (ht : t = k) (h0 : 0 ≤ k) (ek : k' = k + 1) : CP f0 f' o k' := by
  intro j
  have q := h i.toNat
  rw [if_neg (by omega)] at q
  by_cases q1 : j = t.toNat
  · rw [e, u_eq q1, hz, q, if_pos (by omega)]
    congr 1; omega
  · rw [e, u_ne q1, h j]
    by_cases q2 : (j : Int) < k
    · rw [if_pos q2, if_pos (by omega)]
    · rw [if_neg q2, if_neg (by omega)]
theorem RI_stands {n n' cd : Int} {k1 k2 k3 k4 : Int} {cf sf se te cf' sf' se' te' : Nat → Int32} (h : RI 1 n cf sf se te cd) (hn : n ≤ 8) (en : n' = n) (hc : cd ≤ 1600) (c1 : CP cf cf' 1600 k1) (c2 : CP sf sf' 8 k2) (c3 : CP se se' 8 k3) (c4 : CP te te' 8 k4) (g1 : cd ≤ k1) (g2 : 8 ≤ k2) (g3 : 8 ≤ k3) (g4 : 8 ≤ k4) : RI 0 n' cf' sf' se' te' 1600 := by
  intro k hk
  obtain ⟨⟨h1, h2, h3, h4⟩, h5, h6⟩ := h k (by omega)
  have q2 : sf' (8 * 0 + k) = sf (8 * 1 + k) := by rw [c2, if_pos (by omega)]; congr 1; omega
  have q3 : se' (8 * 0 + k) = se (8 * 1 + k) := by rw [c3, if_pos (by omega)]; congr 1; omega
  have q4 : te' (8 * 0 + k) = te (8 * 1 + k) := by rw [c4, if_pos (by omega)]; congr 1; omega
  rw [q2, q3, q4]
  refine ⟨⟨h1, h2, h3, by omega⟩, ?_, ?_⟩
  · rw [pD_shift (g := cf) (b := 1600 * 1 + ((sf (8 * 1 + k)).toInt).toNat) _ (fun j hj => by rw [c1, if_pos (by omega)]; congr 1; omega)]; exact h5
  · rw [pD_shift (g := cf) (b := 1600 * 1 + ((se (8 * 1 + k)).toInt).toNat) _ (fun j hj => by rw [c1, if_pos (by omega)]; congr 1; omega)]; exact h6
theorem RI_sg1 {n cd k : Int} {cf sf se te : Nat → Int32} {z1 z2 : Int32} (h : RI 0 n cf sf se te cd) (h0 : 0 ≤ k) (hk : k < n) (e1 : sf k.toNat = z1) (e2 : se k.toNat = z2) : pD cf (z1.toInt).toNat (z2.toInt - z1.toInt).toNat ≠ none := by
  have q := (h k.toNat (by omega)).2.1
  rw [show 8 * 0 + k.toNat = k.toNat by omega, e1, e2, show 1600 * 0 + (z1.toInt).toNat = (z1.toInt).toNat by omega] at q
  exact q
theorem RI_sg2 {n cd k : Int} {cf sf se te : Nat → Int32} {z1 z2 : Int32} (h : RI 0 n cf sf se te cd) (h0 : 0 ≤ k) (hk : k < n) (e1 : se k.toNat = z1) (e2 : te k.toNat = z2) : pD cf (z1.toInt).toNat (z2.toInt - z1.toInt).toNat ≠ none := by
  have q := (h k.toNat (by omega)).2.2
  rw [show 8 * 0 + k.toNat = k.toNat by omega, e1, e2, show 1600 * 0 + (z1.toInt).toNat = (z1.toInt).toNat by omega] at q
  exact q
/-! what a house is told to have -/
def RD (f : Nat → Int32) : Prop := (2 ≤ (f 0).toInt ∧ (f 0).toInt ≤ 8) ∧ (1 ≤ (f 1).toInt ∧ (f 1).toInt ≤ 5) ∧ (1 ≤ (f 2).toInt ∧ (f 2).toInt ≤ 6) ∧ (0 ≤ (f 3).toInt ∧ (f 3).toInt ≤ (f 2).toInt) ∧ (0 ≤ (f 4).toInt ∧ (f 4).toInt ≤ 16)
theorem RD_3 {f g : Nat → Int32} {n : Nat} {v : Int32} (h : RD f) (e : g = upd f n v) (hn : n = 3) (h1 : 0 ≤ v.toInt) (h2 : v.toInt ≤ (f 2).toInt) : RD g := by
  subst hn; subst e
  obtain ⟨q0, q1, q2, q3, q4⟩ := h
  exact ⟨q0, q1, q2, ⟨h1, h2⟩, q4⟩
theorem RD_4 {f g : Nat → Int32} {n : Nat} {v : Int32} (h : RD f) (e : g = upd f n v) (hn : n = 4) (h1 : 0 ≤ v.toInt) (h2 : v.toInt ≤ 16) : RD g := by
  subst hn; subst e
  obtain ⟨q0, q1, q2, q3, q4⟩ := h
  exact ⟨q0, q1, q2, q3, ⟨h1, h2⟩⟩
theorem RD_5 {f g : Nat → Int32} {n : Nat} {v : Int32} (h : RD f) (e : g = upd f n v) (hn : n = 5) : RD g := by
  subst hn; subst e
  exact h
theorem RD_mk {f f0 f1 f2 f3 f4 f5 : Nat → Int32} {n0 n1 n2 n3 n4 n5 : Nat} {v0 v1 v2 v3 v4 v5 : Int32} (e0 : f0 = upd f n0 v0) (e1 : f1 = upd f0 n1 v1) (e2 : f2 = upd f1 n2 v2) (e3 : f3 = upd f2 n3 v3) (e4 : f4 = upd f3 n4 v4) (e5 : f5 = upd f4 n5 v5) (g0 : n0 = 0) (g1 : n1 = 1) (g2 : n2 = 2) (g3 : n3 = 3) (g4 : n4 = 4) (g5 : n5 = 5) (h0 : 2 ≤ v0.toInt ∧ v0.toInt ≤ 8) (h1 : 1 ≤ v1.toInt ∧ v1.toInt ≤ 5) (h2 : 1 ≤ v2.toInt ∧ v2.toInt ≤ 6) (h3 : v3.toInt = 0) (h4 : v4.toInt = 0) : RD f5 := by
  subst g0; subst g1; subst g2; subst g3; subst g4; subst g5
  subst e0; subst e1; subst e2; subst e3; subst e4; subst e5
  exact ⟨h0, h1, h2, ⟨by show 0 ≤ v3.toInt; omega, by show v3.toInt ≤ v2.toInt; omega⟩, ⟨by show 0 ≤ v4.toInt; omega, by show v4.toInt ≤ 16; omega⟩⟩
/-! rows of letters within bounds -/
def RB (f : Nat → Int32) (a b : Int) : Prop := ∀ j : Nat, a ≤ (j : Int) → (j : Int) < b → -22 ≤ (f j).toInt ∧ (f j).toInt ≤ 22
theorem RB_nil {f : Nat → Int32} {a b : Int} (h : b ≤ a) : RB f a b := fun j h1 h2 => absurd h1 (by omega)
theorem RB_sub {f : Nat → Int32} {a b a' b' : Int} (h : RB f a b) (h1 : a ≤ a') (h2 : b' ≤ b) : RB f a' b' := fun j q1 q2 => h j (by omega) (by omega)
theorem RB_up {f f' : Nat → Int32} {a b b' i : Int} {x z : Int32} (h : RB f a b) (e : f' = upd f i.toNat x) (hi : i = b) (hz : z = f' i.toNat) (h0 : 0 ≤ b) (hb : -22 ≤ z.toInt ∧ z.toInt ≤ 22) (eb : b' = b + 1) : RB f' a b' := by
  intro j h1 h2
  by_cases q : j = i.toNat
  · rw [q, ← hz]; exact hb
  · rw [e, u_ne q]; exact h j h1 (by omega)
theorem RB_dn {f f' : Nat → Int32} {a b a' i : Int} {x : Int32} (h : RB f a b) (e : f' = upd f i.toNat x) (hi : i = a') (h0 : 0 ≤ a') (hb : -22 ≤ x.toInt ∧ x.toInt ≤ 22) (eb : a' + 1 = a) : RB f' a' b := by
  intro j h1 h2
  by_cases q : j = i.toNat
  · rw [e, u_eq q]; exact hb
  · rw [e, u_ne q]; exact h j (by omega) h2
theorem n_sq {d B : Int} (h : -B ≤ d ∧ d ≤ B) : 0 ≤ d * d ∧ d * d ≤ B * B := by
  have h1 : d * d = d.natAbs * d.natAbs := by rw [← Int.natAbs_mul_self' d]
  have h2 : d.natAbs ≤ B.natAbs := by omega
  have h3 : d.natAbs * d.natAbs ≤ B.natAbs * B.natAbs := Nat.mul_le_mul h2 h2
  have h4 : B * B = B.natAbs * B.natAbs := by rw [← Int.natAbs_mul_self' B]
  rw [h1, h4]
  exact ⟨by omega, by exact_mod_cast h3⟩
/-! the numbers gone through -/
def muL (f : Nat → Int32) : Nat → Int
  | 0 => 0
  | n + 1 => 40 * muL f n + (16 - (f n).toInt)
theorem muL_congr {f g : Nat → Int32} : ∀ n : Nat, (∀ k, k < n → f k = g k) → muL f n = muL g n
  | 0, _ => rfl
  | n + 1, h => by
    show 40 * muL f n + (16 - (f n).toInt) = 40 * muL g n + (16 - (g n).toInt)
    rw [muL_congr n (fun k hk => h k (by omega)), h n (by omega)]
theorem muL_upd {f : Nat → Int32} {s : Nat} {y : Int32} : ∀ n : Nat, s < n → muL (upd f s y) n = muL f n + ((f s).toInt - y.toInt) * (40 : Int) ^ (n - 1 - s)
  | 0, h => absurd h (by omega)
  | n + 1, h => by
    show 40 * muL (upd f s y) n + (16 - (upd f s y n).toInt) = 40 * muL f n + (16 - (f n).toInt) + _
    by_cases q : s = n
    · subst q
      rw [u_eq rfl, muL_congr (g := f) s (fun k hk => u_ne (by omega)), show s + 1 - 1 - s = 0 by omega]
      rw [Int.pow_zero]
      omega
    · rw [u_ne (by omega), muL_upd n (by omega), show n + 1 - 1 - s = (n - 1 - s) + 1 by omega, Int.pow_succ]
      have : ((f s).toInt - y.toInt) * ((40 : Int) ^ (n - 1 - s) * 40) = 40 * (((f s).toInt - y.toInt) * (40 : Int) ^ (n - 1 - s)) := by
        rw [← Int.mul_assoc, Int.mul_comm]
      rw [this]
      omega
def RM (f : Nat → Int32) (a b M : Int) : Prop := ∀ j : Nat, a ≤ (j : Int) → (j : Int) < b → -M ≤ (f j).toInt ∧ (f j).toInt ≤ M
theorem RM_nil {f : Nat → Int32} {a b M : Int} (h : b ≤ a) : RM f a b M := fun j h1 h2 => absurd h1 (by omega)
theorem RM_up {f f' : Nat → Int32} {b b' i M : Int} {x : Int32} (h : RM f 0 b M) (e : f' = upd f i.toNat x) (hi : i = b) (h0 : 0 ≤ b) (hb : -M ≤ x.toInt ∧ x.toInt ≤ M) (eb : b' = b + 1) : RM f' 0 b' M := by
  intro j h1 h2
  by_cases q : j = i.toNat
  · rw [e, u_eq q]; exact hb
  · rw [e, u_ne q]; exact h j h1 (by omega)
theorem RM_upd {f f' : Nat → Int32} {b M : Int} {n : Nat} {x : Int32} (h : RM f 0 b M) (e : f' = upd f n x) (hb : -M ≤ x.toInt ∧ x.toInt ≤ M) : RM f' 0 b M := by
  intro j h1 h2
  by_cases q : j = n
  · rw [e, u_eq q]; exact hb
  · rw [e, u_ne q]; exact h j h1 h2
theorem muL_pos {f : Nat → Int32} {M : Int} : ∀ n : Nat, RM f 0 (n : Int) M → M ≤ 16 → 0 ≤ muL f n
  | 0, _, _ => Int.le_refl _
  | n + 1, h, hM => by
    have h1 := muL_pos n (fun j a b => h j a (by omega)) hM
    have h2 := h n (by omega) (by omega)
    show 0 ≤ 40 * muL f n + (16 - (f n).toInt)
    omega
def NX (f0 f : Nat → Int32) (n s M : Int) : Prop := (∀ j : Nat, (j : Int) ≤ s → f j = f0 j) ∧ RM f 0 n M ∧ muL f n.toNat < muL f0 n.toNat + (40 : Int) ^ (n - 1 - s).toNat
theorem NX_start {f : Nat → Int32} {n s M : Int} (h : RM f 0 n M) (hs : s = n - 1) : NX f f n s M := by
  refine ⟨fun _ _ => rfl, h, ?_⟩
  rw [show (n - 1 - s).toNat = 0 by omega, Int.pow_zero]
  omega
theorem NX_skip {f0 f : Nat → Int32} {n s s' M : Int} (h : NX f0 f n s M) (h0 : 0 ≤ s) (h1 : s < n) (e : s' = s - 1) : NX f0 f n s' M := by
  obtain ⟨q1, q2, q3⟩ := h
  refine ⟨fun j hj => q1 j (by omega), q2, ?_⟩
  rw [show (n - 1 - s').toNat = (n - 1 - s).toNat + 1 by omega, Int.pow_succ]
  have : 0 < (40 : Int) ^ (n - 1 - s).toNat := Int.pow_pos (by decide)
  omega
theorem NX_ret {f0 f f' : Nat → Int32} {n s i M : Int} {z y : Int32} (h : NX f0 f n s M) (h0 : 0 ≤ s) (h1 : s < n) (hz : z = f s.toNat) (e : f' = upd f i.toNat y) (hi : i = s) (hy : z.toInt + 1 ≤ y.toInt) (hM : -M ≤ y.toInt ∧ y.toInt ≤ M) : muL f' n.toNat < muL f0 n.toNat ∧ RM f' 0 n M := by
  obtain ⟨q1, q2, q3⟩ := h
  subst hi
  refine ⟨?_, RM_upd q2 e hM⟩
  rw [e, muL_upd _ (by omega), ← hz, show n.toNat - 1 - i.toNat = (n - 1 - i).toNat by omega]
  have hp : 0 < (40 : Int) ^ (n - 1 - i).toNat := Int.pow_pos (by decide)
  have : (z.toInt - y.toInt) * (40 : Int) ^ (n - 1 - i).toNat ≤ (-1) * (40 : Int) ^ (n - 1 - i).toNat := Int.mul_le_mul_of_nonneg_right (by omega) (by omega)
  omega
theorem NX_go {f0 f f1 f2 : Nat → Int32} {n s s' i i2 M : Int} {z y y2 : Int32} (h : NX f0 f n s M) (h0 : 0 ≤ s) (h1 : s < n) (hz : z = f s.toNat) (e : f1 = upd f i.toNat y) (hi : i = s) (e2 : f2 = upd f1 i2.toNat y2) (hi2 : i2 = s) (hy : y2.toInt = -M) (hM : 0 ≤ M ∧ M ≤ 14) (es : s' = s - 1) : NX f0 f2 n s' M := by
  obtain ⟨q1, q2, q3⟩ := h
  subst hi; subst hi2
  have ef : f2 = upd f i2.toNat y2 := by
    rw [e2, e]
    funext j
    unfold upd
    split <;> rfl
  have hb := q2 i2.toNat (by omega) (by omega)
  rw [← hz] at hb
  refine ⟨fun j hj => ?_, RM_upd q2 ef (by omega), ?_⟩
  · rw [ef, u_ne (by omega)]; exact q1 j (by omega)
  · rw [ef, muL_upd _ (by omega), ← hz, show n.toNat - 1 - i2.toNat = (n - 1 - i2).toNat by omega, show (n - 1 - s').toNat = (n - 1 - i2).toNat + 1 by omega, Int.pow_succ]
    have hp : 0 < (40 : Int) ^ (n - 1 - i2).toNat := Int.pow_pos (by decide)
    have : (z.toInt - y2.toInt) * (40 : Int) ^ (n - 1 - i2).toNat ≤ 28 * (40 : Int) ^ (n - 1 - i2).toNat := Int.mul_le_mul_of_nonneg_right (by omega) (by omega)
    omega
def muM (r v : Int) : Int := if r = 0 then 0 else v + 1
theorem muM_dec {r r' v v' : Int} {n : Nat} (h : (muM r v).toNat < n + 1) (h1 : ¬ r = 0) (h2 : ¬ r' = 0 → v' < v ∧ 0 ≤ v') (h3 : 0 ≤ v) : (muM r' v').toNat < n := by
  unfold muM at h ⊢
  rw [if_neg h1] at h
  by_cases q : r' = 0
  · rw [if_pos q]; omega
  · rw [if_neg q]; have := h2 q; omega
/-! the codes told -/
theorem pD_pre {f : Nat → Int32} {a : Nat} : ∀ (n m : Nat), n ≤ m → pD f a m ≠ none → pD f a n ≠ none
  | n, 0, h, hm => by
    have : n = 0 := by omega
    rw [this]; exact hm
  | n, m + 1, h, hm => by
    by_cases q : n = m + 1
    · rw [q]; exact hm
    · refine pD_pre n m (by omega) (fun e => hm ?_)
      show (pD f a m).bind _ = none
      rw [e]
      rfl
def tdQ (f : Nat → Int32) (fr k t d : Int) : Prop := pD f fr.toNat (k - fr).toNat = some d.toNat ∧ pD f fr.toNat (t - fr).toNat ≠ none
theorem td_start {f : Nat → Int32} {fr t : Int} (h : pD f fr.toNat (t - fr).toNat ≠ none) : tdQ f fr fr t 0 := by
  refine ⟨?_, h⟩
  rw [show (fr - fr).toNat = 0 by omega]
  rfl
theorem td_step {f : Nat → Int32} {fr k t d : Int} {v : Int32} (h : tdQ f fr k t d) (h0 : 0 ≤ fr) (h1 : fr ≤ k) (h2 : k < t) (hv : f k.toNat = v) : ∃ d', pStep v d.toNat = some d' ∧ pD f fr.toNat (k + 1 - fr).toNat = some d' := by
  obtain ⟨q1, q2⟩ := h
  have q3 := pD_pre ((k + 1 - fr).toNat) _ (by omega) q2
  have e : (k + 1 - fr).toNat = (k - fr).toNat + 1 := by omega
  rw [e] at q3 ⊢
  have e2 : pD f fr.toNat ((k - fr).toNat + 1) = pStep v d.toNat := by
    show (pD f fr.toNat (k - fr).toNat).bind (pStep (f (fr.toNat + (k - fr).toNat))) = _
    rw [q1, show fr.toNat + (k - fr).toNat = k.toNat by omega, hv]
    rfl
  rw [e2] at q3 ⊢
  cases q4 : pStep v d.toNat with
  | none => exact absurd q4 q3
  | some d' => exact ⟨d', rfl, rfl⟩
theorem td_up {f : Nat → Int32} {fr k k' t d d' : Int} {v : Int32} (h : tdQ f fr k t d) (h0 : 0 ≤ fr) (h1 : fr ≤ k) (h2 : k < t) (hv : f k.toNat = v) (hd : 0 ≤ d) (hp : v.toInt ≥ 1000 ∨ v.toInt = 17 ∨ (7 ≤ v.toInt ∧ v.toInt ≤ 9)) (ek : k' = k + 1) (ed : d' = d + 1) : tdQ f fr k' t d' := by
  obtain ⟨x, q1, q2⟩ := td_step h h0 h1 h2 hv
  unfold pStep at q1
  rw [if_pos hp] at q1
  refine ⟨?_, h.2⟩
  rw [ek, q2, ← q1, ed]
  congr 1; omega
theorem td_not {f : Nat → Int32} {fr k k' t d : Int} {v : Int32} (h : tdQ f fr k t d) (h0 : 0 ≤ fr) (h1 : fr ≤ k) (h2 : k < t) (hv : f k.toNat = v) (hp : v.toInt = 16) (ek : k' = k + 1) : 1 ≤ d ∧ tdQ f fr k' t d := by
  obtain ⟨x, q1, q2⟩ := td_step h h0 h1 h2 hv
  unfold pStep at q1
  rw [if_neg (by omega), if_pos hp] at q1
  by_cases q : 1 ≤ d.toNat
  · rw [if_pos q] at q1
    refine ⟨by omega, ?_, h.2⟩
    rw [ek, q2, ← q1]
  · rw [if_neg q] at q1; exact nomatch q1
theorem td_join {f : Nat → Int32} {fr k k' t d : Int} {v : Int32} (h : tdQ f fr k t d) (h0 : 0 ≤ fr) (h1 : fr ≤ k) (h2 : k < t) (hv : f k.toNat = v) (hp : ¬ (v.toInt ≥ 1000 ∨ v.toInt = 17 ∨ (7 ≤ v.toInt ∧ v.toInt ≤ 9)) ∧ ¬ v.toInt = 16) (ek : k' = k + 1) : 2 ≤ d ∧ tdQ f fr k' t (d - 1) := by
  obtain ⟨x, q1, q2⟩ := td_step h h0 h1 h2 hv
  unfold pStep at q1
  rw [if_neg hp.1, if_neg hp.2] at q1
  by_cases q : 2 ≤ d.toNat
  · rw [if_pos q] at q1
    refine ⟨by omega, ?_, h.2⟩
    rw [ek, q2, ← q1]
    congr 1; omega
  · rw [if_neg q] at q1; exact nomatch q1
theorem td_to {f : Nat → Int32} {fr k k' t d d' : Int} (h : tdQ f fr k t d) (ek : k = k') (e : d = d') : tdQ f fr k' t d' := by rw [← e, ← ek]; exact h
def lkQ (r a e t : Int) : Prop := r = -1 ∨ (a < e ∧ r = t)
theorem lk_yes {r a e t : Int} (h : lkQ r a e t) (hr : ¬ r = -1) : a < e ∧ r = t := h.resolve_left hr
def fdQ (a b e t : Int) : Prop := a = b → (a < e ∧ 48 ≤ t ∧ t ≤ 57)
end
