section
/-! calls with a part of the world that nobody looks into -/
theorem nd_of : ∀ {l : List Nat}, l.Nodup → va_nd l = true
  | [], _ => rfl
  | a :: l, h => by
    have h1 := List.nodup_cons.mp h
    show (decide (a ∉ l) && va_nd l) = true
    rw [nd_of h1.2, decide_eq_true h1.1]
    rfl
theorem nd_to : ∀ {l : List Nat}, va_nd l = true → l.Nodup
  | [], _ => List.nodup_nil
  | a :: l, h => by
    have h : (decide (a ∉ l) && va_nd l) = true := h
    rw [Bool.and_eq_true] at h
    exact List.nodup_cons.mpr ⟨of_decide_eq_true h.1, nd_to h.2⟩
theorem ix_lt {X wr : va_W} {is : List Nat} (h : is.map (fun i => X[i]?) = wr.map some) : ∀ i ∈ is, i < X.length := by
  intro i hi
  have h1 : X[i]? ∈ is.map (fun i => X[i]?) := List.mem_map.mpr ⟨i, hi, rfl⟩
  rw [h] at h1
  obtain ⟨q, _, e⟩ := List.mem_map.mp h1
  exact (List.getElem?_eq_some_iff.mp e.symm).1
theorem ix_app {X wr pl : va_W} {is : List Nat} (h : is.map (fun i => X[i]?) = wr.map some) : is.map (fun i => (X ++ pl)[i]?) = wr.map some := by
  rw [← h]
  exact List.map_congr_left (fun i hi => List.getElem?_append_left (ix_lt h i hi))
theorem ix_pl {X wr pl : va_W} {is : List Nat} (h : is.map (fun i => X[i]?) = wr.map some) : (is ++ (List.range pl.length).map (fun j => X.length + j)).map (fun i => (X ++ pl)[i]?) = (wr ++ pl).map some := by
  rw [List.map_append, List.map_append, ix_app h]
  congr 1
  rw [List.map_map]
  refine List.ext_getElem? (fun k => ?_)
  rw [List.getElem?_map, List.getElem?_map]
  by_cases hk : k < pl.length
  · rw [List.getElem?_eq_getElem (by rw [List.length_range]; exact hk), List.getElem_range]
    show some ((X ++ pl)[X.length + k]?) = (pl[k]?).map some
    rw [List.getElem?_append_right (by omega), show X.length + k - X.length = k by omega, List.getElem?_eq_getElem hk]
    rfl
  · rw [List.getElem?_eq_none (by rw [List.length_range]; omega), List.getElem?_eq_none (by omega)]
    rfl
theorem nd_pl {X wr pl : va_W} {is : List Nat} (h : is.map (fun i => X[i]?) = wr.map some) (hn : va_nd is = true) : va_nd (is ++ (List.range pl.length).map (fun j => X.length + j)) = true := by
  have key : ∀ (l : List Nat), l.Nodup → (∀ a ∈ l, a < X.length) → (l ++ (List.range pl.length).map (fun j => X.length + j)).Nodup := by
    intro l
    induction l with
    | nil =>
      intro _ _
      exact List.Pairwise.map (R := fun a b => a ≠ b) (fun j => X.length + j) (fun a b h e => h (by omega)) List.nodup_range
    | cons a l ih =>
      intro hl ha
      have h1 := List.nodup_cons.mp hl
      refine List.nodup_cons.mpr ⟨fun hm => ?_, ih h1.2 (fun x hx => ha x (List.mem_cons_of_mem _ hx))⟩
      rcases List.mem_append.mp hm with q | q
      · exact h1.1 q
      · obtain ⟨j, _, e⟩ := List.mem_map.mp q
        have := ha a List.mem_cons_self
        omega
  exact nd_of (key is (nd_to hn) (ix_lt h))
theorem dis_pl {X wr wc pl : va_W} {is isC : List Nat} (hC : isC.map (fun i => X[i]?) = wc.map some) (hd : ∀ i ∈ is, i ∉ isC) : ∀ i ∈ is ++ (List.range pl.length).map (fun j => X.length + j), i ∉ isC := by
  intro i hi hc
  rcases List.mem_append.mp hi with h | h
  · exact hd i h hc
  · have h1 := ix_lt hC i hc
    obtain ⟨j, _, e⟩ := List.mem_map.mp h
    omega
section G6
variable {p : Program} {l : Launch} {e : Env} {R : Room} {s : State} {m : MethodId} {args : Array Value} {below : List Frame} {meth : Method} {c : Code} {H : Heap} {locs : List Loc} {cells slots : Nat} {Q : State → Prop}
variable {cc : ByteArray} {pc : Nat} {ls : Array Slot} {rest st0 : List Value} {D : va_G} {A A0 : Nat → Prop} {a : Nat} {tys : List (ClassId × FieldType)} {ws wc wr pl : va_W} {H0 : Heap} {mc ms : Nat} {av : Array Value} {w1 : gEx → va_W}
theorem gp_i {post : Int32 → gEx → Prop} (hP : va_P D gcl (ws ++ pl) H) (hD : va_D A0 (ws ++ pl)) (hS : va_S A0 H0 H locs) (hA : ∀ q, H0.size ≤ q → A0 q) (isC isR : List Nat) (hC : isC.map (fun i => ws[i]?) = wc.map some) (hR : isR.map (fun i => ws[i]?) = wr.map some) (hnC : va_nd isC = true) (hn : va_nd isR = true) (hdis : ∀ i ∈ isR, i ∉ isC)
    (hr : va_P D gcl wc H → va_D A0 wc → va_Run p l e R s m args below meth c H locs cells slots mc ms (F0 m pc ls st0) rest (va_Qi post (gB D (va_A wc H.size) w1) (va_A wc H.size) av) (va_A wc H.size))
    (kk : ∀ (r : Int32) (u : gEx) (H1 : Heap) (locs1 : List Loc), post r u → va_P D gcl ((wr ++ w1 u) ++ pl) H1 → va_D A0 ((wr ++ w1 u) ++ pl) → va_S A0 H0 H1 locs1 → W p l e R s m args below meth c H1 locs1 (cells + mc) (slots + ms) Q (F0 m (pc + 3) ls (.int r :: rest))) : W p l e R s m args below meth c H locs cells slots Q (F0 m pc ls st0) :=
  gc_i hP hD hS hA isC _ (ix_app hC) (ix_pl hR) hnC (nd_pl hR hn) (dis_pl (wr := wr) hC hdis) hr (fun r u H1 locs1 hw h1 h2 h3 => kk r u H1 locs1 hw h1.swap h2.swap h3)
theorem gp_l {post : Int64 → gEx → Prop} (hP : va_P D gcl (ws ++ pl) H) (hD : va_D A0 (ws ++ pl)) (hS : va_S A0 H0 H locs) (hA : ∀ q, H0.size ≤ q → A0 q) (isC isR : List Nat) (hC : isC.map (fun i => ws[i]?) = wc.map some) (hR : isR.map (fun i => ws[i]?) = wr.map some) (hnC : va_nd isC = true) (hn : va_nd isR = true) (hdis : ∀ i ∈ isR, i ∉ isC)
    (hr : va_P D gcl wc H → va_D A0 wc → va_Run p l e R s m args below meth c H locs cells slots mc ms (F0 m pc ls st0) rest (va_Ql post (gB D (va_A wc H.size) w1) (va_A wc H.size) av) (va_A wc H.size))
    (kk : ∀ (r : Int64) (u : gEx) (H1 : Heap) (locs1 : List Loc), post r u → va_P D gcl ((wr ++ w1 u) ++ pl) H1 → va_D A0 ((wr ++ w1 u) ++ pl) → va_S A0 H0 H1 locs1 → W p l e R s m args below meth c H1 locs1 (cells + mc) (slots + ms) Q (F0 m (pc + 3) ls (.long r :: rest))) : W p l e R s m args below meth c H locs cells slots Q (F0 m pc ls st0) :=
  gc_l hP hD hS hA isC _ (ix_app hC) (ix_pl hR) hnC (nd_pl hR hn) (dis_pl (wr := wr) hC hdis) hr (fun r u H1 locs1 hw h1 h2 h3 => kk r u H1 locs1 hw h1.swap h2.swap h3)
end G6
end
section
section G7
variable {p : Program} {l : Launch} {e : Env} {R : Room} {s : State} {m : MethodId} {args : Array Value} {below : List Frame} {meth : Method} {c : Code} {cells slots : Nat} {Q : State → Prop} {H : Heap} {locs : List Loc} {pc : Nat} {ls : Array Slot} {rest : List Value} {cc : ByteArray}
theorem b_iincE (hexec : p.tables.exec = Jvm.exec) (hb : c.code = cc) {i nL k : Nat} {n : Int} {x : Int32} {lv : List (Nat × Value)} (hdg : decode cc pc = .ok (.iinc i n, 3)) (h : lv_has ls nL lv) (hk : lv[k]? = some (i, .int x)) (hn : i < nL)
    (kk : ∀ (z : Int32) (ls' : Array Slot), z = x + Int32.ofInt n → lv_has ls' nL ((i, Value.int z) :: lv.filter (fun q => !(q.1 == i) && !(q.1 + 1 == i && q.2.category == 2))) → W p l e R s m args below meth c H locs cells slots Q (F0 m (pc + 3) ls' rest)) : W p l e R s m args below meth c H locs cells slots Q (F0 m pc ls rest) :=
  lv_iinc hexec hb hdg h hk rfl hn rfl (fun ls' hl' => kk _ ls' rfl hl')
end G7
/-! the reference's led table: which step comes next is settled by the table alone -/
def prn (f : Nat → Int32) (a b : Int) : Nat → Int32
  | 0 => 0
  | n + 1 => prn f a b n + f (5 * (n : Int) + a).toNat * f (5 * (n : Int) + b).toNat
theorem prn_step {f : Nat → Int32} {a b n n' : Int} {s s' x y z : Int32} (h : s = prn f a b n.toNat) (e1 : x = f (5 * n + a).toNat) (e2 : y = f (5 * n + b).toNat) (ez : z = x * y) (es : s' = s + z) (h0 : 0 ≤ n) (en : n' = n + 1) : s' = prn f a b n'.toNat := by
  have q : n'.toNat = n.toNat + 1 := by omega
  rw [q]
  show s' = prn f a b n.toNat + f (5 * ((n.toNat : Nat) : Int) + a).toNat * f (5 * ((n.toNat : Nat) : Int) + b).toNat
  rw [show ((n.toNat : Nat) : Int) = n by omega, ← e1, ← e2, ← h, ← ez, es]
theorem prn_congr {f g : Nat → Int32} {a b : Int} : ∀ n : Nat, (∀ k : Nat, k < n → f (5 * (k : Int) + a).toNat = g (5 * (k : Int) + a).toNat ∧ f (5 * (k : Int) + b).toNat = g (5 * (k : Int) + b).toNat) → prn f a b n = prn g a b n
  | 0, _ => rfl
  | n + 1, h => by
    show prn f a b n + _ = prn g a b n + _
    rw [prn_congr n (fun k hk => h k (by omega)), (h n (by omega)).1, (h n (by omega)).2]
def nt (a b : Int32) : Int32 :=
  let s := if a.toInt < 0 then -a else a
  let v := if 2 * (s - s / b * b).toInt > b.toInt then s / b + 1 else s / b
  if a.toInt < 0 then -v else v
theorem nt_of {a b s q r v z : Int32} (hs : (a.toInt < 0 ∧ s = -a) ∨ (¬ a.toInt < 0 ∧ s = a)) (hq : q = s / b) (hr : r = s - s / b * b) (hv : (2 * r.toInt > b.toInt ∧ v = q + 1) ∨ (¬ 2 * r.toInt > b.toInt ∧ v = q)) (hz : (a.toInt < 0 ∧ z = -v) ∨ (¬ a.toInt < 0 ∧ z = v)) : z = nt a b := by
  have e1 : (if a.toInt < 0 then -a else a) = s := by
    rcases hs with ⟨h, e⟩ | ⟨h, e⟩
    · rw [if_pos h, e]
    · rw [if_neg h, e]
  show z = (if a.toInt < 0 then -(if 2 * ((if a.toInt < 0 then -a else a) - (if a.toInt < 0 then -a else a) / b * b).toInt > b.toInt then (if a.toInt < 0 then -a else a) / b + 1 else (if a.toInt < 0 then -a else a) / b) else (if 2 * ((if a.toInt < 0 then -a else a) - (if a.toInt < 0 then -a else a) / b * b).toInt > b.toInt then (if a.toInt < 0 then -a else a) / b + 1 else (if a.toInt < 0 then -a else a) / b))
  rw [e1, ← hr, ← hq]
  have e2 : (if 2 * r.toInt > b.toInt then q + 1 else q) = v := by
    rcases hv with ⟨h, e⟩ | ⟨h, e⟩
    · rw [if_pos h, e]
    · rw [if_neg h, e]
  rw [e2]
  rcases hz with ⟨h, e⟩ | ⟨h, e⟩
  · rw [if_pos h, e]
  · rw [if_neg h, e]
def goQ (f f' : Nat → Int32) (a b : Int) (t : Int32) (n : Int) : Prop := (∀ k : Nat, (k : Int) < n → f' (5 * (k : Int) + a).toNat = f (5 * (k : Int) + a).toNat - t * f (5 * (k : Int) + b).toNat) ∧ ∀ x : Nat, (∀ k : Nat, (k : Int) < n → ¬ x = (5 * (k : Int) + a).toNat) → f' x = f x
theorem go_0 {f : Nat → Int32} {a b n : Int} {t : Int32} (h : n = 0) : goQ f f a b t n := ⟨fun k hk => absurd hk (by omega), fun _ _ => rfl⟩
theorem go_step {f f' f'' : Nat → Int32} {a b n n' i : Int} {t u v z w : Int32} (h : goQ f f' a b t n) (eu : u = f' (5 * n + a).toNat) (ev : v = f' (5 * n + b).toNat) (ez : z = t * v) (ew : w = u - z) (ef : f'' = upd f' i.toNat w) (hi : i = 5 * n + a) (ha : 0 ≤ a ∧ a ≤ 4) (hb : 0 ≤ b ∧ b ≤ 4) (hab : ¬ a = b) (h0 : 0 ≤ n) (en : n' = n + 1) : goQ f f'' a b t n' := by
  obtain ⟨q1, q2⟩ := h
  have e1 : f' (5 * n + a).toNat = f (5 * n + a).toNat := q2 _ (fun k hk => by omega)
  have e2 : f' (5 * n + b).toNat = f (5 * n + b).toNat := q2 _ (fun k hk => by omega)
  subst hi
  refine ⟨fun k hk => ?_, fun x hx => ?_⟩
  · by_cases q : (k : Int) = n
    · rw [q, ef, u_eq rfl, ew, ez, eu, ev, e1, e2]
    · rw [ef, u_ne (by omega)]; exact q1 k (by omega)
  · have q := hx n.toNat (by omega)
    rw [show ((n.toNat : Nat) : Int) = n by omega] at q
    rw [ef, u_ne q]
    exact q2 x (fun k hk => hx k (by omega))
theorem go_uniq {f f1 f2 : Nat → Int32} {a b n : Int} {t : Int32} (h1 : goQ f f1 a b t n) (h2 : goQ f f2 a b t n) : f1 = f2 := by
  funext x
  by_cases q : ∃ k : Nat, (k : Int) < n ∧ x = (5 * (k : Int) + a).toNat
  · obtain ⟨k, hk, e⟩ := q
    rw [e, h1.1 k hk, h2.1 k hk]
  · have q1 : ∀ k : Nat, (k : Int) < n → ¬ x = (5 * (k : Int) + a).toNat := fun k hk e => q ⟨k, hk, e⟩
    rw [h1.2 x q1, h2.2 x q1]
theorem go_back {f f1 f2 : Nat → Int32} {a b n : Int} {t t' : Int32} (h1 : goQ f f1 a b t n) (h2 : goQ f1 f2 a b t' n) (et : t' = -t) (ha : 0 ≤ a ∧ a ≤ 4) (hb : 0 ≤ b ∧ b ≤ 4) (hab : ¬ a = b) : f2 = f := by
  funext x
  by_cases q : ∃ k : Nat, (k : Int) < n ∧ x = (5 * (k : Int) + a).toNat
  · obtain ⟨k, hk, e⟩ := q
    rw [e, h2.1 k hk, h1.1 k hk, h1.2 (5 * (k : Int) + b).toNat (fun j hj => by omega), et]
    exact r_back _ _ _
  · have q1 : ∀ k : Nat, (k : Int) < n → ¬ x = (5 * (k : Int) + a).toNat := fun k hk e => q ⟨k, hk, e⟩
    rw [h2.2 x q1, h1.2 x q1]
def nm (f : Nat → Int32) : Nat → Int32 := fun k => if k < 30 then f k else 0
theorem nm_lt {f : Nat → Int32} {k : Nat} (h : k < 30) : nm f k = f k := by unfold nm; rw [if_pos h]
theorem nm_of {f g : Nat → Int32} (h : ∀ k : Nat, k < 30 → f k = g k) : nm f = nm g := by
  funext k
  unfold nm
  by_cases q : k < 30
  · rw [if_pos q, if_pos q, h k q]
  · rw [if_neg q, if_neg q]
theorem go_nm {f f' : Nat → Int32} {a b n : Int} {t : Int32} (h : goQ f f' a b t n) (ha : 0 ≤ a ∧ a ≤ 4) (hb : 0 ≤ b ∧ b ≤ 4) (hn : n ≤ 6) : goQ (nm f) (nm f') a b t n := by
  refine ⟨fun k hk => ?_, fun x hx => ?_⟩
  · rw [nm_lt (by omega), nm_lt (by omega), nm_lt (by omega)]; exact h.1 k hk
  · unfold nm
    by_cases q : x < 30
    · rw [if_pos q, if_pos q]; exact h.2 x hx
    · rw [if_neg q, if_neg q]
def ql (f : Nat → Int32) (n i j : Int) : Prop := ¬ i = j ∧ ¬ (prn f j j n.toNat).toInt = 0 ∧ ¬ (nt (prn f i j n.toNat) (prn f j j n.toNat)).toInt = 0
theorem prn_nm {f : Nat → Int32} {a b n : Int} (ha : 0 ≤ a ∧ a ≤ 4) (hb : 0 ≤ b ∧ b ≤ 4) (hn : n ≤ 6) : prn (nm f) a b n.toNat = prn f a b n.toNat :=
  prn_congr _ (fun k hk => ⟨nm_lt (by omega), nm_lt (by omega)⟩)
theorem ql_nm {f : Nat → Int32} {n i j : Int} (hi : 0 ≤ i ∧ i ≤ 4) (hj : 0 ≤ j ∧ j ≤ 4) (hn : n ≤ 6) : ql (nm f) n i j ↔ ql f n i j := by
  unfold ql
  rw [prn_nm hi hj hn, prn_nm hj hj hn]
def cpQ (f g : Nat → Int32) (k : Int) : Prop := ∀ j : Nat, (j : Int) < k → f j = g j
theorem cp_step {f f' g : Nat → Int32} {k k' i : Int} {z : Int32} (h : cpQ f g k) (e : f' = upd f i.toNat z) (ez : z = g i.toNat) (hi : i = k) (h0 : 0 ≤ k) (ek : k' = k + 1) : cpQ f' g k' := by
  intro j hj
  by_cases q : j = i.toNat
  · rw [e, u_eq q, ez, q]
  · rw [e, u_ne q]; exact h j (by omega)
def noq (f : Nat → Int32) (n s i j : Int) : Prop := ∀ a b : Int, 0 ≤ a → a < s → 0 ≤ b → b < s → (a < i ∨ (a = i ∧ b < j)) → ¬ ql f n a b
theorem noq_0 {f : Nat → Int32} {n s i j : Int} (hi : i = 0) (hj : j = 0) : noq f n s i j := fun a b h0 _ h2 _ h4 => by omega
theorem noq_j {f : Nat → Int32} {n s i j j' : Int} (h : noq f n s i j) (hq : ¬ ql f n i j) (e : j' = j + 1) : noq f n s i j' := by
  intro a b h0 h1 h2 h3 h4
  by_cases q : a = i ∧ b = j
  · rw [q.1, q.2]; exact hq
  · exact h a b h0 h1 h2 h3 (by omega)
theorem noq_i {f : Nat → Int32} {n s i i' j j' : Int} (h : noq f n s i j) (hj : s ≤ j) (e : i' = i + 1) (ej : j' = 0) : noq f n s i' j' := fun a b h0 h1 h2 h3 h4 => h a b h0 h1 h2 h3 (by omega)
theorem noq_to {f : Nat → Int32} {n s i j j' : Int} (h : noq f n s i j) (e : j = j') : noq f n s i j' := by rw [← e]; exact h
theorem noq_all {f : Nat → Int32} {n s i j : Int} (h : noq f n s i j) (hi : s ≤ i) : noq f n s s 0 := fun a b h0 h1 h2 h3 _ => h a b h0 h1 h2 h3 (by omega)
theorem noq_nm {f : Nat → Int32} {n s i j : Int} (h : noq f n s i j) (hs : s ≤ 5) (hn : n ≤ 6) : noq (nm f) n s i j := fun a b h0 h1 h2 h3 h4 q => h a b h0 h1 h2 h3 h4 ((ql_nm (by omega) (by omega) hn).mp q)
def stp (f f' : Nat → Int32) (n s i j : Int) (t : Int32) : Prop := (0 ≤ i ∧ i < s ∧ 0 ≤ j ∧ j < s ∧ s ≤ 5 ∧ n ≤ 6) ∧ ql f n i j ∧ noq f n s i j ∧ t = nt (prn f i j n.toNat) (prn f j j n.toNat) ∧ goQ f f' i j t n
theorem stp_nm {f f' : Nat → Int32} {n s i j : Int} {t : Int32} (h : stp f f' n s i j t) : stp (nm f) (nm f') n s i j t := by
  obtain ⟨h1, h2, h3, h4, h5⟩ := h
  refine ⟨h1, (ql_nm (by omega) (by omega) (by omega)).mpr h2, noq_nm h3 (by omega) (by omega), ?_, go_nm h5 (by omega) (by omega) (by omega)⟩
  rw [prn_nm (by omega) (by omega) (by omega), prn_nm (by omega) (by omega) (by omega)]
  exact h4
theorem stp_det {f f1 f2 : Nat → Int32} {n s i1 i2 j1 j2 : Int} {t1 t2 : Int32} (h : stp f f1 n s i1 j1 t1) (g : stp f f2 n s i2 j2 t2) : f1 = f2 := by
  obtain ⟨h1, h2, h3, h4, h5⟩ := h
  obtain ⟨g1, g2, g3, g4, g5⟩ := g
  have e : i1 = i2 ∧ j1 = j2 := by
    by_cases q1 : i1 < i2 ∨ (i1 = i2 ∧ j1 < j2)
    · exact absurd h2 (g3 i1 j1 (by omega) (by omega) (by omega) (by omega) q1)
    · by_cases q2 : i2 < i1 ∨ (i2 = i1 ∧ j2 < j1)
      · exact absurd g2 (h3 i2 j2 (by omega) (by omega) (by omega) (by omega) q2)
      · omega
  obtain ⟨e1, e2⟩ := e
  subst e1; subst e2
  rw [← h4] at g4
  rw [g4] at g5
  exact go_uniq h5 g5
def CH (T : Nat → Int32) (n s m : Int) : Prop := ∃ G : Nat → Nat → Int32, nm T = G 0 ∧ ∀ k : Nat, (k : Int) < m → ∃ (i j : Int) (t : Int32), stp (G k) (G (k + 1)) n s i j t
def MOK (T f to_ by_ ti : Nat → Int32) (n s st r : Int) : Prop := ∃ G : Nat → Nat → Int32, nm T = G 0 ∧ nm f = G st.toNat ∧ ∀ k : Nat, (k : Int) < st + r → stp (G k) (G (k + 1)) n s (to_ k).toInt (by_ k).toInt (ti k)
theorem M_CH {T f to_ by_ ti : Nat → Int32} {n s st r m : Int} (h : MOK T f to_ by_ ti n s st r) (e : m = st + r) : CH T n s m := by
  obtain ⟨G, h1, _, h3⟩ := h
  exact ⟨G, h1, fun k hk => ⟨_, _, _, h3 k (by omega)⟩⟩
theorem CH_T {T T' : Nat → Int32} {n s m : Int} (h : CH T n s m) (e : ∀ k : Nat, k < 30 → T' k = T k) : CH T' n s m := by
  obtain ⟨G, h1, h2⟩ := h
  exact ⟨G, by rw [nm_of e]; exact h1, h2⟩
theorem M_T {T T' f to_ by_ ti : Nat → Int32} {n s st r : Int} (h : MOK T f to_ by_ ti n s st r) (e : ∀ k : Nat, k < 30 → T' k = T k) : MOK T' f to_ by_ ti n s st r := by
  obtain ⟨G, h1, h2, h3⟩ := h
  exact ⟨G, by rw [nm_of e]; exact h1, h2, h3⟩
theorem M_start {T f to_ by_ ti : Nat → Int32} {n s st r : Int} (e : ∀ k : Nat, k < 30 → f k = T k) (h1 : st = 0) (h2 : r = 0) : MOK T f to_ by_ ti n s st r := by
  subst h1; subst h2
  exact ⟨fun _ => nm T, rfl, nm_of e, fun k hk => absurd hk (by omega)⟩
theorem M_push {T f f' to_ by_ ti to' by' ti' : Nat → Int32} {n s st st' r r' : Int} {i j t : Int32} (h : MOK T f to_ by_ ti n s st r) (hs : stp f f' n s i.toInt j.toInt t) (h0 : 0 ≤ st) (hr : 0 ≤ r) (e1 : to' = upd to_ st.toNat i) (e2 : by' = upd by_ st.toNat j) (e3 : ti' = upd ti st.toNat t) (es : st' = st + 1) (er : r' = 0) : MOK T f' to' by' ti' n s st' r' := by
  obtain ⟨G, h1, h2, h3⟩ := h
  refine ⟨fun k => if k ≤ st.toNat then G k else nm f', ?_, ?_, fun k hk => ?_⟩
  · show nm T = if 0 ≤ st.toNat then G 0 else nm f'
    rw [if_pos (by omega)]; exact h1
  · show nm f' = if st'.toNat ≤ st.toNat then G st'.toNat else nm f'
    rw [if_neg (by omega)]
  · show stp (if k ≤ st.toNat then G k else nm f') (if k + 1 ≤ st.toNat then G (k + 1) else nm f') n s (to' k).toInt (by' k).toInt (ti' k)
    rw [if_pos (show k ≤ st.toNat by omega), e1, e2, e3]
    by_cases q : k = st.toNat
    · rw [if_neg (by omega), u_eq q, u_eq q, u_eq q, q, ← h2]
      exact stp_nm hs
    · rw [if_pos (by omega), u_ne q, u_ne q, u_ne q]
      exact h3 k (by omega)
theorem M_at {T f to_ by_ ti : Nat → Int32} {n s st r k : Int} (h : MOK T f to_ by_ ti n s st r) (h0 : 0 ≤ k) (hk : k < st + r) : ¬ (to_ k.toNat).toInt = (by_ k.toNat).toInt ∧ 0 ≤ (to_ k.toNat).toInt ∧ (to_ k.toNat).toInt ≤ 4 ∧ 0 ≤ (by_ k.toNat).toInt ∧ (by_ k.toNat).toInt ≤ 4 := by
  obtain ⟨G, h1, h2, h3⟩ := h
  obtain ⟨q1, q2, _⟩ := h3 k.toNat (by omega)
  exact ⟨q2.1, by omega⟩
theorem M_undo {T f f' to_ by_ ti : Nat → Int32} {n s st st' r r' : Int} {zi zj zt t : Int32} (h : MOK T f to_ by_ ti n s st r) (h1 : 1 ≤ st) (hr : 0 ≤ r) (es : st' = st - 1) (er : r' = r + 1) (ei : zi = to_ st'.toNat) (ej : zj = by_ st'.toNat) (et : zt = ti st'.toNat) (ht : t = -zt) (hg : goQ f f' zi.toInt zj.toInt t n) (hn : n ≤ 6) : MOK T f' to_ by_ ti n s st' r' := by
  obtain ⟨G, g1, g2, g3⟩ := h
  refine ⟨G, g1, ?_, fun k hk => g3 k (by omega)⟩
  obtain ⟨q1, q2, _, _, q5⟩ := g3 st'.toNat (by omega)
  rw [← ei, ← ej] at q1 q5
  rw [← ei, ← ej] at q2
  rw [← et, show st'.toNat + 1 = st.toNat by omega, ← g2] at q5
  exact go_back q5 (go_nm hg (by omega) (by omega) hn) ht (by omega) (by omega) q2.1
theorem M_redo {T f f' to_ by_ ti : Nat → Int32} {n s st st' r r' : Int} {zi zj zt : Int32} (h : MOK T f to_ by_ ti n s st r) (h1 : 0 ≤ st) (hr : 1 ≤ r) (es : st' = st + 1) (er : r' = r - 1) (ei : zi = to_ st.toNat) (ej : zj = by_ st.toNat) (et : zt = ti st.toNat) (hg : goQ f f' zi.toInt zj.toInt zt n) (hn : n ≤ 6) : MOK T f' to_ by_ ti n s st' r' := by
  obtain ⟨G, g1, g2, g3⟩ := h
  refine ⟨G, g1, ?_, fun k hk => g3 k (by omega)⟩
  obtain ⟨q1, q2, _, _, q5⟩ := g3 st.toNat (by omega)
  rw [← ei, ← ej] at q1 q5
  rw [← et, ← g2] at q5
  rw [show st'.toNat = st.toNat + 1 by omega]
  exact go_uniq (go_nm hg (by omega) (by omega) hn) q5
theorem M_less {T f to_ by_ ti : Nat → Int32} {n s st r r' : Int} (h : MOK T f to_ by_ ti n s st r) (hr : r' ≤ r) : MOK T f to_ by_ ti n s st r' := by
  obtain ⟨G, g1, g2, g3⟩ := h
  exact ⟨G, g1, g2, fun k hk => g3 k (by omega)⟩
theorem M_far {T f to_ by_ ti : Nat → Int32} {n s st r m : Int} (h : MOK T f to_ by_ ti n s st r) (hc : CH T n s m) (h0 : 0 ≤ st) (hr : 0 ≤ r) (hm : st < m) (hq : noq f n s s 0) (hs : s ≤ 5) (hn : n ≤ 6) : False := by
  obtain ⟨G, g1, g2, g3⟩ := h
  obtain ⟨K, k1, k2⟩ := hc
  have key : ∀ k : Nat, (k : Int) ≤ st → G k = K k := by
    intro k
    induction k with
    | zero => intro _; rw [← g1, ← k1]
    | succ k ih =>
      intro hk
      have e := ih (by omega)
      obtain ⟨i, j, t, q⟩ := k2 k (by omega)
      have q3 := g3 k (by omega)
      rw [e] at q3
      exact stp_det q3 q
  obtain ⟨i, j, t, q1, q2, _⟩ := k2 st.toNat (by omega)
  rw [← key st.toNat (by omega), ← g2] at q2
  exact (noq_nm hq hs hn) i j (by omega) (by omega) (by omega) (by omega) (by omega) q2
def isQ (f f' to_ by_ ti to' by' ti' : Nat → Int32) (n s st st' r : Int) : Prop := (r = 1 ∧ ∃ i j t : Int32, stp f f' n s i.toInt j.toInt t ∧ to' = upd to_ st.toNat i ∧ by' = upd by_ st.toNat j ∧ ti' = upd ti st.toNat t ∧ st' = st + 1) ∨ (r = 0 ∧ f' = f ∧ to' = to_ ∧ by' = by_ ∧ ti' = ti ∧ st' = st ∧ (st = 200 ∨ noq f n s s 0))
theorem isQ_push {T f f' to_ by_ ti to' by' ti' : Nat → Int32} {n s st st' r res : Int} (h : MOK T f to_ by_ ti n s st r) (q : isQ f f' to_ by_ ti to' by' ti' n s st st' res) (h0 : 0 ≤ st) (hr : 0 ≤ r) (h1 : ¬ res = 0) : MOK T f' to' by' ti' n s st' 0 := by
  rcases q with ⟨_, i, j, t, q1, q2, q3, q4, q5⟩ | ⟨q, _⟩
  · exact M_push h q1 h0 hr q2 q3 q4 q5 rfl
  · exact absurd q h1
theorem isQ_same {T f f' to_ by_ ti to' by' ti' : Nat → Int32} {n s st st' r res : Int} (h : MOK T f to_ by_ ti n s st r) (q : isQ f f' to_ by_ ti to' by' ti' n s st st' res) (h1 : res = 0) : MOK T f' to' by' ti' n s st' r := by
  rcases q with ⟨q, _⟩ | ⟨_, e1, e2, e3, e4, e5, _⟩
  · omega
  · rw [e1, e2, e3, e4, e5]; exact h
theorem isQ_end {T f f' to_ by_ ti to' by' ti' : Nat → Int32} {n s st st' r m res : Int} (h : MOK T f to_ by_ ti n s st r) (q : isQ f f' to_ by_ ti to' by' ti' n s st st' res) (h1 : res = 0) (hc : CH T n s m) (h0 : 0 ≤ st) (hr : 0 ≤ r) (hm : m ≤ 200) (hs : s ≤ 5) (hn : n ≤ 6) : m ≤ st := by
  rcases q with ⟨q, _⟩ | ⟨_, _, _, _, _, _, q⟩
  · omega
  · rcases q with q | q
    · omega
    · rcases Int.lt_or_le st m with z | z
      · exact absurd (M_far h hc h0 hr z q hs hn) id
      · exact z
end
