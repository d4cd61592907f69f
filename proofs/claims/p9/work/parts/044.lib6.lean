/-! calls with a part of the world that nobody looks into -/
theorem nd_of : ∀ {l : List Nat}, l.Nodup → va_nd l = true
  | [], _ => rfl
  | a :: l, h => by
    have h1 := List.nodup_cons.mp h
    show (decide (a ∉ l) && va_nd l) = true
    rw [nd_of h1.2, decide_eq_true h1.1]
    rfl
theorem nd_to : ∀ {l : List Nat}, va_nd l = true → l.Nodup
  | [], _ => List.nodup_nil
  | a :: l, h => by
    have h : (decide (a ∉ l) && va_nd l) = true := h
    rw [Bool.and_eq_true] at h
    exact List.nodup_cons.mpr ⟨of_decide_eq_true h.1, nd_to h.2⟩
theorem ix_lt {X wr : va_W} {is : List Nat} (h : is.map (fun i => X[i]?) = wr.map some) : ∀ i ∈ is, i < X.length := by
  intro i hi
  have h1 : X[i]? ∈ is.map (fun i => X[i]?) := List.mem_map.mpr ⟨i, hi, rfl⟩
  rw [h] at h1
  obtain ⟨q, _, e⟩ := List.mem_map.mp h1
  exact (List.getElem?_eq_some_iff.mp e.symm).1
theorem ix_app {X wr pl : va_W} {is : List Nat} (h : is.map (fun i => X[i]?) = wr.map some) : is.map (fun i => (X ++ pl)[i]?) = wr.map some := by
  rw [← h]
  exact List.map_congr_left (fun i hi => List.getElem?_append_left (ix_lt h i hi))
theorem ix_pl {X wr pl : va_W} {is : List Nat} (h : is.map (fun i => X[i]?) = wr.map some) : (is ++ (List.range pl.length).map (fun j => X.length + j)).map (fun i => (X ++ pl)[i]?) = (wr ++ pl).map some := by
  rw [List.map_append, List.map_append, ix_app h]
  congr 1
  rw [List.map_map]
  refine List.ext_getElem? (fun k => ?_)
  rw [List.getElem?_map, List.getElem?_map]
  by_cases hk : k < pl.length
  · rw [List.getElem?_eq_getElem (by rw [List.length_range]; exact hk), List.getElem_range]
    show some ((X ++ pl)[X.length + k]?) = (pl[k]?).map some
    rw [List.getElem?_append_right (by omega), show X.length + k - X.length = k by omega, List.getElem?_eq_getElem hk]
    rfl
  · rw [List.getElem?_eq_none (by rw [List.length_range]; omega), List.getElem?_eq_none (by omega)]
    rfl
theorem nd_pl {X wr pl : va_W} {is : List Nat} (h : is.map (fun i => X[i]?) = wr.map some) (hn : va_nd is = true) : va_nd (is ++ (List.range pl.length).map (fun j => X.length + j)) = true := by
  have key : ∀ (l : List Nat), l.Nodup → (∀ a ∈ l, a < X.length) → (l ++ (List.range pl.length).map (fun j => X.length + j)).Nodup := by
    intro l
    induction l with
    | nil =>
      intro _ _
      exact List.Pairwise.map (R := fun a b => a ≠ b) (fun j => X.length + j) (fun a b h e => h (by omega)) List.nodup_range
    | cons a l ih =>
      intro hl ha
      have h1 := List.nodup_cons.mp hl
      refine List.nodup_cons.mpr ⟨fun hm => ?_, ih h1.2 (fun x hx => ha x (List.mem_cons_of_mem _ hx))⟩
      rcases List.mem_append.mp hm with q | q
      · exact h1.1 q
      · obtain ⟨j, _, e⟩ := List.mem_map.mp q
        have := ha a List.mem_cons_self
        omega
  exact nd_of (key is (nd_to hn) (ix_lt h))
theorem dis_pl {X wr wc pl : va_W} {is isC : List Nat} (hC : isC.map (fun i => X[i]?) = wc.map some) (hd : ∀ i ∈ is, i ∉ isC) : ∀ i ∈ is ++ (List.range pl.length).map (fun j => X.length + j), i ∉ isC := by
  intro i hi hc
  rcases List.mem_append.mp hi with h | h
  · exact hd i h hc
  · have h1 := ix_lt hC i hc
    obtain ⟨j, _, e⟩ := List.mem_map.mp h
    omega
section G6
variable {p : Program} {l : Launch} {e : Env} {R : Room} {s : State} {m : MethodId} {args : Array Value} {below : List Frame} {meth : Method} {c : Code} {H : Heap} {locs : List Loc} {cells slots : Nat} {Q : State → Prop}
variable {cc : ByteArray} {pc : Nat} {ls : Array Slot} {rest st0 : List Value} {D : va_G} {A A0 : Nat → Prop} {a : Nat} {tys : List (ClassId × FieldType)} {ws wc wr pl : va_W} {H0 : Heap} {mc ms : Nat} {av : Array Value} {w1 : gEx → va_W}
theorem gp_i {post : Int32 → gEx → Prop} (hP : va_P D gcl (ws ++ pl) H) (hD : va_D A0 (ws ++ pl)) (hS : va_S A0 H0 H locs) (hA : ∀ q, H0.size ≤ q → A0 q) (isC isR : List Nat) (hC : isC.map (fun i => ws[i]?) = wc.map some) (hR : isR.map (fun i => ws[i]?) = wr.map some) (hnC : va_nd isC = true) (hn : va_nd isR = true) (hdis : ∀ i ∈ isR, i ∉ isC)
    (hr : va_P D gcl wc H → va_D A0 wc → va_Run p l e R s m args below meth c H locs cells slots mc ms (F0 m pc ls st0) rest (va_Qi post (gB D (va_A wc H.size) w1) (va_A wc H.size) av) (va_A wc H.size))
    (kk : ∀ (r : Int32) (u : gEx) (H1 : Heap) (locs1 : List Loc), post r u → va_P D gcl ((wr ++ w1 u) ++ pl) H1 → va_D A0 ((wr ++ w1 u) ++ pl) → va_S A0 H0 H1 locs1 → W p l e R s m args below meth c H1 locs1 (cells + mc) (slots + ms) Q (F0 m (pc + 3) ls (.int r :: rest))) : W p l e R s m args below meth c H locs cells slots Q (F0 m pc ls st0) :=
  gc_i hP hD hS hA isC _ (ix_app hC) (ix_pl hR) hnC (nd_pl hR hn) (dis_pl (wr := wr) hC hdis) hr (fun r u H1 locs1 hw h1 h2 h3 => kk r u H1 locs1 hw h1.swap h2.swap h3)
theorem gp_l {post : Int64 → gEx → Prop} (hP : va_P D gcl (ws ++ pl) H) (hD : va_D A0 (ws ++ pl)) (hS : va_S A0 H0 H locs) (hA : ∀ q, H0.size ≤ q → A0 q) (isC isR : List Nat) (hC : isC.map (fun i => ws[i]?) = wc.map some) (hR : isR.map (fun i => ws[i]?) = wr.map some) (hnC : va_nd isC = true) (hn : va_nd isR = true) (hdis : ∀ i ∈ isR, i ∉ isC)
    (hr : va_P D gcl wc H → va_D A0 wc → va_Run p l e R s m args below meth c H locs cells slots mc ms (F0 m pc ls st0) rest (va_Ql post (gB D (va_A wc H.size) w1) (va_A wc H.size) av) (va_A wc H.size))
    (kk : ∀ (r : Int64) (u : gEx) (H1 : Heap) (locs1 : List Loc), post r u → va_P D gcl ((wr ++ w1 u) ++ pl) H1 → va_D A0 ((wr ++ w1 u) ++ pl) → va_S A0 H0 H1 locs1 → W p l e R s m args below meth c H1 locs1 (cells + mc) (slots + ms) Q (F0 m (pc + 3) ls (.long r :: rest))) : W p l e R s m args below meth c H locs cells slots Q (F0 m pc ls st0) :=
  gc_l hP hD hS hA isC _ (ix_app hC) (ix_pl hR) hnC (nd_pl hR hn) (dis_pl (wr := wr) hC hdis) hr (fun r u H1 locs1 hw h1 h2 h3 => kk r u H1 locs1 hw h1.swap h2.swap h3)
end G6
