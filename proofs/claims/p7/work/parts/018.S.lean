section
/-! cells told anew in their places (draft) -/
def sets (ws : va_W) : List Nat → va_W → va_W
  | i :: is, c :: cs => sets (ws.set i c) is cs
  | _, _ => ws
theorem sets_get : ∀ (is : List Nat) (cs ws : va_W) (k : Nat) (q : Nat × va_E), (sets ws is cs)[k]? = some q → (∃ j : Nat, is[j]? = some k ∧ cs[j]? = some q) ∨ (ws[k]? = some q ∧ (cs.length = is.length → k ∉ is))
  | [], cs, ws, k, q, h => by
    refine Or.inr ⟨?_, fun _ => by simp⟩
    cases cs <;> exact h
  | i :: is, [], ws, k, q, h => Or.inr ⟨h, fun e => by simp at e⟩
  | i :: is, c :: cs, ws, k, q, h => by
    rcases sets_get is cs (ws.set i c) k q h with ⟨j, h1, h2⟩ | ⟨h1, h2⟩
    · exact Or.inl ⟨j + 1, by simpa using h1, by simpa using h2⟩
    · by_cases e : i = k
      · subst e
        rw [List.getElem?_set] at h1
        by_cases hl : i < ws.length
        · rw [if_pos rfl, if_pos hl] at h1
          exact Or.inl ⟨0, rfl, h1⟩
        · rw [if_pos rfl, if_neg hl] at h1
          cases h1
      · rw [List.getElem?_set_ne e] at h1
        exact Or.inr ⟨h1, fun el hm => by
          rcases List.mem_cons.mp hm with q1 | q1
          · exact e q1.symm
          · exact h2 (by simpa using el) q1⟩
theorem sets_join {A0 : Nat → Prop} {D : va_G} {cl : List vw_C} {ws wc w1 : va_W} {H H1 : Heap} (hP : va_P D cl ws H) (hD : va_D A0 ws) (is : List Nat) (hC : is.map (fun i => ws[i]?) = wc.map some) (hl : w1.length = is.length)
    (hk : ∀ q : Nat, q < H.size → ¬ va_A wc H.size q → H1[q]? = H[q]?) (hF : ∀ q, va_A wc H.size q → A0 q) (hP1 : va_P D cl w1 H1) (hD1 : va_D (va_A wc H.size) w1) : va_P D cl (sets ws is w1) H1 ∧ va_D A0 (sets ws is w1) := by
  have one : ∀ (k : Nat) (q : Nat × va_E), ws[k]? = some q → k ∉ is → va_P D cl ([q] ++ w1) H1 ∧ va_D A0 ([q] ++ w1) := by
    intro k q hq hn
    refine va_join (wr := [q]) hP hD is [k] hC (by simp [hq]) rfl ?_ hk hF hP1 hD1
    intro i hi
    rw [List.mem_singleton.mp hi]
    exact hn
  have cas : ∀ (k : Nat) (q : Nat × va_E), (sets ws is w1)[k]? = some q → (∃ j : Nat, is[j]? = some k ∧ w1[j]? = some q) ∨ (ws[k]? = some q ∧ k ∉ is) := by
    intro k q h
    rcases sets_get is w1 ws k q h with h | ⟨h1, h2⟩
    · exact Or.inl h
    · exact Or.inr ⟨h1, h2 hl⟩
  refine ⟨fun k q h => ?_, fun i j p q hi hj e => ?_, fun k q h => ?_⟩
  · rcases cas k q h with ⟨j, _, h2⟩ | ⟨h1, h2⟩
    · exact hP1 j q h2
    · exact (one k q h1 h2).1 0 q rfl
  · rcases cas i p hi with ⟨a, ha, ha2⟩ | ⟨ha, ha2⟩ <;> rcases cas j q hj with ⟨b, hb, hb2⟩ | ⟨hb, hb2⟩
    · have e2 := hD1.1 a b p q ha2 hb2 e
      rw [e2, hb] at ha
      exact (Option.some.inj ha).symm
    · have h3 := (one j q hb hb2).2.1 0 (a + 1) q p rfl (by simpa using ha2) e.symm
      exact absurd h3 (by omega)
    · have h3 := (one i p ha ha2).2.1 0 (b + 1) p q rfl (by simpa using hb2) e
      exact absurd h3 (by omega)
    · exact hD.1 i j p q ha hb e
  · rcases cas k q h with ⟨j, _, h2⟩ | ⟨h1, h2⟩
    · exact hF _ (hD1.2 j q h2)
    · exact hD.2 k q h1
section GS
variable {p : Program} {l : Launch} {e : Env} {R : Room} {s : State} {m : MethodId} {args : Array Value} {below : List Frame} {meth : Method} {c : Code} {H : Heap} {locs : List Loc} {cells slots : Nat} {Q : State → Prop}
variable {cc : ByteArray} {pc : Nat} {ls : Array Slot} {rest st0 : List Value} {D : va_G} {A A0 : Nat → Prop} {a : Nat} {tys : List (ClassId × FieldType)} {ws wc wr : va_W} {H0 : Heap} {mc ms : Nat} {av : Array Value} {w1 : gEx → va_W}
theorem gd_i {post : Int32 → gEx → Prop} (hP : va_P D gcl ws H) (hD : va_D A0 ws) (hS : va_S A0 H0 H locs) (hA : ∀ q, H0.size ≤ q → A0 q) (isC : List Nat) (hC : isC.map (fun i => ws[i]?) = wc.map some) (hnC : va_nd isC = true) (hl : ∀ u, (w1 u).length = isC.length)
    (hr : va_P D gcl wc H → va_D A0 wc → va_Run p l e R s m args below meth c H locs cells slots mc ms (F0 m pc ls st0) rest (va_Qi post (gB D (va_A wc H.size) w1) (va_A wc H.size) av) (va_A wc H.size))
    (kk : ∀ (r : Int32) (u : gEx) (H1 : Heap) (locs1 : List Loc), post r u → va_P D gcl (sets ws isC (w1 u)) H1 → va_D A0 (sets ws isC (w1 u)) → va_S A0 H0 H1 locs1 → W p l e R s m args below meth c H1 locs1 (cells + mc) (slots + ms) Q (F0 m (pc + 3) ls (.int r :: rest))) : W p l e R s m args below meth c H locs cells slots Q (F0 m pc ls st0) := by
  have hF := va_free (wc := wc) hD hS hA isC hC
  refine va_calli (hr (g_psub hP isC hC) (hD.sub isC hnC hC)) hS (fun q _ h => hF q h) hF (fun r u t H1 locs1 ht hvm hw hB hz1 hk1 hS1 => ?_)
  obtain ⟨hP1, hD1⟩ := hB
  rw [ht] at hP1
  obtain ⟨hP2, hD2⟩ := sets_join hP hD isC hC (hl u) hk1 hF hP1 hD1
  exact kk r u H1 locs1 hw hP2 hD2 hS1
theorem gd_l {post : Int64 → gEx → Prop} (hP : va_P D gcl ws H) (hD : va_D A0 ws) (hS : va_S A0 H0 H locs) (hA : ∀ q, H0.size ≤ q → A0 q) (isC : List Nat) (hC : isC.map (fun i => ws[i]?) = wc.map some) (hnC : va_nd isC = true) (hl : ∀ u, (w1 u).length = isC.length)
    (hr : va_P D gcl wc H → va_D A0 wc → va_Run p l e R s m args below meth c H locs cells slots mc ms (F0 m pc ls st0) rest (va_Ql post (gB D (va_A wc H.size) w1) (va_A wc H.size) av) (va_A wc H.size))
    (kk : ∀ (r : Int64) (u : gEx) (H1 : Heap) (locs1 : List Loc), post r u → va_P D gcl (sets ws isC (w1 u)) H1 → va_D A0 (sets ws isC (w1 u)) → va_S A0 H0 H1 locs1 → W p l e R s m args below meth c H1 locs1 (cells + mc) (slots + ms) Q (F0 m (pc + 3) ls (.long r :: rest))) : W p l e R s m args below meth c H locs cells slots Q (F0 m pc ls st0) := by
  have hF := va_free (wc := wc) hD hS hA isC hC
  refine va_calll (hr (g_psub hP isC hC) (hD.sub isC hnC hC)) hS (fun q _ h => hF q h) hF (fun r u t H1 locs1 ht hvm hw hB hz1 hk1 hS1 => ?_)
  obtain ⟨hP1, hD1⟩ := hB
  rw [ht] at hP1
  obtain ⟨hP2, hD2⟩ := sets_join hP hD isC hC (hl u) hk1 hF hP1 hD1
  exact kk r u H1 locs1 hw hP2 hD2 hS1
theorem gd_v {post : gEx → Prop} (hP : va_P D gcl ws H) (hD : va_D A0 ws) (hS : va_S A0 H0 H locs) (hA : ∀ q, H0.size ≤ q → A0 q) (isC : List Nat) (hC : isC.map (fun i => ws[i]?) = wc.map some) (hnC : va_nd isC = true) (hl : ∀ u, (w1 u).length = isC.length)
    (hr : va_P D gcl wc H → va_D A0 wc → va_Run p l e R s m args below meth c H locs cells slots mc ms (F0 m pc ls st0) rest (va_Qv post (gB D (va_A wc H.size) w1) (va_A wc H.size) av) (va_A wc H.size))
    (kk : ∀ (u : gEx) (H1 : Heap) (locs1 : List Loc), post u → va_P D gcl (sets ws isC (w1 u)) H1 → va_D A0 (sets ws isC (w1 u)) → va_S A0 H0 H1 locs1 → W p l e R s m args below meth c H1 locs1 (cells + mc) (slots + ms) Q (F0 m (pc + 3) ls rest)) : W p l e R s m args below meth c H locs cells slots Q (F0 m pc ls st0) := by
  have hF := va_free (wc := wc) hD hS hA isC hC
  refine va_callv (hr (g_psub hP isC hC) (hD.sub isC hnC hC)) hS (fun q _ h => hF q h) hF (fun u t H1 locs1 ht hvm hw hB hz1 hk1 hS1 => ?_)
  obtain ⟨hP1, hD1⟩ := hB
  rw [ht] at hP1
  obtain ⟨hP2, hD2⟩ := sets_join hP hD isC hC (hl u) hk1 hF hP1 hD1
  exact kk u H1 locs1 hw hP2 hD2 hS1
theorem gd_r {post : gEx → Prop} {ra : gEx → Nat} (hP : va_P D gcl ws H) (hD : va_D A0 ws) (hS : va_S A0 H0 H locs) (hA : ∀ q, H0.size ≤ q → A0 q) (isC : List Nat) (hC : isC.map (fun i => ws[i]?) = wc.map some) (hnC : va_nd isC = true) (hl : ∀ u, (w1 u).length = isC.length)
    (hr : va_P D gcl wc H → va_D A0 wc → va_Run p l e R s m args below meth c H locs cells slots mc ms (F0 m pc ls st0) rest (va_Qr post (gBr D (va_A wc H.size) w1 ra) (va_A wc H.size) av) (va_A wc H.size))
    (kk : ∀ (u : gEx) (r : Nat) (H1 : Heap) (locs1 : List Loc), r = ra u → va_P D gcl (sets ws isC (w1 u)) H1 → va_D A0 (sets ws isC (w1 u)) → va_S A0 H0 H1 locs1 → W p l e R s m args below meth c H1 locs1 (cells + mc) (slots + ms) Q (F0 m (pc + 3) ls (.ref r :: rest))) : W p l e R s m args below meth c H locs cells slots Q (F0 m pc ls st0) := by
  have hF := va_free (wc := wc) hD hS hA isC hC
  refine va_callr (hr (g_psub hP isC hC) (hD.sub isC hnC hC)) hS (fun q _ h => hF q h) hF (fun u ra t H1 locs1 ht hvm hw hB hz1 hk1 hS1 => ?_)
  obtain ⟨hra, hP1, hD1⟩ := hB
  rw [ht] at hP1
  obtain ⟨hP2, hD2⟩ := sets_join hP hD isC hC (hl u) hk1 hF hP1 hD1
  exact kk u ra H1 locs1 hra hP2 hD2 hS1
end GS
theorem sets_app : ∀ (is : List Nat) (cs ws pl : va_W), (∀ i ∈ is, i < ws.length) → sets (ws ++ pl) is cs = sets ws is cs ++ pl
  | [], cs, ws, pl, _ => by cases cs <;> rfl
  | i :: is, [], _, _, _ => rfl
  | i :: is, c :: cs, ws, pl, h => by
    show sets ((ws ++ pl).set i c) is cs = sets (ws.set i c) is cs ++ pl
    rw [List.set_append_left (h := h i (List.mem_cons_self ..))]
    exact sets_app is cs (ws.set i c) pl (fun j hj => by rw [List.length_set]; exact h j (List.mem_cons_of_mem _ hj))
section GP
variable {p : Program} {l : Launch} {e : Env} {R : Room} {s : State} {m : MethodId} {args : Array Value} {below : List Frame} {meth : Method} {c : Code} {H : Heap} {locs : List Loc} {cells slots : Nat} {Q : State → Prop}
variable {cc : ByteArray} {pc : Nat} {ls : Array Slot} {rest st0 : List Value} {D : va_G} {A A0 : Nat → Prop} {a : Nat} {tys : List (ClassId × FieldType)} {ws wc wr pl : va_W} {H0 : Heap} {mc ms : Nat} {av : Array Value} {w1 : gEx → va_W}
theorem gq_i {post : Int32 → gEx → Prop} (hP : va_P D gcl (ws ++ pl) H) (hD : va_D A0 (ws ++ pl)) (hS : va_S A0 H0 H locs) (hA : ∀ q, H0.size ≤ q → A0 q) (isC : List Nat) (hC : isC.map (fun i => ws[i]?) = wc.map some) (hnC : va_nd isC = true) (hl : ∀ u, (w1 u).length = isC.length)
    (hr : va_P D gcl wc H → va_D A0 wc → va_Run p l e R s m args below meth c H locs cells slots mc ms (F0 m pc ls st0) rest (va_Qi post (gB D (va_A wc H.size) w1) (va_A wc H.size) av) (va_A wc H.size))
    (kk : ∀ (r : Int32) (u : gEx) (H1 : Heap) (locs1 : List Loc), post r u → va_P D gcl (sets ws isC (w1 u) ++ pl) H1 → va_D A0 (sets ws isC (w1 u) ++ pl) → va_S A0 H0 H1 locs1 → W p l e R s m args below meth c H1 locs1 (cells + mc) (slots + ms) Q (F0 m (pc + 3) ls (.int r :: rest))) : W p l e R s m args below meth c H locs cells slots Q (F0 m pc ls st0) :=
  gd_i hP hD hS hA isC (ix_app hC) hnC hl hr (fun r u H1 locs1 hw h1 h2 h3 => by
    rw [sets_app _ _ _ _ (ix_lt hC)] at h1 h2
    exact kk r u H1 locs1 hw h1 h2 h3)
theorem gq_l {post : Int64 → gEx → Prop} (hP : va_P D gcl (ws ++ pl) H) (hD : va_D A0 (ws ++ pl)) (hS : va_S A0 H0 H locs) (hA : ∀ q, H0.size ≤ q → A0 q) (isC : List Nat) (hC : isC.map (fun i => ws[i]?) = wc.map some) (hnC : va_nd isC = true) (hl : ∀ u, (w1 u).length = isC.length)
    (hr : va_P D gcl wc H → va_D A0 wc → va_Run p l e R s m args below meth c H locs cells slots mc ms (F0 m pc ls st0) rest (va_Ql post (gB D (va_A wc H.size) w1) (va_A wc H.size) av) (va_A wc H.size))
    (kk : ∀ (r : Int64) (u : gEx) (H1 : Heap) (locs1 : List Loc), post r u → va_P D gcl (sets ws isC (w1 u) ++ pl) H1 → va_D A0 (sets ws isC (w1 u) ++ pl) → va_S A0 H0 H1 locs1 → W p l e R s m args below meth c H1 locs1 (cells + mc) (slots + ms) Q (F0 m (pc + 3) ls (.long r :: rest))) : W p l e R s m args below meth c H locs cells slots Q (F0 m pc ls st0) :=
  gd_l hP hD hS hA isC (ix_app hC) hnC hl hr (fun r u H1 locs1 hw h1 h2 h3 => by
    rw [sets_app _ _ _ _ (ix_lt hC)] at h1 h2
    exact kk r u H1 locs1 hw h1 h2 h3)
end GP
theorem sP_to {D : va_G} {ws ws2 pl : va_W} {H : Heap} (h : va_P D gcl (ws ++ pl) H) (e : ws = ws2) : va_P D gcl (ws2 ++ pl) H := e ▸ h
theorem sD_to {A : Nat → Prop} {ws ws2 pl : va_W} (h : va_D A (ws ++ pl)) (e : ws = ws2) : va_D A (ws2 ++ pl) := e ▸ h
end
