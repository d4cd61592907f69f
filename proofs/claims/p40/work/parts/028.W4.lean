/-! what is put ahead: the rows in their order, line by line (draft, p40, p41) -/
def rowF (T row : Nat → Int32) (per : Int) (S : Nat) : Int → Int := fun k => bsK T (fun s => (row s.toNat).toInt - per + per * dgK (fun _ => 3) S k s) S 6
theorem rowF_at {T row : Nat → Int32} {per last L d : Int} {di x : Int → Int} (h0 : 0 ≤ last) (hd : 0 ≤ d ∧ d < 3) (hdi : ∀ s : Int, 0 ≤ s → s < last → 0 ≤ di s ∧ di s < 3) (hL : lnK (fun _ => 3) di last.toNat = L) (hx : ∀ s : Int, 0 ≤ s → s < last → x s = (row s.toNat).toInt - per + per * di s) : qdK (bsK T x last.toNat 6) (dtn T last last 6) (crK T x last.toNat last 6) ((row last.toNat).toInt - per + per * d) = rowF T row per (last.toNat + 1) (3 * L + d) := by
  obtain ⟨n, rfl⟩ : ∃ n : Nat, last = (n : Int) := ⟨last.toNat, by omega⟩
  have hn : ((n : Int)).toNat = n := by omega
  rw [hn] at hL ⊢
  rw [qd_row]
  unfold rowF
  refine bsK_congr (fun k k0 k1 => ?_) 6
  have e1 : (3 * L + d) / 3 = L := by omega
  have e2 : (3 * L + d) % 3 = d := by omega
  show yW x n ((row n).toInt - per + per * d) k = (row k.toNat).toInt - per + per * dgK (fun _ => 3) (n + 1) (3 * L + d) k
  by_cases c : k = (n : Int)
  · subst c
    rw [dg_last, e2, hn]
    exact if_pos rfl
  · have e3 : dgK (fun _ => 3) (n + 1) (3 * L + d) k = di k := by
      rw [dg_next (by omega)]
      show dgK (fun _ => 3) n ((3 * L + d) / 3) k = di k
      rw [e1, ← hL]
      exact dg_ln n (fun s a b => hdi s a b) k k0 (by omega)
    rw [e3, ← hx k k0 (by omega)]
    exact if_neg c
theorem rowF_bd {T row : Nat → Int32} {per : Int} {S : Nat} {k : Int} (h : TB T 99) (hS : S ≤ 5) (hr : ∀ s : Int, 0 ≤ s → s < (S : Int) → -7 ≤ (row s.toNat).toInt ∧ (row s.toNat).toInt ≤ 7) (hp : 4 ≤ per ∧ per ≤ 16) : 0 ≤ rowF T row per S k ∧ rowF T row per S k ≤ 1323135000 := by
  have q := bs_bd (T := T) (x := fun s => (row s.toNat).toInt - per + per * dgK (fun _ => 3) S k s) (n := S) h hS (fun s a b => by
    have d := dg_rng (co := fun _ => 3) S k s (fun _ _ _ => by show (1 : Int) ≤ 3; omega) a b
    have r := hr s a b
    have m1 := Int.mul_nonneg (show (0 : Int) ≤ per by omega) d.1
    have m2 : per * dgK (fun _ => 3) S k s ≤ per * 2 := Int.mul_le_mul_of_nonneg_left (by have := d.2; show dgK (fun _ => 3) S k s ≤ 2; omega) (by omega)
    show -30 ≤ (row s.toNat).toInt - per + per * dgK (fun _ => 3) S k s ∧ (row s.toNat).toInt - per + per * dgK (fun _ => 3) S k s ≤ 30
    omega) 6 (by omega)
  unfold rowF
  omega
def fdW (f : Nat → Int32) (S : Nat) (a : Int) : Prop := ∀ s : Int, 0 ≤ s → s < (S : Int) → (f s.toNat).toInt = dgK (fun _ => 3) S a s - 1
def bfW (F : Int → Int) (f : Nat → Int32) (S : Nat) (n b : Int) : Prop := ∃ a : Int, amK F n b a ∧ (0 < n → fdW f S a)
theorem bf_0 {F : Int → Int} {f : Nat → Int32} {S : Nat} {n b : Int} (hn : n = 0) (hb : b = 1000000000000000) : bfW F f S n b := ⟨0, Or.inl ⟨hn, hb⟩, fun h => absurd h (by omega)⟩
theorem bf_line {F : Int → Int} {f f' : Nat → Int32} {S : Nat} {n n' L b b' d v : Int} (h : bfW F f S n b) (en : n = 3 * L) (en' : n' = 3 * L + 3) (hL : 0 ≤ L) (fm : fmQ (fun k => F (3 * L + k)) 3 d) (ev : v = F (3 * L + d)) (hf : ∀ k : Int, F k < 1000000000000000) (c : (v < b ∧ b' = v ∧ fdW f' S (3 * L + d)) ∨ (¬ v < b ∧ b' = b ∧ f' = f)) : bfW F f' S n' b' := by
  obtain ⟨a, h1, h2⟩ := h
  rcases c with ⟨c1, c2, c3⟩ | ⟨c1, c2, c3⟩
  · exact ⟨3 * L + d, am_line h1 en en' (by omega) hL fm ev (fun k _ _ => hf k) (Or.inl ⟨c1, c2, rfl⟩), fun _ => c3⟩
  · refine ⟨a, am_line h1 en en' (by omega) hL fm ev (fun k _ _ => hf k) (Or.inr ⟨c1, c2, rfl⟩), fun _ => ?_⟩
    rw [c3]
    by_cases z : 0 < n
    · exact h2 z
    · exfalso
      rcases h1 with ⟨_, hb⟩ | ⟨a1, a2, _⟩
      · have := hf (3 * L + d); omega
      · omega
/-- the digits kept are those of the row's number -/
def kfW (f d : Nat → Int32) (last ld : Int) : Prop := (∀ s : Int, 0 ≤ s → s < last → (f s.toNat).toInt = (d s.toNat).toInt - 1) ∧ (f last.toNat).toInt = ld - 1
theorem kf_fd {f d : Nat → Int32} {last ld L : Int} {S : Nat} (h : kfW f d last ld) (h0 : 0 ≤ last) (hd : 0 ≤ ld ∧ ld < 3) (hdi : ∀ s : Int, 0 ≤ s → s < last → 0 ≤ (d s.toNat).toInt ∧ (d s.toNat).toInt < 3) (hL : lnK (fun _ => 3) (cW d) last.toNat = L) (eS : S = last.toNat + 1) : fdW f S (3 * L + ld) := by
  rw [eS]
  intro s a b
  obtain ⟨n, rfl⟩ : ∃ n : Nat, last = (n : Int) := ⟨last.toNat, by omega⟩
  have hn : ((n : Int)).toNat = n := by omega
  rw [hn] at hL b ⊢
  have e1 : (3 * L + ld) / 3 = L := by omega
  have e2 : (3 * L + ld) % 3 = ld := by omega
  by_cases c : s = (n : Int)
  · subst c
    rw [dg_last, e2]
    exact h.2
  · rw [dg_next (by omega), h.1 s a (by omega)]
    show _ = dgK (fun _ => 3) n ((3 * L + ld) / 3) s - 1
    rw [e1, ← hL, dg_ln (co := fun _ => 3) (di := cW d) n (fun s a b => hdi s a b) s a (by omega)]
    rfl
theorem kf_put {f f' d : Nat → Int32} {n n' : Int} {x z : Int32} (h : ∀ s : Int, 0 ≤ s → s < n → (f s.toNat).toInt = (d s.toNat).toInt - 1) (ex : x = d n.toNat) (ez : z.toInt = x.toInt - 1) (e : f' = upd f n.toNat z) (h0 : 0 ≤ n) (en : n' = n + 1) : ∀ s : Int, 0 ≤ s → s < n' → (f' s.toNat).toInt = (d s.toNat).toInt - 1 := by
  intro s a b
  rw [e]
  show (if s.toNat = n.toNat then z else f s.toNat).toInt = _
  by_cases c : s = n
  · subst c
    rw [if_pos rfl, ez, ex]
  · rw [if_neg (by omega)]
    exact h s a (by omega)
theorem kf_end {f f' d : Nat → Int32} {n last ld : Int} {z : Int32} (h : ∀ s : Int, 0 ≤ s → s < n → (f s.toNat).toInt = (d s.toNat).toInt - 1) (hn : last ≤ n ∧ n ≤ last ∧ 0 ≤ last) (e : f' = upd f last.toNat z) (ez : z.toInt = ld - 1) : kfW f' d last ld := by
  refine ⟨fun s a b => ?_, ?_⟩
  · rw [e]
    show (if s.toNat = last.toNat then z else f s.toNat).toInt = _
    rw [if_neg (by omega)]
    exact h s a (by omega)
  · rw [e]
    show (if last.toNat = last.toNat then z else f last.toNat).toInt = _
    rw [if_pos rfl]; exact ez
/-! the numbers set for a row -/
def snW (lo ga co row : Nat → Int32) (per n : Int) : Prop := ∀ k : Int, 0 ≤ k → k < n → (lo k.toNat).toInt = (row k.toNat).toInt - per ∧ (ga k.toNat).toInt = per ∧ (co k.toNat).toInt = 3
theorem sn_0 {lo ga co row : Nat → Int32} {per n : Int} (h : n = 0) : snW lo ga co row per n := fun k a b => absurd b (by omega)
theorem sn_put {lo lo' ga ga' co co' row : Nat → Int32} {per n n' r : Int} {v g c x : Int32} (h : snW lo ga co row per n) (e1 : lo' = upd lo n.toNat v) (e2 : ga' = upd ga n.toNat g) (e3 : co' = upd co n.toNat c) (ex : x = row n.toNat) (er : r = x.toInt) (ev : v.toInt = r - per) (eg : g.toInt = per) (ec : c.toInt = 3) (h0 : 0 ≤ n) (en : n' = n + 1) : snW lo' ga' co' row per n' := by
  intro k a b
  rw [e1, e2, e3]
  show (if k.toNat = n.toNat then v else lo k.toNat).toInt = _ ∧ (if k.toNat = n.toNat then g else ga k.toNat).toInt = per ∧ (if k.toNat = n.toNat then c else co k.toNat).toInt = 3
  by_cases q : k = n
  · subst q
    rw [if_pos rfl, if_pos rfl, if_pos rfl, ev, er, ex]
    exact ⟨rfl, eg, ec⟩
  · rw [if_neg (by omega), if_neg (by omega), if_neg (by omega)]
    exact h k a (by omega)
theorem sn_cn {lo ga co row : Nat → Int32} {per n last : Int} (h : snW lo ga co row per n) (hl : last ≤ n) : ∀ s : Int, 0 ≤ s → s < last → 1 ≤ cW co s ∧ cW co s ≤ 24 := by
  intro s a b
  have q := (h s a (by omega)).2.2
  unfold cW
  omega
theorem sn_di {lo ga co row d : Nat → Int32} {per n last : Int} (h : snW lo ga co row per n) (hl : last ≤ n) (z : ∀ s : Int, 0 ≤ s → s < 5 → (d s.toNat).toInt = 0) (h4 : last ≤ 4) : diW d co last := by
  intro s a b
  have q := (h s a (by omega)).2.2
  have w := z s a (by omega)
  unfold cW
  omega
theorem sn_nm {lo ga co row : Nat → Int32} {per n last : Int} (h : snW lo ga co row per n) (hl : last ≤ n) (h0 : 0 ≤ last) : ∀ di : Int → Int, lnK (cW co) di last.toNat = lnK (fun _ => 3) di last.toNat := fun di => ln_congr last.toNat (fun s a b => ⟨(h s a (by omega)).2.2, rfl⟩)
theorem nm_congr {co co' : Int → Int} : ∀ n : Nat, (∀ s : Int, 0 ≤ s → s < (n : Int) → co s = co' s) → nmK co n = nmK co' n
  | 0, _ => rfl
  | n + 1, h => by
    show nmK co n * co (n : Int) = nmK co' n * co' (n : Int)
    rw [nm_congr n (fun s a b => h s a (by omega)), h (n : Int) (by omega) (by omega)]
/-- where the walk stands: at a line of its number -/
def cuW (T row lo ga co d : Nat → Int32) (ba cr : Nat → Int64) (last L : Int) : Prop := seW T (xW lo ga d) ba cr last last ∧ diW d co last ∧ lnK (cW co) (cW d) last.toNat = L
theorem cu_0 {T row lo ga co d : Nat → Int32} {ba cr : Nat → Int64} {per n last L : Int} (hs : seW T (xW lo ga d) ba cr last last) (sn : snW lo ga co row per n) (hl : last ≤ n) (h0 : 0 ≤ last) (h4 : last ≤ 4) (z : ∀ s : Int, 0 ≤ s → s < 5 → (d s.toNat).toInt = 0) (hL : L = 0) : cuW T row lo ga co d ba cr last L :=
  ⟨hs, sn_di sn hl z h4, by rw [hL]; exact ln_0 last.toNat (fun s a b => z s a (by omega))⟩
theorem cu_next {T row lo ga co d d' : Nat → Int32} {ba cr ba' cr' : Nat → Int64} {last L L' N : Int} (h : cuW T row lo ga co d ba cr last L) (k : nlW T lo ga co d d' ba' cr' last) (eN : N = nmK (cW co) last.toNat) (hL : L + 1 < N) (eL : L' = L + 1) : cuW T row lo ga co d' ba' cr' last L' := by
  rcases k with ⟨k1, k2, k3⟩ | k
  · exact ⟨k3, k2, by rw [k1, h.2.2, eL]⟩
  · rw [h.2.2] at k; omega
/-- the numbers of the line at hand lie within 30 -/
theorem sn_x {lo ga co row d : Nat → Int32} {per n last : Int} (h : snW lo ga co row per n) (hl : last ≤ n) (hd : diW d co last) (hr : ∀ s : Int, 0 ≤ s → s < n → -7 ≤ (row s.toNat).toInt ∧ (row s.toNat).toInt ≤ 7) (hp : 4 ≤ per ∧ per ≤ 16) : ∀ s : Int, 0 ≤ s → s < last → xW lo ga d s = (row s.toNat).toInt - per + per * cW d s ∧ -30 ≤ xW lo ga d s ∧ xW lo ga d s ≤ 30 := by
  intro s a b
  have q := h s a (by omega)
  have w := hd s a b
  have r := hr s a (by omega)
  have w3 : cW co s = 3 := q.2.2
  have m1 := Int.mul_nonneg (show (0 : Int) ≤ per by omega) w.1
  have m2 : per * cW d s ≤ per * 2 := Int.mul_le_mul_of_nonneg_left (by omega) (by omega)
  have e := xv_eq (a := lo s.toNat) (b := ga s.toNat) (q := d s.toNat) (lo := (row s.toNat).toInt - per) (g := per) (d := cW d s) q.1 q.2.1 rfl (by omega) (by omega) (by omega) (by omega)
  have e2 : xW lo ga d s = (row s.toNat).toInt - per + per * cW d s := e
  exact ⟨e2, by omega⟩
theorem fm_congr {q q' : Int → Int} {m d : Int} (h : fmQ q m d) (e : ∀ k : Int, 0 ≤ k → k < m → q k = q' k) : fmQ q' m d := by
  obtain ⟨a, b, c, f⟩ := h
  refine ⟨a, b, fun k k0 k1 => ?_, fun k k0 k1 => ?_⟩
  · rw [← e d a b, ← e k k0 k1]; exact c k k0 k1
  · rw [← e d a b, ← e k k0 (by omega)]; exact f k k0 k1
/-- one line looked at -/
theorem lf_fm {T row lo ga co d : Nat → Int32} {ba cr : Nat → Int64} {per n last L : Int} {S : Nat} {x : Int → Int} (cu : cuW T row lo ga co d ba cr last L) (sn : snW lo ga co row per n) (hn : n = last + 1) (h0 : 0 ≤ last) (hr : ∀ s : Int, 0 ≤ s → s < n → -7 ≤ (row s.toNat).toInt ∧ (row s.toNat).toInt ≤ 7) (hp : 4 ≤ per ∧ per ≤ 16) (ex : x = xW lo ga d) (eS : S = last.toNat + 1) : ∀ k : Int, 0 ≤ k → k < 3 → qdK (bsK T x last.toNat 6) (dtn T last last 6) (crK T x last.toNat last 6) ((lo last.toNat).toInt + (ga last.toNat).toInt * k) = rowF T row per S (3 * L + k) := by
  intro k k0 k1
  rw [eS]
  have q := sn last h0 (by omega)
  rw [q.1, q.2.1, ex]
  exact rowF_at h0 ⟨k0, k1⟩ (di := cW d) (fun s a b => by
    have w := cu.2.1 s a b
    have w3 : cW co s = 3 := (sn s a (by omega)).2.2
    omega) (by rw [← sn_nm sn (by omega) h0]; exact cu.2.2) (fun s a b => (sn_x sn (by omega) cu.2.1 hr hp s a b).1)
theorem lf_L {T row lo ga co d : Nat → Int32} {ba cr : Nat → Int64} {per n last L : Int} (cu : cuW T row lo ga co d ba cr last L) (sn : snW lo ga co row per n) (hl : last ≤ n) (h0 : 0 ≤ last) : lnK (fun _ => 3) (cW d) last.toNat = L := by rw [← sn_nm sn hl h0]; exact cu.2.2
theorem lf_d {T row lo ga co d : Nat → Int32} {ba cr : Nat → Int64} {per n last L : Int} (cu : cuW T row lo ga co d ba cr last L) (sn : snW lo ga co row per n) (hl : last ≤ n) : ∀ s : Int, 0 ≤ s → s < last → 0 ≤ (d s.toNat).toInt ∧ (d s.toNat).toInt < 3 := by
  intro s a b
  have w := cu.2.1 s a b
  have w3 : cW co s = 3 := (sn s a (by omega)).2.2
  unfold cW at w w3
  omega
theorem lf_xb {T row lo ga co d : Nat → Int32} {ba cr : Nat → Int64} {per n last L : Int} (cu : cuW T row lo ga co d ba cr last L) (sn : snW lo ga co row per n) (hr : ∀ s : Int, 0 ≤ s → s < n → -7 ≤ (row s.toNat).toInt ∧ (row s.toNat).toInt ≤ 7) (hl : last ≤ n) (hp : 4 ≤ per ∧ per ≤ 16) : xbW (xW lo ga d) last := fun s a b => (sn_x sn hl cu.2.1 hr hp s a b).2
theorem lf_q {T row lo ga co d : Nat → Int32} {pr ba cr : Nat → Int64} {per n last L : Int} {S : Nat} {r : Int64} {q : Int32} {dg : Int} (h : ∀ T : Nat → Int32, prW pr T last → seW T (xW lo ga d) ba cr last last → r = I6 (qdK (bsK T (xW lo ga d) last.toNat 6) (dtn T last last 6) (crK T (xW lo ga d) last.toNat last 6) (lo last.toNat + ga last.toNat * q).toInt)) (hp : prW pr T last) (cu : cuW T row lo ga co d ba cr last L) (sn : snW lo ga co row per n) (tb : TB T 99) (hr : ∀ s : Int, 0 ≤ s → s < n → -7 ≤ (row s.toNat).toInt ∧ (row s.toNat).toInt ≤ 7) (hn : n = last + 1) (h0 : 0 ≤ last ∧ last ≤ 4) (hpe : 4 ≤ per ∧ per ≤ 16) (hd : 0 ≤ dg ∧ dg < 3) (eq : q.toInt = dg) (eS : S = last.toNat + 1) : r.toInt = rowF T row per S (3 * L + dg) := by
  have sl := sn last h0.1 (by omega)
  have xb := lf_xb cu sn hr (by omega) hpe
  have rl := hr last h0.1 (by omega)
  have e := bd_q (h T hp cu.1) tb xb h0.1 h0.2 rfl rfl eq (m := 3) (by omega) hd (by omega) (by omega)
  rw [e]
  exact lf_fm cu sn hn h0.1 hr hpe rfl eS dg hd.1 hd.2
theorem lf_nm {lo ga co row : Nat → Int32} {per n last N : Int} (sn : snW lo ga co row per n) (e : N = nmK (cW co) last.toNat) (hl : last ≤ n) (h0 : 0 ≤ last) : N = nmK (fun _ => 3) last.toNat := by
  rw [e]
  exact nm_congr last.toNat (fun s a b => (sn s a (by omega)).2.2)
theorem bf_end {T row : Nat → Int32} {f : Nat → Int32} {S : Nat} {n n' b per per' N : Int} (h : bfW (rowF T row per S) f S n b) (hn : n = 3 * N) (eN : N = n') (ep : per = per') : bfW (rowF T row per' S) f S (3 * n') b := by
  subst ep
  subst eN
  rw [← hn]; exact h
theorem sn_g {lo ga co row : Nat → Int32} {per n last : Int} (h : snW lo ga co row per n) (hl : last < n) (h0 : 0 ≤ last) (hp : 4 ≤ per ∧ per ≤ 16) : 1 ≤ (ga last.toNat).toInt ∧ (ga last.toNat).toInt ≤ 64 := by
  have q := (h last h0 hl).2.1
  omega
theorem sn_l {lo ga co row : Nat → Int32} {per n last m : Int} (h : snW lo ga co row per n) (hl : last < n) (h0 : 0 ≤ last) (hp : 4 ≤ per ∧ per ≤ 16) (hr : ∀ s : Int, 0 ≤ s → s < n → -7 ≤ (row s.toNat).toInt ∧ (row s.toNat).toInt ≤ 7) (hm : m = 3) : -30 ≤ (lo last.toNat).toInt ∧ (lo last.toNat).toInt + (ga last.toNat).toInt * (m - 1) ≤ 30 := by
  have q := h last h0 hl
  have r := hr last h0 hl
  rw [q.1, q.2.1, hm]
  omega
