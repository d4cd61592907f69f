section
/-! bytes fed, the same on both sides -/
section GF
variable {p : Program} {l : Launch} {e : Env} {R : Room} {s : State} {m : MethodId} {args : Array Value} {below : List Frame} {meth : Method} {c : Code} {cells slots : Nat} {Q : State → Prop} {D : va_G} {tys : List (ClassId × FieldType)} {ws : va_W} {H H0 : Heap} {locs : List Loc} {A : Nat → Prop} {a pc : Nat} {ls : Array Slot} {rest : List Value} {cc : ByteArray}
theorem e_bastore {cl : List vw_C} (hexec : p.tables.exec = Jvm.exec) (hb : c.code = cc) (hK : va_K D cl tys s) (hP : va_P D cl ws H) (hD : va_D A ws) (hS : va_S A H0 H locs) (q0 t0 : Nat) {cA : ClassId} {n : Nat} {f : Nat → Int32} (ha : ws[q0]? = some (a, .inl (cA, n, .inl f))) (ht : tys[t0]? = some (cA, .byte)) {i : Int32} {x : Int32} (hin : vp_in i n) (hdg : decode cc pc = .ok (.bastore, 1))
    (kk : ∀ (f' : Nat → Int32), f' = upd f (i.toInt).toNat (vp_nar .byte x) → ∀ (H1 : Heap) (locs1 : List Loc), va_P D cl (ws.set q0 (a, .inl (cA, n, .inl f'))) H1 → va_D A (ws.set q0 (a, .inl (cA, n, .inl f'))) → va_S A H0 H1 locs1 → W p l e R s m args below meth c H1 locs1 cells slots Q (F0 m (pc + 1) ls rest)) : W p l e R s m args below meth c H locs cells slots Q (F0 m pc ls (.int x :: .int i :: .ref a :: rest)) :=
  va_bast hexec hb hK hP hD hS q0 t0 ha ht hin hdg (fun H1 locs1 h1 h2 h3 => kk _ rfl H1 locs1 h1 h2 h3)
end GF
theorem bmm (x : Int) : Int.bmod x 256 % 256 = x % 256 := by
  first
    | (rw [Int.bmod_def]; split <;> omega)
    | (unfold Int.bmod; simp only []; split <;> omega)
    | omega
theorem i8m (y : Int32) : (y.toInt8.toInt32).toInt % 256 = y.toInt % 256 := by
  have h1 : (y.toInt8.toInt32).toInt = y.toInt8.toInt := by
    first
      | exact Int8.toInt_toInt32 _
      | simp
  have h2 : y.toInt8.toInt = Int.bmod y.toInt 256 := by
    first
      | exact Int32.toInt_toInt8 _
      | simp
  rw [h1, h2]
  exact bmm _
theorem narm (x : Int32) : (vp_nar .byte x).toInt % 256 = x.toInt % 256 := i8m x
def bt (x s : Int32) : Int := (x >>> (s &&& 31)).toInt % 256
theorem bz {x y z s : Int32} (e1 : y = x >>> (s &&& 31)) (e2 : z = y.toInt8.toInt32) : (vp_nar .byte z).toInt % 256 = bt x s := by
  rw [narm, e2, i8m, e1]
  rfl
theorem bm {x y z s : Int32} (e1 : y = x >>> (s &&& 31)) (e2 : z.toInt = y.toInt % 256) : z.toInt = bt x s := by
  rw [e2, e1]
  rfl
def b4 (x : Int32) (j : Int) : Int := ([bt x 24, bt x 16, bt x 8, bt x 0] : List Int).getD j.toNat 0
def bys (a b c d e : Int32) (j : Int) : Int := ([bt a 24, bt a 16, bt a 8, bt a 0, bt b 24, bt b 16, bt b 8, bt b 0, bt c 24, bt c 16, bt c 8, bt c 0, bt d 24, bt d 16, bt d 8, bt d 0, bt e 24, bt e 16, bt e 8, bt e 0] : List Int).getD j.toNat 0
def fdK (t : Int → Int) (n : Int) (B : Int → Int) (k i : Int) : Int := if n ≤ i ∧ i < n + k then B (i - n) else t i
def fdQ9 (t' t : Int → Int) (n : Int) (B : Int → Int) (k : Int) : Prop := ∀ i : Int, t' i = fdK t n B k i
theorem fd_0 {t : Int → Int} {n : Int} {B : Int → Int} : fdQ9 t t n B 0 := fun i => (if_neg (fun h => by omega)).symm
theorem fd_0k {t : Int → Int} {n k : Int} {B : Int → Int} (h : k = 0) : fdQ9 t t n B k := by
  subst h
  exact fd_0
theorem bys_at {a b c d e w s : Int32} {k : Int} (hk : 0 ≤ k ∧ k < 20) (hs : s.toInt = 8 * (3 - k % 4)) (hw : (k < 4 ∧ w = a) ∨ (4 ≤ k ∧ k < 8 ∧ w = b) ∨ (8 ≤ k ∧ k < 12 ∧ w = c) ∨ (12 ≤ k ∧ k < 16 ∧ w = d) ∨ (16 ≤ k ∧ w = e)) : bys a b c d e k = bt w s := by
  rcases (show k = 0 ∨ k = 1 ∨ k = 2 ∨ k = 3 ∨ k = 4 ∨ k = 5 ∨ k = 6 ∨ k = 7 ∨ k = 8 ∨ k = 9 ∨ k = 10 ∨ k = 11 ∨ k = 12 ∨ k = 13 ∨ k = 14 ∨ k = 15 ∨ k = 16 ∨ k = 17 ∨ k = 18 ∨ k = 19 by omega) with hk0 | hk0 | hk0 | hk0 | hk0 | hk0 | hk0 | hk0 | hk0 | hk0 | hk0 | hk0 | hk0 | hk0 | hk0 | hk0 | hk0 | hk0 | hk0 | hk0 <;> subst hk0
  · have es : s = 24 := Int32.toInt_inj.mp (show s.toInt = (24 : Int32).toInt by rw [show (24 : Int32).toInt = 24 by decide +kernel]; omega)
    subst es
    rcases hw with ⟨h, g⟩ | ⟨h, h2, g⟩ | ⟨h, h2, g⟩ | ⟨h, h2, g⟩ | ⟨h, g⟩
    · rw [g]; rfl
    · exact absurd (And.intro h h2) (by omega)
    · exact absurd (And.intro h h2) (by omega)
    · exact absurd (And.intro h h2) (by omega)
    · exact absurd h (by omega)
  · have es : s = 16 := Int32.toInt_inj.mp (show s.toInt = (16 : Int32).toInt by rw [show (16 : Int32).toInt = 16 by decide +kernel]; omega)
    subst es
    rcases hw with ⟨h, g⟩ | ⟨h, h2, g⟩ | ⟨h, h2, g⟩ | ⟨h, h2, g⟩ | ⟨h, g⟩
    · rw [g]; rfl
    · exact absurd (And.intro h h2) (by omega)
    · exact absurd (And.intro h h2) (by omega)
    · exact absurd (And.intro h h2) (by omega)
    · exact absurd h (by omega)
  · have es : s = 8 := Int32.toInt_inj.mp (show s.toInt = (8 : Int32).toInt by rw [show (8 : Int32).toInt = 8 by decide +kernel]; omega)
    subst es
    rcases hw with ⟨h, g⟩ | ⟨h, h2, g⟩ | ⟨h, h2, g⟩ | ⟨h, h2, g⟩ | ⟨h, g⟩
    · rw [g]; rfl
    · exact absurd (And.intro h h2) (by omega)
    · exact absurd (And.intro h h2) (by omega)
    · exact absurd (And.intro h h2) (by omega)
    · exact absurd h (by omega)
  · have es : s = 0 := Int32.toInt_inj.mp (show s.toInt = (0 : Int32).toInt by rw [show (0 : Int32).toInt = 0 by decide +kernel]; omega)
    subst es
    rcases hw with ⟨h, g⟩ | ⟨h, h2, g⟩ | ⟨h, h2, g⟩ | ⟨h, h2, g⟩ | ⟨h, g⟩
    · rw [g]; rfl
    · exact absurd (And.intro h h2) (by omega)
    · exact absurd (And.intro h h2) (by omega)
    · exact absurd (And.intro h h2) (by omega)
    · exact absurd h (by omega)
  · have es : s = 24 := Int32.toInt_inj.mp (show s.toInt = (24 : Int32).toInt by rw [show (24 : Int32).toInt = 24 by decide +kernel]; omega)
    subst es
    rcases hw with ⟨h, g⟩ | ⟨h, h2, g⟩ | ⟨h, h2, g⟩ | ⟨h, h2, g⟩ | ⟨h, g⟩
    · exact absurd h (by omega)
    · rw [g]; rfl
    · exact absurd (And.intro h h2) (by omega)
    · exact absurd (And.intro h h2) (by omega)
    · exact absurd h (by omega)
  · have es : s = 16 := Int32.toInt_inj.mp (show s.toInt = (16 : Int32).toInt by rw [show (16 : Int32).toInt = 16 by decide +kernel]; omega)
    subst es
    rcases hw with ⟨h, g⟩ | ⟨h, h2, g⟩ | ⟨h, h2, g⟩ | ⟨h, h2, g⟩ | ⟨h, g⟩
    · exact absurd h (by omega)
    · rw [g]; rfl
    · exact absurd (And.intro h h2) (by omega)
    · exact absurd (And.intro h h2) (by omega)
    · exact absurd h (by omega)
  · have es : s = 8 := Int32.toInt_inj.mp (show s.toInt = (8 : Int32).toInt by rw [show (8 : Int32).toInt = 8 by decide +kernel]; omega)
    subst es
    rcases hw with ⟨h, g⟩ | ⟨h, h2, g⟩ | ⟨h, h2, g⟩ | ⟨h, h2, g⟩ | ⟨h, g⟩
    · exact absurd h (by omega)
    · rw [g]; rfl
    · exact absurd (And.intro h h2) (by omega)
    · exact absurd (And.intro h h2) (by omega)
    · exact absurd h (by omega)
  · have es : s = 0 := Int32.toInt_inj.mp (show s.toInt = (0 : Int32).toInt by rw [show (0 : Int32).toInt = 0 by decide +kernel]; omega)
    subst es
    rcases hw with ⟨h, g⟩ | ⟨h, h2, g⟩ | ⟨h, h2, g⟩ | ⟨h, h2, g⟩ | ⟨h, g⟩
    · exact absurd h (by omega)
    · rw [g]; rfl
    · exact absurd (And.intro h h2) (by omega)
    · exact absurd (And.intro h h2) (by omega)
    · exact absurd h (by omega)
  · have es : s = 24 := Int32.toInt_inj.mp (show s.toInt = (24 : Int32).toInt by rw [show (24 : Int32).toInt = 24 by decide +kernel]; omega)
    subst es
    rcases hw with ⟨h, g⟩ | ⟨h, h2, g⟩ | ⟨h, h2, g⟩ | ⟨h, h2, g⟩ | ⟨h, g⟩
    · exact absurd h (by omega)
    · exact absurd (And.intro h h2) (by omega)
    · rw [g]; rfl
    · exact absurd (And.intro h h2) (by omega)
    · exact absurd h (by omega)
  · have es : s = 16 := Int32.toInt_inj.mp (show s.toInt = (16 : Int32).toInt by rw [show (16 : Int32).toInt = 16 by decide +kernel]; omega)
    subst es
    rcases hw with ⟨h, g⟩ | ⟨h, h2, g⟩ | ⟨h, h2, g⟩ | ⟨h, h2, g⟩ | ⟨h, g⟩
    · exact absurd h (by omega)
    · exact absurd (And.intro h h2) (by omega)
    · rw [g]; rfl
    · exact absurd (And.intro h h2) (by omega)
    · exact absurd h (by omega)
  · have es : s = 8 := Int32.toInt_inj.mp (show s.toInt = (8 : Int32).toInt by rw [show (8 : Int32).toInt = 8 by decide +kernel]; omega)
    subst es
    rcases hw with ⟨h, g⟩ | ⟨h, h2, g⟩ | ⟨h, h2, g⟩ | ⟨h, h2, g⟩ | ⟨h, g⟩
    · exact absurd h (by omega)
    · exact absurd (And.intro h h2) (by omega)
    · rw [g]; rfl
    · exact absurd (And.intro h h2) (by omega)
    · exact absurd h (by omega)
  · have es : s = 0 := Int32.toInt_inj.mp (show s.toInt = (0 : Int32).toInt by rw [show (0 : Int32).toInt = 0 by decide +kernel]; omega)
    subst es
    rcases hw with ⟨h, g⟩ | ⟨h, h2, g⟩ | ⟨h, h2, g⟩ | ⟨h, h2, g⟩ | ⟨h, g⟩
    · exact absurd h (by omega)
    · exact absurd (And.intro h h2) (by omega)
    · rw [g]; rfl
    · exact absurd (And.intro h h2) (by omega)
    · exact absurd h (by omega)
  · have es : s = 24 := Int32.toInt_inj.mp (show s.toInt = (24 : Int32).toInt by rw [show (24 : Int32).toInt = 24 by decide +kernel]; omega)
    subst es
    rcases hw with ⟨h, g⟩ | ⟨h, h2, g⟩ | ⟨h, h2, g⟩ | ⟨h, h2, g⟩ | ⟨h, g⟩
    · exact absurd h (by omega)
    · exact absurd (And.intro h h2) (by omega)
    · exact absurd (And.intro h h2) (by omega)
    · rw [g]; rfl
    · exact absurd h (by omega)
  · have es : s = 16 := Int32.toInt_inj.mp (show s.toInt = (16 : Int32).toInt by rw [show (16 : Int32).toInt = 16 by decide +kernel]; omega)
    subst es
    rcases hw with ⟨h, g⟩ | ⟨h, h2, g⟩ | ⟨h, h2, g⟩ | ⟨h, h2, g⟩ | ⟨h, g⟩
    · exact absurd h (by omega)
    · exact absurd (And.intro h h2) (by omega)
    · exact absurd (And.intro h h2) (by omega)
    · rw [g]; rfl
    · exact absurd h (by omega)
  · have es : s = 8 := Int32.toInt_inj.mp (show s.toInt = (8 : Int32).toInt by rw [show (8 : Int32).toInt = 8 by decide +kernel]; omega)
    subst es
    rcases hw with ⟨h, g⟩ | ⟨h, h2, g⟩ | ⟨h, h2, g⟩ | ⟨h, h2, g⟩ | ⟨h, g⟩
    · exact absurd h (by omega)
    · exact absurd (And.intro h h2) (by omega)
    · exact absurd (And.intro h h2) (by omega)
    · rw [g]; rfl
    · exact absurd h (by omega)
  · have es : s = 0 := Int32.toInt_inj.mp (show s.toInt = (0 : Int32).toInt by rw [show (0 : Int32).toInt = 0 by decide +kernel]; omega)
    subst es
    rcases hw with ⟨h, g⟩ | ⟨h, h2, g⟩ | ⟨h, h2, g⟩ | ⟨h, h2, g⟩ | ⟨h, g⟩
    · exact absurd h (by omega)
    · exact absurd (And.intro h h2) (by omega)
    · exact absurd (And.intro h h2) (by omega)
    · rw [g]; rfl
    · exact absurd h (by omega)
  · have es : s = 24 := Int32.toInt_inj.mp (show s.toInt = (24 : Int32).toInt by rw [show (24 : Int32).toInt = 24 by decide +kernel]; omega)
    subst es
    rcases hw with ⟨h, g⟩ | ⟨h, h2, g⟩ | ⟨h, h2, g⟩ | ⟨h, h2, g⟩ | ⟨h, g⟩
    · exact absurd h (by omega)
    · exact absurd (And.intro h h2) (by omega)
    · exact absurd (And.intro h h2) (by omega)
    · exact absurd (And.intro h h2) (by omega)
    · rw [g]; rfl
  · have es : s = 16 := Int32.toInt_inj.mp (show s.toInt = (16 : Int32).toInt by rw [show (16 : Int32).toInt = 16 by decide +kernel]; omega)
    subst es
    rcases hw with ⟨h, g⟩ | ⟨h, h2, g⟩ | ⟨h, h2, g⟩ | ⟨h, h2, g⟩ | ⟨h, g⟩
    · exact absurd h (by omega)
    · exact absurd (And.intro h h2) (by omega)
    · exact absurd (And.intro h h2) (by omega)
    · exact absurd (And.intro h h2) (by omega)
    · rw [g]; rfl
  · have es : s = 8 := Int32.toInt_inj.mp (show s.toInt = (8 : Int32).toInt by rw [show (8 : Int32).toInt = 8 by decide +kernel]; omega)
    subst es
    rcases hw with ⟨h, g⟩ | ⟨h, h2, g⟩ | ⟨h, h2, g⟩ | ⟨h, h2, g⟩ | ⟨h, g⟩
    · exact absurd h (by omega)
    · exact absurd (And.intro h h2) (by omega)
    · exact absurd (And.intro h h2) (by omega)
    · exact absurd (And.intro h h2) (by omega)
    · rw [g]; rfl
  · have es : s = 0 := Int32.toInt_inj.mp (show s.toInt = (0 : Int32).toInt by rw [show (0 : Int32).toInt = 0 by decide +kernel]; omega)
    subst es
    rcases hw with ⟨h, g⟩ | ⟨h, h2, g⟩ | ⟨h, h2, g⟩ | ⟨h, h2, g⟩ | ⟨h, g⟩
    · exact absurd h (by omega)
    · exact absurd (And.intro h h2) (by omega)
    · exact absurd (And.intro h h2) (by omega)
    · exact absurd (And.intro h h2) (by omega)
    · rw [g]; rfl
theorem fd_put {t t1 t2 : Int → Int} {n k k2 m : Int} {B : Int → Int} (h : fdQ9 t1 t n B k) (em : m = n + k) (hk : 0 ≤ k) (ek : k2 = k + 1) (h1 : t2 m = B k) (h2 : ∀ i, ¬ i = m → t2 i = t1 i) : fdQ9 t2 t n B k2 := by
  intro i
  by_cases c : i = m
  · subst c
    rw [h1]
    unfold fdK
    rw [if_pos (by omega), show i - n = k by omega]
  · rw [h2 i c, h i]
    unfold fdK
    by_cases d : n ≤ i ∧ i < n + k
    · rw [if_pos d, if_pos (by omega)]
    · rw [if_neg d, if_neg (by omega)]
theorem fdm_step {f f' : Nat → Int32} {t : Int → Int} {n k k2 m m2 b : Int} {B : Int → Int} {z : Int32} (h : fdQ9 (tau f m) t n B k) (em : m = n + k) (h0 : 0 ≤ n) (hk : 0 ≤ k) (ek : k2 = k + 1) (e : f' = upd f m.toNat z) (em2 : m2 = m + 1) (hz : z.toInt = b) (hB : B k = b) : fdQ9 (tau f' m2) t n B k2 := by
  subst e
  refine fd_put h em hk ek ?_ (fun i c => ?_)
  · rw [tau_in (by omega) (by omega), u_eq rfl, hz, hB]
  · by_cases d : 0 ≤ i ∧ i < m
    · rw [tau_in d.1 (by omega), tau_in d.1 d.2, u_ne (by omega)]
    · rw [tau_out (by omega), tau_out (by omega)]
theorem fdb_step {f f' : Nat → Int32} {t : Int → Int} {n k k2 m m2 b : Int} {B : Int → Int} {z : Int32} (h : fdQ9 (taub f m) t n B k) (em : m = n + k) (h0 : 0 ≤ n) (hk : 0 ≤ k) (ek : k2 = k + 1) (e : f' = upd f m.toNat z) (em2 : m2 = m + 1) (hz : z.toInt % 256 = b) (hB : B k = b) : fdQ9 (taub f' m2) t n B k2 := by
  subst e
  refine fd_put h em hk ek ?_ (fun i c => ?_)
  · rw [taub_in (by omega) (by omega), u_eq rfl, hz, hB]
  · by_cases d : 0 ≤ i ∧ i < m
    · rw [taub_in d.1 (by omega), taub_in d.1 d.2, u_ne (by omega)]
    · rw [taub_out (by omega), taub_out (by omega)]
theorem fd_app {t t1 t2 : Int → Int} {n k k2 m : Int} {B C : Int → Int} (h1 : fdQ9 t1 t n B k) (h2 : fdQ9 t2 t1 m C 4) (em : m = n + k) (hk : 0 ≤ k) (ek : k2 = k + 4) (hB : ∀ j : Int, 0 ≤ j → j < 4 → B (k + j) = C j) : fdQ9 t2 t n B k2 := by
  intro i
  rw [h2 i]
  unfold fdK
  by_cases c : m ≤ i ∧ i < m + 4
  · rw [if_pos c, if_pos (by omega), ← hB (i - m) (by omega) (by omega), show k + (i - m) = i - n by omega]
  · rw [if_neg c, h1 i]
    unfold fdK
    by_cases d : n ≤ i ∧ i < n + k
    · rw [if_pos d, if_pos (by omega)]
    · rw [if_neg d, if_neg (by omega)]
theorem fd_5 {t t1 t2 t3 t4 t5 : Int → Int} {n n1 n2 n3 n4 : Int} {a b c d e : Int32} (h1 : fdQ9 t1 t n (b4 a) 4) (h2 : fdQ9 t2 t1 n1 (b4 b) 4) (h3 : fdQ9 t3 t2 n2 (b4 c) 4) (h4 : fdQ9 t4 t3 n3 (b4 d) 4) (h5 : fdQ9 t5 t4 n4 (b4 e) 4) (e1 : n1 = n + 4) (e2 : n2 = n + 8) (e3 : n3 = n + 12) (e4 : n4 = n + 16) : fdQ9 t5 t n (bys a b c d e) 20 := by
  have q1 : fdQ9 t1 t n (bys a b c d e) 4 := fd_app fd_0 h1 (by omega) (by decide) (by decide) (fun j x y => by
    rcases (show j = 0 ∨ j = 1 ∨ j = 2 ∨ j = 3 by omega) with z | z | z | z <;> subst z <;> rfl)
  have q2 : fdQ9 t2 t n (bys a b c d e) 8 := fd_app q1 h2 (by omega) (by decide) (by decide) (fun j x y => by
    rcases (show j = 0 ∨ j = 1 ∨ j = 2 ∨ j = 3 by omega) with z | z | z | z <;> subst z <;> rfl)
  have q3 : fdQ9 t3 t n (bys a b c d e) 12 := fd_app q2 h3 (by omega) (by decide) (by decide) (fun j x y => by
    rcases (show j = 0 ∨ j = 1 ∨ j = 2 ∨ j = 3 by omega) with z | z | z | z <;> subst z <;> rfl)
  have q4 : fdQ9 t4 t n (bys a b c d e) 16 := fd_app q3 h4 (by omega) (by decide) (by decide) (fun j x y => by
    rcases (show j = 0 ∨ j = 1 ∨ j = 2 ∨ j = 3 by omega) with z | z | z | z <;> subst z <;> rfl)
  exact fd_app q4 h5 (by omega) (by decide) (by decide) (fun j x y => by
    rcases (show j = 0 ∨ j = 1 ∨ j = 2 ∨ j = 3 by omega) with z | z | z | z <;> subst z <;> rfl)
/-- what feed does to the text -/
def fqQ (r : Int) (t' t : Int → Int) (n : Int) (B : Int → Int) : Prop := (r = -1 → ∀ i : Int, t' i = t i) ∧ (¬ r = -1 → fdQ9 t' t n B 20)
theorem fq_no {r n : Int} {t : Int → Int} {B : Int → Int} (hr : r = -1) : fqQ r t t n B := ⟨fun _ _ => rfl, fun h => absurd hr h⟩
theorem fq_yes {r n : Int} {t' t : Int → Int} {B : Int → Int} (hr : ¬ r = -1) (h : fdQ9 t' t n B 20) : fqQ r t' t n B := ⟨fun q => absurd q hr, fun _ => h⟩
/-! the two tapes alike -/
def tEq (f : Nat → Int32) (n : Int) (g : Nat → Int32) (m : Int) : Prop := n = m ∧ ∀ i : Int, taub f n i = tau g m i
theorem te_cut {f g f' g' : Nat → Int32} {n m n' m' : Int} (h : tEq f n g m) (ef : f' = f) (eg : g' = g) (en : n' = m') (hl : n' ≤ n ∨ n' ≤ 0) : tEq f' n' g' m' := by
  subst ef
  subst eg
  subst en
  refine ⟨rfl, fun i => ?_⟩
  by_cases c : 0 ≤ i ∧ i < n'
  · have q := h.2 i
    have e := h.1
    rw [taub_in c.1 (by omega), tau_in c.1 (by omega)] at q
    rw [taub_in c.1 c.2, tau_in c.1 c.2]
    exact q
  · rw [taub_out (by omega), tau_out (by omega)]
theorem te_feed {f g f' g' : Nat → Int32} {n m n' m' r1 r2 : Int} {B : Int → Int} (h : tEq f n g m) (h1 : fqQ r1 (taub f' n') (taub f n) n B) (h2 : fqQ r2 (tau g' m') (tau g m) m B) (er : r1 = -1 ↔ r2 = -1) (en : n' = m') : tEq f' n' g' m' := by
  refine ⟨en, fun i => ?_⟩
  have e := h.1
  subst e
  by_cases c : r1 = -1
  · rw [h1.1 c i, h2.1 (er.mp c) i, h.2 i]
  · have k1 := h1.2 c i
    have k2 := h2.2 (fun q => c (er.mpr q)) i
    rw [k1, k2]
    unfold fdK
    rw [h.2 i]
end
