def wL : List (List Int) := [[104, 111, 117, 115, 101], [114, 111, 119], [119, 111, 114, 100], [119, 111, 114, 116, 104], [115, 101, 110, 100, 101, 114], [115, 113, 117, 97, 114, 101], [112, 101, 97, 107], [109, 105, 110], [109, 97, 120], [119, 104, 101, 110], [110, 111, 116], [97, 108, 108], [97, 110, 100], [111, 114], [108, 105, 109, 105, 116]]
/-! the words -/
theorem wd_lt {f : Nat → Int32} {n q sg : Int} {w : List Int} (h : wd (taub f n) q sg w) (hp : ∀ a ∈ w, 0 ≤ a) (hn : ¬ w = []) : q + (w.length : Int) ≤ n := mt_lt w h.2.1 hp hn
theorem s_wl {i : Nat} (hi : i < 15) : ((wL.getD i []).length : Int) = ((lenS.getD i 0 : Nat) : Int) := by
  have h : ∀ i : Nat, i < 15 → (wL.getD i []).length = lenS.getD i 0 := by decide +kernel
  rw [h i hi]
theorem s_pos {i : Nat} (hi : i < 15) : ∀ a ∈ wL.getD i [], 0 ≤ a := by
  have h : ∀ i : Nat, i < 15 → ∀ a ∈ wL.getD i [], 0 ≤ a := by decide +kernel
  exact h i hi
theorem s_ne {i : Nat} (hi : i < 15) : ¬ wL.getD i [] = [] := by
  have h : ∀ i : Nat, i < 15 → ¬ wL.getD i [] = [] := by decide +kernel
  exact h i hi
theorem s_ch {i n : Nat} (hi : i < 15) (hn : n < 6) {z : Int32} (e : z = ((((bytS.getD i []).getD n 0) &&& 255).toUInt32 % 65536).toInt32) : z.toInt = (wL.getD i []).getD n 0 := by
  have h : ∀ i : Nat, i < 15 → ∀ n : Nat, n < 6 → (((((bytS.getD i []).getD n 0) &&& 255).toUInt32 % 65536).toInt32).toInt = (wL.getD i []).getD n 0 := by decide +kernel
  rw [e]
  exact h i hi n hn
theorem s_l1 {i : Nat} (hi : i < 15) : 1 ≤ lenS.getD i 0 := by
  have h : ∀ i : Nat, i < 15 → 1 ≤ lenS.getD i 0 := by decide +kernel
  exact h i hi
