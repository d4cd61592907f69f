theorem n_c {x : Int32} {v lo hi : Int} (h : x.toInt = v) (hb : lo ≤ v ∧ v ≤ hi) : lo ≤ x.toInt ∧ x.toInt ≤ hi := by rw [h]; exact hb
/-! the numbers that a house tells (table, words, limit): functions of the text -/
/-! a statement, as the class reads it -/
/-! the house, as the class reads it -/
