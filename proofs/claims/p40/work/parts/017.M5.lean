/-! sums, facts, tests, as the reference reads them -/
/-! tests: the whole stack is at hand -/
/-! a rule -/
/-! numbers with a sign, rows, statements, the house, as the reference reads them -/
/-! a statement -/
/-! the house -/
