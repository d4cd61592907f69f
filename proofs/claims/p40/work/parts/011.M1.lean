/-! the reference reads as the automaton does -/
/-! the marks that wait -/
/-! signs and words of the reference -/
/-! one part of a sum -/
/-! behind a part -/
