/-! the numbers that a house tells, as the reference reads them -/
/-! the two sides alike -/
/-! words: answers -/
