/-! the class: turns, put in one by one -/
/-! the reference: each at its place -/
