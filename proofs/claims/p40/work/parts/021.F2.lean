/-! the row of letters on the tape -/
