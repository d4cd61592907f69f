/-! what is read ends no sooner than it began -/
/-! a statement, as the class reads it -/
/-! the house, as the class reads it -/
/-- what house answers -/
noncomputable def hA (t : Int → Int) : Int := ci ((hoF t).1 = 0) (hoF t).2.2.1 (-1)
