/-! a statement -/
