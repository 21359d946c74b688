/-! a line taken -/
