/-! the reference: the working out -/
