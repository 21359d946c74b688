/-! a text read -/
