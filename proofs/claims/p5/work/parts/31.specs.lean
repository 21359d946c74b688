/-! the reference's tests -/
theorem sNP_e (a : Int32) : sNP a = if a = 0 then 0 else if a = 1 then 0 else 1 := by
  have e0 : (0 : Int32).toInt = 0 := by decide
  have e1 : (1 : Int32).toInt = 1 := by decide
  by_cases h0 : a = 0
  · subst h0; decide
  by_cases h1 : a = 1
  · subst h1; decide
  rw [if_neg h0, if_neg h1, sNP]
  rw [xi_eq] at h0 h1
  by_cases h2 : a < 0
  · rw [if_pos h2]
  · rw [if_neg h2, if_pos]
    rw [xi_lt] at h2 ⊢
    omega
