/-! the reference: rows copied -/
def xCp (f g : Nat → Int32) (n : Nat) : Nat → Int32 := fun i => if i < n then f i else g i
theorem xCp_0 (f g : Nat → Int32) : xCp f g 0 = g := funext fun i => if_neg (Nat.not_lt_zero i)
theorem xCp_s (f g : Nat → Int32) (n : Nat) : upd (xCp f g n) n (f n) = xCp f g (n + 1) := by
  funext i
  by_cases h : i = n
  · subst h; simp [upd, xCp]
  · by_cases q : i < n
    · simp [upd, xCp, h, q, show i < n + 1 by omega]
    · simp [upd, xCp, h, q, show ¬ i < n + 1 by omega]
