/-! the class's plan is made: what its walks keep to -/
def xUpN (f : Nat → Nat) (k w : Nat) : Nat → Nat := fun i => if i = k then w else f i
theorem xUpN_e (f : Nat → Nat) (k w : Nat) : upd (fun i => nI (f i)) k (nI w) = fun i => nI (xUpN f k w i) := by
  funext i
  by_cases h : i = k
  · simp [upd, xUpN, h]
  · simp [upd, xUpN, h]
theorem xUpN_le {f : Nat → Nat} {k w : Nat} (h : ∀ i, i ≤ 6 → f i ≤ 1000) (hw : w ≤ 1000) : ∀ i, i ≤ 6 → xUpN f k w i ≤ 1000 := by
  intro i hi
  unfold xUpN
  split
  · exact hw
  · exact h i hi
