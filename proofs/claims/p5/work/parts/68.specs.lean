/-! answers that are 0 or 1 -/
theorem xn_01 {x : Int32} (h : x = 0 ∨ x = 1) : narrow .boolean (.int x) = .int x := by rcases h with rfl | rfl <;> rfl
theorem sCh_01 (q v : Int32) : sCh q v = 0 ∨ sCh q v = 1 := by
  unfold sCh
  repeat' split
  all_goals simp
theorem sAs_01 (n : Nat) (v : Int32) : sAs n v = 0 ∨ sAs n v = 1 := by
  unfold sAs
  repeat' split
  all_goals simp
theorem xTL_01 (lt : Nat → Int32) (len p : Nat) (T : xT) : (xTL lt len p T).2 = 0 ∨ (xTL lt len p T).2 = 1 := by
  obtain ⟨st, ln, ho, pa, si, li, lg, ki, ru, ne, ch⟩ := T
  simp only [xTL]
  repeat' split
  all_goals simp
