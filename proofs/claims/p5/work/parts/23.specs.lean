/-! others on the road -/
theorem xInN {a : Int32} {n : Nat} (hn : n < 2 ^ 31) (h0 : ¬ a < 0) (h1 : ¬ nI n < a) : ∃ k, a = nI k ∧ k ≤ n := by
  rw [xi_lt] at h0 h1
  rw [nI_toInt hn] at h1
  have e0 : (0 : Int32).toInt = 0 := by decide
  refine ⟨a.toInt.toNat, ?_, by omega⟩
  rw [xi_eq, nI_toInt (by omega)]
  omega
theorem xInN1 {a : Int32} {n : Nat} (hn : n < 2 ^ 31) (h0 : ¬ a < 1) (h1 : ¬ nI n < a) : ∃ k, a = nI k ∧ (1 ≤ k ∧ k ≤ n) := by
  rw [xi_lt] at h0 h1
  rw [nI_toInt hn] at h1
  have e0 : (1 : Int32).toInt = 1 := by decide
  refine ⟨a.toInt.toNat, ?_, by omega⟩
  rw [xi_eq, nI_toInt (by omega)]
  omega
def qOt (a1 a2 a3 a4 : Int32) : Int32 := if a1 < 1 then -4 else if a2 < 0 then -4 else if a3 < 0 then -4 else if a4 < 0 then -4 else if 9 < a1 then -6 else if 30 < a2 then -6 else if 30 < a3 then -6 else if 60 < a4 then -6 else 0
def xOt (g : Int32 → Int32) (a : Int32) : Nat → Int32 × Int32 × Int32
  | 0 => (a, 0, 0)
  | n + 1 => (g ((xOt g a n).2.1 + (1 + (xOt g a n).2.2)), (xOt g a n).2.1 + (1 + (xOt g a n).2.2), (xOt g a n).1 - g ((xOt g a n).2.1 + (1 + (xOt g a n).2.2)))
def vOt (a1 a2 a3 a4 : Int32) : Int32 := (xOt (fun s => xSm (fun i => if s < nI i * a2 + a3 then 1 else 0) a1.toNatClampNeg) a1 a4.toNatClampNeg).1
