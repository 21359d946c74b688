/-! the plan's readers -/
def xMx (x y : Int32) : Int32 := if x < y then y else x
def xBd (r mi le : Int32) : Int32 := if (if le < mi - r then mi - r else le) < 12 then (if le < mi - r then mi - r else le) else 12
def xBn (r mi le : Int32) : Nat := (xBd r mi le).toInt.toNat
theorem xBd_bounds (r mi le : Int32) (h : ¬ le < 0) : 0 ≤ (xBd r mi le).toInt ∧ (xBd r mi le).toInt ≤ 12 := by
  have e0 : (0 : Int32).toInt = 0 := by decide
  have e12 : (12 : Int32).toInt = 12 := by decide
  unfold xBd
  rw [xi_lt] at h
  have hz0 : 0 ≤ (if le < mi - r then mi - r else le).toInt := by
    by_cases q : le < mi - r
    · rw [if_pos q]; rw [xi_lt] at q; omega
    · rw [if_neg q]; omega
  generalize (if le < mi - r then mi - r else le) = z at hz0 ⊢
  by_cases q : z < 12
  · rw [if_pos q]; rw [xi_lt] at q; omega
  · rw [if_neg q]; omega
theorem xBd_n {r mi le : Int32} (h : ¬ le < 0) : xBd r mi le = nI (xBn r mi le) := by
  have w := xBd_bounds r mi le h
  rw [xi_eq, xBn, nI_toInt (by omega)]
  omega
theorem xBn_le (r mi le : Int32) : xBn r mi le ≤ 12 := by
  have e12 : (12 : Int32).toInt = 12 := by decide
  unfold xBn xBd
  generalize (if le < mi - r then mi - r else le) = z
  by_cases q : z < 12
  · rw [if_pos q]; rw [xi_lt] at q; omega
  · rw [if_neg q]; omega
theorem xNn {n : Nat} (h : n < 2 ^ 31) : ¬ nI n < 0 := by
  rw [xi_lt, nI_toInt h]
  have e0 : (0 : Int32).toInt = 0 := by decide
  omega
theorem pk_idx (p m b : Nat) : (nI p * 61 + nI m) * 13 + nI b = nI ((p * 61 + m) * 13 + b) := by
  rw [show nI p * 61 = nI (p * 61) from pk_mul p 61, nI_add, show nI (p * 61 + m) * 13 = nI ((p * 61 + m) * 13) from pk_mul _ 13, nI_add]
def sSu (lz : Nat) (sm wf wh : Nat → Int32) (p mi b : Nat) : Int32 := if p < lz then (if 60 < mi then wf b * (nI mi + wh p) else sm ((p * 61 + mi) * 13 + b)) else wf b * (nI mi + wh p)
