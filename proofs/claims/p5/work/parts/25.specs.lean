/-! lots drawn -/
def xMx1 (t : Int32) : Int32 := if 1 < t then t else 1
theorem xMx1_ne (t : Int32) : ¬ xMx1 t = 0 := by
  unfold xMx1
  split
  · rename_i h; intro w; rw [w] at h; exact absurd h (by decide)
  · decide
def xSd (s : Int32) : Nat → Int32
  | 0 => s
  | n + 1 => xSd s n * 1664525 + 1013904223
def xRd (s d : Int32) : Int32 := (s &&& 2147483647) / 256 - (s &&& 2147483647) / 256 / d * d
def qLo (ln : Nat) (a1 a2 a3 : Int32) : Int32 := if sNL ln a1 = 0 then (if sNK a2 = 0 then (if a3 < 1 then -4 else if 30 < a3 then -6 else 0) else -2) else -1
def vLo (st : Nat) (ho pa si li : Int32) (lg : Nat → Int32) (ki ru ne : Nat → Int32) (ch : Nat → Nat → Int32) (a1 a2 a3 a4 : Int32) : Int32 :=
  xSm (fun i => xGh st ho pa si li lg (ki a1.toNatClampNeg) (ru a1.toNatClampNeg) a2 5 (nI (xDr (ch a1.toNatClampNeg) (xRd (xSd a4 (i + 1)) (xMx1 (xSm (ch a1.toNatClampNeg) 12 + ne a1.toNatClampNeg)))))) a3.toNatClampNeg
