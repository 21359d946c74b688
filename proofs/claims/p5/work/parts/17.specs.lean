/-! back; rows of numbers -/
def qBa (st : Nat) (a1 a2 : Int32) : Int32 := if sNL st a1 = 0 then (if a2 < 0 then -4 else if 30 < a2 then -6 else 0) else -1
def vBa (st : Nat) (ho pa : Int32) (lg : Nat → Int32) (a1 a2 : Int32) : Int32 := if xYd st ho lg a1.toNatClampNeg < a2 * pa then xYd st ho lg a1.toNatClampNeg else a2 * pa
def qRo (cn : Nat) (a1 : Int32) : Int32 := if a1 < 0 then -4 else if 999 < a1 then -6 else if nI cn < 12 then 0 else -6
def xRn (cn : Nat) (a1 : Int32) : Nat := if qRo cn a1 = 0 then cn + 1 else cn
