/-! the reference: line, there -/
def q5L (ln : Nat) (a1 a2 : Int32) : Int32 := if sNL ln a1 = 0 then (if a2 < 0 then -2 else if 4 < a2 then -2 else 0) else -1
def v5L (st : Nat) (nw : Nat → Int32) (a1 a2 : Int32) : Int32 := if a2 = 3 then xWs (fun i => nw (20 + 16 * a1.toNatClampNeg + i)) 0 else if a2 = 4 then xSm (fun i => sRd (nw (20 + 16 * a1.toNatClampNeg)) (nw (20 + 16 * a1.toNatClampNeg + 1)) (nI i)) (st - 1) else nw (20 + 16 * a1.toNatClampNeg + a2.toNatClampNeg)
def q5T (ln st : Nat) (a1 a2 : Int32) : Int32 := if sNL ln a1 = 0 then (if sNL st a2 = 0 then 0 else -1) else -1
def v5T (st : Nat) (nw : Nat → Int32) (a1 a2 : Int32) : Int32 := if sHalt (nw (20 + 16 * a1.toNatClampNeg)) a2 (nI (st - 1)) = 0 then -9 else xSm (fun i => sRd (nw (20 + 16 * a1.toNatClampNeg)) (nw (20 + 16 * a1.toNatClampNeg + 1)) (nI i)) a2.toNatClampNeg
