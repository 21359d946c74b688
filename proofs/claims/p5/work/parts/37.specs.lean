/-! the reference: back -/
def v5B (st : Nat) (nw : Nat → Int32) (a1 a2 : Int32) : Int32 := if (if nI a1.toNatClampNeg = nI (st - 1) then nw 1 else nw (10 + a1.toNatClampNeg + 1)) < a2 * nw 2 then (if nI a1.toNatClampNeg = nI (st - 1) then nw 1 else nw (10 + a1.toNatClampNeg + 1)) else a2 * nw 2
