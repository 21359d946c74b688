/-! the reference: stop, chance -/
def q5S (st : Nat) (a1 a2 : Int32) : Int32 := if sNL st a1 = 0 then (if a2 < 0 then -2 else if 2 < a2 then -2 else 0) else -1
def v5S (st : Nat) (nw : Nat → Int32) (a1 a2 : Int32) : Int32 := if a2 = 0 then nw (10 + a1.toNatClampNeg) else if a2 = 1 then xRs nw st 0 - xRs nw st a1.toNatClampNeg else xRs nw st a1.toNatClampNeg
def q5C (ln : Nat) (a1 a2 : Int32) : Int32 := if sNL ln a1 = 0 then (if a2 < 0 then -4 else if 11 < a2 then -6 else 0) else -1
def v5C (nw : Nat → Int32) (a1 a2 : Int32) : Int32 := xWt (fun i => nw (20 + 16 * a1.toNatClampNeg + i)) a2.toNatClampNeg
