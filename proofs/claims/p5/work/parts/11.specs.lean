/-! the class's tests of what it is given -/
def sPr (ln : Nat) (a b : Int32) : Int32 := if sNL ln a = 0 then (if sNL ln b = 0 then (if a = b then 1 else 0) else 1) else 1
def sGo (ln : Nat) (a1 a2 a3 a4 a5 : Int32) : Int32 := if sNL ln a1 = 0 then (if sNK a2 = 0 then (if a3 < 0 then -4 else if a4 < 0 then -4 else if 12 < a3 then -6 else if a5 < a4 then -6 else 0) else -2) else -1
def sPl (ln st : Nat) (a1 a2 a3 a4 : Int32) : Int32 := if sNL ln a1 = 0 then (if sNL st a2 = 0 then (if a3 < 0 then -4 else if a4 < a3 then -6 else 0) else -1) else -1
def qSt (st : Nat) (a1 a2 : Int32) : Int32 := if sNL st a1 = 0 then (if a2 = 0 then 0 else if a2 = 1 then 0 else if a2 = 2 then 0 else -2) else -1
def vSt (st : Nat) (ho pa : Int32) (lg : Nat → Int32) (a1 a2 : Int32) : Int32 := if a2 = 0 then lg a1.toNatClampNeg else if a2 = 1 then xWh st ho pa lg 0 - xWh st ho pa lg a1.toNatClampNeg else xWh st ho pa lg a1.toNatClampNeg
def qLi (ln : Nat) (a1 a2 : Int32) : Int32 := if sNL ln a1 = 0 then (if a2 = 0 then 0 else if a2 = 1 then 0 else if a2 = 2 then 0 else if a2 = 3 then 0 else if a2 = 4 then 0 else -2) else -1
def vLi (st : Nat) (ki ru ne : Nat → Int32) (ch : Nat → Nat → Int32) (a1 a2 : Int32) : Int32 := if a2 = 0 then ki a1.toNatClampNeg else if a2 = 1 then ru a1.toNatClampNeg else if a2 = 2 then ne a1.toNatClampNeg else if a2 = 3 then xSm (ch a1.toNatClampNeg) 12 + ne a1.toNatClampNeg else sRide (ki a1.toNatClampNeg) (ru a1.toNatClampNeg) (nI (st - 1))
def qCh (ln : Nat) (a1 a2 : Int32) : Int32 := if sNL ln a1 = 0 then (if a2 < 0 then -4 else if a2 < 12 then 0 else -6) else -1
def vCh (ne : Nat → Int32) (ch : Nat → Nat → Int32) (a1 a2 : Int32) : Int32 := sWt (ne a1.toNatClampNeg) (ch a1.toNatClampNeg) a2
