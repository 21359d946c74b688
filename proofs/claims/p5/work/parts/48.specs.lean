/-! the class: the mean where the second line is let go by -/
def vLm (st : Nat) (ho pa li : Int32) (lg : Nat → Int32) (ki ru ne : Nat → Int32) (ch : Nat → Nat → Int32) (a1 a2 a3 a4 : Int32) : Int64 :=
  xFr (xPSum st ho pa li lg ki ru ne ch a1.toNatClampNeg a2.toNatClampNeg a3) ((xSm (ch a1.toNatClampNeg) 12 + ne a1.toNatClampNeg) * (xSm (ch a2.toNatClampNeg) 12 + ne a2.toNatClampNeg)) a4
