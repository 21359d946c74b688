/-! what the class's writing methods make of a road -/
def sLe (q : Int32) : Int32 := if q = 1 then 20 else if q = 3 then 1 else 0
def sMo (q : Int32) : Int32 := if q = 0 then 999 else if q = 1 then 200 else if q = 2 then 9 else 60
def sSe (ho pa si li q : Int32) : Int32 := if q = 0 then ho else if q = 1 then pa else if q = 2 then si else li
/-- is a setting's number in range -/
def xOk (q v : Int32) : Bool := !decide (v < sLe q) && !decide (sMo q < v)
def sCh (q v : Int32) : Int32 := if v < sLe q then 0 else if sMo q < v then 0 else 1
def xCg (q v k old : Int32) : Int32 := if v < sLe q then old else if sMo q < v then old else if q = k then v else old
def xCl (q v old : Int32) : Int32 := if v < sLe q then old else if sMo q < v then old else if q = 0 then old else if q = 1 then old else if q = 2 then old else v
def sAs (st : Nat) (v : Int32) : Int32 := if v < 1 then 0 else if 999 < v then 0 else if st < 7 then 1 else 0
def xAsN (st : Nat) (v : Int32) : Nat := if v < 1 then st else if 999 < v then st else if st < 7 then st + 1 else st
def xAsL (st : Nat) (v : Int32) (lg : Nat → Int32) : Nat → Int32 := if v < 1 then lg else if 999 < v then lg else if st < 7 then upd lg st v else lg

theorem sCh_ok {q v : Int32} (h1 : ¬ v < sLe q) (h2 : ¬ sMo q < v) : sCh q v = 1 := by simp only [sCh, if_neg h1, if_neg h2]
theorem xCg_ok {q v k old : Int32} (h1 : ¬ v < sLe q) (h2 : ¬ sMo q < v) : xCg q v k old = if q = k then v else old := by simp only [xCg, if_neg h1, if_neg h2]
theorem xCl_ok {q v old : Int32} (h1 : ¬ v < sLe q) (h2 : ¬ sMo q < v) : xCl q v old = if q = 0 then old else if q = 1 then old else if q = 2 then old else v := by simp only [xCl, if_neg h1, if_neg h2]
