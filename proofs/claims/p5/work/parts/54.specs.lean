def v5Be (st : Nat) (nw : Nat → Int32) (wn : Nat → Nat) (y : Nat → Int32) (a1 a2 a3 : Int32) : Int32 :=
  if xWs (fun i => nw (20 + 16 * a1.toNatClampNeg + i)) (x5Fs nw (20 + 16 * a1.toNatClampNeg) a2.toNatClampNeg a3) = 0 then -9
  else if x5Wk st nw (20 + 16 * a1.toNatClampNeg) wn (x5Y3 st nw (20 + 16 * a1.toNatClampNeg) wn y st) a2.toNatClampNeg a3.toNatClampNeg (x5Fs nw (20 + 16 * a1.toNatClampNeg) a2.toNatClampNeg a3) = 0 then 0 else 1
def v5Bm (st : Nat) (nw : Nat → Int32) (wn : Nat → Nat) (y : Nat → Int32) (a1 a2 a3 a4 : Int32) : Int64 :=
  xPt (x5Y3 st nw (20 + 16 * a1.toNatClampNeg) wn y st ((a2.toNatClampNeg * 61 + a3.toNatClampNeg) * 13 + x5Fs nw (20 + 16 * a1.toNatClampNeg) a2.toNatClampNeg a3)).toInt64 (xWs (fun i => nw (20 + 16 * a1.toNatClampNeg + i)) (x5Fs nw (20 + 16 * a1.toNatClampNeg) a2.toNatClampNeg a3)).toInt64 a4
/-- the first minute in which one walks, of so many from a place on; -9 as soon as it can not be -/
def x5Pa (w k : Nat → Int32) : Nat → Nat → Int32
  | 0, _ => -9
  | n + 1, m => if w m = 0 then -9 else if k m = 0 then x5Pa w k n (m + 1) else nI m
theorem x5Pa_z {w k : Nat → Int32} {m : Nat} (h : w m = 0) (hm : m < 60) : x5Pa w k (60 - m) m = -9 := by rw [show 60 - m = (60 - (m + 1)) + 1 by omega]; simp only [x5Pa]; rw [if_pos h]
theorem x5Pa_k {w k : Nat → Int32} {m : Nat} (h : ¬ w m = 0) (h2 : ¬ k m = 0) (hm : m < 60) : x5Pa w k (60 - m) m = nI m := by rw [show 60 - m = (60 - (m + 1)) + 1 by omega]; simp only [x5Pa]; rw [if_neg h, if_neg h2]
theorem x5Pa_s {w k : Nat → Int32} {m : Nat} (h : ¬ w m = 0) (h2 : k m = 0) (hm : m < 60) : x5Pa w k (60 - (m + 1)) (m + 1) = x5Pa w k (60 - m) m := by rw [show 60 - m = (60 - (m + 1)) + 1 by omega]; simp only [x5Pa]; rw [if_neg h, if_pos h2]
def v5Pa (st : Nat) (nw : Nat → Int32) (wn : Nat → Nat) (y : Nat → Int32) (a1 : Int32) : Int32 :=
  x5Pa (fun m => xWs (fun i => nw (20 + 16 * a1.toNatClampNeg + i)) (x5Fs nw (20 + 16 * a1.toNatClampNeg) 0 (nI m))) (fun m => x5Wk st nw (20 + 16 * a1.toNatClampNeg) wn (x5Y3 st nw (20 + 16 * a1.toNatClampNeg) wn y st) 0 m (x5Fs nw (20 + 16 * a1.toNatClampNeg) 0 (nI m))) 60 0
/-- what is taken off: the sums of one who is told -/
def x5Ns (a : Int32) (f : Nat → Int32) : Nat → Int32
  | 0 => a
  | n + 1 => x5Ns a f n - f n
def x5Nf (st : Nat) (nw : Nat → Int32) (lb : Nat) : Nat → Int32 := fun t => xWt (fun i => nw (lb + i)) t * xMn (xRs nw st 0) (nI t + xTO nw lb (st - 1) + (xLm nw st st + nw 2 - 1) / nw 2)
def v5Nw (st : Nat) (nw : Nat → Int32) (wn : Nat → Nat) (y : Nat → Int32) (a1 a2 : Int32) : Int64 :=
  xPt (x5Ns (x5Y3 st nw (20 + 16 * a1.toNatClampNeg) wn y st 0 - xWt (fun i => nw (20 + 16 * a1.toNatClampNeg + i)) 12 * xRs nw st 0) (x5Nf st nw (20 + 16 * a1.toNatClampNeg)) 12).toInt64 (xWs (fun i => nw (20 + 16 * a1.toNatClampNeg + i)) 0).toInt64 a2
