/-! the first place of the least of a row of thirteen -/
def xBst (f : Nat → Int32) : Nat → Int32 × Int32
  | 0 => (f 0, 0)
  | n + 1 => if f (n + 1) < (xBst f n).1 then (f (n + 1), nI (n + 1)) else xBst f n
theorem xBst_lt {f : Nat → Int32} {n : Nat} (h : f (n + 1) < (xBst f n).1) : xBst f (n + 1) = (f (n + 1), nI (n + 1)) := if_pos h
theorem xBst_ge {f : Nat → Int32} {n : Nat} (h : ¬ f (n + 1) < (xBst f n).1) : xBst f (n + 1) = xBst f n := if_neg h
def qLg (ln : Nat) (a1 a2 : Int32) : Int32 := if sPr ln a1 a2 = 0 then 0 else -1
def vLg (st : Nat) (ho pa li : Int32) (lg : Nat → Int32) (ki ru ne : Nat → Int32) (ch : Nat → Nat → Int32) (a1 a2 : Int32) : Int32 :=
  (xBst (fun i => xPSum st ho pa li lg ki ru ne ch a1.toNatClampNeg a2.toNatClampNeg (nI i)) 12).2
def xHSum (st : Nat) (ho pa si li : Int32) (lg : Nat → Int32) (ki ru ne : Int32) (ch : Nat → Int32) (a2 a3 : Int32) : Int32 :=
  xSm (fun i => sWt ne ch (nI i) * xGh st ho pa si li lg ki ru a2 a3 (nI i)) 13
def qRu (ln : Nat) (a1 : Int32) : Int32 := if sNL ln a1 = 0 then 0 else -1
def vRu (st : Nat) (ho pa si li : Int32) (lg : Nat → Int32) (ki ru ne : Nat → Int32) (ch : Nat → Nat → Int32) (a1 : Int32) : Int32 :=
  (xBst (fun i => xHSum st ho pa si li lg (ki a1.toNatClampNeg) (ru a1.toNatClampNeg) (ne a1.toNatClampNeg) (ch a1.toNatClampNeg) 3 (nI i)) 12).2
def qSd (ln st : Nat) (a1 a2 a3 a4 a5 : Int32) : Int32 := if sNL ln a1 = 0 then (if sNL st a2 = 0 then (if a3 < 0 then -4 else if a4 < 0 then -4 else if 99 < a4 then -6 else if a4 < a3 then -6 else if sNP a5 = 0 then 0 else -2) else -1) else -1
def vSd (st : Nat) (ki ru ne : Nat → Int32) (ch : Nat → Nat → Int32) (a1 a2 a3 a4 a5 : Int32) : Int64 := xGu st (ki a1.toNatClampNeg) (ru a1.toNatClampNeg) (ne a1.toNatClampNeg) (ch a1.toNatClampNeg) a2 a3 a4 a5
def sCnt (st ln : Nat) (ho pa si li : Int32) (lg : Nat → Int32) (nc : Int32) (len : Nat) (rf : Nat → Int32) (a1 : Int32) : Int32 :=
  if a1 = 0 then nI st else if a1 = 1 then nI ln else if a1 = 2 then xAcc ho lg (st - 1) else if a1 = 3 then pa else if a1 = 4 then si else if a1 = 5 then li else if a1 = 6 then nc else if a1 = 7 then nI len
  else if a1 = 11 then rf 1 else if a1 = 12 then rf 2 else if a1 = 13 then rf 3 else if a1 = 14 then rf 4 else if a1 = 15 then rf 5 else if a1 = 16 then rf 6 else -9
theorem sCnt_out {st ln : Nat} {ho pa si li nc : Int32} {lg rf : Nat → Int32} {len : Nat} {a1 : Int32} (h : ∀ k : Int32, 0 ≤ k → k ≤ 16 → ¬ a1 = k) : sCnt st ln ho pa si li lg nc len rf a1 = -9 := by
  simp [sCnt, h 0 (by decide) (by decide), h 1 (by decide) (by decide), h 2 (by decide) (by decide), h 3 (by decide) (by decide), h 4 (by decide) (by decide), h 5 (by decide) (by decide), h 6 (by decide) (by decide), h 7 (by decide) (by decide), h 11 (by decide) (by decide), h 12 (by decide) (by decide), h 13 (by decide) (by decide), h 14 (by decide) (by decide), h 15 (by decide) (by decide), h 16 (by decide) (by decide)]
theorem sCnt_lo {st ln : Nat} {ho pa si li nc : Int32} {lg rf : Nat → Int32} {len : Nat} {a1 : Int32} (h : a1 < 0) : sCnt st ln ho pa si li lg nc len rf a1 = -9 :=
  sCnt_out (fun k h0 _ w => absurd (w ▸ h) (Int32.not_lt.mpr h0))
theorem sCnt_hi {st ln : Nat} {ho pa si li nc : Int32} {lg rf : Nat → Int32} {len : Nat} {a1 : Int32} (h : 16 < a1) : sCnt st ln ho pa si li lg nc len rf a1 = -9 :=
  sCnt_out (fun k _ h1 w => absurd (w ▸ h) (Int32.not_lt.mpr h1))
