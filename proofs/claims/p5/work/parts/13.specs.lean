/-! more of the class's answers -/
def qTh (ln st : Nat) (a1 a2 : Int32) : Int32 := if sNL ln a1 = 0 then (if sNL st a2 = 0 then 0 else -1) else -1
def vTh (st : Nat) (ki ru : Nat → Int32) (a1 a2 : Int32) : Int32 := if sHalt (ki a1.toNatClampNeg) a2 (nI (st - 1)) = 0 then -9 else sRide (ki a1.toNatClampNeg) (ru a1.toNatClampNeg) a2
def qCo (ln : Nat) (a1 a2 a3 a4 : Int32) : Int32 := if sNL ln a1 = 0 then (if a2 < 0 then -4 else if a3 < 0 then -4 else if 12 < a2 then -6 else if a3 < 12 then (if sNP a4 = 0 then 0 else -2) else -6) else -1
def vCo (ki ru ne : Nat → Int32) (ch : Nat → Nat → Int32) (a1 a2 a3 a4 : Int32) : Int64 := xFr (if a2 < a3 then 0 else sWt (ne a1.toNatClampNeg) (ch a1.toNatClampNeg) a2) (xSm (ch a1.toNatClampNeg) 12 + ne a1.toNatClampNeg - xWa (ch a1.toNatClampNeg) a3) a4
theorem sGo_ok {ln : Nat} {a1 a2 a3 a4 a5 : Int32} (h : sGo ln a1 a2 a3 a4 a5 = 0) : sNL ln a1 = 0 := by
  unfold sGo at h; split at h
  · assumption
  · exact absurd h (by decide)
theorem sGo_cases (ln : Nat) (a1 a2 a3 a4 a5 : Int32) : sGo ln a1 a2 a3 a4 a5 = 0 ∨ sGo ln a1 a2 a3 a4 a5 = -1 ∨ sGo ln a1 a2 a3 a4 a5 = -2 ∨ sGo ln a1 a2 a3 a4 a5 = -4 ∨ sGo ln a1 a2 a3 a4 a5 = -6 := by
  unfold sGo
  repeat' split
  all_goals simp
theorem sGo_bad {ln : Nat} {a1 a2 a3 a4 a5 : Int32} (h : ¬ sGo ln a1 a2 a3 a4 a5 = 0) : 0 < -sGo ln a1 a2 a3 a4 a5 ∧ -sGo ln a1 a2 a3 a4 a5 < 7 := by
  rcases sGo_cases ln a1 a2 a3 a4 a5 with e | e | e | e | e
  · exact absurd e h
  all_goals (rw [e]; decide)
def vHo (st : Nat) (ho pa si li : Int32) (lg : Nat → Int32) (ki ru : Nat → Int32) (a1 a2 a3 a4 : Int32) : Int32 := xGh st ho pa si li lg (ki a1.toNatClampNeg) (ru a1.toNatClampNeg) a2 a3 a4
def xLn (len : Nat) : Nat := if len < 96 then len + 1 else len
def xLt (lt : Nat → Int32) (len : Nat) (v : Int32) : Nat → Int32 := if len < 96 then upd lt len v else lt
theorem xLn_lt {len : Nat} (h : len < 96) : xLn len = len + 1 := if_pos h
theorem xLn_ge {len : Nat} (h : ¬ len < 96) : xLn len = len := if_neg h
theorem xLt_lt {lt : Nat → Int32} {len : Nat} {v : Int32} (h : len < 96) : xLt lt len v = upd lt len v := if_pos h
theorem xLt_ge {lt : Nat → Int32} {len : Nat} {v : Int32} (h : ¬ len < 96) : xLt lt len v = lt := if_neg h
