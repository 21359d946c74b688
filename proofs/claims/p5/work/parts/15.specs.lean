/-! sums: what is asked and answered -/
def qMe (ln : Nat) (a1 a2 a3 a4 : Int32) : Int32 := if sGo ln a1 a2 a3 0 0 = 0 then (if sNP a4 = 0 then 0 else -2) else sGo ln a1 a2 a3 0 0
def vMe (st : Nat) (ho pa si li : Int32) (lg : Nat → Int32) (ki ru ne : Nat → Int32) (ch : Nat → Nat → Int32) (a1 a2 a3 a4 : Int32) : Int64 :=
  xFr (xSm (fun i => sWt (ne a1.toNatClampNeg) (ch a1.toNatClampNeg) (nI i) * xGh st ho pa si li lg (ki a1.toNatClampNeg) (ru a1.toNatClampNeg) a2 a3 (nI i)) 13) (xSm (ch a1.toNatClampNeg) 12 + ne a1.toNatClampNeg) a4
theorem sPr_bad {ln : Nat} {a b : Int32} (h : ¬ sPr ln a b = 0) : sPr ln a b = 1 := by
  unfold sPr at h ⊢
  repeat' split at h
  all_goals simp_all
theorem sPr_ok {ln : Nat} {a b : Int32} (h : sPr ln a b = 0) : sNL ln a = 0 ∧ sNL ln b = 0 := by
  unfold sPr at h
  repeat' split at h
  all_goals simp_all
def qBo (ln : Nat) (a1 a2 a3 : Int32) : Int32 := if sPr ln a1 a2 = 0 then (if sNP a3 = 0 then 0 else -2) else -1
def xPSum (st : Nat) (ho pa li : Int32) (lg : Nat → Int32) (ki ru ne : Nat → Int32) (ch : Nat → Nat → Int32) (a0 a1 : Nat) (a3 : Int32) : Int32 :=
  xPo (fun t => sWt (ne a0) (ch a0) (nI t)) (fun t u => sWt (ne a0) (ch a0) (nI t) * sWt (ne a1) (ch a1) (nI u) * sPH st (xWh st ho pa lg 0) li (nI t) (sRide (ki a0) (ru a0) (nI (st - 1)) + xWy (xYd st ho lg (st - 1)) pa) (if nI u < a3 then 12 else nI u) (sRide (ki a1) (ru a1) (nI (st - 1)) + xWy (xYd st ho lg (st - 1)) pa)) 13
def vBo (st : Nat) (ho pa li : Int32) (lg : Nat → Int32) (ki ru ne : Nat → Int32) (ch : Nat → Nat → Int32) (a1 a2 a3 : Int32) : Int64 :=
  xFr (xPSum st ho pa li lg ki ru ne ch a1.toNatClampNeg a2.toNatClampNeg 0) ((xSm (ch a1.toNatClampNeg) 12 + ne a1.toNatClampNeg) * (xSm (ch a2.toNatClampNeg) 12 + ne a2.toNatClampNeg)) a3
theorem sPl_ok {ln st : Nat} {a1 a2 a3 a4 : Int32} (h : sPl ln st a1 a2 a3 a4 = 0) : sNL ln a1 = 0 := by
  unfold sPl at h; split at h
  · assumption
  · exact absurd h (by decide)
theorem sPl_cases (ln st : Nat) (a1 a2 a3 a4 : Int32) : sPl ln st a1 a2 a3 a4 = 0 ∨ sPl ln st a1 a2 a3 a4 = -1 ∨ sPl ln st a1 a2 a3 a4 = -4 ∨ sPl ln st a1 a2 a3 a4 = -6 := by
  unfold sPl
  repeat' split
  all_goals simp
theorem sPl_bad {ln st : Nat} {a1 a2 a3 a4 : Int32} (h : ¬ sPl ln st a1 a2 a3 a4 = 0) : 0 < -sPl ln st a1 a2 a3 a4 ∧ -sPl ln st a1 a2 a3 a4 < 7 := by
  rcases sPl_cases ln st a1 a2 a3 a4 with e | e | e | e
  · exact absurd e h
  all_goals (rw [e]; decide)
def qGn (ln st : Nat) (a1 a2 a3 a4 : Int32) : Int32 := if sPl ln st a1 a2 a3 99 = 0 then (if sNP a4 = 0 then 0 else -2) else sPl ln st a1 a2 a3 99
def xGu (st : Nat) (ki ru ne : Int32) (ch : Nat → Int32) (a2 a3 a4 a5 : Int32) : Int64 := if sHalt ki a2 (nI (st - 1)) = 0 then xFr 0 1 a5 else xFr (xWa ch (a3 - sRide ki ru a2)) (xSm ch 12 + ne - (xWa ch (a4 - sRide ki ru a2) - xWa ch (a3 - sRide ki ru a2))) a5
def vGn (st : Nat) (ki ru ne : Nat → Int32) (ch : Nat → Nat → Int32) (a1 a2 a3 a4 : Int32) : Int64 := xGu st (ki a1.toNatClampNeg) (ru a1.toNatClampNeg) (ne a1.toNatClampNeg) (ch a1.toNatClampNeg) a2 a3 a3 a4
def qLe (len : Nat) (a1 : Int32) : Int32 := if a1 < 0 then -4 else if 255 < a1 then -6 else if nI len < 96 then 0 else -6
def qSe (a1 a2 : Int32) : Int32 := if a1 < 0 then -2 else if 3 < a1 then -2 else if a2 < sLe a1 then -4 else if sMo a1 < a2 then -6 else 0
def xIf (q new old : Int32) : Int32 := if q = 0 then new else old
