/-! the plan: a choice, a least sum -/
def xMn (x y : Int32) : Int32 := if y < x then y else x
def xWk (lz : Nat) (sm wf rj : Nat → Int32) (wn : Nat → Nat) (wh : Nat → Int32) (p m b : Nat) : Int32 :=
  (wf b - wf (xBn (rj (p + 1)) (nI (m + wn p)) (nI b))) * (nI m + wh p) + sSu lz sm wf wh (p + 1) (m + wn p) (xBn (rj (p + 1)) (nI (m + wn p)) (nI b))
def xCh9 (lz : Nat) (sm wf rj : Nat → Int32) (wn : Nat → Nat) (wh : Nat → Int32) (p m : Nat) : Int32 :=
  if wf (xBn (rj p) (nI m) 0) = 0 then -9 else if p < lz then (if m < 60 then (if (wf (xBn (rj p) (nI (m + 1)) 0) - wf (xBn (rj (p + 1)) (nI (m + wn p)) (nI (xBn (rj p) (nI (m + 1)) 0)))) * (nI m + wh p) + sSu lz sm wf wh (p + 1) (m + wn p) (xBn (rj (p + 1)) (nI (m + wn p)) (nI (xBn (rj p) (nI (m + 1)) 0))) < sSu lz sm wf wh p (m + 1) (xBn (rj p) (nI (m + 1)) 0) then 1 else 0) else 1) else 1
def xW9 (wf : Nat → Int32) (t : Int32) (b : Nat) : Int32 := if t < nI b then 0 else if t < 12 then wf t.toNatClampNeg - wf (t + 1).toNatClampNeg else 0
theorem xInT {t : Int32} {b : Nat} (hb : b < 2 ^ 31) (h1 : ¬ t < nI b) (h2 : t < 12) : vp_in t 13 ∧ vp_in (t + 1) 13 := by
  have e0 : (0 : Int32).toInt = 0 := by decide
  have e12 : (12 : Int32).toInt = 12 := by decide
  obtain ⟨k, rfl, hk⟩ := xInN (a := t) (n := 11) (by decide) (by rw [xi_lt, nI_toInt hb] at h1; rw [xi_lt]; omega) (by rw [xi_lt] at h2; rw [xi_lt, nI_toInt (by decide)]; omega)
  exact ⟨vp_in_nI (by omega) (by decide), by rw [nI_1]; exact vp_in_nI (by omega) (by decide)⟩
def xLs (lz : Nat) (rq : Int32) (sm wf rj : Nat → Int32) (wn : Nat → Nat) (wh hz : Nat → Int32) (p m b : Nat) : Int32 :=
  xW9 wf (nI m - rj p) b * (if hz p = 0 then nI m + wh p else nI m - rj p + rq) +
    (if m < 60 then xMn (sSu lz sm wf wh p (m + 1) (xBn (rj p) (nI (m + 1)) (nI b))) (xWk lz sm wf rj wn wh p m (xBn (rj p) (nI (m + 1)) (nI b))) else (wf b - xW9 wf (nI m - rj p) b) * (nI m + wh p))
