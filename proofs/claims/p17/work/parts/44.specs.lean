/-! the reference: what is still possible; two lines; rows judged; lots; counts -/
abbrev xTo5 (nw : Nat → Int32) (lb k : Nat) : Int32 := xSm (fun j => sRd (nw lb) (nw (lb + 1)) (nI j)) k
def x5Fs (nw : Nat → Int32) (lb k : Nat) (mi : Int32) : Nat := xBn (xSm (fun j => sRd (nw lb) (nw (lb + 1)) (nI j)) k) mi 0
theorem x5Fs_le (nw : Nat → Int32) (lb k : Nat) (mi : Int32) : x5Fs nw lb k mi ≤ 12 := xBn_le _ _ _
def x5Ah (nw : Nat → Int32) (lb k : Nat) (mi : Int32) : Int32 := xWs (fun i => nw (lb + i)) 0 - xWs (fun i => nw (lb + i)) (x5Fs nw lb k mi)
def v5Gn (st : Nat) (nw : Nat → Int32) (a1 a2 a3 a4 : Int32) : Int64 :=
  xPt (if sHalt (nw (20 + 16 * a1.toNatClampNeg)) a2 (nI (st - 1)) = 0 then 0 else (x5Ah nw (20 + 16 * a1.toNatClampNeg) a2.toNatClampNeg a3).toInt64) (xWs (fun i => nw (20 + 16 * a1.toNatClampNeg + i)) 0).toInt64 a4
def x5Go (st : Nat) (nw : Nat → Int32) (lb : Nat) (a2 a3 : Int32) : Int32 := if sHalt (nw lb) a2 (nI (st - 1)) = 0 then 0 else x5Ah nw lb a2.toNatClampNeg a3
def v5Sd (st : Nat) (nw : Nat → Int32) (a1 a2 a3 a4 a5 : Int32) : Int64 :=
  xPt (x5Go st nw (20 + 16 * a1.toNatClampNeg) a2 a3).toInt64 (x5Go st nw (20 + 16 * a1.toNatClampNeg) a2 a3 + xWs (fun i => nw (20 + 16 * a1.toNatClampNeg + i)) (x5Fs nw (20 + 16 * a1.toNatClampNeg) a2.toNatClampNeg a4)).toInt64 a5
/-- is the first taken -/
def s5I (t s o1 o2 : Int32) : Int32 := if t < s then 1 else if t = s then (if o2 < o1 then 0 else 1) else 0
def s5H (li rs t s f o1 o2 : Int32) : Int32 := if t = 12 then (if s = 12 then li + rs else if f = 0 then s + o2 else t + o1) else if f = 0 then s + o2 else t + o1
def s5U (u mi : Int32) : Int32 := if u < mi then 12 else u
def s5On (st : Nat) (nw : Nat → Int32) (lb : Nat) : Int32 := xSm (fun j => sRd (nw lb) (nw (lb + 1)) (nI j)) (st - 1) + (xLm nw st st + nw 2 - 1) / nw 2
def s5F (st : Nat) (nw : Nat → Int32) (l1 l2 : Nat) (mi : Int32) (t u : Nat) : Int32 :=
  xWt (fun i => nw (l1 + i)) t * xWt (fun i => nw (l2 + i)) u * s5H (nw 5) (xRs nw st 0) (nI t) (s5U (nI u) mi) (s5I (nI t) (s5U (nI u) mi) (s5On st nw l1) (s5On st nw l2)) (s5On st nw l1) (s5On st nw l2)
def x5P (f : Nat → Nat → Int32) : Nat → Int32
  | 0 => 0
  | t + 1 => xAc2 (x5P f t) (f t) 0 13
def x5T (st : Nat) (nw : Nat → Int32) (l1 l2 : Nat) (mi : Int32) : Int32 := x5P (s5F st nw l1 l2 mi) 13
def v5Bo (st : Nat) (nw : Nat → Int32) (a1 a2 mi a3 : Int32) : Int64 :=
  xPt (x5T st nw (20 + 16 * a1.toNatClampNeg) (20 + 16 * a2.toNatClampNeg) mi).toInt64 ((xWs (fun i => nw (20 + 16 * a1.toNatClampNeg + i)) 0).toInt64 * (xWs (fun i => nw (20 + 16 * a2.toNatClampNeg + i)) 0).toInt64) a3
/-- the first of the least, by the number alone -/
def xBs5 (f : Int32 → Int32) : Nat → Int32
  | 0 => 0
  | n + 1 => if f (nI (n + 1)) < f (xBs5 f n) then nI (n + 1) else xBs5 f n
theorem xBs5_t {f : Int32 → Int32} {n : Nat} (h : f (nI (n + 1)) < f (xBs5 f n)) : nI (n + 1) = xBs5 f (n + 1) := (if_pos h).symm
theorem xBs5_f {f : Int32 → Int32} {n : Nat} (h : ¬ f (nI (n + 1)) < f (xBs5 f n)) : xBs5 f n = xBs5 f (n + 1) := (if_neg h).symm
def v5Lg (st : Nat) (nw : Nat → Int32) (a1 a2 : Int32) : Int32 := xBs5 (fun i => x5T st nw (20 + 16 * a1.toNatClampNeg) (20 + 16 * a2.toNatClampNeg) i) 12
def v5Ru (st : Nat) (nw : Nat → Int32) (a1 : Int32) : Int32 := xBs5 (fun i => x5S st nw (20 + 16 * a1.toNatClampNeg) 3 i) 12
def qLm (ln : Nat) (a1 a2 a3 a4 : Int32) : Int32 := if sPr ln a1 a2 = 0 then (if a3 < 0 then -4 else if 12 < a3 then -6 else if sNP a4 = 0 then 0 else -2) else -1
theorem sPr_1 {ln : Nat} {a b : Int32} (h : ¬ sNL ln a = 0) : sPr ln a b = 1 := by simp [sPr, h]
theorem sPr_2 {ln : Nat} {a b : Int32} (h : ¬ sNL ln b = 0) : sPr ln a b = 1 := by simp [sPr, h]
theorem sPr_3 {ln : Nat} {a b : Int32} (h : a = b) : sPr ln a b = 1 := by unfold sPr; repeat' split; all_goals simp_all
/-! rows judged, from the last number back -/
def x5Jb (st : Nat) (nw mf : Nat → Int32) (k : Nat) : Bool := decide (0 < k) && (!decide (k < st) || decide (mf k - mf (k - 1) < (xLm nw st k + nw 2 - 1) / nw 2))
def x5D (b : Nat → Bool) (cn : Nat) : Nat → Int32
  | 0 => -9
  | n + 1 => if b (cn - n - 1) then nI (cn - n - 1) else x5D b cn n
theorem x5D_t {b : Nat → Bool} {cn n : Nat} (h : b (cn - n - 1) = true) : nI (cn - n - 1) = x5D b cn (n + 1) := (if_pos h).symm
theorem x5D_f {b : Nat → Bool} {cn n : Nat} (h : b (cn - n - 1) = false) : x5D b cn n = x5D b cn (n + 1) := by simp only [x5D]; rw [if_neg (by rw [h]; decide)]
theorem x5D_0 {cn n : Nat} (hc : cn ≤ 12) (hn : n ≤ cn) : nI (cn - n) - 1 < 0 ↔ cn = n := by
  have e1 : nI (cn - n) - 1 = nI (cn - n) - nI 1 := rfl
  rw [e1, xi_lt, pk_sub_toInt (by omega) (by decide)]
  have e0 : (0 : Int32).toInt = 0 := by decide
  omega
theorem x5D_i {cn n : Nat} (h : n < cn) : nI (cn - n - 1) + (-1) = nI (cn - (n + 1)) - 1 := by
  rw [show cn - n - 1 = cn - (n + 1) by omega]; exact (Int32.sub_eq_add_neg _ _).symm
/-! lots -/
def x5Lo (f : Nat → Int32) : Nat → Nat → Int32 → Nat
  | 0, k, _ => k
  | n + 1, k, l => if l < f k then k else x5Lo f n (k + 1) (l - f k)
theorem x5Lo_s {f : Nat → Int32} {k : Nat} {l : Int32} (hk : k < 12) (h : ¬ l < f k) : x5Lo f (12 - (k + 1)) (k + 1) (l - f k) = x5Lo f (12 - k) k l := by
  rw [show 12 - k = (12 - (k + 1)) + 1 by omega]; simp only [x5Lo]; rw [if_neg h]
theorem x5Lo_t {f : Nat → Int32} {k : Nat} {l : Int32} (hk : k < 12) (h : l < f k) : x5Lo f (12 - k) k l = k := by
  rw [show 12 - k = (12 - (k + 1)) + 1 by omega]; simp only [x5Lo]; rw [if_pos h]
theorem x5Lo_z {f : Nat → Int32} {k : Nat} {l : Int32} (hk : k = 12) : x5Lo f (12 - k) k l = k := by rw [hk]; rfl
theorem x5Lo_le (f : Nat → Int32) : ∀ n k l, x5Lo f n k l ≤ k + n
  | 0, k, l => Nat.le_refl k
  | n + 1, k, l => by
    simp only [x5Lo]
    have h := x5Lo_le f n (k + 1) (l - f k)
    split <;> omega
def x5Dr (nw : Nat → Int32) (lb : Nat) (s : Int32) : Nat := x5Lo (xWt (fun i => nw (lb + i))) 12 0 (xRd s (xWs (fun i => nw (lb + i)) 0))
def x5L (st : Nat) (nw : Nat → Int32) (lb : Nat) (a2 a4 : Int32) : Nat → Int32 := fun i => xHo st nw lb a2 5 (nI (x5Dr nw lb (xSd a4 (i + 1))))
def v5Lo (st : Nat) (nw : Nat → Int32) (a1 a2 a3 a4 : Int32) : Int32 := xSm (x5L st nw (20 + 16 * a1.toNatClampNeg) a2 a4) a3.toNatClampNeg
