/-! the reference: what is best, worked out -/
def xTO (nw : Nat → Int32) (lb k : Nat) : Int32 := xSm (fun j => sRd (nw lb) (nw (lb + 1)) (nI j)) k
def x5Fr (nw : Nat → Int32) (lb k m b : Nat) : Nat := xBn (xTO nw lb k) (nI m) (nI b)
theorem x5Fr_le (nw : Nat → Int32) (lb k m b : Nat) : x5Fr nw lb k m b ≤ 12 := xBn_le _ _ _
abbrev xWl (nw : Nat → Int32) (lb t : Nat) : Int32 := xWs (fun i => nw (lb + i)) t
def x5La (st : Nat) (nw : Nat → Int32) (lb : Nat) (y : Nat → Int32) (k m b : Nat) : Int32 :=
  if 60 < nI m then xWs (fun i => nw (lb + i)) (x5Fr nw lb k m b) * (nI m + xRs nw st k) else y ((k * 61 + m) * 13 + x5Fr nw lb k m b)
def x5Of (st : Nat) (nw : Nat → Int32) (lb : Nat) (wn : Nat → Nat) (y : Nat → Int32) (k m b : Nat) : Int32 :=
  if nI k = nI (st - 1) then xWs (fun i => nw (lb + i)) b * (nI m + xRs nw st k)
  else if nI m = 60 then xWs (fun i => nw (lb + i)) b * (nI m + xRs nw st k)
  else (xWs (fun i => nw (lb + i)) b - xWs (fun i => nw (lb + i)) (x5Fr nw lb (k + 1) (m + wn (k + 1)) b)) * (nI m + xRs nw st k) + x5La st nw lb y (k + 1) (m + wn (k + 1)) (x5Fr nw lb (k + 1) (m + wn (k + 1)) b)
def x5Is (nw : Nat → Int32) (lb k m b : Nat) : Int32 := if nI m - xTO nw lb k = nI b then (if nI b < 12 then 1 else 0) else 0
def x5Nx (nw : Nat → Int32) (lb k m b : Nat) : Nat := if x5Is nw lb k m b = 0 then b else b + 1
theorem x5Nx_le {nw : Nat → Int32} {lb k m b : Nat} (h : b ≤ 12) : x5Nx nw lb k m b ≤ 12 := by
  unfold x5Nx
  by_cases q : x5Is nw lb k m b = 0
  · rw [if_pos q]; exact h
  · rw [if_neg q]
    unfold x5Is at q
    by_cases q1 : nI m - xTO nw lb k = nI b
    · rw [if_pos q1] at q
      by_cases q2 : nI b < 12
      · have w := (nI_ltI (a := b) (b := 12) (by omega) (by decide)).mp q2; omega
      · rw [if_neg q2] at q; exact absurd rfl q
    · rw [if_neg q1] at q; exact absurd rfl q
def x5Sm (st : Nat) (nw : Nat → Int32) (lb k m b : Nat) : Int32 :=
  if x5Is nw lb k m b = 0 then 0 else xWt (fun i => nw (lb + i)) b * (if sHalt (nw lb) (nI k) (nI (st - 1)) = 0 then nI m + xRs nw st k else nI b + xTO nw lb (st - 1) + (xLm nw st st + nw 2 - 1) / nw 2)
def x5Wr (st : Nat) (nw : Nat → Int32) (lb : Nat) (wn : Nat → Nat) (y : Nat → Int32) (k m b : Nat) : Int32 :=
  if nI k = nI (st - 1) then x5Sm st nw lb k m b + x5Of st nw lb wn y k m (x5Nx nw lb k m b)
  else if nI m = 60 then x5Sm st nw lb k m b + x5Of st nw lb wn y k m (x5Nx nw lb k m b)
  else x5Sm st nw lb k m b + xMn (x5Of st nw lb wn y k m (x5Nx nw lb k m b)) (x5La st nw lb y k (m + 1) (x5Nx nw lb k m b))
def x5Wk (st : Nat) (nw : Nat → Int32) (lb : Nat) (wn : Nat → Nat) (y : Nat → Int32) (k m b : Nat) : Int32 :=
  if nI k = nI (st - 1) then 1 else if nI m = 60 then 1
  else if x5Of st nw lb wn y k m (x5Nx nw lb k m b) < x5La st nw lb y k (m + 1) (x5Nx nw lb k m b) then 1 else 0
theorem x5W_a {st : Nat} {nw : Nat → Int32} {lb : Nat} {wn : Nat → Nat} {y : Nat → Int32} {k m b : Nat} (h : nI k = nI (st - 1)) : x5Sm st nw lb k m b + x5Of st nw lb wn y k m (x5Nx nw lb k m b) = x5Wr st nw lb wn y k m b ∧ (1 : Int32) = x5Wk st nw lb wn y k m b := ⟨(if_pos h).symm, (if_pos h).symm⟩
theorem x5W_b {st : Nat} {nw : Nat → Int32} {lb : Nat} {wn : Nat → Nat} {y : Nat → Int32} {k m b : Nat} (h : ¬ nI k = nI (st - 1)) (h2 : nI m = 60) : x5Sm st nw lb k m b + x5Of st nw lb wn y k m (x5Nx nw lb k m b) = x5Wr st nw lb wn y k m b ∧ (1 : Int32) = x5Wk st nw lb wn y k m b := ⟨by rw [x5Wr, if_neg h, if_pos h2], by rw [x5Wk, if_neg h, if_pos h2]⟩
theorem x5W_c {st : Nat} {nw : Nat → Int32} {lb : Nat} {wn : Nat → Nat} {y : Nat → Int32} {k m b : Nat} (h : ¬ nI k = nI (st - 1)) (h2 : ¬ nI m = 60) : x5Sm st nw lb k m b + xMn (x5Of st nw lb wn y k m (x5Nx nw lb k m b)) (x5La st nw lb y k (m + 1) (x5Nx nw lb k m b)) = x5Wr st nw lb wn y k m b := by rw [x5Wr, if_neg h, if_neg h2]
theorem x5W_t {st : Nat} {nw : Nat → Int32} {lb : Nat} {wn : Nat → Nat} {y : Nat → Int32} {k m b : Nat} (h : ¬ nI k = nI (st - 1)) (h2 : ¬ nI m = 60) (h3 : x5Of st nw lb wn y k m (x5Nx nw lb k m b) < x5La st nw lb y k (m + 1) (x5Nx nw lb k m b)) : (1 : Int32) = x5Wk st nw lb wn y k m b := by rw [x5Wk, if_neg h, if_neg h2, if_pos h3]
theorem x5W_f {st : Nat} {nw : Nat → Int32} {lb : Nat} {wn : Nat → Nat} {y : Nat → Int32} {k m b : Nat} (h : ¬ nI k = nI (st - 1)) (h2 : ¬ nI m = 60) (h3 : ¬ x5Of st nw lb wn y k m (x5Nx nw lb k m b) < x5La st nw lb y k (m + 1) (x5Nx nw lb k m b)) : (0 : Int32) = x5Wk st nw lb wn y k m b := by rw [x5Wk, if_neg h, if_neg h2, if_neg h3]
def x5Y1 (st : Nat) (nw : Nat → Int32) (lb : Nat) (wn : Nat → Nat) (y : Nat → Int32) (k m b : Nat) : Nat → Nat → Int32
  | 0 => y
  | n + 1 => upd (x5Y1 st nw lb wn y k m b n) ((k * 61 + m) * 13 + (b + n)) (x5Wr st nw lb wn (x5Y1 st nw lb wn y k m b n) k m (b + n))
def x5Y2 (st : Nat) (nw : Nat → Int32) (lb : Nat) (wn : Nat → Nat) (y : Nat → Int32) (k : Nat) : Nat → Nat → Int32
  | 0 => y
  | n + 1 => x5Y1 st nw lb wn (x5Y2 st nw lb wn y k n) k (61 - n - 1) (x5Fs nw lb k (nI (61 - n - 1))) (13 - x5Fs nw lb k (nI (61 - n - 1)))
def x5Y3 (st : Nat) (nw : Nat → Int32) (lb : Nat) (wn : Nat → Nat) (y : Nat → Int32) : Nat → Nat → Int32
  | 0 => y
  | n + 1 => x5Y2 st nw lb wn (x5Y3 st nw lb wn y n) (st - n - 1) 61
theorem x5D_z {cn n : Nat} (hc : cn ≤ 1000) (hn : n ≤ cn) : nI (cn - n) - 1 < 0 ↔ cn = n := by
  have e1 : nI (cn - n) - 1 = nI (cn - n) - nI 1 := rfl
  rw [e1, xi_lt, pk_sub_toInt (by omega) (by decide)]
  have e0 : (0 : Int32).toInt = 0 := by decide
  omega
theorem x5Y1_s {st : Nat} {nw : Nat → Int32} {lb : Nat} {wn : Nat → Nat} {y g : Nat → Int32} {k m b n : Nat} (h : g = x5Y1 st nw lb wn y k m b n) : upd g ((k * 61 + m) * 13 + (b + n)) (x5Wr st nw lb wn g k m (b + n)) = x5Y1 st nw lb wn y k m b (n + 1) := by rw [h]; rfl
def q5Be (ln st : Nat) (a1 a2 a3 : Int32) : Int32 := if sNL ln a1 = 0 then (if sNL st a2 = 0 then (if a3 < 0 then -4 else if 60 < a3 then -6 else 0) else -1) else -1
def q5Bm (ln st : Nat) (a1 a2 a3 a4 : Int32) : Int32 := if sNL ln a1 = 0 then (if sNL st a2 = 0 then (if a3 < 0 then -4 else if 60 < a3 then -6 else if sNP a4 = 0 then 0 else -2) else -1) else -1
def qNw (ln : Nat) (a1 a2 : Int32) : Int32 := if sNL ln a1 = 0 then (if sNP a2 = 0 then 0 else -2) else -1
