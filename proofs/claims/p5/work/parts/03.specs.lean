/-! what the class's methods answer, in any state: sums, lines, legs -/
theorem xvin {x : Int32} {n : Nat} (h1 : ¬ x < 0) (h2 : x < nI n) (hn : n < 2 ^ 31) : vp_in x n := by
  rw [vp_in_iff]
  rw [xi_lt] at h1 h2
  rw [nI_toInt hn] at h2
  have e0 : (0 : Int32).toInt = 0 := by decide
  omega
theorem xcl_toNat (x : Int32) : x.toNatClampNeg = x.toInt.toNat := rfl
theorem xcl_le {a : Int32} {k : Nat} (hk : k < 2 ^ 31) (h : ¬ nI k < a) : a.toNatClampNeg ≤ k := by
  rw [xi_lt, nI_toInt hk] at h; rw [xcl_toNat]; omega
theorem xcl_lt {a : Int32} {k : Nat} (hk : k < 2 ^ 31) (h : nI k < a) : k + 1 ≤ a.toNatClampNeg := by
  rw [xi_lt, nI_toInt hk] at h; rw [xcl_toNat]; omega
def xSm (f : Nat → Int32) : Nat → Int32
  | 0 => 0
  | n + 1 => xSm f n + f n
/-- a sum of so many from a place on -/
def xSmF (f : Nat → Int32) (j : Nat) : Nat → Int32
  | 0 => 0
  | n + 1 => xSmF f j n + f (j + n)
def xAcc (a : Int32) (f : Nat → Int32) : Nat → Int32
  | 0 => a
  | n + 1 => xAcc a f n + f (n + 1)
def xWa (ch : Nat → Int32) (mi : Int32) : Int32 := xSm ch (min 12 mi.toNatClampNeg)
def sWt (ne : Int32) (ch : Nat → Int32) (t : Int32) : Int32 := if t = 12 then ne else if t < 0 then 0 else if t < 12 then ch t.toNatClampNeg else 0
def xFst (p : Nat → Bool) : Nat → Nat
  | 0 => 0
  | n + 1 => if xFst p n < n then xFst p n else if p n then n else n + 1
theorem xFst_none {p : Nat → Bool} : ∀ n, (∀ i, i < n → p i = false) → xFst p n = n
  | 0, _ => rfl
  | n + 1, h => by
    have e := xFst_none n (fun i hi => h i (by omega))
    simp [xFst, e, h n (by omega)]
theorem xFst_at {p : Nat → Bool} {k : Nat} (hk : p k = true) (hb : ∀ i, i < k → p i = false) : ∀ n, k < n → xFst p n = k
  | 0, h => absurd h (Nat.not_lt_zero k)
  | n + 1, h => by
    rcases Nat.lt_or_ge k n with q | q
    · have e := xFst_at hk hb n q
      simp [xFst, e, q]
    · obtain rfl : k = n := by omega
      have e := xFst_none k hb
      simp [xFst, e, hk]
def xDr (ch : Nat → Int32) (d : Int32) : Nat := xFst (fun k => decide (d < xSm ch (k + 1))) 12
def sRide (ki ru a : Int32) : Int32 := if 0 < a then (if ki = 1 then a * (ru + 1) else if ki = 3 then a * (ru + 1) + 5 else if ki = 4 then a * ((ru + 1) / 2) else a * ru) else 0
def sHalt (ki a b : Int32) : Int32 := if (ki = 2 ∨ ki = 4) ∧ ¬ a = b ∧ ¬ a - a / 2 * 2 = 0 then 0 else 1
def xYd (st : Nat) (ho : Int32) (lg : Nat → Int32) (j : Nat) : Int32 := if j + 1 < st then lg (j + 1) else ho
def xWy (y q : Int32) : Int32 := if q < 1 then 0 else (y + q - 1) / q
def xWh (st : Nat) (ho pa : Int32) (lg : Nat → Int32) (j : Nat) : Int32 := xSmF (fun i => xWy (xYd st ho lg i) pa) j (st - j)
/-! the same of the reference's row of numbers -/
def xLm (nw : Nat → Int32) (st j : Nat) : Int32 := if j = st then nw 1 else nw (10 + j)
def xRs (nw : Nat → Int32) (st j : Nat) : Int32 := xSmF (fun i => (xLm nw st (i + 1) + nw 2 - 1) / nw 2) j (st - j)
def sRd (ki ru a : Int32) : Int32 := if ki = 1 then ru + 1 else if ki = 3 then ru + (if a = 0 then 6 else 1) else if ki = 4 then (ru + 1) / 2 else ru
def xWt (f : Nat → Int32) (t : Nat) : Int32 := if t = 12 then f 2 else f (3 + t)
def xAc2 (a : Int32) (f : Nat → Int32) (t : Nat) : Nat → Int32
  | 0 => a
  | n + 1 => xAc2 a f t n + f (t + n)
def xWs (f : Nat → Int32) (t : Nat) : Int32 := xAc2 (xWt f 12) (xWt f) t (12 - t)
/-! goers: how long one waits; when he is home -/
def sWait (li a2 a3 i : Int32) : Int32 := if a2 = 0 then (if i = 0 then li else 0) else if a2 = 3 then (if i = 0 then a3 else 0) else if a2 = 5 then (if i = 0 then 2 * a3 else a3) else 0
/-- from stop k in minute mi on: t, rides, waits, ways, halts by stops; how far he looks; the minute of being home by riding; the last way -/
def xGo (t : Int32) (rd wt wy hl : Nat → Int32) (lk hm fl : Int32) : Nat → Nat → Int32 → Int32
  | 0, _, mi => mi + fl
  | n + 1, k, mi => if t < 12 ∧ ¬ hl k = 0 ∧ ¬ t + rd k < mi ∧ ¬ mi + wt k + lk < t + rd k then hm else xGo t rd wt wy hl lk hm fl n (k + 1) (mi + wt k + wy k)
theorem xGo_in {t : Int32} {rd wt wy hl : Nat → Int32} {lk hm fl : Int32} {n k : Nat} {mi : Int32} (h : t < 12 ∧ ¬ hl k = 0 ∧ ¬ t + rd k < mi ∧ ¬ mi + wt k + lk < t + rd k) : xGo t rd wt wy hl lk hm fl (n + 1) k mi = hm := by simp only [xGo]; exact if_pos h
theorem xGo_on {t : Int32} {rd wt wy hl : Nat → Int32} {lk hm fl : Int32} {n k : Nat} {mi : Int32} (h : ¬ (t < 12 ∧ ¬ hl k = 0 ∧ ¬ t + rd k < mi ∧ ¬ mi + wt k + lk < t + rd k)) : xGo t rd wt wy hl lk hm fl (n + 1) k mi = xGo t rd wt wy hl lk hm fl n (k + 1) (mi + wt k + wy k) := by simp only [xGo]; exact if_neg h
theorem xs1 {n k : Nat} (h : k < n) : n - k = (n - (k + 1)) + 1 := by omega
def xLk (si a2 : Int32) : Int32 := if a2 = 2 then si else if a2 = 3 then si else if a2 = 5 then si else 0
def xPc2 (pa a2 : Int32) : Int32 := if a2 = 4 then 2 * pa else pa
/-- a goer of the class -/
def xGh (st : Nat) (ho pa si li : Int32) (lg : Nat → Int32) (ki ru a2 a3 t : Int32) : Int32 :=
  xGo t (fun i => sRide ki ru (nI i)) (fun i => sWait li a2 a3 (nI i)) (fun i => xWy (xYd st ho lg i) (xPc2 pa a2)) (fun i => sHalt ki (nI i) (nI (st - 1))) (xLk si a2) (t + sRide ki ru (nI (st - 1)) + xWy (xYd st ho lg (st - 1)) (xPc2 pa a2)) (xWy (xYd st ho lg (st - 1)) (xPc2 pa a2)) (st - 1) 0 0
/-! a fraction's part: the class's Euclid, a hundred steps at most -/
def xGl : Nat → Int32 → Int32 → Int32
  | 0, d, _ => d
  | n + 1, d, r => if 0 < r then xGl n r (d - d / r * r) else d
def xFr (a b q : Int32) : Int64 := if ¬ 0 < a then (if q = 0 then 0 else 1) else if ¬ 0 < b then (if q = 0 then 0 else 1) else if q = 0 then (a / xGl 100 b (a - a / b * b)).toInt64 else (b / xGl 100 b (a - a / b * b)).toInt64
/-! sums over the minutes -/
def xHs (g w : Nat → Int32) : Int32 := xSm (fun i => w i * g i) 13
def sPH (st : Nat) (wh li t rf u rs : Int32) : Int32 := if st = 1 then wh else if t = 12 ∧ u = 12 then li + wh else if t = u then t + (if rs < rf then rs else rf) else if t < u then t + rf else u + rs
theorem xL3_at {la : Nat → Nat} {a : Nat} (h : a < 3) : va_rf (xL3 (la 0) (la 1) (la 2) (nI a).toNatClampNeg) = Value.ref (la a) := by
  rw [nI_clamp (by omega)]
  rcases (show a = 0 ∨ a = 1 ∨ a = 2 by omega) with rfl | rfl | rfl <;> rfl
/-- two lines: the sum over the first's minutes of the sums over the second's -/
def xPo (w1 : Nat → Int32) (f : Nat → Nat → Int32) : Nat → Int32
  | 0 => 0
  | t + 1 => if 0 < w1 t then xAc2 (xPo w1 f t) (f t) 0 13 else xPo w1 f t
/-! the letters: at a place, -1 behind the end; digits -/
def xAt (lt : Nat → Int32) (len p : Nat) : Int32 := if p < len then lt p else -1
def xIsD (lt : Nat → Int32) (len p : Nat) : Int32 := if xAt lt len p < 48 then 0 else if 57 < xAt lt len p then 0 else 1
def xDp (lt : Nat → Int32) (len p : Nat) : Nat := if xAt lt len p = 108 then p + 2 else p + 1
/-- the first place from e on that holds no digit (so many looked at at most) -/
def xSc (lt : Nat → Int32) (len : Nat) : Nat → Nat → Nat
  | 0, e => e
  | n + 1, e => if xIsD lt len e = 0 then e else xSc lt len n (e + 1)
def xDe (lt : Nat → Int32) (len p : Nat) : Nat := xSc lt len (len - xDp lt len p) (xDp lt len p)
theorem xSc_le (lt : Nat → Int32) (len : Nat) : ∀ n e, e ≤ xSc lt len n e ∧ xSc lt len n e ≤ e + n
  | 0, e => ⟨Nat.le_refl e, Nat.le_refl e⟩
  | n + 1, e => by
    simp only [xSc]
    have h := xSc_le lt len n (e + 1)
    split <;> omega
theorem xDp_le (lt : Nat → Int32) (len p : Nat) : p + 1 ≤ xDp lt len p ∧ xDp lt len p ≤ p + 2 := by unfold xDp; split <;> omega
theorem xDe_le (lt : Nat → Int32) (len p : Nat) : xDp lt len p ≤ xDe lt len p ∧ (xDe lt len p ≤ len ∨ xDe lt len p = xDp lt len p) := by
  have h := xSc_le lt len (len - xDp lt len p) (xDp lt len p)
  unfold xDe
  refine ⟨h.1, ?_⟩
  rcases Nat.lt_or_ge (xDp lt len p) len with q | q
  · left; omega
  · right; omega
def xDg (lt : Nat → Int32) (len p : Nat) : Int32 := if xIsD lt len p = 0 then 0 else xAt lt len p - 48
def xNu (lt : Nat → Int32) (len a : Nat) : Nat → Int32
  | 0 => 0
  | n + 1 => xNu lt len a n * 10 + xDg lt len (a + n)
def xNm (lt : Nat → Int32) (len p : Nat) : Int32 := xNu lt len (xDp lt len p) (xDe lt len p - xDp lt len p)
def sLd (x : Int32) : Int32 := if x = 108 then 3 else if x = 112 then 2 else 1
def sMd (x : Int32) : Int32 := if x = 115 then 3 else if x = 104 then 3 else if x = 112 then 3 else if x = 108 then 14 else if x = 101 then 1 else if x = 109 then 2 else 0
theorem xpos_ne {y : Int32} (h : 0 < y) : ¬ y = 0 := fun w => by rw [w] at h; exact absurd h (by decide)
theorem xGh_spec (st : Nat) (ho pa si li : Int32) (lg : Nat → Int32) (ki ru a2 a3 t : Int32) : ∃ GO : Nat → Nat → Int32 → Int32, xGh st ho pa si li lg ki ru a2 a3 t = GO (st - 1) 0 0 ∧ (∀ k mi, GO 0 k mi = mi + xWy (xYd st ho lg (st - 1)) (xPc2 pa a2)) ∧
    (∀ n k mi, t < 12 ∧ ¬ sHalt ki (nI k) (nI (st - 1)) = 0 ∧ ¬ t + sRide ki ru (nI k) < mi ∧ ¬ mi + sWait li a2 a3 (nI k) + xLk si a2 < t + sRide ki ru (nI k) → GO (n + 1) k mi = t + sRide ki ru (nI (st - 1)) + xWy (xYd st ho lg (st - 1)) (xPc2 pa a2)) ∧
    (∀ n k mi, ¬ (t < 12 ∧ ¬ sHalt ki (nI k) (nI (st - 1)) = 0 ∧ ¬ t + sRide ki ru (nI k) < mi ∧ ¬ mi + sWait li a2 a3 (nI k) + xLk si a2 < t + sRide ki ru (nI k)) → GO (n + 1) k mi = GO n (k + 1) (mi + sWait li a2 a3 (nI k) + xWy (xYd st ho lg k) (xPc2 pa a2))) :=
  ⟨_, rfl, fun _ _ => rfl, fun _ _ _ h => xGo_in h, fun _ _ _ h => xGo_on h⟩

/-! refusals' tests -/
def sNL (n : Nat) (a : Int32) : Int32 := if a < 0 then 1 else if a < nI n then 0 else 1
def sNK (a : Int32) : Int32 := if a < 0 then 1 else if 5 < a then 1 else 0
def sNP (a : Int32) : Int32 := if a < 0 then 1 else if 1 < a then 1 else 0
theorem sNL_bad {n : Nat} {a : Int32} (h : ¬ sNL n a = 0) : sNL n a = 1 := by
  unfold sNL at h ⊢; split <;> simp_all
theorem sNL_ok {n : Nat} {a : Int32} (hn : n < 2 ^ 31) (h : ¬ ¬ sNL n a = 0) : ∃ k, a = nI k ∧ k < n := by
  have h := Classical.not_not.mp h
  unfold sNL at h
  split at h
  · exact absurd h (by decide)
  · rename_i h1
    split at h
    · rename_i h2
      rw [xi_lt] at h1 h2
      rw [nI_toInt hn] at h2
      have e0 : (0 : Int32).toInt = 0 := by decide
      refine ⟨a.toInt.toNat, ?_, by omega⟩
      rw [xi_eq, nI_toInt (by omega)]
      omega
    · exact absurd h (by decide)
def xRq (rf : Nat → Int32) (q : Int32) : Nat → Int32 := if q = 0 then rf else xRf rf q
