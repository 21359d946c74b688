/-! the reference: fractions of longs, goers, sums -/
theorem xcmp {x y : Int64} : lg_cmp x y = 0 ↔ x = y := by
  unfold lg_cmp
  by_cases h : y < x
  · simp only [if_pos h]
    exact ⟨fun w => absurd w (by decide), fun w => absurd (w ▸ h) (by rw [Int64.lt_iff_toInt_lt]; omega)⟩
  · simp only [if_neg h]
    by_cases q : x = y
    · simp [q]
    · simp [q]
def xGL : Nat → Int64 → Int64 → Int64
  | 0, a, _ => a
  | n + 1, a, b => if b = 0 then a else xGL n b (a - a / b * b)
theorem xL_rem (x y : Int64) : (x - x / y * y).toInt = x.toInt.tmod y.toInt := by
  have hb : ∀ z : Int64, -9223372036854775808 ≤ z.toInt ∧ z.toInt < 9223372036854775808 := fun z => ⟨Int64.le_toInt z, Int64.toInt_lt z⟩
  have h0 := hb x
  have hm : (x.toInt.tmod y.toInt).natAbs ≤ x.toInt.natAbs := by rw [Int.natAbs_tmod]; exact Nat.mod_le _ _
  have e : (x - x / y * y).toInt = (x.toInt - x.toInt.tdiv y.toInt * y.toInt).bmod (2 ^ 64) := by
    rw [Int64.toInt_sub, Int64.toInt_mul, Int64.toInt_div, Int.bmod_mul_bmod, Int.sub_bmod_bmod]
  rw [e, show x.toInt - x.toInt.tdiv y.toInt * y.toInt = x.toInt.tmod y.toInt by rw [Int.tmod_def, Int.mul_comm]]
  by_cases q : (x.toInt.tmod y.toInt) = 9223372036854775808
  · have w : (x.toInt.tmod y.toInt).natAbs = 9223372036854775808 := by rw [q]; rfl
    have s : x.toInt < 0 := by omega
    have t : x.toInt.tmod y.toInt ≤ 0 := by
      have u : x.toInt.tmod y.toInt = -((-x.toInt).tmod y.toInt) := by rw [Int.neg_tmod, Int.neg_neg]
      have v := Int.tmod_nonneg y.toInt (a := -x.toInt) (by omega)
      omega
    omega
  · exact Int.bmod_eq_of_le (by omega) (by omega)
theorem xL_less {a b : Int64} (h : ¬ b = 0) : (a - a / b * b).toInt.natAbs < b.toInt.natAbs := by
  rw [xL_rem, Int.natAbs_tmod]
  apply Nat.mod_lt
  have e0 : (0 : Int64).toInt = 0 := by decide
  have w : ¬ b.toInt = 0 := fun w => h (Int64.toInt_inj.mp (by rw [w, e0]))
  omega
theorem xGL_fuel : ∀ (n k : Nat) (a b : Int64), b.toInt.natAbs < n → b.toInt.natAbs < k → xGL n a b = xGL k a b
  | 0, _, _, _, h, _ => absurd h (Nat.not_lt_zero _)
  | _ + 1, 0, _, _, _, h => absurd h (Nat.not_lt_zero _)
  | n + 1, k + 1, a, b, h1, h2 => by
    simp only [xGL]
    by_cases q : b = 0
    · rw [if_pos q, if_pos q]
    · rw [if_neg q, if_neg q]
      have w := xL_less (a := a) q
      exact xGL_fuel n k b _ (by omega) (by omega)
theorem xGL_s {a b : Int64} (h : ¬ b = 0) : xGL ((a - a / b * b).toInt.natAbs + 1) b (a - a / b * b) = xGL (b.toInt.natAbs + 1) a b := by
  have w := xL_less (a := a) h
  rw [show xGL (b.toInt.natAbs + 1) a b = xGL b.toInt.natAbs b (a - a / b * b) by simp only [xGL]; rw [if_neg h]]
  exact xGL_fuel _ _ _ _ (by omega) (by omega)
theorem xGL_z {a b : Int64} (h : b = 0) : xGL (b.toInt.natAbs + 1) a b = a := by simp only [xGL]; rw [if_pos h]
def xPt (a b : Int64) (q : Int32) : Int64 := if a = 0 then q.toInt64 else if b = 0 then q.toInt64 else (if q = 0 then a else b) / xGL (b.toInt.natAbs + 1) a b
def sSy (li a1 a2 a3 : Int32) : Int32 := if 0 < a3 then (if a1 = 5 then a2 else 0) else if a1 = 0 then li else if a1 = 3 then a2 else if a1 = 5 then 2 * a2 else 0
def xBl (a2 : Int32) : Int32 := if a2 = 2 then 1 else if a2 = 3 then 1 else if a2 = 5 then 1 else 0
theorem xBl_0 {si a2 : Int32} (h : xBl a2 = 0) : (0 : Int32) = xLk si a2 := by
  unfold xBl at h; unfold xLk
  by_cases h1 : a2 = 2
  · rw [if_pos h1] at h; exact absurd h (by decide)
  rw [if_neg h1] at h ⊢
  by_cases h2 : a2 = 3
  · rw [if_pos h2] at h; exact absurd h (by decide)
  rw [if_neg h2] at h ⊢
  by_cases h3 : a2 = 5
  · rw [if_pos h3] at h; exact absurd h (by decide)
  rw [if_neg h3]
theorem xBl_1 {si a2 : Int32} (h : ¬ xBl a2 = 0) : si = xLk si a2 := by
  unfold xBl at h; unfold xLk
  by_cases h1 : a2 = 2
  · rw [if_pos h1]
  rw [if_neg h1] at h ⊢
  by_cases h2 : a2 = 3
  · rw [if_pos h2]
  rw [if_neg h2] at h ⊢
  by_cases h3 : a2 = 5
  · rw [if_pos h3]
  rw [if_neg h3] at h; exact absurd rfl h
/-- a goer of the reference: its line's place in the row -/
def xHo (st : Nat) (nw : Nat → Int32) (lb : Nat) (a2 a3 t : Int32) : Int32 :=
  xGo t (fun i => xSm (fun j => sRd (nw lb) (nw (lb + 1)) (nI j)) i) (fun i => sSy (nw 5) a2 a3 (nI i)) (fun i => (xLm nw st (i + 1) + xPc2 (nw 2) a2 - 1) / xPc2 (nw 2) a2) (fun i => sHalt (nw lb) (nI i) (nI (st - 1))) (xLk (nw 4) a2) (t + xSm (fun j => sRd (nw lb) (nw (lb + 1)) (nI j)) (st - 1) + (xLm nw st st + xPc2 (nw 2) a2 - 1) / xPc2 (nw 2) a2) ((xLm nw st st + xPc2 (nw 2) a2 - 1) / xPc2 (nw 2) a2) (st - 1) 0 0
theorem xHo_spec (st : Nat) (nw : Nat → Int32) (lb : Nat) (a2 a3 t : Int32) : ∃ GO : Nat → Nat → Int32 → Int32, xHo st nw lb a2 a3 t = GO (st - 1) 0 0 ∧ (∀ k mi, GO 0 k mi = mi + (xLm nw st st + xPc2 (nw 2) a2 - 1) / xPc2 (nw 2) a2) ∧
    (∀ n k mi, t < 12 ∧ ¬ sHalt (nw lb) (nI k) (nI (st - 1)) = 0 ∧ ¬ t + xSm (fun j => sRd (nw lb) (nw (lb + 1)) (nI j)) k < mi ∧ ¬ mi + sSy (nw 5) a2 a3 (nI k) + xLk (nw 4) a2 < t + xSm (fun j => sRd (nw lb) (nw (lb + 1)) (nI j)) k → GO (n + 1) k mi = t + xSm (fun j => sRd (nw lb) (nw (lb + 1)) (nI j)) (st - 1) + (xLm nw st st + xPc2 (nw 2) a2 - 1) / xPc2 (nw 2) a2) ∧
    (∀ n k mi, ¬ (t < 12 ∧ ¬ sHalt (nw lb) (nI k) (nI (st - 1)) = 0 ∧ ¬ t + xSm (fun j => sRd (nw lb) (nw (lb + 1)) (nI j)) k < mi ∧ ¬ mi + sSy (nw 5) a2 a3 (nI k) + xLk (nw 4) a2 < t + xSm (fun j => sRd (nw lb) (nw (lb + 1)) (nI j)) k) → GO (n + 1) k mi = GO n (k + 1) (mi + sSy (nw 5) a2 a3 (nI k) + (xLm nw st (k + 1) + xPc2 (nw 2) a2 - 1) / xPc2 (nw 2) a2)) :=
  ⟨_, rfl, fun _ _ => rfl, fun _ _ _ h => xGo_in h, fun _ _ _ h => xGo_on h⟩
theorem xPc2_ne {pa a2 : Int32} (h1 : ¬ pa = 0) (h2 : ¬ 2 * pa = 0) : ¬ xPc2 pa a2 = 0 := by unfold xPc2; split <;> assumption
def v5H (st : Nat) (nw : Nat → Int32) (a1 a2 a3 a4 : Int32) : Int32 := xHo st nw (20 + 16 * a1.toNatClampNeg) a2 a3 a4
def x5S (st : Nat) (nw : Nat → Int32) (lb : Nat) (a2 a3 : Int32) : Int32 := xSm (fun i => xWt (fun j => nw (lb + j)) i * xHo st nw lb a2 a3 (nI i)) 13
def v5Co (nw : Nat → Int32) (a1 a2 a3 a4 : Int32) : Int64 := xPt (if a2 < a3 then 0 else (xWt (fun i => nw (20 + 16 * a1.toNatClampNeg + i)) a2.toNatClampNeg).toInt64) (xWs (fun i => nw (20 + 16 * a1.toNatClampNeg + i)) a3.toNatClampNeg).toInt64 a4
def v5M (st : Nat) (nw : Nat → Int32) (a1 a2 a3 a4 : Int32) : Int64 := xPt (x5S st nw (20 + 16 * a1.toNatClampNeg) a2 a3).toInt64 (xWs (fun i => nw (20 + 16 * a1.toNatClampNeg + i)) 0).toInt64 a4
def q5Co (ln : Nat) (a1 a2 a3 a4 : Int32) : Int32 := if sNL ln a1 = 0 then (if a2 < 0 then -4 else if a3 < 0 then -4 else if 12 < a2 then -6 else if 11 < a3 then -6 else if sNP a4 = 0 then 0 else -2) else -1
def x5So (st : Nat) (nw : Nat → Int32) (lb : Nat) (a2 a3 a4 : Int32) : Nat → Int32 := fun i => if a4 < xHo st nw lb a2 a3 (nI i) then 0 else xWt (fun j => nw (lb + j)) i
theorem x5So_t {st : Nat} {nw : Nat → Int32} {lb : Nat} {a2 a3 a4 : Int32} {i : Nat} (h : a4 < xHo st nw lb a2 a3 (nI i)) : (0 : Int32) = x5So st nw lb a2 a3 a4 i := (if_pos h).symm
theorem x5So_f {st : Nat} {nw : Nat → Int32} {lb : Nat} {a2 a3 a4 : Int32} {i : Nat} (h : ¬ a4 < xHo st nw lb a2 a3 (nI i)) : xWt (fun j => nw (lb + j)) i = x5So st nw lb a2 a3 a4 i := (if_neg h).symm
def v5So (st : Nat) (nw : Nat → Int32) (a1 a2 a3 a4 a5 : Int32) : Int64 := xPt (xSm (x5So st nw (20 + 16 * a1.toNatClampNeg) a2 a3 a4) 13).toInt64 (xWs (fun i => nw (20 + 16 * a1.toNatClampNeg + i)) 0).toInt64 a5
def x5Pl (a1 : Int32) : Nat := if a1 = 0 then 1 else if a1 = 1 then 2 else if a1 = 2 then 4 else 5
def x5Se (nw : Nat → Int32) (a1 a2 : Int32) : Nat → Int32 := if qSe a1 a2 = 0 then upd nw (x5Pl a1) a2 else nw
