/-! sooner; judged rows -/
theorem xSm_s {f : Nat → Int32} {n : Nat} {v : Int32} (h : f n = v) : xSm f (n + 1) = xSm f n + v := by rw [← h]; rfl
def qSo (ln : Nat) (a1 a2 a3 a4 a5 : Int32) : Int32 := if sGo ln a1 a2 a3 a4 999 = 0 then (if sNP a5 = 0 then 0 else -2) else sGo ln a1 a2 a3 a4 999
def vSo (st : Nat) (ho pa si li : Int32) (lg : Nat → Int32) (ki ru ne : Nat → Int32) (ch : Nat → Nat → Int32) (a1 a2 a3 a4 a5 : Int32) : Int64 :=
  xFr (xSm (fun i => if a4 < xGh st ho pa si li lg (ki a1.toNatClampNeg) (ru a1.toNatClampNeg) a2 a3 (nI i) then 0 else sWt (ne a1.toNatClampNeg) (ch a1.toNatClampNeg) (nI i)) 13) (xSm (ch a1.toNatClampNeg) 12 + ne a1.toNatClampNeg) a5
def xJb (st : Nat) (ho pa : Int32) (lg nf : Nat → Int32) (n : Nat) : Bool := decide (0 < n) && (!decide (sNL st (nI n) = 0) || decide (nf n - nf (n - 1) < xWy (xYd st ho lg (n - 1)) pa))
def xJu (b : Nat → Bool) : Nat → Int32
  | 0 => -9
  | n + 1 => if xJu b n = -9 then (if b n then nI n else -9) else xJu b n
theorem xJu_t {b : Nat → Bool} {n : Nat} (h : xJu b n = -9) (hb : b n = true) : xJu b (n + 1) = nI n := by simp only [xJu, if_pos h, if_pos hb]
theorem xJu_f {b : Nat → Bool} {n : Nat} (h : xJu b n = -9) (hb : b n = false) : xJu b (n + 1) = -9 := by simp [xJu, h, hb]
theorem xJu_stay {b : Nat → Bool} {k : Nat} (h : ¬ xJu b k = -9) : ∀ {n : Nat}, k ≤ n → xJu b n = xJu b k
  | 0, hk => by obtain rfl : k = 0 := by omega
                rfl
  | n + 1, hk => by
    rcases Nat.lt_or_ge n k with q | q
    · obtain rfl : k = n + 1 := by omega
      rfl
    · have e := xJu_stay h q
      simp only [xJu]
      rw [if_neg (by rw [e]; exact h), e]
theorem sNL_lt {n k : Nat} (hk : n < 2 ^ 30 ∧ k < 2 ^ 30) (h : sNL n (nI k) = 0) : k < n := by
  unfold sNL at h
  split at h
  · exact absurd h (by decide)
  · split at h
    · rename_i q; exact (nI_ltI (a := k) (b := n) (by omega) (by omega)).mp q
    · exact absurd h (by decide)
