/-! others on the road, counted one by one -/
def xCt (p : Nat → Bool) : Nat → Nat
  | 0 => 0
  | n + 1 => xCt p n + (if p n then 1 else 0)
theorem xCt_le (p : Nat → Bool) : ∀ n, xCt p n ≤ n
  | 0 => Nat.le_refl _
  | n + 1 => by
    have h := xCt_le p n
    simp only [xCt]
    split <;> omega
theorem xCt_all : ∀ n, xCt (fun _ => true) n = n
  | 0 => rfl
  | n + 1 => by simp only [xCt]; rw [xCt_all n]; rfl
/-- the heart of the i-th -/
def xHv (h c i : Nat) : Nat := i * h + c
theorem xHv_b {h c i : Nat} (hh : h ≤ 30) (hc : c ≤ 30) (hi : i ≤ 9) : xHv h c i ≤ 300 := by
  unfold xHv
  have : i * h ≤ 9 * 30 := Nat.mul_le_mul hi hh
  omega
theorem xHv_e (h c i : Nat) : nI i * nI h + nI c = nI (xHv h c i) := by rw [pk_mul, nI_add]; rfl
theorem xGc {h c l : Nat} (hh : h ≤ 30) (hc : c ≤ 30) (hl : l < 2 ^ 30) : ∀ n, n ≤ 9 → xSm (fun i => if nI l < nI i * nI h + nI c then 1 else 0) n = nI (xCt (fun i => decide (l < xHv h c i)) n)
  | 0, _ => rfl
  | n + 1, hn => by
    have e := xGc hh hc hl n (by omega)
    have b := xHv_b hh hc (show n ≤ 9 by omega)
    have e2 : (if nI l < nI n * nI h + nI c then (1 : Int32) else 0) = nI (if decide (l < xHv h c n) = true then 1 else 0) := by
      rw [xHv_e]
      by_cases q : l < xHv h c n
      · rw [if_pos ((nI_ltI (by omega) (by omega)).mpr q), if_pos (decide_eq_true q)]; rfl
      · rw [if_neg (mt (nI_ltI (by omega) (by omega)).mp q), if_neg (by simpa using q)]; rfl
    simp only [xSm, xCt]
    rw [e, e2, nI_add]
theorem xOt_s {G : Int32 → Int32} {a : Int32} {k c l f c' f' : Nat} (h : xOt G a k = (nI c, nI l, nI f)) (hG : G (nI (l + (1 + f))) = nI c') (hf : f' + c' = c) : xOt G a (k + 1) = (nI c', nI (l + (1 + f)), nI f') := by
  have e1 : nI l + (1 + nI f) = nI (l + (1 + f)) := by rw [show (1 : Int32) = nI 1 from rfl, nI_add, nI_add]
  have e3 : nI c - nI c' = nI f' := by rw [pk_sub (by omega)]; exact congrArg nI (by omega)
  simp only [xOt]
  rw [h]
  dsimp only
  rw [e1, hG, e3]
theorem xAl_f {h c l l' i : Nat} {al : Nat → Bool} (hd : ∀ i, al i = false → xHv h c i ≤ l) (hl : l < l') (ha : al i = false) : decide (l' < xHv h c i) = false := decide_eq_false (by have := hd i ha; omega)
