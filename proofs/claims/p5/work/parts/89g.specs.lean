/-! both readings agree: the whole text -/
theorem xIp_n {α : Type} {a : Int32} {x y : α} (h : ¬ 0 < a) : xIp a x y = y := if_neg h
theorem xIp_p {α : Type} {a : Int32} {x y : α} (h : 0 < a) : xIp a x y = x := if_pos h
theorem xNeg1 : ∀ w, w < 97 → ¬ 0 < -1000 - nI w := by decide +kernel
theorem xNeg2 : ∀ w, w < 97 → ¬ 0 < -2000 - nI w := by decide +kernel
theorem xFw_ge {lt : Nat → Int32} {len : Nat} {w : Int32} (h : ¬ w < 0) : ∀ n p, xFw lt len n p w = w
  | 0, _ => rfl
  | n + 1, p => by
    simp only [xFw]
    rw [if_neg h]
    split <;> rfl
theorem xFw_end {lt : Nat → Int32} {len p : Nat} {w : Int32} (h : ¬ p < len) : ∀ n, xFw lt len n p w = w
  | 0 => rfl
  | n + 1 => by simp only [xFw]; rw [if_neg h]
theorem xRL_e {lt : Nat → Int32} {len p k : Nat} {T : xT} (h : ¬ p < len) : ∀ n, xRL lt len n p T k = (T, nI k)
  | 0 => rfl
  | n + 1 => by simp only [xRL]; rw [if_neg h]
/-- how many statements from a place on -/
def xNS (lt : Nat → Int32) (len : Nat) : Nat → Nat → Nat
  | 0, _ => 0
  | n + 1, a => if a < len then xNS lt len n (xDe lt len a + 1) + 1 else 0
theorem xNS_s {lt : Nat → Int32} {len a i : Nat} (hi : i < len) (ha : a < len) : xNS lt len (len - i) a = xNS lt len (len - (i + 1)) (xDe lt len a + 1) + 1 := by
  rw [show len - i = (len - (i + 1)) + 1 by omega]; simp only [xNS]; rw [if_pos ha]
theorem xNS_e {lt : Nat → Int32} {len a : Nat} (h : ¬ a < len) : ∀ n, xNS lt len n a = 0
  | 0 => rfl
  | n + 1 => by simp only [xNS]; rw [if_neg h]
theorem xDe_ge (lt : Nat → Int32) (len a : Nat) : a < xDe lt len a := by
  have h1 := xDp_le lt len a
  have h2 := xDe_le lt len a
  omega
theorem xAg_t {lt : Nat → Int32} {len a : Nat} (hB : xByt lt len) (hlen : len ≤ 96) (ha : a ≤ len) (h : ¬ (xSp lt len xBF xKF (a, 1)).2 = 0) : xWp lt len a < 0 ∧ xSp lt len xBF xKF (a, 1) = (xDe lt len a + 1, 1) ∧ xDe lt len a < len := by
  rcases xAgree hB hlen ha with e | ⟨w, _, _, e⟩
  · exact e
  · exact absurd (by rw [e]) h
theorem xAg_f {lt : Nat → Int32} {len a : Nat} (hB : xByt lt len) (hlen : len ≤ 96) (ha : a ≤ len) (h : (xSp lt len xBF xKF (a, 1)).2 = 0) : ∃ w, w ≤ len ∧ xWp lt len a = nI w ∧ xSp lt len xBF xKF (a, 1) = (w, 0) := by
  rcases xAgree hB hlen ha with ⟨_, e, _⟩ | e
  · rw [e] at h; exact absurd (show (1 : Int32) = 0 from h) (by decide)
  · exact e
theorem xRO_ill {lt : Nat → Int32} {len : Nat} {T : xT} {w : Nat} (h : xF0 lt len = nI w) (hw : w < 97) : xRO lt len T = (T, -1000 - nI w) := by
  unfold xRO; rw [h, if_neg (nI_pos (by omega))]
theorem xRO_ok {lt : Nat → Int32} {len : Nat} {T : xT} (h : xF0 lt len < 0) : xRO lt len T = xRL lt len len 0 T 0 := if_pos h
