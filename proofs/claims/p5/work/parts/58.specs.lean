theorem sPl_ok2 {ln st : Nat} {a1 a2 a3 a4 : Int32} (h : sPl ln st a1 a2 a3 a4 = 0) : sNL st a2 = 0 ∧ ¬ a3 < 0 ∧ ¬ a4 < a3 := by
  unfold sPl at h
  by_cases h1 : sNL ln a1 = 0
  · rw [if_pos h1] at h
    by_cases h2 : sNL st a2 = 0
    · rw [if_pos h2] at h
      by_cases h3 : a3 < 0
      · rw [if_pos h3] at h; exact absurd h (by decide)
      · rw [if_neg h3] at h
        by_cases h4 : a4 < a3
        · rw [if_pos h4] at h; exact absurd h (by decide)
        · exact ⟨h2, h3, h4⟩
    · rw [if_neg h2] at h; exact absurd h (by decide)
  · rw [if_neg h1] at h; exact absurd h (by decide)
def qBe (ln st : Nat) (a1 a2 a3 : Int32) : Int32 := sPl ln st a1 a2 a3 60
def qBm (ln st : Nat) (a1 a2 a3 a4 : Int32) : Int32 := if sPl ln st a1 a2 a3 60 = 0 then (if sNP a4 = 0 then 0 else -2) else sPl ln st a1 a2 a3 60
