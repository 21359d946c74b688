/-! both readings agree: where a statement is wrong -/
theorem xCn_le {lt : Nat → Int32} {len a : Nat} (h : a ≤ len) : a + xCn lt len a ≤ len := by
  have g := (xSc_le lt len (len - a) a).2
  have g2 := (xSc_le lt len (len - a) a).1
  unfold xCn
  omega
theorem xWp2_e {lt : Nat → Int32} {len a m l : Nat} (hlen : len ≤ 96) (hd : xDp lt len a ≤ len) (hm : sMd (xAt lt len a) = nI m) (hl : sLd (xAt lt len a) = nI l) (hm9 : m ≤ 20) (hl9 : l ≤ 20) :
    xWp2 lt len a = if m < xCn lt len (xDp lt len a) then nI (xDp lt len a + m) else if xCn lt len (xDp lt len a) < l then nI (xDp lt len a + xCn lt len (xDp lt len a)) else if xAt lt len (xDp lt len a + xCn lt len (xDp lt len a)) = 59 then -1 else nI (xDp lt len a + xCn lt len (xDp lt len a)) := by
  have hn := xCn_le (lt := lt) hd
  unfold xWp2
  rw [hm, hl, xDe_Cn, show xDp lt len a + xCn lt len (xDp lt len a) - xDp lt len a = xCn lt len (xDp lt len a) by omega]
  by_cases h1 : m < xCn lt len (xDp lt len a)
  · rw [if_pos ((nI_ltI (by omega) (by omega)).mpr h1), if_pos h1, nI_add]
  · rw [if_neg (mt (nI_ltI (by omega) (by omega)).mp h1), if_neg h1]
    by_cases h2 : xCn lt len (xDp lt len a) < l
    · rw [if_pos ((nI_ltI (by omega) (by omega)).mpr h2), if_pos h2]
    · rw [if_neg (mt (nI_ltI (by omega) (by omega)).mp h2), if_neg h2]
/-- one statement, both ways: all well and to the same end, or wrong at the same place -/
def xAg (lt : Nat → Int32) (len a : Nat) : Prop := (xWp lt len a < 0 ∧ xSp lt len xBF xKF (a, 1) = (xDe lt len a + 1, 1) ∧ xDe lt len a < len) ∨ (∃ w, w ≤ len ∧ xWp lt len a = nI w ∧ xSp lt len xBF xKF (a, 1) = (w, 0))
theorem xComb {lt : Nat → Int32} {len a d m l : Nat} (hdl : d ≤ len) (hlm : l ≤ m) (hde : xDe lt len a = d + xCn lt len d)
    (hS : xSp lt len xBF xKF (a, 1) = xPe lt len (d + min m (xCn lt len d), if min m (xCn lt len d) < l then 0 else 1))
    (hW : xWp lt len a = if m < xCn lt len d then nI (d + m) else if xCn lt len d < l then nI (d + xCn lt len d) else if xAt lt len (d + xCn lt len d) = 59 then -1 else nI (d + xCn lt len d)) : xAg lt len a := by
  have hn := xCn_le (lt := lt) hdl
  have ht := xTail (lt := lt) (len := len) (d := d) (m := m) rfl (by omega)
  by_cases h1 : m < xCn lt len d
  · right
    rw [if_pos h1] at hW
    rw [show min m (xCn lt len d) = m by omega, if_neg (by omega), ht.1 h1] at hS
    exact ⟨d + m, by omega, hW, hS⟩
  · rw [if_neg h1] at hW
    rw [show min m (xCn lt len d) = xCn lt len d by omega] at hS
    by_cases h2 : xCn lt len d < l
    · right
      rw [if_pos h2] at hW hS
      rw [xPe_1 rfl] at hS
      exact ⟨d + xCn lt len d, hn, hW, hS⟩
    · rw [if_neg h2] at hW hS
      by_cases h3 : xAt lt len (d + xCn lt len d) = 59
      · left
        rw [if_pos h3] at hW
        rw [ht.2.1 h3] at hS
        have hlt : d + xCn lt len d < len := by
          by_cases w : d + xCn lt len d < len
          · exact w
          · unfold xAt at h3; rw [if_neg w] at h3; exact absurd h3 (by decide)
        exact ⟨by rw [hW]; decide, by rw [hde]; exact hS, by rw [hde]; exact hlt⟩
      · right
        rw [if_neg h3] at hW
        rw [ht.2.2 h3] at hS
        exact ⟨d + xCn lt len d, hn, hW, hS⟩
theorem xSimple {lt : Nat → Int32} {len a k m l : Nat} (hs : xSs lt len xBF (a, 1) = nI k) (hp : xPn lt len xBF 6 (a, 1) = (a + 1, 1)) (hk3 : ¬ nI k = 3) (hl : xLl (nI k) = nI l) (hm : xLm9 (nI k) = m) (hm9 : m ≤ 20) (hl9 : l ≤ 20) :
    xSp lt len xBF xKF (a, 1) = xPe lt len (a + 1 + min m (xCn lt len (a + 1)), if min m (xCn lt len (a + 1)) < l then 0 else 1) := by
  unfold xSp
  rw [hs, if_neg hk3, hp, hl, hm, xPf_1]
  by_cases q : min m (xCn lt len (a + 1)) < l
  · rw [if_pos q, if_pos ((nI_ltI (by omega) (by omega)).mpr q)]
  · rw [if_neg q, if_neg (mt (nI_ltI (by omega) (by omega)).mp q)]
theorem xAg_s {lt : Nat → Int32} {len a k m l : Nat} (hlen : len ≤ 96) (ha : a < len) (h108 : ¬ xAt lt len a = 108) (hs : xSs lt len xBF (a, 1) = nI k) (hp : xPn lt len xBF 6 (a, 1) = (a + 1, 1)) (hk3 : ¬ nI k = 3) (hl : xLl (nI k) = nI l) (hm : xLm9 (nI k) = m)
    (hm2 : sMd (xAt lt len a) = nI m) (hl2 : sLd (xAt lt len a) = nI l) (hm0 : 0 < m) (hm9 : m ≤ 20) (hlm : l ≤ m) : xAg lt len a := by
  have hd : xDp lt len a = a + 1 := by unfold xDp; rw [if_neg h108]
  refine xComb (d := a + 1) (m := m) (l := l) (by omega) hlm (by rw [xDe_Cn, hd]) (xSimple hs hp hk3 hl hm hm9 (by omega)) ?_
  unfold xWp
  have e := xWp2_e (lt := lt) (m := m) (l := l) hlen (by rw [hd]; omega) hm2 hl2 hm9 (by omega)
  rw [hd] at e
  rw [if_neg (by rw [hm2]; exact nI_ne0 hm0 (by omega)), hd, if_neg (mt (nI_ltI (by omega) (by omega)).mp (Nat.lt_irrefl _)), e]
theorem xAg_no {lt : Nat → Int32} {len a : Nat} (hal : a ≤ len) (h : a < len → ∀ i, i < 6 → ¬ lt a = xBF i) (hm : sMd (xAt lt len a) = 0) : xAg lt len a := by
  right
  have e := xBegNo h
  refine ⟨a, hal, by unfold xWp; rw [if_pos hm], ?_⟩
  unfold xSp
  rw [e.1, e.2, if_neg (by decide), xPf_0, xPe_1 rfl]
theorem xAg_l {lt : Nat → Int32} {len a : Nat} (hB : xByt lt len) (hlen : len ≤ 96) (ha : a < len) (hc : lt a = 108) : xAg lt len a := by
  have eA : xAt lt len a = 108 := by unfold xAt; rw [if_pos ha]; exact hc
  have hd : xDp lt len a = a + 2 := by unfold xDp; rw [if_pos eA]
  have eB := xBeg (lt := lt) (len := len) (a := a) (k := 3) ha (by decide) hc (fun i hi => by rw [hc]; rcases (show i = 0 ∨ i = 1 ∨ i = 2 by omega) with rfl | rfl | rfl <;> decide)
  have e3 : xSs lt len xBF (a, 1) = 3 := eB.1
  have hw1 : nI (a + 1) < nI (xDp lt len a) := by rw [hd]; exact (nI_ltI (by omega) (by omega)).mpr (by omega)
  have hsm : ¬ sMd (xAt lt len a) = 0 := by rw [eA]; decide
  rcases xKd_in (lt := lt) (len := len) (a := a + 1) hB with ⟨k1, k2⟩ | ⟨k1, k2, k3, k4⟩
  · right
    refine ⟨a + 1, by omega, by unfold xWp; rw [if_neg hsm, if_pos hw1, if_pos k1], ?_⟩
    unfold xSp x5p
    rw [e3, if_pos rfl, eB.2, k2, xPf_0, xPf_0, xPf_0, xQ_0, xPe_1 rfl]
  · refine xComb (d := a + 2) (m := 14) (l := 3) (by omega) (by decide) (by rw [xDe_Cn, hd]) ?_ ?_
    · unfold xSp x5p
      rw [e3, if_pos rfl, eB.2, k2, show a + 1 + 1 = a + 2 by omega, x3f]
      by_cases h3 : xCn lt len (a + 2) < 3
      · rw [if_pos h3, xQ_0, if_pos (by omega), show min 14 (xCn lt len (a + 2)) = xCn lt len (a + 2) by omega]
      · have e4 := xCn_add (lt := lt) (len := len) (a := a + 2) 3 (by omega)
        rw [if_neg h3, xQ_1, if_neg (by omega), show a + 2 + 3 + min 11 (xCn lt len (a + 2 + 3)) = a + 2 + min 14 (xCn lt len (a + 2)) by omega]
    · have e := xWp2_e (lt := lt) (a := a) (m := 14) (l := 3) hlen (by rw [hd]; omega) (by rw [eA]; decide) (by rw [eA]; decide) (by decide) (by decide)
      rw [hd] at e
      unfold xWp
      rw [if_neg hsm, if_pos hw1, if_neg k1, e]
theorem xAgree {lt : Nat → Int32} {len a : Nat} (hB : xByt lt len) (hlen : len ≤ 96) (hal : a ≤ len) : xAg lt len a := by
  by_cases w : a < len
  · have eA : xAt lt len a = lt a := by unfold xAt; rw [if_pos w]
    by_cases h0 : lt a = 115
    · have e := xBeg (k := 0) w (by decide) h0 (fun i hi => absurd hi (Nat.not_lt_zero i))
      exact xAg_s (k := 0) (m := 3) (l := 1) hlen w (by rw [eA, h0]; decide) e.1 e.2 (by decide) rfl rfl (by rw [eA, h0]; decide) (by rw [eA, h0]; decide) (by decide) (by decide) (by decide)
    by_cases h1 : lt a = 104
    · have e := xBeg (k := 1) w (by decide) h1 (fun i hi => by rw [h1]; rcases (show i = 0 by omega) with rfl; decide)
      exact xAg_s (k := 1) (m := 3) (l := 1) hlen w (by rw [eA, h1]; decide) e.1 e.2 (by decide) rfl rfl (by rw [eA, h1]; decide) (by rw [eA, h1]; decide) (by decide) (by decide) (by decide)
    by_cases h2 : lt a = 112
    · have e := xBeg (k := 2) w (by decide) h2 (fun i hi => by rw [h2]; rcases (show i = 0 ∨ i = 1 by omega) with rfl | rfl <;> decide)
      exact xAg_s (k := 2) (m := 3) (l := 2) hlen w (by rw [eA, h2]; decide) e.1 e.2 (by decide) rfl rfl (by rw [eA, h2]; decide) (by rw [eA, h2]; decide) (by decide) (by decide) (by decide)
    by_cases h3 : lt a = 108
    · exact xAg_l hB hlen w h3
    by_cases h4 : lt a = 101
    · have e := xBeg (k := 4) w (by decide) h4 (fun i hi => by rw [h4]; rcases (show i = 0 ∨ i = 1 ∨ i = 2 ∨ i = 3 by omega) with rfl | rfl | rfl | rfl <;> decide)
      exact xAg_s (k := 4) (m := 1) (l := 1) hlen w (by rw [eA, h4]; decide) e.1 e.2 (by decide) rfl rfl (by rw [eA, h4]; decide) (by rw [eA, h4]; decide) (by decide) (by decide) (by decide)
    by_cases h5 : lt a = 109
    · have e := xBeg (k := 5) w (by decide) h5 (fun i hi => by rw [h5]; rcases (show i = 0 ∨ i = 1 ∨ i = 2 ∨ i = 3 ∨ i = 4 by omega) with rfl | rfl | rfl | rfl | rfl <;> decide)
      exact xAg_s (k := 5) (m := 2) (l := 1) hlen w (by rw [eA, h5]; decide) e.1 e.2 (by decide) rfl rfl (by rw [eA, h5]; decide) (by rw [eA, h5]; decide) (by decide) (by decide) (by decide)
    refine xAg_no hal (fun _ i hi => ?_) (by rw [eA]; unfold sMd; rw [if_neg h0, if_neg h1, if_neg h2, if_neg h3, if_neg h4, if_neg h5])
    rcases (show i = 0 ∨ i = 1 ∨ i = 2 ∨ i = 3 ∨ i = 4 ∨ i = 5 by omega) with rfl | rfl | rfl | rfl | rfl | rfl
    · exact h0
    · exact h1
    · exact h2
    · exact h3
    · exact h4
    · exact h5
  · exact xAg_no hal (fun h => absurd h w) (by unfold xAt; rw [if_neg w]; decide)
