/-! both sides hold the same road: goers, rules, rows judged -/
theorem xSy_e (li a2 a3 : Int32) {i : Nat} (hi : i < 2 ^ 31) : sWait li a2 a3 (nI i) = sSy li a2 a3 (nI i) := by
  unfold sWait sSy
  by_cases h : i = 0
  · subst h
    rw [if_neg (show ¬ (0 : Int32) < nI 0 by decide), if_pos (show nI 0 = 0 by decide), if_pos (show nI 0 = 0 by decide), if_pos (show nI 0 = 0 by decide)]
  · have p : (0 : Int32) < nI i := (nI_ltI (a := 0) (b := i) (by decide) hi).mpr (by omega)
    have z : ¬ nI i = 0 := nI_ne0 (by omega) hi
    rw [if_pos p, if_neg z, if_neg z, if_neg z]
    by_cases h0 : a2 = 0
    · rw [if_pos h0, if_neg (by rw [h0]; decide)]
    rw [if_neg h0]
    by_cases h3 : a2 = 3
    · rw [if_pos h3, if_neg (by rw [h3]; decide)]
    rw [if_neg h3]
theorem xGo_ag {t : Int32} {rd rd' wt wt' wy wy' hl hl' : Nat → Int32} {lk hm fl : Int32} : ∀ (n k : Nat) (mi : Int32), (∀ i, k ≤ i → i < k + n → rd i = rd' i ∧ wt i = wt' i ∧ wy i = wy' i ∧ hl i = hl' i) → xGo t rd wt wy hl lk hm fl n k mi = xGo t rd' wt' wy' hl' lk hm fl n k mi
  | 0, _, _, _ => rfl
  | n + 1, k, mi, h => by
    obtain ⟨e1, e2, e3, e4⟩ := h k (Nat.le_refl k) (by omega)
    simp only [xGo]
    rw [e1, e2, e3, e4, xGo_ag n (k + 1) _ (fun i h1 h2 => h i (by omega) (by omega))]
theorem xGh_e {st ln : Nat} {ho pa si li : Int32} {lg ki ru ne nw : Nat → Int32} {ch : Nat → Nat → Int32} (hV : xVc st ln ho pa lg) (hR : xRel (st, ln, ho, pa, si, li, lg, ki, ru, ne, ch) nw) {k : Nat} (hk : k < ln) (a2 a3 t : Int32) : xGh st ho pa si li lg (ki k) (ru k) a2 a3 t = xHo st nw (20 + 16 * k) a2 a3 t := by
  obtain ⟨d1, d2, -⟩ := xLn_t hR hk
  have h1 := hV.1.1
  have h7 := hV.1.2
  obtain ⟨-, -, ⟨v, e, c1, c2⟩, -⟩ := hV
  obtain ⟨-, ⟨b1, b2, b4, b5⟩, -⟩ := id hR
  have b1 : nw 1 = ho := b1
  have b2 : nw 2 = pa := b2
  have b4 : nw 4 = si := b4
  have b5 : nw 5 = li := b5
  have hq : ¬ xPc2 pa a2 < 1 := by
    unfold xPc2
    split
    · rw [e, show (2 : Int32) * nI v = nI (2 * v) from pk_mul 2 v]; exact mt (nI_ltI (a := 2 * v) (b := 1) (by omega) (by decide)).mp (by omega)
    · rw [e]; exact mt (nI_ltI (a := v) (b := 1) (by omega) (by decide)).mp (by omega)
  have w : ∀ i, i < st → xWy (xYd st ho lg i) (xPc2 pa a2) = (xLm nw st (i + 1) + xPc2 (nw 2) a2 - 1) / xPc2 (nw 2) a2 := fun i hi => by
    rw [xLm_e hR hi, b2]
    unfold xWy
    rw [if_neg hq]
  have wl : xWy (xYd st ho lg (st - 1)) (xPc2 pa a2) = (xLm nw st st + xPc2 (nw 2) a2 - 1) / xPc2 (nw 2) a2 := by
    have q := w (st - 1) (by omega)
    rw [show st - 1 + 1 = st by omega] at q
    exact q
  unfold xGh xHo
  rw [d1, d2, b4, b5, wl, xRide_s (ki k) (ru k) (st - 1) (by omega)]
  exact xGo_ag (st - 1) 0 0 (fun i _ hi => ⟨(xRide_s (ki k) (ru k) i (by omega)).symm, xSy_e li a2 a3 (by omega), w i (by omega), rfl⟩)
theorem xa_H {st ln : Nat} {ho pa si li : Int32} {lg ki ru ne nw : Nat → Int32} {ch : Nat → Nat → Int32} (hV : xVc st ln ho pa lg) (hR : xRel (st, ln, ho, pa, si, li, lg, ki, ru, ne, ch) nw) {a1 a2 a3 a4 a5 : Int32} (h : sGo ln a1 a2 a3 a4 a5 = 0) : vHo st ho pa si li lg ki ru a1 a2 a3 a4 = v5H st nw a1 a2 a3 a4 := by
  have h3 := hV.2.1
  have hn : sNL ln a1 = 0 := by
    by_cases q : sNL ln a1 = 0
    · exact q
    · unfold sGo at h; rw [if_neg q] at h; exact absurd h (by decide)
  obtain ⟨k, rfl, hk⟩ := xNL_t (by omega) hn
  unfold vHo v5H
  rw [nI_clamp (by omega)]
  exact xGh_e hV hR hk a2 a3 a4
/-- a chance, both ways -/
theorem xWt_e {st ln : Nat} {ho pa si li : Int32} {lg ki ru ne nw : Nat → Int32} {ch : Nat → Nat → Int32} (hR : xRel (st, ln, ho, pa, si, li, lg, ki, ru, ne, ch) nw) {k t : Nat} (hk : k < ln) (ht : t < 13) : sWt (ne k) (ch k) (nI t) = xWt (fun j => nw (20 + 16 * k + j)) t := by
  obtain ⟨d1, d2, d3, d4⟩ := xLn_t hR hk
  unfold sWt xWt
  by_cases h : t = 12
  · rw [if_pos h, if_pos (by rw [h]; decide)]; exact d3.symm
  · rw [if_neg h, if_neg (show ¬ nI t = 12 from fun e => h ((xnI_inj (a := t) (b := 12) (by omega) (by decide)).mp e)), if_neg (nI_pos (by omega)), if_pos (show nI t < 12 from (nI_ltI (a := t) (b := 12) (by omega) (by decide)).mpr (by omega)), nI_clamp (by omega)]
    exact (d4 t (by omega)).symm
theorem xHS_e {st ln : Nat} {ho pa si li : Int32} {lg ki ru ne nw : Nat → Int32} {ch : Nat → Nat → Int32} (hV : xVc st ln ho pa lg) (hR : xRel (st, ln, ho, pa, si, li, lg, ki, ru, ne, ch) nw) {k : Nat} (hk : k < ln) (a2 a3 : Int32) : xHSum st ho pa si li lg (ki k) (ru k) (ne k) (ch k) a2 a3 = x5S st nw (20 + 16 * k) a2 a3 := by
  unfold xHSum x5S
  exact xSm_ag 13 (fun i hi => by rw [xWt_e hR hk hi, xGh_e hV hR hk])
theorem xBst_e {f : Nat → Int32} {g : Int32 → Int32} : ∀ n, n < 2 ^ 31 → (∀ i, i ≤ n → f i = g (nI i)) → (xBst f n).2 = xBs5 g n ∧ (xBst f n).1 = g (xBs5 g n)
  | 0, _, h => ⟨rfl, h 0 (Nat.le_refl 0)⟩
  | n + 1, hn, h => by
    obtain ⟨i1, i2⟩ := xBst_e n (by omega) (fun i hi => h i (by omega))
    have e := h (n + 1) (Nat.le_refl _)
    simp only [xBst, xBs5]
    rw [i2, e]
    by_cases q : g (nI (n + 1)) < g (xBs5 g n)
    · rw [if_pos q, if_pos q]; exact ⟨rfl, rfl⟩
    · rw [if_neg q, if_neg q]; exact ⟨i1, i2⟩
theorem xa_Ru {st ln : Nat} {ho pa si li : Int32} {lg ki ru ne nw : Nat → Int32} {ch : Nat → Nat → Int32} (hV : xVc st ln ho pa lg) (hR : xRel (st, ln, ho, pa, si, li, lg, ki, ru, ne, ch) nw) {a1 : Int32} (h : qRu ln a1 = 0) : vRu st ho pa si li lg ki ru ne ch a1 = v5Ru st nw a1 := by
  have h3 := hV.2.1
  have hn : sNL ln a1 = 0 := by
    by_cases q : sNL ln a1 = 0
    · exact q
    · unfold qRu at h; rw [if_neg q] at h; exact absurd h (by decide)
  obtain ⟨k, rfl, hk⟩ := xNL_t (by omega) hn
  unfold vRu v5Ru
  rw [nI_clamp (by omega)]
  exact (xBst_e 12 (by decide) (fun i _ => xHS_e hV hR hk 3 (nI i))).1
theorem xJb_e {st ln : Nat} {ho pa si li : Int32} {lg ki ru ne nw : Nat → Int32} {ch : Nat → Nat → Int32} (hV : xVc st ln ho pa lg) (hR : xRel (st, ln, ho, pa, si, li, lg, ki, ru, ne, ch) nw) (nf : Nat → Int32) {n : Nat} (hn : n < 2 ^ 31) : xJb st ho pa lg nf n = x5Jb st nw nf n := by
  have h7 := hV.1.2
  unfold xJb x5Jb
  by_cases h0 : 0 < n
  · by_cases h1 : n < st
    · have e0 : sNL st (nI n) = 0 := by unfold sNL; rw [if_neg (nI_pos hn), if_pos ((nI_ltI hn (by omega)).mpr h1)]
      obtain ⟨-, -, ⟨v, e, c1, c2⟩, -⟩ := hV
      have b2 : nw 2 = pa := hR.2.1.2.1
      have hq : ¬ pa < 1 := by rw [e]; exact mt (nI_ltI (a := v) (b := 1) (by omega) (by decide)).mp (by omega)
      have w : xWy (xYd st ho lg (n - 1)) pa = (xLm nw st n + nw 2 - 1) / nw 2 := by
        have q := xLm_e hR (show n - 1 < st by omega)
        rw [show n - 1 + 1 = n by omega] at q
        rw [← q, b2]
        unfold xWy
        rw [if_neg hq]
      rw [w, decide_eq_true e0, decide_eq_true h1]
    · have e0 : ¬ sNL st (nI n) = 0 := by unfold sNL; rw [if_neg (nI_pos hn), if_neg (mt (nI_ltI hn (by omega)).mp h1)]; decide
      rw [decide_eq_false e0, decide_eq_false h1, Bool.not_false, Bool.true_or, Bool.true_or]
  · rw [decide_eq_false h0, Bool.false_and, Bool.false_and]
theorem xJu_first {b : Nat → Bool} : ∀ {n j : Nat}, j < n → b j = true → (∀ i, i < j → b i = false) → j < 2 ^ 31 → xJu b n = nI j
  | 0, j, h, _, _, _ => absurd h (Nat.not_lt_zero j)
  | n + 1, j, h, hb, hf, hj => by
    by_cases q : j = n
    · subst q
      have e : xJu b j = -9 := by
        have key : ∀ m, m ≤ j → xJu b m = -9 := by
          intro m
          induction m with
          | zero => intro _; rfl
          | succ m ih => intro hm; exact xJu_f (ih (by omega)) (hf m (by omega))
        exact key j (Nat.le_refl j)
      exact xJu_t e hb
    · have ih := xJu_first (n := n) (show j < n by omega) hb hf hj
      have hne : ¬ xJu b n = -9 := by
        rw [ih, xi_eq, nI_toInt hj]
        have z : (-9 : Int32).toInt = -9 := by decide
        omega
      simp only [xJu]
      rw [if_neg hne, ih]
theorem xJu_none {b : Nat → Bool} : ∀ {n : Nat}, (∀ i, i < n → b i = false) → xJu b n = -9
  | 0, _ => rfl
  | n + 1, h => xJu_f (xJu_none (fun i hi => h i (by omega))) (h n (by omega))
theorem x5D_e {b : Nat → Bool} {cn : Nat} (hc : cn ≤ 12) : ∀ n, n ≤ cn → (∀ i, i < cn - n → b i = false) → x5D b cn n = xJu b cn
  | 0, _, h => (xJu_none (fun i hi => h i (by omega))).symm
  | n + 1, hn, h => by
    by_cases q : b (cn - n - 1) = true
    · rw [← x5D_t q]
      exact (xJu_first (show cn - n - 1 < cn by omega) q (fun i hi => h i (by omega)) (by omega)).symm
    · have q : b (cn - n - 1) = false := by simpa using q
      rw [← x5D_f q]
      exact x5D_e hc n (by omega) (fun i hi => by
        by_cases r : i = cn - n - 1
        · rw [r]; exact q
        · exact h i (by omega))
theorem xJu_ag {b b' : Nat → Bool} : ∀ n, (∀ i, i < n → b i = b' i) → xJu b n = xJu b' n
  | 0, _ => rfl
  | n + 1, h => by simp only [xJu]; rw [xJu_ag n (fun i hi => h i (by omega)), h n (by omega)]
theorem xa_J {st ln cn : Nat} {ho pa si li : Int32} {lg ki ru ne nw : Nat → Int32} {ch : Nat → Nat → Int32} (hV : xVc st ln ho pa lg) (hR : xRel (st, ln, ho, pa, si, li, lg, ki, ru, ne, ch) nw) (nf : Nat → Int32) (hc : cn ≤ 12) : xJu (xJb st ho pa lg nf) cn = x5D (x5Jb st nw nf) cn cn := by
  rw [x5D_e hc cn (Nat.le_refl _) (fun i hi => absurd hi (by omega))]
  exact xJu_ag cn (fun i hi => xJb_e hV hR nf (by omega))
