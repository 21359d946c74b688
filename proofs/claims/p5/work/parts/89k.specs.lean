/-! both sides hold the same road: refusals, answers -/
theorem xq_lt {a : Int32} {k : Nat} (hk : k + 1 < 2 ^ 31) : nI k < a ↔ ¬ a < nI (k + 1) := by
  rw [xi_lt, xi_lt, nI_toInt (by omega), nI_toInt hk]
  omega
theorem xq_S : q5S = qSt := by
  funext st a1 a2
  unfold q5S qSt
  by_cases h : sNL st a1 = 0
  · rw [if_pos h, if_pos h]
    by_cases h1 : a2 < 0
    · rw [if_pos h1, if_neg (fun e => by rw [e] at h1; exact absurd h1 (by decide)), if_neg (fun e => by rw [e] at h1; exact absurd h1 (by decide)), if_neg (fun e => by rw [e] at h1; exact absurd h1 (by decide))]
    · rw [if_neg h1]
      by_cases h2 : 2 < a2
      · rw [if_pos h2, if_neg (fun e => by rw [e] at h2; exact absurd h2 (by decide)), if_neg (fun e => by rw [e] at h2; exact absurd h2 (by decide)), if_neg (fun e => by rw [e] at h2; exact absurd h2 (by decide))]
      · obtain ⟨k, rfl, hk⟩ := xInN (n := 2) (by decide) h1 h2
        rw [if_neg h2]
        rcases (show k = 0 ∨ k = 1 ∨ k = 2 by omega) with rfl | rfl | rfl <;> decide
  · rw [if_neg h, if_neg h]
theorem xq_L : q5L = qLi := by
  funext ln a1 a2
  unfold q5L qLi
  by_cases h : sNL ln a1 = 0
  · rw [if_pos h, if_pos h]
    by_cases h1 : a2 < 0
    · rw [if_pos h1, if_neg (fun e => by rw [e] at h1; exact absurd h1 (by decide)), if_neg (fun e => by rw [e] at h1; exact absurd h1 (by decide)), if_neg (fun e => by rw [e] at h1; exact absurd h1 (by decide)), if_neg (fun e => by rw [e] at h1; exact absurd h1 (by decide)), if_neg (fun e => by rw [e] at h1; exact absurd h1 (by decide))]
    · rw [if_neg h1]
      by_cases h2 : 4 < a2
      · rw [if_pos h2, if_neg (fun e => by rw [e] at h2; exact absurd h2 (by decide)), if_neg (fun e => by rw [e] at h2; exact absurd h2 (by decide)), if_neg (fun e => by rw [e] at h2; exact absurd h2 (by decide)), if_neg (fun e => by rw [e] at h2; exact absurd h2 (by decide)), if_neg (fun e => by rw [e] at h2; exact absurd h2 (by decide))]
      · obtain ⟨k, rfl, hk⟩ := xInN (n := 4) (by decide) h1 h2
        rw [if_neg h2]
        rcases (show k = 0 ∨ k = 1 ∨ k = 2 ∨ k = 3 ∨ k = 4 by omega) with rfl | rfl | rfl | rfl | rfl <;> decide
  · rw [if_neg h, if_neg h]
theorem xq_C : q5C = qCh := by
  funext ln a1 a2
  unfold q5C qCh
  by_cases h : a2 < 12
  · rw [if_pos h, if_neg (show ¬ (11 : Int32) < a2 from fun w => (xq_lt (a := a2) (k := 11) (by decide)).mp w h)]
  · rw [if_neg h, if_pos (show (11 : Int32) < a2 from (xq_lt (a := a2) (k := 11) (by decide)).mpr h)]
theorem xq_T : q5T = qTh := rfl
theorem xq_Co : q5Co = qCo := by
  funext ln a1 a2 a3 a4
  unfold q5Co qCo
  by_cases h : a3 < 12
  · rw [if_pos h, if_neg (show ¬ (11 : Int32) < a3 from fun w => (xq_lt (a := a3) (k := 11) (by decide)).mp w h)]
  · rw [if_neg h, if_pos (show (11 : Int32) < a3 from (xq_lt (a := a3) (k := 11) (by decide)).mpr h)]
theorem xq_Be : q5Be = qBe := rfl
theorem xq_Bm : q5Bm = qBm := by
  funext ln st a1 a2 a3 a4
  unfold q5Bm qBm sPl
  by_cases h1 : sNL ln a1 = 0
  · rw [if_pos h1, if_pos h1]
    by_cases h2 : sNL st a2 = 0
    · rw [if_pos h2, if_pos h2]
      by_cases h3 : a3 < 0
      · rw [if_pos h3, if_pos h3, if_neg (by decide)]
      · rw [if_neg h3, if_neg h3]
        by_cases h4 : 60 < a3
        · rw [if_pos h4, if_pos h4, if_neg (by decide)]
        · rw [if_neg h4, if_neg h4, if_pos rfl]
    · rw [if_neg h2, if_neg h2, if_neg (by decide)]
  · rw [if_neg h1, if_neg h1, if_neg (by decide)]
theorem xIfC {c : Prop} [Decidable c] {α : Type} {a b d : α} (h : c → a = b) : (if c then a else d) = (if c then b else d) := by
  by_cases q : c
  · rw [if_pos q, if_pos q]; exact h q
  · rw [if_neg q, if_neg q]
theorem xNL_t {n : Nat} {a : Int32} (hn : n < 2 ^ 31) (h : sNL n a = 0) : ∃ k, a = nI k ∧ k < n := by
  unfold sNL at h
  by_cases h1 : a < 0
  · rw [if_pos h1] at h; exact absurd h (by decide)
  · rw [if_neg h1] at h
    by_cases h2 : a < nI n
    · rw [xi_lt] at h1
      rw [xi_lt, nI_toInt hn] at h2
      have z : (0 : Int32).toInt = 0 := by decide
      refine ⟨a.toInt.toNat, ?_, by omega⟩
      rw [xi_eq, nI_toInt (by omega)]
      omega
    · rw [if_neg h2] at h; exact absurd h (by decide)
theorem xnI_inj {a b : Nat} (ha : a < 2 ^ 31) (hb : b < 2 ^ 31) : nI a = nI b ↔ a = b := by
  rw [xi_eq, nI_toInt ha, nI_toInt hb]
  omega
/-- the road's quiet name -/
abbrev xTT (st ln : Nat) (ho pa si li : Int32) (lg ki ru ne : Nat → Int32) (ch : Nat → Nat → Int32) : xT := (st, ln, ho, pa, si, li, lg, ki, ru, ne, ch)
theorem xLm_e {st ln : Nat} {ho pa si li : Int32} {lg ki ru ne nw : Nat → Int32} {ch : Nat → Nat → Int32} (hR : xRel (st, ln, ho, pa, si, li, lg, ki, ru, ne, ch) nw) {i : Nat} (hi : i < st) : xLm nw st (i + 1) = xYd st ho lg i := by
  obtain ⟨-, ⟨b1, -⟩, c, -⟩ := hR
  unfold xLm xYd
  by_cases q : i + 1 < st
  · rw [if_neg (by omega), if_pos q]; exact c (i + 1) q
  · rw [if_pos (by omega), if_neg q]; exact b1
theorem xRs_e {st ln : Nat} {ho pa si li : Int32} {lg ki ru ne nw : Nat → Int32} {ch : Nat → Nat → Int32} (hV : xVc st ln ho pa lg) (hR : xRel (st, ln, ho, pa, si, li, lg, ki, ru, ne, ch) nw) (j : Nat) : xRs nw st j = xWh st ho pa lg j := by
  unfold xRs xWh
  refine xSmF_ag _ (fun i hi => ?_)
  obtain ⟨-, -, ⟨v, e, c1, c2⟩, -⟩ := hV
  have hq : ¬ pa < 1 := by rw [e]; exact mt (nI_ltI (a := v) (b := 1) (by omega) (by decide)).mp (by omega)
  have b2 : nw 2 = pa := hR.2.1.2.1
  try dsimp only
  rw [xLm_e hR (show j + i < st by omega), b2]
  unfold xWy
  rw [if_neg hq]
theorem xa_S {st ln : Nat} {ho pa si li : Int32} {lg ki ru ne nw : Nat → Int32} {ch : Nat → Nat → Int32} (hV : xVc st ln ho pa lg) (hR : xRel (st, ln, ho, pa, si, li, lg, ki, ru, ne, ch) nw) {a1 a2 : Int32} (h : qSt st a1 a2 = 0) : vSt st ho pa lg a1 a2 = v5S st nw a1 a2 := by
  have h7 := hV.1.2
  have hn : sNL st a1 = 0 := by
    by_cases q : sNL st a1 = 0
    · exact q
    · unfold qSt at h; rw [if_neg q] at h; exact absurd h (by decide)
  obtain ⟨k, rfl, hk⟩ := xNL_t (by omega) hn
  unfold vSt v5S
  rw [nI_clamp (by omega), xRs_e hV hR, xRs_e hV hR, hR.2.2.1 k hk]
theorem xa_W {st ln : Nat} {ho pa si li : Int32} {lg ki ru ne nw : Nat → Int32} {ch : Nat → Nat → Int32} (hV : xVc st ln ho pa lg) (hR : xRel (st, ln, ho, pa, si, li, lg, ki, ru, ne, ch) nw) : xWh st ho pa lg 0 = xRs nw st 0 := (xRs_e hV hR 0).symm
theorem xa_B {st ln : Nat} {ho pa si li : Int32} {lg ki ru ne nw : Nat → Int32} {ch : Nat → Nat → Int32} (hV : xVc st ln ho pa lg) (hR : xRel (st, ln, ho, pa, si, li, lg, ki, ru, ne, ch) nw) {a1 a2 : Int32} (h : qBa st a1 a2 = 0) : vBa st ho pa lg a1 a2 = v5B st nw a1 a2 := by
  have h7 := hV.1.2
  have h1 := hV.1.1
  have hn : sNL st a1 = 0 := by
    by_cases q : sNL st a1 = 0
    · exact q
    · unfold qBa at h; rw [if_neg q] at h; exact absurd h (by decide)
  obtain ⟨k, rfl, hk⟩ := xNL_t (by omega) hn
  unfold vBa v5B
  have e : (if nI k = nI (st - 1) then nw 1 else nw (10 + k + 1)) = xYd st ho lg k := by
    rw [← xLm_e hR hk]
    unfold xLm
    by_cases q : k + 1 = st
    · rw [if_pos q, if_pos (by rw [show k = st - 1 by omega])]
    · rw [if_neg q, if_neg (fun w => q (by have := (xnI_inj (by omega) (by omega)).mp w; omega))]
      rfl
  have b2 : nw 2 = pa := hR.2.1.2.1
  rw [nI_clamp (by omega), e, b2]
theorem xa_Cn {st ln : Nat} {ho pa si li : Int32} {lg ki ru ne nw : Nat → Int32} {ch : Nat → Nat → Int32} (hV : xVc st ln ho pa lg) (hR : xRel (st, ln, ho, pa, si, li, lg, ki, ru, ne, ch) nw) (nc : Int32) (len : Nat) (rf : Nat → Int32) (a1 : Int32) : sCnt st ln ho pa si li lg nc len rf a1 = sCnt st ln (nw 1) (nw 2) (nw 4) (nw 5) (fun i => nw (10 + i)) nc len rf a1 := by
  obtain ⟨-, ⟨b1, b2, b4, b5⟩, c, -⟩ := hR
  have e : ∀ n, n < st → xAcc ho (fun i => nw (10 + i)) n = xAcc ho lg n := by
    intro n
    induction n with
    | zero => intro _; rfl
    | succ n ih =>
      intro hn
      simp only [xAcc]
      rw [ih (by omega), c (n + 1) hn]
  have h1 := hV.1.1
  unfold sCnt
  rw [b1, b2, b4, b5, e (st - 1) (by omega)]
theorem xa_Im {st ln : Nat} {ho pa si li : Int32} {lg ki ru ne nw : Nat → Int32} {ch : Nat → Nat → Int32} (hR : xRel (st, ln, ho, pa, si, li, lg, ki, ru, ne, ch) nw) : nI st = nw 0 := hR.1.1.symm
theorem xa_On {st ln : Nat} {ho pa si li : Int32} {lg ki ru ne nw th : Nat → Int32} {ch : Nat → Nat → Int32} (hR : xRel (st, ln, ho, pa, si, li, lg, ki, ru, ne, ch) th) : nI st = xCp th nw 70 0 := hR.1.1.symm
theorem xa_Se {st ln : Nat} {ho pa si li : Int32} {lg ki ru ne nw : Nat → Int32} {ch : Nat → Nat → Int32} (hR : xRel (st, ln, ho, pa, si, li, lg, ki, ru, ne, ch) nw) (a1 : Int32) : sSe ho pa si li a1 = nw (x5Pl a1) := by
  obtain ⟨-, ⟨b1, b2, b4, b5⟩, -⟩ := hR
  unfold sSe x5Pl
  by_cases h0 : a1 = 0
  · rw [if_pos h0, if_pos h0]; exact b1.symm
  rw [if_neg h0, if_neg h0]
  by_cases h1 : a1 = 1
  · rw [if_pos h1, if_pos h1]; exact b2.symm
  rw [if_neg h1, if_neg h1]
  by_cases h2 : a1 = 2
  · rw [if_pos h2, if_pos h2]; exact b4.symm
  rw [if_neg h2, if_neg h2]; exact b5.symm
/-! a line's answers -/
theorem xLn_t {st ln : Nat} {ho pa si li : Int32} {lg ki ru ne nw : Nat → Int32} {ch : Nat → Nat → Int32} (hR : xRel (st, ln, ho, pa, si, li, lg, ki, ru, ne, ch) nw) {k : Nat} (hk : k < ln) : nw (20 + 16 * k) = ki k ∧ nw (20 + 16 * k + 1) = ru k ∧ nw (20 + 16 * k + 2) = ne k ∧ ∀ t, t < 12 → nw (20 + 16 * k + (3 + t)) = ch k t := hR.2.2.2 k hk
theorem xRide_s (ki ru : Int32) : ∀ n : Nat, n < 2 ^ 30 → xSm (fun i => sRd ki ru (nI i)) n = sRide ki ru (nI n)
  | 0, _ => by unfold sRide; rw [if_neg (by decide)]; rfl
  | n + 1, h => by
    have ih := xRide_s ki ru n (by omega)
    simp only [xSm]
    rw [ih]
    have p1 : (0 : Int32) < nI (n + 1) := (nI_ltI (a := 0) (b := n + 1) (by decide) (by omega)).mpr (by omega)
    have e1 : nI (n + 1) = nI n + 1 := (nI_1 n).symm
    have e2 : ∀ x : Int32, (nI n + 1) * x = nI n * x + x := fun x => by rw [Int32.add_mul, Int32.one_mul]
    unfold sRide sRd
    rw [if_pos p1]
    by_cases h0 : n = 0
    · subst h0
      rw [if_neg (show ¬ (0 : Int32) < nI 0 by decide), if_pos (show nI 0 = 0 by decide), show nI (0 + 1) = 1 by decide]
      by_cases k1 : ki = 1
      · rw [if_pos k1, if_pos k1, Int32.zero_add, Int32.one_mul]
      rw [if_neg k1, if_neg k1]
      by_cases k3 : ki = 3
      · rw [if_pos k3, if_pos k3, Int32.zero_add, Int32.one_mul, Int32.add_assoc]; rfl
      rw [if_neg k3, if_neg k3]
      by_cases k4 : ki = 4
      · rw [if_pos k4, if_pos k4, Int32.zero_add, Int32.one_mul]
      rw [if_neg k4, if_neg k4, Int32.zero_add, Int32.one_mul]
    · have p0 : (0 : Int32) < nI n := (nI_ltI (a := 0) (b := n) (by decide) (by omega)).mpr (by omega)
      rw [if_pos p0, if_neg (nI_ne0 (by omega) (by omega)), e1]
      by_cases k1 : ki = 1
      · rw [if_pos k1, if_pos k1, if_pos k1, e2]
      rw [if_neg k1, if_neg k1, if_neg k1]
      by_cases k3 : ki = 3
      · rw [if_pos k3, if_pos k3, if_pos k3, e2, Int32.add_assoc, Int32.add_comm 5, ← Int32.add_assoc]
      rw [if_neg k3, if_neg k3, if_neg k3]
      by_cases k4 : ki = 4
      · rw [if_pos k4, if_pos k4, if_pos k4, e2]
      rw [if_neg k4, if_neg k4, if_neg k4, e2]
theorem xa_L {st ln : Nat} {ho pa si li : Int32} {lg ki ru ne nw : Nat → Int32} {ch : Nat → Nat → Int32} (hV : xVc st ln ho pa lg) (hR : xRel (st, ln, ho, pa, si, li, lg, ki, ru, ne, ch) nw) {a1 a2 : Int32} (h : qLi ln a1 a2 = 0) : vLi st ki ru ne ch a1 a2 = v5L st nw a1 a2 := by
  have h3 := hV.2.1
  have h7 := hV.1.2
  have hn : sNL ln a1 = 0 := by
    by_cases q : sNL ln a1 = 0
    · exact q
    · unfold qLi at h; rw [if_neg q] at h; exact absurd h (by decide)
  obtain ⟨k, rfl, hk⟩ := xNL_t (by omega) hn
  obtain ⟨d1, d2, d3, d4⟩ := xLn_t hR hk
  unfold qLi at h
  rw [if_pos hn] at h
  unfold vLi v5L
  rw [nI_clamp (show k < 2 ^ 31 by omega)]
  have eS : xWs (fun i => nw (20 + 16 * k + i)) 0 = xSm (ch k) 12 + ne k := by
    rw [xWs_sum, xSmF_S (fun i => nw (20 + 16 * k + i)) 12]
    try dsimp only
    rw [d3, xSm_ag (f := fun t => nw (20 + 16 * k + (3 + t))) (g := ch k) 12 d4, Int32.add_comm]
  by_cases h0 : a2 = 0
  · rw [if_pos h0, if_neg (by rw [h0]; decide), if_neg (by rw [h0]; decide), h0]; exact d1.symm
  rw [if_neg h0]
  by_cases h1 : a2 = 1
  · rw [if_pos h1, if_neg (by rw [h1]; decide), if_neg (by rw [h1]; decide), h1]; exact d2.symm
  rw [if_neg h1]
  by_cases h2 : a2 = 2
  · rw [if_pos h2, if_neg (by rw [h2]; decide), if_neg (by rw [h2]; decide), h2]; exact d3.symm
  rw [if_neg h2]
  by_cases h3 : a2 = 3
  · rw [if_pos h3, if_pos h3, eS]
  rw [if_neg h3, if_neg h3]
  by_cases h4 : a2 = 4
  · rw [if_pos h4, d1, d2, xRide_s _ _ _ (by omega)]
  · rw [if_neg h0, if_neg h1, if_neg h2, if_neg h3, if_neg h4] at h; exact absurd h (by decide)
theorem xa_C {st ln : Nat} {ho pa si li : Int32} {lg ki ru ne nw : Nat → Int32} {ch : Nat → Nat → Int32} (hV : xVc st ln ho pa lg) (hR : xRel (st, ln, ho, pa, si, li, lg, ki, ru, ne, ch) nw) {a1 a2 : Int32} (h : qCh ln a1 a2 = 0) : vCh ne ch a1 a2 = v5C nw a1 a2 := by
  have h3 := hV.2.1
  have hn : sNL ln a1 = 0 := by
    by_cases q : sNL ln a1 = 0
    · exact q
    · unfold qCh at h; rw [if_neg q] at h; exact absurd h (by decide)
  obtain ⟨k, rfl, hk⟩ := xNL_t (by omega) hn
  obtain ⟨d1, d2, d3, d4⟩ := xLn_t hR hk
  unfold qCh at h
  rw [if_pos hn] at h
  by_cases h1 : a2 < 0
  · rw [if_pos h1] at h; exact absurd h (by decide)
  by_cases h2 : a2 < 12
  · obtain ⟨t, rfl, ht⟩ := xInN (n := 11) (by decide) h1 (fun w => (xq_lt (a := a2) (k := 11) (by decide)).mp w h2)
    have ht12 : ¬ nI t = 12 := fun e => by have := (xnI_inj (a := t) (b := 12) (by omega) (by decide)).mp e; omega
    unfold vCh v5C sWt xWt
    rw [nI_clamp (show k < 2 ^ 31 by omega), nI_clamp (show t < 2 ^ 31 by omega), if_neg ht12, if_neg h1, if_pos h2, if_neg (by omega)]
    exact (d4 t (by omega)).symm
  · rw [if_neg h1, if_neg h2] at h; exact absurd h (by decide)
theorem xa_T {st ln : Nat} {ho pa si li : Int32} {lg ki ru ne nw : Nat → Int32} {ch : Nat → Nat → Int32} (hV : xVc st ln ho pa lg) (hR : xRel (st, ln, ho, pa, si, li, lg, ki, ru, ne, ch) nw) {a1 a2 : Int32} (h : qTh ln st a1 a2 = 0) : vTh st ki ru a1 a2 = v5T st nw a1 a2 := by
  have h3 := hV.2.1
  have h7 := hV.1.2
  have hn : sNL ln a1 = 0 := by
    by_cases q : sNL ln a1 = 0
    · exact q
    · unfold qTh at h; rw [if_neg q] at h; exact absurd h (by decide)
  unfold qTh at h
  rw [if_pos hn] at h
  have hn2 : sNL st a2 = 0 := by
    by_cases q : sNL st a2 = 0
    · exact q
    · rw [if_neg q] at h; exact absurd h (by decide)
  obtain ⟨k, rfl, hk⟩ := xNL_t (by omega) hn
  obtain ⟨j, rfl, hj⟩ := xNL_t (by omega) hn2
  obtain ⟨d1, d2, d3, d4⟩ := xLn_t hR hk
  unfold vTh v5T
  rw [nI_clamp (show k < 2 ^ 31 by omega), nI_clamp (show j < 2 ^ 31 by omega), d1, d2, xRide_s _ _ _ (by omega)]
