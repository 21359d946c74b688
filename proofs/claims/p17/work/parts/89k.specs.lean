/-! both sides hold the same road: refusals, answers -/
theorem xq_lt {a : Int32} {k : Nat} (hk : k + 1 < 2 ^ 31) : nI k < a ↔ ¬ a < nI (k + 1) := by
  rw [xi_lt, xi_lt, nI_toInt (by omega), nI_toInt hk]
  omega
theorem xq_S : q5S = qSt := by
  funext st a1 a2
  unfold q5S qSt
  by_cases h : sNL st a1 = 0
  · rw [if_pos h, if_pos h]
    by_cases h1 : a2 < 0
    · rw [if_pos h1, if_neg (fun e => by rw [e] at h1; exact absurd h1 (by decide)), if_neg (fun e => by rw [e] at h1; exact absurd h1 (by decide)), if_neg (fun e => by rw [e] at h1; exact absurd h1 (by decide))]
    · rw [if_neg h1]
      by_cases h2 : 2 < a2
      · rw [if_pos h2, if_neg (fun e => by rw [e] at h2; exact absurd h2 (by decide)), if_neg (fun e => by rw [e] at h2; exact absurd h2 (by decide)), if_neg (fun e => by rw [e] at h2; exact absurd h2 (by decide))]
      · obtain ⟨k, rfl, hk⟩ := xInN (n := 2) (by decide) h1 h2
        rw [if_neg h2]
        rcases (show k = 0 ∨ k = 1 ∨ k = 2 by omega) with rfl | rfl | rfl <;> decide
  · rw [if_neg h, if_neg h]
theorem xq_L : q5L = qLi := by
  funext ln a1 a2
  unfold q5L qLi
  by_cases h : sNL ln a1 = 0
  · rw [if_pos h, if_pos h]
    by_cases h1 : a2 < 0
    · rw [if_pos h1, if_neg (fun e => by rw [e] at h1; exact absurd h1 (by decide)), if_neg (fun e => by rw [e] at h1; exact absurd h1 (by decide)), if_neg (fun e => by rw [e] at h1; exact absurd h1 (by decide)), if_neg (fun e => by rw [e] at h1; exact absurd h1 (by decide)), if_neg (fun e => by rw [e] at h1; exact absurd h1 (by decide))]
    · rw [if_neg h1]
      by_cases h2 : 4 < a2
      · rw [if_pos h2, if_neg (fun e => by rw [e] at h2; exact absurd h2 (by decide)), if_neg (fun e => by rw [e] at h2; exact absurd h2 (by decide)), if_neg (fun e => by rw [e] at h2; exact absurd h2 (by decide)), if_neg (fun e => by rw [e] at h2; exact absurd h2 (by decide)), if_neg (fun e => by rw [e] at h2; exact absurd h2 (by decide))]
      · obtain ⟨k, rfl, hk⟩ := xInN (n := 4) (by decide) h1 h2
        rw [if_neg h2]
        rcases (show k = 0 ∨ k = 1 ∨ k = 2 ∨ k = 3 ∨ k = 4 by omega) with rfl | rfl | rfl | rfl | rfl <;> decide
  · rw [if_neg h, if_neg h]
theorem xq_C : q5C = qCh := by
  funext ln a1 a2
  unfold q5C qCh
  by_cases h : a2 < 12
  · rw [if_pos h, if_neg (show ¬ (11 : Int32) < a2 from fun w => (xq_lt (a := a2) (k := 11) (by decide)).mp w h)]
  · rw [if_neg h, if_pos (show (11 : Int32) < a2 from (xq_lt (a := a2) (k := 11) (by decide)).mpr h)]
theorem xq_T : q5T = qTh := rfl
theorem xq_Co : q5Co = qCo := by
  funext ln a1 a2 a3 a4
  unfold q5Co qCo
  by_cases h : a3 < 12
  · rw [if_pos h, if_neg (show ¬ (11 : Int32) < a3 from fun w => (xq_lt (a := a3) (k := 11) (by decide)).mp w h)]
  · rw [if_neg h, if_pos (show (11 : Int32) < a3 from (xq_lt (a := a3) (k := 11) (by decide)).mpr h)]
theorem xq_Be : q5Be = qBe := rfl
theorem xq_Bm : q5Bm = qBm := by
  funext ln st a1 a2 a3 a4
  unfold q5Bm qBm sPl
  by_cases h1 : sNL ln a1 = 0
  · rw [if_pos h1, if_pos h1]
    by_cases h2 : sNL st a2 = 0
    · rw [if_pos h2, if_pos h2]
      by_cases h3 : a3 < 0
      · rw [if_pos h3, if_pos h3, if_neg (by decide)]
      · rw [if_neg h3, if_neg h3]
        by_cases h4 : 60 < a3
        · rw [if_pos h4, if_pos h4, if_neg (by decide)]
        · rw [if_neg h4, if_neg h4, if_pos rfl]
    · rw [if_neg h2, if_neg h2, if_neg (by decide)]
  · rw [if_neg h1, if_neg h1, if_neg (by decide)]
theorem xIfC {c : Prop} [Decidable c] {α : Type} {a b d : α} (h : c → a = b) : (if c then a else d) = (if c then b else d) := by
  by_cases q : c
  · rw [if_pos q, if_pos q]; exact h q
  · rw [if_neg q, if_neg q]
theorem xNL_t {n : Nat} {a : Int32} (hn : n < 2 ^ 31) (h : sNL n a = 0) : ∃ k, a = nI k ∧ k < n := by
  unfold sNL at h
  by_cases h1 : a < 0
  · rw [if_pos h1] at h; exact absurd h (by decide)
  · rw [if_neg h1] at h
    by_cases h2 : a < nI n
    · rw [xi_lt] at h1
      rw [xi_lt, nI_toInt hn] at h2
      have z : (0 : Int32).toInt = 0 := by decide
      refine ⟨a.toInt.toNat, ?_, by omega⟩
      rw [xi_eq, nI_toInt (by omega)]
      omega
    · rw [if_neg h2] at h; exact absurd h (by decide)
theorem xnI_inj {a b : Nat} (ha : a < 2 ^ 31) (hb : b < 2 ^ 31) : nI a = nI b ↔ a = b := by
  rw [xi_eq, nI_toInt ha, nI_toInt hb]
  omega
/-- the road's quiet name -/
abbrev xTT (st ln : Nat) (ho pa si li : Int32) (lg ki ru ne : Nat → Int32) (ch : Nat → Nat → Int32) : xT := (st, ln, ho, pa, si, li, lg, ki, ru, ne, ch)
theorem xLm_e {st ln : Nat} {ho pa si li : Int32} {lg ki ru ne nw : Nat → Int32} {ch : Nat → Nat → Int32} (hR : xRel (st, ln, ho, pa, si, li, lg, ki, ru, ne, ch) nw) {i : Nat} (hi : i < st) : xLm nw st (i + 1) = xYd st ho lg i := by
  obtain ⟨-, ⟨b1, -⟩, c, -⟩ := hR
  unfold xLm xYd
  by_cases q : i + 1 < st
  · rw [if_neg (by omega), if_pos q]; exact c (i + 1) q
  · rw [if_pos (by omega), if_neg q]; exact b1
theorem xRs_e {st ln : Nat} {ho pa si li : Int32} {lg ki ru ne nw : Nat → Int32} {ch : Nat → Nat → Int32} (hV : xVc st ln ho pa lg) (hR : xRel (st, ln, ho, pa, si, li, lg, ki, ru, ne, ch) nw) (j : Nat) : xRs nw st j = xWh st ho pa lg j := by
  unfold xRs xWh
  refine xSmF_ag _ (fun i hi => ?_)
  obtain ⟨-, -, ⟨v, e, c1, c2⟩, -⟩ := hV
  have hq : ¬ pa < 1 := by rw [e]; exact mt (nI_ltI (a := v) (b := 1) (by omega) (by decide)).mp (by omega)
  have b2 : nw 2 = pa := hR.2.1.2.1
  try dsimp only
  rw [xLm_e hR (show j + i < st by omega), b2]
  unfold xWy
  rw [if_neg hq]
theorem xa_S {st ln : Nat} {ho pa si li : Int32} {lg ki ru ne nw : Nat → Int32} {ch : Nat → Nat → Int32} (hV : xVc st ln ho pa lg) (hR : xRel (st, ln, ho, pa, si, li, lg, ki, ru, ne, ch) nw) {a1 a2 : Int32} (h : qSt st a1 a2 = 0) : vSt st ho pa lg a1 a2 = v5S st nw a1 a2 := by
  have h7 := hV.1.2
  have hn : sNL st a1 = 0 := by
    by_cases q : sNL st a1 = 0
    · exact q
    · unfold qSt at h; rw [if_neg q] at h; exact absurd h (by decide)
  obtain ⟨k, rfl, hk⟩ := xNL_t (by omega) hn
  unfold vSt v5S
  rw [nI_clamp (by omega), xRs_e hV hR, xRs_e hV hR, hR.2.2.1 k hk]
theorem xa_W {st ln : Nat} {ho pa si li : Int32} {lg ki ru ne nw : Nat → Int32} {ch : Nat → Nat → Int32} (hV : xVc st ln ho pa lg) (hR : xRel (st, ln, ho, pa, si, li, lg, ki, ru, ne, ch) nw) : xWh st ho pa lg 0 = xRs nw st 0 := (xRs_e hV hR 0).symm
theorem xa_B {st ln : Nat} {ho pa si li : Int32} {lg ki ru ne nw : Nat → Int32} {ch : Nat → Nat → Int32} (hV : xVc st ln ho pa lg) (hR : xRel (st, ln, ho, pa, si, li, lg, ki, ru, ne, ch) nw) {a1 a2 : Int32} (h : qBa st a1 a2 = 0) : vBa st ho pa lg a1 a2 = v5B st nw a1 a2 := by
  have h7 := hV.1.2
  have h1 := hV.1.1
  have hn : sNL st a1 = 0 := by
    by_cases q : sNL st a1 = 0
    · exact q
    · unfold qBa at h; rw [if_neg q] at h; exact absurd h (by decide)
  obtain ⟨k, rfl, hk⟩ := xNL_t (by omega) hn
  unfold vBa v5B
  have e : (if nI k = nI (st - 1) then nw 1 else nw (10 + k + 1)) = xYd st ho lg k := by
    rw [← xLm_e hR hk]
    unfold xLm
    by_cases q : k + 1 = st
    · rw [if_pos q, if_pos (by rw [show k = st - 1 by omega])]
    · rw [if_neg q, if_neg (fun w => q (by have := (xnI_inj (by omega) (by omega)).mp w; omega))]
      rfl
  have b2 : nw 2 = pa := hR.2.1.2.1
  rw [nI_clamp (by omega), e, b2]
theorem xa_Cn {st ln : Nat} {ho pa si li : Int32} {lg ki ru ne nw : Nat → Int32} {ch : Nat → Nat → Int32} (hV : xVc st ln ho pa lg) (hR : xRel (st, ln, ho, pa, si, li, lg, ki, ru, ne, ch) nw) (nc : Int32) (len : Nat) (rf : Nat → Int32) (a1 : Int32) : sCnt st ln ho pa si li lg nc len rf a1 = sCnt st ln (nw 1) (nw 2) (nw 4) (nw 5) (fun i => nw (10 + i)) nc len rf a1 := by
  obtain ⟨-, ⟨b1, b2, b4, b5⟩, c, -⟩ := hR
  have e : ∀ n, n < st → xAcc ho (fun i => nw (10 + i)) n = xAcc ho lg n := by
    intro n
    induction n with
    | zero => intro _; rfl
    | succ n ih =>
      intro hn
      simp only [xAcc]
      rw [ih (by omega), c (n + 1) hn]
  have h1 := hV.1.1
  unfold sCnt
  rw [b1, b2, b4, b5, e (st - 1) (by omega)]
theorem xa_Im {st ln : Nat} {ho pa si li : Int32} {lg ki ru ne nw : Nat → Int32} {ch : Nat → Nat → Int32} (hR : xRel (st, ln, ho, pa, si, li, lg, ki, ru, ne, ch) nw) : nI st = nw 0 := hR.1.1.symm
theorem xa_On {st ln : Nat} {ho pa si li : Int32} {lg ki ru ne nw th : Nat → Int32} {ch : Nat → Nat → Int32} (hR : xRel (st, ln, ho, pa, si, li, lg, ki, ru, ne, ch) th) : nI st = xCp th nw 70 0 := hR.1.1.symm
theorem xa_Se {st ln : Nat} {ho pa si li : Int32} {lg ki ru ne nw : Nat → Int32} {ch : Nat → Nat → Int32} (hR : xRel (st, ln, ho, pa, si, li, lg, ki, ru, ne, ch) nw) (a1 : Int32) : sSe ho pa si li a1 = nw (x5Pl a1) := by
  obtain ⟨-, ⟨b1, b2, b4, b5⟩, -⟩ := hR
  unfold sSe x5Pl
  by_cases h0 : a1 = 0
  · rw [if_pos h0, if_pos h0]; exact b1.symm
  rw [if_neg h0, if_neg h0]
  by_cases h1 : a1 = 1
  · rw [if_pos h1, if_pos h1]; exact b2.symm
  rw [if_neg h1, if_neg h1]
  by_cases h2 : a1 = 2
  · rw [if_pos h2, if_pos h2]; exact b4.symm
  rw [if_neg h2, if_neg h2]; exact b5.symm
/-! a line's answers -/
theorem xLn_t {st ln : Nat} {ho pa si li : Int32} {lg ki ru ne nw : Nat → Int32} {ch : Nat → Nat → Int32} (hR : xRel (st, ln, ho, pa, si, li, lg, ki, ru, ne, ch) nw) {k : Nat} (hk : k < ln) : nw (20 + 16 * k) = ki k ∧ nw (20 + 16 * k + 1) = ru k ∧ nw (20 + 16 * k + 2) = ne k ∧ ∀ t, t < 12 → nw (20 + 16 * k + (3 + t)) = ch k t := hR.2.2.2 k hk
theorem xRide_s (ki ru : Int32) : ∀ n : Nat, n < 2 ^ 30 → xSm (fun i => sRd ki ru (nI i)) n = sRide ki ru (nI n)
  | 0, _ => by unfold sRide; rw [if_neg (by decide)]; rfl
  | n + 1, h => by
    have ih := xRide_s ki ru n (by omega)
    simp only [xSm]
    rw [ih]
    have p1 : (0 : Int32) < nI (n + 1) := (nI_ltI (a := 0) (b := n + 1) (by decide) (by omega)).mpr (by omega)
    have e1 : nI (n + 1) = nI n + 1 := (nI_1 n).symm
    have e2 : ∀ x : Int32, (nI n + 1) * x = nI n * x + x := fun x => by rw [Int32.add_mul, Int32.one_mul]
    unfold sRide sRd
    rw [if_pos p1]
    by_cases h0 : n = 0
    · subst h0
      rw [if_neg (show ¬ (0 : Int32) < nI 0 by decide), if_pos (show nI 0 = 0 by decide), show nI (0 + 1) = 1 by decide]
      by_cases k1 : ki = 1
      · rw [if_pos k1, if_pos k1, Int32.zero_add, Int32.one_mul]
      rw [if_neg k1, if_neg k1]
      by_cases k3 : ki = 3
      · rw [if_pos k3, if_pos k3, Int32.zero_add, Int32.one_mul, Int32.add_assoc]; rfl
      rw [if_neg k3, if_neg k3]
      by_cases k4 : ki = 4
      · rw [if_pos k4, if_pos k4, Int32.zero_add, Int32.one_mul]
      rw [if_neg k4, if_neg k4, Int32.zero_add, Int32.one_mul]
    · have p0 : (0 : Int32) < nI n := (nI_ltI (a := 0) (b := n) (by decide) (by omega)).mpr (by omega)
      rw [if_pos p0, if_neg (nI_ne0 (by omega) (by omega)), e1]
      by_cases k1 : ki = 1
      · rw [if_pos k1, if_pos k1, if_pos k1, e2]
      rw [if_neg k1, if_neg k1, if_neg k1]
      by_cases k3 : ki = 3
      · rw [if_pos k3, if_pos k3, if_pos k3, e2, Int32.add_assoc, Int32.add_comm 5, ← Int32.add_assoc]
      rw [if_neg k3, if_neg k3, if_neg k3]
      by_cases k4 : ki = 4
      · rw [if_pos k4, if_pos k4, if_pos k4, e2]
      rw [if_neg k4, if_neg k4, if_neg k4, e2]
theorem xa_L {st ln : Nat} {ho pa si li : Int32} {lg ki ru ne nw : Nat → Int32} {ch : Nat → Nat → Int32} (hV : xVc st ln ho pa lg) (hR : xRel (st, ln, ho, pa, si, li, lg, ki, ru, ne, ch) nw) {a1 a2 : Int32} (h : qLi ln a1 a2 = 0) : vLi st ki ru ne ch a1 a2 = v5L st nw a1 a2 := by
  have h3 := hV.2.1
  have h7 := hV.1.2
  have hn : sNL ln a1 = 0 := by
    by_cases q : sNL ln a1 = 0
    · exact q
    · unfold qLi at h; rw [if_neg q] at h; exact absurd h (by decide)
  obtain ⟨k, rfl, hk⟩ := xNL_t (by omega) hn
  obtain ⟨d1, d2, d3, d4⟩ := xLn_t hR hk
  unfold qLi at h
  rw [if_pos hn] at h
  unfold vLi v5L
  rw [nI_clamp (show k < 2 ^ 31 by omega)]
  have eS : xWs (fun i => nw (20 + 16 * k + i)) 0 = xSm (ch k) 12 + ne k := by
    rw [xWs_sum, xSmF_S (fun i => nw (20 + 16 * k + i)) 12]
    try dsimp only
    rw [d3, xSm_ag (f := fun t => nw (20 + 16 * k + (3 + t))) (g := ch k) 12 d4, Int32.add_comm]
  by_cases h0 : a2 = 0
  · rw [if_pos h0, if_neg (by rw [h0]; decide), if_neg (by rw [h0]; decide), h0]; exact d1.symm
  rw [if_neg h0]
  by_cases h1 : a2 = 1
  · rw [if_pos h1, if_neg (by rw [h1]; decide), if_neg (by rw [h1]; decide), h1]; exact d2.symm
  rw [if_neg h1]
  by_cases h2 : a2 = 2
  · rw [if_pos h2, if_neg (by rw [h2]; decide), if_neg (by rw [h2]; decide), h2]; exact d3.symm
  rw [if_neg h2]
  by_cases h3 : a2 = 3
  · rw [if_pos h3, if_pos h3, eS]
  rw [if_neg h3, if_neg h3]
  by_cases h4 : a2 = 4
  · rw [if_pos h4, d1, d2, xRide_s _ _ _ (by omega)]
  · rw [if_neg h0, if_neg h1, if_neg h2, if_neg h3, if_neg h4] at h; exact absurd h (by decide)
theorem xa_C {st ln : Nat} {ho pa si li : Int32} {lg ki ru ne nw : Nat → Int32} {ch : Nat → Nat → Int32} (hV : xVc st ln ho pa lg) (hR : xRel (st, ln, ho, pa, si, li, lg, ki, ru, ne, ch) nw) {a1 a2 : Int32} (h : qCh ln a1 a2 = 0) : vCh ne ch a1 a2 = v5C nw a1 a2 := by
  have h3 := hV.2.1
  have hn : sNL ln a1 = 0 := by
    by_cases q : sNL ln a1 = 0
    · exact q
    · unfold qCh at h; rw [if_neg q] at h; exact absurd h (by decide)
  obtain ⟨k, rfl, hk⟩ := xNL_t (by omega) hn
  obtain ⟨d1, d2, d3, d4⟩ := xLn_t hR hk
  unfold qCh at h
  rw [if_pos hn] at h
  by_cases h1 : a2 < 0
  · rw [if_pos h1] at h; exact absurd h (by decide)
  by_cases h2 : a2 < 12
  · obtain ⟨t, rfl, ht⟩ := xInN (n := 11) (by decide) h1 (fun w => (xq_lt (a := a2) (k := 11) (by decide)).mp w h2)
    have ht12 : ¬ nI t = 12 := fun e => by have := (xnI_inj (a := t) (b := 12) (by omega) (by decide)).mp e; omega
    unfold vCh v5C sWt xWt
    rw [nI_clamp (show k < 2 ^ 31 by omega), nI_clamp (show t < 2 ^ 31 by omega), if_neg ht12, if_neg h1, if_pos h2, if_neg (by omega)]
    exact (d4 t (by omega)).symm
  · rw [if_neg h1, if_neg h2] at h; exact absurd h (by decide)
theorem xa_T {st ln : Nat} {ho pa si li : Int32} {lg ki ru ne nw : Nat → Int32} {ch : Nat → Nat → Int32} (hV : xVc st ln ho pa lg) (hR : xRel (st, ln, ho, pa, si, li, lg, ki, ru, ne, ch) nw) {a1 a2 : Int32} (h : qTh ln st a1 a2 = 0) : vTh st ki ru a1 a2 = v5T st nw a1 a2 := by
  have h3 := hV.2.1
  have h7 := hV.1.2
  have hn : sNL ln a1 = 0 := by
    by_cases q : sNL ln a1 = 0
    · exact q
    · unfold qTh at h; rw [if_neg q] at h; exact absurd h (by decide)
  unfold qTh at h
  rw [if_pos hn] at h
  have hn2 : sNL st a2 = 0 := by
    by_cases q : sNL st a2 = 0
    · exact q
    · rw [if_neg q] at h; exact absurd h (by decide)
  obtain ⟨k, rfl, hk⟩ := xNL_t (by omega) hn
  obtain ⟨j, rfl, hj⟩ := xNL_t (by omega) hn2
  obtain ⟨d1, d2, d3, d4⟩ := xLn_t hR hk
  unfold vTh v5T
  rw [nI_clamp (show k < 2 ^ 31 by omega), nI_clamp (show j < 2 ^ 31 by omega), d1, d2, xRide_s _ _ _ (by omega)]

/-! both sides hold the same road: what the calls leave -/
theorem xRel_ag {T T' : xT} {nw : Nat → Int32} (h : xRel T nw) (h1 : T'.1 = T.1) (h2 : T'.2.1 = T.2.1) (h3 : T'.2.2.1 = T.2.2.1) (h4 : T'.2.2.2.1 = T.2.2.2.1) (h5 : T'.2.2.2.2.1 = T.2.2.2.2.1) (h6 : T'.2.2.2.2.2.1 = T.2.2.2.2.2.1) (h7 : ∀ j, j < T.1 → T'.2.2.2.2.2.2.1 j = T.2.2.2.2.2.2.1 j) (h8 : T'.2.2.2.2.2.2.2.1 = T.2.2.2.2.2.2.2.1) (h9 : T'.2.2.2.2.2.2.2.2.1 = T.2.2.2.2.2.2.2.2.1) (h10 : T'.2.2.2.2.2.2.2.2.2.1 = T.2.2.2.2.2.2.2.2.2.1) (h11 : ∀ j t, t < 12 → T'.2.2.2.2.2.2.2.2.2.2 j t = T.2.2.2.2.2.2.2.2.2.2 j t) : xRel T' nw := by
  obtain ⟨⟨a1, a2⟩, ⟨b1, b2, b3, b4⟩, c, d⟩ := h
  refine ⟨⟨a1.trans (by rw [h1]), a2.trans (by rw [h2])⟩, ⟨b1.trans h3.symm, b2.trans h4.symm, b3.trans h5.symm, b4.trans h6.symm⟩, fun j hj => ?_, fun j hj => ?_⟩
  · rw [h1] at hj
    exact (c j hj).trans (h7 j hj).symm
  · rw [h2] at hj
    obtain ⟨d1, d2, d3, d4⟩ := d j hj
    exact ⟨d1.trans (by rw [h8]), d2.trans (by rw [h9]), d3.trans (by rw [h10]), fun t ht => (d4 t ht).trans (h11 j t ht).symm⟩
/-- the same road copied over another -/
theorem xRel_cy {st ln : Nat} {ho pa si li : Int32} {lg ki ru ne g nw : Nat → Int32} {ch gh : Nat → Nat → Int32} (h7 : st ≤ 7) (h : xRel (st, ln, ho, pa, si, li, lg, ki, ru, ne, ch) nw) : xRel (st, ln, ho, pa, si, li, va_cpy lg g 0 0 7, ki, ru, ne, fun j => va_cpy (ch j) (gh j) 0 0 12) nw :=
  xRel_ag h rfl rfl rfl rfl rfl rfl (fun j hj => xCpy_lo (show j < 7 from Nat.lt_of_lt_of_le hj h7)) rfl rfl rfl (fun j t ht => xCpy_lo ht)
theorem xRel_uc {st ln : Nat} {ho pa si li : Int32} {lg ki ru ne g nw : Nat → Int32} {ch gh : Nat → Nat → Int32} (h7 : st ≤ 7) (h : xRel (st, ln, ho, pa, si, li, va_cpy lg g 0 0 7, ki, ru, ne, fun j => va_cpy (ch j) (gh j) 0 0 12) nw) : xRel (st, ln, ho, pa, si, li, lg, ki, ru, ne, ch) nw :=
  xRel_ag h rfl rfl rfl rfl rfl rfl (fun j hj => (xCpy_lo (show j < 7 from Nat.lt_of_lt_of_le hj h7)).symm) rfl rfl rfl (fun j t ht => (xCpy_lo ht).symm)
/-- what a read road leaves -/
theorem xRel_ip {R : xT × Int32} {st ln : Nat} {ho pa si li : Int32} {lg ki ru ne g nw : Nat → Int32} {ch gh : Nat → Nat → Int32} (h7 : st ≤ 7) (hR7 : R.1.1 ≤ 7) (h : xRel (xIp R.2 R.1 (st, ln, ho, pa, si, li, va_cpy lg g 0 0 7, ki, ru, ne, fun j => va_cpy (ch j) (gh j) 0 0 12)) nw) :
    xRel (xIp R.2 R.1.1 st, xIp R.2 R.1.2.1 ln, xIp R.2 R.1.2.2.1 ho, xIp R.2 R.1.2.2.2.1 pa, xIp R.2 R.1.2.2.2.2.1 si, xIp R.2 R.1.2.2.2.2.2.1 li, xIp R.2 (va_cpy R.1.2.2.2.2.2.2.1 lg 0 0 7) lg, xIp R.2 R.1.2.2.2.2.2.2.2.1 ki, xIp R.2 R.1.2.2.2.2.2.2.2.2.1 ru, xIp R.2 R.1.2.2.2.2.2.2.2.2.2.1 ne, xIp R.2 (fun j => va_cpy (R.1.2.2.2.2.2.2.2.2.2.2 j) (ch j) 0 0 12) ch) nw := by
  obtain ⟨T, a⟩ := R
  dsimp only at hR7 h ⊢
  by_cases q : 0 < a
  · simp only [xIp, if_pos q] at h ⊢
    exact xRel_cy (g := lg) (gh := ch) hR7 h
  · simp only [xIp, if_neg q] at h ⊢
    exact xRel_uc h7 h
theorem xVd_ip {R : xT × Int32} {st ln : Nat} {ho pa si li : Int32} {lg ki ru ne nw : Nat → Int32} {ch : Nat → Nat → Int32} (h : xVd nw (xIp R.2 R.1 (st, ln, ho, pa, si, li, lg, ki, ru, ne, ch)).1 (xIp R.2 R.1 (st, ln, ho, pa, si, li, lg, ki, ru, ne, ch)).2.1) : xVd nw (xIp R.2 R.1.1 st) (xIp R.2 R.1.2.1 ln) := by
  by_cases q : 0 < R.2
  · rw [xIp_p q] at h ⊢; rw [xIp_p q]; exact h
  · rw [xIp_n q] at h ⊢; rw [xIp_n q]; exact h
/-- a value set -/
theorem xRel_se {st ln : Nat} {ho pa si li : Int32} {lg ki ru ne nw : Nat → Int32} {ch : Nat → Nat → Int32} (a1 a2 : Int32) (h : xRel (st, ln, ho, pa, si, li, lg, ki, ru, ne, ch) nw) : xRel (st, ln, xIf (qSe a1 a2) (xCg a1 a2 0 ho) ho, xIf (qSe a1 a2) (xCg a1 a2 1 pa) pa, xIf (qSe a1 a2) (xCg a1 a2 2 si) si, xIf (qSe a1 a2) (xCl a1 a2 li) li, lg, ki, ru, ne, ch) (x5Se nw a1 a2) := by
  unfold x5Se xIf
  by_cases q : qSe a1 a2 = 0
  · rw [if_pos q, if_pos q, if_pos q, if_pos q, if_pos q]
    obtain ⟨q1, q2⟩ := qSe_0 q
    rw [xCg_ok q1 q2, xCg_ok q1 q2, xCg_ok q1 q2, xCl_ok q1 q2]
    have b := h.2.1
    unfold x5Pl
    by_cases h0 : a1 = 0
    · rw [if_pos h0, if_pos h0, if_pos h0, if_neg (by rw [h0]; decide), if_neg (by rw [h0]; decide)]
      exact xRel_u h (fun i hi => pk_un (by omega)) pk_us ((pk_un (by decide)).trans b.2.1) ((pk_un (by decide)).trans b.2.2.1) ((pk_un (by decide)).trans b.2.2.2)
    rw [if_neg h0, if_neg h0, if_neg h0]
    by_cases h1 : a1 = 1
    · rw [if_pos h1, if_pos h1, if_pos h1, if_neg (by rw [h1]; decide)]
      exact xRel_u h (fun i hi => pk_un (by omega)) ((pk_un (by decide)).trans b.1) pk_us ((pk_un (by decide)).trans b.2.2.1) ((pk_un (by decide)).trans b.2.2.2)
    rw [if_neg h1, if_neg h1, if_neg h1]
    by_cases h2 : a1 = 2
    · rw [if_pos h2, if_pos h2, if_pos h2]
      exact xRel_u h (fun i hi => pk_un (by omega)) ((pk_un (by decide)).trans b.1) ((pk_un (by decide)).trans b.2.1) pk_us ((pk_un (by decide)).trans b.2.2.2)
    rw [if_neg h2, if_neg h2, if_neg h2]
    exact xRel_u h (fun i hi => pk_un (by omega)) ((pk_un (by decide)).trans b.1) ((pk_un (by decide)).trans b.2.1) ((pk_un (by decide)).trans b.2.2.1) pk_us
  · rw [if_neg q, if_neg q, if_neg q, if_neg q, if_neg q]; exact h
/-- the image, and on from it -/
theorem xRel_cp {st ln : Nat} {ho pa si li : Int32} {lg ki ru ne g f th : Nat → Int32} {ch gh : Nat → Nat → Int32} (h7 : st ≤ 7) (h3 : ln ≤ 3) (h : xRel (st, ln, ho, pa, si, li, lg, ki, ru, ne, ch) f) : xRel (st, ln, ho, pa, si, li, va_cpy lg g 0 0 7, ki, ru, ne, fun j => va_cpy (ch j) (gh j) 0 0 12) (xCp f th 70) := by
  obtain ⟨⟨a1, a2⟩, ⟨b1, b2, b3, b4⟩, c, d⟩ := xRel_cy (g := g) (gh := gh) h7 h
  have e : ∀ i, i < 70 → xCp f th 70 i = f i := fun i hi => if_pos hi
  refine ⟨⟨(e 0 (by decide)).trans a1, (e 3 (by decide)).trans a2⟩, ⟨(e 1 (by decide)).trans b1, (e 2 (by decide)).trans b2, (e 4 (by decide)).trans b3, (e 5 (by decide)).trans b4⟩, fun j hj => ?_, fun j hj => ?_⟩
  · have hj' : j < st := hj
    exact (e _ (by omega)).trans (c j hj)
  · have hj' : j < ln := hj
    obtain ⟨d1, d2, d3, d4⟩ := d j hj
    exact ⟨(e _ (by omega)).trans d1, (e _ (by omega)).trans d2, (e _ (by omega)).trans d3, fun t ht => (e _ (by omega)).trans (d4 t ht)⟩
/-- a letter told -/
theorem xByt_le {lt : Nat → Int32} {len : Nat} (a : Int32) (h : xByt lt len) : xByt (if qLe len a = 0 then xLt lt len a else lt) (if qLe len a = 0 then xLn len else len) := by
  by_cases q : qLe len a = 0
  · rw [if_pos q, if_pos q]
    unfold qLe at q
    by_cases h1 : a < 0
    · rw [if_pos h1] at q; exact absurd q (by decide)
    rw [if_neg h1] at q
    by_cases h2 : 255 < a
    · rw [if_pos h2] at q; exact absurd q (by decide)
    obtain ⟨k, rfl, hk⟩ := xInN (n := 255) (by decide) h1 h2
    unfold xLt xLn
    by_cases h3 : len < 96
    · rw [if_pos h3, if_pos h3]
      intro i hi
      by_cases r : i = len
      · subst r; exact ⟨k, pk_us, hk⟩
      · rw [pk_un r]; exact h i (by omega)
    · rw [if_neg h3, if_neg h3]; exact h
  · rw [if_neg q, if_neg q]; exact h
theorem xByt_0 (lt : Nat → Int32) : xByt lt 0 := fun i h => absurd h (Nat.not_lt_zero i)

/-! both sides hold the same road: goers, rules, rows judged -/
theorem xSy_e (li a2 a3 : Int32) {i : Nat} (hi : i < 2 ^ 31) : sWait li a2 a3 (nI i) = sSy li a2 a3 (nI i) := by
  unfold sWait sSy
  by_cases h : i = 0
  · subst h
    rw [if_neg (show ¬ (0 : Int32) < nI 0 by decide), if_pos (show nI 0 = 0 by decide), if_pos (show nI 0 = 0 by decide), if_pos (show nI 0 = 0 by decide)]
  · have p : (0 : Int32) < nI i := (nI_ltI (a := 0) (b := i) (by decide) hi).mpr (by omega)
    have z : ¬ nI i = 0 := nI_ne0 (by omega) hi
    rw [if_pos p, if_neg z, if_neg z, if_neg z]
    by_cases h0 : a2 = 0
    · rw [if_pos h0, if_neg (by rw [h0]; decide)]
    rw [if_neg h0]
    by_cases h3 : a2 = 3
    · rw [if_pos h3, if_neg (by rw [h3]; decide)]
    rw [if_neg h3]
theorem xGo_ag {t : Int32} {rd rd' wt wt' wy wy' hl hl' : Nat → Int32} {lk hm fl : Int32} : ∀ (n k : Nat) (mi : Int32), (∀ i, k ≤ i → i < k + n → rd i = rd' i ∧ wt i = wt' i ∧ wy i = wy' i ∧ hl i = hl' i) → xGo t rd wt wy hl lk hm fl n k mi = xGo t rd' wt' wy' hl' lk hm fl n k mi
  | 0, _, _, _ => rfl
  | n + 1, k, mi, h => by
    obtain ⟨e1, e2, e3, e4⟩ := h k (Nat.le_refl k) (by omega)
    simp only [xGo]
    rw [e1, e2, e3, e4, xGo_ag n (k + 1) _ (fun i h1 h2 => h i (by omega) (by omega))]
theorem xGh_e {st ln : Nat} {ho pa si li : Int32} {lg ki ru ne nw : Nat → Int32} {ch : Nat → Nat → Int32} (hV : xVc st ln ho pa lg) (hR : xRel (st, ln, ho, pa, si, li, lg, ki, ru, ne, ch) nw) {k : Nat} (hk : k < ln) (a2 a3 t : Int32) : xGh st ho pa si li lg (ki k) (ru k) a2 a3 t = xHo st nw (20 + 16 * k) a2 a3 t := by
  obtain ⟨d1, d2, -⟩ := xLn_t hR hk
  have h1 := hV.1.1
  have h7 := hV.1.2
  obtain ⟨-, -, ⟨v, e, c1, c2⟩, -⟩ := hV
  obtain ⟨-, ⟨b1, b2, b4, b5⟩, -⟩ := id hR
  have b1 : nw 1 = ho := b1
  have b2 : nw 2 = pa := b2
  have b4 : nw 4 = si := b4
  have b5 : nw 5 = li := b5
  have hq : ¬ xPc2 pa a2 < 1 := by
    unfold xPc2
    split
    · rw [e, show (2 : Int32) * nI v = nI (2 * v) from pk_mul 2 v]; exact mt (nI_ltI (a := 2 * v) (b := 1) (by omega) (by decide)).mp (by omega)
    · rw [e]; exact mt (nI_ltI (a := v) (b := 1) (by omega) (by decide)).mp (by omega)
  have w : ∀ i, i < st → xWy (xYd st ho lg i) (xPc2 pa a2) = (xLm nw st (i + 1) + xPc2 (nw 2) a2 - 1) / xPc2 (nw 2) a2 := fun i hi => by
    rw [xLm_e hR hi, b2]
    unfold xWy
    rw [if_neg hq]
  have wl : xWy (xYd st ho lg (st - 1)) (xPc2 pa a2) = (xLm nw st st + xPc2 (nw 2) a2 - 1) / xPc2 (nw 2) a2 := by
    have q := w (st - 1) (by omega)
    rw [show st - 1 + 1 = st by omega] at q
    exact q
  unfold xGh xHo
  rw [d1, d2, b4, b5, wl, xRide_s (ki k) (ru k) (st - 1) (by omega)]
  exact xGo_ag (st - 1) 0 0 (fun i _ hi => ⟨(xRide_s (ki k) (ru k) i (by omega)).symm, xSy_e li a2 a3 (by omega), w i (by omega), rfl⟩)
theorem xa_H {st ln : Nat} {ho pa si li : Int32} {lg ki ru ne nw : Nat → Int32} {ch : Nat → Nat → Int32} (hV : xVc st ln ho pa lg) (hR : xRel (st, ln, ho, pa, si, li, lg, ki, ru, ne, ch) nw) {a1 a2 a3 a4 a5 : Int32} (h : sGo ln a1 a2 a3 a4 a5 = 0) : vHo st ho pa si li lg ki ru a1 a2 a3 a4 = v5H st nw a1 a2 a3 a4 := by
  have h3 := hV.2.1
  have hn : sNL ln a1 = 0 := by
    by_cases q : sNL ln a1 = 0
    · exact q
    · unfold sGo at h; rw [if_neg q] at h; exact absurd h (by decide)
  obtain ⟨k, rfl, hk⟩ := xNL_t (by omega) hn
  unfold vHo v5H
  rw [nI_clamp (by omega)]
  exact xGh_e hV hR hk a2 a3 a4
/-- a chance, both ways -/
theorem xWt_e {st ln : Nat} {ho pa si li : Int32} {lg ki ru ne nw : Nat → Int32} {ch : Nat → Nat → Int32} (hR : xRel (st, ln, ho, pa, si, li, lg, ki, ru, ne, ch) nw) {k t : Nat} (hk : k < ln) (ht : t < 13) : sWt (ne k) (ch k) (nI t) = xWt (fun j => nw (20 + 16 * k + j)) t := by
  obtain ⟨d1, d2, d3, d4⟩ := xLn_t hR hk
  unfold sWt xWt
  by_cases h : t = 12
  · rw [if_pos h, if_pos (by rw [h]; decide)]; exact d3.symm
  · rw [if_neg h, if_neg (show ¬ nI t = 12 from fun e => h ((xnI_inj (a := t) (b := 12) (by omega) (by decide)).mp e)), if_neg (nI_pos (by omega)), if_pos (show nI t < 12 from (nI_ltI (a := t) (b := 12) (by omega) (by decide)).mpr (by omega)), nI_clamp (by omega)]
    exact (d4 t (by omega)).symm
theorem xHS_e {st ln : Nat} {ho pa si li : Int32} {lg ki ru ne nw : Nat → Int32} {ch : Nat → Nat → Int32} (hV : xVc st ln ho pa lg) (hR : xRel (st, ln, ho, pa, si, li, lg, ki, ru, ne, ch) nw) {k : Nat} (hk : k < ln) (a2 a3 : Int32) : xHSum st ho pa si li lg (ki k) (ru k) (ne k) (ch k) a2 a3 = x5S st nw (20 + 16 * k) a2 a3 := by
  unfold xHSum x5S
  exact xSm_ag 13 (fun i hi => by rw [xWt_e hR hk hi, xGh_e hV hR hk])
theorem xBst_e {f : Nat → Int32} {g : Int32 → Int32} : ∀ n, n < 2 ^ 31 → (∀ i, i ≤ n → f i = g (nI i)) → (xBst f n).2 = xBs5 g n ∧ (xBst f n).1 = g (xBs5 g n)
  | 0, _, h => ⟨rfl, h 0 (Nat.le_refl 0)⟩
  | n + 1, hn, h => by
    obtain ⟨i1, i2⟩ := xBst_e n (by omega) (fun i hi => h i (by omega))
    have e := h (n + 1) (Nat.le_refl _)
    simp only [xBst, xBs5]
    rw [i2, e]
    by_cases q : g (nI (n + 1)) < g (xBs5 g n)
    · rw [if_pos q, if_pos q]; exact ⟨rfl, rfl⟩
    · rw [if_neg q, if_neg q]; exact ⟨i1, i2⟩
theorem xa_Ru {st ln : Nat} {ho pa si li : Int32} {lg ki ru ne nw : Nat → Int32} {ch : Nat → Nat → Int32} (hV : xVc st ln ho pa lg) (hR : xRel (st, ln, ho, pa, si, li, lg, ki, ru, ne, ch) nw) {a1 : Int32} (h : qRu ln a1 = 0) : vRu st ho pa si li lg ki ru ne ch a1 = v5Ru st nw a1 := by
  have h3 := hV.2.1
  have hn : sNL ln a1 = 0 := by
    by_cases q : sNL ln a1 = 0
    · exact q
    · unfold qRu at h; rw [if_neg q] at h; exact absurd h (by decide)
  obtain ⟨k, rfl, hk⟩ := xNL_t (by omega) hn
  unfold vRu v5Ru
  rw [nI_clamp (by omega)]
  exact (xBst_e 12 (by decide) (fun i _ => xHS_e hV hR hk 3 (nI i))).1
theorem xJb_e {st ln : Nat} {ho pa si li : Int32} {lg ki ru ne nw : Nat → Int32} {ch : Nat → Nat → Int32} (hV : xVc st ln ho pa lg) (hR : xRel (st, ln, ho, pa, si, li, lg, ki, ru, ne, ch) nw) (nf : Nat → Int32) {n : Nat} (hn : n < 2 ^ 31) : xJb st ho pa lg nf n = x5Jb st nw nf n := by
  have h7 := hV.1.2
  unfold xJb x5Jb
  by_cases h0 : 0 < n
  · by_cases h1 : n < st
    · have e0 : sNL st (nI n) = 0 := by unfold sNL; rw [if_neg (nI_pos hn), if_pos ((nI_ltI hn (by omega)).mpr h1)]
      obtain ⟨-, -, ⟨v, e, c1, c2⟩, -⟩ := hV
      have b2 : nw 2 = pa := hR.2.1.2.1
      have hq : ¬ pa < 1 := by rw [e]; exact mt (nI_ltI (a := v) (b := 1) (by omega) (by decide)).mp (by omega)
      have w : xWy (xYd st ho lg (n - 1)) pa = (xLm nw st n + nw 2 - 1) / nw 2 := by
        have q := xLm_e hR (show n - 1 < st by omega)
        rw [show n - 1 + 1 = n by omega] at q
        rw [← q, b2]
        unfold xWy
        rw [if_neg hq]
      rw [w, decide_eq_true e0, decide_eq_true h1]
    · have e0 : ¬ sNL st (nI n) = 0 := by unfold sNL; rw [if_neg (nI_pos hn), if_neg (mt (nI_ltI hn (by omega)).mp h1)]; decide
      rw [decide_eq_false e0, decide_eq_false h1, Bool.not_false, Bool.true_or, Bool.true_or]
  · rw [decide_eq_false h0, Bool.false_and, Bool.false_and]
theorem xJu_first {b : Nat → Bool} : ∀ {n j : Nat}, j < n → b j = true → (∀ i, i < j → b i = false) → j < 2 ^ 31 → xJu b n = nI j
  | 0, j, h, _, _, _ => absurd h (Nat.not_lt_zero j)
  | n + 1, j, h, hb, hf, hj => by
    by_cases q : j = n
    · subst q
      have e : xJu b j = -9 := by
        have key : ∀ m, m ≤ j → xJu b m = -9 := by
          intro m
          induction m with
          | zero => intro _; rfl
          | succ m ih => intro hm; exact xJu_f (ih (by omega)) (hf m (by omega))
        exact key j (Nat.le_refl j)
      exact xJu_t e hb
    · have ih := xJu_first (n := n) (show j < n by omega) hb hf hj
      have hne : ¬ xJu b n = -9 := by
        rw [ih, xi_eq, nI_toInt hj]
        have z : (-9 : Int32).toInt = -9 := by decide
        omega
      simp only [xJu]
      rw [if_neg hne, ih]
theorem xJu_none {b : Nat → Bool} : ∀ {n : Nat}, (∀ i, i < n → b i = false) → xJu b n = -9
  | 0, _ => rfl
  | n + 1, h => xJu_f (xJu_none (fun i hi => h i (by omega))) (h n (by omega))
theorem x5D_e {b : Nat → Bool} {cn : Nat} (hc : cn ≤ 12) : ∀ n, n ≤ cn → (∀ i, i < cn - n → b i = false) → x5D b cn n = xJu b cn
  | 0, _, h => (xJu_none (fun i hi => h i (by omega))).symm
  | n + 1, hn, h => by
    by_cases q : b (cn - n - 1) = true
    · rw [← x5D_t q]
      exact (xJu_first (show cn - n - 1 < cn by omega) q (fun i hi => h i (by omega)) (by omega)).symm
    · have q : b (cn - n - 1) = false := by simpa using q
      rw [← x5D_f q]
      exact x5D_e hc n (by omega) (fun i hi => by
        by_cases r : i = cn - n - 1
        · rw [r]; exact q
        · exact h i (by omega))
theorem xJu_ag {b b' : Nat → Bool} : ∀ n, (∀ i, i < n → b i = b' i) → xJu b n = xJu b' n
  | 0, _ => rfl
  | n + 1, h => by simp only [xJu]; rw [xJu_ag n (fun i hi => h i (by omega)), h n (by omega)]
theorem xa_J {st ln cn : Nat} {ho pa si li : Int32} {lg ki ru ne nw : Nat → Int32} {ch : Nat → Nat → Int32} (hV : xVc st ln ho pa lg) (hR : xRel (st, ln, ho, pa, si, li, lg, ki, ru, ne, ch) nw) (nf : Nat → Int32) (hc : cn ≤ 12) : xJu (xJb st ho pa lg nf) cn = x5D (x5Jb st nw nf) cn cn := by
  rw [x5D_e hc cn (Nat.le_refl _) (fun i hi => absurd hi (by omega))]
  exact xJu_ag cn (fun i hi => xJb_e hV hR nf (by omega))

/-! a fraction's part, both ways -/
def xeu : Nat → Nat → Nat → Nat
  | 0, d, _ => d
  | n + 1, d, r => if r = 0 then d else xeu n r (d % r)
theorem xgcd_s (d r : Nat) : Nat.gcd d r = Nat.gcd r (d % r) := (Nat.gcd_comm d r).trans ((Nat.gcd_rec r d).trans (Nat.gcd_comm _ _))
theorem xeu_gcd : ∀ (k d r : Nat), r < 2 ^ k → xeu (2 * k) d r = Nat.gcd d r
  | 0, d, r, h => by
    obtain rfl : r = 0 := by simpa using h
    rw [Nat.gcd_zero_right]
    rfl
  | k + 1, d, r, h => by
    rw [show 2 * (k + 1) = (2 * k + 1) + 1 by omega]
    simp only [xeu]
    by_cases h0 : r = 0
    · rw [if_pos h0, h0, Nat.gcd_zero_right]
    rw [if_neg h0]
    by_cases h1 : d % r = 0
    · rw [if_pos h1, xgcd_s, h1, Nat.gcd_zero_right]
    rw [if_neg h1, xgcd_s d r, xgcd_s r (d % r)]
    have hs : d % r < r := Nat.mod_lt _ (by omega)
    generalize d % r = s at h1 hs ⊢
    refine xeu_gcd k _ _ ?_
    have hp : 2 * (r % s) < r := by
      have e := Nat.div_add_mod r s
      have l := Nat.mod_lt r (show 0 < s by omega)
      have q : 1 ≤ r / s := Nat.div_pos (by omega) (by omega)
      have m : s * 1 ≤ s * (r / s) := Nat.mul_le_mul_left s q
      generalize s * (r / s) = z at e m
      omega
    have e2 : 2 ^ (k + 1) = 2 ^ k * 2 := Nat.pow_succ 2 k
    omega
theorem xeu_f : ∀ (k d r : Nat), r ≤ k → xeu k d r = Nat.gcd d r
  | 0, d, r, h => by
    obtain rfl : r = 0 := by omega
    rw [Nat.gcd_zero_right]
    rfl
  | k + 1, d, r, h => by
    simp only [xeu]
    by_cases h0 : r = 0
    · rw [if_pos h0, h0, Nat.gcd_zero_right]
    · rw [if_neg h0, xgcd_s d r]
      have hs : d % r < r := Nat.mod_lt _ (by omega)
      exact xeu_f k r (d % r) (by omega)
theorem xGl_n : ∀ (k d r : Nat), d < 2 ^ 31 → r < 2 ^ 31 → xGl k (nI d) (nI r) = nI (xeu k d r)
  | 0, _, _, _, _ => rfl
  | k + 1, d, r, hd, hr => by
    simp only [xGl, xeu]
    by_cases h0 : r = 0
    · rw [if_pos h0, if_neg (by rw [h0]; decide)]
    · rw [if_neg h0, if_pos (show 0 < nI r from (nI_ltI (a := 0) (b := r) (by decide) hr).mpr (by omega)), pk_rem hd (by omega) hr]
      exact xGl_n k r (d % r) hr (Nat.lt_trans (Nat.mod_lt _ (by omega)) hr)
theorem xGL_n : ∀ (k : Nat) (a b : Int64) (m n : Nat), a.toInt = m → b.toInt = n → (xGL k a b).toInt = (xeu k m n : Nat)
  | 0, _, _, _, _, ha, _ => ha
  | k + 1, a, b, m, n, ha, hb => by
    simp only [xGL, xeu]
    have e0 : (0 : Int64).toInt = 0 := by decide
    by_cases h0 : n = 0
    · rw [if_pos h0, if_pos (show b = 0 from Int64.toInt_inj.mp (by rw [hb, h0, e0]; rfl))]; exact ha
    · rw [if_neg h0, if_neg (show ¬ b = 0 from fun e => h0 (by rw [e, e0] at hb; omega))]
      exact xGL_n k b (a - a / b * b) n (m % n) hb (by rw [xL_rem, ha, hb]; exact (Int.ofNat_tmod m n).symm)
theorem xq01 {q : Int32} (h : q = 0 ∨ q = 1) : (if q = 0 then (0 : Int64) else 1) = q.toInt64 := by
  rcases h with rfl | rfl <;> decide
theorem xL_div {a b : Int64} {m n : Nat} (ha : a.toInt = m) (hb : b.toInt = n) (hm : m < 2 ^ 31) : (a / b).toInt = (m / n : Nat) := by
  rw [Int64.toInt_div, ha, hb, ← Int.ofNat_tdiv]
  have w : m / n ≤ m := Nat.div_le_self m n
  generalize m / n = z at w ⊢
  exact Int.bmod_eq_of_le (by omega) (by omega)
theorem xFrPt {m n : Nat} {q : Int32} (hm : m < 2 ^ 31) (hn : n < 2 ^ 31) (hq : q = 0 ∨ q = 1) : xFr (nI m) (nI n) q = xPt (nI m).toInt64 (nI n).toInt64 q := by
  have tm : (nI m).toInt64.toInt = (m : Int) := by rw [Int32.toInt_toInt64, nI_toInt hm]
  have tn : (nI n).toInt64.toInt = (n : Int) := by rw [Int32.toInt_toInt64, nI_toInt hn]
  have e0 : (0 : Int64).toInt = 0 := by decide
  unfold xFr xPt
  by_cases h0 : m = 0
  · rw [if_pos (show ¬ 0 < nI m by rw [h0]; decide), if_pos (show (nI m).toInt64 = 0 from Int64.toInt_inj.mp (by rw [tm, h0, e0]; rfl))]
    exact xq01 hq
  rw [if_neg (show ¬ ¬ 0 < nI m from fun w => w ((nI_ltI (a := 0) (b := m) (by decide) hm).mpr (by omega))), if_neg (show ¬ (nI m).toInt64 = 0 from fun e => h0 (by rw [e, e0] at tm; omega))]
  by_cases h1 : n = 0
  · rw [if_pos (show ¬ 0 < nI n by rw [h1]; decide), if_pos (show (nI n).toInt64 = 0 from Int64.toInt_inj.mp (by rw [tn, h1, e0]; rfl))]
    exact xq01 hq
  rw [if_neg (show ¬ ¬ 0 < nI n from fun w => w ((nI_ltI (a := 0) (b := n) (by decide) hn).mpr (by omega))), if_neg (show ¬ (nI n).toInt64 = 0 from fun e => h1 (by rw [e, e0] at tn; omega))]
  have hr : m % n < n := Nat.mod_lt _ (by omega)
  have e1 : xGl 100 (nI n) (nI m - nI m / nI n * nI n) = nI (Nat.gcd m n) := by
    rw [pk_rem hm (by omega) hn, xGl_n 100 n (m % n) hn (by omega), xgcd_s m n]
    exact congrArg nI (xeu_gcd 50 n (m % n) (Nat.lt_trans hr (Nat.lt_of_lt_of_le hn (by decide))))
  have e2 : (xGL ((nI n).toInt64.toInt.natAbs + 1) (nI m).toInt64 (nI n).toInt64).toInt = (Nat.gcd m n : Nat) := by
    rw [xGL_n _ _ _ m n tm tn, tn]
    exact congrArg _ (xeu_f _ m n (by omega))
  have gp : 0 < Nat.gcd m n := Nat.gcd_pos_of_pos_left n (by omega)
  have gl : Nat.gcd m n ≤ m := Nat.gcd_le_left n (by omega)
  rw [e1, pk_div hm gp (by omega), pk_div hn gp (by omega)]
  apply Int64.toInt_inj.mp
  have dm : m / Nat.gcd m n ≤ m := Nat.div_le_self _ _
  have dn : n / Nat.gcd m n ≤ n := Nat.div_le_self _ _
  rcases hq with rfl | rfl
  · rw [if_pos rfl, if_pos rfl, xL_div tm e2 hm, Int32.toInt_toInt64, nI_toInt (by omega)]
  · rw [if_neg (by decide), if_neg (by decide), xL_div tn e2 hn, Int32.toInt_toInt64, nI_toInt (by omega)]
theorem xNP_t {q : Int32} (h : sNP q = 0) : q = 0 ∨ q = 1 := by
  unfold sNP at h
  by_cases h1 : q < 0
  · rw [if_pos h1] at h; exact absurd h (by decide)
  rw [if_neg h1] at h
  by_cases h2 : 1 < q
  · rw [if_pos h2] at h; exact absurd h (by decide)
  obtain ⟨k, rfl, hk⟩ := xInN (n := 1) (by decide) h1 h2
  rcases (show k = 0 ∨ k = 1 by omega) with rfl | rfl
  · left; rfl
  · right; rfl

/-! a line's numbers are figures -/
def xDi (T : xT) : Prop := (∃ v, T.2.2.2.2.1 = nI v ∧ v ≤ 9) ∧ (∃ v, T.2.2.2.2.2.1 = nI v ∧ v ≤ 60) ∧ ∀ j, j < T.2.1 → (∃ v, T.2.2.2.2.2.2.2.2.1 j = nI v ∧ v ≤ 9) ∧ (∃ v, T.2.2.2.2.2.2.2.2.2.1 j = nI v ∧ v ≤ 9) ∧ ∀ t, t < 12 → ∃ v, T.2.2.2.2.2.2.2.2.2.2 j t = nI v ∧ v ≤ 9
theorem xDg_b (lt : Nat → Int32) (len p : Nat) : ∃ v, xDg lt len p = nI v ∧ v ≤ 9 := by
  by_cases h : xIsD lt len p = 0
  · exact ⟨0, by unfold xDg; rw [if_pos h]; rfl, by decide⟩
  · obtain ⟨g1, g2⟩ := xIsD_dig h
    obtain ⟨k, e, h1, h2⟩ := xRng (v := lt p) (a := 48) (b := 57) (by decide) (by decide) g1 g2
    refine ⟨k - 48, ?_, by omega⟩
    rw [xDg_dig h, e]
    exact pk_sub (a := k) (b := 48) (by omega)
theorem xCf_b (lt : Nat → Int32) (len p t : Nat) : ∃ v, xCf lt len p t = nI v ∧ v ≤ 9 := by
  unfold xCf
  split
  · exact xDg_b lt len _
  · exact ⟨0, rfl, by decide⟩
theorem xCg_V2 {q v si : Int32} (h : ∃ k, si = nI k ∧ k ≤ 9) : ∃ k, xCg q v 2 si = nI k ∧ k ≤ 9 := by
  unfold xCg
  by_cases h1 : v < sLe q
  · rw [if_pos h1]; exact h
  rw [if_neg h1]
  by_cases h2 : sMo q < v
  · rw [if_pos h2]; exact h
  rw [if_neg h2]
  by_cases h3 : q = 2
  · rw [if_pos h3]
    subst h3
    obtain ⟨k, e, -, hk⟩ := xRng (v := v) (a := 0) (b := 9) (by decide) (by decide) h1 h2
    exact ⟨k, e, hk⟩
  · rw [if_neg h3]; exact h
theorem xCl_V {q v li : Int32} (h : ∃ k, li = nI k ∧ k ≤ 60) : ∃ k, xCl q v li = nI k ∧ k ≤ 60 := by
  unfold xCl
  by_cases h1 : v < sLe q
  · rw [if_pos h1]; exact h
  rw [if_neg h1]
  by_cases h2 : sMo q < v
  · rw [if_pos h2]; exact h
  rw [if_neg h2]
  by_cases q0 : q = 0
  · rw [if_pos q0]; exact h
  rw [if_neg q0]
  by_cases q1 : q = 1
  · rw [if_pos q1]; exact h
  rw [if_neg q1]
  by_cases q2 : q = 2
  · rw [if_pos q2]; exact h
  rw [if_neg q2]
  have em : sMo q = 60 := by unfold sMo; rw [if_neg q0, if_neg q1, if_neg q2]
  rw [em] at h2
  have hv : ¬ v < nI 0 := fun w => h1 (by
    unfold sLe
    rw [if_neg q1]
    by_cases q3 : q = 3
    · rw [if_pos q3]
      rw [xi_lt] at w ⊢
      have z1 : (nI 0).toInt = 0 := by decide
      have z2 : (1 : Int32).toInt = 1 := by decide
      omega
    · rw [if_neg q3]; exact w)
  obtain ⟨k, e, -, hk⟩ := xRng (v := v) (a := 0) (b := 60) (by decide) (by decide) hv h2
  exact ⟨k, e, hk⟩
theorem xDi_S (lt : Nat → Int32) (len p : Nat) (T : xT) (h : xDi T) : xDi (xTS lt len p T).1 := by
  obtain ⟨st, ln, ho, pa, si, li, lg, ki, ru, ne, ch⟩ := T
  obtain ⟨a, b, c⟩ := h
  dsimp only at a b c
  simp only [xTS]
  repeat' split
  · exact ⟨a, b, c⟩
  · exact ⟨xCg_V2 a, xCl_V b, c⟩
  · exact ⟨xCg_V2 a, xCl_V b, c⟩
  · exact ⟨xCg_V2 a, xCl_V b, c⟩
  · exact ⟨xCg_V2 a, xCl_V b, c⟩
  · simp only [xTL]
    split
    · refine ⟨a, b, fun j hj => ?_⟩
      have hj : j < ln + 1 := hj
      dsimp only
      by_cases q : j = ln
      · subst q
        rw [pk_us, pk_us]
        refine ⟨xDg_b lt len _, xDg_b lt len _, fun t ht => ?_⟩
        show ∃ v, (if j = j then xCp (xCf lt len p) (ch j) 12 else ch j) t = nI v ∧ v ≤ 9
        rw [if_pos rfl]
        show ∃ v, (if t < 12 then xCf lt len p t else ch j t) = nI v ∧ v ≤ 9
        rw [if_pos ht]
        exact xCf_b lt len p t
      · rw [pk_un q, pk_un q]
        obtain ⟨c1, c2, c3⟩ := c j (by omega)
        refine ⟨c1, c2, fun t ht => ?_⟩
        show ∃ v, (if j = ln then xCp (xCf lt len p) (ch ln) 12 else ch j) t = nI v ∧ v ≤ 9
        rw [if_neg q]
        exact c3 t ht
    · exact ⟨a, b, c⟩
theorem xDi_L (lt : Nat → Int32) (len : Nat) : ∀ (n p : Nat) (T : xT) (k : Nat), xDi T → xDi (xRL lt len n p T k).1
  | 0, _, _, _, h => h
  | n + 1, p, T, k, h => by
    simp only [xRL]
    split
    · split
      · exact xDi_S lt len p T h
      · exact xDi_L lt len n _ _ _ (xDi_S lt len p T h)
    · exact h
theorem xDi_O (lt : Nat → Int32) (len : Nat) (T : xT) (h : xDi T) : xDi (xRO lt len T).1 := by
  unfold xRO
  split
  · exact xDi_L lt len len 0 T 0 h
  · exact h
theorem xDi_cy {st st' ln : Nat} {ho ho' pa pa' si li : Int32} {lg lg' ki ki' ru ne : Nat → Int32} {ch gh : Nat → Nat → Int32} (h : xDi (st, ln, ho, pa, si, li, lg, ki, ru, ne, ch)) : xDi (st', ln, ho', pa', si, li, lg', ki', ru, ne, fun j => va_cpy (ch j) (gh j) 0 0 12) := by
  obtain ⟨a, b, c⟩ := h
  refine ⟨a, b, fun j hj => ?_⟩
  obtain ⟨c1, c2, c3⟩ := c j hj
  exact ⟨c1, c2, fun t ht => by obtain ⟨v, e, hv⟩ := c3 t ht; exact ⟨v, (xCpy_lo ht).trans e, hv⟩⟩
theorem xDi_ip {R : xT × Int32} {st ln : Nat} {ho pa si li : Int32} {lg ki ru ne : Nat → Int32} {ch : Nat → Nat → Int32} (h : xDi (st, ln, ho, pa, si, li, lg, ki, ru, ne, ch)) (h' : xDi R.1) :
    xDi (xIp R.2 R.1.1 st, xIp R.2 R.1.2.1 ln, xIp R.2 R.1.2.2.1 ho, xIp R.2 R.1.2.2.2.1 pa, xIp R.2 R.1.2.2.2.2.1 si, xIp R.2 R.1.2.2.2.2.2.1 li, xIp R.2 (va_cpy R.1.2.2.2.2.2.2.1 lg 0 0 7) lg, xIp R.2 R.1.2.2.2.2.2.2.2.1 ki, xIp R.2 R.1.2.2.2.2.2.2.2.2.1 ru, xIp R.2 R.1.2.2.2.2.2.2.2.2.2.1 ne, xIp R.2 (fun j => va_cpy (R.1.2.2.2.2.2.2.2.2.2.2 j) (ch j) 0 0 12) ch) := by
  obtain ⟨⟨st', ln', ho', pa', si', li', lg', ki', ru', ne', ch'⟩, a⟩ := R
  by_cases q : 0 < a
  · simp only [xIp, if_pos q]
    exact xDi_cy (gh := ch) h'
  · simp only [xIp, if_neg q]
    exact h
theorem xDi_se {st ln : Nat} {ho pa si li ho' pa' : Int32} {lg ki ru ne : Nat → Int32} {ch : Nat → Nat → Int32} (a1 a2 : Int32) (h : xDi (st, ln, ho, pa, si, li, lg, ki, ru, ne, ch)) : xDi (st, ln, ho', pa', xIf (qSe a1 a2) (xCg a1 a2 2 si) si, xIf (qSe a1 a2) (xCl a1 a2 li) li, lg, ki, ru, ne, ch) := by
  obtain ⟨a, b, c⟩ := h
  unfold xIf
  by_cases q : qSe a1 a2 = 0
  · rw [if_pos q, if_pos q]; exact ⟨xCg_V2 a, xCl_V b, c⟩
  · rw [if_neg q, if_neg q]; exact ⟨a, b, c⟩
/-! sums of figures -/
theorem xSm_b {f : Nat → Int32} {b : Nat} : ∀ n, (∀ i, i < n → ∃ v, f i = nI v ∧ v ≤ b) → ∃ v, xSm f n = nI v ∧ v ≤ b * n
  | 0, _ => ⟨0, rfl, Nat.le_refl _⟩
  | n + 1, h => by
    obtain ⟨u, e1, h1⟩ := xSm_b n (fun i hi => h i (by omega))
    obtain ⟨v, e2, h2⟩ := h n (by omega)
    refine ⟨u + v, ?_, by rw [Nat.mul_succ]; omega⟩
    simp only [xSm]
    rw [e1, e2, nI_add]
theorem xAc2_e (a : Int32) (g : Nat → Int32) (m : Nat) : ∀ n, xAc2 a g m n = xSm g (m + n) + a - xSm g m
  | 0 => by
    show a = xSm g (m + 0) + a - xSm g m
    rw [Nat.add_zero, Int32.add_comm, Int32.sub_eq_add_neg, Int32.add_assoc, ← Int32.sub_eq_add_neg, Int32.sub_self, Int32.add_zero]
  | n + 1 => by
    simp only [xAc2]
    rw [xAc2_e a g m n, show m + (n + 1) = (m + n) + 1 by omega]
    simp only [xSm]
    rw [Int32.sub_eq_add_neg, Int32.sub_eq_add_neg, Int32.add_assoc, Int32.add_assoc, Int32.add_assoc, Int32.add_assoc, Int32.add_comm (-xSm g m) (g (m + n)), ← Int32.add_assoc a (g (m + n)), Int32.add_comm a (g (m + n)), Int32.add_assoc (g (m + n)) a]
theorem xAc2_b {g : Nat → Int32} {a : Int32} {m b : Nat} (ha : ∃ v, a = nI v ∧ v ≤ b) : ∀ n, (∀ i, i < n → ∃ v, g (m + i) = nI v ∧ v ≤ b) → ∃ v, xAc2 a g m n = nI v ∧ v ≤ b * (n + 1)
  | 0, _ => by obtain ⟨v, e, h⟩ := ha; exact ⟨v, e, by omega⟩
  | n + 1, h => by
    obtain ⟨u, e1, h1⟩ := xAc2_b ha n (fun i hi => h i (by omega))
    obtain ⟨v, e2, h2⟩ := h n (by omega)
    refine ⟨u + v, ?_, by rw [Nat.mul_succ]; omega⟩
    simp only [xAc2]
    rw [e1, e2, nI_add]

/-! both sides hold the same road: chances and means -/
theorem xFrPt' {A B q : Int32} (hA : ∃ v, A = nI v ∧ v < 2 ^ 31) (hB : ∃ v, B = nI v ∧ v < 2 ^ 31) (hq : q = 0 ∨ q = 1) : xFr A B q = xPt A.toInt64 B.toInt64 q := by
  obtain ⟨m, rfl, hm⟩ := hA
  obtain ⟨n, rfl, hn⟩ := hB
  exact xFrPt hm hn hq
theorem xWs_m {st ln : Nat} {ho pa si li : Int32} {lg ki ru ne nw : Nat → Int32} {ch : Nat → Nat → Int32} (hR : xRel (st, ln, ho, pa, si, li, lg, ki, ru, ne, ch) nw) {k m : Nat} (hk : k < ln) (hm : m ≤ 12) : xWs (fun i => nw (20 + 16 * k + i)) m = xSm (ch k) 12 + ne k - xSm (ch k) m := by
  obtain ⟨d1, d2, d3, d4⟩ := xLn_t hR hk
  have e : ∀ n, n ≤ 12 → xSm (xWt (fun i => nw (20 + 16 * k + i))) n = xSm (ch k) n := fun n hn => xSm_ag n (fun i hi => by
    unfold xWt
    rw [if_neg (by omega)]
    exact d4 i (by omega))
  have e12 : xWt (fun i => nw (20 + 16 * k + i)) 12 = ne k := by
    unfold xWt
    rw [if_pos rfl]
    exact d3
  unfold xWs
  rw [xAc2_e, show m + (12 - m) = 12 by omega, e 12 (Nat.le_refl _), e m hm, e12]
theorem xWs_0 {st ln : Nat} {ho pa si li : Int32} {lg ki ru ne nw : Nat → Int32} {ch : Nat → Nat → Int32} (hR : xRel (st, ln, ho, pa, si, li, lg, ki, ru, ne, ch) nw) {k : Nat} (hk : k < ln) : xWs (fun i => nw (20 + 16 * k + i)) 0 = xSm (ch k) 12 + ne k := by
  rw [xWs_m hR hk (Nat.zero_le _)]
  exact Int32.sub_zero _
theorem xWs_d {st ln : Nat} {ho pa si li : Int32} {lg ki ru ne nw : Nat → Int32} {ch : Nat → Nat → Int32} (hR : xRel (st, ln, ho, pa, si, li, lg, ki, ru, ne, ch) nw) (hD : xDi (st, ln, ho, pa, si, li, lg, ki, ru, ne, ch)) {k m : Nat} (hk : k < ln) (hm : m ≤ 12) : ∃ v, xWs (fun i => nw (20 + 16 * k + i)) m = nI v ∧ v ≤ 117 := by
  obtain ⟨d1, d2, d3, d4⟩ := xLn_t hR hk
  obtain ⟨c1, ⟨v, e, hv⟩, c3⟩ := hD.2.2 k hk
  have e12 : xWt (fun i => nw (20 + 16 * k + i)) 12 = ne k := by
    unfold xWt
    rw [if_pos rfl]
    exact d3
  obtain ⟨u, eu, hu⟩ := xAc2_b (g := xWt (fun i => nw (20 + 16 * k + i))) (a := xWt (fun i => nw (20 + 16 * k + i)) 12) (m := m) (b := 9) ⟨v, e12.trans e, hv⟩ (12 - m) (fun i hi => by
    obtain ⟨w, ew, hw⟩ := c3 (m + i) (by omega)
    refine ⟨w, ?_, hw⟩
    unfold xWt
    rw [if_neg (by omega)]
    exact (d4 (m + i) (by omega)).trans ew)
  exact ⟨u, eu, by omega⟩
theorem xWd {st ln : Nat} {ho pa si li : Int32} {lg ki ru ne : Nat → Int32} {ch : Nat → Nat → Int32} (hD : xDi (st, ln, ho, pa, si, li, lg, ki, ru, ne, ch)) {k t : Nat} (hk : k < ln) (ht : t < 13) : ∃ v, sWt (ne k) (ch k) (nI t) = nI v ∧ v ≤ 9 := by
  obtain ⟨c1, c2, c3⟩ := hD.2.2 k hk
  unfold sWt
  by_cases h : t = 12
  · rw [if_pos (by rw [h]; decide)]; exact c2
  · rw [if_neg (show ¬ nI t = 12 from fun e => h ((xnI_inj (a := t) (b := 12) (by omega) (by decide)).mp e)), if_neg (nI_pos (by omega)), if_pos (show nI t < 12 from (nI_ltI (a := t) (b := 12) (by omega) (by decide)).mpr (by omega)), nI_clamp (by omega)]
    exact c3 t (by omega)
theorem xSD {st ln : Nat} {ho pa si li : Int32} {lg ki ru ne : Nat → Int32} {ch : Nat → Nat → Int32} (hD : xDi (st, ln, ho, pa, si, li, lg, ki, ru, ne, ch)) {k n : Nat} (hk : k < ln) (hn : n ≤ 12) : ∃ v, xSm (ch k) n = nI v ∧ v ≤ 108 := by
  obtain ⟨c1, c2, c3⟩ := hD.2.2 k hk
  obtain ⟨v, e, hv⟩ := xSm_b (f := ch k) (b := 9) n (fun i hi => c3 i (by omega))
  exact ⟨v, e, by omega⟩
theorem xa_Co {st ln : Nat} {ho pa si li : Int32} {lg ki ru ne nw : Nat → Int32} {ch : Nat → Nat → Int32} (hV : xVc st ln ho pa lg) (hR : xRel (st, ln, ho, pa, si, li, lg, ki, ru, ne, ch) nw) (hD : xDi (st, ln, ho, pa, si, li, lg, ki, ru, ne, ch)) {a1 a2 a3 a4 : Int32} (h : qCo ln a1 a2 a3 a4 = 0) : vCo ki ru ne ch a1 a2 a3 a4 = v5Co nw a1 a2 a3 a4 := by
  have h9 := hV.2.1
  have hn : sNL ln a1 = 0 := by
    by_cases q : sNL ln a1 = 0
    · exact q
    · unfold qCo at h; rw [if_neg q] at h; exact absurd h (by decide)
  unfold qCo at h
  rw [if_pos hn] at h
  by_cases h2 : a2 < 0
  · rw [if_pos h2] at h; exact absurd h (by decide)
  rw [if_neg h2] at h
  by_cases h3 : a3 < 0
  · rw [if_pos h3] at h; exact absurd h (by decide)
  rw [if_neg h3] at h
  by_cases h4 : 12 < a2
  · rw [if_pos h4] at h; exact absurd h (by decide)
  rw [if_neg h4] at h
  by_cases h5 : a3 < 12
  rotate_left
  · rw [if_neg h5] at h; exact absurd h (by decide)
  rw [if_pos h5] at h
  by_cases h6 : sNP a4 = 0
  rotate_left
  · rw [if_neg h6] at h; exact absurd h (by decide)
  obtain ⟨k, rfl, hk⟩ := xNL_t (by omega) hn
  obtain ⟨t, rfl, ht⟩ := xInN (n := 12) (by decide) h2 h4
  obtain ⟨m, rfl, hm⟩ := xInN (n := 11) (by decide) h3 (fun w => (xq_lt (a := a3) (k := 11) (by decide)).mp w h5)
  unfold vCo v5Co
  rw [nI_clamp (show k < 2 ^ 31 by omega), nI_clamp (show t < 2 ^ 31 by omega), nI_clamp (show m < 2 ^ 31 by omega)]
  have eB : xSm (ch k) 12 + ne k - xWa (ch k) (nI m) = xWs (fun i => nw (20 + 16 * k + i)) m := by
    rw [xWs_m hR hk (by omega)]
    unfold xWa
    rw [nI_clamp (show m < 2 ^ 31 by omega), show min 12 m = m by omega]
  obtain ⟨vB, eV, hvB⟩ := xWs_d hR hD hk (show m ≤ 12 by omega)
  obtain ⟨vA, eA, hvA⟩ := xWd hD hk (show t < 13 by omega)
  have tA : (if nI t < nI m then (0 : Int64) else (xWt (fun i => nw (20 + 16 * k + i)) t).toInt64) = (if nI t < nI m then 0 else sWt (ne k) (ch k) (nI t)).toInt64 := by
    by_cases c : nI t < nI m
    · rw [if_pos c, if_pos c]; decide
    · rw [if_neg c, if_neg c, xWt_e hR hk (show t < 13 by omega)]
  rw [eB, tA]
  refine xFrPt' ?_ ⟨vB, eV, by omega⟩ (xNP_t h6)
  by_cases c : nI t < nI m
  · rw [if_pos c]; exact ⟨0, by decide, by decide⟩
  · rw [if_neg c]; exact ⟨vA, eA, by omega⟩
theorem sGo_t {ln : Nat} {a1 a2 a3 a4 a5 : Int32} (h : sGo ln a1 a2 a3 a4 a5 = 0) : sNL ln a1 = 0 ∧ ∃ u, a3 = nI u ∧ u ≤ 12 := by
  unfold sGo at h
  by_cases q : sNL ln a1 = 0
  rotate_left
  · rw [if_neg q] at h; exact absurd h (by decide)
  rw [if_pos q] at h
  by_cases h1 : sNK a2 = 0
  rotate_left
  · rw [if_neg h1] at h; exact absurd h (by decide)
  rw [if_pos h1] at h
  by_cases h2 : a3 < 0
  · rw [if_pos h2] at h; exact absurd h (by decide)
  rw [if_neg h2] at h
  by_cases h3 : a4 < 0
  · rw [if_pos h3] at h; exact absurd h (by decide)
  rw [if_neg h3] at h
  by_cases h4 : 12 < a3
  · rw [if_pos h4] at h; exact absurd h (by decide)
  exact ⟨q, xInN (n := 12) (by decide) h2 h4⟩
theorem xQ2 {x q : Int32} (h : (if x = 0 then (if sNP q = 0 then (0 : Int32) else -2) else x) = 0) : x = 0 ∧ (q = 0 ∨ q = 1) := by
  by_cases h1 : x = 0
  · rw [if_pos h1] at h
    by_cases h2 : sNP q = 0
    · exact ⟨h1, xNP_t h2⟩
    · rw [if_neg h2] at h; exact absurd h (by decide)
  · rw [if_neg h1] at h; exact absurd h h1
theorem xa_So {st ln : Nat} {ho pa si li : Int32} {lg ki ru ne nw : Nat → Int32} {ch : Nat → Nat → Int32} (hV : xVc st ln ho pa lg) (hR : xRel (st, ln, ho, pa, si, li, lg, ki, ru, ne, ch) nw) (hD : xDi (st, ln, ho, pa, si, li, lg, ki, ru, ne, ch)) {a1 a2 a3 a4 a5 : Int32} (h : qSo ln a1 a2 a3 a4 a5 = 0) : vSo st ho pa si li lg ki ru ne ch a1 a2 a3 a4 a5 = v5So st nw a1 a2 a3 a4 a5 := by
  have h9 := hV.2.1
  obtain ⟨h1, hq⟩ := xQ2 h
  obtain ⟨hn, -⟩ := sGo_t h1
  obtain ⟨k, rfl, hk⟩ := xNL_t (by omega) hn
  unfold vSo v5So
  rw [nI_clamp (show k < 2 ^ 31 by omega), ← xWs_0 hR hk]
  have eA : xSm (x5So st nw (20 + 16 * k) a2 a3 a4) 13 = xSm (fun i => if a4 < xGh st ho pa si li lg (ki k) (ru k) a2 a3 (nI i) then 0 else sWt (ne k) (ch k) (nI i)) 13 := xSm_ag 13 (fun i hi => by
    unfold x5So
    rw [xGh_e hV hR hk, xWt_e hR hk hi])
  rw [eA]
  obtain ⟨vB, eV, hvB⟩ := xWs_d hR hD hk (show 0 ≤ 12 by omega)
  obtain ⟨vA, eA, hvA⟩ := xSm_b (f := fun i => if a4 < xGh st ho pa si li lg (ki k) (ru k) a2 a3 (nI i) then 0 else sWt (ne k) (ch k) (nI i)) (b := 9) 13 (fun i hi => by
    try dsimp only
    split
    · exact ⟨0, by decide, by decide⟩
    · exact xWd hD hk hi)
  exact xFrPt' ⟨vA, eA, by omega⟩ ⟨vB, eV, by omega⟩ hq
/-! gone, stood -/
theorem xBn_c (r mi : Int32) : xBn r mi 0 = min 12 (mi - r).toNatClampNeg := by
  unfold xBn xBd
  generalize mi - r = z
  have e0 : (0 : Int32).toInt = 0 := by decide
  have e12 : (12 : Int32).toInt = 12 := by decide
  have ec : z.toNatClampNeg = z.toInt.toNat := rfl
  rw [ec]
  by_cases h : 0 < z
  · rw [if_pos h]
    rw [xi_lt, e0] at h
    by_cases h2 : z < 12
    · rw [if_pos h2]; rw [xi_lt, e12] at h2; omega
    · rw [if_neg h2, e12]; rw [xi_lt, e12] at h2; omega
  · rw [if_neg h, if_pos (by decide), e0]
    rw [xi_lt, e0] at h
    omega
theorem x5Ah_e {st ln : Nat} {ho pa si li : Int32} {lg ki ru ne nw : Nat → Int32} {ch : Nat → Nat → Int32} (hR : xRel (st, ln, ho, pa, si, li, lg, ki, ru, ne, ch) nw) {k j : Nat} (hk : k < ln) (hj : j < 2 ^ 30) (mi : Int32) : xWs (fun i => nw (20 + 16 * k + i)) (x5Fs nw (20 + 16 * k) j mi) = xSm (ch k) 12 + ne k - xWa (ch k) (mi - sRide (ki k) (ru k) (nI j)) ∧ x5Ah nw (20 + 16 * k) j mi = xWa (ch k) (mi - sRide (ki k) (ru k) (nI j)) := by
  obtain ⟨d1, d2, -⟩ := xLn_t hR hk
  have eF : x5Fs nw (20 + 16 * k) j mi = min 12 (mi - sRide (ki k) (ru k) (nI j)).toNatClampNeg := by
    unfold x5Fs
    rw [d1, d2, xRide_s _ _ _ hj, xBn_c]
  have e1 : xWs (fun i => nw (20 + 16 * k + i)) (x5Fs nw (20 + 16 * k) j mi) = xSm (ch k) 12 + ne k - xWa (ch k) (mi - sRide (ki k) (ru k) (nI j)) := by
    rw [eF, xWs_m hR hk (Nat.min_le_left _ _)]
    rfl
  refine ⟨e1, ?_⟩
  unfold x5Ah
  rw [e1, xWs_0 hR hk]
  generalize xSm (ch k) 12 + ne k = a
  generalize xWa (ch k) (mi - sRide (ki k) (ru k) (nI j)) = b
  grind
theorem xWa_b {st ln : Nat} {ho pa si li : Int32} {lg ki ru ne : Nat → Int32} {ch : Nat → Nat → Int32} (hD : xDi (st, ln, ho, pa, si, li, lg, ki, ru, ne, ch)) {k : Nat} (hk : k < ln) (mi : Int32) : ∃ v, xWa (ch k) mi = nI v ∧ v ≤ 108 := xSD hD hk (Nat.min_le_left _ _)
theorem sPl_t {ln st : Nat} {a1 a2 a3 a4 : Int32} (h : sPl ln st a1 a2 a3 a4 = 0) : sNL ln a1 = 0 ∧ sNL st a2 = 0 := by
  unfold sPl at h
  by_cases q : sNL ln a1 = 0
  rotate_left
  · rw [if_neg q] at h; exact absurd h (by decide)
  rw [if_pos q] at h
  by_cases h1 : sNL st a2 = 0
  rotate_left
  · rw [if_neg h1] at h; exact absurd h (by decide)
  exact ⟨q, h1⟩
theorem xFr01 {q : Int32} (hq : q = 0 ∨ q = 1) (b : Int64) : xFr 0 1 q = xPt 0 b q := by
  unfold xFr xPt
  rw [if_pos (by decide), if_pos rfl]
  exact xq01 hq
theorem xa_Gn {st ln : Nat} {ho pa si li : Int32} {lg ki ru ne nw : Nat → Int32} {ch : Nat → Nat → Int32} (hV : xVc st ln ho pa lg) (hR : xRel (st, ln, ho, pa, si, li, lg, ki, ru, ne, ch) nw) (hD : xDi (st, ln, ho, pa, si, li, lg, ki, ru, ne, ch)) {a1 a2 a3 a4 : Int32} (h : qGn ln st a1 a2 a3 a4 = 0) : vGn st ki ru ne ch a1 a2 a3 a4 = v5Gn st nw a1 a2 a3 a4 := by
  have h9 := hV.2.1
  have h7 := hV.1.2
  obtain ⟨h1, hq⟩ := xQ2 h
  obtain ⟨hn, hn2⟩ := sPl_t h1
  obtain ⟨k, rfl, hk⟩ := xNL_t (by omega) hn
  obtain ⟨j, rfl, hj⟩ := xNL_t (by omega) hn2
  obtain ⟨d1, d2, -⟩ := xLn_t hR hk
  obtain ⟨e1, e2⟩ := x5Ah_e hR hk (show j < 2 ^ 30 by omega) a3
  unfold vGn v5Gn xGu
  rw [nI_clamp (show k < 2 ^ 31 by omega), nI_clamp (show j < 2 ^ 31 by omega), d1, e2]
  by_cases c : sHalt (ki k) (nI j) (nI (st - 1)) = 0
  · rw [if_pos c, if_pos c]; exact xFr01 hq _
  · rw [if_neg c, if_neg c, xWs_0 hR hk, Int32.sub_self, Int32.sub_zero]
    obtain ⟨vB, eV, hvB⟩ := xWs_d hR hD hk (show 0 ≤ 12 by omega)
    rw [xWs_0 hR hk] at eV
    obtain ⟨vA, eA, hvA⟩ := xWa_b hD hk (a3 - sRide (ki k) (ru k) (nI j))
    exact xFrPt' ⟨vA, eA, by omega⟩ ⟨vB, eV, by omega⟩ hq
theorem xa_Sd {st ln : Nat} {ho pa si li : Int32} {lg ki ru ne nw : Nat → Int32} {ch : Nat → Nat → Int32} (hV : xVc st ln ho pa lg) (hR : xRel (st, ln, ho, pa, si, li, lg, ki, ru, ne, ch) nw) (hD : xDi (st, ln, ho, pa, si, li, lg, ki, ru, ne, ch)) {a1 a2 a3 a4 a5 : Int32} (h : qSd ln st a1 a2 a3 a4 a5 = 0) : vSd st ki ru ne ch a1 a2 a3 a4 a5 = v5Sd st nw a1 a2 a3 a4 a5 := by
  have h9 := hV.2.1
  have h7 := hV.1.2
  unfold qSd at h
  by_cases hn : sNL ln a1 = 0
  rotate_left
  · rw [if_neg hn] at h; exact absurd h (by decide)
  rw [if_pos hn] at h
  by_cases hn2 : sNL st a2 = 0
  rotate_left
  · rw [if_neg hn2] at h; exact absurd h (by decide)
  rw [if_pos hn2] at h
  by_cases g1 : a3 < 0
  · rw [if_pos g1] at h; exact absurd h (by decide)
  rw [if_neg g1] at h
  by_cases g2 : a4 < 0
  · rw [if_pos g2] at h; exact absurd h (by decide)
  rw [if_neg g2] at h
  by_cases g3 : 99 < a4
  · rw [if_pos g3] at h; exact absurd h (by decide)
  rw [if_neg g3] at h
  by_cases g4 : a4 < a3
  · rw [if_pos g4] at h; exact absurd h (by decide)
  rw [if_neg g4] at h
  by_cases g5 : sNP a5 = 0
  rotate_left
  · rw [if_neg g5] at h; exact absurd h (by decide)
  have hq := xNP_t g5
  obtain ⟨k, rfl, hk⟩ := xNL_t (by omega) hn
  obtain ⟨j, rfl, hj⟩ := xNL_t (by omega) hn2
  obtain ⟨d1, d2, -⟩ := xLn_t hR hk
  obtain ⟨e1, e2⟩ := x5Ah_e hR hk (show j < 2 ^ 30 by omega) a3
  obtain ⟨f1, f2⟩ := x5Ah_e hR hk (show j < 2 ^ 30 by omega) a4
  unfold vSd v5Sd xGu x5Go
  rw [nI_clamp (show k < 2 ^ 31 by omega), nI_clamp (show j < 2 ^ 31 by omega), d1, e2]
  by_cases c : sHalt (ki k) (nI j) (nI (st - 1)) = 0
  · rw [if_pos c, if_pos c]; exact xFr01 hq _
  · rw [if_neg c, if_neg c]
    obtain ⟨vA, eA, hvA⟩ := xWa_b hD hk (a3 - sRide (ki k) (ru k) (nI j))
    obtain ⟨vB, eV, hvB⟩ := xWs_d hR hD hk (x5Fs_le nw (20 + 16 * k) j a4)
    have eB : xSm (ch k) 12 + ne k - (xWa (ch k) (a4 - sRide (ki k) (ru k) (nI j)) - xWa (ch k) (a3 - sRide (ki k) (ru k) (nI j))) = xWa (ch k) (a3 - sRide (ki k) (ru k) (nI j)) + xWs (fun i => nw (20 + 16 * k + i)) (x5Fs nw (20 + 16 * k) j a4) := by
      rw [f1]
      generalize xSm (ch k) 12 + ne k = a
      generalize xWa (ch k) (a4 - sRide (ki k) (ru k) (nI j)) = b
      generalize xWa (ch k) (a3 - sRide (ki k) (ru k) (nI j)) = b'
      grind
    rw [eB]
    exact xFrPt' ⟨vA, eA, by omega⟩ ⟨vA + vB, by rw [eA, eV, nI_add], by omega⟩ hq
/-! how long a goer is on the way -/
theorem xWay4 {a v : Nat} (ha : a ≤ 999) (h1 : 1 ≤ v) (h2 : v ≤ 400) : ∃ w, (nI a + nI v - 1) / nI v = nI w ∧ w ≤ 1000 := by
  refine ⟨(a + v - 1) / v, ?_, ?_⟩
  · rw [nI_add, show nI (a + v) - 1 = nI (a + v - 1) from pk_sub (a := a + v) (b := 1) (by omega)]
    exact pk_div (by omega) (by omega) (by omega)
  · have h3 : (a + v - 1) / v < 1001 := (Nat.div_lt_iff_lt_mul (by omega)).mpr (by
      have : 1001 * 1 ≤ 1001 * v := Nat.mul_le_mul_left _ h1
      omega)
    omega
theorem xWy_b {st ln : Nat} {ho pa : Int32} {lg : Nat → Int32} (hV : xVc st ln ho pa lg) (a2 : Int32) {i : Nat} (hi : i < st) : ∃ w, xWy (xYd st ho lg i) (xPc2 pa a2) = nI w ∧ w ≤ 1000 := by
  obtain ⟨⟨a1, a2'⟩, b, ⟨v, e, c1, c2⟩, ⟨u, e2, d⟩, g⟩ := hV
  have hy : ∃ z, xYd st ho lg i = nI z ∧ z ≤ 999 := by
    unfold xYd
    by_cases q : i + 1 < st
    · rw [if_pos q]; exact g (i + 1) (by omega) q
    · rw [if_neg q]; exact ⟨u, e2, d⟩
  have hp : ∃ p, xPc2 pa a2 = nI p ∧ 20 ≤ p ∧ p ≤ 400 := by
    unfold xPc2
    split
    · exact ⟨2 * v, by rw [e]; exact pk_mul 2 v, by omega, by omega⟩
    · exact ⟨v, e, by omega, by omega⟩
  obtain ⟨z, ez, hz⟩ := hy
  obtain ⟨p, ep, hp1, hp2⟩ := hp
  unfold xWy
  rw [ez, ep, if_neg (show ¬ nI p < 1 from mt (nI_ltI (a := p) (b := 1) (by omega) (by decide)).mp (by omega))]
  exact xWay4 hz (by omega) hp2
theorem xRd_b {ki ru : Int32} {j : Nat} (hr : ∃ v, ru = nI v ∧ v ≤ 9) (hj : j ≤ 6) : ∃ v, sRide ki ru (nI j) = nI v ∧ v ≤ 65 := by
  obtain ⟨r, rfl, hr9⟩ := hr
  have m1 : j * (r + 1) ≤ 6 * 10 := Nat.mul_le_mul hj (by omega)
  have m2 : j * ((r + 1) / 2) ≤ 6 * 10 := Nat.mul_le_mul hj (by omega)
  have m3 : j * r ≤ 6 * 10 := Nat.mul_le_mul hj (by omega)
  unfold sRide
  split
  · split
    · exact ⟨j * (r + 1), by rw [nI_1, pk_mul], by omega⟩
    · split
      · exact ⟨j * (r + 1) + 5, by rw [nI_1, pk_mul]; exact nI_add _ 5, by omega⟩
      · split
        · exact ⟨j * ((r + 1) / 2), by rw [nI_1, show nI (r + 1) / 2 = nI ((r + 1) / 2) from pk_div (a := r + 1) (d := 2) (by omega) (by decide) (by decide), pk_mul], by omega⟩
        · exact ⟨j * r, by rw [pk_mul], by omega⟩
  · exact ⟨0, by decide, by omega⟩
theorem xSw_b {li a2 a3 : Int32} {i : Nat} (hl : ∃ v, li = nI v ∧ v ≤ 60) (ha : ∃ v, a3 = nI v ∧ v ≤ 12) : ∃ v, sWait li a2 a3 (nI i) = nI v ∧ v ≤ 60 := by
  obtain ⟨u, eu, hu⟩ := ha
  have z : ∃ v, (0 : Int32) = nI v ∧ v ≤ 60 := ⟨0, by decide, by decide⟩
  have z3 : ∃ v, a3 = nI v ∧ v ≤ 60 := ⟨u, eu, by omega⟩
  have z4 : ∃ v, 2 * a3 = nI v ∧ v ≤ 60 := ⟨2 * u, by rw [eu]; exact pk_mul 2 u, by omega⟩
  unfold sWait
  repeat' split
  all_goals first | exact z | exact hl | exact z3 | exact z4
theorem xGo_b {t : Int32} {rd wt wy hl : Nat → Int32} {lk hm fl : Int32} {F B : Nat} (hhm : ∃ v, hm = nI v ∧ v ≤ B) (hfl : ∃ v, fl = nI v ∧ v ≤ F) : ∀ (n k m : Nat), (∀ i, k ≤ i → i < k + n → (∃ v, wt i = nI v ∧ v ≤ 60) ∧ (∃ v, wy i = nI v ∧ v ≤ 1000)) → m + n * 1060 + F ≤ B → ∃ v, xGo t rd wt wy hl lk hm fl n k (nI m) = nI v ∧ v ≤ B
  | 0, k, m, _, hB => by
    obtain ⟨f, ef, hf⟩ := hfl
    exact ⟨m + f, by show nI m + fl = nI (m + f); rw [ef, nI_add], by omega⟩
  | n + 1, k, m, h, hB => by
    obtain ⟨⟨w, ew, hw⟩, ⟨y, ey, hy⟩⟩ := h k (Nat.le_refl k) (by omega)
    simp only [xGo]
    rw [ew, ey, nI_add, nI_add]
    split
    · exact hhm
    · exact xGo_b hhm hfl n (k + 1) (m + w + y) (fun i h1 h2 => h i (by omega) (by omega)) (by omega)
theorem xGh_b {st ln : Nat} {ho pa si li : Int32} {lg ki ru ne : Nat → Int32} {ch : Nat → Nat → Int32} (hV : xVc st ln ho pa lg) (hD : xDi (st, ln, ho, pa, si, li, lg, ki, ru, ne, ch)) {k m : Nat} (hk : k < ln) (a2 : Int32) {a3 : Int32} (ha : ∃ v, a3 = nI v ∧ v ≤ 12) (hm : m ≤ 12) : ∃ v, xGh st ho pa si li lg (ki k) (ru k) a2 a3 (nI m) = nI v ∧ v ≤ 8000 := by
  have h1 := hV.1.1
  have h7 := hV.1.2
  obtain ⟨c1, -⟩ := hD.2.2 k hk
  obtain ⟨r, er, hr⟩ := xRd_b (ki := ki k) (j := st - 1) c1 (by omega)
  obtain ⟨w, ew, hw⟩ := xWy_b hV a2 (show st - 1 < st by omega)
  unfold xGh
  refine xGo_b (F := 1000) (B := 8000) ⟨m + r + w, ?_, by omega⟩ ⟨w, ew, hw⟩ (st - 1) 0 0 (fun i _ hi => ⟨xSw_b hD.2.1 ha, xWy_b hV a2 (by omega)⟩) (by omega)
  rw [er, ew, nI_add, nI_add]
theorem xHS_b {st ln : Nat} {ho pa si li : Int32} {lg ki ru ne : Nat → Int32} {ch : Nat → Nat → Int32} (hV : xVc st ln ho pa lg) (hD : xDi (st, ln, ho, pa, si, li, lg, ki, ru, ne, ch)) {k : Nat} (hk : k < ln) (a2 : Int32) {a3 : Int32} (ha : ∃ v, a3 = nI v ∧ v ≤ 12) : ∃ v, xHSum st ho pa si li lg (ki k) (ru k) (ne k) (ch k) a2 a3 = nI v ∧ v ≤ 72000 * 13 := by
  unfold xHSum
  exact xSm_b 13 (fun i hi => by
    obtain ⟨u, eu, hu⟩ := xWd hD hk hi
    obtain ⟨v, ev, hv⟩ := xGh_b hV hD hk a2 ha (show i ≤ 12 by omega)
    exact ⟨u * v, by rw [eu, ev, pk_mul], Nat.mul_le_mul hu hv⟩)
theorem xa_Me {st ln : Nat} {ho pa si li : Int32} {lg ki ru ne nw : Nat → Int32} {ch : Nat → Nat → Int32} (hV : xVc st ln ho pa lg) (hR : xRel (st, ln, ho, pa, si, li, lg, ki, ru, ne, ch) nw) (hD : xDi (st, ln, ho, pa, si, li, lg, ki, ru, ne, ch)) {a1 a2 a3 a4 : Int32} (h : qMe ln a1 a2 a3 a4 = 0) : vMe st ho pa si li lg ki ru ne ch a1 a2 a3 a4 = v5M st nw a1 a2 a3 a4 := by
  have h9 := hV.2.1
  obtain ⟨h1, hq⟩ := xQ2 h
  obtain ⟨hn, ha⟩ := sGo_t h1
  obtain ⟨k, rfl, hk⟩ := xNL_t (by omega) hn
  unfold vMe v5M
  rw [nI_clamp (show k < 2 ^ 31 by omega), ← xWs_0 hR hk, ← xHS_e hV hR hk]
  obtain ⟨vB, eV, hvB⟩ := xWs_d hR hD hk (show 0 ≤ 12 by omega)
  obtain ⟨vA, eA, hvA⟩ := xHS_b hV hD hk a2 ha
  exact xFrPt' ⟨vA, eA, by omega⟩ ⟨vB, eV, by omega⟩ hq
/-! nights by lot -/
theorem xDr_e {ch f : Nat → Int32} {e : Nat} (he : e < 2 ^ 24) (hc : ∀ t, t < 12 → ∃ v, ch t = nI v ∧ v ≤ 9) (hf : ∀ t, t < 12 → f t = ch t) : ∀ n k, k + n = 12 → (∀ i, i < k → ¬ nI e < xSm ch (i + 1)) → x5Lo f n k (nI e - xSm ch k) = xDr ch (nI e)
  | 0, k, hk, h => by
    obtain rfl : k = 12 := by omega
    exact (xFst_none 12 (fun i hi => decide_eq_false (h i hi))).symm
  | n + 1, k, hk, h => by
    obtain ⟨a, ea, ha⟩ := xSm_b (f := ch) (b := 9) k (fun i hi => hc i (by omega))
    obtain ⟨b, eb, hb⟩ := hc k (by omega)
    have es : xSm ch (k + 1) = nI (a + b) := by simp only [xSm]; rw [ea, eb, nI_add]
    have key : nI e - xSm ch k < f k ↔ nI e < xSm ch (k + 1) := by
      rw [hf k (by omega), es, ea, eb, xi_lt, xi_lt, pk_sub_toInt (by omega) (by omega), nI_toInt (by omega), nI_toInt (by omega), nI_toInt (by omega)]
      omega
    simp only [x5Lo]
    by_cases q : nI e < xSm ch (k + 1)
    · rw [if_pos (key.mpr q)]
      exact (xFst_at (decide_eq_true q) (fun i hi => decide_eq_false (h i hi)) 12 (by omega)).symm
    · rw [if_neg (mt key.mp q)]
      have e3 : nI e - xSm ch k - f k = nI e - xSm ch (k + 1) := by
        simp only [xSm]
        rw [hf k (by omega)]
        generalize nI e = x
        generalize xSm ch k = y
        generalize ch k = z
        grind
      rw [e3]
      exact xDr_e he hc hf n (k + 1) (by omega) (fun i hi => by
        by_cases r : i = k
        · rw [r]; exact q
        · exact h i (by omega))
theorem xRd_n (s : Int32) {d : Nat} (h0 : 0 < d) (hd : d < 2 ^ 31) : ∃ e, xRd s (nI d) = nI e ∧ e < 2 ^ 24 := by
  obtain ⟨x, hx, ex⟩ := pk_andE s (m := 2147483647) 31 (by decide)
  have e1 : (s &&& 2147483647) / 256 = nI (x / 256) := by rw [ex]; exact pk_div (a := x) (d := 256) hx (by decide) (by decide)
  have h1 : x / 256 < 2 ^ 24 := (Nat.div_lt_iff_lt_mul (by decide)).mpr (by omega)
  unfold xRd
  rw [e1, pk_rem (by omega) h0 hd]
  exact ⟨_, rfl, Nat.lt_of_le_of_lt (Nat.mod_le _ _) h1⟩
theorem xa_Lo {st ln : Nat} {ho pa si li : Int32} {lg ki ru ne nw : Nat → Int32} {ch : Nat → Nat → Int32} (hV : xVc st ln ho pa lg) (hR : xRel (st, ln, ho, pa, si, li, lg, ki, ru, ne, ch) nw) (hD : xDi (st, ln, ho, pa, si, li, lg, ki, ru, ne, ch)) (hw : ∀ j, j < ln → ¬ xWs (fun i => nw (20 + 16 * j + i)) 0 = 0) {a1 a2 a3 a4 : Int32} (h : qLo ln a1 a2 a3 = 0) : vLo st ho pa si li lg ki ru ne ch a1 a2 a3 a4 = v5Lo st nw a1 a2 a3 a4 := by
  have h9 := hV.2.1
  have hn : sNL ln a1 = 0 := by
    by_cases q : sNL ln a1 = 0
    · exact q
    · unfold qLo at h; rw [if_neg q] at h; exact absurd h (by decide)
  obtain ⟨k, rfl, hk⟩ := xNL_t (by omega) hn
  obtain ⟨d1, d2, d3, d4⟩ := xLn_t hR hk
  obtain ⟨c1, c2, c3⟩ := hD.2.2 k hk
  obtain ⟨vB, eV, hvB⟩ := xWs_d hR hD hk (show 0 ≤ 12 by omega)
  have hp : 0 < vB := by
    have w := hw k hk
    rw [eV] at w
    exact Nat.pos_of_ne_zero (fun e => w (by rw [e]; decide))
  unfold vLo v5Lo
  rw [nI_clamp (show k < 2 ^ 31 by omega)]
  refine xSm_ag _ (fun i hi => ?_)
  unfold x5L x5Dr
  rw [← xWs_0 hR hk, eV]
  have em : xMx1 (nI vB) = nI vB := by
    unfold xMx1
    by_cases q : 1 < nI vB
    · rw [if_pos q]
    · rw [if_neg q]
      have w := mt (nI_ltI (a := 1) (b := vB) (by decide) (by omega)).mpr q
      rw [show vB = 1 by omega]
      decide
  rw [em]
  obtain ⟨e, ee, he⟩ := xRd_n (xSd a4 (i + 1)) hp (show vB < 2 ^ 31 by omega)
  rw [ee]
  have q := xDr_e (ch := ch k) (f := xWt (fun i => nw (20 + 16 * k + i))) he c3 (fun t ht => by unfold xWt; rw [if_neg (by omega)]; exact d4 t ht) 12 0 rfl (fun i hi => absurd hi (Nat.not_lt_zero i))
  have z : nI e - xSm (ch k) 0 = nI e := Int32.sub_zero _
  rw [z] at q
  rw [q]
  exact xGh_e hV hR hk _ _ _

/-! a table worked out from its end: stops down, minutes down, bounds up -/
def gY1 (F : (Nat → Int32) → Nat → Nat → Nat → Int32) (k m b : Nat) (y : Nat → Int32) : Nat → Nat → Int32
  | 0 => y
  | n + 1 => upd (gY1 F k m b y n) ((k * 61 + m) * 13 + (b + n)) (F (gY1 F k m b y n) k m (b + n))
def gY2 (F : (Nat → Int32) → Nat → Nat → Nat → Int32) (bd : Nat → Nat → Nat) (k : Nat) (y : Nat → Int32) : Nat → Nat → Int32
  | 0 => y
  | n + 1 => gY1 F k (61 - n - 1) (bd k (61 - n - 1)) (gY2 F bd k y n) (13 - bd k (61 - n - 1))
def gY3 (F : (Nat → Int32) → Nat → Nat → Nat → Int32) (bd : Nat → Nat → Nat) (K : Nat) (y : Nat → Int32) : Nat → Nat → Int32
  | 0 => y
  | n + 1 => gY2 F bd (K - n - 1) (gY3 F bd K y n) 61
/-- an entry rests on later minutes and farther stops alone -/
def gRes (F : (Nat → Int32) → Nat → Nat → Nat → Int32) (K : Nat) : Prop := ∀ (y : Nat → Int32) (v : Int32) (k m b k0 m0 b0 : Nat), k < K → m ≤ 60 → b ≤ 12 → m0 ≤ 60 → b0 ≤ 12 → (k0 < k ∨ (k0 = k ∧ m0 ≤ m)) → F (upd y ((k0 * 61 + m0) * 13 + b0) v) k m b = F y k m b
/-- what is worked out so far: stops above k, at k the minutes above m, at m the bounds below c -/
def gInv (F : (Nat → Int32) → Nat → Nat → Nat → Int32) (bd : Nat → Nat → Nat) (K : Nat) (y : Nat → Int32) (k m c : Nat) : Prop :=
  ∀ k' m' b', k' < K → m' ≤ 60 → bd k' m' ≤ b' → b' ≤ 12 → (k < k' ∨ (k' = k ∧ (m < m' ∨ (m' = m ∧ b' < c)))) → y ((k' * 61 + m') * 13 + b') = F y k' m' b'
theorem gIdx {k m b k' m' b' : Nat} (h1 : m ≤ 60) (h2 : b ≤ 12) (h3 : m' ≤ 60) (h4 : b' ≤ 12) (h : (k * 61 + m) * 13 + b = (k' * 61 + m') * 13 + b') : k = k' ∧ m = m' ∧ b = b' := by omega
theorem gInv_u {F : (Nat → Int32) → Nat → Nat → Nat → Int32} {bd : Nat → Nat → Nat} {K : Nat} {y : Nat → Int32} {k m c : Nat} (hF : gRes F K) (hk0 : k < K) (hm : m ≤ 60) (hc : c ≤ 12) (h : gInv F bd K y k m c) : gInv F bd K (upd y ((k * 61 + m) * 13 + c) (F y k m c)) k m (c + 1) := by
  intro k' m' b' hk hm' hb hb' hs
  by_cases q : k' = k ∧ m' = m ∧ b' = c
  · obtain ⟨rfl, rfl, rfl⟩ := q
    rw [pk_us, hF _ _ _ _ _ _ _ _ hk0 hm hc hm hc (Or.inr ⟨rfl, Nat.le_refl _⟩)]
  · rw [pk_un (fun e => q (gIdx hm' hb' hm hc e)), hF _ _ _ _ _ _ _ _ hk hm' hb' hm hc (by omega)]
    exact h k' m' b' hk hm' hb hb' (by omega)
theorem gInv_1 {F : (Nat → Int32) → Nat → Nat → Nat → Int32} {bd : Nat → Nat → Nat} {K : Nat} {y : Nat → Int32} {k m b : Nat} (hF : gRes F K) (hk0 : k < K) (hm : m ≤ 60) (h : gInv F bd K y k m b) : ∀ n, b + n ≤ 13 → gInv F bd K (gY1 F k m b y n) k m (b + n)
  | 0, _ => h
  | n + 1, hn => gInv_u hF hk0 hm (by omega) (gInv_1 hF hk0 hm h n (by omega))
/-- stops above k, at k the minutes from M on -/
def gI2 (F : (Nat → Int32) → Nat → Nat → Nat → Int32) (bd : Nat → Nat → Nat) (K : Nat) (y : Nat → Int32) (k M : Nat) : Prop :=
  ∀ k' m' b', k' < K → m' ≤ 60 → bd k' m' ≤ b' → b' ≤ 12 → (k < k' ∨ (k' = k ∧ M ≤ m')) → y ((k' * 61 + m') * 13 + b') = F y k' m' b'
theorem gInv_2 {F : (Nat → Int32) → Nat → Nat → Nat → Int32} {bd : Nat → Nat → Nat} {K : Nat} {y : Nat → Int32} {k : Nat} (hF : gRes F K) (hk0 : k < K) (hb : ∀ k m, bd k m ≤ 12) (h : gI2 F bd K y k 61) : ∀ n, n ≤ 61 → gI2 F bd K (gY2 F bd k y n) k (61 - n)
  | 0, _ => h
  | n + 1, hn => by
    have ih := gInv_2 hF hk0 hb h n (by omega)
    have hb' := hb k (61 - n - 1)
    have i0 : gInv F bd K (gY2 F bd k y n) k (61 - n - 1) (bd k (61 - n - 1)) := fun k' m' b' h1 h2 h3 h4 h5 => by
      refine ih k' m' b' h1 h2 h3 h4 ?_
      rcases h5 with h5 | ⟨h5, h6⟩
      · exact Or.inl h5
      · rcases h6 with h6 | ⟨h6, h7⟩
        · exact Or.inr ⟨h5, by omega⟩
        · rw [h5, h6] at h3; omega
    have i1 := gInv_1 hF hk0 (by omega) i0 (13 - bd k (61 - n - 1)) (by omega)
    intro k' m' b' h1 h2 h3 h4 h5
    refine i1 k' m' b' h1 h2 h3 h4 ?_
    rcases h5 with h5 | ⟨h5, h6⟩
    · exact Or.inl h5
    · exact Or.inr ⟨h5, by omega⟩
theorem gInv_3 {F : (Nat → Int32) → Nat → Nat → Nat → Int32} {bd : Nat → Nat → Nat} {K : Nat} {y : Nat → Int32} (hF : gRes F K) (hb : ∀ k m, bd k m ≤ 12) : ∀ n, n ≤ K → ∀ k' m' b', k' < K → m' ≤ 60 → bd k' m' ≤ b' → b' ≤ 12 → K - n ≤ k' → gY3 F bd K y n ((k' * 61 + m') * 13 + b') = F (gY3 F bd K y n) k' m' b'
  | 0, _, k', _, _, h1, _, _, _, h5 => by omega
  | n + 1, hn, k', m', b', h1, h2, h3, h4, h5 => by
    have ih := gInv_3 (y := y) hF hb n (by omega)
    have i0 : gI2 F bd K (gY3 F bd K y n) (K - n - 1) 61 := fun k' m' b' h1 h2 h3 h4 h5 => ih k' m' b' h1 h2 h3 h4 (by omega)
    exact gInv_2 hF (by omega) hb i0 61 (Nat.le_refl _) k' m' b' h1 h2 h3 h4 (by omega)
/-- the table holds what it is worked out of -/
theorem gFix {F : (Nat → Int32) → Nat → Nat → Nat → Int32} {bd : Nat → Nat → Nat} {K : Nat} {y : Nat → Int32} (hF : gRes F K) (hb : ∀ k m, bd k m ≤ 12) {k m b : Nat} (h1 : k < K) (h2 : m ≤ 60) (h3 : bd k m ≤ b) (h4 : b ≤ 12) : gY3 F bd K y K ((k * 61 + m) * 13 + b) = F (gY3 F bd K y K) k m b :=
  gInv_3 hF hb K (Nat.le_refl _) k m b h1 h2 h3 h4 (by omega)
/-- the reference's table is such a one -/
theorem x5Y1_g {st : Nat} {nw : Nat → Int32} {lb : Nat} {wn : Nat → Nat} {y : Nat → Int32} {k m b : Nat} : ∀ n, x5Y1 st nw lb wn y k m b n = gY1 (x5Wr st nw lb wn) k m b y n
  | 0 => rfl
  | n + 1 => by simp only [x5Y1, gY1]; rw [x5Y1_g n]
theorem x5Y2_g {st : Nat} {nw : Nat → Int32} {lb : Nat} {wn : Nat → Nat} {y : Nat → Int32} {k : Nat} : ∀ n, x5Y2 st nw lb wn y k n = gY2 (x5Wr st nw lb wn) (fun k m => x5Fs nw lb k (nI m)) k y n
  | 0 => rfl
  | n + 1 => by simp only [x5Y2, gY2]; rw [x5Y2_g n, x5Y1_g]
theorem x5Y3_g {st : Nat} {nw : Nat → Int32} {lb : Nat} {wn : Nat → Nat} {y : Nat → Int32} : ∀ n, x5Y3 st nw lb wn y n = gY3 (x5Wr st nw lb wn) (fun k m => x5Fs nw lb k (nI m)) st y n
  | 0 => rfl
  | n + 1 => by simp only [x5Y3, gY3]; rw [x5Y3_g n, x5Y2_g]
theorem xRes_y {y : Nat → Int32} {v : Int32} {k m b k0 m0 b0 : Nat} (h1 : m ≤ 60) (h2 : b ≤ 12) (h3 : m0 ≤ 60) (h4 : b0 ≤ 12) (h : k0 < k ∨ (k0 = k ∧ m0 < m)) : upd y ((k0 * 61 + m0) * 13 + b0) v ((k * 61 + m) * 13 + b) = y ((k * 61 + m) * 13 + b) := pk_un (by omega)
theorem x5La_r {st : Nat} {nw : Nat → Int32} {lb : Nat} {y : Nat → Int32} {v : Int32} {k m b k0 m0 b0 : Nat} (hm : m < 2 ^ 31) (h3 : m0 ≤ 60) (h4 : b0 ≤ 12) (h : k0 < k ∨ (k0 = k ∧ m0 < m)) : x5La st nw lb (upd y ((k0 * 61 + m0) * 13 + b0) v) k m b = x5La st nw lb y k m b := by
  unfold x5La
  by_cases q : 60 < nI m
  · rw [if_pos q, if_pos q]
  · rw [if_neg q, if_neg q]
    have w := mt (nI_ltI (a := 60) (b := m) (by decide) hm).mpr q
    exact xRes_y (by omega) (x5Fr_le _ _ _ _ _) h3 h4 h
theorem x5Of_r {st : Nat} {nw : Nat → Int32} {lb : Nat} {wn : Nat → Nat} {y : Nat → Int32} {v : Int32} {k m b k0 m0 b0 : Nat} (w : wn (k + 1) < 2 ^ 30) (hm : m ≤ 60) (h3 : m0 ≤ 60) (h4 : b0 ≤ 12) (h : k0 < k ∨ (k0 = k ∧ m0 ≤ m)) : x5Of st nw lb wn (upd y ((k0 * 61 + m0) * 13 + b0) v) k m b = x5Of st nw lb wn y k m b := by
  unfold x5Of
  rw [x5La_r (k := k + 1) (by omega) h3 h4 (by omega)]
theorem x5Wr_r {st : Nat} {nw : Nat → Int32} {lb : Nat} {wn : Nat → Nat} (hw : ∀ i, 1 ≤ i → i ≤ st → wn i < 2 ^ 30) : gRes (x5Wr st nw lb wn) st := fun y v k m b k0 m0 b0 hk h1 h2 h3 h4 h => by
  unfold x5Wr
  rw [x5Of_r (hw (k + 1) (by omega) (by omega)) h1 h3 h4 h, x5La_r (k := k) (m := m + 1) (by omega) h3 h4 (by omega)]
/-! the class's plan, exactly -/
def xBd0 (rj : Nat → Int32) (k m : Nat) : Nat := xBn (rj k) (nI m) 0
def xY3 (lz : Nat) (rq : Int32) (wf rj : Nat → Int32) (wn : Nat → Nat) (wh hz y : Nat → Int32) : Nat → Nat → Int32 := gY3 (fun g => xLs lz rq g wf rj wn wh hz) (xBd0 rj) lz y
theorem sSu_r {lz : Nat} {y wf wh : Nat → Int32} {v : Int32} {k m b k0 m0 b0 : Nat} (hm : m < 2 ^ 31) (hb : b ≤ 12) (h3 : m0 ≤ 60) (h4 : b0 ≤ 12) (h : k0 < k ∨ (k0 = k ∧ m0 < m)) : sSu lz (upd y ((k0 * 61 + m0) * 13 + b0) v) wf wh k m b = sSu lz y wf wh k m b := by
  unfold sSu
  by_cases q : 60 < m
  · rw [if_pos q, if_pos q]
  · rw [if_neg q, if_neg q, xRes_y (by omega) hb h3 h4 h]
theorem xLs_r {lz : Nat} {rq : Int32} {wf rj : Nat → Int32} {wn : Nat → Nat} {wh hz : Nat → Int32} (hw : ∀ i, i < lz → wn i < 2 ^ 30) : gRes (fun g => xLs lz rq g wf rj wn wh hz) lz := fun y v k m b k0 m0 b0 hk h1 h2 h3 h4 h => by
  have w := hw k hk
  dsimp only
  unfold xLs xWk
  rw [sSu_r (k := k) (m := m + 1) (by omega) (xBn_le _ _ _) h3 h4 (by omega), sSu_r (k := k + 1) (m := m + wn k) (by omega) (xBn_le _ _ _) h3 h4 (by omega)]

/-! the class's plan against the reference's table -/
def xPl (st : Nat) (ho pa : Int32) (lg : Nat → Int32) (ki ru ne : Int32) (ch : Nat → Int32) (lz : Nat) (rq : Int32) (sm wf rj : Nat → Int32) (wn : Nat → Nat) (wh hz : Nat → Int32) : Prop :=
  (lz = st - 1 ∧ rq = sRide ki ru (nI (st - 1)) + xWy (xYd st ho lg (st - 1)) pa) ∧ (∀ i, i < st → rj i = sRide ki ru (nI i) ∧ nI (wn i) = xWy (xYd st ho lg i) pa ∧ wh i = xWh st ho pa lg i ∧ hz i = sHalt ki (nI i) (nI (st - 1))) ∧
  (∀ t, t ≤ 12 → wf t = xSm ch 12 + ne - xWa ch (nI t)) ∧ (∀ i, i ≤ 6 → wn i ≤ 1000) ∧
  ∀ k m b, k < lz → m ≤ 60 → xBd0 rj k m ≤ b → b ≤ 12 → sm ((k * 61 + m) * 13 + b) = xLs lz rq sm wf rj wn wh hz k m b
/-- the same, in the reference's numbers: rides r, the row's weights, ways and the rest -/
def xPq (st : Nat) (nw : Nat → Int32) (lb : Nat) (wn5 : Nat → Nat) (r : Nat → Nat) (lz : Nat) (rq : Int32) (sm wf rj : Nat → Int32) (wn : Nat → Nat) (wh hz : Nat → Int32) : Prop :=
  (lz = st - 1 ∧ 1 ≤ st ∧ st ≤ 7 ∧ rq = xTO nw lb (st - 1) + (xLm nw st st + nw 2 - 1) / nw 2) ∧
  (∀ i, i < st → rj i = nI (r i) ∧ xTO nw lb i = nI (r i) ∧ r i ≤ 65 ∧ wn i = wn5 (i + 1) ∧ wh i = xRs nw st i ∧ hz i = sHalt (nw lb) (nI i) (nI (st - 1))) ∧
  (∀ t, t ≤ 12 → wf t = xWs (fun i => nw (lb + i)) t) ∧ (∀ i, i < st → wn i ≤ 1000) ∧
  (∀ t, t < 12 → xWt (fun i => nw (lb + i)) t + xWs (fun i => nw (lb + i)) (t + 1) = xWs (fun i => nw (lb + i)) t) ∧
  ∀ k m b, k < lz → m ≤ 60 → min 12 (m - r k) ≤ b → b ≤ 12 → sm ((k * 61 + m) * 13 + b) = xLs lz rq sm wf rj wn wh hz k m b
theorem xBn_n {r m b : Nat} (h1 : r < 2 ^ 20) (h2 : m < 2 ^ 20) (h3 : b ≤ 12) : xBn (nI r) (nI m) (nI b) = min 12 (max b (m - r)) := by
  have et : (nI m - nI r).toInt = (m : Int) - r := pk_sub_toInt (by omega) (by omega)
  have eb : (nI b).toInt = (b : Int) := nI_toInt (by omega)
  have e12 : (12 : Int32).toInt = 12 := by decide
  unfold xBn xBd
  by_cases h : nI b < nI m - nI r
  · rw [if_pos h]
    rw [xi_lt, et, eb] at h
    by_cases q : nI m - nI r < 12
    · rw [if_pos q, et]; rw [xi_lt, et, e12] at q; omega
    · rw [if_neg q, e12]; rw [xi_lt, et, e12] at q; omega
  · rw [if_neg h]
    rw [xi_lt, et, eb] at h
    by_cases q : nI b < 12
    · rw [if_pos q, eb]; rw [xi_lt, eb, e12] at q; omega
    · rw [if_neg q, e12]; rw [xi_lt, eb, e12] at q; omega
theorem xBn_0 {r m : Nat} (h1 : r < 2 ^ 20) (h2 : m < 2 ^ 20) : xBn (nI r) (nI m) 0 = min 12 (m - r) := by
  have q := xBn_n (r := r) (m := m) (b := 0) h1 h2 (by decide)
  rw [show (0 : Int32) = nI 0 by decide, q]
  omega
/-- is it at the stop now -/
theorem x5Is_e {nw : Nat → Int32} {lb k m b r : Nat} (e : xTO nw lb k = nI r) (hr : r < 2 ^ 20) (hm : m < 2 ^ 20) (hb : b ≤ 12) : x5Is nw lb k m b = if r ≤ m ∧ m - r = b ∧ b < 12 then 1 else 0 := by
  have et : (nI m - nI r).toInt = (m : Int) - r := pk_sub_toInt (by omega) (by omega)
  have eb : (nI b).toInt = (b : Int) := nI_toInt (by omega)
  unfold x5Is
  rw [e]
  by_cases h : nI m - nI r = nI b
  · rw [if_pos h]
    rw [xi_eq, et, eb] at h
    by_cases q : b < 12
    · rw [if_pos (show nI b < 12 from (nI_ltI (a := b) (b := 12) (by omega) (by decide)).mpr q), if_pos (by omega)]
    · rw [if_neg (show ¬ nI b < 12 from mt (nI_ltI (a := b) (b := 12) (by omega) (by decide)).mp q), if_neg (by omega)]
  · rw [if_neg h]
    rw [xi_eq, et, eb] at h
    rw [if_neg (by omega)]
theorem xW9_e {wf : Nat → Int32} {m b r : Nat} (hr : r < 2 ^ 20) (hm : m < 2 ^ 20) (hb : b ≤ 12) (hbd : min 12 (m - r) ≤ b) : xW9 wf (nI m - nI r) b = if r ≤ m ∧ m - r = b ∧ b < 12 then wf b - wf (b + 1) else 0 := by
  have et : (nI m - nI r).toInt = (m : Int) - r := pk_sub_toInt (by omega) (by omega)
  have eb : (nI b).toInt = (b : Int) := nI_toInt (by omega)
  have e12 : (12 : Int32).toInt = 12 := by decide
  unfold xW9
  by_cases h : nI m - nI r < nI b
  · rw [if_pos h]
    rw [xi_lt, et, eb] at h
    rw [if_neg (by omega)]
  · rw [if_neg h]
    rw [xi_lt, et, eb] at h
    by_cases q : nI m - nI r < 12
    · rw [if_pos q]
      rw [xi_lt, et, e12] at q
      have e : nI m - nI r = nI b := by rw [xi_eq, et, eb]; omega
      rw [if_pos (by omega), e, nI_1, nI_clamp (by omega), nI_clamp (by omega)]
    · rw [if_neg q]
      rw [xi_lt, et, e12] at q
      rw [if_neg (by omega)]
theorem xMn_c (a b : Int32) : xMn a b = xMn b a := by
  unfold xMn
  by_cases h : b < a
  · rw [if_pos h, if_neg (by rw [xi_lt] at h ⊢; omega)]
  · rw [if_neg h]
    by_cases q : a < b
    · rw [if_pos q]
    · rw [if_neg q, xi_eq]
      rw [xi_lt] at h q
      omega
section XPQ
variable {st lb lz : Nat} {nw sm wf rj wh hz Y : Nat → Int32} {wn5 r wn : Nat → Nat} {rq : Int32}
theorem xPq_fr (hP : xPq st nw lb wn5 r lz rq sm wf rj wn wh hz) {k m b : Nat} (hk : k < st) (hm : m < 2 ^ 20) (hb : b ≤ 12) : x5Fr nw lb k m b = min 12 (max b (m - r k)) ∧ xBn (rj k) (nI m) (nI b) = min 12 (max b (m - r k)) := by
  obtain ⟨e1, e2, h65, -⟩ := hP.2.1 k hk
  unfold x5Fr
  rw [e1, e2]
  exact ⟨xBn_n (by omega) hm hb, xBn_n (by omega) hm hb⟩
theorem xPq_hl (a : Int32) (b : Int32) : ¬ sHalt a b b = 0 := by
  unfold sHalt
  rw [if_neg (fun h => h.2.1 rfl)]
  decide
/-- at the last stop -/
theorem xPq_last (hP : xPq st nw lb wn5 r lz rq sm wf rj wn wh hz) {m b : Nat} (hm : m ≤ 60) (hb : b ≤ 12) : x5Wr st nw lb wn5 Y (st - 1) m b = xWs (fun i => nw (lb + i)) b * (nI m + xRs nw st (st - 1)) := by
  obtain ⟨⟨e0, h1, h7, erq⟩, hi, -, -, hw, -⟩ := hP
  obtain ⟨a1, a2, a3, -⟩ := hi (st - 1) (by omega)
  have ers : xRs nw st (st - 1) = (xLm nw st st + nw 2 - 1) / nw 2 := by
    unfold xRs
    rw [show st - (st - 1) = 0 + 1 by omega]
    simp only [xSmF]
    rw [Nat.add_zero, show st - 1 + 1 = st by omega, Int32.zero_add]
  have ei := x5Is_e (b := b) a2 (show r (st - 1) < 2 ^ 20 by omega) (show m < 2 ^ 20 by omega) hb
  unfold x5Wr
  rw [if_pos rfl]
  unfold x5Of
  rw [if_pos rfl]
  unfold x5Sm x5Nx
  rw [ei]
  by_cases c : r (st - 1) ≤ m ∧ m - r (st - 1) = b ∧ b < 12
  · rw [if_pos c, if_neg (show ¬ (1 : Int32) = 0 by decide), if_neg (xPq_hl _ _), if_neg (show ¬ (1 : Int32) = 0 by decide), ers, a2, ← hw b c.2.2, show nI b + nI (r (st - 1)) = nI m by rw [nI_add]; exact congrArg nI (by omega)]
    generalize xWt (fun i => nw (lb + i)) b = x
    generalize xWs (fun i => nw (lb + i)) (b + 1) = y
    generalize nI m + (xLm nw st st + nw 2 - 1) / nw 2 = z
    rw [Int32.add_mul]
  · rw [if_neg c, if_pos rfl, if_pos rfl, Int32.zero_add]
/-- one look at the table against one look at the class's -/
theorem xPq_la (hP : xPq st nw lb wn5 r lz rq sm wf rj wn wh hz) (hY : ∀ k m b, k < st → m ≤ 60 → min 12 (m - r k) ≤ b → b ≤ 12 → Y ((k * 61 + m) * 13 + b) = x5Wr st nw lb wn5 Y k m b) {k m b : Nat} (hk : k < st) (hm : m ≤ 2000) (hb : b ≤ 12)
    (hM : k < lz → m ≤ 60 → ∀ b, min 12 (m - r k) ≤ b → b ≤ 12 → sm ((k * 61 + m) * 13 + b) = Y ((k * 61 + m) * 13 + b)) :
    sSu lz sm wf wh k m (min 12 (max b (m - r k))) = x5La st nw lb Y k m b := by
  have ef := (xPq_fr hP hk (show m < 2 ^ 20 by omega) hb).1
  have hP0 := hP
  obtain ⟨⟨e0, h1, h7, erq⟩, hi, hf, -⟩ := hP
  obtain ⟨a1, a2, a3, a4, a5, a6⟩ := hi k hk
  unfold x5La sSu
  rw [ef]
  have hB : min 12 (max b (m - r k)) ≤ 12 := Nat.min_le_left _ _
  have hBd : min 12 (m - r k) ≤ min 12 (max b (m - r k)) := by omega
  generalize min 12 (max b (m - r k)) = B at hB hBd ⊢
  rw [hf B hB, a5]
  by_cases q : 60 < m
  · rw [if_pos q, if_pos (show (60 : Int32) < nI m from (nI_ltI (a := 60) (b := m) (by decide) (by omega)).mpr q)]
    split <;> rfl
  · rw [if_neg q, if_neg (show ¬ (60 : Int32) < nI m from mt (nI_ltI (a := 60) (b := m) (by decide) (by omega)).mp q)]
    by_cases c : k < lz
    · rw [if_pos c]; exact hM c (by omega) B hBd hB
    · rw [if_neg c, hY k m B hk (by omega) hBd hB, show k = st - 1 by omega]
      exact (xPq_last hP0 (by omega) hB).symm
/-- what he knows next: the same both ways -/
theorem xPq_nx (hP : xPq st nw lb wn5 r lz rq sm wf rj wn wh hz) {k m b : Nat} (hk : k < lz) (hm : m ≤ 60) (hbd : min 12 (m - r k) ≤ b) (hb : b ≤ 12) : xBn (rj k) (nI (m + 1)) (nI b) = x5Nx nw lb k m b ∧ x5Nx nw lb k m b ≤ 12 ∧ min 12 (m + 1 - r k) ≤ x5Nx nw lb k m b := by
  have hP0 := hP
  obtain ⟨⟨e0, h1, h7, erq⟩, hi, hf, hwn, hw, -⟩ := hP
  obtain ⟨a1, a2, a3, a4, a5, a6⟩ := hi k (by omega)
  have ei := x5Is_e (b := b) a2 (show r k < 2 ^ 20 by omega) (show m < 2 ^ 20 by omega) hb
  have ef := (xPq_fr hP0 (k := k) (by omega) (show m + 1 < 2 ^ 20 by omega) hb).2
  have enx : xBn (rj k) (nI (m + 1)) (nI b) = x5Nx nw lb k m b := by
    rw [ef]
    unfold x5Nx
    rw [ei]
    by_cases c : r k ≤ m ∧ m - r k = b ∧ b < 12
    · rw [if_pos c, if_neg (by decide)]; omega
    · rw [if_neg c, if_pos rfl]; omega
  refine ⟨enx, x5Nx_le hb, ?_⟩
  rw [← enx, ef]
  omega
/-- to stay, to walk on -/
theorem xPq_ab (hP : xPq st nw lb wn5 r lz rq sm wf rj wn wh hz) (hY : ∀ k m b, k < st → m ≤ 60 → min 12 (m - r k) ≤ b → b ≤ 12 → Y ((k * 61 + m) * 13 + b) = x5Wr st nw lb wn5 Y k m b) {k m N : Nat} (hk : k < lz) (hm : m < 60) (hnx : N ≤ 12) (hnb : min 12 (m + 1 - r k) ≤ N)
    (hM : ∀ k' m', (k < k' ∨ (k' = k ∧ m < m')) → k' < lz → m' ≤ 60 → ∀ b, min 12 (m' - r k') ≤ b → b ≤ 12 → sm ((k' * 61 + m') * 13 + b) = Y ((k' * 61 + m') * 13 + b)) :
    sSu lz sm wf wh k (m + 1) N = x5La st nw lb Y k (m + 1) N ∧ xWk lz sm wf rj wn wh k m N = x5Of st nw lb wn5 Y k m N := by
  have hP0 := hP
  obtain ⟨⟨e0, h1, h7, erq⟩, hi, hf, hwn, hw, -⟩ := hP
  obtain ⟨a1, a2, a3, a4, a5, a6⟩ := hi k (by omega)
  have w1 := hwn k (by omega)
  have hkl : ¬ nI k = nI (st - 1) := fun e => by have := (xnI_inj (show k < 2 ^ 31 by omega) (show st - 1 < 2 ^ 31 by omega)).mp e; omega
  constructor
  · rw [← xPq_la hP0 hY (k := k) (m := m + 1) (b := N) (by omega) (by omega) hnx (fun h1 h2 => hM k (m + 1) (Or.inr ⟨rfl, by omega⟩) h1 h2)]
    exact congrArg _ (by omega)
  · unfold xWk x5Of
    rw [if_neg hkl, if_neg (show ¬ nI m = 60 from fun e => by have := (xnI_inj (a := m) (b := 60) (by omega) (by decide)).mp e; omega), ← a4, a5, hf _ hnx]
    obtain ⟨f1, f2⟩ := xPq_fr hP0 (k := k + 1) (m := m + wn k) (b := N) (by omega) (by omega) hnx
    rw [f1, f2]
    have hB : min 12 (max N (m + wn k - r (k + 1))) ≤ 12 := Nat.min_le_left _ _
    rw [hf _ hB]
    have q := xPq_la hP0 hY (k := k + 1) (m := m + wn k) (b := min 12 (max N (m + wn k - r (k + 1)))) (by omega) (by omega) hB (fun h1 h2 => hM (k + 1) (m + wn k) (Or.inl (by omega)) h1 h2)
    rw [← q]
    exact congrArg _ (congrArg _ (by omega))
/-- one entry worked out both ways -/
theorem xPq_st (hP : xPq st nw lb wn5 r lz rq sm wf rj wn wh hz) (hY : ∀ k m b, k < st → m ≤ 60 → min 12 (m - r k) ≤ b → b ≤ 12 → Y ((k * 61 + m) * 13 + b) = x5Wr st nw lb wn5 Y k m b) {k m b : Nat} (hk : k < lz) (hm : m ≤ 60) (hbd : min 12 (m - r k) ≤ b) (hb : b ≤ 12)
    (hM : ∀ k' m', (k < k' ∨ (k' = k ∧ m < m')) → k' < lz → m' ≤ 60 → ∀ b, min 12 (m' - r k') ≤ b → b ≤ 12 → sm ((k' * 61 + m') * 13 + b) = Y ((k' * 61 + m') * 13 + b)) :
    xLs lz rq sm wf rj wn wh hz k m b = x5Wr st nw lb wn5 Y k m b := by
  have hP0 := hP
  obtain ⟨⟨e0, h1, h7, erq⟩, hi, hf, hwn, hw, -⟩ := hP
  obtain ⟨a1, a2, a3, a4, a5, a6⟩ := hi k (by omega)
  obtain ⟨b1, b2, b3, -⟩ := hi (k + 1) (by omega)
  have w1 := hwn k (by omega)
  have ei := x5Is_e (b := b) a2 (show r k < 2 ^ 20 by omega) (show m < 2 ^ 20 by omega) hb
  have e9 := xW9_e (wf := wf) (show r k < 2 ^ 20 by omega) (show m < 2 ^ 20 by omega) hb hbd
  obtain ⟨enx, hnx, hnb⟩ := xPq_nx hP0 hk hm hbd hb
  have eS : xW9 wf (nI m - rj k) b * (if hz k = 0 then nI m + wh k else nI m - rj k + rq) = x5Sm st nw lb k m b := by
    unfold x5Sm
    rw [ei, a1, e9]
    by_cases c : r k ≤ m ∧ m - r k = b ∧ b < 12
    · rw [if_pos c, if_pos c, if_neg (show ¬ (1 : Int32) = 0 by decide), hf b hb, hf (b + 1) (by omega), ← hw b c.2.2, a6, a5, erq, show nI m - nI (r k) = nI b from (pk_sub c.1).trans (congrArg nI c.2.1)]
      have e1 : xWt (fun i => nw (lb + i)) b + xWs (fun i => nw (lb + i)) (b + 1) - xWs (fun i => nw (lb + i)) (b + 1) = xWt (fun i => nw (lb + i)) b := by
        generalize xWt (fun i => nw (lb + i)) b = x
        generalize xWs (fun i => nw (lb + i)) (b + 1) = y
        grind
      rw [e1, Int32.add_assoc]
    · rw [if_neg c, if_neg c, if_pos rfl, Int32.zero_mul]
  have hkl : ¬ nI k = nI (st - 1) := fun e => by have := (xnI_inj (show k < 2 ^ 31 by omega) (show st - 1 < 2 ^ 31 by omega)).mp e; omega
  unfold xLs x5Wr
  rw [eS, if_neg hkl]
  by_cases c60 : m < 60
  · rw [if_pos c60, if_neg (show ¬ nI m = 60 from fun e => by have := (xnI_inj (a := m) (b := 60) (by omega) (by decide)).mp e; omega), enx, xMn_c]
    obtain ⟨eA, eB⟩ := xPq_ab hP0 hY hk c60 hnx hnb hM
    rw [eA, eB]
  · have hm60 : m = 60 := by omega
    rw [if_neg c60, if_pos (show nI m = 60 by rw [hm60]; rfl)]
    refine congrArg _ ?_
    unfold x5Of
    rw [if_neg hkl, if_pos (show nI m = 60 by rw [hm60]; rfl), a5, a1, e9]
    unfold x5Nx
    rw [ei]
    by_cases c : r k ≤ m ∧ m - r k = b ∧ b < 12
    · rw [if_pos c, if_pos c, if_neg (show ¬ (1 : Int32) = 0 by decide), hf b hb, hf (b + 1) (by omega)]
      refine congrArg (· * _) ?_
      generalize xWs (fun i => nw (lb + i)) b = x
      generalize xWs (fun i => nw (lb + i)) (b + 1) = y
      grind
    · rw [if_neg c, if_neg c, if_pos rfl, hf b hb, Int32.sub_zero]
/-- the two tables hold the same -/
theorem xPq_tb (hP : xPq st nw lb wn5 r lz rq sm wf rj wn wh hz) (hY : ∀ k m b, k < st → m ≤ 60 → min 12 (m - r k) ≤ b → b ≤ 12 → Y ((k * 61 + m) * 13 + b) = x5Wr st nw lb wn5 Y k m b) : ∀ (n k : Nat), k + n = lz → k < lz → ∀ m, m ≤ 60 → ∀ b, min 12 (m - r k) ≤ b → b ≤ 12 → sm ((k * 61 + m) * 13 + b) = Y ((k * 61 + m) * 13 + b)
  | 0, k, h, hk => by omega
  | n + 1, k, h, hk => by
    have hup : ∀ k', k < k' → k' < lz → ∀ m, m ≤ 60 → ∀ b, min 12 (m - r k') ≤ b → b ≤ 12 → sm ((k' * 61 + m) * 13 + b) = Y ((k' * 61 + m) * 13 + b) := fun k' h1 h2 => by
      have key : ∀ d, ∀ k', k' = k + 1 + d → k' < lz → ∀ m, m ≤ 60 → ∀ b, min 12 (m - r k') ≤ b → b ≤ 12 → sm ((k' * 61 + m) * 13 + b) = Y ((k' * 61 + m) * 13 + b) := fun d k' e1 e2 => xPq_tb hP hY (n - d) k' (by omega) e2
      exact key (k' - (k + 1)) k' (by omega) h2
    have mm : ∀ u m, m + u = 60 → ∀ b, min 12 (m - r k) ≤ b → b ≤ 12 → sm ((k * 61 + m) * 13 + b) = Y ((k * 61 + m) * 13 + b) := by
      intro u
      induction u using Nat.strongRecOn with
      | ind u ih =>
        intro m hmu b hbd hb
        rw [hP.2.2.2.2.2 k m b hk (by omega) hbd hb, hY k m b (by have := hP.1.1; have := hP.1.2.1; omega) (by omega) hbd hb]
        refine xPq_st hP hY hk (by omega) hbd hb (fun k' m' h1 h2 h3 => ?_)
        rcases h1 with h1 | ⟨rfl, h1⟩
        · exact hup k' h1 h2 m' h3
        · exact ih (60 - m') (by omega) m' (by omega)
    intro m hm
    exact mm (60 - m) m (by omega)
termination_by n => n
decreasing_by omega
end XPQ

/-! the plan made is the plan of the road's line -/
theorem xPl_q {st ln l lz : Nat} {ho pa si li rq : Int32} {lg ki ru ne nw sm wf rj wh hz : Nat → Int32} {ch : Nat → Nat → Int32} {wn5 wn : Nat → Nat} (hV : xVc st ln ho pa lg) (hR : xRel (st, ln, ho, pa, si, li, lg, ki, ru, ne, ch) nw) (hD : xDi (st, ln, ho, pa, si, li, lg, ki, ru, ne, ch)) (hl : l < ln) (hw5 : ∀ j, 1 ≤ j → j ≤ st → (xLm nw st j + nw 2 - 1) / nw 2 = nI (wn5 j) ∧ wn5 j ≤ 1000)
    (hP : xPl st ho pa lg (ki l) (ru l) (ne l) (ch l) lz rq sm wf rj wn wh hz) : ∃ r : Nat → Nat, xPq st nw (20 + 16 * l) wn5 r lz rq sm wf rj wn wh hz := by
  obtain ⟨⟨e0, erq⟩, hi, hf, hwn, hs⟩ := hP
  have h1 := hV.1.1
  have h7 := hV.1.2
  obtain ⟨d1, d2, d3, d4⟩ := xLn_t hR hl
  obtain ⟨c1, -⟩ := hD.2.2 l hl
  have b2 : nw 2 = pa := hR.2.1.2.1
  have hq : ¬ pa < 1 := by
    obtain ⟨-, -, ⟨v, e, c1, c2⟩, -⟩ := hV
    rw [e]; exact mt (nI_ltI (a := v) (b := 1) (by omega) (by decide)).mp (by omega)
  have ew : ∀ i, i < st → xWy (xYd st ho lg i) pa = (xLm nw st (i + 1) + nw 2 - 1) / nw 2 := fun i hi => by
    rw [xLm_e hR hi, b2]
    unfold xWy
    rw [if_neg hq]
  have er : ∀ i, i < st → ∃ v, sRide (ki l) (ru l) (nI i) = nI v ∧ v ≤ 65 := fun i hi => xRd_b c1 (by omega)
  have et : ∀ i, i < st → xTO nw (20 + 16 * l) i = sRide (ki l) (ru l) (nI i) := fun i hi => by
    unfold xTO
    rw [d1, d2]
    exact xRide_s _ _ _ (by omega)
  refine ⟨fun i => (sRide (ki l) (ru l) (nI i)).toNatClampNeg, ⟨e0, h1, h7, ?_⟩, fun i hi' => ?_, fun t ht => ?_, fun i hi' => hwn i (by omega), fun t ht => ?_, fun k m b hk hm hb hb2 => ?_⟩
  · have w := ew (st - 1) (by omega)
    rw [show st - 1 + 1 = st by omega] at w
    rw [erq, et (st - 1) (by omega), w]
  · obtain ⟨v, ev, hv⟩ := er i hi'
    obtain ⟨p1, p2, p3, p4⟩ := hi i hi'
    dsimp only
    rw [p1, et i hi', ev, nI_clamp (by omega), p3, p4, xRs_e hV hR, d1]
    refine ⟨rfl, rfl, hv, ?_, rfl, rfl⟩
    obtain ⟨q1, q2⟩ := hw5 (i + 1) (by omega) (by omega)
    rw [ew i hi', q1] at p2
    have w := hwn i (by omega)
    exact (xnI_inj (by omega) (by omega)).mp p2
  · rw [hf t ht, xWs_m hR hl ht]
    unfold xWa
    rw [nI_clamp (by omega), show min 12 t = t by omega]
  · rw [xWs_m hR hl (show t + 1 ≤ 12 by omega), xWs_m hR hl (show t ≤ 12 by omega)]
    have e1 : xWt (fun i => nw (20 + 16 * l + i)) t = ch l t := by
      unfold xWt
      rw [if_neg (by omega)]
      exact d4 t ht
    rw [e1]
    simp only [xSm]
    generalize ch l t = x
    generalize xSm (ch l) t = y
    grind
  · refine hs k m b hk hm ?_ hb2
    obtain ⟨v, ev, hv⟩ := er k (by omega)
    obtain ⟨p1, -⟩ := hi k (by omega)
    unfold xBd0
    rw [p1, ev, xBn_0 (by omega) (by omega)]
    dsimp only at hb
    rw [ev, nI_clamp (by omega)] at hb
    exact hb
section XRD
variable {st lb lz : Nat} {nw sm wf rj wh hz y : Nat → Int32} {wn5 r wn : Nat → Nat} {rq : Int32}
theorem xPq_fs (hP : xPq st nw lb wn5 r lz rq sm wf rj wn wh hz) {k m : Nat} (hk : k < st) (hm : m < 2 ^ 20) : x5Fs nw lb k (nI m) = min 12 (m - r k) ∧ xBn (rj k) (nI m) 0 = min 12 (m - r k) := by
  obtain ⟨e1, e2, h65, -⟩ := hP.2.1 k hk
  have e3 : x5Fs nw lb k (nI m) = xBn (xTO nw lb k) (nI m) 0 := rfl
  rw [e3, e1, e2]
  exact ⟨xBn_0 (by omega) hm, xBn_0 (by omega) hm⟩
/-- the reference's table -/
theorem xPq_Y (hP : xPq st nw lb wn5 r lz rq sm wf rj wn wh hz) (hw5 : ∀ j, 1 ≤ j → j ≤ st → wn5 j < 2 ^ 30) : ∀ k m b, k < st → m ≤ 60 → min 12 (m - r k) ≤ b → b ≤ 12 → x5Y3 st nw lb wn5 y st ((k * 61 + m) * 13 + b) = x5Wr st nw lb wn5 (x5Y3 st nw lb wn5 y st) k m b := by
  intro k m b hk hm hbd hb
  rw [x5Y3_g]
  refine gFix (F := x5Wr st nw lb wn5) (bd := fun k m => x5Fs nw lb k (nI m)) (K := st) (x5Wr_r hw5) (fun k m => x5Fs_le nw lb k (nI m)) hk hm ?_ hb
  try dsimp only
  rw [(xPq_fs hP hk (by omega)).1]
  exact hbd
theorem xPq_T (hP : xPq st nw lb wn5 r lz rq sm wf rj wn wh hz) (hw5 : ∀ j, 1 ≤ j → j ≤ st → wn5 j < 2 ^ 30) {k m b : Nat} (hk : k < lz) (hm : m ≤ 60) (hbd : min 12 (m - r k) ≤ b) (hb : b ≤ 12) : sm ((k * 61 + m) * 13 + b) = x5Y3 st nw lb wn5 y st ((k * 61 + m) * 13 + b) :=
  xPq_tb hP (xPq_Y hP hw5) (lz - k) k (by omega) hk m hm b hbd hb
/-- the least sum -/
theorem xPq_lea (hP : xPq st nw lb wn5 r lz rq sm wf rj wn wh hz) (hw5 : ∀ j, 1 ≤ j → j ≤ st → wn5 j < 2 ^ 30) {k m : Nat} (hk : k < st) (hm : m ≤ 60) : sSu lz sm wf wh k m (xBn (rj k) (nI m) 0) = x5Y3 st nw lb wn5 y st ((k * 61 + m) * 13 + x5Fs nw lb k (nI m)) := by
  obtain ⟨f1, f2⟩ := xPq_fs hP hk (show m < 2 ^ 20 by omega)
  have q := xPq_la hP (xPq_Y (y := y) hP hw5) (k := k) (m := m) (b := 0) hk (by omega) (by decide) (fun h1 h2 b h3 h4 => xPq_T hP hw5 h1 h2 h3 h4)
  rw [f2, f1]
  rw [show min 12 (max 0 (m - r k)) = min 12 (m - r k) by omega] at q
  rw [q]
  unfold x5La
  rw [if_neg (show ¬ (60 : Int32) < nI m from mt (nI_ltI (a := 60) (b := m) (by decide) (by omega)).mp (by omega)), (xPq_fr hP hk (show m < 2 ^ 20 by omega) (by decide)).1]
  rw [show min 12 (max 0 (m - r k)) = min 12 (m - r k) by omega]
/-- the choice -/
theorem xPq_ch (hP : xPq st nw lb wn5 r lz rq sm wf rj wn wh hz) (hw5 : ∀ j, 1 ≤ j → j ≤ st → wn5 j < 2 ^ 30) {k m : Nat} (hk : k < st) (hm : m ≤ 60) : xCh9 lz sm wf rj wn wh k m = if xWs (fun i => nw (lb + i)) (x5Fs nw lb k (nI m)) = 0 then -9 else if x5Wk st nw lb wn5 (x5Y3 st nw lb wn5 y st) k m (x5Fs nw lb k (nI m)) = 0 then 0 else 1 := by
  obtain ⟨f1, f2⟩ := xPq_fs hP hk (show m < 2 ^ 20 by omega)
  have hb : min 12 (m - r k) ≤ 12 := Nat.min_le_left _ _
  have hst := hP.1.1
  have h1 := hP.1.2.1
  unfold xCh9
  rw [f2, f1, hP.2.2.1 _ hb]
  by_cases c : xWs (fun i => nw (lb + i)) (min 12 (m - r k)) = 0
  · rw [if_pos c, if_pos c]
  rw [if_neg c, if_neg c]
  unfold x5Wk
  by_cases q : k < lz
  · have hkl : ¬ nI k = nI (st - 1) := fun e => by have := (xnI_inj (show k < 2 ^ 31 by have := hP.1.2.2.1; omega) (show st - 1 < 2 ^ 31 by have := hP.1.2.2.1; omega)).mp e; omega
    rw [if_pos q, if_neg hkl]
    by_cases q6 : m < 60
    · have h60 : ¬ nI m = 60 := fun e => by have := (xnI_inj (a := m) (b := 60) (by omega) (by decide)).mp e; omega
      rw [if_pos q6, if_neg h60]
      obtain ⟨n1, n2, n3⟩ := xPq_nx hP q hm (Nat.le_refl (min 12 (m - r k))) hb
      have n4 : xBn (rj k) (nI (m + 1)) 0 = x5Nx nw lb k m (min 12 (m - r k)) := by
        rw [← n1, (xPq_fs hP hk (show m + 1 < 2 ^ 20 by omega)).2, (xPq_fr hP hk (show m + 1 < 2 ^ 20 by omega) hb).2]
        omega
      rw [n4]
      obtain ⟨eA, eB⟩ := xPq_ab hP (xPq_Y (y := y) hP hw5) q q6 n2 n3 (fun k' m' _ h2 h3 b h4 h5 => xPq_T hP hw5 h2 h3 h4 h5)
      rw [eA]
      have eB' : (wf (x5Nx nw lb k m (min 12 (m - r k))) - wf (xBn (rj (k + 1)) (nI (m + wn k)) (nI (x5Nx nw lb k m (min 12 (m - r k)))))) * (nI m + wh k) + sSu lz sm wf wh (k + 1) (m + wn k) (xBn (rj (k + 1)) (nI (m + wn k)) (nI (x5Nx nw lb k m (min 12 (m - r k))))) = x5Of st nw lb wn5 (x5Y3 st nw lb wn5 y st) k m (x5Nx nw lb k m (min 12 (m - r k))) := eB
      rw [eB']
      by_cases q7 : x5Of st nw lb wn5 (x5Y3 st nw lb wn5 y st) k m (x5Nx nw lb k m (min 12 (m - r k))) < x5La st nw lb (x5Y3 st nw lb wn5 y st) k (m + 1) (x5Nx nw lb k m (min 12 (m - r k)))
      · rw [if_pos q7, if_neg (show ¬ (1 : Int32) = 0 by decide)]
      · rw [if_neg q7, if_pos rfl]
    · rw [if_neg q6, if_pos (show nI m = 60 by rw [show m = 60 by omega]; rfl), if_neg (by decide)]
  · rw [if_neg q, if_pos (show nI k = nI (st - 1) by rw [show k = st - 1 by omega]), if_neg (by decide)]
end XRD

/-! the class's plan, made exactly -/
theorem xNar_h (ki a b : Int32) : vp_nar .boolean (sHalt ki a b) = sHalt ki a b := by
  unfold sHalt
  split <;> decide
def xMk (st : Nat) (ho pa : Int32) (lg : Nat → Int32) (ki ru : Int32) (rj : Nat → Int32) (wn : Nat → Nat) (wh hz : Nat → Int32) (k : Nat) : Prop :=
  ∀ i, i < k → rj i = sRide ki ru (nI i) ∧ nI (wn i) = xWy (xYd st ho lg i) pa ∧ wh i = xWh st ho pa lg i ∧ hz i = sHalt ki (nI i) (nI (st - 1))
theorem xMk_0 {st : Nat} {ho pa : Int32} {lg : Nat → Int32} {ki ru : Int32} {rj : Nat → Int32} {wn : Nat → Nat} {wh hz : Nat → Int32} : xMk st ho pa lg ki ru rj wn wh hz 0 := fun i h => absurd h (Nat.not_lt_zero i)
theorem xMk_s {st k w : Nat} {ho pa : Int32} {lg : Nat → Int32} {ki ru : Int32} {rj : Nat → Int32} {wn : Nat → Nat} {wh hz : Nat → Int32} (h : xMk st ho pa lg ki ru rj wn wh hz k) (hw : xWy (xYd st ho lg k) pa = nI w) :
    xMk st ho pa lg ki ru (upd rj k (sRide ki ru (nI k))) (xUpN wn k w) (upd wh k (xWh st ho pa lg k)) (upd hz k (vp_nar .boolean (sHalt ki (nI k) (nI (st - 1))))) (k + 1) := by
  intro i hi
  by_cases q : i = k
  · subst q
    rw [pk_us, pk_us, pk_us, xNar_h]
    refine ⟨rfl, ?_, rfl, rfl⟩
    show nI (if i = i then w else wn i) = _
    rw [if_pos rfl, hw]
  · rw [pk_un q, pk_un q, pk_un q]
    obtain ⟨a, b, c, d⟩ := h i (by omega)
    refine ⟨a, ?_, c, d⟩
    show nI (if i = k then w else wn i) = _
    rw [if_neg q]
    exact b
def xMw (ch : Nat → Int32) (ne : Int32) (wf : Nat → Int32) (t : Nat) : Prop := ∀ i, i < t → wf i = xSm ch 12 + ne - xWa ch (nI i)
theorem xMw_0 {ch wf : Nat → Int32} {ne : Int32} : xMw ch ne wf 0 := fun i h => absurd h (Nat.not_lt_zero i)
theorem xMw_s {ch wf : Nat → Int32} {ne : Int32} {t : Nat} (h : xMw ch ne wf t) (ht : t < 2 ^ 31) : xMw ch ne (upd wf (nI t).toNatClampNeg ((xSm ch 12 + ne) - (xWa ch (nI t)))) (t + 1) := by
  rw [nI_clamp ht]
  intro i hi
  by_cases q : i = t
  · subst q; exact pk_us
  · rw [pk_un q]; exact h i (by omega)
theorem gY1_s {F : (Nat → Int32) → Nat → Nat → Nat → Int32} {k m b n lz : Nat} {g y wf rj wh hz : Nat → Int32} {wn : Nat → Nat} {rq : Int32} (hF : F = fun g => xLs lz rq g wf rj wn wh hz) (h : g = gY1 F k m b y n) (hi : (k * 61 + m) * 13 + (b + n) < 2 ^ 31) : upd g (nI ((k * 61 + m) * 13 + (b + n))).toNatClampNeg (xLs lz rq g wf rj wn wh hz k m (b + n)) = gY1 F k m b y (n + 1) := by
  subst hF
  rw [nI_clamp hi, h]
  rfl
theorem gY2_s {F : (Nat → Int32) → Nat → Nat → Nat → Int32} {k u v : Nat} {g3 g2 y rj : Nat → Int32} (h2 : g2 = gY2 F (xBd0 rj) k y u) (h3 : g3 = gY1 F k (61 - u - 1) (xBn (rj k) (nI (61 - u - 1)) 0) g2 v) (hv : xBn (rj k) (nI (61 - u - 1)) 0 + v = 13) : g3 = gY2 F (xBd0 rj) k y (u + 1) := by
  rw [h3, h2, show v = 13 - xBn (rj k) (nI (61 - u - 1)) 0 by omega]
  rfl
theorem gY3_s {F : (Nat → Int32) → Nat → Nat → Nat → Int32} {K i u : Nat} {g2 g1 y rj : Nat → Int32} (h1 : g1 = gY3 F (xBd0 rj) K y i) (h2 : g2 = gY2 F (xBd0 rj) (K - i - 1) g1 u) (hu : u = 61) : g2 = gY3 F (xBd0 rj) K y (i + 1) := by
  rw [h2, h1, hu]
  rfl
theorem xPl_mk {st : Nat} {ho pa ki ru ne rq : Int32} {lg ch g sm wf rj wh hz : Nat → Int32} {wn : Nat → Nat} {F : (Nat → Int32) → Nat → Nat → Nat → Int32} {i : Nat} (h1 : 1 ≤ st) (h7 : st ≤ 7) (hrq : rq = sRide ki ru (nI (st - 1)) + xWy (xYd st ho lg (st - 1)) pa) (hMk : xMk st ho pa lg ki ru rj wn wh hz st) (hMw : xMw ch ne wf 13) (hwn : ∀ i, i ≤ 6 → wn i ≤ 1000) (hF : F = fun g => xLs (st - 1) rq g wf rj wn wh hz) (hg : g = gY3 F (xBd0 rj) (st - 1) sm i) (hi : i = st - 1) :
    xPl st ho pa lg ki ru ne ch (st - 1) rq g wf rj wn wh hz := by
  refine ⟨⟨rfl, hrq⟩, hMk, fun t ht => hMw t (by omega), hwn, fun k m b hk hm hb hb2 => ?_⟩
  subst hF
  rw [hg, hi]
  exact gFix (F := fun g => xLs (st - 1) rq g wf rj wn wh hz) (xLs_r (fun i hi => by have := hwn i (by omega); omega)) (fun k m => xBn_le _ _ _) hk hm hb hb2
/-- the plan that the class keeps -/
def xPd (st ln : Nat) (ho pa : Int32) (lg ki ru ne : Nat → Int32) (ch : Nat → Nat → Int32) (pd : Int32) (lz : Nat) (rq : Int32) (sm wf rj : Nat → Int32) (wn : Nat → Nat) (wh hz : Nat → Int32) : Prop :=
  pd = -1 ∨ ∃ j, j < ln ∧ pd = nI j ∧ xPl st ho pa lg (ki j) (ru j) (ne j) (ch j) lz rq sm wf rj wn wh hz
theorem xPd_j {st ln j : Nat} {ho pa : Int32} {lg ki ru ne : Nat → Int32} {ch : Nat → Nat → Int32} {pd : Int32} {lz : Nat} {rq : Int32} {sm wf rj : Nat → Int32} {wn : Nat → Nat} {wh hz : Nat → Int32} (h : xPd st ln ho pa lg ki ru ne ch pd lz rq sm wf rj wn wh hz) (hl : ln ≤ 3) (hj : j < ln) (e : pd = nI j) : xPl st ho pa lg (ki j) (ru j) (ne j) (ch j) lz rq sm wf rj wn wh hz := by
  rcases h with h | ⟨i, hi, e2, hP⟩
  · exfalso
    rw [h, xi_eq, nI_toInt (by omega)] at e
    have z : (-1 : Int32).toInt = -1 := by decide
    omega
  · have w := (xnI_inj (show i < 2 ^ 31 by omega) (show j < 2 ^ 31 by omega)).mp (e2.symm.trans e)
    rw [← w]
    exact hP
theorem xPd_ip {R : xT × Int32} {st ln : Nat} {ho pa : Int32} {lg ki ru ne : Nat → Int32} {ch : Nat → Nat → Int32} {pd : Int32} {lz : Nat} {rq : Int32} {sm wf rj : Nat → Int32} {wn : Nat → Nat} {wh hz : Nat → Int32} (h : xPd st ln ho pa lg ki ru ne ch pd lz rq sm wf rj wn wh hz) :
    xPd (xIp R.2 R.1.1 st) (xIp R.2 R.1.2.1 ln) (xIp R.2 R.1.2.2.1 ho) (xIp R.2 R.1.2.2.2.1 pa) (xIp R.2 (va_cpy R.1.2.2.2.2.2.2.1 lg 0 0 7) lg) (xIp R.2 R.1.2.2.2.2.2.2.2.1 ki) (xIp R.2 R.1.2.2.2.2.2.2.2.2.1 ru) (xIp R.2 R.1.2.2.2.2.2.2.2.2.2.1 ne) (xIp R.2 (fun j => va_cpy (R.1.2.2.2.2.2.2.2.2.2.2 j) (ch j) 0 0 12) ch) (xIp R.2 (-1) pd) lz rq sm wf rj wn wh hz := by
  by_cases q : 0 < R.2
  · left
    exact if_pos q
  · simp only [xIp, if_neg q]
    exact h
theorem xPd_se {st ln : Nat} {ho pa ho' pa' : Int32} {lg ki ru ne : Nat → Int32} {ch : Nat → Nat → Int32} {pd : Int32} {lz : Nat} {rq : Int32} {sm wf rj : Nat → Int32} {wn : Nat → Nat} {wh hz : Nat → Int32} (a1 a2 : Int32) (h : xPd st ln ho pa lg ki ru ne ch pd lz rq sm wf rj wn wh hz) :
    xPd st ln (xIf (qSe a1 a2) ho' ho) (xIf (qSe a1 a2) pa' pa) lg ki ru ne ch (xIf (qSe a1 a2) (-1) pd) lz rq sm wf rj wn wh hz := by
  by_cases q : qSe a1 a2 = 0
  · left
    exact if_pos q
  · simp only [xIf, if_neg q]
    exact h

set_option maxHeartbeats 4000000 in
set_option maxRecDepth 100000 in
theorem g_X1_makeE (l : Launch) (D : va_G) (cI cL cZ cC : ClassId) (sz : Nat) (pl : Nat) (p0 : Nat) (p1 : Nat) (p2 : Nat) (p3 : Nat) (p4 : Nat) (p5 : Nat) (lz : Nat) (rq : Int32) (sm : Nat → Int32) (wf : Nat → Int32) (rj : Nat → Int32) (wn : Nat → Nat) (wh : Nat → Int32) (hz : Nat → Int32) (rd : Nat) (r0 : Nat) (r1 : Nat) (st : Nat) (ho : Int32) (pa : Int32) (si : Int32) (li : Int32) (lc : Int32) (lg : Nat → Int32) (b0 : Nat) (k0 : Nat) (ki : Int32) (ru : Int32) (ne : Int32) (ch : Nat → Int32) (hs1 : 1 ≤ st) (hs7 : st ≤ 7) (hwn : ∀ i, i ≤ 6 → wn i ≤ 1000) (hwy : ∀ i, i < st → ∃ w, w ≤ 1000 ∧ xWy (xYd st ho lg i) pa = nI w) : Met l yX1_make wsX1_make ({ frames := 4, cells := 0, slots := 0, locals := 99 } : Room) (wPc D [.ref pl, .ref rd, .ref b0] [(pl, .inr (1, [.ref p0, .ref p1, .ref p2, .ref p3, .ref p4, .ref p5, .int (nI lz), .int rq])), (p0, .inl (cI, 5551, .inl sm)), (p1, .inl (cI, 13, .inl wf)), (p2, .inl (cI, 7, .inl rj)), (p3, .inl (cI, 7, .inl (fun i => nI (wn i)))), (p4, .inl (cI, 7, .inl wh)), (p5, .inl (cZ, 7, .inl hz)), (rd, .inr (2, [.int (nI st), .int ho, .int pa, .int si, .int li, .int lc, .ref r0, .ref r1])), (r0, .inl (cI, 7, .inl lg)), (b0, .inr (0, [.int ki, .int ru, .int ne, .ref k0])), (k0, .inl (cI, 12, .inl ch))] (xTy cI cL cZ cC) sz) (va_Qv (fun (_ : Unit) => True) (fun (_ : Unit) t => ∃ lz9 : Nat, ∃ rq9 : Int32, ∃ sm9 : Nat → Int32, ∃ wf9 : Nat → Int32, ∃ rj9 : Nat → Int32, ∃ wn9 : Nat → Nat, ∃ wh9 : Nat → Int32, ∃ hz9 : Nat → Int32, (lz9 ≤ 6) ∧ (∀ i, i ≤ 6 → wn9 i ≤ 1000) ∧ (xPl st ho pa lg ki ru ne ch lz9 rq9 sm9 wf9 rj9 wn9 wh9 hz9) ∧ va_P D vwCl [(pl, .inr (1, [.ref p0, .ref p1, .ref p2, .ref p3, .ref p4, .ref p5, .int (nI lz9), .int rq9])), (p0, .inl (cI, 5551, .inl sm9)), (p1, .inl (cI, 13, .inl wf9)), (p2, .inl (cI, 7, .inl rj9)), (p3, .inl (cI, 7, .inl (fun i => nI (wn9 i)))), (p4, .inl (cI, 7, .inl wh9)), (p5, .inl (cZ, 7, .inl hz9)), (rd, .inr (2, [.int (nI st), .int ho, .int pa, .int si, .int li, .int lc, .ref r0, .ref r1])), (r0, .inl (cI, 7, .inl lg)), (b0, .inr (0, [.int ki, .int ru, .int ne, .ref k0])), (k0, .inl (cI, 12, .inl ch))] t.heap ∧ va_D (va_A [(pl, .inr (1, [.ref p0, .ref p1, .ref p2, .ref p3, .ref p4, .ref p5, .int (nI lz), .int rq])), (p0, .inl (cI, 5551, .inl sm)), (p1, .inl (cI, 13, .inl wf)), (p2, .inl (cI, 7, .inl rj)), (p3, .inl (cI, 7, .inl (fun i => nI (wn i)))), (p4, .inl (cI, 7, .inl wh)), (p5, .inl (cZ, 7, .inl hz)), (rd, .inr (2, [.int (nI st), .int ho, .int pa, .int si, .int li, .int lc, .ref r0, .ref r1])), (r0, .inl (cI, 7, .inl lg)), (b0, .inr (0, [.int ki, .int ru, .int ne, .ref k0])), (k0, .inl (cI, 12, .inl ch))] sz) [(pl, .inr (1, [.ref p0, .ref p1, .ref p2, .ref p3, .ref p4, .ref p5, .int (nI lz9), .int rq9])), (p0, .inl (cI, 5551, .inl sm9)), (p1, .inl (cI, 13, .inl wf9)), (p2, .inl (cI, 7, .inl rj9)), (p3, .inl (cI, 7, .inl (fun i => nI (wn9 i)))), (p4, .inl (cI, 7, .inl wh9)), (p5, .inl (cZ, 7, .inl hz9)), (rd, .inr (2, [.int (nI st), .int ho, .int pa, .int si, .int li, .int lc, .ref r0, .ref r1])), (r0, .inl (cI, 7, .inl lg)), (b0, .inr (0, [.int ki, .int ru, .int ne, .ref k0])), (k0, .inl (cI, 12, .inl ch))]) (va_A [(pl, .inr (1, [.ref p0, .ref p1, .ref p2, .ref p3, .ref p4, .ref p5, .int (nI lz), .int rq])), (p0, .inl (cI, 5551, .inl sm)), (p1, .inl (cI, 13, .inl wf)), (p2, .inl (cI, 7, .inl rj)), (p3, .inl (cI, 7, .inl (fun i => nI (wn i)))), (p4, .inl (cI, 7, .inl wh)), (p5, .inl (cZ, 7, .inl hz)), (rd, .inr (2, [.int (nI st), .int ho, .int pa, .int si, .int li, .int lc, .ref r0, .ref r1])), (r0, .inl (cI, 7, .inl lg)), (b0, .inr (0, [.int ki, .int ru, .int ne, .ref k0])), (k0, .inl (cI, 12, .inl ch))] sz)) 0 0 (va_A [(pl, .inr (1, [.ref p0, .ref p1, .ref p2, .ref p3, .ref p4, .ref p5, .int (nI lz), .int rq])), (p0, .inl (cI, 5551, .inl sm)), (p1, .inl (cI, 13, .inl wf)), (p2, .inl (cI, 7, .inl rj)), (p3, .inl (cI, 7, .inl (fun i => nI (wn i)))), (p4, .inl (cI, 7, .inl wh)), (p5, .inl (cZ, 7, .inl hz)), (rd, .inr (2, [.int (nI st), .int ho, .int pa, .int si, .int li, .int lc, .ref r0, .ref r1])), (r0, .inl (cI, 7, .inl lg)), (b0, .inr (0, [.int ki, .int ru, .int ne, .ref k0])), (k0, .inl (cI, 12, .inl ch))] sz) := by
  refine Met.ofW (cc := cX1_make) (maxL := 6) (ret := none) (by decide) rfl ?_
  intro p e s m args below meth c s₁ B hml hv
  obtain ⟨rfl, hsz, hP, hK, hD0⟩ := hv
  have hx := B.exec
  have hb := B.bytes
  have hr := B.returns
  have hts := atoms_spec (ws := wsX1_make) B.pre
  have hown : s.vm.findClass RX1 = some m.cls := findClass_of_methodNamed B.named
  have hlocks := B.notSynchronized
  have hwX1 : ∀ w ∈ u_ws RX1 TX1 8, w ∈ wsX1_make := fun _ h => List.mem_cons_of_mem _ (List.mem_append_left _ (List.mem_append_left _ (List.mem_append_right _ h)))
  have hwX2 : ∀ w ∈ u_ws RX2 TX2 8, w ∈ wsX1_make := fun _ h => List.mem_cons_of_mem _ (List.mem_append_left _ (List.mem_append_right _ h))
  subst hsz
  have hD := hD0.self (sz := s.heap.size)
  generalize hAe : va_A [(pl, .inr (1, [.ref p0, .ref p1, .ref p2, .ref p3, .ref p4, .ref p5, .int (nI lz), .int rq])), (p0, .inl (cI, 5551, .inl sm)), (p1, .inl (cI, 13, .inl wf)), (p2, .inl (cI, 7, .inl rj)), (p3, .inl (cI, 7, .inl (fun i => nI (wn i)))), (p4, .inl (cI, 7, .inl wh)), (p5, .inl (cZ, 7, .inl hz)), (rd, .inr (2, [.int (nI st), .int ho, .int pa, .int si, .int li, .int lc, .ref r0, .ref r1])), (r0, .inl (cI, 7, .inl lg)), (b0, .inr (0, [.int ki, .int ru, .int ne, .ref k0])), (k0, .inl (cI, 12, .inl ch))] s.heap.size = A at hD ⊢
  have hA : ∀ q : Nat, s.heap.size ≤ q → A q := fun q h => by rw [← hAe]; exact Or.inr h
  have hS : va_S A s.heap s.heap [] := va_S.rf
  have hP : va_P D vwCl [(pl, .inr (1, [.ref p0, .ref p1, .ref p2, .ref p3, .ref p4, .ref p5, .int (nI lz), .int rq])), (p0, .inl (cI, 5551, .inl sm)), (p1, .inl (cI, 13, .inl wf)), (p2, .inl (cI, 7, .inl rj)), (p3, .inl (cI, 7, .inl (fun i => nI (wn i)))), (p4, .inl (cI, 7, .inl wh)), (p5, .inl (cZ, 7, .inl hz)), (rd, .inr (2, [.int (nI st), .int ho, .int pa, .int si, .int li, .int lc, .ref r0, .ref r1])), (r0, .inl (cI, 7, .inl lg)), (b0, .inr (0, [.int ki, .int ru, .int ne, .ref k0])), (k0, .inl (cI, 12, .inl ch))] s.heap := hP
  have hl := lv_entry ([.ref pl, .ref rd, .ref b0]) (n := 6) (Nat.le_of_ble_eq_true rfl)
  rw [lg_entry_eq]
  generalize (lg_sl ([.ref pl, .ref rd, .ref b0]) ++ List.replicate (6 - (lg_sl ([.ref pl, .ref rd, .ref b0])).length) Slot.unset).toArray = ls at hl ⊢
  have hl : lv_has ls 6 [(0, .ref pl), (1, .ref rd), (2, .ref b0)] := hl
  refine lv_aload_n hx hb dX1_make_0 rfl (lv_at hl 0 rfl) ?_
  refine lv_aload_n hx hb dX1_make_1 rfl (lv_at hl 1 rfl) ?_
  have hPc := hP.sub (ws' := [(rd, .inr (2, [.int (nI st), .int ho, .int pa, .int si, .int li, .int lc, .ref r0, .ref r1])), (r0, .inl (cI, 7, .inl lg))]) [7, 8] rfl
  refine vp_callSi (va_Run.run (va_runV (As := []) (rest := [.ref pl]) ⟨hx, hb, hml, hown, hts⟩ (g_X2_last l D cI cL cZ cC rd r0 r1 st ho pa si li lc lg (by first | assumption | decide +kernel) (by first | assumption | decide +kernel)) (cwV 0 hts gX1_make_X2_last rfl rfl rfl (by decide +kernel) ⟨Nat.le_of_ble_eq_true rfl, Nat.le_of_ble_eq_true rfl⟩) ⟨xPc_bl, va_recv hK hPc (ci := 2) (q0 := 0) rfl rfl, xPc_use hPc hK⟩ rfl rfl hl.1 rfl (lv_room (Nat.le_of_ble_eq_true rfl)) dX1_make_2 ⟨Nat.le_of_ble_eq_true rfl, Nat.le_of_ble_eq_true rfl⟩)) (fun r_1 er_1 => ?_)
  obtain rfl : (nI (st - 1) : Int32) = r_1 := Eq.symm er_1
  refine va_put (D := D) (ci := 1) (v := .int (nI (st - 1))) (ty := .int) (C := RX1) (T := TX1) (N := 8) hx hb hts hwX1 tyX1 tyX1_ok nmX1 hown hK hP hD hS 0 rfl rfl 6 (by decide) (hts (.fieldLink RX1 37 "WaitOrWalkOn$Plan" "last" "I") (by decide +kernel)) (fun _ h9 => h9) rfl (by decide +kernel) rfl rfl (Nat.le_of_ble_eq_true rfl) dX1_make_5 (fun H locs hP hD hS => ?_)
  have hP : va_P D vwCl [(pl, .inr (1, [.ref p0, .ref p1, .ref p2, .ref p3, .ref p4, .ref p5, .int (nI (st - 1)), .int rq])), (p0, .inl (cI, 5551, .inl sm)), (p1, .inl (cI, 13, .inl wf)), (p2, .inl (cI, 7, .inl rj)), (p3, .inl (cI, 7, .inl (fun i => nI (wn i)))), (p4, .inl (cI, 7, .inl wh)), (p5, .inl (cZ, 7, .inl hz)), (rd, .inr (2, [.int (nI st), .int ho, .int pa, .int si, .int li, .int lc, .ref r0, .ref r1])), (r0, .inl (cI, 7, .inl lg)), (b0, .inr (0, [.int ki, .int ru, .int ne, .ref k0])), (k0, .inl (cI, 12, .inl ch))] H := hP
  have hD : va_D A [(pl, .inr (1, [.ref p0, .ref p1, .ref p2, .ref p3, .ref p4, .ref p5, .int (nI (st - 1)), .int rq])), (p0, .inl (cI, 5551, .inl sm)), (p1, .inl (cI, 13, .inl wf)), (p2, .inl (cI, 7, .inl rj)), (p3, .inl (cI, 7, .inl (fun i => nI (wn i)))), (p4, .inl (cI, 7, .inl wh)), (p5, .inl (cZ, 7, .inl hz)), (rd, .inr (2, [.int (nI st), .int ho, .int pa, .int si, .int li, .int lc, .ref r0, .ref r1])), (r0, .inl (cI, 7, .inl lg)), (b0, .inr (0, [.int ki, .int ru, .int ne, .ref k0])), (k0, .inl (cI, 12, .inl ch))] := hD
  refine lv_aload_n hx hb dX1_make_8 rfl (lv_at hl 0 rfl) ?_
  refine lv_aload_n hx hb dX1_make_9 rfl (lv_at hl 1 rfl) ?_
  refine lv_aload_n hx hb dX1_make_10 rfl (lv_at hl 2 rfl) ?_
  have hPc := hP.sub (ws' := [(rd, .inr (2, [.int (nI st), .int ho, .int pa, .int si, .int li, .int lc, .ref r0, .ref r1])), (r0, .inl (cI, 7, .inl lg)), (b0, .inr (0, [.int ki, .int ru, .int ne, .ref k0])), (k0, .inl (cI, 12, .inl ch))]) [7, 8, 9, 10] rfl
  refine vp_callSi (va_Run.run (va_runV (As := [.ref b0]) (rest := [.ref pl]) ⟨hx, hb, hml, hown, hts⟩ (g_X2_rideHome l D cI cL cZ cC rd r0 r1 st ho pa si li lc lg b0 k0 ki ru ne ch (by first | assumption | decide +kernel) (by first | assumption | decide +kernel)) (cwV 1 hts gX1_make_X2_rideHome rfl rfl rfl (by decide +kernel) ⟨Nat.le_of_ble_eq_true rfl, Nat.le_of_ble_eq_true rfl⟩) ⟨xPc_bl, va_recv hK hPc (ci := 2) (q0 := 0) rfl rfl, xPc_use hPc hK⟩ rfl rfl hl.1 rfl (lv_room (Nat.le_of_ble_eq_true rfl)) dX1_make_11 ⟨Nat.le_of_ble_eq_true rfl, Nat.le_of_ble_eq_true rfl⟩)) (fun r_2 er_2 => ?_)
  obtain rfl : (sRide ki ru (nI (st - 1)) + xWy (xYd st ho lg (st - 1)) pa : Int32) = r_2 := Eq.symm er_2
  refine va_put (D := D) (ci := 1) (v := .int (sRide ki ru (nI (st - 1)) + xWy (xYd st ho lg (st - 1)) pa)) (ty := .int) (C := RX1) (T := TX1) (N := 8) hx hb hts hwX1 tyX1 tyX1_ok nmX1 hown hK hP hD hS 0 rfl rfl 7 (by decide) (hts (.fieldLink RX1 44 "WaitOrWalkOn$Plan" "rideHome" "I") (by decide +kernel)) (fun _ h9 => h9) rfl (by decide +kernel) rfl rfl (Nat.le_of_ble_eq_true rfl) dX1_make_14 (fun H locs hP hD hS => ?_)
  have hP : va_P D vwCl [(pl, .inr (1, [.ref p0, .ref p1, .ref p2, .ref p3, .ref p4, .ref p5, .int (nI (st - 1)), .int (sRide ki ru (nI (st - 1)) + xWy (xYd st ho lg (st - 1)) pa)])), (p0, .inl (cI, 5551, .inl sm)), (p1, .inl (cI, 13, .inl wf)), (p2, .inl (cI, 7, .inl rj)), (p3, .inl (cI, 7, .inl (fun i => nI (wn i)))), (p4, .inl (cI, 7, .inl wh)), (p5, .inl (cZ, 7, .inl hz)), (rd, .inr (2, [.int (nI st), .int ho, .int pa, .int si, .int li, .int lc, .ref r0, .ref r1])), (r0, .inl (cI, 7, .inl lg)), (b0, .inr (0, [.int ki, .int ru, .int ne, .ref k0])), (k0, .inl (cI, 12, .inl ch))] H := hP
  have hD : va_D A [(pl, .inr (1, [.ref p0, .ref p1, .ref p2, .ref p3, .ref p4, .ref p5, .int (nI (st - 1)), .int (sRide ki ru (nI (st - 1)) + xWy (xYd st ho lg (st - 1)) pa)])), (p0, .inl (cI, 5551, .inl sm)), (p1, .inl (cI, 13, .inl wf)), (p2, .inl (cI, 7, .inl rj)), (p3, .inl (cI, 7, .inl (fun i => nI (wn i)))), (p4, .inl (cI, 7, .inl wh)), (p5, .inl (cZ, 7, .inl hz)), (rd, .inr (2, [.int (nI st), .int ho, .int pa, .int si, .int li, .int lc, .ref r0, .ref r1])), (r0, .inl (cI, 7, .inl lg)), (b0, .inr (0, [.int ki, .int ru, .int ne, .ref k0])), (k0, .inl (cI, 12, .inl ch))] := hD
  refine lv_iconst (v := 0) hx hb dX1_make_17 (by decide) ?_
  refine lv_istore_n (lv' := [(3, .int 0), (0, .ref pl), (1, .ref rd), (2, .ref b0)]) hx hb dX1_make_18 rfl hl (by decide) rfl (fun ls hl => ?_)
  refine xl_loopH (σ := Nat × (Nat → Int32) × (Nat → Nat) × (Nat → Int32) × (Nat → Int32)) (fun n q H locs ls => lv_has ls 6 [(3, .int (nI q.1)), (0, .ref pl), (1, .ref rd), (2, .ref b0)] ∧ va_P D vwCl [(pl, .inr (1, [.ref p0, .ref p1, .ref p2, .ref p3, .ref p4, .ref p5, .int (nI (st - 1)), .int (sRide ki ru (nI (st - 1)) + xWy (xYd st ho lg (st - 1)) pa)])), (p0, .inl (cI, 5551, .inl sm)), (p1, .inl (cI, 13, .inl wf)), (p2, .inl (cI, 7, .inl q.2.1)), (p3, .inl (cI, 7, .inl (fun i => nI (q.2.2.1 i)))), (p4, .inl (cI, 7, .inl q.2.2.2.1)), (p5, .inl (cZ, 7, .inl q.2.2.2.2)), (rd, .inr (2, [.int (nI st), .int ho, .int pa, .int si, .int li, .int lc, .ref r0, .ref r1])), (r0, .inl (cI, 7, .inl lg)), (b0, .inr (0, [.int ki, .int ru, .int ne, .ref k0])), (k0, .inl (cI, 12, .inl ch))] H ∧ va_D A [(pl, .inr (1, [.ref p0, .ref p1, .ref p2, .ref p3, .ref p4, .ref p5, .int (nI (st - 1)), .int (sRide ki ru (nI (st - 1)) + xWy (xYd st ho lg (st - 1)) pa)])), (p0, .inl (cI, 5551, .inl sm)), (p1, .inl (cI, 13, .inl wf)), (p2, .inl (cI, 7, .inl q.2.1)), (p3, .inl (cI, 7, .inl (fun i => nI (q.2.2.1 i)))), (p4, .inl (cI, 7, .inl q.2.2.2.1)), (p5, .inl (cZ, 7, .inl q.2.2.2.2)), (rd, .inr (2, [.int (nI st), .int ho, .int pa, .int si, .int li, .int lc, .ref r0, .ref r1])), (r0, .inl (cI, 7, .inl lg)), (b0, .inr (0, [.int ki, .int ru, .int ne, .ref k0])), (k0, .inl (cI, 12, .inl ch))] ∧ va_S A s.heap H locs ∧ (st - q.1 < n) ∧ (q.1 ≤ st) ∧ (∀ i, i ≤ 6 → q.2.2.1 i ≤ 1000) ∧ (xMk st ho pa lg ki ru q.2.1 q.2.2.1 q.2.2.2.1 q.2.2.2.2 q.1)) (st + 1) (0, rj, wn, wh, hz) ⟨lv_sub hl [0, 1, 2, 3] rfl, hP.sub [0, 1, 2, 3, 4, 5, 6, 7, 8, 9, 10] rfl, hD.sub [0, 1, 2, 3, 4, 5, 6, 7, 8, 9, 10] (by decide) rfl, hS, by (try dsimp only); exact ⟨by omega, by omega, hwn, xMk_0⟩⟩ (fun q H lc ls h => absurd h.2.2.2.2.1 (Nat.not_lt_zero _)) ?_
  intro n_19 q_19 H locs ls ih_19 hI_19
  obtain ⟨hl, hP, hD, hS, hI_19⟩ := hI_19
  obtain ⟨k, rj1, wn1, wh1, hz1⟩ := q_19
  obtain ⟨h1, h2, hwn1, hMk⟩ := hI_19
  try dsimp only at hl hP hD h1 h2 hwn1 hMk
  refine lv_iload_n hx hb dX1_make_19 rfl (lv_at hl 0 rfl) ?_
  refine lv_aload_n hx hb dX1_make_20 rfl (lv_at hl 1 rfl) ?_
  refine va_get (D := D) (ci := 1) (v := .int (nI (st - 1))) (C := RX1) (T := TX1) (N := 8) hx hb hts hwX1 hown hK hP 0 rfl rfl 6 (by decide) (hts (.fieldLink RX1 37 "WaitOrWalkOn$Plan" "last" "I") (by decide +kernel)) (fun _ h9 => h9) rfl dX1_make_21 ?_
  refine lv_icmp_gt (tgt := 85) hx hb dX1_make_24 (by decide) (fun c_3 => ?_) (fun c_3 => ?_)
  · refine lv_iconst (v := 0) hx hb dX1_make_85 (by decide) ?_
    refine lv_istore_n (lv' := [(3, .int 0), (0, .ref pl), (1, .ref rd), (2, .ref b0)]) hx hb dX1_make_86 rfl hl (by decide) rfl (fun ls hl => ?_)
    refine xl_loopH (σ := Nat × (Nat → Int32)) (fun n q H locs ls => lv_has ls 6 [(3, .int (nI q.1)), (0, .ref pl), (1, .ref rd), (2, .ref b0)] ∧ va_P D vwCl [(pl, .inr (1, [.ref p0, .ref p1, .ref p2, .ref p3, .ref p4, .ref p5, .int (nI (st - 1)), .int (sRide ki ru (nI (st - 1)) + xWy (xYd st ho lg (st - 1)) pa)])), (p0, .inl (cI, 5551, .inl sm)), (p1, .inl (cI, 13, .inl q.2)), (p2, .inl (cI, 7, .inl rj1)), (p3, .inl (cI, 7, .inl (fun i => nI (wn1 i)))), (p4, .inl (cI, 7, .inl wh1)), (p5, .inl (cZ, 7, .inl hz1)), (rd, .inr (2, [.int (nI st), .int ho, .int pa, .int si, .int li, .int lc, .ref r0, .ref r1])), (r0, .inl (cI, 7, .inl lg)), (b0, .inr (0, [.int ki, .int ru, .int ne, .ref k0])), (k0, .inl (cI, 12, .inl ch))] H ∧ va_D A [(pl, .inr (1, [.ref p0, .ref p1, .ref p2, .ref p3, .ref p4, .ref p5, .int (nI (st - 1)), .int (sRide ki ru (nI (st - 1)) + xWy (xYd st ho lg (st - 1)) pa)])), (p0, .inl (cI, 5551, .inl sm)), (p1, .inl (cI, 13, .inl q.2)), (p2, .inl (cI, 7, .inl rj1)), (p3, .inl (cI, 7, .inl (fun i => nI (wn1 i)))), (p4, .inl (cI, 7, .inl wh1)), (p5, .inl (cZ, 7, .inl hz1)), (rd, .inr (2, [.int (nI st), .int ho, .int pa, .int si, .int li, .int lc, .ref r0, .ref r1])), (r0, .inl (cI, 7, .inl lg)), (b0, .inr (0, [.int ki, .int ru, .int ne, .ref k0])), (k0, .inl (cI, 12, .inl ch))] ∧ va_S A s.heap H locs ∧ (13 - q.1 < n) ∧ (q.1 ≤ 13) ∧ (xMw ch ne q.2 q.1)) (14) (0, wf) ⟨lv_sub hl [0, 1, 2, 3] rfl, hP.sub [0, 1, 2, 3, 4, 5, 6, 7, 8, 9, 10] rfl, hD.sub [0, 1, 2, 3, 4, 5, 6, 7, 8, 9, 10] (by decide) rfl, hS, by (try dsimp only); exact ⟨by omega, by omega, xMw_0⟩⟩ (fun q H lc ls h => absurd h.2.2.2.2.1 (Nat.not_lt_zero _)) ?_
    intro n_87 q_87 H locs ls ih_87 hI_87
    obtain ⟨hl, hP, hD, hS, hI_87⟩ := hI_87
    obtain ⟨t1, wf1⟩ := q_87
    obtain ⟨i1, i2, i3⟩ := hI_87
    try dsimp only at hl hP hD i1 i2 i3
    refine lv_iload_n hx hb dX1_make_87 rfl (lv_at hl 0 rfl) ?_
    refine lv_bipush (v := 12) hx hb dX1_make_88 (by decide) ?_
    refine lv_icmp_gt (tgt := 115) hx hb dX1_make_90 (by decide) (fun c_4 => ?_) (fun c_4 => ?_)
    · refine lv_aload_n hx hb dX1_make_115 rfl (lv_at hl 1 rfl) ?_
      refine va_get (D := D) (ci := 1) (v := .int (nI (st - 1))) (C := RX1) (T := TX1) (N := 8) hx hb hts hwX1 hown hK hP 0 rfl rfl 6 (by decide) (hts (.fieldLink RX1 37 "WaitOrWalkOn$Plan" "last" "I") (by decide +kernel)) (fun _ h9 => h9) rfl dX1_make_116 ?_
      refine lv_iconst (v := 1) hx hb dX1_make_119 (by decide) ?_
      refine lv_isub hx hb dX1_make_120 ?_
      refine xv_int (y := nI (st - 1 - 0) - 1) (by rw [Nat.sub_zero]) ?_
      refine lv_istore_n (lv' := [(3, .int (nI (st - 1 - 0) - 1)), (0, .ref pl), (1, .ref rd), (2, .ref b0)]) hx hb dX1_make_121 rfl hl (by decide) rfl (fun ls hl => ?_)
      have w13 : t1 = 13 := by have w := (nI_ltI (a := 12) (b := t1) (by decide) (by omega)).mp c_4; omega
      rw [w13] at i3
      obtain ⟨F9, hF9⟩ : ∃ F : (Nat → Int32) → Nat → Nat → Nat → Int32, F = fun g => xLs (st - 1) (sRide ki ru (nI (st - 1)) + xWy (xYd st ho lg (st - 1)) pa) g wf1 rj1 wn1 wh1 hz1 := ⟨_, rfl⟩
      have hk9 : k = st := by have w := (nI_ltI (a := st - 1) (b := k) (by omega) (by omega)).mp c_3; omega
      rw [hk9] at hMk
      refine xl_loopH (σ := Nat × (Nat → Int32)) (fun n q H locs ls => lv_has ls 6 [(3, .int (nI (st - 1 - q.1) - 1)), (0, .ref pl), (1, .ref rd), (2, .ref b0)] ∧ va_P D vwCl [(pl, .inr (1, [.ref p0, .ref p1, .ref p2, .ref p3, .ref p4, .ref p5, .int (nI (st - 1)), .int (sRide ki ru (nI (st - 1)) + xWy (xYd st ho lg (st - 1)) pa)])), (p0, .inl (cI, 5551, .inl q.2)), (p1, .inl (cI, 13, .inl wf1)), (p2, .inl (cI, 7, .inl rj1)), (p3, .inl (cI, 7, .inl (fun i => nI (wn1 i)))), (p4, .inl (cI, 7, .inl wh1)), (p5, .inl (cZ, 7, .inl hz1)), (rd, .inr (2, [.int (nI st), .int ho, .int pa, .int si, .int li, .int lc, .ref r0, .ref r1])), (r0, .inl (cI, 7, .inl lg)), (b0, .inr (0, [.int ki, .int ru, .int ne, .ref k0])), (k0, .inl (cI, 12, .inl ch))] H ∧ va_D A [(pl, .inr (1, [.ref p0, .ref p1, .ref p2, .ref p3, .ref p4, .ref p5, .int (nI (st - 1)), .int (sRide ki ru (nI (st - 1)) + xWy (xYd st ho lg (st - 1)) pa)])), (p0, .inl (cI, 5551, .inl q.2)), (p1, .inl (cI, 13, .inl wf1)), (p2, .inl (cI, 7, .inl rj1)), (p3, .inl (cI, 7, .inl (fun i => nI (wn1 i)))), (p4, .inl (cI, 7, .inl wh1)), (p5, .inl (cZ, 7, .inl hz1)), (rd, .inr (2, [.int (nI st), .int ho, .int pa, .int si, .int li, .int lc, .ref r0, .ref r1])), (r0, .inl (cI, 7, .inl lg)), (b0, .inr (0, [.int ki, .int ru, .int ne, .ref k0])), (k0, .inl (cI, 12, .inl ch))] ∧ va_S A s.heap H locs ∧ (st - 1 - q.1 < n) ∧ (q.1 ≤ st - 1) ∧ (q.2 = gY3 F9 (xBd0 rj1) (st - 1) sm q.1)) (st + 1) (0, sm) ⟨lv_sub hl [0, 1, 2, 3] rfl, hP.sub [0, 1, 2, 3, 4, 5, 6, 7, 8, 9, 10] rfl, hD.sub [0, 1, 2, 3, 4, 5, 6, 7, 8, 9, 10] (by decide) rfl, hS, by (try dsimp only); exact ⟨by omega, by omega, rfl⟩⟩ (fun q H lc ls h => absurd h.2.2.2.2.1 (Nat.not_lt_zero _)) ?_
      intro n_122 q_122 H locs ls ih_122 hI_122
      obtain ⟨hl, hP, hD, hS, hI_122⟩ := hI_122
      obtain ⟨i, g1⟩ := q_122
      obtain ⟨j1, j2, j3⟩ := hI_122
      try dsimp only at hl hP hD j1 j2 j3
      refine lv_iload_n hx hb dX1_make_122 rfl (lv_at hl 0 rfl) ?_
      refine lv_if_lt (tgt := 192) hx hb dX1_make_123 (by decide) (fun c_5 => ?_) (fun c_5 => ?_)
      · have hP9 := hP.sub (ws' := [(pl, .inr (1, [.ref p0, .ref p1, .ref p2, .ref p3, .ref p4, .ref p5, .int (nI (st - 1)), .int (sRide ki ru (nI (st - 1)) + xWy (xYd st ho lg (st - 1)) pa)])), (p0, .inl (cI, 5551, .inl g1)), (p1, .inl (cI, 13, .inl wf1)), (p2, .inl (cI, 7, .inl rj1)), (p3, .inl (cI, 7, .inl (fun i => nI (wn1 i)))), (p4, .inl (cI, 7, .inl wh1)), (p5, .inl (cZ, 7, .inl hz1)), (rd, .inr (2, [.int (nI st), .int ho, .int pa, .int si, .int li, .int lc, .ref r0, .ref r1])), (r0, .inl (cI, 7, .inl lg)), (b0, .inr (0, [.int ki, .int ru, .int ne, .ref k0])), (k0, .inl (cI, 12, .inl ch))]) [0, 1, 2, 3, 4, 5, 6, 7, 8, 9, 10] rfl
        have hD9 := hD.sub (ws' := [(pl, .inr (1, [.ref p0, .ref p1, .ref p2, .ref p3, .ref p4, .ref p5, .int (nI (st - 1)), .int (sRide ki ru (nI (st - 1)) + xWy (xYd st ho lg (st - 1)) pa)])), (p0, .inl (cI, 5551, .inl g1)), (p1, .inl (cI, 13, .inl wf1)), (p2, .inl (cI, 7, .inl rj1)), (p3, .inl (cI, 7, .inl (fun i => nI (wn1 i)))), (p4, .inl (cI, 7, .inl wh1)), (p5, .inl (cZ, 7, .inl hz1)), (rd, .inr (2, [.int (nI st), .int ho, .int pa, .int si, .int li, .int lc, .ref r0, .ref r1])), (r0, .inl (cI, 7, .inl lg)), (b0, .inr (0, [.int ki, .int ru, .int ne, .ref k0])), (k0, .inl (cI, 12, .inl ch))]) [0, 1, 2, 3, 4, 5, 6, 7, 8, 9, 10] (by decide) rfl
        exact W.vret hx hb hr (fun t ht hW => ⟨⟨(), rfl, trivial, ((st - 1) : Nat), (sRide ki ru (nI (st - 1)) + xWy (xYd st ho lg (st - 1)) pa : Int32), (g1 : Nat → Int32), (wf1 : Nat → Int32), (rj1 : Nat → Int32), (wn1 : Nat → Nat), (wh1 : Nat → Int32), (hz1 : Nat → Int32), (by omega), hwn1, xPl_mk hs1 hs7 rfl hMk i3 hwn1 hF9 j3 ((x5D_z (by omega) j2).mp c_5).symm, by rw [ht]; exact hP9, hD9⟩, hS.F ht⟩) hS.2.2 dX1_make_192
      · have w4 : i < (st - 1) := by have w := mt (x5D_z (n := i) (by omega) j2).mpr c_5; omega
        have e126 : nI ((st - 1) - i) - 1 = nI ((st - 1) - i - 1) := pk_sub (a := (st - 1) - i) (b := 1) (by omega)
        rw [e126] at hl
        refine lv_bipush (v := 60) hx hb dX1_make_126 (by decide) ?_
        refine xv_int (y := nI (61 - 0) - 1) (by decide +kernel) ?_
        refine lv_istore (lv' := [(4, .int (nI (61 - 0) - 1)), (3, .int (nI ((st - 1) - i - 1))), (0, .ref pl), (1, .ref rd), (2, .ref b0)]) hx hb dX1_make_128 hl (by decide) rfl (fun ls hl => ?_)
        refine xl_loopH (σ := Nat × (Nat → Int32)) (fun n q H locs ls => lv_has ls 6 [(4, .int (nI (61 - q.1) - 1)), (3, .int (nI ((st - 1) - i - 1))), (0, .ref pl), (1, .ref rd), (2, .ref b0)] ∧ va_P D vwCl [(pl, .inr (1, [.ref p0, .ref p1, .ref p2, .ref p3, .ref p4, .ref p5, .int (nI (st - 1)), .int (sRide ki ru (nI (st - 1)) + xWy (xYd st ho lg (st - 1)) pa)])), (p0, .inl (cI, 5551, .inl q.2)), (p1, .inl (cI, 13, .inl wf1)), (p2, .inl (cI, 7, .inl rj1)), (p3, .inl (cI, 7, .inl (fun i => nI (wn1 i)))), (p4, .inl (cI, 7, .inl wh1)), (p5, .inl (cZ, 7, .inl hz1)), (rd, .inr (2, [.int (nI st), .int ho, .int pa, .int si, .int li, .int lc, .ref r0, .ref r1])), (r0, .inl (cI, 7, .inl lg)), (b0, .inr (0, [.int ki, .int ru, .int ne, .ref k0])), (k0, .inl (cI, 12, .inl ch))] H ∧ va_D A [(pl, .inr (1, [.ref p0, .ref p1, .ref p2, .ref p3, .ref p4, .ref p5, .int (nI (st - 1)), .int (sRide ki ru (nI (st - 1)) + xWy (xYd st ho lg (st - 1)) pa)])), (p0, .inl (cI, 5551, .inl q.2)), (p1, .inl (cI, 13, .inl wf1)), (p2, .inl (cI, 7, .inl rj1)), (p3, .inl (cI, 7, .inl (fun i => nI (wn1 i)))), (p4, .inl (cI, 7, .inl wh1)), (p5, .inl (cZ, 7, .inl hz1)), (rd, .inr (2, [.int (nI st), .int ho, .int pa, .int si, .int li, .int lc, .ref r0, .ref r1])), (r0, .inl (cI, 7, .inl lg)), (b0, .inr (0, [.int ki, .int ru, .int ne, .ref k0])), (k0, .inl (cI, 12, .inl ch))] ∧ va_S A s.heap H locs ∧ (61 - q.1 < n) ∧ (q.1 ≤ 61) ∧ (q.2 = gY2 F9 (xBd0 rj1) (st - 1 - i - 1) g1 q.1)) (62) (0, g1) ⟨lv_sub hl [0, 1, 2, 3, 4] rfl, hP.sub [0, 1, 2, 3, 4, 5, 6, 7, 8, 9, 10] rfl, hD.sub [0, 1, 2, 3, 4, 5, 6, 7, 8, 9, 10] (by decide) rfl, hS, by (try dsimp only); exact ⟨by omega, by omega, rfl⟩⟩ (fun q H lc ls h => absurd h.2.2.2.2.1 (Nat.not_lt_zero _)) ?_
        intro n_130 q_130 H locs ls ih_130 hI_130
        obtain ⟨hl, hP, hD, hS, hI_130⟩ := hI_130
        obtain ⟨u, g2⟩ := q_130
        obtain ⟨l1, l2, l3⟩ := hI_130
        try dsimp only at hl hP hD l1 l2 l3
        refine lv_iload hx hb dX1_make_130 (lv_at hl 0 rfl) ?_
        refine lv_if_lt (tgt := 186) hx hb dX1_make_132 (by decide) (fun c_6 => ?_) (fun c_6 => ?_)
        · refine lv_iinc (v := nI (st - 1 - (i + 1)) - 1) (lv' := [(3, .int (nI (st - 1 - (i + 1)) - 1)), (4, .int (nI (61 - u) - 1)), (0, .ref pl), (1, .ref rd), (2, .ref b0)]) hx hb dX1_make_186 hl (k := 1) rfl (x5D_i w4) (by decide) rfl (fun ls hl => ?_)
          refine lv_goto (tgt := 122) hx hb dX1_make_189 (by decide) ?_
          have j3n := gY3_s j3 l3 ((x5D_z (by omega) l2).mp c_6).symm
          exact ih_122 (i + 1, g2) _ _ _ ⟨lv_sub hl [0, 2, 3, 4] rfl, hP.sub [0, 1, 2, 3, 4, 5, 6, 7, 8, 9, 10] rfl, hD.sub [0, 1, 2, 3, 4, 5, 6, 7, 8, 9, 10] (by decide) rfl, hS, by (try dsimp only); exact ⟨by omega, by omega, j3n⟩⟩
        · have w5 : u < 61 := by have w := mt (x5D_z (n := u) (by omega) l2).mpr c_6; omega
          have e135 : nI (61 - u) - 1 = nI (61 - u - 1) := pk_sub (a := 61 - u) (b := 1) (by omega)
          rw [e135] at hl
          have w6 := xBn_le (rj1 (st - 1 - i - 1)) (nI (61 - u - 1)) 0
          refine lv_aload_n hx hb dX1_make_135 rfl (lv_at hl 2 rfl) ?_
          refine lv_iload_n hx hb dX1_make_136 rfl (lv_at hl 1 rfl) ?_
          refine lv_iload hx hb dX1_make_137 (lv_at hl 0 rfl) ?_
          refine lv_iconst (v := 0) hx hb dX1_make_139 (by decide) ?_
          have hPc := hP.sub (ws' := [(pl, .inr (1, [.ref p0, .ref p1, .ref p2, .ref p3, .ref p4, .ref p5, .int (nI (st - 1)), .int (sRide ki ru (nI (st - 1)) + xWy (xYd st ho lg (st - 1)) pa)])), (p2, .inl (cI, 7, .inl rj1))]) [0, 3] rfl
          refine vp_callSi (va_Run.run (va_runV (As := [.int (nI ((st - 1) - i - 1)), .int (nI (61 - u - 1)), .int 0]) (rest := []) ⟨hx, hb, hml, hown, hts⟩ (g_X1_boundAt l D cI cL cZ cC pl p0 p1 p2 p3 p4 p5 (st - 1) (sRide ki ru (nI (st - 1)) + xWy (xYd st ho lg (st - 1)) pa) (st - 1 - i - 1) (nI (61 - u - 1)) 0 rj1 (by omega) (by decide)) (cwV 3 hts gX1_make_X1_boundAt rfl rfl rfl (by decide +kernel) ⟨Nat.le_of_ble_eq_true rfl, Nat.le_of_ble_eq_true rfl⟩) ⟨xPc_bl, va_recv hK hPc (ci := 1) (q0 := 0) rfl rfl, xPc_use hPc hK⟩ rfl rfl hl.1 rfl (lv_room (Nat.le_of_ble_eq_true rfl)) dX1_make_140 ⟨Nat.le_of_ble_eq_true rfl, Nat.le_of_ble_eq_true rfl⟩)) (fun r_7 er_7 => ?_)
          obtain rfl : (nI (xBn (rj1 (st - 1 - i - 1)) (nI (61 - u - 1)) (0 : Int32)) : Int32) = r_7 := Eq.symm er_7
          refine xv_int (y := nI ((xBn (rj1 (st - 1 - i - 1)) (nI (61 - u - 1)) 0) + 0)) (rfl) ?_
          refine lv_istore (lv' := [(5, .int (nI ((xBn (rj1 (st - 1 - i - 1)) (nI (61 - u - 1)) 0) + 0))), (4, .int (nI (61 - u - 1))), (3, .int (nI ((st - 1) - i - 1))), (0, .ref pl), (1, .ref rd), (2, .ref b0)]) hx hb dX1_make_143 hl (by decide) rfl (fun ls hl => ?_)
          refine xl_loopH (σ := Nat × (Nat → Int32)) (fun n q H locs ls => lv_has ls 6 [(5, .int (nI ((xBn (rj1 (st - 1 - i - 1)) (nI (61 - u - 1)) 0) + q.1))), (4, .int (nI (61 - u - 1))), (3, .int (nI ((st - 1) - i - 1))), (0, .ref pl), (1, .ref rd), (2, .ref b0)] ∧ va_P D vwCl [(pl, .inr (1, [.ref p0, .ref p1, .ref p2, .ref p3, .ref p4, .ref p5, .int (nI (st - 1)), .int (sRide ki ru (nI (st - 1)) + xWy (xYd st ho lg (st - 1)) pa)])), (p0, .inl (cI, 5551, .inl q.2)), (p1, .inl (cI, 13, .inl wf1)), (p2, .inl (cI, 7, .inl rj1)), (p3, .inl (cI, 7, .inl (fun i => nI (wn1 i)))), (p4, .inl (cI, 7, .inl wh1)), (p5, .inl (cZ, 7, .inl hz1)), (rd, .inr (2, [.int (nI st), .int ho, .int pa, .int si, .int li, .int lc, .ref r0, .ref r1])), (r0, .inl (cI, 7, .inl lg)), (b0, .inr (0, [.int ki, .int ru, .int ne, .ref k0])), (k0, .inl (cI, 12, .inl ch))] H ∧ va_D A [(pl, .inr (1, [.ref p0, .ref p1, .ref p2, .ref p3, .ref p4, .ref p5, .int (nI (st - 1)), .int (sRide ki ru (nI (st - 1)) + xWy (xYd st ho lg (st - 1)) pa)])), (p0, .inl (cI, 5551, .inl q.2)), (p1, .inl (cI, 13, .inl wf1)), (p2, .inl (cI, 7, .inl rj1)), (p3, .inl (cI, 7, .inl (fun i => nI (wn1 i)))), (p4, .inl (cI, 7, .inl wh1)), (p5, .inl (cZ, 7, .inl hz1)), (rd, .inr (2, [.int (nI st), .int ho, .int pa, .int si, .int li, .int lc, .ref r0, .ref r1])), (r0, .inl (cI, 7, .inl lg)), (b0, .inr (0, [.int ki, .int ru, .int ne, .ref k0])), (k0, .inl (cI, 12, .inl ch))] ∧ va_S A s.heap H locs ∧ (13 - q.1 < n) ∧ ((xBn (rj1 (st - 1 - i - 1)) (nI (61 - u - 1)) 0) + q.1 ≤ 13) ∧ (q.2 = gY1 F9 (st - 1 - i - 1) (61 - u - 1) (xBn (rj1 (st - 1 - i - 1)) (nI (61 - u - 1)) 0) g2 q.1)) (14) (0, g2) ⟨lv_sub hl [0, 1, 2, 3, 4, 5] rfl, hP.sub [0, 1, 2, 3, 4, 5, 6, 7, 8, 9, 10] rfl, hD.sub [0, 1, 2, 3, 4, 5, 6, 7, 8, 9, 10] (by decide) rfl, hS, by (try dsimp only); exact ⟨by omega, by omega, rfl⟩⟩ (fun q H lc ls h => absurd h.2.2.2.2.1 (Nat.not_lt_zero _)) ?_
          intro n_145 q_145 H locs ls ih_145 hI_145
          obtain ⟨hl, hP, hD, hS, hI_145⟩ := hI_145
          obtain ⟨v, g3⟩ := q_145
          obtain ⟨o1, o2, o3⟩ := hI_145
          try dsimp only at hl hP hD o1 o2 o3
          refine lv_iload hx hb dX1_make_145 (lv_at hl 0 rfl) ?_
          refine lv_bipush (v := 12) hx hb dX1_make_147 (by decide) ?_
          refine lv_icmp_gt (tgt := 180) hx hb dX1_make_149 (by decide) (fun c_8 => ?_) (fun c_8 => ?_)
          · refine lv_iinc (v := nI (61 - (u + 1)) - 1) (lv' := [(4, .int (nI (61 - (u + 1)) - 1)), (5, .int (nI ((xBn (rj1 (st - 1 - i - 1)) (nI (61 - u - 1)) 0) + v))), (3, .int (nI ((st - 1) - i - 1))), (0, .ref pl), (1, .ref rd), (2, .ref b0)]) hx hb dX1_make_180 hl (k := 1) rfl (x5D_i w5) (by decide) rfl (fun ls hl => ?_)
            refine lv_goto (tgt := 130) hx hb dX1_make_183 (by decide) ?_
            have w13 : (xBn (rj1 (st - 1 - i - 1)) (nI (61 - u - 1)) 0) + v = 13 := by have w := (nI_ltI (a := 12) (b := (xBn (rj1 (st - 1 - i - 1)) (nI (61 - u - 1)) 0) + v) (by decide) (by omega)).mp c_8; omega
            have l3n := gY2_s l3 o3 w13
            exact ih_130 (u + 1, g3) _ _ _ ⟨lv_sub hl [0, 2, 3, 4, 5] rfl, hP.sub [0, 1, 2, 3, 4, 5, 6, 7, 8, 9, 10] rfl, hD.sub [0, 1, 2, 3, 4, 5, 6, 7, 8, 9, 10] (by decide) rfl, hS, by (try dsimp only); exact ⟨by omega, by omega, l3n⟩⟩
          · refine lv_aload_n hx hb dX1_make_152 rfl (lv_at hl 3 rfl) ?_
            refine va_get (D := D) (ci := 1) (v := .ref p0) (C := RX1) (T := TX1) (N := 8) hx hb hts hwX1 hown hK hP 0 rfl rfl 0 (by decide) (hts (.fieldLink RX1 11 "WaitOrWalkOn$Plan" "sums" "[I") (by decide +kernel)) (fun _ h9 => h9) rfl dX1_make_153 ?_
            refine lv_iload_n hx hb dX1_make_156 rfl (lv_at hl 2 rfl) ?_
            refine lv_iload hx hb dX1_make_157 (lv_at hl 1 rfl) ?_
            refine lv_iload hx hb dX1_make_159 (lv_at hl 0 rfl) ?_
            have hPc := hP.sub (ws' := []) [] rfl
            refine vp_callSi (va_Run.run (va_runS (As := [.int (nI ((st - 1) - i - 1)), .int (nI (61 - u - 1)), .int (nI ((xBn (rj1 (st - 1 - i - 1)) (nI (61 - u - 1)) 0) + v))]) (rest := [.ref p0]) ⟨hx, hb, hml, hown, hts⟩ (g_X1_index l D cI cL cZ cC (nI ((st - 1) - i - 1)) (nI (61 - u - 1)) (nI ((xBn (rj1 (st - 1 - i - 1)) (nI (61 - u - 1)) 0) + v)) ) (va_cwS 3 hts gX1_make_X1_index rfl rfl rfl (by decide +kernel) ⟨Nat.le_of_ble_eq_true rfl, Nat.le_of_ble_eq_true rfl⟩) ⟨xPc_bl, xPc_use hPc hK⟩ rfl rfl hl.1 rfl (lv_room (Nat.le_of_ble_eq_true rfl)) dX1_make_161 ⟨Nat.le_of_ble_eq_true rfl, Nat.le_of_ble_eq_true rfl⟩)) (fun r_9 er_9 => ?_)
            obtain rfl : (((nI ((st - 1) - i - 1)) * 61 + (nI (61 - u - 1))) * 13 + (nI ((xBn (rj1 (st - 1 - i - 1)) (nI (61 - u - 1)) 0) + v)) : Int32) = r_9 := Eq.symm er_9
            refine xv_int (y := nI (((st - 1 - i - 1) * 61 + (61 - u - 1)) * 13 + ((xBn (rj1 (st - 1 - i - 1)) (nI (61 - u - 1)) 0) + v))) (pk_idx _ _ _) ?_
            refine lv_aload_n hx hb dX1_make_164 rfl (lv_at hl 3 rfl) ?_
            refine lv_iload_n hx hb dX1_make_165 rfl (lv_at hl 2 rfl) ?_
            refine lv_iload hx hb dX1_make_166 (lv_at hl 1 rfl) ?_
            refine lv_iload hx hb dX1_make_168 (lv_at hl 0 rfl) ?_
            have hPc := hP.sub (ws' := [(pl, .inr (1, [.ref p0, .ref p1, .ref p2, .ref p3, .ref p4, .ref p5, .int (nI (st - 1)), .int (sRide ki ru (nI (st - 1)) + xWy (xYd st ho lg (st - 1)) pa)])), (p0, .inl (cI, 5551, .inl g3)), (p1, .inl (cI, 13, .inl wf1)), (p2, .inl (cI, 7, .inl rj1)), (p3, .inl (cI, 7, .inl (fun i => nI (wn1 i)))), (p4, .inl (cI, 7, .inl wh1)), (p5, .inl (cZ, 7, .inl hz1))]) [0, 1, 2, 3, 4, 5, 6] rfl
            refine vp_callSi (va_Run.run (va_runV (As := [.int (nI ((st - 1) - i - 1)), .int (nI (61 - u - 1)), .int (nI ((xBn (rj1 (st - 1 - i - 1)) (nI (61 - u - 1)) 0) + v))]) (rest := [.int (nI (((st - 1 - i - 1) * 61 + (61 - u - 1)) * 13 + ((xBn (rj1 (st - 1 - i - 1)) (nI (61 - u - 1)) 0) + v))), .ref p0]) ⟨hx, hb, hml, hown, hts⟩ (g_X1_leastSum l D cI cL cZ cC pl p0 p1 p2 p3 p4 p5 (st - 1) (sRide ki ru (nI (st - 1)) + xWy (xYd st ho lg (st - 1)) pa) (st - 1 - i - 1) (61 - u - 1) ((xBn (rj1 (st - 1 - i - 1)) (nI (61 - u - 1)) 0) + v) wn1 rj1 g3 wf1 wh1 hz1 (by omega) (by omega) (by omega) (by have w := mt (nI_ltI (a := 12) (b := (xBn (rj1 (st - 1 - i - 1)) (nI (61 - u - 1)) 0) + v) (by decide) (by omega)).mpr c_8; omega) (hwn1 _ (by omega))) (cwV 3 hts gX1_make_X1_leastSum rfl rfl rfl (by decide +kernel) ⟨Nat.le_of_ble_eq_true rfl, Nat.le_of_ble_eq_true rfl⟩) ⟨xPc_bl, va_recv hK hPc (ci := 1) (q0 := 0) rfl rfl, xPc_use hPc hK⟩ rfl rfl hl.1 rfl (lv_room (Nat.le_of_ble_eq_true rfl)) dX1_make_170 ⟨Nat.le_of_ble_eq_true rfl, Nat.le_of_ble_eq_true rfl⟩)) (fun r_10 er_10 => ?_)
            obtain rfl : (xLs (st - 1) (sRide ki ru (nI (st - 1)) + xWy (xYd st ho lg (st - 1)) pa) g3 wf1 rj1 wn1 wh1 hz1 (st - 1 - i - 1) (61 - u - 1) ((xBn (rj1 (st - 1 - i - 1)) (nI (61 - u - 1)) 0) + v) : Int32) = r_10 := Eq.symm er_10
            refine va_iast (D := D) hx hb hK hP hD hS 1 0 rfl rfl (vp_in_nI (by have w7 : (xBn (rj1 (st - 1 - i - 1)) (nI (61 - u - 1)) 0) + v ≤ 12 := (by have w := mt (nI_ltI (a := 12) (b := (xBn (rj1 (st - 1 - i - 1)) (nI (61 - u - 1)) 0) + v) (by decide) (by omega)).mpr c_8; omega); omega) (by decide)) dX1_make_173 (fun H locs hP hD hS => ?_)
            have hP : va_P D vwCl [(pl, .inr (1, [.ref p0, .ref p1, .ref p2, .ref p3, .ref p4, .ref p5, .int (nI (st - 1)), .int (sRide ki ru (nI (st - 1)) + xWy (xYd st ho lg (st - 1)) pa)])), (p0, .inl (cI, 5551, .inl (upd g3 ((nI (((st - 1 - i - 1) * 61 + (61 - u - 1)) * 13 + ((xBn (rj1 (st - 1 - i - 1)) (nI (61 - u - 1)) 0) + v))).toNatClampNeg) (xLs (st - 1) (sRide ki ru (nI (st - 1)) + xWy (xYd st ho lg (st - 1)) pa) g3 wf1 rj1 wn1 wh1 hz1 (st - 1 - i - 1) (61 - u - 1) ((xBn (rj1 (st - 1 - i - 1)) (nI (61 - u - 1)) 0) + v))))), (p1, .inl (cI, 13, .inl wf1)), (p2, .inl (cI, 7, .inl rj1)), (p3, .inl (cI, 7, .inl (fun i => nI (wn1 i)))), (p4, .inl (cI, 7, .inl wh1)), (p5, .inl (cZ, 7, .inl hz1)), (rd, .inr (2, [.int (nI st), .int ho, .int pa, .int si, .int li, .int lc, .ref r0, .ref r1])), (r0, .inl (cI, 7, .inl lg)), (b0, .inr (0, [.int ki, .int ru, .int ne, .ref k0])), (k0, .inl (cI, 12, .inl ch))] H := hP
            have hD : va_D A [(pl, .inr (1, [.ref p0, .ref p1, .ref p2, .ref p3, .ref p4, .ref p5, .int (nI (st - 1)), .int (sRide ki ru (nI (st - 1)) + xWy (xYd st ho lg (st - 1)) pa)])), (p0, .inl (cI, 5551, .inl (upd g3 ((nI (((st - 1 - i - 1) * 61 + (61 - u - 1)) * 13 + ((xBn (rj1 (st - 1 - i - 1)) (nI (61 - u - 1)) 0) + v))).toNatClampNeg) (xLs (st - 1) (sRide ki ru (nI (st - 1)) + xWy (xYd st ho lg (st - 1)) pa) g3 wf1 rj1 wn1 wh1 hz1 (st - 1 - i - 1) (61 - u - 1) ((xBn (rj1 (st - 1 - i - 1)) (nI (61 - u - 1)) 0) + v))))), (p1, .inl (cI, 13, .inl wf1)), (p2, .inl (cI, 7, .inl rj1)), (p3, .inl (cI, 7, .inl (fun i => nI (wn1 i)))), (p4, .inl (cI, 7, .inl wh1)), (p5, .inl (cZ, 7, .inl hz1)), (rd, .inr (2, [.int (nI st), .int ho, .int pa, .int si, .int li, .int lc, .ref r0, .ref r1])), (r0, .inl (cI, 7, .inl lg)), (b0, .inr (0, [.int ki, .int ru, .int ne, .ref k0])), (k0, .inl (cI, 12, .inl ch))] := hD
            refine lv_iinc (v := nI ((xBn (rj1 (st - 1 - i - 1)) (nI (61 - u - 1)) 0) + (v + 1))) (lv' := [(5, .int (nI ((xBn (rj1 (st - 1 - i - 1)) (nI (61 - u - 1)) 0) + (v + 1)))), (4, .int (nI (61 - u - 1))), (3, .int (nI ((st - 1) - i - 1))), (0, .ref pl), (1, .ref rd), (2, .ref b0)]) hx hb dX1_make_174 hl (k := 0) rfl (nI_1 ((xBn (rj1 (st - 1 - i - 1)) (nI (61 - u - 1)) 0) + v)) (by decide) rfl (fun ls hl => ?_)
            refine lv_goto (tgt := 145) hx hb dX1_make_177 (by decide) ?_
            have w7 : (xBn (rj1 (st - 1 - i - 1)) (nI (61 - u - 1)) 0) + v ≤ 12 := (by have w := mt (nI_ltI (a := 12) (b := (xBn (rj1 (st - 1 - i - 1)) (nI (61 - u - 1)) 0) + v) (by decide) (by omega)).mpr c_8; omega)
            have o3n := gY1_s hF9 o3 (by omega)
            exact ih_145 (v + 1, upd g3 ((nI (((st - 1 - i - 1) * 61 + (61 - u - 1)) * 13 + ((xBn (rj1 (st - 1 - i - 1)) (nI (61 - u - 1)) 0) + v))).toNatClampNeg) (xLs (st - 1) (sRide ki ru (nI (st - 1)) + xWy (xYd st ho lg (st - 1)) pa) g3 wf1 rj1 wn1 wh1 hz1 (st - 1 - i - 1) (61 - u - 1) ((xBn (rj1 (st - 1 - i - 1)) (nI (61 - u - 1)) 0) + v))) _ _ _ ⟨lv_sub hl [0, 1, 2, 3, 4, 5] rfl, hP.sub [0, 1, 2, 3, 4, 5, 6, 7, 8, 9, 10] rfl, hD.sub [0, 1, 2, 3, 4, 5, 6, 7, 8, 9, 10] (by decide) rfl, hS, by (try dsimp only); exact ⟨by omega, by omega, o3n⟩⟩
    · refine lv_aload_n hx hb dX1_make_93 rfl (lv_at hl 1 rfl) ?_
      refine va_get (D := D) (ci := 1) (v := .ref p1) (C := RX1) (T := TX1) (N := 8) hx hb hts hwX1 hown hK hP 0 rfl rfl 1 (by decide) (hts (.fieldLink RX1 15 "WaitOrWalkOn$Plan" "weightFrom" "[I") (by decide +kernel)) (fun _ h9 => h9) rfl dX1_make_94 ?_
      refine lv_iload_n hx hb dX1_make_97 rfl (lv_at hl 0 rfl) ?_
      refine lv_aload_n hx hb dX1_make_98 rfl (lv_at hl 3 rfl) ?_
      have hPc := hP.sub (ws' := [(b0, .inr (0, [.int ki, .int ru, .int ne, .ref k0])), (k0, .inl (cI, 12, .inl ch))]) [9, 10] rfl
      refine vp_callSi (va_Run.run (va_runV (As := []) (rest := [.int (nI t1), .ref p1]) ⟨hx, hb, hml, hown, hts⟩ (g_X0_total l D cI cL cZ cC b0 k0 ki ru ne ch ) (cwV 0 hts gX1_make_X0_total rfl rfl rfl (by decide +kernel) ⟨Nat.le_of_ble_eq_true rfl, Nat.le_of_ble_eq_true rfl⟩) ⟨xPc_bl, va_recv hK hPc (ci := 0) (q0 := 0) rfl rfl, xPc_use hPc hK⟩ rfl rfl hl.1 rfl (lv_room (Nat.le_of_ble_eq_true rfl)) dX1_make_99 ⟨Nat.le_of_ble_eq_true rfl, Nat.le_of_ble_eq_true rfl⟩)) (fun r_11 er_11 => ?_)
      obtain rfl : (xSm ch 12 + ne : Int32) = r_11 := Eq.symm er_11
      refine lv_aload_n hx hb dX1_make_102 rfl (lv_at hl 3 rfl) ?_
      refine lv_iload_n hx hb dX1_make_103 rfl (lv_at hl 0 rfl) ?_
      have hPc := hP.sub (ws' := [(b0, .inr (0, [.int ki, .int ru, .int ne, .ref k0])), (k0, .inl (cI, 12, .inl ch))]) [9, 10] rfl
      refine vp_callSi (va_Run.run (va_runV (As := [.int (nI t1)]) (rest := [.int (xSm ch 12 + ne), .int (nI t1), .ref p1]) ⟨hx, hb, hml, hown, hts⟩ (g_X0_weightAhead l D cI cL cZ cC b0 k0 ki ru ne ch (nI t1) ) (cwV 1 hts gX1_make_X0_weightAhead rfl rfl rfl (by decide +kernel) ⟨Nat.le_of_ble_eq_true rfl, Nat.le_of_ble_eq_true rfl⟩) ⟨xPc_bl, va_recv hK hPc (ci := 0) (q0 := 0) rfl rfl, xPc_use hPc hK⟩ rfl rfl hl.1 rfl (lv_room (Nat.le_of_ble_eq_true rfl)) dX1_make_104 ⟨Nat.le_of_ble_eq_true rfl, Nat.le_of_ble_eq_true rfl⟩)) (fun r_12 er_12 => ?_)
      obtain rfl : (xWa ch (nI t1) : Int32) = r_12 := Eq.symm er_12
      refine lv_isub hx hb dX1_make_107 ?_
      refine va_iast (D := D) hx hb hK hP hD hS 2 0 rfl rfl (vp_in_nI (by have w := mt (nI_ltI (a := 12) (b := t1) (by decide) (by omega)).mpr c_4; omega) (by decide)) dX1_make_108 (fun H locs hP hD hS => ?_)
      have hP : va_P D vwCl [(pl, .inr (1, [.ref p0, .ref p1, .ref p2, .ref p3, .ref p4, .ref p5, .int (nI (st - 1)), .int (sRide ki ru (nI (st - 1)) + xWy (xYd st ho lg (st - 1)) pa)])), (p0, .inl (cI, 5551, .inl sm)), (p1, .inl (cI, 13, .inl (upd wf1 ((nI t1).toNatClampNeg) ((xSm ch 12 + ne) - (xWa ch (nI t1)))))), (p2, .inl (cI, 7, .inl rj1)), (p3, .inl (cI, 7, .inl (fun i => nI (wn1 i)))), (p4, .inl (cI, 7, .inl wh1)), (p5, .inl (cZ, 7, .inl hz1)), (rd, .inr (2, [.int (nI st), .int ho, .int pa, .int si, .int li, .int lc, .ref r0, .ref r1])), (r0, .inl (cI, 7, .inl lg)), (b0, .inr (0, [.int ki, .int ru, .int ne, .ref k0])), (k0, .inl (cI, 12, .inl ch))] H := hP
      have hD : va_D A [(pl, .inr (1, [.ref p0, .ref p1, .ref p2, .ref p3, .ref p4, .ref p5, .int (nI (st - 1)), .int (sRide ki ru (nI (st - 1)) + xWy (xYd st ho lg (st - 1)) pa)])), (p0, .inl (cI, 5551, .inl sm)), (p1, .inl (cI, 13, .inl (upd wf1 ((nI t1).toNatClampNeg) ((xSm ch 12 + ne) - (xWa ch (nI t1)))))), (p2, .inl (cI, 7, .inl rj1)), (p3, .inl (cI, 7, .inl (fun i => nI (wn1 i)))), (p4, .inl (cI, 7, .inl wh1)), (p5, .inl (cZ, 7, .inl hz1)), (rd, .inr (2, [.int (nI st), .int ho, .int pa, .int si, .int li, .int lc, .ref r0, .ref r1])), (r0, .inl (cI, 7, .inl lg)), (b0, .inr (0, [.int ki, .int ru, .int ne, .ref k0])), (k0, .inl (cI, 12, .inl ch))] := hD
      refine lv_iinc (v := nI (t1 + 1)) (lv' := [(3, .int (nI (t1 + 1))), (0, .ref pl), (1, .ref rd), (2, .ref b0)]) hx hb dX1_make_109 hl (k := 0) rfl (nI_1 t1) (by decide) rfl (fun ls hl => ?_)
      refine lv_goto (tgt := 87) hx hb dX1_make_112 (by decide) ?_
      have w := mt (nI_ltI (a := 12) (b := t1) (by decide) (by omega)).mpr c_4
      exact ih_87 (t1 + 1, upd wf1 ((nI t1).toNatClampNeg) ((xSm ch 12 + ne) - (xWa ch (nI t1)))) _ _ _ ⟨lv_sub hl [0, 1, 2, 3] rfl, hP.sub [0, 1, 2, 3, 4, 5, 6, 7, 8, 9, 10] rfl, hD.sub [0, 1, 2, 3, 4, 5, 6, 7, 8, 9, 10] (by decide) rfl, hS, by (try dsimp only); exact ⟨by omega, by omega, xMw_s i3 (by omega)⟩⟩
  · refine lv_aload_n hx hb dX1_make_27 rfl (lv_at hl 1 rfl) ?_
    refine va_get (D := D) (ci := 1) (v := .ref p2) (C := RX1) (T := TX1) (N := 8) hx hb hts hwX1 hown hK hP 0 rfl rfl 2 (by decide) (hts (.fieldLink RX1 18 "WaitOrWalkOn$Plan" "ride" "[I") (by decide +kernel)) (fun _ h9 => h9) rfl dX1_make_28 ?_
    refine lv_iload_n hx hb dX1_make_31 rfl (lv_at hl 0 rfl) ?_
    refine lv_aload_n hx hb dX1_make_32 rfl (lv_at hl 3 rfl) ?_
    refine lv_iload_n hx hb dX1_make_33 rfl (lv_at hl 0 rfl) ?_
    have hPc := hP.sub (ws' := [(b0, .inr (0, [.int ki, .int ru, .int ne, .ref k0])), (k0, .inl (cI, 12, .inl ch))]) [9, 10] rfl
    refine vp_callSi (va_Run.run (va_runV (As := [.int (nI k)]) (rest := [.int (nI k), .ref p2]) ⟨hx, hb, hml, hown, hts⟩ (g_X0_rideTo l D cI cL cZ cC b0 k0 ki ru ne ch (nI k) ) (cwV 1 hts gX1_make_X0_rideTo rfl rfl rfl (by decide +kernel) ⟨Nat.le_of_ble_eq_true rfl, Nat.le_of_ble_eq_true rfl⟩) ⟨xPc_bl, va_recv hK hPc (ci := 0) (q0 := 0) rfl rfl, xPc_use hPc hK⟩ rfl rfl hl.1 rfl (lv_room (Nat.le_of_ble_eq_true rfl)) dX1_make_34 ⟨Nat.le_of_ble_eq_true rfl, Nat.le_of_ble_eq_true rfl⟩)) (fun r_13 er_13 => ?_)
    obtain rfl : (sRide ki ru (nI k) : Int32) = r_13 := Eq.symm er_13
    refine va_iast (D := D) hx hb hK hP hD hS 3 0 rfl rfl (vp_in_nI (by have w := mt (nI_ltI (a := st - 1) (b := k) (by omega) (by omega)).mpr c_3; omega) (by decide)) dX1_make_37 (fun H locs hP hD hS => ?_)
    rw [nI_clamp (by omega)] at hP hD
    have hP : va_P D vwCl [(pl, .inr (1, [.ref p0, .ref p1, .ref p2, .ref p3, .ref p4, .ref p5, .int (nI (st - 1)), .int (sRide ki ru (nI (st - 1)) + xWy (xYd st ho lg (st - 1)) pa)])), (p0, .inl (cI, 5551, .inl sm)), (p1, .inl (cI, 13, .inl wf)), (p2, .inl (cI, 7, .inl (upd rj1 k (sRide ki ru (nI k))))), (p3, .inl (cI, 7, .inl (fun i => nI (wn1 i)))), (p4, .inl (cI, 7, .inl wh1)), (p5, .inl (cZ, 7, .inl hz1)), (rd, .inr (2, [.int (nI st), .int ho, .int pa, .int si, .int li, .int lc, .ref r0, .ref r1])), (r0, .inl (cI, 7, .inl lg)), (b0, .inr (0, [.int ki, .int ru, .int ne, .ref k0])), (k0, .inl (cI, 12, .inl ch))] H := hP
    have hD : va_D A [(pl, .inr (1, [.ref p0, .ref p1, .ref p2, .ref p3, .ref p4, .ref p5, .int (nI (st - 1)), .int (sRide ki ru (nI (st - 1)) + xWy (xYd st ho lg (st - 1)) pa)])), (p0, .inl (cI, 5551, .inl sm)), (p1, .inl (cI, 13, .inl wf)), (p2, .inl (cI, 7, .inl (upd rj1 k (sRide ki ru (nI k))))), (p3, .inl (cI, 7, .inl (fun i => nI (wn1 i)))), (p4, .inl (cI, 7, .inl wh1)), (p5, .inl (cZ, 7, .inl hz1)), (rd, .inr (2, [.int (nI st), .int ho, .int pa, .int si, .int li, .int lc, .ref r0, .ref r1])), (r0, .inl (cI, 7, .inl lg)), (b0, .inr (0, [.int ki, .int ru, .int ne, .ref k0])), (k0, .inl (cI, 12, .inl ch))] := hD
    refine lv_aload_n hx hb dX1_make_38 rfl (lv_at hl 1 rfl) ?_
    refine va_get (D := D) (ci := 1) (v := .ref p3) (C := RX1) (T := TX1) (N := 8) hx hb hts hwX1 hown hK hP 0 rfl rfl 3 (by decide) (hts (.fieldLink RX1 21 "WaitOrWalkOn$Plan" "walk" "[I") (by decide +kernel)) (fun _ h9 => h9) rfl dX1_make_39 ?_
    refine lv_iload_n hx hb dX1_make_42 rfl (lv_at hl 0 rfl) ?_
    refine lv_aload_n hx hb dX1_make_43 rfl (lv_at hl 2 rfl) ?_
    refine lv_iload_n hx hb dX1_make_44 rfl (lv_at hl 0 rfl) ?_
    refine lv_aload_n hx hb dX1_make_45 rfl (lv_at hl 2 rfl) ?_
    refine va_get (D := D) (ci := 2) (v := .int pa) (C := RX2) (T := TX2) (N := 8) hx hb hts hwX2 hown hK hP 7 rfl rfl 2 (by decide) (hts (.fieldLink RX1 52 "WaitOrWalkOn$Road" "pace" "I") (by decide +kernel)) (fun _ h9 => h9) rfl dX1_make_46 ?_
    have hPc := hP.sub (ws' := [(rd, .inr (2, [.int (nI st), .int ho, .int pa, .int si, .int li, .int lc, .ref r0, .ref r1])), (r0, .inl (cI, 7, .inl lg))]) [7, 8] rfl
    refine vp_callSi (va_Run.run (va_runV (As := [.int (nI k), .int pa]) (rest := [.int (nI k), .ref p3]) ⟨hx, hb, hml, hown, hts⟩ (g_X2_wayFrom l D cI cL cZ cC rd r0 r1 st ho pa si li lc lg k pa (by first | assumption | decide +kernel) (by first | assumption | decide +kernel) (by have w := mt (nI_ltI (a := st - 1) (b := k) (by omega) (by omega)).mpr c_3; omega)) (cwV 2 hts gX1_make_X2_wayFrom rfl rfl rfl (by decide +kernel) ⟨Nat.le_of_ble_eq_true rfl, Nat.le_of_ble_eq_true rfl⟩) ⟨xPc_bl, va_recv hK hPc (ci := 2) (q0 := 0) rfl rfl, xPc_use hPc hK⟩ rfl rfl hl.1 rfl (lv_room (Nat.le_of_ble_eq_true rfl)) dX1_make_49 ⟨Nat.le_of_ble_eq_true rfl, Nat.le_of_ble_eq_true rfl⟩)) (fun r_14 er_14 => ?_)
    obtain rfl : (xWy (xYd st ho lg k) pa : Int32) = r_14 := Eq.symm er_14
    have w1 : k < st := by have w := mt (nI_ltI (a := st - 1) (b := k) (by omega) (by omega)).mpr c_3; omega
    obtain ⟨w9, hw9, e9⟩ := hwy k w1
    refine xv_int (y := nI w9) (e9) ?_
    refine va_iast (D := D) hx hb hK hP hD hS 4 0 rfl rfl (vp_in_nI (by omega) (by decide)) dX1_make_52 (fun H locs hP hD hS => ?_)
    rw [nI_clamp (by omega)] at hP hD
    have z_52 : upd (fun i => nI (wn1 i)) k (nI w9) = fun i => nI (xUpN wn1 k w9 i) := xUpN_e _ _ _
    rw [z_52] at hP hD
    have hP : va_P D vwCl [(pl, .inr (1, [.ref p0, .ref p1, .ref p2, .ref p3, .ref p4, .ref p5, .int (nI (st - 1)), .int (sRide ki ru (nI (st - 1)) + xWy (xYd st ho lg (st - 1)) pa)])), (p0, .inl (cI, 5551, .inl sm)), (p1, .inl (cI, 13, .inl wf)), (p2, .inl (cI, 7, .inl (upd rj1 k (sRide ki ru (nI k))))), (p3, .inl (cI, 7, .inl (fun i => nI (xUpN wn1 k w9 i)))), (p4, .inl (cI, 7, .inl wh1)), (p5, .inl (cZ, 7, .inl hz1)), (rd, .inr (2, [.int (nI st), .int ho, .int pa, .int si, .int li, .int lc, .ref r0, .ref r1])), (r0, .inl (cI, 7, .inl lg)), (b0, .inr (0, [.int ki, .int ru, .int ne, .ref k0])), (k0, .inl (cI, 12, .inl ch))] H := hP
    have hD : va_D A [(pl, .inr (1, [.ref p0, .ref p1, .ref p2, .ref p3, .ref p4, .ref p5, .int (nI (st - 1)), .int (sRide ki ru (nI (st - 1)) + xWy (xYd st ho lg (st - 1)) pa)])), (p0, .inl (cI, 5551, .inl sm)), (p1, .inl (cI, 13, .inl wf)), (p2, .inl (cI, 7, .inl (upd rj1 k (sRide ki ru (nI k))))), (p3, .inl (cI, 7, .inl (fun i => nI (xUpN wn1 k w9 i)))), (p4, .inl (cI, 7, .inl wh1)), (p5, .inl (cZ, 7, .inl hz1)), (rd, .inr (2, [.int (nI st), .int ho, .int pa, .int si, .int li, .int lc, .ref r0, .ref r1])), (r0, .inl (cI, 7, .inl lg)), (b0, .inr (0, [.int ki, .int ru, .int ne, .ref k0])), (k0, .inl (cI, 12, .inl ch))] := hD
    refine lv_aload_n hx hb dX1_make_53 rfl (lv_at hl 1 rfl) ?_
    refine va_get (D := D) (ci := 1) (v := .ref p4) (C := RX1) (T := TX1) (N := 8) hx hb hts hwX1 hown hK hP 0 rfl rfl 4 (by decide) (hts (.fieldLink RX1 24 "WaitOrWalkOn$Plan" "walkHome" "[I") (by decide +kernel)) (fun _ h9 => h9) rfl dX1_make_54 ?_
    refine lv_iload_n hx hb dX1_make_57 rfl (lv_at hl 0 rfl) ?_
    refine lv_aload_n hx hb dX1_make_58 rfl (lv_at hl 2 rfl) ?_
    refine lv_iload_n hx hb dX1_make_59 rfl (lv_at hl 0 rfl) ?_
    have hPc := hP.sub (ws' := [(rd, .inr (2, [.int (nI st), .int ho, .int pa, .int si, .int li, .int lc, .ref r0, .ref r1])), (r0, .inl (cI, 7, .inl lg))]) [7, 8] rfl
    refine vp_callSi (va_Run.run (va_runV (As := [.int (nI k)]) (rest := [.int (nI k), .ref p4]) ⟨hx, hb, hml, hown, hts⟩ (g_X2_walkHome l D cI cL cZ cC rd r0 r1 st ho pa si li lc lg k (by first | assumption | decide +kernel) (by first | assumption | decide +kernel) (by omega)) (cwV 1 hts gX1_make_X2_walkHome rfl rfl rfl (by decide +kernel) ⟨Nat.le_of_ble_eq_true rfl, Nat.le_of_ble_eq_true rfl⟩) ⟨xPc_bl, va_recv hK hPc (ci := 2) (q0 := 0) rfl rfl, xPc_use hPc hK⟩ rfl rfl hl.1 rfl (lv_room (Nat.le_of_ble_eq_true rfl)) dX1_make_60 ⟨Nat.le_of_ble_eq_true rfl, Nat.le_of_ble_eq_true rfl⟩)) (fun r_15 er_15 => ?_)
    obtain rfl : (xWh st ho pa lg k : Int32) = r_15 := Eq.symm er_15
    refine va_iast (D := D) hx hb hK hP hD hS 5 0 rfl rfl (vp_in_nI (by omega) (by decide)) dX1_make_63 (fun H locs hP hD hS => ?_)
    rw [nI_clamp (by omega)] at hP hD
    have hP : va_P D vwCl [(pl, .inr (1, [.ref p0, .ref p1, .ref p2, .ref p3, .ref p4, .ref p5, .int (nI (st - 1)), .int (sRide ki ru (nI (st - 1)) + xWy (xYd st ho lg (st - 1)) pa)])), (p0, .inl (cI, 5551, .inl sm)), (p1, .inl (cI, 13, .inl wf)), (p2, .inl (cI, 7, .inl (upd rj1 k (sRide ki ru (nI k))))), (p3, .inl (cI, 7, .inl (fun i => nI (xUpN wn1 k w9 i)))), (p4, .inl (cI, 7, .inl (upd wh1 k (xWh st ho pa lg k)))), (p5, .inl (cZ, 7, .inl hz1)), (rd, .inr (2, [.int (nI st), .int ho, .int pa, .int si, .int li, .int lc, .ref r0, .ref r1])), (r0, .inl (cI, 7, .inl lg)), (b0, .inr (0, [.int ki, .int ru, .int ne, .ref k0])), (k0, .inl (cI, 12, .inl ch))] H := hP
    have hD : va_D A [(pl, .inr (1, [.ref p0, .ref p1, .ref p2, .ref p3, .ref p4, .ref p5, .int (nI (st - 1)), .int (sRide ki ru (nI (st - 1)) + xWy (xYd st ho lg (st - 1)) pa)])), (p0, .inl (cI, 5551, .inl sm)), (p1, .inl (cI, 13, .inl wf)), (p2, .inl (cI, 7, .inl (upd rj1 k (sRide ki ru (nI k))))), (p3, .inl (cI, 7, .inl (fun i => nI (xUpN wn1 k w9 i)))), (p4, .inl (cI, 7, .inl (upd wh1 k (xWh st ho pa lg k)))), (p5, .inl (cZ, 7, .inl hz1)), (rd, .inr (2, [.int (nI st), .int ho, .int pa, .int si, .int li, .int lc, .ref r0, .ref r1])), (r0, .inl (cI, 7, .inl lg)), (b0, .inr (0, [.int ki, .int ru, .int ne, .ref k0])), (k0, .inl (cI, 12, .inl ch))] := hD
    refine lv_aload_n hx hb dX1_make_64 rfl (lv_at hl 1 rfl) ?_
    refine va_get (D := D) (ci := 1) (v := .ref p5) (C := RX1) (T := TX1) (N := 8) hx hb hts hwX1 hown hK hP 0 rfl rfl 5 (by decide) (hts (.fieldLink RX1 27 "WaitOrWalkOn$Plan" "halts" "[Z") (by decide +kernel)) (fun _ h9 => h9) rfl dX1_make_65 ?_
    refine lv_iload_n hx hb dX1_make_68 rfl (lv_at hl 0 rfl) ?_
    refine lv_aload_n hx hb dX1_make_69 rfl (lv_at hl 3 rfl) ?_
    refine lv_iload_n hx hb dX1_make_70 rfl (lv_at hl 0 rfl) ?_
    refine lv_aload_n hx hb dX1_make_71 rfl (lv_at hl 1 rfl) ?_
    refine va_get (D := D) (ci := 1) (v := .int (nI (st - 1))) (C := RX1) (T := TX1) (N := 8) hx hb hts hwX1 hown hK hP 0 rfl rfl 6 (by decide) (hts (.fieldLink RX1 37 "WaitOrWalkOn$Plan" "last" "I") (by decide +kernel)) (fun _ h9 => h9) rfl dX1_make_72 ?_
    have hPc := hP.sub (ws' := [(b0, .inr (0, [.int ki, .int ru, .int ne, .ref k0])), (k0, .inl (cI, 12, .inl ch))]) [9, 10] rfl
    refine vp_callSi (va_Run.run (va_runV (As := [.int (nI k), .int (nI (st - 1))]) (rest := [.int (nI k), .ref p5]) ⟨hx, hb, hml, hown, hts⟩ (g_X0_halts l D cI cL cZ cC b0 k0 ki ru ne ch (nI k) (nI (st - 1)) ) (cwV 2 hts gX1_make_X0_halts rfl rfl rfl (by decide +kernel) ⟨Nat.le_of_ble_eq_true rfl, Nat.le_of_ble_eq_true rfl⟩) ⟨xPc_bl, va_recv hK hPc (ci := 0) (q0 := 0) rfl rfl, xPc_use hPc hK⟩ rfl rfl hl.1 rfl (lv_room (Nat.le_of_ble_eq_true rfl)) dX1_make_75 ⟨Nat.le_of_ble_eq_true rfl, Nat.le_of_ble_eq_true rfl⟩)) (fun r_16 er_16 => ?_)
    obtain rfl : (sHalt ki (nI k) (nI (st - 1)) : Int32) = r_16 := Eq.symm er_16
    refine va_zast (D := D) hx hb hK hP hD hS 6 2 rfl rfl (vp_in_nI (by omega) (by decide)) dX1_make_78 (fun H locs hP hD hS => ?_)
    rw [nI_clamp (by omega)] at hP hD
    have hP : va_P D vwCl [(pl, .inr (1, [.ref p0, .ref p1, .ref p2, .ref p3, .ref p4, .ref p5, .int (nI (st - 1)), .int (sRide ki ru (nI (st - 1)) + xWy (xYd st ho lg (st - 1)) pa)])), (p0, .inl (cI, 5551, .inl sm)), (p1, .inl (cI, 13, .inl wf)), (p2, .inl (cI, 7, .inl (upd rj1 k (sRide ki ru (nI k))))), (p3, .inl (cI, 7, .inl (fun i => nI (xUpN wn1 k w9 i)))), (p4, .inl (cI, 7, .inl (upd wh1 k (xWh st ho pa lg k)))), (p5, .inl (cZ, 7, .inl (upd hz1 k (vp_nar .boolean (sHalt ki (nI k) (nI (st - 1))))))), (rd, .inr (2, [.int (nI st), .int ho, .int pa, .int si, .int li, .int lc, .ref r0, .ref r1])), (r0, .inl (cI, 7, .inl lg)), (b0, .inr (0, [.int ki, .int ru, .int ne, .ref k0])), (k0, .inl (cI, 12, .inl ch))] H := hP
    have hD : va_D A [(pl, .inr (1, [.ref p0, .ref p1, .ref p2, .ref p3, .ref p4, .ref p5, .int (nI (st - 1)), .int (sRide ki ru (nI (st - 1)) + xWy (xYd st ho lg (st - 1)) pa)])), (p0, .inl (cI, 5551, .inl sm)), (p1, .inl (cI, 13, .inl wf)), (p2, .inl (cI, 7, .inl (upd rj1 k (sRide ki ru (nI k))))), (p3, .inl (cI, 7, .inl (fun i => nI (xUpN wn1 k w9 i)))), (p4, .inl (cI, 7, .inl (upd wh1 k (xWh st ho pa lg k)))), (p5, .inl (cZ, 7, .inl (upd hz1 k (vp_nar .boolean (sHalt ki (nI k) (nI (st - 1))))))), (rd, .inr (2, [.int (nI st), .int ho, .int pa, .int si, .int li, .int lc, .ref r0, .ref r1])), (r0, .inl (cI, 7, .inl lg)), (b0, .inr (0, [.int ki, .int ru, .int ne, .ref k0])), (k0, .inl (cI, 12, .inl ch))] := hD
    refine lv_iinc (v := nI (k + 1)) (lv' := [(3, .int (nI (k + 1))), (0, .ref pl), (1, .ref rd), (2, .ref b0)]) hx hb dX1_make_79 hl (k := 0) rfl (nI_1 k) (by decide) rfl (fun ls hl => ?_)
    refine lv_goto (tgt := 19) hx hb dX1_make_82 (by decide) ?_
    exact ih_19 (k + 1, upd rj1 k (sRide ki ru (nI k)), xUpN wn1 k w9, upd wh1 k (xWh st ho pa lg k), upd hz1 k (vp_nar .boolean (sHalt ki (nI k) (nI (st - 1))))) _ _ _ ⟨lv_sub hl [0, 1, 2, 3] rfl, hP.sub [0, 1, 2, 3, 4, 5, 6, 7, 8, 9, 10] rfl, hD.sub [0, 1, 2, 3, 4, 5, 6, 7, 8, 9, 10] (by decide) rfl, hS, by (try dsimp only); exact ⟨by omega, by omega, xUpN_le hwn1 hw9, xMk_s hMk e9⟩⟩

/-! who reads the plan: the reference's answers -/
theorem xw5 {st : Nat} {nw : Nat → Int32} {wn5 : Nat → Nat} (hw5 : ∀ j, 1 ≤ j → j ≤ st → (xLm nw st j + nw 2 - 1) / nw 2 = nI (wn5 j) ∧ wn5 j ≤ 1000) : ∀ j, 1 ≤ j → j ≤ st → wn5 j < 2 ^ 30 := fun j h1 h2 => by have := (hw5 j h1 h2).2; omega
theorem xa_Be {st ln l lz p m : Nat} {ho pa si li rq : Int32} {lg ki ru ne nw sm wf rj wh hz : Nat → Int32} {ch : Nat → Nat → Int32} {wn5 wn : Nat → Nat} {y : Nat → Int32} (hV : xVc st ln ho pa lg) (hR : xRel (st, ln, ho, pa, si, li, lg, ki, ru, ne, ch) nw) (hD : xDi (st, ln, ho, pa, si, li, lg, ki, ru, ne, ch)) (hl : l < ln) (hw5 : ∀ j, 1 ≤ j → j ≤ st → (xLm nw st j + nw 2 - 1) / nw 2 = nI (wn5 j) ∧ wn5 j ≤ 1000)
    (hP : xPl st ho pa lg (ki l) (ru l) (ne l) (ch l) lz rq sm wf rj wn wh hz) (hp : p < st) (hm : m ≤ 60) : xCh9 lz sm wf rj wn wh p m = v5Be st nw wn5 y (nI l) (nI p) (nI m) := by
  have h7 := hV.1.2
  have h3 := hV.2.1
  obtain ⟨r, hq⟩ := xPl_q hV hR hD hl hw5 hP
  unfold v5Be
  rw [nI_clamp (show l < 2 ^ 31 by omega), nI_clamp (show p < 2 ^ 31 by omega), nI_clamp (show m < 2 ^ 31 by omega)]
  exact xPq_ch hq (xw5 hw5) hp hm
/-- the class's patience, from a minute on -/
def xPa4 (c : Nat → Int32) : Nat → Nat → Int32
  | 0, _ => -9
  | n + 1, m => if c m = 0 then xPa4 c n (m + 1) else if c m = 1 then nI m else -9
theorem xPa4_e {c w k : Nat → Int32} : ∀ n m, (∀ i, m ≤ i → i < m + n → c i = if w i = 0 then -9 else if k i = 0 then 0 else 1) → xPa4 c n m = x5Pa w k n m
  | 0, _, _ => rfl
  | n + 1, m, h => by
    have e := h m (Nat.le_refl _) (by omega)
    simp only [xPa4, x5Pa]
    by_cases h1 : w m = 0
    · rw [if_pos h1] at e ⊢
      rw [if_neg (by rw [e]; decide), if_neg (by rw [e]; decide)]
    rw [if_neg h1] at e ⊢
    by_cases h2 : k m = 0
    · rw [if_pos h2] at e ⊢
      rw [if_pos e]
      exact xPa4_e n (m + 1) (fun i h1 h2 => h i (by omega) (by omega))
    · rw [if_neg h2] at e ⊢
      rw [if_neg (by rw [e]; decide), if_pos e]
theorem xPa4_s {c : Nat → Int32} {u : Nat} (hu : u < 60) (h : c u = 0) : xPa4 c (60 - (u + 1)) (u + 1) = xPa4 c (60 - u) u := by
  rw [show 60 - u = (60 - (u + 1)) + 1 by omega]
  simp only [xPa4]
  rw [if_pos h]
theorem xPa4_1 {c : Nat → Int32} {u : Nat} (hu : u < 60) (h : c u = 1) : xPa4 c (60 - u) u = nI u := by
  rw [show 60 - u = (60 - (u + 1)) + 1 by omega]
  simp only [xPa4]
  rw [if_neg (by rw [h]; decide), if_pos h]
theorem xPa4_9 {c : Nat → Int32} {u : Nat} (hu : u < 60) (h0 : ¬ c u = 0) (h1 : ¬ c u = 1) : xPa4 c (60 - u) u = -9 := by
  rw [show 60 - u = (60 - (u + 1)) + 1 by omega]
  simp only [xPa4]
  rw [if_neg h0, if_neg h1]
theorem xPa4_z {c : Nat → Int32} {u : Nat} (hu : u = 60) : xPa4 c (60 - u) u = -9 := by rw [hu]; rfl
theorem xa_Pa {st ln l lz : Nat} {ho pa si li rq : Int32} {lg ki ru ne nw sm wf rj wh hz : Nat → Int32} {ch : Nat → Nat → Int32} {wn5 wn : Nat → Nat} {y : Nat → Int32} (hV : xVc st ln ho pa lg) (hR : xRel (st, ln, ho, pa, si, li, lg, ki, ru, ne, ch) nw) (hD : xDi (st, ln, ho, pa, si, li, lg, ki, ru, ne, ch)) (hl : l < ln) (hw5 : ∀ j, 1 ≤ j → j ≤ st → (xLm nw st j + nw 2 - 1) / nw 2 = nI (wn5 j) ∧ wn5 j ≤ 1000)
    (hP : xPl st ho pa lg (ki l) (ru l) (ne l) (ch l) lz rq sm wf rj wn wh hz) : xPa4 (fun m => xCh9 lz sm wf rj wn wh 0 m) 60 0 = v5Pa st nw wn5 y (nI l) := by
  have h1 := hV.1.1
  have h3 := hV.2.1
  obtain ⟨r, hq⟩ := xPl_q hV hR hD hl hw5 hP
  unfold v5Pa
  rw [nI_clamp (show l < 2 ^ 31 by omega)]
  exact xPa4_e 60 0 (fun i _ h2 => xPq_ch hq (xw5 hw5) (show 0 < st by omega) (by omega))
/-! the sums that the plan holds are numbers -/
section XBD
variable {st lb lz : Nat} {nw sm wf rj wh hz : Nat → Int32} {wn5 r wn w : Nat → Nat} {rq : Int32}
theorem xPq_bd (hP : xPq st nw lb wn5 r lz rq sm wf rj wn wh hz) (hw : ∀ t, t ≤ 12 → wf t = nI (w t) ∧ w t ≤ 117) (hmo : ∀ t, t < 12 → w (t + 1) ≤ w t) (hwh : ∀ i, i < st → ∃ v, wh i = nI v ∧ v ≤ 7000) (hrq : ∃ v, rq = nI v ∧ v ≤ 1065) :
    ∀ (n k : Nat), k + n = lz → ∀ u m, (m + u = 61 ∨ (60 < m ∧ u = 0)) → m ≤ 2000 → ∀ b, b ≤ 12 → (k < lz → m ≤ 60 → min 12 (m - r k) ≤ b) → ∃ v, sSu lz sm wf wh k m b = nI v ∧ v ≤ 2200000 * (62 * n + u + 1) := by
  have hP0 := hP
  obtain ⟨⟨e0, h1, h7, erq⟩, hi, hf, hwn, hwx, hs⟩ := hP
  have term : ∀ k m b, k < st → m ≤ 2000 → b ≤ 12 → ∃ v, wf b * (nI m + wh k) = nI v ∧ v ≤ 1053000 := fun k m b hk hm hb => by
    obtain ⟨e, h117⟩ := hw b hb
    obtain ⟨v, ev, hv⟩ := hwh k hk
    have q : w b * (m + v) ≤ 117 * 9000 := Nat.mul_le_mul h117 (by omega)
    exact ⟨w b * (m + v), by rw [e, ev, nI_add, pk_mul], by omega⟩
  have mono : ∀ d t, t + d ≤ 12 → w (t + d) ≤ w t := by
    intro d
    induction d with
    | zero => intro t _; exact Nat.le_refl _
    | succ d ih => intro t ht; have a := ih t (by omega); have b := hmo (t + d) (by omega); rw [show t + (d + 1) = t + d + 1 by omega]; omega
  intro n
  induction n with
  | zero =>
    intro k hk u m hu hm b hb _
    obtain ⟨v, ev, hv⟩ := term k m b (by omega) hm hb
    refine ⟨v, ?_, by omega⟩
    unfold sSu
    rw [if_neg (by omega)]
    exact ev
  | succ n ihn =>
    intro k hk u
    induction u with
    | zero =>
      intro m hu hm b hb _
      obtain ⟨v, ev, hv⟩ := term k m b (by omega) hm hb
      refine ⟨v, ?_, by omega⟩
      unfold sSu
      rw [if_pos (by omega), if_pos (by omega)]
      exact ev
    | succ u ihu =>
      intro m hu hm b hb hbd
      have hm60 : m ≤ 60 := by omega
      have hbd := hbd (by omega) hm60
      obtain ⟨a1, a2, a3, a4, a5, a6⟩ := hi k (by omega)
      obtain ⟨vh, evh, hvh⟩ := hwh k (by omega)
      obtain ⟨vq, evq, hvq⟩ := hrq
      have es : sSu lz sm wf wh k m b = xLs lz rq sm wf rj wn wh hz k m b := by
        unfold sSu
        rw [if_pos (by omega), if_neg (by omega)]
        exact hs k m b (by omega) hm60 hbd hb
      rw [es]
      obtain ⟨n1, n2, n3⟩ := xPq_nx hP0 (k := k) (by omega) hm60 hbd hb
      -- who comes now
      have e9 := xW9_e (wf := wf) (show r k < 2 ^ 20 by omega) (show m < 2 ^ 20 by omega) hb hbd
      have hW : ∃ x, xW9 wf (nI m - rj k) b = nI x ∧ x ≤ 117 ∧ x ≤ w b := by
        rw [a1, e9]
        by_cases c : r k ≤ m ∧ m - r k = b ∧ b < 12
        · rw [if_pos c]
          obtain ⟨x1, x2⟩ := hw b hb
          obtain ⟨x3, x4⟩ := hw (b + 1) (by omega)
          exact ⟨w b - w (b + 1), by rw [x1, x3]; exact pk_sub (hmo b c.2.2), by omega, by omega⟩
        · rw [if_neg c]; exact ⟨0, by decide, by omega, by omega⟩
      have hS : ∃ v, xW9 wf (nI m - rj k) b * (if hz k = 0 then nI m + wh k else nI m - rj k + rq) = nI v ∧ v ≤ 1053000 := by
        by_cases c : r k ≤ m ∧ m - r k = b ∧ b < 12
        · obtain ⟨x, ex, hx1, -⟩ := hW
          have q1 : x * (m + vh) ≤ 117 * 9000 := Nat.mul_le_mul hx1 (by omega)
          have q2 : x * (b + vq) ≤ 117 * 9000 := Nat.mul_le_mul hx1 (by omega)
          rw [ex]
          by_cases z : hz k = 0
          · rw [if_pos z]; exact ⟨x * (m + vh), by rw [evh, nI_add, pk_mul], by omega⟩
          · rw [if_neg z]; exact ⟨x * (b + vq), by rw [a1, evq, show nI m - nI (r k) = nI b from (pk_sub c.1).trans (congrArg nI c.2.1), nI_add, pk_mul], by omega⟩
        · rw [a1, e9, if_neg c, Int32.zero_mul]; exact ⟨0, by decide, by omega⟩
      obtain ⟨vS, eS, hvS⟩ := hS
      unfold xLs
      rw [eS]
      by_cases c60 : m < 60
      · rw [if_pos c60, n1]
        obtain ⟨v1, ev1, hv1⟩ := ihu (m + 1) (by omega) (by omega) (x5Nx nw lb k m b) n2 (fun _ _ => n3)
        have hw1 := hwn k (by omega)
        have hfr := (xPq_fr hP0 (k := k + 1) (m := m + wn k) (b := x5Nx nw lb k m b) (by omega) (by omega) n2).2
        have hB : min 12 (max (x5Nx nw lb k m b) (m + wn k - r (k + 1))) ≤ 12 := Nat.min_le_left _ _
        obtain ⟨v2, ev2, hv2⟩ := ihn (k + 1) (by omega) (61 - (m + wn k)) (m + wn k) (by omega) (by omega) (min 12 (max (x5Nx nw lb k m b) (m + wn k - r (k + 1)))) hB (fun _ _ => by omega)
        have hK : ∃ v, xWk lz sm wf rj wn wh k m (x5Nx nw lb k m b) = nI v ∧ v ≤ 1053000 + 2200000 * (62 * n + (61 - (m + wn k)) + 1) := by
          unfold xWk
          rw [hfr, ev2]
          have hge : x5Nx nw lb k m b ≤ min 12 (max (x5Nx nw lb k m b) (m + wn k - r (k + 1))) := by omega
          generalize min 12 (max (x5Nx nw lb k m b) (m + wn k - r (k + 1))) = B at hB hge
          obtain ⟨x1, x2⟩ := hw _ n2
          obtain ⟨x3, x4⟩ := hw B hB
          have hle := mono (B - x5Nx nw lb k m b) (x5Nx nw lb k m b) (by omega)
          rw [show x5Nx nw lb k m b + (B - x5Nx nw lb k m b) = B by omega] at hle
          have q : (w (x5Nx nw lb k m b) - w B) * (m + vh) ≤ 117 * 9000 := Nat.mul_le_mul (by omega) (by omega)
          exact ⟨(w (x5Nx nw lb k m b) - w B) * (m + vh) + v2, by rw [x1, x3, evh, pk_sub hle, nI_add, pk_mul, nI_add], by omega⟩
        obtain ⟨v3, ev3, hv3⟩ := hK
        unfold xMn
        split
        · exact ⟨vS + v3, by rw [ev3, nI_add], by omega⟩
        · exact ⟨vS + v1, by rw [ev1, nI_add], by omega⟩
      · rw [if_neg c60]
        obtain ⟨x, ex, hx1, hx2⟩ := hW
        obtain ⟨x1, x2⟩ := hw b hb
        have q : (w b - x) * (m + vh) ≤ 117 * 9000 := Nat.mul_le_mul (by omega) (by omega)
        exact ⟨vS + (w b - x) * (m + vh), by rw [ex, x1, evh, pk_sub hx2, nI_add, pk_mul, nI_add], by omega⟩
end XBD
/-- how long on foot, in all -/
theorem xWh_b {st ln : Nat} {ho pa : Int32} {lg : Nat → Int32} (hV : xVc st ln ho pa lg) {i : Nat} (hi : i < st) : ∃ v, xWh st ho pa lg i = nI v ∧ v ≤ 7000 := by
  have h7 := hV.1.2
  have hy := xVc_wy hV
  have key : ∀ n, i + n ≤ st → ∃ v, xSmF (fun i => xWy (xYd st ho lg i) pa) i n = nI v ∧ v ≤ 1000 * n := by
    intro n
    induction n with
    | zero => intro _; exact ⟨0, rfl, by omega⟩
    | succ n ih =>
      intro hn
      obtain ⟨v, ev, hv⟩ := ih (by omega)
      obtain ⟨x, hx, ex⟩ := hy (i + n) (by omega)
      refine ⟨v + x, ?_, by omega⟩
      simp only [xSmF]
      rw [ev, ex, nI_add]
  obtain ⟨v, ev, hv⟩ := key (st - i) (by omega)
  exact ⟨v, ev, by omega⟩
theorem xa_Bm {st ln l lz p m : Nat} {ho pa si li rq q : Int32} {lg ki ru ne nw sm wf rj wh hz : Nat → Int32} {ch : Nat → Nat → Int32} {wn5 wn : Nat → Nat} {y : Nat → Int32} (hV : xVc st ln ho pa lg) (hR : xRel (st, ln, ho, pa, si, li, lg, ki, ru, ne, ch) nw) (hD : xDi (st, ln, ho, pa, si, li, lg, ki, ru, ne, ch)) (hl : l < ln) (hw5 : ∀ j, 1 ≤ j → j ≤ st → (xLm nw st j + nw 2 - 1) / nw 2 = nI (wn5 j) ∧ wn5 j ≤ 1000)
    (hP : xPl st ho pa lg (ki l) (ru l) (ne l) (ch l) lz rq sm wf rj wn wh hz) (hp : p < st) (hm : m ≤ 60) (hq : sNP q = 0) : xFr (sSu lz sm wf wh p m (xBn (rj p) (nI m) 0)) (wf (xBn (rj p) (nI m) 0)) q = v5Bm st nw wn5 y (nI l) (nI p) (nI m) q := by
  have h7 := hV.1.2
  have h3 := hV.2.1
  obtain ⟨r, hQ⟩ := xPl_q hV hR hD hl hw5 hP
  have hf := hQ.2.2.1
  obtain ⟨f1, f2⟩ := xPq_fs hQ hp (show m < 2 ^ 20 by omega)
  have hb : min 12 (m - r p) ≤ 12 := Nat.min_le_left _ _
  have hwx : ∀ t, t ≤ 12 → ∃ v, xWs (fun i => nw (20 + 16 * l + i)) t = nI v ∧ v ≤ 117 := fun t ht => xWs_d hR hD hl ht
  have hW : ∀ t, t ≤ 12 → wf t = nI (wf t).toNatClampNeg ∧ (wf t).toNatClampNeg ≤ 117 := fun t ht => by
    obtain ⟨v, ev, hv⟩ := hwx t ht
    rw [hf t ht, ev, nI_clamp (by omega)]
    exact ⟨rfl, hv⟩
  have hmo : ∀ t, t < 12 → (wf (t + 1)).toNatClampNeg ≤ (wf t).toNatClampNeg := fun t ht => by
    obtain ⟨v, ev, hv⟩ := hwx t (by omega)
    obtain ⟨v2, ev2, hv2⟩ := hwx (t + 1) (by omega)
    obtain ⟨x, ex, hx⟩ := xWd hD hl (show t < 13 by omega)
    rw [xWt_e hR hl (show t < 13 by omega)] at ex
    have e := hQ.2.2.2.2.1 t ht
    rw [ex, ev2, ev, nI_add] at e
    have e2 := (xnI_inj (by omega) (by omega)).mp e
    rw [hf t (by omega), hf (t + 1) (by omega), ev, ev2, nI_clamp (by omega), nI_clamp (by omega)]
    omega
  have hwh : ∀ i, i < st → ∃ v, wh i = nI v ∧ v ≤ 7000 := fun i hi => by
    rw [(hP.2.1 i hi).2.2.1]
    exact xWh_b hV hi
  have hrq : ∃ v, rq = nI v ∧ v ≤ 1065 := by
    obtain ⟨c1, -⟩ := hD.2.2 l hl
    have h1 := hV.1.1
    obtain ⟨a, ea, ha⟩ := xRd_b (ki := ki l) (j := st - 1) c1 (by omega)
    obtain ⟨x, hx, ex⟩ := xVc_wy hV (st - 1) (by omega)
    exact ⟨a + x, by rw [hP.1.2, ea, ex, nI_add], by omega⟩
  have hz0 : lz = st - 1 := hP.1.1
  obtain ⟨v, ev, hv⟩ := xPq_bd hQ hW hmo hwh hrq (lz - p) p (by omega) (61 - m) m (by omega) (by omega) (min 12 (m - r p)) hb (fun _ _ => Nat.le_refl _)
  obtain ⟨v2, ev2, hv2⟩ := hwx _ hb
  unfold v5Bm
  rw [nI_clamp (show l < 2 ^ 31 by omega), nI_clamp (show p < 2 ^ 31 by omega), nI_clamp (show m < 2 ^ 31 by omega), ← xPq_lea (y := y) hQ (xw5 hw5) hp hm, f2, f1, hf _ hb]
  exact xFrPt' ⟨v, ev, by omega⟩ ⟨v2, ev2, by omega⟩ (xNP_t hq)
