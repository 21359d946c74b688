/-! both sides hold the same road: refusals, answers -/
theorem xq_lt {a : Int32} {k : Nat} (hk : k + 1 < 2 ^ 31) : nI k < a ↔ ¬ a < nI (k + 1) := by
  rw [xi_lt, xi_lt, nI_toInt (by omega), nI_toInt hk]
  omega
theorem xq_S : q5S = qSt := by
  funext st a1 a2
  unfold q5S qSt
  by_cases h : sNL st a1 = 0
  · rw [if_pos h, if_pos h]
    by_cases h1 : a2 < 0
    · rw [if_pos h1, if_neg (fun e => by rw [e] at h1; exact absurd h1 (by decide)), if_neg (fun e => by rw [e] at h1; exact absurd h1 (by decide)), if_neg (fun e => by rw [e] at h1; exact absurd h1 (by decide))]
    · rw [if_neg h1]
      by_cases h2 : 2 < a2
      · rw [if_pos h2, if_neg (fun e => by rw [e] at h2; exact absurd h2 (by decide)), if_neg (fun e => by rw [e] at h2; exact absurd h2 (by decide)), if_neg (fun e => by rw [e] at h2; exact absurd h2 (by decide))]
      · obtain ⟨k, rfl, hk⟩ := xInN (n := 2) (by decide) h1 h2
        rw [if_neg h2]
        rcases (show k = 0 ∨ k = 1 ∨ k = 2 by omega) with rfl | rfl | rfl <;> decide
  · rw [if_neg h, if_neg h]
theorem xq_L : q5L = qLi := by
  funext ln a1 a2
  unfold q5L qLi
  by_cases h : sNL ln a1 = 0
  · rw [if_pos h, if_pos h]
    by_cases h1 : a2 < 0
    · rw [if_pos h1, if_neg (fun e => by rw [e] at h1; exact absurd h1 (by decide)), if_neg (fun e => by rw [e] at h1; exact absurd h1 (by decide)), if_neg (fun e => by rw [e] at h1; exact absurd h1 (by decide)), if_neg (fun e => by rw [e] at h1; exact absurd h1 (by decide)), if_neg (fun e => by rw [e] at h1; exact absurd h1 (by decide))]
    · rw [if_neg h1]
      by_cases h2 : 4 < a2
      · rw [if_pos h2, if_neg (fun e => by rw [e] at h2; exact absurd h2 (by decide)), if_neg (fun e => by rw [e] at h2; exact absurd h2 (by decide)), if_neg (fun e => by rw [e] at h2; exact absurd h2 (by decide)), if_neg (fun e => by rw [e] at h2; exact absurd h2 (by decide)), if_neg (fun e => by rw [e] at h2; exact absurd h2 (by decide))]
      · obtain ⟨k, rfl, hk⟩ := xInN (n := 4) (by decide) h1 h2
        rw [if_neg h2]
        rcases (show k = 0 ∨ k = 1 ∨ k = 2 ∨ k = 3 ∨ k = 4 by omega) with rfl | rfl | rfl | rfl | rfl <;> decide
  · rw [if_neg h, if_neg h]
theorem xq_C : q5C = qCh := by
  funext ln a1 a2
  unfold q5C qCh
  by_cases h : a2 < 12
  · rw [if_pos h, if_neg (show ¬ (11 : Int32) < a2 from fun w => (xq_lt (a := a2) (k := 11) (by decide)).mp w h)]
  · rw [if_neg h, if_pos (show (11 : Int32) < a2 from (xq_lt (a := a2) (k := 11) (by decide)).mpr h)]
theorem xq_T : q5T = qTh := rfl
theorem xq_Co : q5Co = qCo := by
  funext ln a1 a2 a3 a4
  unfold q5Co qCo
  by_cases h : a3 < 12
  · rw [if_pos h, if_neg (show ¬ (11 : Int32) < a3 from fun w => (xq_lt (a := a3) (k := 11) (by decide)).mp w h)]
  · rw [if_neg h, if_pos (show (11 : Int32) < a3 from (xq_lt (a := a3) (k := 11) (by decide)).mpr h)]
theorem xq_Be : q5Be = qBe := rfl
theorem xq_Bm : q5Bm = qBm := by
  funext ln st a1 a2 a3 a4
  unfold q5Bm qBm sPl
  by_cases h1 : sNL ln a1 = 0
  · rw [if_pos h1, if_pos h1]
    by_cases h2 : sNL st a2 = 0
    · rw [if_pos h2, if_pos h2]
      by_cases h3 : a3 < 0
      · rw [if_pos h3, if_pos h3, if_neg (by decide)]
      · rw [if_neg h3, if_neg h3]
        by_cases h4 : 60 < a3
        · rw [if_pos h4, if_pos h4, if_neg (by decide)]
        · rw [if_neg h4, if_neg h4, if_pos rfl]
    · rw [if_neg h2, if_neg h2, if_neg (by decide)]
  · rw [if_neg h1, if_neg h1, if_neg (by decide)]
theorem xIfC {c : Prop} [Decidable c] {α : Type} {a b d : α} (h : c → a = b) : (if c then a else d) = (if c then b else d) := by
  by_cases q : c
  · rw [if_pos q, if_pos q]; exact h q
  · rw [if_neg q, if_neg q]
theorem xNL_t {n : Nat} {a : Int32} (hn : n < 2 ^ 31) (h : sNL n a = 0) : ∃ k, a = nI k ∧ k < n := by
  unfold sNL at h
  by_cases h1 : a < 0
  · rw [if_pos h1] at h; exact absurd h (by decide)
  · rw [if_neg h1] at h
    by_cases h2 : a < nI n
    · rw [xi_lt] at h1
      rw [xi_lt, nI_toInt hn] at h2
      have z : (0 : Int32).toInt = 0 := by decide
      refine ⟨a.toInt.toNat, ?_, by omega⟩
      rw [xi_eq, nI_toInt (by omega)]
      omega
    · rw [if_neg h2] at h; exact absurd h (by decide)
theorem xnI_inj {a b : Nat} (ha : a < 2 ^ 31) (hb : b < 2 ^ 31) : nI a = nI b ↔ a = b := by
  rw [xi_eq, nI_toInt ha, nI_toInt hb]
  omega
/-- the road's quiet name -/
abbrev xTT (st ln : Nat) (ho pa si li : Int32) (lg ki ru ne : Nat → Int32) (ch : Nat → Nat → Int32) : xT := (st, ln, ho, pa, si, li, lg, ki, ru, ne, ch)
theorem xLm_e {st ln : Nat} {ho pa si li : Int32} {lg ki ru ne nw : Nat → Int32} {ch : Nat → Nat → Int32} (hR : xRel (st, ln, ho, pa, si, li, lg, ki, ru, ne, ch) nw) {i : Nat} (hi : i < st) : xLm nw st (i + 1) = xYd st ho lg i := by
  obtain ⟨-, ⟨b1, -⟩, c, -⟩ := hR
  unfold xLm xYd
  by_cases q : i + 1 < st
  · rw [if_neg (by omega), if_pos q]; exact c (i + 1) q
  · rw [if_pos (by omega), if_neg q]; exact b1
theorem xRs_e {st ln : Nat} {ho pa si li : Int32} {lg ki ru ne nw : Nat → Int32} {ch : Nat → Nat → Int32} (hV : xVc st ln ho pa lg) (hR : xRel (st, ln, ho, pa, si, li, lg, ki, ru, ne, ch) nw) (j : Nat) : xRs nw st j = xWh st ho pa lg j := by
  unfold xRs xWh
  refine xSmF_ag _ (fun i hi => ?_)
  obtain ⟨-, -, ⟨v, e, c1, c2⟩, -⟩ := hV
  have hq : ¬ pa < 1 := by rw [e]; exact mt (nI_ltI (a := v) (b := 1) (by omega) (by decide)).mp (by omega)
  have b2 : nw 2 = pa := hR.2.1.2.1
  try dsimp only
  rw [xLm_e hR (show j + i < st by omega), b2]
  unfold xWy
  rw [if_neg hq]
theorem xa_S {st ln : Nat} {ho pa si li : Int32} {lg ki ru ne nw : Nat → Int32} {ch : Nat → Nat → Int32} (hV : xVc st ln ho pa lg) (hR : xRel (st, ln, ho, pa, si, li, lg, ki, ru, ne, ch) nw) {a1 a2 : Int32} (h : qSt st a1 a2 = 0) : vSt st ho pa lg a1 a2 = v5S st nw a1 a2 := by
  have h7 := hV.1.2
  have hn : sNL st a1 = 0 := by
    by_cases q : sNL st a1 = 0
    · exact q
    · unfold qSt at h; rw [if_neg q] at h; exact absurd h (by decide)
  obtain ⟨k, rfl, hk⟩ := xNL_t (by omega) hn
  unfold vSt v5S
  rw [nI_clamp (by omega), xRs_e hV hR, xRs_e hV hR, hR.2.2.1 k hk]
theorem xa_W {st ln : Nat} {ho pa si li : Int32} {lg ki ru ne nw : Nat → Int32} {ch : Nat → Nat → Int32} (hV : xVc st ln ho pa lg) (hR : xRel (st, ln, ho, pa, si, li, lg, ki, ru, ne, ch) nw) : xWh st ho pa lg 0 = xRs nw st 0 := (xRs_e hV hR 0).symm
theorem xa_B {st ln : Nat} {ho pa si li : Int32} {lg ki ru ne nw : Nat → Int32} {ch : Nat → Nat → Int32} (hV : xVc st ln ho pa lg) (hR : xRel (st, ln, ho, pa, si, li, lg, ki, ru, ne, ch) nw) {a1 a2 : Int32} (h : qBa st a1 a2 = 0) : vBa st ho pa lg a1 a2 = v5B st nw a1 a2 := by
  have h7 := hV.1.2
  have h1 := hV.1.1
  have hn : sNL st a1 = 0 := by
    by_cases q : sNL st a1 = 0
    · exact q
    · unfold qBa at h; rw [if_neg q] at h; exact absurd h (by decide)
  obtain ⟨k, rfl, hk⟩ := xNL_t (by omega) hn
  unfold vBa v5B
  have e : (if nI k = nI (st - 1) then nw 1 else nw (10 + k + 1)) = xYd st ho lg k := by
    rw [← xLm_e hR hk]
    unfold xLm
    by_cases q : k + 1 = st
    · rw [if_pos q, if_pos (by rw [show k = st - 1 by omega])]
    · rw [if_neg q, if_neg (fun w => q (by have := (xnI_inj (by omega) (by omega)).mp w; omega))]
      rfl
  have b2 : nw 2 = pa := hR.2.1.2.1
  rw [nI_clamp (by omega), e, b2]
theorem xa_Cn {st ln : Nat} {ho pa si li : Int32} {lg ki ru ne nw : Nat → Int32} {ch : Nat → Nat → Int32} (hV : xVc st ln ho pa lg) (hR : xRel (st, ln, ho, pa, si, li, lg, ki, ru, ne, ch) nw) (nc : Int32) (len : Nat) (rf : Nat → Int32) (a1 : Int32) : sCnt st ln ho pa si li lg nc len rf a1 = sCnt st ln (nw 1) (nw 2) (nw 4) (nw 5) (fun i => nw (10 + i)) nc len rf a1 := by
  obtain ⟨-, ⟨b1, b2, b4, b5⟩, c, -⟩ := hR
  have e : ∀ n, n < st → xAcc ho (fun i => nw (10 + i)) n = xAcc ho lg n := by
    intro n
    induction n with
    | zero => intro _; rfl
    | succ n ih =>
      intro hn
      simp only [xAcc]
      rw [ih (by omega), c (n + 1) hn]
  have h1 := hV.1.1
  unfold sCnt
  rw [b1, b2, b4, b5, e (st - 1) (by omega)]
theorem xa_Im {st ln : Nat} {ho pa si li : Int32} {lg ki ru ne nw : Nat → Int32} {ch : Nat → Nat → Int32} (hR : xRel (st, ln, ho, pa, si, li, lg, ki, ru, ne, ch) nw) : nI st = nw 0 := hR.1.1.symm
theorem xa_On {st ln : Nat} {ho pa si li : Int32} {lg ki ru ne nw th : Nat → Int32} {ch : Nat → Nat → Int32} (hR : xRel (st, ln, ho, pa, si, li, lg, ki, ru, ne, ch) th) : nI st = xCp th nw 70 0 := hR.1.1.symm
theorem xa_Se {st ln : Nat} {ho pa si li : Int32} {lg ki ru ne nw : Nat → Int32} {ch : Nat → Nat → Int32} (hR : xRel (st, ln, ho, pa, si, li, lg, ki, ru, ne, ch) nw) (a1 : Int32) : sSe ho pa si li a1 = nw (x5Pl a1) := by
  obtain ⟨-, ⟨b1, b2, b4, b5⟩, -⟩ := hR
  unfold sSe x5Pl
  by_cases h0 : a1 = 0
  · rw [if_pos h0, if_pos h0]; exact b1.symm
  rw [if_neg h0, if_neg h0]
  by_cases h1 : a1 = 1
  · rw [if_pos h1, if_pos h1]; exact b2.symm
  rw [if_neg h1, if_neg h1]
  by_cases h2 : a1 = 2
  · rw [if_pos h2, if_pos h2]; exact b4.symm
  rw [if_neg h2, if_neg h2]; exact b5.symm
/-! a line's answers -/
theorem xLn_t {st ln : Nat} {ho pa si li : Int32} {lg ki ru ne nw : Nat → Int32} {ch : Nat → Nat → Int32} (hR : xRel (st, ln, ho, pa, si, li, lg, ki, ru, ne, ch) nw) {k : Nat} (hk : k < ln) : nw (20 + 16 * k) = ki k ∧ nw (20 + 16 * k + 1) = ru k ∧ nw (20 + 16 * k + 2) = ne k ∧ ∀ t, t < 12 → nw (20 + 16 * k + (3 + t)) = ch k t := hR.2.2.2 k hk
theorem xRide_s (ki ru : Int32) : ∀ n : Nat, n < 2 ^ 30 → xSm (fun i => sRd ki ru (nI i)) n = sRide ki ru (nI n)
  | 0, _ => by unfold sRide; rw [if_neg (by decide)]; rfl
  | n + 1, h => by
    have ih := xRide_s ki ru n (by omega)
    simp only [xSm]
    rw [ih]
    have p1 : (0 : Int32) < nI (n + 1) := (nI_ltI (a := 0) (b := n + 1) (by decide) (by omega)).mpr (by omega)
    have e1 : nI (n + 1) = nI n + 1 := (nI_1 n).symm
    have e2 : ∀ x : Int32, (nI n + 1) * x = nI n * x + x := fun x => by rw [Int32.add_mul, Int32.one_mul]
    unfold sRide sRd
    rw [if_pos p1]
    by_cases h0 : n = 0
    · subst h0
      rw [if_neg (show ¬ (0 : Int32) < nI 0 by decide), if_pos (show nI 0 = 0 by decide), show nI (0 + 1) = 1 by decide]
      by_cases k1 : ki = 1
      · rw [if_pos k1, if_pos k1, Int32.zero_add, Int32.one_mul]
      rw [if_neg k1, if_neg k1]
      by_cases k3 : ki = 3
      · rw [if_pos k3, if_pos k3, Int32.zero_add, Int32.one_mul, Int32.add_assoc]; rfl
      rw [if_neg k3, if_neg k3]
      by_cases k4 : ki = 4
      · rw [if_pos k4, if_pos k4, Int32.zero_add, Int32.one_mul]
      rw [if_neg k4, if_neg k4, Int32.zero_add, Int32.one_mul]
    · have p0 : (0 : Int32) < nI n := (nI_ltI (a := 0) (b := n) (by decide) (by omega)).mpr (by omega)
      rw [if_pos p0, if_neg (nI_ne0 (by omega) (by omega)), e1]
      by_cases k1 : ki = 1
      · rw [if_pos k1, if_pos k1, if_pos k1, e2]
      rw [if_neg k1, if_neg k1, if_neg k1]
      by_cases k3 : ki = 3
      · rw [if_pos k3, if_pos k3, if_pos k3, e2, Int32.add_assoc, Int32.add_comm 5, ← Int32.add_assoc]
      rw [if_neg k3, if_neg k3, if_neg k3]
      by_cases k4 : ki = 4
      · rw [if_pos k4, if_pos k4, if_pos k4, e2]
      rw [if_neg k4, if_neg k4, if_neg k4, e2]
theorem xa_L {st ln : Nat} {ho pa si li : Int32} {lg ki ru ne nw : Nat → Int32} {ch : Nat → Nat → Int32} (hV : xVc st ln ho pa lg) (hR : xRel (st, ln, ho, pa, si, li, lg, ki, ru, ne, ch) nw) {a1 a2 : Int32} (h : qLi ln a1 a2 = 0) : vLi st ki ru ne ch a1 a2 = v5L st nw a1 a2 := by
  have h3 := hV.2.1
  have h7 := hV.1.2
  have hn : sNL ln a1 = 0 := by
    by_cases q : sNL ln a1 = 0
    · exact q
    · unfold qLi at h; rw [if_neg q] at h; exact absurd h (by decide)
  obtain ⟨k, rfl, hk⟩ := xNL_t (by omega) hn
  obtain ⟨d1, d2, d3, d4⟩ := xLn_t hR hk
  unfold qLi at h
  rw [if_pos hn] at h
  unfold vLi v5L
  rw [nI_clamp (show k < 2 ^ 31 by omega)]
  have eS : xWs (fun i => nw (20 + 16 * k + i)) 0 = xSm (ch k) 12 + ne k := by
    rw [xWs_sum, xSmF_S (fun i => nw (20 + 16 * k + i)) 12]
    try dsimp only
    rw [d3, xSm_ag (f := fun t => nw (20 + 16 * k + (3 + t))) (g := ch k) 12 d4, Int32.add_comm]
  by_cases h0 : a2 = 0
  · rw [if_pos h0, if_neg (by rw [h0]; decide), if_neg (by rw [h0]; decide), h0]; exact d1.symm
  rw [if_neg h0]
  by_cases h1 : a2 = 1
  · rw [if_pos h1, if_neg (by rw [h1]; decide), if_neg (by rw [h1]; decide), h1]; exact d2.symm
  rw [if_neg h1]
  by_cases h2 : a2 = 2
  · rw [if_pos h2, if_neg (by rw [h2]; decide), if_neg (by rw [h2]; decide), h2]; exact d3.symm
  rw [if_neg h2]
  by_cases h3 : a2 = 3
  · rw [if_pos h3, if_pos h3, eS]
  rw [if_neg h3, if_neg h3]
  by_cases h4 : a2 = 4
  · rw [if_pos h4, d1, d2, xRide_s _ _ _ (by omega)]
  · rw [if_neg h0, if_neg h1, if_neg h2, if_neg h3, if_neg h4] at h; exact absurd h (by decide)
theorem xa_C {st ln : Nat} {ho pa si li : Int32} {lg ki ru ne nw : Nat → Int32} {ch : Nat → Nat → Int32} (hV : xVc st ln ho pa lg) (hR : xRel (st, ln, ho, pa, si, li, lg, ki, ru, ne, ch) nw) {a1 a2 : Int32} (h : qCh ln a1 a2 = 0) : vCh ne ch a1 a2 = v5C nw a1 a2 := by
  have h3 := hV.2.1
  have hn : sNL ln a1 = 0 := by
    by_cases q : sNL ln a1 = 0
    · exact q
    · unfold qCh at h; rw [if_neg q] at h; exact absurd h (by decide)
  obtain ⟨k, rfl, hk⟩ := xNL_t (by omega) hn
  obtain ⟨d1, d2, d3, d4⟩ := xLn_t hR hk
  unfold qCh at h
  rw [if_pos hn] at h
  by_cases h1 : a2 < 0
  · rw [if_pos h1] at h; exact absurd h (by decide)
  by_cases h2 : a2 < 12
  · obtain ⟨t, rfl, ht⟩ := xInN (n := 11) (by decide) h1 (fun w => (xq_lt (a := a2) (k := 11) (by decide)).mp w h2)
    have ht12 : ¬ nI t = 12 := fun e => by have := (xnI_inj (a := t) (b := 12) (by omega) (by decide)).mp e; omega
    unfold vCh v5C sWt xWt
    rw [nI_clamp (show k < 2 ^ 31 by omega), nI_clamp (show t < 2 ^ 31 by omega), if_neg ht12, if_neg h1, if_pos h2, if_neg (by omega)]
    exact (d4 t (by omega)).symm
  · rw [if_neg h1, if_neg h2] at h; exact absurd h (by decide)
theorem xa_T {st ln : Nat} {ho pa si li : Int32} {lg ki ru ne nw : Nat → Int32} {ch : Nat → Nat → Int32} (hV : xVc st ln ho pa lg) (hR : xRel (st, ln, ho, pa, si, li, lg, ki, ru, ne, ch) nw) {a1 a2 : Int32} (h : qTh ln st a1 a2 = 0) : vTh st ki ru a1 a2 = v5T st nw a1 a2 := by
  have h3 := hV.2.1
  have h7 := hV.1.2
  have hn : sNL ln a1 = 0 := by
    by_cases q : sNL ln a1 = 0
    · exact q
    · unfold qTh at h; rw [if_neg q] at h; exact absurd h (by decide)
  unfold qTh at h
  rw [if_pos hn] at h
  have hn2 : sNL st a2 = 0 := by
    by_cases q : sNL st a2 = 0
    · exact q
    · rw [if_neg q] at h; exact absurd h (by decide)
  obtain ⟨k, rfl, hk⟩ := xNL_t (by omega) hn
  obtain ⟨j, rfl, hj⟩ := xNL_t (by omega) hn2
  obtain ⟨d1, d2, d3, d4⟩ := xLn_t hR hk
  unfold vTh v5T
  rw [nI_clamp (show k < 2 ^ 31 by omega), nI_clamp (show j < 2 ^ 31 by omega), d1, d2, xRide_s _ _ _ (by omega)]

/-! both sides hold the same road: what the calls leave -/
theorem xRel_ag {T T' : xT} {nw : Nat → Int32} (h : xRel T nw) (h1 : T'.1 = T.1) (h2 : T'.2.1 = T.2.1) (h3 : T'.2.2.1 = T.2.2.1) (h4 : T'.2.2.2.1 = T.2.2.2.1) (h5 : T'.2.2.2.2.1 = T.2.2.2.2.1) (h6 : T'.2.2.2.2.2.1 = T.2.2.2.2.2.1) (h7 : ∀ j, j < T.1 → T'.2.2.2.2.2.2.1 j = T.2.2.2.2.2.2.1 j) (h8 : T'.2.2.2.2.2.2.2.1 = T.2.2.2.2.2.2.2.1) (h9 : T'.2.2.2.2.2.2.2.2.1 = T.2.2.2.2.2.2.2.2.1) (h10 : T'.2.2.2.2.2.2.2.2.2.1 = T.2.2.2.2.2.2.2.2.2.1) (h11 : ∀ j t, t < 12 → T'.2.2.2.2.2.2.2.2.2.2 j t = T.2.2.2.2.2.2.2.2.2.2 j t) : xRel T' nw := by
  obtain ⟨⟨a1, a2⟩, ⟨b1, b2, b3, b4⟩, c, d⟩ := h
  refine ⟨⟨a1.trans (by rw [h1]), a2.trans (by rw [h2])⟩, ⟨b1.trans h3.symm, b2.trans h4.symm, b3.trans h5.symm, b4.trans h6.symm⟩, fun j hj => ?_, fun j hj => ?_⟩
  · rw [h1] at hj
    exact (c j hj).trans (h7 j hj).symm
  · rw [h2] at hj
    obtain ⟨d1, d2, d3, d4⟩ := d j hj
    exact ⟨d1.trans (by rw [h8]), d2.trans (by rw [h9]), d3.trans (by rw [h10]), fun t ht => (d4 t ht).trans (h11 j t ht).symm⟩
/-- the same road copied over another -/
theorem xRel_cy {st ln : Nat} {ho pa si li : Int32} {lg ki ru ne g nw : Nat → Int32} {ch gh : Nat → Nat → Int32} (h7 : st ≤ 7) (h : xRel (st, ln, ho, pa, si, li, lg, ki, ru, ne, ch) nw) : xRel (st, ln, ho, pa, si, li, va_cpy lg g 0 0 7, ki, ru, ne, fun j => va_cpy (ch j) (gh j) 0 0 12) nw :=
  xRel_ag h rfl rfl rfl rfl rfl rfl (fun j hj => xCpy_lo (show j < 7 from Nat.lt_of_lt_of_le hj h7)) rfl rfl rfl (fun j t ht => xCpy_lo ht)
theorem xRel_uc {st ln : Nat} {ho pa si li : Int32} {lg ki ru ne g nw : Nat → Int32} {ch gh : Nat → Nat → Int32} (h7 : st ≤ 7) (h : xRel (st, ln, ho, pa, si, li, va_cpy lg g 0 0 7, ki, ru, ne, fun j => va_cpy (ch j) (gh j) 0 0 12) nw) : xRel (st, ln, ho, pa, si, li, lg, ki, ru, ne, ch) nw :=
  xRel_ag h rfl rfl rfl rfl rfl rfl (fun j hj => (xCpy_lo (show j < 7 from Nat.lt_of_lt_of_le hj h7)).symm) rfl rfl rfl (fun j t ht => (xCpy_lo ht).symm)
/-- what a read road leaves -/
theorem xRel_ip {R : xT × Int32} {st ln : Nat} {ho pa si li : Int32} {lg ki ru ne g nw : Nat → Int32} {ch gh : Nat → Nat → Int32} (h7 : st ≤ 7) (hR7 : R.1.1 ≤ 7) (h : xRel (xIp R.2 R.1 (st, ln, ho, pa, si, li, va_cpy lg g 0 0 7, ki, ru, ne, fun j => va_cpy (ch j) (gh j) 0 0 12)) nw) :
    xRel (xIp R.2 R.1.1 st, xIp R.2 R.1.2.1 ln, xIp R.2 R.1.2.2.1 ho, xIp R.2 R.1.2.2.2.1 pa, xIp R.2 R.1.2.2.2.2.1 si, xIp R.2 R.1.2.2.2.2.2.1 li, xIp R.2 (va_cpy R.1.2.2.2.2.2.2.1 lg 0 0 7) lg, xIp R.2 R.1.2.2.2.2.2.2.2.1 ki, xIp R.2 R.1.2.2.2.2.2.2.2.2.1 ru, xIp R.2 R.1.2.2.2.2.2.2.2.2.2.1 ne, xIp R.2 (fun j => va_cpy (R.1.2.2.2.2.2.2.2.2.2.2 j) (ch j) 0 0 12) ch) nw := by
  obtain ⟨T, a⟩ := R
  dsimp only at hR7 h ⊢
  by_cases q : 0 < a
  · simp only [xIp, if_pos q] at h ⊢
    exact xRel_cy (g := lg) (gh := ch) hR7 h
  · simp only [xIp, if_neg q] at h ⊢
    exact xRel_uc h7 h
theorem xVd_ip {R : xT × Int32} {st ln : Nat} {ho pa si li : Int32} {lg ki ru ne nw : Nat → Int32} {ch : Nat → Nat → Int32} (h : xVd nw (xIp R.2 R.1 (st, ln, ho, pa, si, li, lg, ki, ru, ne, ch)).1 (xIp R.2 R.1 (st, ln, ho, pa, si, li, lg, ki, ru, ne, ch)).2.1) : xVd nw (xIp R.2 R.1.1 st) (xIp R.2 R.1.2.1 ln) := by
  by_cases q : 0 < R.2
  · rw [xIp_p q] at h ⊢; rw [xIp_p q]; exact h
  · rw [xIp_n q] at h ⊢; rw [xIp_n q]; exact h
/-- a value set -/
theorem xRel_se {st ln : Nat} {ho pa si li : Int32} {lg ki ru ne nw : Nat → Int32} {ch : Nat → Nat → Int32} (a1 a2 : Int32) (h : xRel (st, ln, ho, pa, si, li, lg, ki, ru, ne, ch) nw) : xRel (st, ln, xIf (qSe a1 a2) (xCg a1 a2 0 ho) ho, xIf (qSe a1 a2) (xCg a1 a2 1 pa) pa, xIf (qSe a1 a2) (xCg a1 a2 2 si) si, xIf (qSe a1 a2) (xCl a1 a2 li) li, lg, ki, ru, ne, ch) (x5Se nw a1 a2) := by
  unfold x5Se xIf
  by_cases q : qSe a1 a2 = 0
  · rw [if_pos q, if_pos q, if_pos q, if_pos q, if_pos q]
    obtain ⟨q1, q2⟩ := qSe_0 q
    rw [xCg_ok q1 q2, xCg_ok q1 q2, xCg_ok q1 q2, xCl_ok q1 q2]
    have b := h.2.1
    unfold x5Pl
    by_cases h0 : a1 = 0
    · rw [if_pos h0, if_pos h0, if_pos h0, if_neg (by rw [h0]; decide), if_neg (by rw [h0]; decide)]
      exact xRel_u h (fun i hi => pk_un (by omega)) pk_us ((pk_un (by decide)).trans b.2.1) ((pk_un (by decide)).trans b.2.2.1) ((pk_un (by decide)).trans b.2.2.2)
    rw [if_neg h0, if_neg h0, if_neg h0]
    by_cases h1 : a1 = 1
    · rw [if_pos h1, if_pos h1, if_pos h1, if_neg (by rw [h1]; decide)]
      exact xRel_u h (fun i hi => pk_un (by omega)) ((pk_un (by decide)).trans b.1) pk_us ((pk_un (by decide)).trans b.2.2.1) ((pk_un (by decide)).trans b.2.2.2)
    rw [if_neg h1, if_neg h1, if_neg h1]
    by_cases h2 : a1 = 2
    · rw [if_pos h2, if_pos h2, if_pos h2]
      exact xRel_u h (fun i hi => pk_un (by omega)) ((pk_un (by decide)).trans b.1) ((pk_un (by decide)).trans b.2.1) pk_us ((pk_un (by decide)).trans b.2.2.2)
    rw [if_neg h2, if_neg h2, if_neg h2]
    exact xRel_u h (fun i hi => pk_un (by omega)) ((pk_un (by decide)).trans b.1) ((pk_un (by decide)).trans b.2.1) ((pk_un (by decide)).trans b.2.2.1) pk_us
  · rw [if_neg q, if_neg q, if_neg q, if_neg q, if_neg q]; exact h
/-- the image, and on from it -/
theorem xRel_cp {st ln : Nat} {ho pa si li : Int32} {lg ki ru ne g f th : Nat → Int32} {ch gh : Nat → Nat → Int32} (h7 : st ≤ 7) (h3 : ln ≤ 3) (h : xRel (st, ln, ho, pa, si, li, lg, ki, ru, ne, ch) f) : xRel (st, ln, ho, pa, si, li, va_cpy lg g 0 0 7, ki, ru, ne, fun j => va_cpy (ch j) (gh j) 0 0 12) (xCp f th 70) := by
  obtain ⟨⟨a1, a2⟩, ⟨b1, b2, b3, b4⟩, c, d⟩ := xRel_cy (g := g) (gh := gh) h7 h
  have e : ∀ i, i < 70 → xCp f th 70 i = f i := fun i hi => if_pos hi
  refine ⟨⟨(e 0 (by decide)).trans a1, (e 3 (by decide)).trans a2⟩, ⟨(e 1 (by decide)).trans b1, (e 2 (by decide)).trans b2, (e 4 (by decide)).trans b3, (e 5 (by decide)).trans b4⟩, fun j hj => ?_, fun j hj => ?_⟩
  · have hj' : j < st := hj
    exact (e _ (by omega)).trans (c j hj)
  · have hj' : j < ln := hj
    obtain ⟨d1, d2, d3, d4⟩ := d j hj
    exact ⟨(e _ (by omega)).trans d1, (e _ (by omega)).trans d2, (e _ (by omega)).trans d3, fun t ht => (e _ (by omega)).trans (d4 t ht)⟩
/-- a letter told -/
theorem xByt_le {lt : Nat → Int32} {len : Nat} (a : Int32) (h : xByt lt len) : xByt (if qLe len a = 0 then xLt lt len a else lt) (if qLe len a = 0 then xLn len else len) := by
  by_cases q : qLe len a = 0
  · rw [if_pos q, if_pos q]
    unfold qLe at q
    by_cases h1 : a < 0
    · rw [if_pos h1] at q; exact absurd q (by decide)
    rw [if_neg h1] at q
    by_cases h2 : 255 < a
    · rw [if_pos h2] at q; exact absurd q (by decide)
    obtain ⟨k, rfl, hk⟩ := xInN (n := 255) (by decide) h1 h2
    unfold xLt xLn
    by_cases h3 : len < 96
    · rw [if_pos h3, if_pos h3]
      intro i hi
      by_cases r : i = len
      · subst r; exact ⟨k, pk_us, hk⟩
      · rw [pk_un r]; exact h i (by omega)
    · rw [if_neg h3, if_neg h3]; exact h
  · rw [if_neg q, if_neg q]; exact h
theorem xByt_0 (lt : Nat → Int32) : xByt lt 0 := fun i h => absurd h (Nat.not_lt_zero i)

/-! both sides hold the same road: goers, rules, rows judged -/
theorem xSy_e (li a2 a3 : Int32) {i : Nat} (hi : i < 2 ^ 31) : sWait li a2 a3 (nI i) = sSy li a2 a3 (nI i) := by
  unfold sWait sSy
  by_cases h : i = 0
  · subst h
    rw [if_neg (show ¬ (0 : Int32) < nI 0 by decide), if_pos (show nI 0 = 0 by decide), if_pos (show nI 0 = 0 by decide), if_pos (show nI 0 = 0 by decide)]
  · have p : (0 : Int32) < nI i := (nI_ltI (a := 0) (b := i) (by decide) hi).mpr (by omega)
    have z : ¬ nI i = 0 := nI_ne0 (by omega) hi
    rw [if_pos p, if_neg z, if_neg z, if_neg z]
    by_cases h0 : a2 = 0
    · rw [if_pos h0, if_neg (by rw [h0]; decide)]
    rw [if_neg h0]
    by_cases h3 : a2 = 3
    · rw [if_pos h3, if_neg (by rw [h3]; decide)]
    rw [if_neg h3]
theorem xGo_ag {t : Int32} {rd rd' wt wt' wy wy' hl hl' : Nat → Int32} {lk hm fl : Int32} : ∀ (n k : Nat) (mi : Int32), (∀ i, k ≤ i → i < k + n → rd i = rd' i ∧ wt i = wt' i ∧ wy i = wy' i ∧ hl i = hl' i) → xGo t rd wt wy hl lk hm fl n k mi = xGo t rd' wt' wy' hl' lk hm fl n k mi
  | 0, _, _, _ => rfl
  | n + 1, k, mi, h => by
    obtain ⟨e1, e2, e3, e4⟩ := h k (Nat.le_refl k) (by omega)
    simp only [xGo]
    rw [e1, e2, e3, e4, xGo_ag n (k + 1) _ (fun i h1 h2 => h i (by omega) (by omega))]
theorem xGh_e {st ln : Nat} {ho pa si li : Int32} {lg ki ru ne nw : Nat → Int32} {ch : Nat → Nat → Int32} (hV : xVc st ln ho pa lg) (hR : xRel (st, ln, ho, pa, si, li, lg, ki, ru, ne, ch) nw) {k : Nat} (hk : k < ln) (a2 a3 t : Int32) : xGh st ho pa si li lg (ki k) (ru k) a2 a3 t = xHo st nw (20 + 16 * k) a2 a3 t := by
  obtain ⟨d1, d2, -⟩ := xLn_t hR hk
  have h1 := hV.1.1
  have h7 := hV.1.2
  obtain ⟨-, -, ⟨v, e, c1, c2⟩, -⟩ := hV
  obtain ⟨-, ⟨b1, b2, b4, b5⟩, -⟩ := id hR
  have b1 : nw 1 = ho := b1
  have b2 : nw 2 = pa := b2
  have b4 : nw 4 = si := b4
  have b5 : nw 5 = li := b5
  have hq : ¬ xPc2 pa a2 < 1 := by
    unfold xPc2
    split
    · rw [e, show (2 : Int32) * nI v = nI (2 * v) from pk_mul 2 v]; exact mt (nI_ltI (a := 2 * v) (b := 1) (by omega) (by decide)).mp (by omega)
    · rw [e]; exact mt (nI_ltI (a := v) (b := 1) (by omega) (by decide)).mp (by omega)
  have w : ∀ i, i < st → xWy (xYd st ho lg i) (xPc2 pa a2) = (xLm nw st (i + 1) + xPc2 (nw 2) a2 - 1) / xPc2 (nw 2) a2 := fun i hi => by
    rw [xLm_e hR hi, b2]
    unfold xWy
    rw [if_neg hq]
  have wl : xWy (xYd st ho lg (st - 1)) (xPc2 pa a2) = (xLm nw st st + xPc2 (nw 2) a2 - 1) / xPc2 (nw 2) a2 := by
    have q := w (st - 1) (by omega)
    rw [show st - 1 + 1 = st by omega] at q
    exact q
  unfold xGh xHo
  rw [d1, d2, b4, b5, wl, xRide_s (ki k) (ru k) (st - 1) (by omega)]
  exact xGo_ag (st - 1) 0 0 (fun i _ hi => ⟨(xRide_s (ki k) (ru k) i (by omega)).symm, xSy_e li a2 a3 (by omega), w i (by omega), rfl⟩)
theorem xa_H {st ln : Nat} {ho pa si li : Int32} {lg ki ru ne nw : Nat → Int32} {ch : Nat → Nat → Int32} (hV : xVc st ln ho pa lg) (hR : xRel (st, ln, ho, pa, si, li, lg, ki, ru, ne, ch) nw) {a1 a2 a3 a4 a5 : Int32} (h : sGo ln a1 a2 a3 a4 a5 = 0) : vHo st ho pa si li lg ki ru a1 a2 a3 a4 = v5H st nw a1 a2 a3 a4 := by
  have h3 := hV.2.1
  have hn : sNL ln a1 = 0 := by
    by_cases q : sNL ln a1 = 0
    · exact q
    · unfold sGo at h; rw [if_neg q] at h; exact absurd h (by decide)
  obtain ⟨k, rfl, hk⟩ := xNL_t (by omega) hn
  unfold vHo v5H
  rw [nI_clamp (by omega)]
  exact xGh_e hV hR hk a2 a3 a4
/-- a chance, both ways -/
theorem xWt_e {st ln : Nat} {ho pa si li : Int32} {lg ki ru ne nw : Nat → Int32} {ch : Nat → Nat → Int32} (hR : xRel (st, ln, ho, pa, si, li, lg, ki, ru, ne, ch) nw) {k t : Nat} (hk : k < ln) (ht : t < 13) : sWt (ne k) (ch k) (nI t) = xWt (fun j => nw (20 + 16 * k + j)) t := by
  obtain ⟨d1, d2, d3, d4⟩ := xLn_t hR hk
  unfold sWt xWt
  by_cases h : t = 12
  · rw [if_pos h, if_pos (by rw [h]; decide)]; exact d3.symm
  · rw [if_neg h, if_neg (show ¬ nI t = 12 from fun e => h ((xnI_inj (a := t) (b := 12) (by omega) (by decide)).mp e)), if_neg (nI_pos (by omega)), if_pos (show nI t < 12 from (nI_ltI (a := t) (b := 12) (by omega) (by decide)).mpr (by omega)), nI_clamp (by omega)]
    exact (d4 t (by omega)).symm
theorem xHS_e {st ln : Nat} {ho pa si li : Int32} {lg ki ru ne nw : Nat → Int32} {ch : Nat → Nat → Int32} (hV : xVc st ln ho pa lg) (hR : xRel (st, ln, ho, pa, si, li, lg, ki, ru, ne, ch) nw) {k : Nat} (hk : k < ln) (a2 a3 : Int32) : xHSum st ho pa si li lg (ki k) (ru k) (ne k) (ch k) a2 a3 = x5S st nw (20 + 16 * k) a2 a3 := by
  unfold xHSum x5S
  exact xSm_ag 13 (fun i hi => by rw [xWt_e hR hk hi, xGh_e hV hR hk])
theorem xBst_e {f : Nat → Int32} {g : Int32 → Int32} : ∀ n, n < 2 ^ 31 → (∀ i, i ≤ n → f i = g (nI i)) → (xBst f n).2 = xBs5 g n ∧ (xBst f n).1 = g (xBs5 g n)
  | 0, _, h => ⟨rfl, h 0 (Nat.le_refl 0)⟩
  | n + 1, hn, h => by
    obtain ⟨i1, i2⟩ := xBst_e n (by omega) (fun i hi => h i (by omega))
    have e := h (n + 1) (Nat.le_refl _)
    simp only [xBst, xBs5]
    rw [i2, e]
    by_cases q : g (nI (n + 1)) < g (xBs5 g n)
    · rw [if_pos q, if_pos q]; exact ⟨rfl, rfl⟩
    · rw [if_neg q, if_neg q]; exact ⟨i1, i2⟩
theorem xa_Ru {st ln : Nat} {ho pa si li : Int32} {lg ki ru ne nw : Nat → Int32} {ch : Nat → Nat → Int32} (hV : xVc st ln ho pa lg) (hR : xRel (st, ln, ho, pa, si, li, lg, ki, ru, ne, ch) nw) {a1 : Int32} (h : qRu ln a1 = 0) : vRu st ho pa si li lg ki ru ne ch a1 = v5Ru st nw a1 := by
  have h3 := hV.2.1
  have hn : sNL ln a1 = 0 := by
    by_cases q : sNL ln a1 = 0
    · exact q
    · unfold qRu at h; rw [if_neg q] at h; exact absurd h (by decide)
  obtain ⟨k, rfl, hk⟩ := xNL_t (by omega) hn
  unfold vRu v5Ru
  rw [nI_clamp (by omega)]
  exact (xBst_e 12 (by decide) (fun i _ => xHS_e hV hR hk 3 (nI i))).1
theorem xJb_e {st ln : Nat} {ho pa si li : Int32} {lg ki ru ne nw : Nat → Int32} {ch : Nat → Nat → Int32} (hV : xVc st ln ho pa lg) (hR : xRel (st, ln, ho, pa, si, li, lg, ki, ru, ne, ch) nw) (nf : Nat → Int32) {n : Nat} (hn : n < 2 ^ 31) : xJb st ho pa lg nf n = x5Jb st nw nf n := by
  have h7 := hV.1.2
  unfold xJb x5Jb
  by_cases h0 : 0 < n
  · by_cases h1 : n < st
    · have e0 : sNL st (nI n) = 0 := by unfold sNL; rw [if_neg (nI_pos hn), if_pos ((nI_ltI hn (by omega)).mpr h1)]
      obtain ⟨-, -, ⟨v, e, c1, c2⟩, -⟩ := hV
      have b2 : nw 2 = pa := hR.2.1.2.1
      have hq : ¬ pa < 1 := by rw [e]; exact mt (nI_ltI (a := v) (b := 1) (by omega) (by decide)).mp (by omega)
      have w : xWy (xYd st ho lg (n - 1)) pa = (xLm nw st n + nw 2 - 1) / nw 2 := by
        have q := xLm_e hR (show n - 1 < st by omega)
        rw [show n - 1 + 1 = n by omega] at q
        rw [← q, b2]
        unfold xWy
        rw [if_neg hq]
      rw [w, decide_eq_true e0, decide_eq_true h1]
    · have e0 : ¬ sNL st (nI n) = 0 := by unfold sNL; rw [if_neg (nI_pos hn), if_neg (mt (nI_ltI hn (by omega)).mp h1)]; decide
      rw [decide_eq_false e0, decide_eq_false h1, Bool.not_false, Bool.true_or, Bool.true_or]
  · rw [decide_eq_false h0, Bool.false_and, Bool.false_and]
theorem xJu_first {b : Nat → Bool} : ∀ {n j : Nat}, j < n → b j = true → (∀ i, i < j → b i = false) → j < 2 ^ 31 → xJu b n = nI j
  | 0, j, h, _, _, _ => absurd h (Nat.not_lt_zero j)
  | n + 1, j, h, hb, hf, hj => by
    by_cases q : j = n
    · subst q
      have e : xJu b j = -9 := by
        have key : ∀ m, m ≤ j → xJu b m = -9 := by
          intro m
          induction m with
          | zero => intro _; rfl
          | succ m ih => intro hm; exact xJu_f (ih (by omega)) (hf m (by omega))
        exact key j (Nat.le_refl j)
      exact xJu_t e hb
    · have ih := xJu_first (n := n) (show j < n by omega) hb hf hj
      have hne : ¬ xJu b n = -9 := by
        rw [ih, xi_eq, nI_toInt hj]
        have z : (-9 : Int32).toInt = -9 := by decide
        omega
      simp only [xJu]
      rw [if_neg hne, ih]
theorem xJu_none {b : Nat → Bool} : ∀ {n : Nat}, (∀ i, i < n → b i = false) → xJu b n = -9
  | 0, _ => rfl
  | n + 1, h => xJu_f (xJu_none (fun i hi => h i (by omega))) (h n (by omega))
theorem x5D_e {b : Nat → Bool} {cn : Nat} (hc : cn ≤ 12) : ∀ n, n ≤ cn → (∀ i, i < cn - n → b i = false) → x5D b cn n = xJu b cn
  | 0, _, h => (xJu_none (fun i hi => h i (by omega))).symm
  | n + 1, hn, h => by
    by_cases q : b (cn - n - 1) = true
    · rw [← x5D_t q]
      exact (xJu_first (show cn - n - 1 < cn by omega) q (fun i hi => h i (by omega)) (by omega)).symm
    · have q : b (cn - n - 1) = false := by simpa using q
      rw [← x5D_f q]
      exact x5D_e hc n (by omega) (fun i hi => by
        by_cases r : i = cn - n - 1
        · rw [r]; exact q
        · exact h i (by omega))
theorem xJu_ag {b b' : Nat → Bool} : ∀ n, (∀ i, i < n → b i = b' i) → xJu b n = xJu b' n
  | 0, _ => rfl
  | n + 1, h => by simp only [xJu]; rw [xJu_ag n (fun i hi => h i (by omega)), h n (by omega)]
theorem xa_J {st ln cn : Nat} {ho pa si li : Int32} {lg ki ru ne nw : Nat → Int32} {ch : Nat → Nat → Int32} (hV : xVc st ln ho pa lg) (hR : xRel (st, ln, ho, pa, si, li, lg, ki, ru, ne, ch) nw) (nf : Nat → Int32) (hc : cn ≤ 12) : xJu (xJb st ho pa lg nf) cn = x5D (x5Jb st nw nf) cn cn := by
  rw [x5D_e hc cn (Nat.le_refl _) (fun i hi => absurd hi (by omega))]
  exact xJu_ag cn (fun i hi => xJb_e hV hR nf (by omega))
