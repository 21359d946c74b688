/-! both readings agree: settings, lines, any statement -/
theorem sCh_in {q v : Int32} (h : ¬ sCh q v = 0) : ¬ v < sLe q ∧ ¬ sMo q < v := by
  unfold sCh at h
  by_cases h1 : v < sLe q
  · rw [if_pos h1] at h; exact absurd rfl h
  · rw [if_neg h1] at h
    by_cases h2 : sMo q < v
    · rw [if_pos h2] at h; exact absurd rfl h
    · exact ⟨h1, h2⟩
theorem sCh_u {q : Int32} {u b : Nat} (hl : sLe q = 0) (hm : sMo q = nI b) (hb : b < 2 ^ 30) (hu : u ≤ b) : ¬ sCh q (nI u) = 0 := by
  unfold sCh
  rw [hl, hm, if_neg (nI_pos (by omega)), if_neg (mt (nI_ltI (by omega) (by omega)).mp (by omega))]
  decide
theorem xSt_h {lt : Nat → Int32} {len a : Nat} {T : xT} {fa : Nat → Int32} (hlen : len ≤ 96) (ha : a < len) (hc : lt a = 104) (hW : xWp lt len a < 0) : xSt lt len a T fa := by
  have eA : xAt lt len a = 104 := by unfold xAt; rw [if_pos ha]; exact hc
  have e := xBeg (lt := lt) (len := len) (a := a) (k := 1) ha (by decide) hc (fun i hi => by rw [hc]; rcases (show i = 0 by omega) with rfl; decide)
  refine xSt_c (c0 := 104) (q := 0) (k := 1) (m := 3) (l := 1) hlen ha hc hW (by decide) e (by decide) (by decide) (by decide) (by decide) rfl (by decide) (by decide) (by decide) (fun T => ?_) (fun u f s l9 hu hf => ?_) (fun u f nw T h hf hr => ?_)
  · obtain ⟨st, ln, ho, pa, si, li, lg, ki, ru, ne, ch⟩ := T
    simp only [xTS]; rw [if_neg (by rw [eA]; decide), if_pos eA]
  · refine ⟨fun h => absurd h (by unfold xMb; rw [if_neg (by decide), if_neg (by decide), if_neg (by decide), if_neg (by decide)]; decide), fun h => absurd h (sCh_u (b := 999) rfl rfl (by decide) (by omega))⟩
  · obtain ⟨st, ln, ho, pa, si, li, lg, ki, ru, ne, ch⟩ := T
    obtain ⟨q1, q2⟩ := sCh_in h
    dsimp only
    have c1 : xCm (nI 1) f nw st ln = upd nw 1 (nI u) := by unfold xCm; rw [if_neg (by decide), if_pos (by decide), hf]
    have g0 : xCg 0 (nI u) 0 ho = nI u := by rw [xCg_ok q1 q2, if_pos (by decide)]
    have g1 : xCg 0 (nI u) 1 pa = pa := by rw [xCg_ok q1 q2, if_neg (by decide)]
    have g2 : xCg 0 (nI u) 2 si = si := by rw [xCg_ok q1 q2, if_neg (by decide)]
    have g3 : xCl 0 (nI u) li = li := by rw [xCl_ok q1 q2, if_pos (by decide)]
    rw [c1, g0, g1, g2, g3]
    have b := hr.2.1
    exact xRel_u hr (fun i hi => pk_un (by omega)) pk_us ((pk_un (by decide)).trans b.2.1) ((pk_un (by decide)).trans b.2.2.1) ((pk_un (by decide)).trans b.2.2.2)
theorem xSt_p {lt : Nat → Int32} {len a : Nat} {T : xT} {fa : Nat → Int32} (hlen : len ≤ 96) (ha : a < len) (hc : lt a = 112) (hW : xWp lt len a < 0) : xSt lt len a T fa := by
  have eA : xAt lt len a = 112 := by unfold xAt; rw [if_pos ha]; exact hc
  have e := xBeg (lt := lt) (len := len) (a := a) (k := 2) ha (by decide) hc (fun i hi => by rw [hc]; rcases (show i = 0 ∨ i = 1 by omega) with rfl | rfl <;> decide)
  refine xSt_c (c0 := 112) (q := 1) (k := 2) (m := 3) (l := 2) hlen ha hc hW (by decide) e (by decide) (by decide) (by decide) (by decide) rfl (by decide) (by decide) (by decide) (fun T => ?_) (fun u f s l9 hu hf => ?_) (fun u f nw T h hf hr => ?_)
  · obtain ⟨st, ln, ho, pa, si, li, lg, ki, ru, ne, ch⟩ := T
    simp only [xTS]; rw [if_neg (by rw [eA]; decide), if_neg (by rw [eA]; decide), if_pos eA]
  · unfold xMb sCh
    rw [if_neg (by decide), if_neg (by decide), if_pos (by decide), hf, show sLe 1 = 20 from rfl, show sMo 1 = 200 from rfl]
  · obtain ⟨st, ln, ho, pa, si, li, lg, ki, ru, ne, ch⟩ := T
    obtain ⟨q1, q2⟩ := sCh_in h
    dsimp only
    have c1 : xCm (nI 2) f nw st ln = upd nw 2 (nI u) := by unfold xCm; rw [if_neg (by decide), if_neg (by decide), if_pos (by decide), hf]
    have g0 : xCg 1 (nI u) 0 ho = ho := by rw [xCg_ok q1 q2, if_neg (by decide)]
    have g1 : xCg 1 (nI u) 1 pa = nI u := by rw [xCg_ok q1 q2, if_pos (by decide)]
    have g2 : xCg 1 (nI u) 2 si = si := by rw [xCg_ok q1 q2, if_neg (by decide)]
    have g3 : xCl 1 (nI u) li = li := by rw [xCl_ok q1 q2, if_neg (by decide), if_pos (by decide)]
    rw [c1, g0, g1, g2, g3]
    have b := hr.2.1
    exact xRel_u hr (fun i hi => pk_un (by omega)) ((pk_un (by decide)).trans b.1) pk_us ((pk_un (by decide)).trans b.2.2.1) ((pk_un (by decide)).trans b.2.2.2)
theorem xSt_e {lt : Nat → Int32} {len a : Nat} {T : xT} {fa : Nat → Int32} (hlen : len ≤ 96) (ha : a < len) (hc : lt a = 101) (hW : xWp lt len a < 0) : xSt lt len a T fa := by
  have eA : xAt lt len a = 101 := by unfold xAt; rw [if_pos ha]; exact hc
  have e := xBeg (lt := lt) (len := len) (a := a) (k := 4) ha (by decide) hc (fun i hi => by rw [hc]; rcases (show i = 0 ∨ i = 1 ∨ i = 2 ∨ i = 3 by omega) with rfl | rfl | rfl | rfl <;> decide)
  refine xSt_c (c0 := 101) (q := 2) (k := 4) (m := 1) (l := 1) hlen ha hc hW (by decide) e (by decide) (by decide) (by decide) (by decide) rfl (by decide) (by decide) (by decide) (fun T => ?_) (fun u f s l9 hu hf => ?_) (fun u f nw T h hf hr => ?_)
  · obtain ⟨st, ln, ho, pa, si, li, lg, ki, ru, ne, ch⟩ := T
    simp only [xTS]; rw [if_neg (by rw [eA]; decide), if_neg (by rw [eA]; decide), if_neg (by rw [eA]; decide), if_pos eA]
  · refine ⟨fun h => absurd h (by unfold xMb; rw [if_neg (by decide), if_neg (by decide), if_neg (by decide), if_neg (by decide)]; decide), fun h => absurd h (sCh_u (b := 9) rfl rfl (by decide) (by omega))⟩
  · obtain ⟨st, ln, ho, pa, si, li, lg, ki, ru, ne, ch⟩ := T
    obtain ⟨q1, q2⟩ := sCh_in h
    dsimp only
    have c1 : xCm (nI 4) f nw st ln = upd nw 4 (nI u) := by unfold xCm; rw [if_neg (by decide), if_neg (by decide), if_neg (by decide), if_neg (by decide), if_pos (by decide), hf]
    have g0 : xCg 2 (nI u) 0 ho = ho := by rw [xCg_ok q1 q2, if_neg (by decide)]
    have g1 : xCg 2 (nI u) 1 pa = pa := by rw [xCg_ok q1 q2, if_neg (by decide)]
    have g2 : xCg 2 (nI u) 2 si = nI u := by rw [xCg_ok q1 q2, if_pos (by decide)]
    have g3 : xCl 2 (nI u) li = li := by rw [xCl_ok q1 q2, if_neg (by decide), if_neg (by decide), if_pos (by decide)]
    rw [c1, g0, g1, g2, g3]
    have b := hr.2.1
    exact xRel_u hr (fun i hi => pk_un (by omega)) ((pk_un (by decide)).trans b.1) ((pk_un (by decide)).trans b.2.1) pk_us ((pk_un (by decide)).trans b.2.2.2)
theorem xSt_m {lt : Nat → Int32} {len a : Nat} {T : xT} {fa : Nat → Int32} (hlen : len ≤ 96) (ha : a < len) (hc : lt a = 109) (hW : xWp lt len a < 0) : xSt lt len a T fa := by
  have eA : xAt lt len a = 109 := by unfold xAt; rw [if_pos ha]; exact hc
  have e := xBeg (lt := lt) (len := len) (a := a) (k := 5) ha (by decide) hc (fun i hi => by rw [hc]; rcases (show i = 0 ∨ i = 1 ∨ i = 2 ∨ i = 3 ∨ i = 4 by omega) with rfl | rfl | rfl | rfl | rfl <;> decide)
  refine xSt_c (c0 := 109) (q := 3) (k := 5) (m := 2) (l := 1) hlen ha hc hW (by decide) e (by decide) (by decide) (by decide) (by decide) rfl (by decide) (by decide) (by decide) (fun T => ?_) (fun u f s l9 hu hf => ?_) (fun u f nw T h hf hr => ?_)
  · obtain ⟨st, ln, ho, pa, si, li, lg, ki, ru, ne, ch⟩ := T
    simp only [xTS]; rw [if_neg (by rw [eA]; decide), if_neg (by rw [eA]; decide), if_neg (by rw [eA]; decide), if_neg (by rw [eA]; decide), if_pos eA]
  · unfold xMb sCh
    rw [if_neg (by decide), if_neg (by decide), if_neg (by decide), if_pos (by decide), hf, show sLe 3 = 1 from rfl, show sMo 3 = 60 from rfl]
  · obtain ⟨st, ln, ho, pa, si, li, lg, ki, ru, ne, ch⟩ := T
    obtain ⟨q1, q2⟩ := sCh_in h
    dsimp only
    have c1 : xCm (nI 5) f nw st ln = upd nw 5 (nI u) := by unfold xCm; rw [if_neg (by decide), if_neg (by decide), if_neg (by decide), if_neg (by decide), if_neg (by decide), hf]
    have g0 : xCg 3 (nI u) 0 ho = ho := by rw [xCg_ok q1 q2, if_neg (by decide)]
    have g1 : xCg 3 (nI u) 1 pa = pa := by rw [xCg_ok q1 q2, if_neg (by decide)]
    have g2 : xCg 3 (nI u) 2 si = si := by rw [xCg_ok q1 q2, if_neg (by decide)]
    have g3 : xCl 3 (nI u) li = nI u := by rw [xCl_ok q1 q2, if_neg (by decide), if_neg (by decide), if_neg (by decide)]
    rw [c1, g0, g1, g2, g3]
    have b := hr.2.1
    exact xRel_u hr (fun i hi => pk_un (by omega)) ((pk_un (by decide)).trans b.1) ((pk_un (by decide)).trans b.2.1) ((pk_un (by decide)).trans b.2.2.1) pk_us
theorem xFq_lo {lt : Nat → Int32} {tn : Nat} {p : xP} {g : Nat → Int32} : ∀ n i, i < 4 → xFq lt tn p g n i = g i
  | 0, _, _ => rfl
  | n + 1, i, h => by simp only [xFq]; rw [pk_un (by omega)]; exact xFq_lo n i h
theorem xFq_at {lt : Nat → Int32} {tn : Nat} {p : xP} {g : Nat → Int32} : ∀ n k, k < n → xFq lt tn p g n (3 + (k + 1)) = xPw lt tn 1 (xQ lt tn p k)
  | 0, _, h => absurd h (Nat.not_lt_zero _)
  | n + 1, k, h => by
    simp only [xFq]
    by_cases q : k = n
    · subst q; exact pk_us
    · rw [pk_un (by omega)]; exact xFq_at n k (by omega)
theorem xSmF_S (f : Nat → Int32) : ∀ n, xSmF f 2 (n + 1) = f 2 + xSm (fun t => f (3 + t)) n
  | 0 => by show 0 + f (2 + 0) = f 2 + 0; rw [Int32.zero_add, Int32.add_zero]
  | n + 1 => by
    show xSmF f 2 (n + 1) + f (2 + (n + 1)) = f 2 + (xSm (fun t => f (3 + t)) n + f (3 + n))
    rw [xSmF_S f n, Int32.add_assoc, show 2 + (n + 1) = 3 + n by omega]
theorem xSm_ag {f g : Nat → Int32} : ∀ n, (∀ i, i < n → f i = g i) → xSm f n = xSm g n
  | 0, _ => rfl
  | n + 1, h => by simp only [xSm]; rw [xSm_ag n (fun i hi => h i (by omega)), h n (by omega)]
theorem xB4_0 (lt : Nat → Int32) (tn : Nat) (kf : Nat → Int32) (p : xP) (fa : Nat → Int32) : xB4 lt tn kf p fa 0 = xPv lt tn kf 5 p := by unfold xB4; rw [pk_un (by decide), pk_un (by decide), pk_un (by decide), pk_us]
theorem xB4_1 (lt : Nat → Int32) (tn : Nat) (kf : Nat → Int32) (p : xP) (fa : Nat → Int32) : xB4 lt tn kf p fa 1 = xPw lt tn 1 (xPn lt tn kf 5 p) := by unfold xB4; rw [pk_un (by decide), pk_un (by decide), pk_us]
theorem xB4_2 (lt : Nat → Int32) (tn : Nat) (kf : Nat → Int32) (p : xP) (fa : Nat → Int32) : xB4 lt tn kf p fa 2 = xPw lt tn 1 (xPf lt tn 1 1 (xPn lt tn kf 5 p)) := by unfold xB4; rw [pk_un (by decide), pk_us]
theorem xB4_3 (lt : Nat → Int32) (tn : Nat) (kf : Nat → Int32) (p : xP) (fa : Nat → Int32) : xB4 lt tn kf p fa 3 = xPw lt tn 1 (xPf lt tn 1 1 (xPf lt tn 1 1 (xPn lt tn kf 5 p))) := by unfold xB4; rw [pk_us]
/-- a line's fields, both ways -/
theorem xLf {lt : Nat → Int32} {len a : Nat} {fa : Nat → Int32} (hB : xByt lt len) (hlen : len ≤ 96) (ha : a < len) (hc : lt a = 108) (hW : xWp lt len a < 0) :
    xSs lt len xBF (a, 1) = 3 ∧ xSf lt len xBF xKF fa (a, 1) 0 = xKd lt len (a + 1) ∧ xSf lt len xBF xKF fa (a, 1) 1 = xDg lt len (xDp lt len a) ∧ xSf lt len xBF xKF fa (a, 1) 2 = xDg lt len (xDp lt len a + 1) ∧ ∀ t, t < 12 → xSf lt len xBF xKF fa (a, 1) (3 + t) = xCf lt len a t := by
  have eA : xAt lt len a = 108 := by unfold xAt; rw [if_pos ha]; exact hc
  have hd : xDp lt len a = a + 2 := by unfold xDp; rw [if_pos eA]
  have eB := xBeg (lt := lt) (len := len) (a := a) (k := 3) ha (by decide) hc (fun i hi => by rw [hc]; rcases (show i = 0 ∨ i = 1 ∨ i = 2 by omega) with rfl | rfl | rfl <;> decide)
  have e3 : xSs lt len xBF (a, 1) = 3 := eB.1
  have hw1 : nI (a + 1) < nI (xDp lt len a) := by rw [hd]; exact (nI_ltI (by omega) (by omega)).mpr (by omega)
  have hsm : ¬ sMd (xAt lt len a) = 0 := by rw [eA]; decide
  unfold xWp at hW
  rw [if_neg hsm, if_pos hw1] at hW
  rcases xKd_in (lt := lt) (len := len) (a := a + 1) hB with ⟨k1, k2⟩ | ⟨k1, k2, k3, k4⟩
  · rw [if_pos k1] at hW; exact absurd hW (nI_pos (by omega))
  · rw [if_neg k1] at hW
    have hg := xGood (lt := lt) (a := a) (m := 14) (l := 3) hlen (by omega) (by rw [eA]; decide) (by rw [eA]; decide) (by decide) (by decide) hW
    rw [hd] at hg
    have c1 := xCn_add (lt := lt) (len := len) (a := a + 2) 1 (by omega)
    have c2 := xCn_add (lt := lt) (len := len) (a := a + 2) 2 (by omega)
    have c3 := xCn_add (lt := lt) (len := len) (a := a + 2) 3 (by omega)
    have q1 : xPn lt len xKF 5 (a + 1, 1) = (a + 2, 1) := k2
    have q2 : xPf lt len 1 1 (a + 2, 1) = (a + 3, 1) := xPf11 (by omega)
    have q3 : xPf lt len 1 1 (a + 3, 1) = (a + 4, 1) := xPf11 (by rw [show a + 3 = a + 2 + 1 by omega]; omega)
    have q4 : xPf lt len 1 1 (a + 4, 1) = (a + 5, 1) := xPf11 (by rw [show a + 4 = a + 2 + 2 by omega]; omega)
    have f5 : x5p lt len xKF (a + 1, 1) = (a + 5, 1) := by unfold x5p; rw [q1, q2, q3, q4]
    have fS : xSf lt len xBF xKF fa (a, 1) = xFq lt len (a + 5, 1) (xB4 lt len xKF (a + 1, 1) fa) 11 := by unfold xSf; rw [if_pos e3, eB.2, f5]
    have eDe : xDe lt len a = a + 2 + xCn lt len (a + 2) := by rw [xDe_Cn, hd]
    have cond : ∀ t, t < 12 → (nI t < nI (xDe lt len a) - nI (xDp lt len a) - 2 ↔ t < xCn lt len (a + 2) - 2) := fun t ht => by
      rw [eDe, hd, pk_sub (by omega), show (2 : Int32) = nI 2 from rfl, pk_sub (by omega), nI_ltI (by omega) (by omega)]
      omega
    refine ⟨e3, ?_, ?_, ?_, fun t ht => ?_⟩
    · rw [fS, xFq_lo 11 0 (by decide), xB4_0]; exact k3
    · rw [fS, xFq_lo 11 1 (by decide), hd, xB4_1, q1, xPw1]
    · rw [fS, xFq_lo 11 2 (by decide), hd, xB4_2, q1, q2, xPw1]
    · rw [fS]
      unfold xCf
      cases t with
      | zero =>
        simp only [Nat.add_zero]
        rw [if_pos ((cond 0 (by decide)).mpr (by omega)), xFq_lo 11 3 (by decide), hd, xB4_3, q1, q2, q3, xPw1]
      | succ k =>
        rw [xFq_at 11 k (by omega), xQ_1, xPw1]
        have c5 : xCn lt len (a + 5) + 3 = xCn lt len (a + 2) := by rw [show a + 5 = a + 2 + 3 by omega]; exact c3
        by_cases q : k + 1 < xCn lt len (a + 2) - 2
        · rw [if_pos ((cond (k + 1) ht).mpr q), show a + 5 + min k (xCn lt len (a + 5)) = a + 2 + 2 + (k + 1) by omega, hd]
        · rw [if_neg (mt (cond (k + 1) ht).mp q), show a + 5 + min k (xCn lt len (a + 5)) = a + 2 + xCn lt len (a + 2) by omega]
          have e9 := xCn_add (lt := lt) (len := len) (a := a + 2) (xCn lt len (a + 2)) (Nat.le_refl _)
          unfold xDg
          rw [if_pos (xIsD_Cn.mpr (by omega))]
theorem xSt_l {lt : Nat → Int32} {len a : Nat} {T : xT} {fa : Nat → Int32} (hB : xByt lt len) (hlen : len ≤ 96) (ha : a < len) (hc : lt a = 108) (hW : xWp lt len a < 0) (h3 : T.2.1 ≤ 3) (h7 : T.1 ≤ 7) : xSt lt len a T fa := by
  have eA : xAt lt len a = 108 := by unfold xAt; rw [if_pos ha]; exact hc
  obtain ⟨e3, f0, f1, f2, ft⟩ := xLf (fa := fa) hB hlen ha hc hW
  obtain ⟨st, ln, ho, pa, si, li, lg, ki, ru, ne, ch⟩ := T
  have h3 : ln ≤ 3 := h3
  have h7 : st ≤ 7 := h7
  have eT : xTS lt len a (st, ln, ho, pa, si, li, lg, ki, ru, ne, ch) = xTL lt len a (st, ln, ho, pa, si, li, lg, ki, ru, ne, ch) := by
    simp only [xTS]; rw [if_neg (by rw [eA]; decide), if_neg (by rw [eA]; decide), if_neg (by rw [eA]; decide), if_neg (by rw [eA]; decide), if_neg (by rw [eA]; decide)]
  have hsum : xSmF (xSf lt len xBF xKF fa (a, 1)) 2 13 = xSm (xCp (xCf lt len a) (ch ln) 12) 12 + xDg lt len (xDp lt len a + 1) := by
    have es : xSm (fun t => xSf lt len xBF xKF fa (a, 1) (3 + t)) 12 = xSm (xCp (xCf lt len a) (ch ln) 12) 12 := xSm_ag 12 (fun i hi => (ft i hi).trans (if_pos hi).symm)
    have e13 := xSmF_S (xSf lt len xBF xKF fa (a, 1)) 12
    rw [es, f2] at e13
    exact e13.trans (Int32.add_comm _ _)
  unfold xSt
  rw [eT, e3]
  generalize xSf lt len xBF xKF fa (a, 1) = F9 at f0 f1 f2 ft hsum ⊢
  simp only [xTL]
  unfold xMb
  rw [if_pos rfl, f1, hsum]
  by_cases p3 : ln < 3
  · rw [if_pos p3]
    dsimp only
    rw [if_pos (show nI ln < 3 from (nI_ltI (a := ln) (b := 3) (by omega) (by decide)).mpr p3)]
    refine ⟨Iff.rfl, fun _ => ⟨rfl, rfl, fun nw hR => ?_⟩⟩
    obtain ⟨⟨a1, a2⟩, ⟨b1, b2, b3, b4⟩, g, d⟩ := hR
    dsimp only at a1 a2 b1 b2 b3 b4 g d
    unfold xCm
    rw [if_neg (by decide), if_neg (by decide), if_neg (by decide), if_pos rfl]
    have lo : ∀ i, i < 20 + 16 * ln → ¬ i = 3 → upd (xCw F9 nw (20 + 16 * ln) 15) 3 (nI (ln + 1)) i = nw i := fun i hi h => by rw [pk_un h]; exact xCw_lo _ nw hi 15
    have inn : ∀ k, k < 15 → upd (xCw F9 nw (20 + 16 * ln) 15) 3 (nI (ln + 1)) (20 + 16 * ln + k) = F9 k := fun k hk => by rw [pk_un (by omega)]; exact xCw_in _ nw 15 k hk
    refine ⟨⟨(lo 0 (by omega) (by decide)).trans a1, pk_us⟩, ⟨(lo 1 (by omega) (by decide)).trans b1, (lo 2 (by omega) (by decide)).trans b2, (lo 4 (by omega) (by decide)).trans b3, (lo 5 (by omega) (by decide)).trans b4⟩, fun j hj => ?_, fun j hj => ?_⟩
    · dsimp only at hj ⊢; exact (lo (10 + j) (by omega) (by omega)).trans (g j hj)
    · dsimp only at hj ⊢
      by_cases q : j = ln
      · subst q
        rw [pk_us, pk_us, pk_us]
        refine ⟨(inn 0 (by decide)).trans f0, (inn 1 (by decide)).trans f1, (inn 2 (by decide)).trans f2, fun t ht => ?_⟩
        rw [inn (3 + t) (by omega), ft t ht]
        show _ = (if j = j then xCp (xCf lt len a) (ch j) 12 else ch j) t
        rw [if_pos rfl]
        exact (if_pos ht).symm
      · obtain ⟨d1, d2, d3, d4⟩ := d j (by omega)
        rw [pk_un q, pk_un q, pk_un q]
        refine ⟨(lo _ (by omega) (by omega)).trans d1, (lo _ (by omega) (by omega)).trans d2, (lo _ (by omega) (by omega)).trans d3, fun t ht => ?_⟩
        rw [lo _ (by omega) (by omega), d4 t ht]
        show _ = (if j = ln then xCp (xCf lt len a) (ch ln) 12 else ch j) t
        rw [if_neg q]
  · rw [if_neg p3]
    dsimp only
    rw [if_neg (show ¬ nI ln < 3 from mt (nI_ltI (a := ln) (b := 3) (by omega) (by decide)).mp p3)]
    refine ⟨⟨fun _ => rfl, fun _ => ?_⟩, fun h => absurd rfl h⟩
    split
    · split <;> rfl
    · rfl
theorem xStep {lt : Nat → Int32} {len a : Nat} {T : xT} (fa : Nat → Int32) (hB : xByt lt len) (hlen : len ≤ 96) (ha : a < len) (hW : xWp lt len a < 0) (h3 : T.2.1 ≤ 3) (h7 : T.1 ≤ 7) : xSt lt len a T fa := by
  have eA : xAt lt len a = lt a := by unfold xAt; rw [if_pos ha]
  by_cases h0 : lt a = 115
  · exact xSt_s hlen ha h0 hW h7
  by_cases h1 : lt a = 104
  · exact xSt_h hlen ha h1 hW
  by_cases h2 : lt a = 112
  · exact xSt_p hlen ha h2 hW
  by_cases h3' : lt a = 108
  · exact xSt_l hB hlen ha h3' hW h3 h7
  by_cases h4 : lt a = 101
  · exact xSt_e hlen ha h4 hW
  by_cases h5 : lt a = 109
  · exact xSt_m hlen ha h5 hW
  exfalso
  unfold xWp at hW
  rw [if_pos (by rw [eA]; unfold sMd; rw [if_neg h0, if_neg h1, if_neg h2, if_neg h3', if_neg h4, if_neg h5])] at hW
  exact absurd hW (nI_pos (by omega))
