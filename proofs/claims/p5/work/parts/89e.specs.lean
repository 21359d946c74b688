/-! both readings agree: what a statement brings -/
theorem xIsD_Cn {lt : Nat → Int32} {len b : Nat} : xIsD lt len b = 0 ↔ xCn lt len b = 0 := by
  constructor
  · intro h
    unfold xCn
    rw [xSc_n h]
    omega
  · intro h
    by_cases q : xIsD lt len b = 0
    · exact q
    · have w := xIsD_lt q
      have g := (xSc_le lt len (len - (b + 1)) (b + 1)).1
      unfold xCn at h
      rw [xSc_d w q] at h
      omega
theorem xDg_dig {lt : Nat → Int32} {len b : Nat} (h : ¬ xIsD lt len b = 0) : xDg lt len b = lt b - 48 := by
  unfold xDg
  rw [if_neg h]
  unfold xAt
  rw [if_pos (xIsD_lt h)]
theorem xPw1 (lt : Nat → Int32) (len b : Nat) : xPw lt len 1 (b, 1) = xDg lt len b := by
  show xFv lt b (xFc lt len 1 1 b) = _
  rw [xFc_min]
  by_cases h : xIsD lt len b = 0
  · have e := xIsD_Cn.mp h
    unfold xCn at e
    rw [show min 1 (xSc lt len (len - b) b - b) = 0 by omega]
    unfold xDg
    rw [if_pos h]
    rfl
  · have e := mt xIsD_Cn.mpr h
    unfold xCn at e
    rw [show min 1 (xSc lt len (len - b) b - b) = 1 by omega, xDg_dig h]
    show 10 * 0 + lt (b + 0) - 48 = _
    rw [Int32.mul_zero, Int32.zero_add]
    rfl
theorem xPf11 {lt : Nat → Int32} {len b : Nat} (h : 0 < xCn lt len b) : xPf lt len 1 1 (b, 1) = (b + 1, 1) := by
  rw [xPf_1, show min 1 (xCn lt len b) = 1 by omega, if_neg (by decide)]
theorem xFv_Nu {lt : Nat → Int32} {len d : Nat} : ∀ k, k ≤ xCn lt len d → xFv lt d k = xNu lt len d k
  | 0, _ => rfl
  | k + 1, h => by
    have e := xFv_Nu (lt := lt) (len := len) (d := d) k (by omega)
    have q := xCn_dig (lt := lt) (len := len) (a := d) (i := k) (by omega)
    show 10 * xFv lt d k + lt (d + k) - 48 = xNu lt len d k * 10 + xDg lt len (d + k)
    rw [e, xDg_dig q, Int32.mul_comm, Int32.sub_eq_add_neg, Int32.sub_eq_add_neg, Int32.add_assoc]
theorem xNm_v {lt : Nat → Int32} {len a m : Nat} (hd : xDp lt len a = a + 1) (hm : xCn lt len (a + 1) ≤ m) (hm3 : m ≤ 3) : xPw lt len m (a + 1, 1) = xNm lt len a ∧ ∃ u, xNm lt len a = nI u ∧ u < 10 ^ (xCn lt len (a + 1)) := by
  have e1 : xNm lt len a = xNu lt len (a + 1) (xCn lt len (a + 1)) := by
    unfold xNm
    rw [xDe_Cn, hd, show a + 1 + xCn lt len (a + 1) - (a + 1) = xCn lt len (a + 1) by omega]
  have e2 := xFv_Nu (lt := lt) (len := len) (d := a + 1) (xCn lt len (a + 1)) (Nat.le_refl _)
  refine ⟨?_, ?_⟩
  · show xFv lt (a + 1) (xFc lt len 1 m (a + 1)) = _
    rw [xFc_min]
    have e3 : min m (xSc lt len (len - (a + 1)) (a + 1) - (a + 1)) = xCn lt len (a + 1) := by
      have : xSc lt len (len - (a + 1)) (a + 1) - (a + 1) = xCn lt len (a + 1) := rfl
      omega
    rw [e3, e2, e1]
  · obtain ⟨v, ev, hv⟩ := xFv_b (lt := lt) (a := a + 1) (xCn lt len (a + 1)) (by omega) (fun i hi => xIsD_dig (xCn_dig hi))
    exact ⟨v, by rw [e1, ← e2]; exact ev, hv⟩
/-- the class's road against the reference's row -/
def xRel (T : xT) (nw : Nat → Int32) : Prop :=
  (nw 0 = nI T.1 ∧ nw 3 = nI T.2.1) ∧ (nw 1 = T.2.2.1 ∧ nw 2 = T.2.2.2.1 ∧ nw 4 = T.2.2.2.2.1 ∧ nw 5 = T.2.2.2.2.2.1) ∧ (∀ j, j < T.1 → nw (10 + j) = T.2.2.2.2.2.2.1 j) ∧
  (∀ j, j < T.2.1 → nw (20 + 16 * j) = T.2.2.2.2.2.2.2.1 j ∧ nw (20 + 16 * j + 1) = T.2.2.2.2.2.2.2.2.1 j ∧ nw (20 + 16 * j + 2) = T.2.2.2.2.2.2.2.2.2.1 j ∧ ∀ t, t < 12 → nw (20 + 16 * j + (3 + t)) = T.2.2.2.2.2.2.2.2.2.2 j t)
theorem xRel_u {st ln : Nat} {ho pa si li ho' pa' si' li' : Int32} {lg ki ru ne nw nw' : Nat → Int32} {ch : Nat → Nat → Int32} (h : xRel (st, ln, ho, pa, si, li, lg, ki, ru, ne, ch) nw) (hu : ∀ i, (i = 0 ∨ i = 3 ∨ 10 ≤ i) → nw' i = nw i) (h1 : nw' 1 = ho') (h2 : nw' 2 = pa') (h4 : nw' 4 = si') (h5 : nw' 5 = li') : xRel (st, ln, ho', pa', si', li', lg, ki, ru, ne, ch) nw' := by
  obtain ⟨⟨a1, a2⟩, -, c, d⟩ := h
  refine ⟨⟨(hu 0 (by omega)).trans a1, (hu 3 (by omega)).trans a2⟩, ⟨h1, h2, h4, h5⟩, fun j hj => (hu _ (by omega)).trans (c j hj), fun j hj => ?_⟩
  obtain ⟨d1, d2, d3, d4⟩ := d j hj
  exact ⟨(hu _ (by omega)).trans d1, (hu _ (by omega)).trans d2, (hu _ (by omega)).trans d3, fun t ht => (hu _ (by omega)).trans (d4 t ht)⟩
/-- what one statement brings, both ways -/
def xSt (lt : Nat → Int32) (len a : Nat) (T : xT) (fa : Nat → Int32) : Prop :=
  (xMb (xSs lt len xBF (a, 1)) (xSf lt len xBF xKF fa (a, 1)) (nI T.1) (nI T.2.1) = 0 ↔ (xTS lt len a T).2 = 0) ∧
  (¬ (xTS lt len a T).2 = 0 → (xTS lt len a T).1.1 = T.1 + xN0 (xSs lt len xBF (a, 1)) ∧ (xTS lt len a T).1.2.1 = T.2.1 + xN3 (xSs lt len xBF (a, 1)) ∧
    ∀ nw, xRel T nw → xRel (xTS lt len a T).1 (xCm (xSs lt len xBF (a, 1)) (xSf lt len xBF xKF fa (a, 1)) nw T.1 T.2.1))
/-- of the five with a number -/
theorem xSf_s {lt : Nat → Int32} {len a k m : Nat} {fa : Nat → Int32} (hs : xSs lt len xBF (a, 1) = nI k) (hp : xPn lt len xBF 6 (a, 1) = (a + 1, 1)) (hk3 : ¬ nI k = 3) (hm : xLm9 (nI k) = m) (hd : xDp lt len a = a + 1) (hn : xCn lt len (a + 1) ≤ m) (hm3 : m ≤ 3) :
    xSf lt len xBF xKF fa (a, 1) 0 = xNm lt len a := by
  unfold xSf
  rw [hs, if_neg hk3, pk_us, hm, hp]
  exact (xNm_v hd hn hm3).1
theorem xGood {lt : Nat → Int32} {len a m l : Nat} (hlen : len ≤ 96) (hd : xDp lt len a ≤ len) (hm : sMd (xAt lt len a) = nI m) (hl : sLd (xAt lt len a) = nI l) (hm9 : m ≤ 20) (hl9 : l ≤ 20) (hW : xWp2 lt len a < 0) : xCn lt len (xDp lt len a) ≤ m ∧ l ≤ xCn lt len (xDp lt len a) := by
  have hn := xCn_le (lt := lt) hd
  rw [xWp2_e hlen hd hm hl hm9 hl9] at hW
  by_cases h1 : m < xCn lt len (xDp lt len a)
  · rw [if_pos h1] at hW; exact absurd hW (nI_pos (by omega))
  · rw [if_neg h1] at hW
    by_cases h2 : xCn lt len (xDp lt len a) < l
    · rw [if_pos h2] at hW; exact absurd hW (nI_pos (by omega))
    · exact ⟨by omega, by omega⟩
theorem xPos {u : Nat} (h : u < 2 ^ 31) : (0 < nI u ↔ ¬ nI u < 1) := by
  rw [show (0 : Int32) = nI 0 from rfl, show (1 : Int32) = nI 1 from rfl, nI_ltI (by decide) h, nI_ltI h (by decide)]
  omega
theorem xSt_s {lt : Nat → Int32} {len a : Nat} {T : xT} {fa : Nat → Int32} (hlen : len ≤ 96) (ha : a < len) (hc : lt a = 115) (hW : xWp lt len a < 0) (h7 : T.1 ≤ 7) : xSt lt len a T fa := by
  have eA : xAt lt len a = 115 := by unfold xAt; rw [if_pos ha]; exact hc
  have hd : xDp lt len a = a + 1 := by unfold xDp; rw [eA, if_neg (by decide)]
  have eB := xBeg (lt := lt) (len := len) (a := a) (k := 0) ha (by decide) hc (fun i hi => absurd hi (Nat.not_lt_zero i))
  have hW2 : xWp2 lt len a < 0 := by
    unfold xWp at hW
    rw [if_neg (by rw [eA]; decide), hd, if_neg (mt (nI_ltI (by omega) (by omega)).mp (Nat.lt_irrefl _))] at hW
    exact hW
  have hg := xGood (m := 3) (l := 1) hlen (by omega) (by rw [eA]; decide) (by rw [eA]; decide) (by decide) (by decide) hW2
  rw [hd] at hg
  obtain ⟨hv, u, eu, hu⟩ := xNm_v (lt := lt) (len := len) (m := 3) hd hg.1 (by decide)
  have hu9 : u < 1000 := Nat.lt_of_lt_of_le hu (Nat.pow_le_pow_right (by decide) hg.1)
  have hf := xSf_s (fa := fa) (m := 3) eB.1 eB.2 (by decide) rfl hd hg.1 (by decide)
  have h0 : xSs lt len xBF (a, 1) = 0 := eB.1
  obtain ⟨st, ln, ho, pa, si, li, lg, ki, ru, ne, ch⟩ := T
  have h7 : st ≤ 7 := h7
  have e9 : ¬ 999 < nI u := mt (nI_ltI (a := 999) (b := u) (by decide) (by omega)).mp (by omega)
  have eT : xTS lt len a (st, ln, ho, pa, si, li, lg, ki, ru, ne, ch) = ((xAsN st (nI u), ln, ho, pa, si, li, xAsL st (nI u) lg, ki, ru, ne, ch), sAs st (nI u)) := by
    simp only [xTS]; rw [if_pos eA, eu]
  unfold xSt
  rw [eT, h0]
  dsimp only
  unfold xMb sAs xAsN xAsL
  rw [if_neg (by decide), if_pos rfl, hf, eu]
  by_cases p1 : nI u < 1
  · rw [if_pos p1, if_neg (fun w => (xPos (by omega)).mp w p1)]
    exact ⟨⟨fun _ => rfl, fun _ => rfl⟩, fun h => absurd rfl h⟩
  · rw [if_neg p1, if_pos ((xPos (by omega)).mpr p1), if_neg e9]
    by_cases p2 : st < 7
    · rw [if_pos p2, if_pos (show nI st < 7 from (nI_ltI (a := st) (b := 7) (by omega) (by decide)).mpr p2), if_neg p1, if_neg e9, if_pos p2, if_neg p1, if_neg e9, if_pos p2]
      refine ⟨⟨fun h => absurd h (by decide), fun h => absurd h (by decide)⟩, fun _ => ⟨rfl, rfl, fun nw hR => ?_⟩⟩
      obtain ⟨⟨a1, a2⟩, ⟨b1, b2, b3, b4⟩, g, d⟩ := hR
      unfold xCm
      rw [if_pos rfl, hf, eu]
      dsimp only at a1 a2 b1 b2 b3 b4 g d
      have o : ∀ i, ¬ i = 0 → ¬ i = 10 + st → upd (upd nw (10 + st) (nI u)) 0 (nI (st + 1)) i = nw i := fun i h1 h2 => by rw [pk_un h1, pk_un h2]
      refine ⟨⟨pk_us, (o 3 (by decide) (by omega)).trans a2⟩, ⟨(o 1 (by decide) (by omega)).trans b1, (o 2 (by decide) (by omega)).trans b2, (o 4 (by decide) (by omega)).trans b3, (o 5 (by decide) (by omega)).trans b4⟩, fun j hj => ?_, fun j hj => ?_⟩
      · dsimp only at hj ⊢
        by_cases q : j = st
        · subst q; rw [pk_un (by omega), pk_us, pk_us]
        · rw [o (10 + j) (by omega) (by omega), pk_un q]; exact g j (by omega)
      · obtain ⟨d1, d2, d3, d4⟩ := d j hj
        exact ⟨(o _ (by omega) (by omega)).trans d1, (o _ (by omega) (by omega)).trans d2, (o _ (by omega) (by omega)).trans d3, fun t ht => (o _ (by omega) (by omega)).trans (d4 t ht)⟩
    · rw [if_neg p2, if_neg (show ¬ nI st < 7 from mt (nI_ltI (a := st) (b := 7) (by omega) (by decide)).mp p2)]
      exact ⟨⟨fun _ => rfl, fun _ => rfl⟩, fun h => absurd rfl h⟩
/-- a setting: q its number, k its sort, i its place in the row -/
theorem xSt_c {lt : Nat → Int32} {len a k m l : Nat} {c0 q : Int32} {T : xT} {fa : Nat → Int32} (hlen : len ≤ 96) (ha : a < len) (hc : lt a = c0) (hW : xWp lt len a < 0) (h108 : ¬ c0 = 108) (eB : xSs lt len xBF (a, 1) = nI k ∧ xPn lt len xBF 6 (a, 1) = (a + 1, 1)) (hk3 : ¬ nI k = 3) (hk0 : ¬ nI k = 0)
    (hm : sMd c0 = nI m) (hl : sLd c0 = nI l) (hm9 : xLm9 (nI k) = m) (hm3 : m ≤ 3) (hm0 : 0 < m) (hl9 : l ≤ 20)
    (hT : ∀ T : xT, xTS lt len a T = ((T.1, T.2.1, xCg q (xNm lt len a) 0 T.2.2.1, xCg q (xNm lt len a) 1 T.2.2.2.1, xCg q (xNm lt len a) 2 T.2.2.2.2.1, xCl q (xNm lt len a) T.2.2.2.2.2.1, T.2.2.2.2.2.2), sCh q (xNm lt len a)))
    (hM : ∀ (u : Nat) (f : Nat → Int32) (s l9 : Int32), u < 10 ^ m → f 0 = nI u → (xMb (nI k) f s l9 = 0 ↔ sCh q (nI u) = 0))
    (hR : ∀ (u : Nat) (f nw : Nat → Int32) (T : xT), ¬ sCh q (nI u) = 0 → f 0 = nI u → xRel T nw → xRel (T.1, T.2.1, xCg q (nI u) 0 T.2.2.1, xCg q (nI u) 1 T.2.2.2.1, xCg q (nI u) 2 T.2.2.2.2.1, xCl q (nI u) T.2.2.2.2.2.1, T.2.2.2.2.2.2) (xCm (nI k) f nw T.1 T.2.1)) : xSt lt len a T fa := by
  have eA : xAt lt len a = c0 := by unfold xAt; rw [if_pos ha]; exact hc
  have hd : xDp lt len a = a + 1 := by unfold xDp; rw [eA, if_neg h108]
  have hW2 : xWp2 lt len a < 0 := by
    unfold xWp at hW
    rw [if_neg (by rw [eA, hm]; exact nI_ne0 hm0 (by omega)), hd, if_neg (mt (nI_ltI (by omega) (by omega)).mp (Nat.lt_irrefl _))] at hW
    exact hW
  have hg := xGood (m := m) (l := l) hlen (by omega) (by rw [eA]; exact hm) (by rw [eA]; exact hl) (by omega) hl9 hW2
  rw [hd] at hg
  obtain ⟨hv, u, eu, hu⟩ := xNm_v (lt := lt) (len := len) (m := m) hd hg.1 hm3
  have hu9 : u < 10 ^ m := Nat.lt_of_lt_of_le hu (Nat.pow_le_pow_right (by decide) hg.1)
  have hf := xSf_s (fa := fa) (m := m) eB.1 eB.2 hk3 hm9 hd hg.1 hm3
  rw [eu] at hf
  unfold xSt
  rw [hT T, eB.1, eu]
  dsimp only
  refine ⟨hM u _ _ _ hu9 hf, fun h => ⟨by unfold xN0; rw [if_neg hk0]; rfl, by unfold xN3; rw [if_neg hk3]; rfl, fun nw hr => hR u _ nw T h hf hr⟩⟩
