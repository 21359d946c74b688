/-! what holds of both sides between two calls -/
def xVc (st ln : Nat) (ho pa : Int32) (lg : Nat → Int32) : Prop := (1 ≤ st ∧ st ≤ 7) ∧ ln ≤ 3 ∧ (∃ v, pa = nI v ∧ 20 ≤ v ∧ v ≤ 200) ∧ (∃ v, ho = nI v ∧ v ≤ 999) ∧ (∀ j, 1 ≤ j → j < st → ∃ v, lg j = nI v ∧ v ≤ 999)
theorem xWay {a v : Nat} (ha : a ≤ 999) (h1 : 1 ≤ v) (h2 : v ≤ 200) : ∃ w, w ≤ 1000 ∧ (nI a + nI v - 1) / nI v = nI w := by
  refine ⟨(a + v - 1) / v, ?_, ?_⟩
  · have h : (a + v - 1) / v ≤ a + v - 1 := Nat.div_le_self _ _
    have h3 : (a + v - 1) / v < 1001 := (Nat.div_lt_iff_lt_mul (by omega)).mpr (by
      have : 1001 * 1 ≤ 1001 * v := Nat.mul_le_mul_left _ h1
      omega)
    omega
  · rw [nI_add, show nI (a + v) - 1 = nI (a + v - 1) from pk_sub (a := a + v) (b := 1) (by omega)]
    exact pk_div (by omega) (by omega) (by omega)
theorem xVc_wy {st ln : Nat} {ho pa : Int32} {lg : Nat → Int32} (h : xVc st ln ho pa lg) : ∀ i, i < st → ∃ w, w ≤ 1000 ∧ xWy (xYd st ho lg i) pa = nI w := by
  obtain ⟨⟨a1, a2⟩, b, ⟨v, e, c1, c2⟩, ⟨u, e2, d⟩, g⟩ := h
  intro i hi
  have hq : ¬ pa < 1 := by rw [e]; exact mt (nI_ltI (a := v) (b := 1) (by omega) (by decide)).mp (by omega)
  have hy : ∃ z, xYd st ho lg i = nI z ∧ z ≤ 999 := by
    unfold xYd
    by_cases q : i + 1 < st
    · rw [if_pos q]; exact g (i + 1) (by omega) q
    · rw [if_neg q]; exact ⟨u, e2, d⟩
  obtain ⟨z, ez, hz⟩ := hy
  unfold xWy
  rw [if_neg hq, ez, e]
  exact xWay hz (by omega) c2
theorem xVd_wn {nw : Nat → Int32} {st ln : Nat} (h : xVd nw st ln) : ∃ wn : Nat → Nat, ∀ j, 1 ≤ j → j ≤ st → (xLm nw st j + nw 2 - 1) / nw 2 = nI (wn j) ∧ wn j ≤ 1000 := by
  obtain ⟨⟨a0, a1, a2⟩, b, ⟨v, e, c1, c2⟩, ⟨u, e2, d⟩, g, -⟩ := h
  have key : ∀ j, ∃ w, 1 ≤ j → j ≤ st → (xLm nw st j + nw 2 - 1) / nw 2 = nI w ∧ w ≤ 1000 := by
    intro j
    by_cases q : 1 ≤ j ∧ j ≤ st
    · have hy : ∃ z, xLm nw st j = nI z ∧ z ≤ 999 := by
        unfold xLm
        by_cases r : j = st
        · rw [if_pos r]; exact ⟨u, e2, d⟩
        · rw [if_neg r]; exact g j q.1 (by omega)
      obtain ⟨z, ez, hz⟩ := hy
      obtain ⟨w, hw, ew⟩ := xWay hz (show 1 ≤ v by omega) c2
      exact ⟨w, fun _ _ => ⟨by rw [ez, e]; exact ew, hw⟩⟩
    · exact ⟨0, fun h1 h2 => absurd ⟨h1, h2⟩ q⟩
  obtain ⟨wn, hw⟩ := Classical.axiomOfChoice key
  exact ⟨wn, hw⟩
theorem xVd_q2 {nw : Nat → Int32} {st ln : Nat} (h : xVd nw st ln) : ¬ nw 2 = 0 ∧ ¬ 2 * nw 2 = 0 := by
  obtain ⟨-, -, ⟨v, e, c1, c2⟩, -⟩ := h
  rw [e]
  exact ⟨nI_ne0 (by omega) (by omega), by rw [show (2 : Int32) * nI v = nI (2 * v) from pk_mul 2 v]; exact nI_ne0 (by omega) (by omega)⟩
theorem xCpy_lo {f g : Nat → Int32} {n j : Nat} (h : j < n) : va_cpy f g 0 0 n j = f j := (pk_cpy_in (Nat.zero_le j) (by omega)).trans (congrArg f (by omega))
theorem xVc_cpy {st ln : Nat} {ho pa : Int32} {lg g : Nat → Int32} (h : xVc st ln ho pa lg) : xVc st ln ho pa (va_cpy lg g 0 0 7) := by
  obtain ⟨a, b, c, d, e⟩ := h
  exact ⟨a, b, c, d, fun j h1 h2 => by rw [xCpy_lo (by omega)]; exact e j h1 h2⟩
theorem xRng {v : Int32} {a b : Nat} (ha : a < 2 ^ 31) (hb : b < 2 ^ 31) (h1 : ¬ v < nI a) (h2 : ¬ nI b < v) : ∃ k, v = nI k ∧ a ≤ k ∧ k ≤ b := by
  rw [xi_lt, nI_toInt ha] at h1
  rw [xi_lt, nI_toInt hb] at h2
  refine ⟨v.toInt.toNat, ?_, by omega, by omega⟩
  rw [xi_eq, nI_toInt (by omega)]
  omega
theorem xCg_V0 {q v ho : Int32} (h : ∃ k, ho = nI k ∧ k ≤ 999) : ∃ k, xCg q v 0 ho = nI k ∧ k ≤ 999 := by
  unfold xCg
  by_cases h1 : v < sLe q
  · rw [if_pos h1]; exact h
  rw [if_neg h1]
  by_cases h2 : sMo q < v
  · rw [if_pos h2]; exact h
  rw [if_neg h2]
  by_cases h3 : q = 0
  · rw [if_pos h3]
    subst h3
    obtain ⟨k, e, -, hk⟩ := xRng (v := v) (a := 0) (b := 999) (by decide) (by decide) h1 h2
    exact ⟨k, e, hk⟩
  · rw [if_neg h3]; exact h
theorem xCg_V1 {q v pa : Int32} (h : ∃ k, pa = nI k ∧ 20 ≤ k ∧ k ≤ 200) : ∃ k, xCg q v 1 pa = nI k ∧ 20 ≤ k ∧ k ≤ 200 := by
  unfold xCg
  by_cases h1 : v < sLe q
  · rw [if_pos h1]; exact h
  rw [if_neg h1]
  by_cases h2 : sMo q < v
  · rw [if_pos h2]; exact h
  rw [if_neg h2]
  by_cases h3 : q = 1
  · rw [if_pos h3]
    subst h3
    exact xRng (v := v) (a := 20) (b := 200) (by decide) (by decide) h1 h2
  · rw [if_neg h3]; exact h
theorem xVc_as {st ln : Nat} {ho pa v : Int32} {lg : Nat → Int32} (h : xVc st ln ho pa lg) : xVc (xAsN st v) ln ho pa (xAsL st v lg) := by
  obtain ⟨⟨a1, a2⟩, b, c, d, e⟩ := h
  unfold xAsN xAsL
  by_cases h1 : v < 1
  · rw [if_pos h1, if_pos h1]; exact ⟨⟨a1, a2⟩, b, c, d, e⟩
  rw [if_neg h1, if_neg h1]
  by_cases h2 : 999 < v
  · rw [if_pos h2, if_pos h2]; exact ⟨⟨a1, a2⟩, b, c, d, e⟩
  rw [if_neg h2, if_neg h2]
  by_cases h3 : st < 7
  · rw [if_pos h3, if_pos h3]
    refine ⟨⟨by omega, by omega⟩, b, c, d, fun j j1 j2 => ?_⟩
    by_cases q : j = st
    · subst q
      obtain ⟨k, ek, -, hk⟩ := xRng (v := v) (a := 1) (b := 999) (by decide) (by decide) h1 h2
      exact ⟨k, by rw [pk_us]; exact ek, hk⟩
    · rw [pk_un q]; exact e j j1 (by omega)
  · rw [if_neg h3, if_neg h3]; exact ⟨⟨a1, a2⟩, b, c, d, e⟩
def xVT (T : xT) : Prop := xVc T.1 T.2.1 T.2.2.1 T.2.2.2.1 T.2.2.2.2.2.2.1
theorem xVT_S (lt : Nat → Int32) (len p : Nat) (T : xT) (h : xVT T) : xVT (xTS lt len p T).1 := by
  obtain ⟨st, ln, ho, pa, si, li, lg, ki, ru, ne, ch⟩ := T
  have h : xVc st ln ho pa lg := h
  simp only [xTS]
  have h0 := h
  obtain ⟨a, b, c, d, e⟩ := h0
  repeat' split
  · exact xVc_as h
  · exact ⟨a, b, xCg_V1 c, xCg_V0 d, e⟩
  · exact ⟨a, b, xCg_V1 c, xCg_V0 d, e⟩
  · exact ⟨a, b, xCg_V1 c, xCg_V0 d, e⟩
  · exact ⟨a, b, xCg_V1 c, xCg_V0 d, e⟩
  · simp only [xTL]
    split
    · exact ⟨a, by show ln + 1 ≤ 3; omega, c, d, e⟩
    · exact h
theorem xVT_L (lt : Nat → Int32) (len : Nat) : ∀ (n p : Nat) (T : xT) (k : Nat), xVT T → xVT (xRL lt len n p T k).1
  | 0, _, _, _, h => h
  | n + 1, p, T, k, h => by
    simp only [xRL]
    split
    · split
      · exact xVT_S lt len p T h
      · exact xVT_L lt len n _ _ _ (xVT_S lt len p T h)
    · exact h
theorem xVT_O (lt : Nat → Int32) (len : Nat) (T : xT) (h : xVT T) : xVT (xRO lt len T).1 := by
  unfold xRO
  split
  · exact xVT_L lt len len 0 T 0 h
  · exact h
theorem xVc_ip {a : Int32} {st ln st' ln' : Nat} {ho pa ho' pa' : Int32} {lg lg' : Nat → Int32} (h : xVc st ln ho pa lg) (h' : xVc st' ln' ho' pa' lg') : xVc (xIp a st' st) (xIp a ln' ln) (xIp a ho' ho) (xIp a pa' pa) (xIp a lg' lg) := by
  unfold xIp
  by_cases q : 0 < a
  · simp only [if_pos q]; exact h'
  · simp only [if_neg q]; exact h
theorem xVc_set {st ln : Nat} {ho pa : Int32} {lg : Nat → Int32} (a1 a2 : Int32) (h : xVc st ln ho pa lg) : xVc st ln (xIf (qSe a1 a2) (xCg a1 a2 0 ho) ho) (xIf (qSe a1 a2) (xCg a1 a2 1 pa) pa) lg := by
  obtain ⟨a, b, c, d, e⟩ := h
  unfold xIf
  by_cases q : qSe a1 a2 = 0
  · rw [if_pos q, if_pos q]; exact ⟨a, b, xCg_V1 c, xCg_V0 d, e⟩
  · rw [if_neg q, if_neg q]; exact ⟨a, b, c, d, e⟩
theorem qSe_0 {a1 a2 : Int32} (h : qSe a1 a2 = 0) : ¬ a2 < sLe a1 ∧ ¬ sMo a1 < a2 := by
  unfold qSe at h
  repeat' split at h
  all_goals first | exact absurd h (by decide) | exact ⟨by assumption, by assumption⟩
theorem xVd_set {nw : Nat → Int32} {st ln : Nat} (a1 a2 : Int32) (h : xVd nw st ln) : xVd (x5Se nw a1 a2) st ln := by
  unfold x5Se
  by_cases q : qSe a1 a2 = 0
  · rw [if_pos q]
    obtain ⟨q1, q2⟩ := qSe_0 q
    obtain ⟨⟨x1, x2, x3⟩, ⟨b1, b2⟩, ⟨v2, c1, c2, c3⟩, ⟨v1, d1, d2⟩, e, w⟩ := h
    have hw : ∀ (k : Nat) (x : Int32) (hk : k < 10), ∀ j, j < ln → ¬ xWs (fun i => upd nw k x (20 + 16 * j + i)) 0 = 0 := by
      intro k x hk j hj
      rw [xWs_ag (g := fun i => nw (20 + 16 * j + i)) (fun i hi => pk_un (by omega))]
      exact w j hj
    have gen : ∀ k, k = 4 ∨ k = 5 → xVd (upd nw k a2) st ln := fun k hk =>
      ⟨⟨by rw [pk_un (by omega)]; exact x1, x2, x3⟩, ⟨by rw [pk_un (by omega)]; exact b1, b2⟩, ⟨v2, by rw [pk_un (by omega)]; exact c1, c2, c3⟩, ⟨v1, by rw [pk_un (by omega)]; exact d1, d2⟩, fun j j1 j2 => by rw [pk_un (by omega)]; exact e j j1 j2, hw k a2 (by omega)⟩
    unfold x5Pl
    by_cases h0 : a1 = 0
    · rw [if_pos h0]
      subst h0
      obtain ⟨k, ek, -, hk⟩ := xRng (v := a2) (a := 0) (b := 999) (by decide) (by decide) q1 q2
      exact ⟨⟨by rw [pk_un (by omega)]; exact x1, x2, x3⟩, ⟨by rw [pk_un (by omega)]; exact b1, b2⟩, ⟨v2, by rw [pk_un (by omega)]; exact c1, c2, c3⟩, ⟨k, by rw [pk_us]; exact ek, hk⟩, fun j j1 j2 => by rw [pk_un (by omega)]; exact e j j1 j2, hw 1 a2 (by decide)⟩
    rw [if_neg h0]
    by_cases h1 : a1 = 1
    · rw [if_pos h1]
      subst h1
      obtain ⟨k, ek, hk1, hk⟩ := xRng (v := a2) (a := 20) (b := 200) (by decide) (by decide) q1 q2
      exact ⟨⟨by rw [pk_un (by omega)]; exact x1, x2, x3⟩, ⟨by rw [pk_un (by omega)]; exact b1, b2⟩, ⟨k, by rw [pk_us]; exact ek, hk1, hk⟩, ⟨v1, by rw [pk_un (by omega)]; exact d1, d2⟩, fun j j1 j2 => by rw [pk_un (by omega)]; exact e j j1 j2, hw 2 a2 (by decide)⟩
    rw [if_neg h1]
    by_cases h2 : a1 = 2
    · rw [if_pos h2]; exact gen 4 (Or.inl rfl)
    · rw [if_neg h2]; exact gen 5 (Or.inr rfl)
  · rw [if_neg q]; exact h
theorem xVd_ag {f g : Nat → Int32} {st ln : Nat} (h : xVd f st ln) (hfg : ∀ i, i < 70 → g i = f i) : xVd g st ln := by
  obtain ⟨⟨x1, x2, x3⟩, ⟨b1, b2⟩, ⟨v2, c1, c2, c3⟩, ⟨v1, d1, d2⟩, e, w⟩ := h
  refine ⟨⟨by rw [hfg 0 (by decide)]; exact x1, x2, x3⟩, ⟨by rw [hfg 3 (by decide)]; exact b1, b2⟩, ⟨v2, by rw [hfg 2 (by decide)]; exact c1, c2, c3⟩, ⟨v1, by rw [hfg 1 (by decide)]; exact d1, d2⟩, fun j j1 j2 => by rw [hfg (10 + j) (by omega)]; exact e j j1 j2, fun j hj => ?_⟩
  rw [xWs_ag (g := fun i => f (20 + 16 * j + i)) (fun i hi => hfg _ (by omega))]
  exact w j hj
theorem xVd_cp {f g : Nat → Int32} {st ln : Nat} (h : xVd f st ln) : xVd (xCp f g 70) st ln := xVd_ag h (fun i hi => if_pos hi)
theorem xLen96 {len : Nat} {a : Int32} (h : len ≤ 96) : (if qLe len a = 0 then xLn len else len) ≤ 96 := by
  by_cases q : qLe len a = 0
  · rw [if_pos q]; unfold xLn; split <;> omega
  · rw [if_neg q]; exact h
theorem xRn12 {cn : Nat} {a : Int32} (h : cn ≤ 12) : xRn cn a ≤ 12 := by
  unfold xRn
  by_cases q : qRo cn a = 0
  · rw [if_pos q]
    unfold qRo at q
    repeat' split at q
    all_goals first | exact absurd q (by decide) | (rename_i w; have := (nI_ltI (a := cn) (b := 12) (by omega) (by decide)).mp w; omega)
  · rw [if_neg q]; exact h
