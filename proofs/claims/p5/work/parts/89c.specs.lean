/-! both readings agree: a statement's place -/
def xBF : Nat → Int32 := upd (upd (upd (upd (upd (upd (fun _ => 0) 0 115) 1 104) 2 112) 3 108) 4 101) 5 109
def xKF : Nat → Int32 := upd (upd (upd (upd (upd (fun _ => 0) 0 98) 1 110) 2 101) 3 114) 4 116
theorem xFg_D (lt : Nat → Int32) (len a : Nat) : xFg lt len (a, 1) = xIsD lt len a := by
  unfold xFg xIsD xAt
  dsimp only
  rw [if_neg (by decide : ¬ (1 : Int32) = 0)]
  by_cases h : a < len
  · simp only [if_pos h]
  · simp only [if_neg h]; rw [if_pos (by decide)]
theorem xIsD_lt {lt : Nat → Int32} {len a : Nat} (h : ¬ xIsD lt len a = 0) : a < len := by
  by_cases q : a < len
  · exact q
  · exfalso
    apply h
    unfold xIsD xAt
    rw [if_neg q, if_pos (by decide)]
theorem xIsD_dig {lt : Nat → Int32} {len a : Nat} (h : ¬ xIsD lt len a = 0) : ¬ lt a < 48 ∧ ¬ 57 < lt a := by
  have w := xIsD_lt h
  unfold xIsD xAt at h
  rw [if_pos w] at h
  by_cases h1 : lt a < 48
  · rw [if_pos h1] at h; exact absurd rfl h
  · rw [if_neg h1] at h
    by_cases h2 : 57 < lt a
    · rw [if_pos h2] at h; exact absurd rfl h
    · exact ⟨h1, h2⟩
theorem xSc_d {lt : Nat → Int32} {len a : Nat} (h : a < len) (hd : ¬ xIsD lt len a = 0) : xSc lt len (len - a) a = xSc lt len (len - (a + 1)) (a + 1) := by
  rw [show len - a = (len - (a + 1)) + 1 by omega]; simp only [xSc]; rw [if_neg hd]
theorem xSc_n {lt : Nat → Int32} {len a : Nat} (hd : xIsD lt len a = 0) : ∀ n, xSc lt len n a = a
  | 0 => rfl
  | n + 1 => by simp only [xSc]; rw [if_pos hd]
theorem xFc_min (lt : Nat → Int32) (len : Nat) : ∀ n a, xFc lt len 1 n a = min n (xSc lt len (len - a) a - a)
  | 0, a => by simp [xFc]
  | n + 1, a => by
    simp only [xFc]
    rw [xFg_D]
    by_cases q : xIsD lt len a = 0
    · rw [if_pos q, xSc_n q]; omega
    · have h := xIsD_lt q
      have g := (xSc_le lt len (len - (a + 1)) (a + 1)).1
      rw [if_neg q, xFc_min lt len n (a + 1), xSc_d h q]
      omega
theorem xSc_dig {lt : Nat → Int32} {len : Nat} : ∀ n e i, e ≤ i → i < xSc lt len n e → ¬ xIsD lt len i = 0
  | 0, e, i, h1, h2 => by simp only [xSc] at h2; omega
  | n + 1, e, i, h1, h2 => by
    simp only [xSc] at h2
    by_cases q : xIsD lt len e = 0
    · rw [if_pos q] at h2; omega
    · rw [if_neg q] at h2
      by_cases r : i = e
      · rw [r]; exact q
      · exact xSc_dig n (e + 1) i (by omega) h2
/-- so many figures from a place on -/
def xCn (lt : Nat → Int32) (len a : Nat) : Nat := xSc lt len (len - a) a - a
theorem xCn_dig {lt : Nat → Int32} {len a i : Nat} (h : i < xCn lt len a) : ¬ xIsD lt len (a + i) = 0 := by
  unfold xCn at h
  exact xSc_dig (len - a) a (a + i) (by omega) (by omega)
theorem xCn_s {lt : Nat → Int32} {len a : Nat} (h : 0 < xCn lt len a) : xCn lt len (a + 1) + 1 = xCn lt len a := by
  have q : ¬ xIsD lt len a = 0 := xCn_dig (i := 0) h
  have w := xIsD_lt q
  have g := (xSc_le lt len (len - (a + 1)) (a + 1)).1
  unfold xCn
  rw [xSc_d w q]
  omega
theorem xCn_add {lt : Nat → Int32} {len a : Nat} : ∀ k, k ≤ xCn lt len a → xCn lt len (a + k) + k = xCn lt len a
  | 0, _ => rfl
  | k + 1, h => by
    have e := xCn_add (lt := lt) (len := len) (a := a) k (by omega)
    have s := xCn_s (lt := lt) (len := len) (a := a + k) (by omega)
    rw [show a + (k + 1) = a + k + 1 by omega]
    omega
theorem xCn_z {lt : Nat → Int32} {len a : Nat} (h : len ≤ a) : xCn lt len a = 0 := by
  unfold xCn
  rw [show len - a = 0 by omega]
  show a - a = 0
  omega
theorem xDe_Cn (lt : Nat → Int32) (len p : Nat) : xDe lt len p = xDp lt len p + xCn lt len (xDp lt len p) := by
  have g := (xSc_le lt len (len - xDp lt len p) (xDp lt len p)).1
  unfold xDe xCn
  omega
theorem xPf_1 (lt : Nat → Int32) (len : Nat) (l : Int32) (m a : Nat) : xPf lt len l m (a, 1) = (a + min m (xCn lt len a), if nI (min m (xCn lt len a)) < l then 0 else 1) := by
  unfold xPf
  dsimp only
  rw [if_neg (by decide : ¬ (1 : Int32) = 0), xFc_min]
  rfl
theorem xFc_0 (lt : Nat → Int32) (len : Nat) : ∀ n a, xFc lt len 0 n a = 0
  | 0, _ => rfl
  | n + 1, a => by simp only [xFc]; rw [if_pos (by unfold xFg; dsimp only; rw [if_pos rfl])]
theorem xPf_0 (lt : Nat → Int32) (len : Nat) (l : Int32) (m a : Nat) : xPf lt len l m (a, 0) = (a, 0) := by
  unfold xPf
  dsimp only
  rw [if_pos rfl, xFc_0]
  rfl
theorem xQ_0 (lt : Nat → Int32) (len a : Nat) : ∀ n, xQ lt len (a, 0) n = (a, 0)
  | 0 => rfl
  | n + 1 => by simp only [xQ]; rw [xQ_0 lt len a n, xPf_0]
theorem xQ_1 (lt : Nat → Int32) (len a : Nat) : ∀ n, xQ lt len (a, 1) n = (a + min n (xCn lt len a), 1)
  | 0 => by simp [xQ]
  | n + 1 => by
    simp only [xQ]
    rw [xQ_1 lt len a n, xPf_1]
    by_cases h : n < xCn lt len a
    · have e := xCn_add (lt := lt) (len := len) (a := a) n (by omega)
      rw [show min n (xCn lt len a) = n by omega, show min 1 (xCn lt len (a + n)) = 1 by omega, show min (n + 1) (xCn lt len a) = n + 1 by omega, if_neg (by decide)]
      rfl
    · have e := xCn_add (lt := lt) (len := len) (a := a) (xCn lt len a) (Nat.le_refl _)
      rw [show min n (xCn lt len a) = xCn lt len a by omega, show min 1 (xCn lt len (a + xCn lt len a)) = 0 by omega, show min (n + 1) (xCn lt len a) = xCn lt len a by omega, if_neg (by decide)]
      rfl
/-- the three figures that must be there -/
theorem x3f (lt : Nat → Int32) (len a : Nat) : xPf lt len 1 1 (xPf lt len 1 1 (xPf lt len 1 1 (a, 1))) = if xCn lt len a < 3 then (a + xCn lt len a, 0) else (a + 3, 1) := by
  have one : ∀ b, xPf lt len 1 1 (b, 1) = if xCn lt len b = 0 then (b, 0) else (b + 1, 1) := by
    intro b
    rw [xPf_1]
    by_cases h : xCn lt len b = 0
    · rw [h, if_pos rfl, if_pos (by decide)]; rfl
    · rw [show min 1 (xCn lt len b) = 1 by omega, if_neg h, if_neg (by decide)]
  rw [one]
  by_cases h0 : xCn lt len a = 0
  · rw [if_pos h0, xPf_0, xPf_0, if_pos (by omega), h0]; rfl
  · have e1 := xCn_add (lt := lt) (len := len) (a := a) 1 (by omega)
    rw [if_neg h0, one]
    by_cases h1 : xCn lt len (a + 1) = 0
    · rw [if_pos h1, xPf_0, if_pos (by omega), show xCn lt len a = 1 by omega]
    · have e2 := xCn_add (lt := lt) (len := len) (a := a) 2 (by omega)
      rw [if_neg h1, one, show a + 1 + 1 = a + 2 by omega]
      by_cases h2 : xCn lt len (a + 2) = 0
      · rw [if_pos h2, if_pos (by omega), show xCn lt len a = 2 by omega]
      · rw [if_neg h2, if_neg (by omega)]
/-- what ends a statement -/
theorem xTail {lt : Nat → Int32} {len d m n : Nat} (hn : n = xCn lt len d) (hd : d ≤ len + 2) :
    (m < n → xPe lt len (d + m, 1) = (d + m, 0)) ∧ (xAt lt len (d + n) = 59 → xPe lt len (d + n, 1) = (d + n + 1, 1)) ∧ (¬ xAt lt len (d + n) = 59 → xPe lt len (d + n, 1) = (d + n, 0)) := by
  have h1 : ¬ (1 : Int32) = 0 := by decide
  refine ⟨fun h => ?_, fun h => ?_, fun h => ?_⟩
  · have q := xCn_dig (lt := lt) (len := len) (a := d) (i := m) (by omega)
    have w := xIsD_lt q
    have g := (xIsD_dig q).2
    exact xPe_3 (p := (d + m, 1)) h1 w (fun e => by dsimp only at e; rw [e] at g; exact g (by decide))
  · unfold xAt at h
    by_cases w : d + n < len
    · rw [if_pos w] at h; exact xPe_4 (p := (d + n, 1)) h1 w h
    · rw [if_neg w] at h; exact absurd h (by decide)
  · unfold xAt at h
    by_cases w : d + n < len
    · rw [if_pos w] at h; exact xPe_3 (p := (d + n, 1)) h1 w h
    · exact xPe_2 (p := (d + n, 1)) h1 w
theorem xBeg {lt : Nat → Int32} {len a k : Nat} (ha : a < len) (hk : k < 6) (h : lt a = xBF k) (hb : ∀ i, i < k → ¬ lt a = xBF i) : xSs lt len xBF (a, 1) = nI k ∧ xPn lt len xBF 6 (a, 1) = (a + 1, 1) := by
  have e := xPn_at (lt := lt) (tn := len) (f := xBF) (n := 6) (p := (a, 1)) hk (xFst_at (xOp_t (show ¬ (1 : Int32) = 0 by decide) ha h) (fun i hi => xOp_f3 (hb i hi)) 6 hk)
  exact ⟨e.2, e.1⟩
theorem xBegNo {lt : Nat → Int32} {len a : Nat} (h : a < len → ∀ i, i < 6 → ¬ lt a = xBF i) : xSs lt len xBF (a, 1) = 0 ∧ xPn lt len xBF 6 (a, 1) = (a, 0) := by
  have e := xPn_no (lt := lt) (tn := len) (f := xBF) (n := 6) (p := (a, 1)) (xFst_none 6 (fun i hi => by
    by_cases w : a < len
    · exact xOp_f3 (h w i hi)
    · exact xOp_f2 w))
  exact ⟨e.2, e.1⟩
theorem xKin {lt : Nat → Int32} {len a k : Nat} (ha : a < len) (hk : k < 5) (h : lt a = xKF k) (hb : ∀ i, i < k → ¬ lt a = xKF i) : xPv lt len xKF 5 (a, 1) = nI k ∧ xPn lt len xKF 5 (a, 1) = (a + 1, 1) := by
  have e := xPn_at (lt := lt) (tn := len) (f := xKF) (n := 5) (p := (a, 1)) hk (xFst_at (xOp_t (show ¬ (1 : Int32) = 0 by decide) ha h) (fun i hi => xOp_f3 (hb i hi)) 5 hk)
  exact ⟨e.2, e.1⟩
theorem xKinNo {lt : Nat → Int32} {len a : Nat} (h : a < len → ∀ i, i < 5 → ¬ lt a = xKF i) : xPn lt len xKF 5 (a, 1) = (a, 0) := by
  have e := xPn_no (lt := lt) (tn := len) (f := xKF) (n := 5) (p := (a, 1)) (xFst_none 5 (fun i hi => by
    by_cases w : a < len
    · exact xOp_f3 (h w i hi)
    · exact xOp_f2 w))
  exact e.1
/-- letters are bytes -/
def xByt (lt : Nat → Int32) (len : Nat) : Prop := ∀ i, i < len → ∃ k, lt i = nI k ∧ k ≤ 255
theorem xI2c {k : Nat} (h : k ≤ 255) : ((nI k).toUInt32 % 65536).toInt32 = nI k := lg_i2c_word (by rw [nI_toInt (by omega)]; omega) (by rw [nI_toInt (by omega)]; omega)
/-- the kind's letter: as the class sees it, as the reference does -/
theorem xKd_in {lt : Nat → Int32} {len a : Nat} (hB : xByt lt len) : (xKd lt len a < 0 ∧ xPn lt len xKF 5 (a, 1) = (a, 0)) ∨ (¬ xKd lt len a < 0 ∧ xPn lt len xKF 5 (a, 1) = (a + 1, 1) ∧ xPv lt len xKF 5 (a, 1) = xKd lt len a ∧ a < len) := by
  by_cases w : a < len
  · obtain ⟨k, ek, hk⟩ := hB a w
    have ea : xAt lt len a = nI k := by unfold xAt; rw [if_pos w]; exact ek
    have e : xKd lt len a = xKi (nI k) := by unfold xKd; rw [ea, if_neg (nI_pos (by omega)), xI2c hk]
    rw [e]
    have key : ∀ i v, i < 5 → xKF i = v → (∀ j, j < i → ¬ v = xKF j) → lt a = v → (xPn lt len xKF 5 (a, 1) = (a + 1, 1) ∧ xPv lt len xKF 5 (a, 1) = nI i) := fun i v hi hv hj hl => by
      have q := xKin w hi (hl.trans hv.symm) (fun j hj2 => by rw [hl]; exact hj j hj2)
      exact ⟨q.2, q.1⟩
    by_cases h0 : lt a = 98
    · have q := key 0 98 (by decide) rfl (fun j hj => absurd hj (Nat.not_lt_zero j)) h0
      right; rw [← ek, h0]; exact ⟨by decide, q.1, q.2, w⟩
    by_cases h1 : lt a = 110
    · have q := key 1 110 (by decide) rfl (by decide) h1
      right; rw [← ek, h1]; exact ⟨by decide, q.1, q.2, w⟩
    by_cases h2 : lt a = 101
    · have q := key 2 101 (by decide) rfl (by decide) h2
      right; rw [← ek, h2]; exact ⟨by decide, q.1, q.2, w⟩
    by_cases h3 : lt a = 114
    · have q := key 3 114 (by decide) rfl (by decide) h3
      right; rw [← ek, h3]; exact ⟨by decide, q.1, q.2, w⟩
    by_cases h4 : lt a = 116
    · have q := key 4 116 (by decide) rfl (by decide) h4
      right; rw [← ek, h4]; exact ⟨by decide, q.1, q.2, w⟩
    left
    refine ⟨by rw [← ek]; unfold xKi; rw [if_neg h0, if_neg h1, if_neg h2, if_neg h3, if_neg h4]; decide, xKinNo (fun _ i hi => ?_)⟩
    rcases (show i = 0 ∨ i = 1 ∨ i = 2 ∨ i = 3 ∨ i = 4 by omega) with rfl | rfl | rfl | rfl | rfl
    · exact h0
    · exact h1
    · exact h2
    · exact h3
    · exact h4
  · left
    refine ⟨by unfold xKd xAt; rw [if_neg w, if_pos (by decide)]; decide, xKinNo (fun h => absurd h w)⟩
