/-! the reference: what a text that is read leaves of its row -/
theorem xPn_ge (lt : Nat → Int32) (tn : Nat) (f : Nat → Int32) (n : Nat) (p : xP) : p.1 ≤ (xPn lt tn f n p).1 := by
  unfold xPn
  by_cases q : xOk5 lt tn f n p < n
  · rw [if_pos q]; exact Nat.le_succ _
  · rw [if_neg q]; exact Nat.le_refl _
theorem xPf_ge (lt : Nat → Int32) (tn : Nat) (l : Int32) (m : Nat) (p : xP) : p.1 ≤ (xPf lt tn l m p).1 := Nat.le_add_right _ _
theorem xQ_ge (lt : Nat → Int32) (tn : Nat) (p : xP) : ∀ n, p.1 ≤ (xQ lt tn p n).1
  | 0 => Nat.le_refl _
  | n + 1 => Nat.le_trans (xQ_ge lt tn p n) (xPf_ge lt tn 0 1 _)
theorem x5p_ge (lt : Nat → Int32) (tn : Nat) (kf : Nat → Int32) (p : xP) : p.1 ≤ (x5p lt tn kf p).1 :=
  Nat.le_trans (xPn_ge lt tn kf 5 p) (Nat.le_trans (xPf_ge lt tn 1 1 _) (Nat.le_trans (xPf_ge lt tn 1 1 _) (xPf_ge lt tn 1 1 _)))
theorem xPf_w (lt : Nat → Int32) (tn : Nat) (l : Int32) (m : Nat) (p : xP) : (xPf lt tn l m p).2 = 0 ∨ (xPf lt tn l m p).2 = 1 := by
  unfold xPf
  dsimp only
  by_cases h : p.2 = 0
  · rw [if_pos h]; exact Or.inl rfl
  · rw [if_neg h]
    by_cases q : nI (xFc lt tn p.2 m p.1) < l
    · rw [if_pos q]; exact Or.inl rfl
    · rw [if_neg q]; exact Or.inr rfl
theorem xPe_cases (lt : Nat → Int32) (tn : Nat) (p : xP) : ((xPe lt tn p).1 = p.1 ∧ (xPe lt tn p).2 = 0) ∨ (p.1 < tn ∧ (xPe lt tn p).1 = p.1 + 1 ∧ (xPe lt tn p).2 = p.2) := by
  by_cases h1 : p.2 = 0
  · rw [xPe_1 h1]; exact Or.inl ⟨rfl, rfl⟩
  by_cases h2 : p.1 < tn
  · by_cases h3 : lt p.1 = 59
    · rw [xPe_4 h1 h2 h3]; exact Or.inr ⟨h2, rfl, rfl⟩
    · rw [xPe_3 h1 h2 h3]; exact Or.inl ⟨rfl, rfl⟩
  · rw [xPe_2 h1 h2]; exact Or.inl ⟨rfl, rfl⟩
/-- where the statement's parts end, ahead of its ";" -/
def xSq (lt : Nat → Int32) (tn : Nat) (bf kf : Nat → Int32) (p : xP) : xP := if xSs lt tn bf p = 3 then xQ lt tn (x5p lt tn kf (xPn lt tn bf 6 p)) 11 else xPf lt tn (xLl (xSs lt tn bf p)) (xLm9 (xSs lt tn bf p)) (xPn lt tn bf 6 p)
theorem xSq_ge (lt : Nat → Int32) (tn : Nat) (bf kf : Nat → Int32) (p : xP) : p.1 ≤ (xSq lt tn bf kf p).1 := by
  unfold xSq
  have h := xPn_ge lt tn bf 6 p
  by_cases q : xSs lt tn bf p = 3
  · rw [if_pos q]; exact Nat.le_trans h (Nat.le_trans (x5p_ge lt tn kf _) (xQ_ge lt tn _ 11))
  · rw [if_neg q]; exact Nat.le_trans h (xPf_ge lt tn _ _ _)
theorem xSq_le {lt : Nat → Int32} {tn : Nat} {bf kf : Nat → Int32} {p : xP} (h : p.1 ≤ tn) : (xSq lt tn bf kf p).1 ≤ tn := by
  unfold xSq
  have h := xPn_le (lt := lt) (f := bf) (n := 6) h
  by_cases q : xSs lt tn bf p = 3
  · rw [if_pos q]; exact xQ_le (xPf_le (xPf_le (xPf_le (xPn_le h)))) 11
  · rw [if_neg q]; exact xPf_le h
theorem xSq_w (lt : Nat → Int32) (tn : Nat) (bf kf : Nat → Int32) (p : xP) : (xSq lt tn bf kf p).2 = 0 ∨ (xSq lt tn bf kf p).2 = 1 := by
  unfold xSq
  by_cases q : xSs lt tn bf p = 3
  · rw [if_pos q]; exact xPf_w lt tn 0 1 _
  · rw [if_neg q]; exact xPf_w lt tn _ _ _
theorem xSp_adv {lt : Nat → Int32} {tn : Nat} {bf kf : Nat → Int32} {p : xP} (h : ¬ (xSp lt tn bf kf p).2 = 0) : p.1 < (xSp lt tn bf kf p).1 ∧ (xSp lt tn bf kf p).2 = 1 ∧ (xSp lt tn bf kf p).1 ≤ tn := by
  have e : xSp lt tn bf kf p = xPe lt tn (xSq lt tn bf kf p) := rfl
  rw [e] at h ⊢
  have hg := xSq_ge lt tn bf kf p
  rcases xPe_cases lt tn (xSq lt tn bf kf p) with ⟨_, h2⟩ | ⟨h1, h2, h3⟩
  · exact absurd h2 h
  · rw [h2, h3]
    rcases xSq_w lt tn bf kf p with w | w
    · rw [h3] at h; exact absurd w h
    · exact ⟨by omega, w, by omega⟩
theorem xSp_le {lt : Nat → Int32} {tn : Nat} {bf kf : Nat → Int32} {p : xP} (h : p.1 ≤ tn) : (xSp lt tn bf kf p).1 ≤ tn := by
  have e : xSp lt tn bf kf p = xPe lt tn (xSq lt tn bf kf p) := rfl
  rw [e]
  have hq := xSq_le (lt := lt) (bf := bf) (kf := kf) h
  rcases xPe_cases lt tn (xSq lt tn bf kf p) with ⟨h1, _⟩ | ⟨h1, h2, _⟩ <;> omega
/-- so many statements are there, and no more letters behind them -/
def xGd (lt : Nat → Int32) (tn : Nat) (bf kf : Nat → Int32) : Nat → xP → Prop
  | 0, p => ¬ p.1 < tn
  | n + 1, p => p.1 < tn → (¬ (xSp lt tn bf kf p).2 = 0 ∧ xGd lt tn bf kf n (xSp lt tn bf kf p))
def xB0 (s : Int32) : Int32 := if s = 0 then 1 else 0
def xB3 (s : Int32) : Int32 := if s = 3 then 1 else 0
def xN0 (s : Int32) : Nat := if s = 0 then 1 else 0
def xN3 (s : Int32) : Nat := if s = 3 then 1 else 0
theorem xN0_e (n : Nat) (s : Int32) : nI n + xB0 s = nI (n + xN0 s) := by
  unfold xB0 xN0
  by_cases h : s = 0
  · rw [if_pos h, if_pos h]; exact nI_1 n
  · rw [if_neg h, if_neg h]; exact Int32.add_zero _
theorem xN3_e (n : Nat) (s : Int32) : nI n + xB3 s = nI (n + xN3 s) := by
  unfold xB3 xN3
  by_cases h : s = 3
  · rw [if_pos h, if_pos h]; exact nI_1 n
  · rw [if_neg h, if_neg h]; exact Int32.add_zero _
/-- they are as they must be, one behind the other -/
def xVl (lt : Nat → Int32) (tn : Nat) (bf kf : Nat → Int32) : Nat → xP → Int32 → Int32 → Prop
  | 0, p, _, _ => ¬ p.1 < tn
  | n + 1, p, s, l => p.1 < tn → (¬ (xSp lt tn bf kf p).2 = 0 ∧ ¬ xMb (xSs lt tn bf p) (xSf lt tn bf kf (fun _ => 0) p) s l = 0 ∧ xVl lt tn bf kf n (xSp lt tn bf kf p) (s + xB0 (xSs lt tn bf p)) (l + xB3 (xSs lt tn bf p)))
theorem xFq_ag {lt : Nat → Int32} {tn : Nat} {p : xP} {g g' : Nat → Int32} (h : ∀ j, j < 4 → g j = g' j) : ∀ n i, i < 4 + n → xFq lt tn p g n i = xFq lt tn p g' n i
  | 0, i, hi => h i hi
  | n + 1, i, hi => by
    simp only [xFq]
    by_cases q : i = 3 + (n + 1)
    · rw [q, pk_us, pk_us]
    · rw [pk_un q, pk_un q]; exact xFq_ag h n i (by omega)
theorem xB4_ag (lt : Nat → Int32) (tn : Nat) (kf : Nat → Int32) (p : xP) (fa fa' : Nat → Int32) : ∀ j, j < 4 → xB4 lt tn kf p fa j = xB4 lt tn kf p fa' j := by
  intro j hj
  rcases (show j = 0 ∨ j = 1 ∨ j = 2 ∨ j = 3 by omega) with rfl | rfl | rfl | rfl <;> rfl
theorem xSf_3 {lt : Nat → Int32} {tn : Nat} {bf kf fa fa' : Nat → Int32} {p : xP} (h : xSs lt tn bf p = 3) : ∀ i, i < 15 → xSf lt tn bf kf fa p i = xSf lt tn bf kf fa' p i := by
  intro i hi
  unfold xSf
  rw [if_pos h, if_pos h]
  exact xFq_ag (xB4_ag lt tn kf _ fa fa') 11 i (by omega)
theorem xSf_0 {lt : Nat → Int32} {tn : Nat} {bf kf fa fa' : Nat → Int32} {p : xP} (h : ¬ xSs lt tn bf p = 3) : xSf lt tn bf kf fa p 0 = xSf lt tn bf kf fa' p 0 := by
  unfold xSf
  rw [if_neg h, if_neg h]
  rfl
theorem xSmF_ag {f g : Nat → Int32} {j : Nat} : ∀ n, (∀ i, i < n → f (j + i) = g (j + i)) → xSmF f j n = xSmF g j n
  | 0, _ => rfl
  | n + 1, h => by simp only [xSmF]; rw [xSmF_ag n (fun i hi => h i (by omega)), h n (by omega)]
theorem xMb_fa (lt : Nat → Int32) (tn : Nat) (bf kf fa fa' : Nat → Int32) (p : xP) (s l : Int32) : xMb (xSs lt tn bf p) (xSf lt tn bf kf fa p) s l = xMb (xSs lt tn bf p) (xSf lt tn bf kf fa' p) s l := by
  unfold xMb
  by_cases h : xSs lt tn bf p = 3
  · rw [if_pos h, if_pos h, xSf_3 (fa' := fa') h 1 (by decide), xSmF_ag 13 (fun i hi => xSf_3 (fa' := fa') h (2 + i) (by omega))]
  · rw [if_neg h, if_neg h, xSf_0 (fa' := fa') h]
/-! figures' values -/
theorem xFc_d {lt : Nat → Int32} {tn : Nat} {w : Int32} : ∀ n a i, i < xFc lt tn w n a → ¬ xFg lt tn (a + i, w) = 0
  | 0, _, _, h => absurd h (Nat.not_lt_zero _)
  | n + 1, a, i, h => by
    simp only [xFc] at h
    by_cases q : xFg lt tn (a, w) = 0
    · rw [if_pos q] at h; exact absurd h (Nat.not_lt_zero _)
    · rw [if_neg q] at h
      cases i with
      | zero => exact q
      | succ i =>
        have e := xFc_d (lt := lt) (tn := tn) (w := w) n (a + 1) i (by omega)
        rw [show a + (i + 1) = a + 1 + i by omega]; exact e
theorem xDig {x : Int32} (h1 : ¬ x < 48) (h2 : ¬ 57 < x) : ∃ d, d ≤ 9 ∧ x = nI (48 + d) := by
  rw [xi_lt] at h1 h2
  have e1 : (48 : Int32).toInt = 48 := by decide
  have e2 : (57 : Int32).toInt = 57 := by decide
  refine ⟨x.toInt.toNat - 48, by omega, ?_⟩
  rw [xi_eq, nI_toInt (by omega)]
  omega
theorem xFv_b {lt : Nat → Int32} {a : Nat} : ∀ k, k ≤ 3 → (∀ i, i < k → ¬ lt (a + i) < 48 ∧ ¬ 57 < lt (a + i)) → ∃ v, xFv lt a k = nI v ∧ v < 10 ^ k
  | 0, _, _ => ⟨0, rfl, by decide⟩
  | k + 1, hk, h => by
    obtain ⟨v, e, hv⟩ := xFv_b k (by omega) (fun i hi => h i (by omega))
    obtain ⟨d, hd, e2⟩ := xDig (h k (by omega)).1 (h k (by omega)).2
    refine ⟨10 * v + d, ?_, ?_⟩
    · show 10 * xFv lt a k + lt (a + k) - 48 = _
      rw [e, e2, show (10 : Int32) * nI v = nI (10 * v) from pk_mul 10 v, nI_add, show (48 : Int32) = nI 48 from rfl, pk_sub (by omega)]
      exact congrArg nI (by omega)
    · have : 10 ^ (k + 1) = 10 * 10 ^ k := by rw [Nat.pow_succ, Nat.mul_comm]
      omega
theorem xPw_b (lt : Nat → Int32) (tn m : Nat) (p : xP) (hm : m ≤ 3) (hp : p.1 ≤ tn) : ∃ v, xPw lt tn m p = nI v ∧ v ≤ 999 := by
  have hc := xFc_le lt tn p.2 m p.1 hp
  obtain ⟨v, e, hv⟩ := xFv_b (lt := lt) (a := p.1) (xFc lt tn p.2 m p.1) (by omega) (fun i hi => by
    have w := xFg_lt (xFc_d m p.1 i hi)
    exact ⟨w.2.2.1, w.2.2.2⟩)
  refine ⟨v, e, ?_⟩
  have : xFc lt tn p.2 m p.1 = 0 ∨ xFc lt tn p.2 m p.1 = 1 ∨ xFc lt tn p.2 m p.1 = 2 ∨ xFc lt tn p.2 m p.1 = 3 := by omega
  rcases this with w | w | w | w <;> rw [w] at hv <;> omega
theorem xSf_b {lt : Nat → Int32} {tn : Nat} {bf kf fa : Nat → Int32} {p : xP} (h : ¬ xSs lt tn bf p = 3) (hp : p.1 ≤ tn) : ∃ v, xSf lt tn bf kf fa p 0 = nI v ∧ v ≤ 999 := by
  unfold xSf
  rw [if_neg h, pk_us]
  exact xPw_b lt tn _ _ (xLm9_le _) (xPn_le hp)
/-! the row keeps to what it must -/
def xVd (nw : Nat → Int32) (st ln : Nat) : Prop := (nw 0 = nI st ∧ 1 ≤ st ∧ st ≤ 7) ∧ (nw 3 = nI ln ∧ ln ≤ 3) ∧ (∃ v, nw 2 = nI v ∧ 20 ≤ v ∧ v ≤ 200) ∧ (∃ v, nw 1 = nI v ∧ v ≤ 999) ∧ (∀ j, 1 ≤ j → j < st → ∃ v, nw (10 + j) = nI v ∧ v ≤ 999) ∧ (∀ j, j < ln → ¬ xWs (fun i => nw (20 + 16 * j + i)) 0 = 0)
theorem xAc2_ag {f g : Nat → Int32} {a : Int32} {j : Nat} : ∀ n, (∀ i, i < n → f (j + i) = g (j + i)) → xAc2 a f j n = xAc2 a g j n
  | 0, _ => rfl
  | n + 1, h => by simp only [xAc2]; rw [xAc2_ag n (fun i hi => h i (by omega)), h n (by omega)]
theorem xWs_ag {f g : Nat → Int32} (h : ∀ i, i < 15 → f i = g i) : xWs f 0 = xWs g 0 := by
  unfold xWs
  rw [show xWt f 12 = xWt g 12 from by show f 2 = g 2; exact h 2 (by decide)]
  apply xAc2_ag
  intro i hi
  simp only [xWt]
  rw [if_neg (by omega), if_neg (by omega)]
  exact h _ (by omega)
theorem xWs_sum (f : Nat → Int32) : xWs f 0 = xSmF f 2 13 := by
  have e : xSmF f 2 13 = 0 + f 2 + f 3 + f 4 + f 5 + f 6 + f 7 + f 8 + f 9 + f 10 + f 11 + f 12 + f 13 + f 14 := rfl
  rw [e, Int32.zero_add]
  rfl
theorem xMb_3 {srt : Int32} {f : Nat → Int32} {s l : Int32} (h : ¬ xMb srt f s l = 0) (h3 : srt = 3) : 0 < xSmF f 2 13 ∧ l < 3 := by
  unfold xMb at h
  rw [if_pos h3] at h
  by_cases h1 : 0 < f 1
  · rw [if_pos h1] at h
    by_cases h2 : 0 < xSmF f 2 13
    · rw [if_pos h2] at h
      by_cases h4 : l < 3
      · exact ⟨h2, h4⟩
      · rw [if_neg h4] at h; exact absurd rfl h
    · rw [if_neg h2] at h; exact absurd rfl h
  · rw [if_neg h1] at h; exact absurd rfl h
theorem xMb_0 {srt : Int32} {f : Nat → Int32} {s l : Int32} (h : ¬ xMb srt f s l = 0) (h0 : srt = 0) : s < 7 := by
  unfold xMb at h
  rw [if_neg (by rw [h0]; decide), if_pos h0] at h
  by_cases h1 : 0 < f 0
  · rw [if_pos h1] at h
    by_cases h2 : s < 7
    · exact h2
    · rw [if_neg h2] at h; exact absurd rfl h
  · rw [if_neg h1] at h; exact absurd rfl h
theorem xMb_2 {srt : Int32} {f : Nat → Int32} {s l : Int32} (h : ¬ xMb srt f s l = 0) (h0 : srt = 2) : ¬ f 0 < 20 ∧ ¬ 200 < f 0 := by
  unfold xMb at h
  rw [if_neg (by rw [h0]; decide), if_neg (by rw [h0]; decide), if_pos h0] at h
  by_cases h1 : f 0 < 20
  · rw [if_pos h1] at h; exact absurd rfl h
  · rw [if_neg h1] at h
    by_cases h2 : 200 < f 0
    · rw [if_pos h2] at h; exact absurd rfl h
    · exact ⟨h1, h2⟩
theorem xVd_cm {nw f : Nat → Int32} {st ln : Nat} {srt : Int32} (hV : xVd nw st ln) (hM : ¬ xMb srt f (nI st) (nI ln) = 0) (hf : ¬ srt = 3 → ∃ v, f 0 = nI v ∧ v ≤ 999) : xVd (xCm srt f nw st ln) (st + xN0 srt) (ln + xN3 srt) := by
  obtain ⟨⟨a1, a2, a3⟩, ⟨b1, b2⟩, ⟨v2, c1, c2, c3⟩, ⟨v1, d1, d2⟩, e, w⟩ := hV
  unfold xCm
  by_cases h0 : srt = 0
  · have hs := (nI_ltI (a := st) (b := 7) (by omega) (by decide)).mp (xMb_0 hM h0)
    obtain ⟨v, ef, hv⟩ := hf (by rw [h0]; decide)
    rw [if_pos h0, xN0, if_pos h0, xN3, if_neg (by rw [h0]; decide)]
    refine ⟨⟨pk_us, by omega, by omega⟩, ⟨?_, b2⟩, ⟨v2, ?_, c2, c3⟩, ⟨v1, ?_, d2⟩, ?_, ?_⟩
    · rw [pk_un (by omega), pk_un (by omega)]; exact b1
    · rw [pk_un (by omega), pk_un (by omega)]; exact c1
    · rw [pk_un (by omega), pk_un (by omega)]; exact d1
    · intro j hj1 hj2
      rw [pk_un (by omega)]
      by_cases q : j = st
      · rw [q, pk_us]; exact ⟨v, ef, hv⟩
      · rw [pk_un (by omega)]; exact e j hj1 (by omega)
    · intro j hj
      rw [xWs_ag (g := fun i => nw (20 + 16 * j + i)) (fun i hi => by show upd (upd nw (10 + st) (f 0)) 0 (nI (st + 1)) (20 + 16 * j + i) = _; rw [pk_un (by omega), pk_un (by omega)])]
      exact w j hj
  rw [if_neg h0, xN0, if_neg h0]
  have hw : ∀ (k : Nat) (x : Int32) (hk : k < 10), ∀ j, j < ln → ¬ xWs (fun i => upd nw k x (20 + 16 * j + i)) 0 = 0 := by
    intro k x hk j hj
    rw [xWs_ag (g := fun i => nw (20 + 16 * j + i)) (fun i hi => pk_un (by omega))]
    exact w j hj
  by_cases h1 : srt = 1
  · obtain ⟨v, ef, hv⟩ := hf (by rw [h1]; decide)
    rw [if_pos h1, xN3, if_neg (by rw [h1]; decide)]
    exact ⟨⟨by rw [pk_un (by decide)]; exact a1, a2, a3⟩, ⟨by rw [pk_un (by decide)]; exact b1, b2⟩, ⟨v2, by rw [pk_un (by decide)]; exact c1, c2, c3⟩, ⟨v, by rw [pk_us]; exact ef, hv⟩, fun j j1 j2 => by rw [pk_un (by omega)]; exact e j j1 j2, hw 1 _ (by decide)⟩
  rw [if_neg h1]
  by_cases h2 : srt = 2
  · obtain ⟨v, ef, hv⟩ := hf (by rw [h2]; decide)
    obtain ⟨g1, g2⟩ := xMb_2 hM h2
    rw [ef] at g1 g2
    have g1 := mt (nI_ltI (a := v) (b := 20) (by omega) (by decide)).mpr g1
    have g2 := mt (nI_ltI (a := 200) (b := v) (by decide) (by omega)).mpr g2
    rw [if_pos h2, xN3, if_neg (by rw [h2]; decide)]
    exact ⟨⟨by rw [pk_un (by decide)]; exact a1, a2, a3⟩, ⟨by rw [pk_un (by decide)]; exact b1, b2⟩, ⟨v, by rw [pk_us]; exact ef, by omega, by omega⟩, ⟨v1, by rw [pk_un (by decide)]; exact d1, d2⟩, fun j j1 j2 => by rw [pk_un (by omega)]; exact e j j1 j2, hw 2 _ (by decide)⟩
  rw [if_neg h2]
  by_cases h3 : srt = 3
  · obtain ⟨g1, g2⟩ := xMb_3 hM h3
    have g2 := (nI_ltI (a := ln) (b := 3) (by omega) (by decide)).mp g2
    rw [if_pos h3, xN3, if_pos h3]
    have lo : ∀ i, i < 20 → ¬ i = 3 → upd (xCw f nw (20 + 16 * ln) 15) 3 (nI (ln + 1)) i = nw i := fun i hi h => by rw [pk_un h]; exact xCw_lo f nw (by omega) 15
    refine ⟨⟨by rw [lo 0 (by decide) (by decide)]; exact a1, a2, a3⟩, ⟨pk_us, by omega⟩, ⟨v2, by rw [lo 2 (by decide) (by decide)]; exact c1, c2, c3⟩, ⟨v1, by rw [lo 1 (by decide) (by decide)]; exact d1, d2⟩, fun j j1 j2 => by rw [lo (10 + j) (by omega) (by omega)]; exact e j j1 j2, ?_⟩
    intro j hj
    by_cases q : j = ln
    · subst q
      rw [xWs_ag (g := f) (fun i hi => by show upd (xCw f nw (20 + 16 * j) 15) 3 (nI (j + 1)) (20 + 16 * j + i) = _; rw [pk_un (by omega)]; exact xCw_in f nw 15 i hi), xWs_sum]
      exact xpos_ne g1
    · rw [xWs_ag (g := fun i => nw (20 + 16 * j + i)) (fun i hi => by show upd (xCw f nw (20 + 16 * ln) 15) 3 (nI (ln + 1)) (20 + 16 * j + i) = _; rw [pk_un (by omega)]; exact xCw_lo f nw (by omega) 15)]
      exact w j (by omega)
  rw [if_neg h3, xN3, if_neg h3]
  by_cases h4 : srt = 4
  · rw [if_pos h4]
    exact ⟨⟨by rw [pk_un (by decide)]; exact a1, a2, a3⟩, ⟨by rw [pk_un (by decide)]; exact b1, b2⟩, ⟨v2, by rw [pk_un (by decide)]; exact c1, c2, c3⟩, ⟨v1, by rw [pk_un (by decide)]; exact d1, d2⟩, fun j j1 j2 => by rw [pk_un (by omega)]; exact e j j1 j2, hw 4 _ (by decide)⟩
  · rw [if_neg h4]
    exact ⟨⟨by rw [pk_un (by decide)]; exact a1, a2, a3⟩, ⟨by rw [pk_un (by decide)]; exact b1, b2⟩, ⟨v2, by rw [pk_un (by decide)]; exact c1, c2, c3⟩, ⟨v1, by rw [pk_un (by decide)]; exact d1, d2⟩, fun j j1 j2 => by rw [pk_un (by omega)]; exact e j j1 j2, hw 5 _ (by decide)⟩
theorem xGd_s {lt : Nat → Int32} {tn : Nat} {bf kf : Nat → Int32} {u : Nat} {p : xP} (h : xGd lt tn bf kf u p) (hp : p.1 < tn) : ∃ v, u = v + 1 ∧ (¬ (xSp lt tn bf kf p).2 = 0 ∧ xGd lt tn bf kf v (xSp lt tn bf kf p)) := by
  cases u with
  | zero => exact absurd hp h
  | succ v => exact ⟨v, rfl, h hp⟩
theorem xVl_s {lt : Nat → Int32} {tn : Nat} {bf kf : Nat → Int32} {u : Nat} {p : xP} {s l : Int32} (h : xVl lt tn bf kf u p s l) (hp : p.1 < tn) : ∃ v, u = v + 1 ∧ (¬ (xSp lt tn bf kf p).2 = 0 ∧ ¬ xMb (xSs lt tn bf p) (xSf lt tn bf kf (fun _ => 0) p) s l = 0 ∧ xVl lt tn bf kf v (xSp lt tn bf kf p) (s + xB0 (xSs lt tn bf p)) (l + xB3 (xSs lt tn bf p))) := by
  cases u with
  | zero => exact absurd hp h
  | succ v => exact ⟨v, rfl, h hp⟩
