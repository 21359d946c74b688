/-! the reference: letters read; a place and whether all is well -/
abbrev xP : Type := Nat × Int32
def xFg (lt : Nat → Int32) (tn : Nat) (p : xP) : Int32 := if p.2 = 0 then 0 else if p.1 < tn then (if lt p.1 < 48 then 0 else if 57 < lt p.1 then 0 else 1) else 0
/-- how many figures from a place on, so many looked at at most -/
def xFc (lt : Nat → Int32) (tn : Nat) (w : Int32) : Nat → Nat → Nat
  | 0, _ => 0
  | n + 1, a => if xFg lt tn (a, w) = 0 then 0 else xFc lt tn w n (a + 1) + 1
def xFv (lt : Nat → Int32) (a : Nat) : Nat → Int32
  | 0 => 0
  | k + 1 => 10 * xFv lt a k + lt (a + k) - 48
def xPf (lt : Nat → Int32) (tn : Nat) (l : Int32) (m : Nat) (p : xP) : xP := (p.1 + xFc lt tn p.2 m p.1, if p.2 = 0 then 0 else if nI (xFc lt tn p.2 m p.1) < l then 0 else 1)
def xPw (lt : Nat → Int32) (tn : Nat) (m : Nat) (p : xP) : Int32 := xFv lt p.1 (xFc lt tn p.2 m p.1)
theorem xFg_lt {lt : Nat → Int32} {tn : Nat} {p : xP} (h : ¬ xFg lt tn p = 0) : ¬ p.2 = 0 ∧ p.1 < tn ∧ ¬ lt p.1 < 48 ∧ ¬ 57 < lt p.1 := by
  unfold xFg at h
  by_cases h1 : p.2 = 0
  · rw [if_pos h1] at h; exact absurd rfl h
  rw [if_neg h1] at h
  by_cases h2 : p.1 < tn
  · rw [if_pos h2] at h
    by_cases h3 : lt p.1 < 48
    · rw [if_pos h3] at h; exact absurd rfl h
    rw [if_neg h3] at h
    by_cases h4 : 57 < lt p.1
    · rw [if_pos h4] at h; exact absurd rfl h
    exact ⟨h1, h2, h3, h4⟩
  · rw [if_neg h2] at h; exact absurd rfl h
theorem xFc_le (lt : Nat → Int32) (tn : Nat) (w : Int32) : ∀ n a, a ≤ tn → xFc lt tn w n a ≤ n ∧ a + xFc lt tn w n a ≤ tn
  | 0, a, h => ⟨Nat.le_refl _, h⟩
  | n + 1, a, h => by
    simp only [xFc]
    by_cases q : xFg lt tn (a, w) = 0
    · rw [if_pos q]; exact ⟨by omega, by omega⟩
    · rw [if_neg q]
      have h2 := (xFg_lt q).2.1
      have w := xFc_le lt tn w n (a + 1) h2
      omega
theorem xPf_le {lt : Nat → Int32} {tn : Nat} {l : Int32} {m : Nat} {p : xP} (h : p.1 ≤ tn) : (xPf lt tn l m p).1 ≤ tn := (xFc_le lt tn p.2 m p.1 h).2
theorem xFc_s {lt : Nat → Int32} {tn : Nat} {w : Int32} {m a k : Nat} (hk : k < m) (h : ¬ xFg lt tn (a + k, w) = 0) (e : xFc lt tn w (m - k) (a + k) + k = xFc lt tn w m a) : xFc lt tn w (m - (k + 1)) (a + (k + 1)) + (k + 1) = xFc lt tn w m a := by
  rw [← e, show m - k = (m - (k + 1)) + 1 by omega]; simp only [xFc]; rw [if_neg h, show a + k + 1 = a + (k + 1) by omega]; omega
theorem xFc_z {lt : Nat → Int32} {tn : Nat} {w : Int32} {m a k : Nat} (hk : k = m) (e : xFc lt tn w (m - k) (a + k) + k = xFc lt tn w m a) : xFc lt tn w m a = k := by
  rw [← e, show m - k = 0 by omega]; simp [xFc]
theorem xFc_n {lt : Nat → Int32} {tn : Nat} {w : Int32} {m a k : Nat} (hk : k < m) (h : xFg lt tn (a + k, w) = 0) (e : xFc lt tn w (m - k) (a + k) + k = xFc lt tn w m a) : xFc lt tn w m a = k := by
  rw [← e, show m - k = (m - (k + 1)) + 1 by omega]; simp only [xFc]; rw [if_pos h]; omega
/-- one of some letters -/
def xOp (lt : Nat → Int32) (tn : Nat) (f : Nat → Int32) (p : xP) (k : Nat) : Bool := !decide (p.2 = 0) && (decide (p.1 < tn) && decide (lt p.1 = f k))
def xOk5 (lt : Nat → Int32) (tn : Nat) (f : Nat → Int32) (n : Nat) (p : xP) : Nat := xFst (xOp lt tn f p) n
def xPn (lt : Nat → Int32) (tn : Nat) (f : Nat → Int32) (n : Nat) (p : xP) : xP := if xOk5 lt tn f n p < n then (p.1 + 1, p.2) else (p.1, 0)
def xPv (lt : Nat → Int32) (tn : Nat) (f : Nat → Int32) (n : Nat) (p : xP) : Int32 := if xOk5 lt tn f n p < n then nI (xOk5 lt tn f n p) else 0
theorem xOp_f1 {lt : Nat → Int32} {tn : Nat} {f : Nat → Int32} {p : xP} {k : Nat} (h : p.2 = 0) : xOp lt tn f p k = false := by simp [xOp, h]
theorem xOp_f2 {lt : Nat → Int32} {tn : Nat} {f : Nat → Int32} {p : xP} {k : Nat} (h : ¬ p.1 < tn) : xOp lt tn f p k = false := by simp [xOp, h]
theorem xOp_f3 {lt : Nat → Int32} {tn : Nat} {f : Nat → Int32} {p : xP} {k : Nat} (h : ¬ lt p.1 = f k) : xOp lt tn f p k = false := by simp [xOp, h]
theorem xOp_t {lt : Nat → Int32} {tn : Nat} {f : Nat → Int32} {p : xP} {k : Nat} (h1 : ¬ p.2 = 0) (h2 : p.1 < tn) (h3 : lt p.1 = f k) : xOp lt tn f p k = true := by simp [xOp, h1, h2, h3]
theorem xPn_at {lt : Nat → Int32} {tn : Nat} {f : Nat → Int32} {n k : Nat} {p : xP} (hk : k < n) (h : xOk5 lt tn f n p = k) : xPn lt tn f n p = (p.1 + 1, p.2) ∧ xPv lt tn f n p = nI k := by
  unfold xPn xPv; rw [h, if_pos hk, if_pos hk]; exact ⟨rfl, rfl⟩
theorem xPn_no {lt : Nat → Int32} {tn : Nat} {f : Nat → Int32} {n : Nat} {p : xP} (h : xOk5 lt tn f n p = n) : xPn lt tn f n p = (p.1, 0) ∧ xPv lt tn f n p = 0 := by
  unfold xPn xPv; rw [h, if_neg (Nat.lt_irrefl n), if_neg (Nat.lt_irrefl n)]; exact ⟨rfl, rfl⟩
theorem xFst_lt {q : Nat → Bool} : ∀ n, xFst q n < n → q (xFst q n) = true
  | 0, h => absurd h (Nat.not_lt_zero _)
  | n + 1, h => by
    simp only [xFst] at h ⊢
    by_cases h1 : xFst q n < n
    · rw [if_pos h1] at h ⊢; exact xFst_lt n h1
    · rw [if_neg h1] at h ⊢
      by_cases h2 : q n = true
      · rw [if_pos h2] at h ⊢; exact h2
      · rw [if_neg h2] at h; exact absurd h (Nat.lt_irrefl _)
theorem xPn_le {lt : Nat → Int32} {tn : Nat} {f : Nat → Int32} {n : Nat} {p : xP} (h : p.1 ≤ tn) : (xPn lt tn f n p).1 ≤ tn := by
  unfold xPn
  by_cases q : xOk5 lt tn f n p < n
  · rw [if_pos q]
    have w := xFst_lt n q
    simp only [xOp, Bool.and_eq_true, decide_eq_true_eq] at w
    exact w.2.1
  · rw [if_neg q]; exact h
/-- a statement's end -/
def xPe (lt : Nat → Int32) (tn : Nat) (p : xP) : xP := if p.2 = 0 then (p.1, 0) else if p.1 < tn then (if lt p.1 = 59 then (p.1 + 1, p.2) else (p.1, 0)) else (p.1, 0)
def xQ (lt : Nat → Int32) (tn : Nat) (p : xP) : Nat → xP
  | 0 => p
  | n + 1 => xPf lt tn 0 1 (xQ lt tn p n)
theorem xQ_le {lt : Nat → Int32} {tn : Nat} {p : xP} (h : p.1 ≤ tn) : ∀ n, (xQ lt tn p n).1 ≤ tn
  | 0 => h
  | n + 1 => xPf_le (xQ_le h n)
def x5p (lt : Nat → Int32) (tn : Nat) (kf : Nat → Int32) (p : xP) : xP := xPf lt tn 1 1 (xPf lt tn 1 1 (xPf lt tn 1 1 (xPn lt tn kf 5 p)))
def xB4 (lt : Nat → Int32) (tn : Nat) (kf : Nat → Int32) (p : xP) (fa : Nat → Int32) : Nat → Int32 :=
  upd (upd (upd (upd fa 0 (xPv lt tn kf 5 p)) 1 (xPw lt tn 1 (xPn lt tn kf 5 p))) 2 (xPw lt tn 1 (xPf lt tn 1 1 (xPn lt tn kf 5 p)))) 3 (xPw lt tn 1 (xPf lt tn 1 1 (xPf lt tn 1 1 (xPn lt tn kf 5 p))))
def xFq (lt : Nat → Int32) (tn : Nat) (p : xP) (g : Nat → Int32) : Nat → Nat → Int32
  | 0 => g
  | n + 1 => upd (xFq lt tn p g n) (3 + (n + 1)) (xPw lt tn 1 (xQ lt tn p n))
def xSs (lt : Nat → Int32) (tn : Nat) (bf : Nat → Int32) (p : xP) : Int32 := xPv lt tn bf 6 p
def xLl (s : Int32) : Int32 := if s = 2 then 2 else 1
def xLm9 (s : Int32) : Nat := if s = 4 then 1 else if s = 5 then 2 else 3
theorem xLm9_le (s : Int32) : xLm9 s ≤ 3 := by
  unfold xLm9
  repeat' split
  all_goals decide
def xSp (lt : Nat → Int32) (tn : Nat) (bf kf : Nat → Int32) (p : xP) : xP :=
  xPe lt tn (if xSs lt tn bf p = 3 then xQ lt tn (x5p lt tn kf (xPn lt tn bf 6 p)) 11 else xPf lt tn (xLl (xSs lt tn bf p)) (xLm9 (xSs lt tn bf p)) (xPn lt tn bf 6 p))
def xSf (lt : Nat → Int32) (tn : Nat) (bf kf fa : Nat → Int32) (p : xP) : Nat → Int32 :=
  if xSs lt tn bf p = 3 then xFq lt tn (x5p lt tn kf (xPn lt tn bf 6 p)) (xB4 lt tn kf (xPn lt tn bf 6 p) fa) 11 else upd fa 0 (xPw lt tn (xLm9 (xSs lt tn bf p)) (xPn lt tn bf 6 p))
theorem xPe_1 {lt : Nat → Int32} {tn : Nat} {p : xP} (h : p.2 = 0) : xPe lt tn p = (p.1, 0) := if_pos h
theorem xPe_2 {lt : Nat → Int32} {tn : Nat} {p : xP} (h : ¬ p.2 = 0) (h2 : ¬ p.1 < tn) : xPe lt tn p = (p.1, 0) := by rw [xPe, if_neg h, if_neg h2]
theorem xPe_3 {lt : Nat → Int32} {tn : Nat} {p : xP} (h : ¬ p.2 = 0) (h2 : p.1 < tn) (h3 : ¬ lt p.1 = 59) : xPe lt tn p = (p.1, 0) := by rw [xPe, if_neg h, if_pos h2, if_neg h3]
theorem xPe_4 {lt : Nat → Int32} {tn : Nat} {p : xP} (h : ¬ p.2 = 0) (h2 : p.1 < tn) (h3 : lt p.1 = 59) : xPe lt tn p = (p.1 + 1, p.2) := by rw [xPe, if_neg h, if_pos h2, if_pos h3]
/-- as it must be -/
def xMb (srt : Int32) (f : Nat → Int32) (s l : Int32) : Int32 :=
  if srt = 3 then (if 0 < f 1 then (if 0 < xSmF f 2 13 then (if l < 3 then 1 else 0) else 0) else 0)
  else if srt = 0 then (if 0 < f 0 then (if s < 7 then 1 else 0) else 0)
  else if srt = 2 then (if f 0 < 20 then 0 else if 200 < f 0 then 0 else 1)
  else if srt = 5 then (if f 0 < 1 then 0 else if 60 < f 0 then 0 else 1) else 1
def xCw (f nw : Nat → Int32) (b : Nat) : Nat → Nat → Int32
  | 0 => nw
  | n + 1 => upd (xCw f nw b n) (b + n) (f n)
theorem xCw_lo (f nw : Nat → Int32) {b i : Nat} (h : i < b) : ∀ n, xCw f nw b n i = nw i
  | 0 => rfl
  | n + 1 => by simp only [xCw]; rw [pk_un (by omega)]; exact xCw_lo f nw h n
theorem xCw_in (f nw : Nat → Int32) {b : Nat} : ∀ n i, i < n → xCw f nw b n (b + i) = f i
  | 0, i, h => absurd h (Nat.not_lt_zero i)
  | n + 1, i, h => by
    simp only [xCw]
    by_cases q : i = n
    · subst q; exact pk_us
    · rw [pk_un (by omega)]; exact xCw_in f nw n i (by omega)
theorem xCw_hi (f nw : Nat → Int32) {b i : Nat} : ∀ n, b + n ≤ i → xCw f nw b n i = nw i
  | 0, _ => rfl
  | n + 1, h => by simp only [xCw]; rw [pk_un (by omega)]; exact xCw_hi f nw n (by omega)
def xCm (srt : Int32) (f nw : Nat → Int32) (st ln : Nat) : Nat → Int32 :=
  if srt = 0 then upd (upd nw (10 + st) (f 0)) 0 (nI (st + 1)) else if srt = 1 then upd nw 1 (f 0) else if srt = 2 then upd nw 2 (f 0)
  else if srt = 3 then upd (xCw f nw (20 + 16 * ln) 15) 3 (nI (ln + 1)) else if srt = 4 then upd nw 4 (f 0) else upd nw 5 (f 0)
