/-! the class: a text read onto a road -/
def xWp2 (lt : Nat → Int32) (len p : Nat) : Int32 :=
  if sMd (xAt lt len p) < nI (xDe lt len p - xDp lt len p) then nI (xDp lt len p) + sMd (xAt lt len p)
  else if nI (xDe lt len p - xDp lt len p) < sLd (xAt lt len p) then nI (xDe lt len p)
  else if xAt lt len (xDe lt len p) = 59 then -1 else nI (xDe lt len p)
def xWp (lt : Nat → Int32) (len p : Nat) : Int32 :=
  if sMd (xAt lt len p) = 0 then nI p
  else if nI (p + 1) < nI (xDp lt len p) then (if xKd lt len (p + 1) < 0 then nI (p + 1) else xWp2 lt len p) else xWp2 lt len p
def xFw (lt : Nat → Int32) (len : Nat) : Nat → Nat → Int32 → Int32
  | 0, _, w => w
  | n + 1, p, w => if p < len then (if w < 0 then xFw lt len n (xDe lt len p + 1) (xWp lt len p) else w) else w
theorem xFw_s {lt : Nat → Int32} {len i p : Nat} {w : Int32} (hi : i < len) (hp : p < len) (hw : w < 0) : xFw lt len (len - (i + 1)) (xDe lt len p + 1) (xWp lt len p) = xFw lt len (len - i) p w := by
  rw [show len - i = (len - (i + 1)) + 1 by omega]; simp only [xFw]; rw [if_pos hp, if_pos hw]
theorem xFw_z {lt : Nat → Int32} {len i p : Nat} {w : Int32} (hi : len ≤ i) : xFw lt len (len - i) p w = w := by rw [show len - i = 0 by omega]; rfl
theorem xFw_p {lt : Nat → Int32} {len i p : Nat} {w : Int32} (hi : i < len) (hp : ¬ p < len) : xFw lt len (len - i) p w = w := by
  rw [show len - i = (len - (i + 1)) + 1 by omega]; simp only [xFw]; rw [if_neg hp]
theorem xFw_w {lt : Nat → Int32} {len i p : Nat} {w : Int32} (hi : i < len) (hp : p < len) (hw : ¬ w < 0) : xFw lt len (len - i) p w = w := by
  rw [show len - i = (len - (i + 1)) + 1 by omega]; simp only [xFw]; rw [if_pos hp, if_neg hw]
def xF0 (lt : Nat → Int32) (len : Nat) : Int32 := xFw lt len len (xDe lt len 0 + 1) (xWp lt len 0)
/-- a road's values: how many stops, lines; home, pace, sight, limit; legs; by line: kind, run, never, chances -/
abbrev xT : Type := Nat × Nat × Int32 × Int32 × Int32 × Int32 × (Nat → Int32) × (Nat → Int32) × (Nat → Int32) × (Nat → Int32) × (Nat → Nat → Int32)
def xCf (lt : Nat → Int32) (len p : Nat) : Nat → Int32 := fun t => if nI t < nI (xDe lt len p) - nI (xDp lt len p) - 2 then xDg lt len (xDp lt len p + 2 + t) else 0
theorem xCf_t {lt : Nat → Int32} {len p t : Nat} (h : nI t < nI (xDe lt len p) - nI (xDp lt len p) - 2) : xDg lt len (xDp lt len p + 2 + t) = xCf lt len p t := (if_pos h).symm
theorem xCf_f {lt : Nat → Int32} {len p t : Nat} (h : ¬ nI t < nI (xDe lt len p) - nI (xDp lt len p) - 2) : 0 = xCf lt len p t := (if_neg h).symm
def xUc (ch : Nat → Nat → Int32) (n : Nat) (f : Nat → Int32) : Nat → Nat → Int32 := fun j => if j = n then f else ch j
def xTL (lt : Nat → Int32) (len p : Nat) : xT → xT × Int32
  | (st, ln, ho, pa, si, li, lg, ki, ru, ne, ch) =>
    if ln < 3 then ((st, ln + 1, ho, pa, si, li, lg, upd ki ln (xKd lt len (p + 1)), upd ru ln (xDg lt len (xDp lt len p)), upd ne ln (xDg lt len (xDp lt len p + 1)), xUc ch ln (xCp (xCf lt len p) (ch ln) 12)),
      if 0 < xDg lt len (xDp lt len p) then (if 0 < xSm (xCp (xCf lt len p) (ch ln) 12) 12 + xDg lt len (xDp lt len p + 1) then 1 else 0) else 0)
    else ((st, ln, ho, pa, si, li, lg, ki, ru, ne, ch), 0)
def xTS (lt : Nat → Int32) (len p : Nat) : xT → xT × Int32
  | (st, ln, ho, pa, si, li, lg, ki, ru, ne, ch) =>
    if xAt lt len p = 115 then ((xAsN st (xNm lt len p), ln, ho, pa, si, li, xAsL st (xNm lt len p) lg, ki, ru, ne, ch), sAs st (xNm lt len p))
    else if xAt lt len p = 104 then ((st, ln, xCg 0 (xNm lt len p) 0 ho, xCg 0 (xNm lt len p) 1 pa, xCg 0 (xNm lt len p) 2 si, xCl 0 (xNm lt len p) li, lg, ki, ru, ne, ch), sCh 0 (xNm lt len p))
    else if xAt lt len p = 112 then ((st, ln, xCg 1 (xNm lt len p) 0 ho, xCg 1 (xNm lt len p) 1 pa, xCg 1 (xNm lt len p) 2 si, xCl 1 (xNm lt len p) li, lg, ki, ru, ne, ch), sCh 1 (xNm lt len p))
    else if xAt lt len p = 101 then ((st, ln, xCg 2 (xNm lt len p) 0 ho, xCg 2 (xNm lt len p) 1 pa, xCg 2 (xNm lt len p) 2 si, xCl 2 (xNm lt len p) li, lg, ki, ru, ne, ch), sCh 2 (xNm lt len p))
    else if xAt lt len p = 109 then ((st, ln, xCg 3 (xNm lt len p) 0 ho, xCg 3 (xNm lt len p) 1 pa, xCg 3 (xNm lt len p) 2 si, xCl 3 (xNm lt len p) li, lg, ki, ru, ne, ch), sCh 3 (xNm lt len p))
    else xTL lt len p (st, ln, ho, pa, si, li, lg, ki, ru, ne, ch)
/-- statement after statement -/
def xRL (lt : Nat → Int32) (len : Nat) : Nat → Nat → xT → Nat → xT × Int32
  | 0, _, T, k => (T, nI k)
  | n + 1, p, T, k => if p < len then (if (xTS lt len p T).2 = 0 then ((xTS lt len p T).1, -2000 - nI p) else xRL lt len n (xDe lt len p + 1) (xTS lt len p T).1 (k + 1)) else (T, nI k)
theorem xRL_z {lt : Nat → Int32} {len i p k : Nat} {T : xT} (hi : len ≤ i) : xRL lt len (len - i) p T k = (T, nI k) := by rw [show len - i = 0 by omega]; rfl
theorem xRL_p {lt : Nat → Int32} {len i p k : Nat} {T : xT} (hi : i < len) (hp : ¬ p < len) : xRL lt len (len - i) p T k = (T, nI k) := by
  rw [show len - i = (len - (i + 1)) + 1 by omega]; simp only [xRL]; rw [if_neg hp]
theorem xRL_f {lt : Nat → Int32} {len i p k : Nat} {T : xT} (hi : i < len) (hp : p < len) (h : (xTS lt len p T).2 = 0) : xRL lt len (len - i) p T k = ((xTS lt len p T).1, -2000 - nI p) := by
  rw [show len - i = (len - (i + 1)) + 1 by omega]; simp only [xRL]; rw [if_pos hp, if_pos h]
theorem xRL_s {lt : Nat → Int32} {len i p k : Nat} {T : xT} (hi : i < len) (hp : p < len) (h : ¬ (xTS lt len p T).2 = 0) : xRL lt len (len - (i + 1)) (xDe lt len p + 1) (xTS lt len p T).1 (k + 1) = xRL lt len (len - i) p T k := by
  rw [show len - i = (len - (i + 1)) + 1 by omega]; simp only [xRL]; rw [if_pos hp, if_neg h]
def xRO (lt : Nat → Int32) (len : Nat) (T : xT) : xT × Int32 := if xF0 lt len < 0 then xRL lt len len 0 T 0 else (T, -1000 - xF0 lt len)
theorem xAsN_b {st : Nat} {v : Int32} (h1 : 1 ≤ st) (h7 : st ≤ 7) : 1 ≤ xAsN st v ∧ xAsN st v ≤ 7 := by
  unfold xAsN
  repeat' split
  all_goals omega
theorem xTS_b (lt : Nat → Int32) (len p : Nat) (T : xT) (h1 : 1 ≤ T.1) (h7 : T.1 ≤ 7) (h3 : T.2.1 ≤ 3) : (1 ≤ (xTS lt len p T).1.1 ∧ (xTS lt len p T).1.1 ≤ 7) ∧ (xTS lt len p T).1.2.1 ≤ 3 := by
  obtain ⟨st, ln, ho, pa, si, li, lg, ki, ru, ne, ch⟩ := T
  simp only [xTS]
  dsimp only at h1 h7 h3
  repeat' split
  · exact ⟨xAsN_b h1 h7, h3⟩
  · exact ⟨⟨h1, h7⟩, h3⟩
  · exact ⟨⟨h1, h7⟩, h3⟩
  · exact ⟨⟨h1, h7⟩, h3⟩
  · exact ⟨⟨h1, h7⟩, h3⟩
  · simp only [xTL]
    split
    · exact ⟨⟨h1, h7⟩, by show ln + 1 ≤ 3; omega⟩
    · exact ⟨⟨h1, h7⟩, h3⟩
