/-! both sides hold the same road: what the calls leave -/
theorem xRel_ag {T T' : xT} {nw : Nat → Int32} (h : xRel T nw) (h1 : T'.1 = T.1) (h2 : T'.2.1 = T.2.1) (h3 : T'.2.2.1 = T.2.2.1) (h4 : T'.2.2.2.1 = T.2.2.2.1) (h5 : T'.2.2.2.2.1 = T.2.2.2.2.1) (h6 : T'.2.2.2.2.2.1 = T.2.2.2.2.2.1) (h7 : ∀ j, j < T.1 → T'.2.2.2.2.2.2.1 j = T.2.2.2.2.2.2.1 j) (h8 : T'.2.2.2.2.2.2.2.1 = T.2.2.2.2.2.2.2.1) (h9 : T'.2.2.2.2.2.2.2.2.1 = T.2.2.2.2.2.2.2.2.1) (h10 : T'.2.2.2.2.2.2.2.2.2.1 = T.2.2.2.2.2.2.2.2.2.1) (h11 : ∀ j t, t < 12 → T'.2.2.2.2.2.2.2.2.2.2 j t = T.2.2.2.2.2.2.2.2.2.2 j t) : xRel T' nw := by
  obtain ⟨⟨a1, a2⟩, ⟨b1, b2, b3, b4⟩, c, d⟩ := h
  refine ⟨⟨a1.trans (by rw [h1]), a2.trans (by rw [h2])⟩, ⟨b1.trans h3.symm, b2.trans h4.symm, b3.trans h5.symm, b4.trans h6.symm⟩, fun j hj => ?_, fun j hj => ?_⟩
  · rw [h1] at hj
    exact (c j hj).trans (h7 j hj).symm
  · rw [h2] at hj
    obtain ⟨d1, d2, d3, d4⟩ := d j hj
    exact ⟨d1.trans (by rw [h8]), d2.trans (by rw [h9]), d3.trans (by rw [h10]), fun t ht => (d4 t ht).trans (h11 j t ht).symm⟩
/-- the same road copied over another -/
theorem xRel_cy {st ln : Nat} {ho pa si li : Int32} {lg ki ru ne g nw : Nat → Int32} {ch gh : Nat → Nat → Int32} (h7 : st ≤ 7) (h : xRel (st, ln, ho, pa, si, li, lg, ki, ru, ne, ch) nw) : xRel (st, ln, ho, pa, si, li, va_cpy lg g 0 0 7, ki, ru, ne, fun j => va_cpy (ch j) (gh j) 0 0 12) nw :=
  xRel_ag h rfl rfl rfl rfl rfl rfl (fun j hj => xCpy_lo (show j < 7 from Nat.lt_of_lt_of_le hj h7)) rfl rfl rfl (fun j t ht => xCpy_lo ht)
theorem xRel_uc {st ln : Nat} {ho pa si li : Int32} {lg ki ru ne g nw : Nat → Int32} {ch gh : Nat → Nat → Int32} (h7 : st ≤ 7) (h : xRel (st, ln, ho, pa, si, li, va_cpy lg g 0 0 7, ki, ru, ne, fun j => va_cpy (ch j) (gh j) 0 0 12) nw) : xRel (st, ln, ho, pa, si, li, lg, ki, ru, ne, ch) nw :=
  xRel_ag h rfl rfl rfl rfl rfl rfl (fun j hj => (xCpy_lo (show j < 7 from Nat.lt_of_lt_of_le hj h7)).symm) rfl rfl rfl (fun j t ht => (xCpy_lo ht).symm)
/-- what a read road leaves -/
theorem xRel_ip {R : xT × Int32} {st ln : Nat} {ho pa si li : Int32} {lg ki ru ne g nw : Nat → Int32} {ch gh : Nat → Nat → Int32} (h7 : st ≤ 7) (hR7 : R.1.1 ≤ 7) (h : xRel (xIp R.2 R.1 (st, ln, ho, pa, si, li, va_cpy lg g 0 0 7, ki, ru, ne, fun j => va_cpy (ch j) (gh j) 0 0 12)) nw) :
    xRel (xIp R.2 R.1.1 st, xIp R.2 R.1.2.1 ln, xIp R.2 R.1.2.2.1 ho, xIp R.2 R.1.2.2.2.1 pa, xIp R.2 R.1.2.2.2.2.1 si, xIp R.2 R.1.2.2.2.2.2.1 li, xIp R.2 (va_cpy R.1.2.2.2.2.2.2.1 lg 0 0 7) lg, xIp R.2 R.1.2.2.2.2.2.2.2.1 ki, xIp R.2 R.1.2.2.2.2.2.2.2.2.1 ru, xIp R.2 R.1.2.2.2.2.2.2.2.2.2.1 ne, xIp R.2 (fun j => va_cpy (R.1.2.2.2.2.2.2.2.2.2.2 j) (ch j) 0 0 12) ch) nw := by
  obtain ⟨T, a⟩ := R
  dsimp only at hR7 h ⊢
  by_cases q : 0 < a
  · simp only [xIp, if_pos q] at h ⊢
    exact xRel_cy (g := lg) (gh := ch) hR7 h
  · simp only [xIp, if_neg q] at h ⊢
    exact xRel_uc h7 h
theorem xVd_ip {R : xT × Int32} {st ln : Nat} {ho pa si li : Int32} {lg ki ru ne nw : Nat → Int32} {ch : Nat → Nat → Int32} (h : xVd nw (xIp R.2 R.1 (st, ln, ho, pa, si, li, lg, ki, ru, ne, ch)).1 (xIp R.2 R.1 (st, ln, ho, pa, si, li, lg, ki, ru, ne, ch)).2.1) : xVd nw (xIp R.2 R.1.1 st) (xIp R.2 R.1.2.1 ln) := by
  by_cases q : 0 < R.2
  · rw [xIp_p q] at h ⊢; rw [xIp_p q]; exact h
  · rw [xIp_n q] at h ⊢; rw [xIp_n q]; exact h
/-- a value set -/
theorem xRel_se {st ln : Nat} {ho pa si li : Int32} {lg ki ru ne nw : Nat → Int32} {ch : Nat → Nat → Int32} (a1 a2 : Int32) (h : xRel (st, ln, ho, pa, si, li, lg, ki, ru, ne, ch) nw) : xRel (st, ln, xIf (qSe a1 a2) (xCg a1 a2 0 ho) ho, xIf (qSe a1 a2) (xCg a1 a2 1 pa) pa, xIf (qSe a1 a2) (xCg a1 a2 2 si) si, xIf (qSe a1 a2) (xCl a1 a2 li) li, lg, ki, ru, ne, ch) (x5Se nw a1 a2) := by
  unfold x5Se xIf
  by_cases q : qSe a1 a2 = 0
  · rw [if_pos q, if_pos q, if_pos q, if_pos q, if_pos q]
    obtain ⟨q1, q2⟩ := qSe_0 q
    rw [xCg_ok q1 q2, xCg_ok q1 q2, xCg_ok q1 q2, xCl_ok q1 q2]
    have b := h.2.1
    unfold x5Pl
    by_cases h0 : a1 = 0
    · rw [if_pos h0, if_pos h0, if_pos h0, if_neg (by rw [h0]; decide), if_neg (by rw [h0]; decide)]
      exact xRel_u h (fun i hi => pk_un (by omega)) pk_us ((pk_un (by decide)).trans b.2.1) ((pk_un (by decide)).trans b.2.2.1) ((pk_un (by decide)).trans b.2.2.2)
    rw [if_neg h0, if_neg h0, if_neg h0]
    by_cases h1 : a1 = 1
    · rw [if_pos h1, if_pos h1, if_pos h1, if_neg (by rw [h1]; decide)]
      exact xRel_u h (fun i hi => pk_un (by omega)) ((pk_un (by decide)).trans b.1) pk_us ((pk_un (by decide)).trans b.2.2.1) ((pk_un (by decide)).trans b.2.2.2)
    rw [if_neg h1, if_neg h1, if_neg h1]
    by_cases h2 : a1 = 2
    · rw [if_pos h2, if_pos h2, if_pos h2]
      exact xRel_u h (fun i hi => pk_un (by omega)) ((pk_un (by decide)).trans b.1) ((pk_un (by decide)).trans b.2.1) pk_us ((pk_un (by decide)).trans b.2.2.2)
    rw [if_neg h2, if_neg h2, if_neg h2]
    exact xRel_u h (fun i hi => pk_un (by omega)) ((pk_un (by decide)).trans b.1) ((pk_un (by decide)).trans b.2.1) ((pk_un (by decide)).trans b.2.2.1) pk_us
  · rw [if_neg q, if_neg q, if_neg q, if_neg q, if_neg q]; exact h
/-- the image, and on from it -/
theorem xRel_cp {st ln : Nat} {ho pa si li : Int32} {lg ki ru ne g f th : Nat → Int32} {ch gh : Nat → Nat → Int32} (h7 : st ≤ 7) (h3 : ln ≤ 3) (h : xRel (st, ln, ho, pa, si, li, lg, ki, ru, ne, ch) f) : xRel (st, ln, ho, pa, si, li, va_cpy lg g 0 0 7, ki, ru, ne, fun j => va_cpy (ch j) (gh j) 0 0 12) (xCp f th 70) := by
  obtain ⟨⟨a1, a2⟩, ⟨b1, b2, b3, b4⟩, c, d⟩ := xRel_cy (g := g) (gh := gh) h7 h
  have e : ∀ i, i < 70 → xCp f th 70 i = f i := fun i hi => if_pos hi
  refine ⟨⟨(e 0 (by decide)).trans a1, (e 3 (by decide)).trans a2⟩, ⟨(e 1 (by decide)).trans b1, (e 2 (by decide)).trans b2, (e 4 (by decide)).trans b3, (e 5 (by decide)).trans b4⟩, fun j hj => ?_, fun j hj => ?_⟩
  · have hj' : j < st := hj
    exact (e _ (by omega)).trans (c j hj)
  · have hj' : j < ln := hj
    obtain ⟨d1, d2, d3, d4⟩ := d j hj
    exact ⟨(e _ (by omega)).trans d1, (e _ (by omega)).trans d2, (e _ (by omega)).trans d3, fun t ht => (e _ (by omega)).trans (d4 t ht)⟩
/-- a letter told -/
theorem xByt_le {lt : Nat → Int32} {len : Nat} (a : Int32) (h : xByt lt len) : xByt (if qLe len a = 0 then xLt lt len a else lt) (if qLe len a = 0 then xLn len else len) := by
  by_cases q : qLe len a = 0
  · rw [if_pos q, if_pos q]
    unfold qLe at q
    by_cases h1 : a < 0
    · rw [if_pos h1] at q; exact absurd q (by decide)
    rw [if_neg h1] at q
    by_cases h2 : 255 < a
    · rw [if_pos h2] at q; exact absurd q (by decide)
    obtain ⟨k, rfl, hk⟩ := xInN (n := 255) (by decide) h1 h2
    unfold xLt xLn
    by_cases h3 : len < 96
    · rw [if_pos h3, if_pos h3]
      intro i hi
      by_cases r : i = len
      · subst r; exact ⟨k, pk_us, hk⟩
      · rw [pk_un r]; exact h i (by omega)
    · rw [if_neg h3, if_neg h3]; exact h
  · rw [if_neg q, if_neg q]; exact h
theorem xByt_0 (lt : Nat → Int32) : xByt lt 0 := fun i h => absurd h (Nat.not_lt_zero i)
