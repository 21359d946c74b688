/-! reading told: what each of its three goes holds -/
def xEv (lt : Nat → Int32) (tn : Nat) (bf kf : Nat → Int32) : Prop := tn ≤ 96 ∧ xByt lt tn ∧ bf = xBF ∧ kf = xKF
def xJ1 (lt : Nat → Int32) (tn i : Nat) (p : xP) : Prop := i ≤ p.1 ∧ xF0 lt tn = xFw lt tn (tn - i) (xDe lt tn p.1 + 1) (xWp lt tn p.1) ∧ i + xNS lt tn (tn - i) p.1 = xNS lt tn tn 0
def xJ2 (lt : Nat → Int32) (tn : Nat) (T : xT) (c : Nat) (p : xP) (s1 l1 : Int32) : Prop := ∃ T8 : xT, ((1 ≤ T8.1 ∧ T8.1 ≤ 7) ∧ T8.2.1 ≤ 3) ∧ s1 = nI T8.1 ∧ l1 = nI T8.2.1 ∧ xRL lt tn (tn - c) p.1 T8 c = xRL lt tn tn 0 T 0 ∧ c + xNS lt tn (tn - c) p.1 = xNS lt tn tn 0 ∧ c ≤ p.1
def xJ3 (lt : Nat → Int32) (tn : Nat) (T : xT) (p : xP) (nw : Nat → Int32) (st ln : Nat) : Prop := ∃ (T7 : xT) (c : Nat), (T7.1 = st ∧ T7.2.1 = ln) ∧ xRel T7 nw ∧ xRL lt tn (tn - c) p.1 T7 c = xRL lt tn tn 0 T 0 ∧ c ≤ p.1
/-- what the reading of a whole text leaves -/
def xJR (lt : Nat → Int32) (tn : Nat) (T : xT) (nw : Nat → Int32) : Prop := xVd nw (xIp (xRO lt tn T).2 (xRO lt tn T).1 T).1 (xIp (xRO lt tn T).2 (xRO lt tn T).1 T).2.1 ∧ xRel (xIp (xRO lt tn T).2 (xRO lt tn T).1 T) nw
theorem xJR_n {lt : Nat → Int32} {tn st ln : Nat} {T : xT} {nw : Nat → Int32} (hV : xVd nw st ln) (hR : xRel T nw) (hT : T.1 = st ∧ T.2.1 = ln) (hn : ¬ 0 < (xRO lt tn T).2) : xJR lt tn T nw := by
  unfold xJR
  rw [xIp_n hn, hT.1, hT.2]
  exact ⟨hV, hR⟩
theorem xJ1_0 (lt : Nat → Int32) (tn : Nat) : xJ1 lt tn 0 (0, 1) := by
  refine ⟨Nat.le_refl _, ?_, ?_⟩
  · show xF0 lt tn = xFw lt tn (tn - 0) (xDe lt tn 0 + 1) (xWp lt tn 0)
    rw [Nat.sub_zero]
    rfl
  · show 0 + xNS lt tn (tn - 0) 0 = xNS lt tn tn 0
    rw [Nat.sub_zero, Nat.zero_add]
theorem xJ1_s {lt bf kf : Nat → Int32} {tn i : Nat} {p q : xP} (hE : xEv lt tn bf kf) (h : xJ1 lt tn i p) (hp : p.1 ≤ tn) (h1 : p.2 = 1) (eq : xSp lt tn bf kf p = q) (hh : ¬ (xSp lt tn bf kf p).2 = 0) (hlt : q.1 < tn) : xJ1 lt tn (i + 1) q := by
  obtain ⟨htn, hB, rfl, rfl⟩ := hE
  obtain ⟨a, b⟩ := p
  have hp : a ≤ tn := hp
  obtain rfl : b = 1 := h1
  obtain ⟨h5, h6, h7⟩ := h
  have h5 : i ≤ a := h5
  have h6 : xF0 lt tn = xFw lt tn (tn - i) (xDe lt tn a + 1) (xWp lt tn a) := h6
  have h7 : i + xNS lt tn (tn - i) a = xNS lt tn tn 0 := h7
  obtain ⟨hw9, hsp9, hde9⟩ := xAg_t (a := a) hB htn hp hh
  obtain rfl := eq.symm.trans hsp9
  have hlt : xDe lt tn a + 1 < tn := hlt
  have hag := xDe_ge lt tn a
  refine ⟨by show i + 1 ≤ xDe lt tn a + 1; omega, ?_, ?_⟩
  · show xF0 lt tn = xFw lt tn (tn - (i + 1)) (xDe lt tn (xDe lt tn a + 1) + 1) (xWp lt tn (xDe lt tn a + 1))
    rw [h6]
    exact (xFw_s (by omega) hlt hw9).symm
  · show (i + 1) + xNS lt tn (tn - (i + 1)) (xDe lt tn a + 1) = xNS lt tn tn 0
    have e := xNS_s (lt := lt) (len := tn) (a := a) (i := i) (by omega) (by omega)
    omega
theorem xJ1_e {lt bf kf : Nat → Int32} {tn i : Nat} {p q : xP} (hE : xEv lt tn bf kf) (h : xJ1 lt tn i p) (hp : p.1 ≤ tn) (h1 : p.2 = 1) (eq : xSp lt tn bf kf p = q) (hh : ¬ (xSp lt tn bf kf p).2 = 0) (hnt : ¬ q.1 < tn) : xF0 lt tn < 0 ∧ xNS lt tn tn 0 = i + 1 ∧ i < 97 := by
  obtain ⟨htn, hB, rfl, rfl⟩ := hE
  obtain ⟨a, b⟩ := p
  have hp : a ≤ tn := hp
  obtain rfl : b = 1 := h1
  obtain ⟨h5, h6, h7⟩ := h
  have h5 : i ≤ a := h5
  have h6 : xF0 lt tn = xFw lt tn (tn - i) (xDe lt tn a + 1) (xWp lt tn a) := h6
  have h7 : i + xNS lt tn (tn - i) a = xNS lt tn tn 0 := h7
  obtain ⟨hw9, hsp9, hde9⟩ := xAg_t (a := a) hB htn hp hh
  obtain rfl := eq.symm.trans hsp9
  have hnt : ¬ xDe lt tn a + 1 < tn := hnt
  have hag := xDe_ge lt tn a
  have e := xNS_s (lt := lt) (len := tn) (a := a) (i := i) (by omega) (by omega)
  rw [xNS_e hnt] at e
  exact ⟨by rw [h6, xFw_end hnt]; exact hw9, by omega, by omega⟩
theorem xJ1_f {lt bf kf : Nat → Int32} {tn i : Nat} {p q : xP} (hE : xEv lt tn bf kf) (h : xJ1 lt tn i p) (hp : p.1 ≤ tn) (h1 : p.2 = 1) (eq : xSp lt tn bf kf p = q) (hh : q.2 = 0) (T : xT) : -1000 - nI q.1 = (xRO lt tn T).2 ∧ ¬ 0 < (xRO lt tn T).2 := by
  obtain ⟨htn, hB, rfl, rfl⟩ := hE
  obtain ⟨a, b⟩ := p
  have hp : a ≤ tn := hp
  obtain rfl : b = 1 := h1
  obtain ⟨h5, h6, h7⟩ := h
  have h6 : xF0 lt tn = xFw lt tn (tn - i) (xDe lt tn a + 1) (xWp lt tn a) := h6
  obtain ⟨w9, hw1, hw2, hw3⟩ := xAg_f (a := a) hB htn hp (by rw [eq]; exact hh)
  obtain rfl := eq.symm.trans hw3
  have e : (xRO lt tn T).2 = -1000 - nI w9 := by rw [xRO_ill (T := T) (lt := lt) (len := tn) (w := w9) (by rw [h6, xFw_ge (by rw [hw2]; exact nI_pos (by omega))]; exact hw2) (by omega)]
  exact ⟨e.symm, by rw [e]; exact xNeg1 w9 (by omega)⟩
theorem xJ2_0 {lt nw : Nat → Int32} {tn st ln : Nat} {T : xT} (hV : xVd nw st ln) (hT : T.1 = st ∧ T.2.1 = ln) : xJ2 lt tn T 0 (0, 1) (nw 0) (nw 3) := by
  refine ⟨T, by rw [hT.1, hT.2]; exact ⟨hV.1.2, hV.2.1.2⟩, by rw [hT.1]; exact hV.1.1, by rw [hT.2]; exact hV.2.1.1, ?_, ?_, Nat.le_refl _⟩
  · show xRL lt tn (tn - 0) 0 T 0 = xRL lt tn tn 0 T 0
    rw [Nat.sub_zero]
  · show 0 + xNS lt tn (tn - 0) 0 = xNS lt tn tn 0
    rw [Nat.sub_zero, Nat.zero_add]
theorem xJ2_s {lt bf kf f : Nat → Int32} {tn c : Nat} {T : xT} {p q : xP} {s1 l1 t : Int32} {g : Nat → Int32} (hE : xEv lt tn bf kf) (h : xJ2 lt tn T c p s1 l1) (hp : p.1 < tn) (h1 : p.2 = 1) (eq : xSp lt tn bf kf p = q) (et : xSs lt tn bf p = t) (ef : xSf lt tn bf kf g p = f) (hh : ¬ (xSp lt tn bf kf p).2 = 0) (hm : ¬ xMb t f s1 l1 = 0) : xJ2 lt tn T (c + 1) q (s1 + xB0 t) (l1 + xB3 t) := by
  obtain ⟨htn, hB, rfl, rfl⟩ := hE
  obtain ⟨a, b⟩ := p
  have hp : a < tn := hp
  obtain rfl : b = 1 := h1
  obtain ⟨T8, k5, k6, k7, k8, k9, k10⟩ := h
  have k8 : xRL lt tn (tn - c) a T8 c = xRL lt tn tn 0 T 0 := k8
  have k9 : c + xNS lt tn (tn - c) a = xNS lt tn tn 0 := k9
  have k10 : c ≤ a := k10
  obtain ⟨hw8, hsp8, hde8⟩ := xAg_t (a := a) hB htn (Nat.le_of_lt hp) hh
  obtain rfl := eq.symm.trans hsp8
  have hst8 := xStep (T := T8) g hB htn hp hw8 k5.2 k5.1.2
  unfold xSt at hst8
  rw [et, ef] at hst8
  have hok : ¬ (xTS lt tn a T8).2 = 0 := fun h => hm (by rw [k6, k7]; exact hst8.1.mpr h)
  obtain ⟨hb1, hb2, -⟩ := hst8.2 hok
  have hag8 := xDe_ge lt tn a
  have hrl8 := (xRL_s (lt := lt) (len := tn) (i := c) (p := a) (k := c) (T := T8) (by omega) hp hok).trans k8
  have e := xNS_s (lt := lt) (len := tn) (a := a) (i := c) (by omega) hp
  refine ⟨(xTS lt tn a T8).1, xTS_b lt tn a T8 k5.1.1 k5.1.2 k5.2, by rw [k6, hb1]; exact xN0_e _ _, by rw [k7, hb2]; exact xN3_e _ _, hrl8, ?_, ?_⟩
  · show c + 1 + xNS lt tn (tn - (c + 1)) (xDe lt tn a + 1) = xNS lt tn tn 0
    omega
  · show c + 1 ≤ xDe lt tn a + 1
    omega
theorem xJ2_f {lt bf kf f : Nat → Int32} {tn c : Nat} {T : xT} {p : xP} {s1 l1 t : Int32} {g : Nat → Int32} (hE : xEv lt tn bf kf) (h : xJ2 lt tn T c p s1 l1) (hp : p.1 < tn) (h1 : p.2 = 1) (et : xSs lt tn bf p = t) (ef : xSf lt tn bf kf g p = f) (hh : ¬ (xSp lt tn bf kf p).2 = 0) (hm : xMb t f s1 l1 = 0) (hF0 : xF0 lt tn < 0) : -2000 - nI p.1 = (xRO lt tn T).2 ∧ ¬ 0 < (xRO lt tn T).2 := by
  obtain ⟨htn, hB, rfl, rfl⟩ := hE
  obtain ⟨a, b⟩ := p
  have hp : a < tn := hp
  obtain rfl : b = 1 := h1
  obtain ⟨T8, k5, k6, k7, k8, k9, k10⟩ := h
  have k8 : xRL lt tn (tn - c) a T8 c = xRL lt tn tn 0 T 0 := k8
  have k10 : c ≤ a := k10
  obtain ⟨hw8, hsp8, hde8⟩ := xAg_t (a := a) hB htn (Nat.le_of_lt hp) hh
  have hst8 := xStep (T := T8) g hB htn hp hw8 k5.2 k5.1.2
  unfold xSt at hst8
  rw [et, ef] at hst8
  have hf8 : (xTS lt tn a T8).2 = 0 := hst8.1.mp (by rw [← k6, ← k7]; exact hm)
  have hrl := (xRL_f (lt := lt) (len := tn) (i := c) (p := a) (k := c) (T := T8) (by omega) hp hf8).symm.trans k8
  have e : (xRO lt tn T).2 = -2000 - nI a := by rw [xRO_ok hF0, ← hrl]
  exact ⟨e.symm, by rw [e]; exact xNeg2 a (by omega)⟩
theorem xJ2_e {lt : Nat → Int32} {tn c i : Nat} {T : xT} {p : xP} {s1 l1 : Int32} (h : xJ2 lt tn T c p s1 l1) (hn : ¬ p.1 < tn) (hF0 : xF0 lt tn < 0) (hNS : xNS lt tn tn 0 = i + 1) : (xRO lt tn T).2 = nI (i + 1) := by
  obtain ⟨T8, k5, k6, k7, k8, k9, k10⟩ := h
  rw [xNS_e hn] at k9
  have hc : c = i + 1 := by omega
  have e : (xRO lt tn T).2 = nI c := by rw [xRO_ok hF0, ← k8, xRL_e hn]
  rw [e, hc]
theorem xJ3_0 {lt nw : Nat → Int32} {tn st ln : Nat} {T : xT} (hR : xRel T nw) (hT : T.1 = st ∧ T.2.1 = ln) : xJ3 lt tn T (0, 1) nw st ln := by
  refine ⟨T, 0, hT, hR, ?_, Nat.le_refl _⟩
  show xRL lt tn (tn - 0) 0 T 0 = xRL lt tn tn 0 T 0
  rw [Nat.sub_zero]
theorem xJ3_s {lt bf kf f nw : Nat → Int32} {tn st ln : Nat} {T : xT} {p q : xP} {t : Int32} {g : Nat → Int32} (hE : xEv lt tn bf kf) (h : xJ3 lt tn T p nw st ln) (hp : p.1 < tn) (h1 : p.2 = 1) (eq : xSp lt tn bf kf p = q) (et : xSs lt tn bf p = t) (ef : xSf lt tn bf kf g p = f) (hh : ¬ (xSp lt tn bf kf p).2 = 0) (hV : xVd nw st ln) (hm : ¬ xMb t f (nI st) (nI ln) = 0) : xJ3 lt tn T q (xCm t f nw st ln) (st + xN0 t) (ln + xN3 t) := by
  obtain ⟨htn, hB, rfl, rfl⟩ := hE
  obtain ⟨a, b⟩ := p
  have hp : a < tn := hp
  obtain rfl : b = 1 := h1
  obtain ⟨T7, c, ⟨rfl, rfl⟩, o5, o6, o7⟩ := h
  have o6 : xRL lt tn (tn - c) a T7 c = xRL lt tn tn 0 T 0 := o6
  have o7 : c ≤ a := o7
  obtain ⟨hw7, hsp7, hde7⟩ := xAg_t (a := a) hB htn (Nat.le_of_lt hp) hh
  obtain rfl := eq.symm.trans hsp7
  have hst7 := xStep (T := T7) g hB htn hp hw7 hV.2.1.2 hV.1.2.2
  unfold xSt at hst7
  rw [et, ef] at hst7
  have hok : ¬ (xTS lt tn a T7).2 = 0 := fun h => hm (hst7.1.mpr h)
  obtain ⟨hb1, hb2, hb3⟩ := hst7.2 hok
  have hag := xDe_ge lt tn a
  refine ⟨(xTS lt tn a T7).1, c + 1, ⟨hb1, hb2⟩, hb3 nw o5, (xRL_s (lt := lt) (len := tn) (i := c) (p := a) (k := c) (T := T7) (by omega) hp hok).trans o6, ?_⟩
  show c + 1 ≤ xDe lt tn a + 1
  omega
theorem xJ3_e {lt nw : Nat → Int32} {tn st ln i : Nat} {T : xT} {p : xP} (h : xJ3 lt tn T p nw st ln) (hn : ¬ p.1 < tn) (hF0 : xF0 lt tn < 0) (hi : i < 97) (hR9 : (xRO lt tn T).2 = nI (i + 1)) (hV : xVd nw st ln) : xJR lt tn T nw := by
  obtain ⟨T7, c, ⟨e1, e2⟩, o5, o6, o7⟩ := h
  have hR7 : xRO lt tn T = (T7, nI c) := (xRO_ok hF0).trans (o6.symm.trans (xRL_e hn _))
  have h0 : 0 < (xRO lt tn T).2 := by rw [hR9]; exact (nI_ltI (a := 0) (b := i + 1) (by decide) (by omega)).mpr (by omega)
  unfold xJR
  rw [xIp_p h0, hR7]
  exact ⟨by rw [e1, e2]; exact hV, o5⟩
