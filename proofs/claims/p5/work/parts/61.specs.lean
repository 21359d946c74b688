/-! the text constant "bnert": what the JDK's methods read -/
def xKs (ad av : Nat) (A : Nat → Prop) (U : State) : Prop :=
  vk_S 1 [5] [[98, 110, 101, 114, 116]] (fun _ => ad) (fun _ => av) A U U.heap ∧ va_Z RJ0 "COMPACT_STRINGS" "Z" (.int 1) A U U.heap ∧ vk_R RX3 49 "bnert" ad U
theorem xKs_call {ad av : Nat} {A : Nat → Prop} {U : State} {g : JFrame} {mk : MethodId} {a : Array Value} (h : xKs ad av A U) : xKs ad av A (U.calling g mk a) :=
  ⟨vk_S.moved (u := U) (U := U.calling g mk a) (Vm.Alike.refl U.vm) h.1, va_Z.moved (u := U) (U := U.calling g mk a) (Vm.Alike.refl U.vm) h.2.1, vk_R.same (u := U) (U := U.calling g mk a) rfl h.2.2⟩
theorem xKs_use {ad av : Nat} {A B : Nat → Prop} {s : State} {H : Heap} {locs : List Loc} (h : xKs ad av A s) (hS : va_S A s.heap H locs) (hB : ∀ q, B q → A q) : ∀ U : State, U.heap = H → s.WarmedH U.vm → xKs ad av B U := fun U hU hW =>
  ⟨vk_S.moved hW.alike (by rw [hU]; exact (h.1.kept hS.2.1).narrow hB), va_Z.moved hW.alike (by rw [hU]; exact (h.2.1.kept hS.2.1).narrow hB), vk_R.warm hW h.2.2⟩
def sPc (D : va_G) (ad av : Nat) (args : List Value) (ws : va_W) (tys : List (ClassId × FieldType)) : Array Value → State → Prop := va_Pc args (fun U => va_P D vwCl ws U.heap ∧ va_K D vwCl tys U ∧ xKs ad av (fun _ => False) U)
theorem sPc_bl {D : va_G} {ad av : Nat} {args : List Value} {ws : va_W} {tys : List (ClassId × FieldType)} : FrameBlind (sPc D ad av args ws tys) := fun a U g mk q => by
  obtain ⟨q0, qP, qK, qX⟩ := q
  exact ⟨q0, qP, va_K.moved (u := U) (U := U.calling g mk a) (Vm.Alike.refl U.vm) qK, xKs_call qX⟩
theorem sPc_use {D : va_G} {ad av : Nat} {args : List Value} {ws : va_W} {tys : List (ClassId × FieldType)} {s : State} {H : Heap} (hP : va_P D vwCl ws H) (hK : va_K D vwCl tys s) (hX : ∀ U : State, U.heap = H → s.WarmedH U.vm → xKs ad av (fun _ => False) U) : ∀ U : State, U.heap = H → s.WarmedH U.vm → sPc D ad av args ws tys args.toArray U := fun U hU hW => ⟨rfl, by rw [hU]; exact hP, va_K.moved hW.alike hK, hX U hU hW⟩
def wPcS (D : va_G) (ad av : Nat) (args : List Value) (ws : va_W) (tys : List (ClassId × FieldType)) (sz : Nat) : Array Value → State → Prop := va_Pc args (fun U => U.heap.size = sz ∧ va_P D vwCl ws U.heap ∧ va_K D vwCl tys U ∧ va_D (fun _ => True) ws ∧ xKs ad av (va_A ws sz) U)
theorem wPcS_bl {D : va_G} {ad av : Nat} {args : List Value} {ws : va_W} {tys : List (ClassId × FieldType)} {sz : Nat} : FrameBlind (wPcS D ad av args ws tys sz) := fun a U g mk q => by
  obtain ⟨q0, q1, qP, qK, qD, qX⟩ := q
  exact ⟨q0, q1, qP, va_K.moved (u := U) (U := U.calling g mk a) (Vm.Alike.refl U.vm) qK, qD, xKs_call qX⟩
theorem wPcS_use {D : va_G} {ad av : Nat} {args : List Value} {ws : va_W} {tys : List (ClassId × FieldType)} {s : State} {H : Heap} {A : Nat → Prop} (hP : va_P D vwCl ws H) (hK : va_K D vwCl tys s) (hD : va_D A ws) (hX : ∀ U : State, U.heap = H → s.WarmedH U.vm → xKs ad av (va_A ws H.size) U) : ∀ U : State, U.heap = H → s.WarmedH U.vm → wPcS D ad av args ws tys H.size args.toArray U := fun U hU hW =>
  ⟨rfl, by rw [hU], by rw [hU]; exact hP, va_K.moved hW.alike hK, hD.weaken (fun _ _ _ _ => trivial), hX U hU hW⟩
/-- the place of a byte among the five -/
def xKj (c : Int32) : Int32 := if 98 = c then 0 else if 110 = c then 1 else if 101 = c then 2 else if 114 = c then 3 else if 116 = c then 4 else -1
def xKi (c : Int32) : Int32 := if c = 98 then 0 else if c = 110 then 1 else if c = 101 then 2 else if c = 114 then 3 else if c = 116 then 4 else -1
theorem xKj_all : ∀ n, n < 256 → xKj (nI n).toInt8.toInt32 = xKi (nI n) := by decide +kernel
theorem xKj_in {c : Int32} (h1 : ¬ c < 0) (h2 : ¬ 255 < c) : xKj c.toInt8.toInt32 = xKi c := by
  obtain ⟨k, rfl, hk⟩ := xInN (n := 255) (by decide) h1 h2
  exact xKj_all k (by omega)
theorem xKi_lo {c : Int32} (h : c < 0) : xKi c = -1 := by
  have e : ∀ k : Int32, 0 ≤ k → ¬ c = k := fun k hk w => absurd (w ▸ h) (Int32.not_lt.mpr hk)
  simp only [xKi, if_neg (e 98 (by decide)), if_neg (e 110 (by decide)), if_neg (e 101 (by decide)), if_neg (e 114 (by decide)), if_neg (e 116 (by decide))]
theorem xKi_hi {c : Int32} (h : 255 < c) : xKi c = -1 := by
  have e : ∀ k : Int32, k ≤ 255 → ¬ c = k := fun k hk w => absurd (w ▸ h) (Int32.not_lt.mpr hk)
  simp only [xKi, if_neg (e 98 (by decide)), if_neg (e 110 (by decide)), if_neg (e 101 (by decide)), if_neg (e 114 (by decide)), if_neg (e 116 (by decide))]
def xCe (c : Int32) : Int32 := if c < 0 then 0 else if 255 < c then 0 else 1
/-- the kind that a letter names, -1 for none -/
def xKd (lt : Nat → Int32) (len p : Nat) : Int32 := if xAt lt len p < 0 then -1 else xKi ((xAt lt len p).toUInt32 % 65536).toInt32
theorem xCe_1 {c : Int32} (h : ¬ xCe c = 0) : ¬ c < 0 ∧ ¬ 255 < c := by
  unfold xCe at h
  by_cases h1 : c < 0
  · rw [if_pos h1] at h; exact absurd rfl h
  · rw [if_neg h1] at h
    by_cases h2 : 255 < c
    · rw [if_pos h2] at h; exact absurd rfl h
    · exact ⟨h1, h2⟩
theorem xCe_0 {c : Int32} (h : xCe c = 0) : xKi c = -1 := by
  unfold xCe at h
  by_cases h1 : c < 0
  · exact xKi_lo h1
  · rw [if_neg h1] at h
    by_cases h2 : 255 < c
    · exact xKi_hi h2
    · rw [if_neg h2] at h; exact absurd h (by decide)
