/-! helpers: the arrays' classes, a method's start (that only reads; that writes), values renamed, loops, switches -/
abbrev xTy (cI cL cZ cC : ClassId) : List (ClassId × FieldType) := [(cI, .int), (cL, .object RX0), (cZ, .boolean), (cC, .char)]
theorem xK_uniq {D : va_G} {cl : List vw_C} {tys : List (ClassId × FieldType)} {U : State} (h : va_K D cl tys U) (i j : Nat) {c1 c2 : ClassId} {ty : FieldType} (h1 : tys[i]? = some (c1, ty)) (h2 : tys[j]? = some (c2, ty)) (hne : i ≠ j) : c1 = c2 := by
  have a := (h.2 i _ h1).2
  have b := (h.2 j _ h2).2
  cases ty with
  | object C =>
    obtain ⟨_, _, _, _, _, e1⟩ := a
    obtain ⟨_, _, _, _, _, e2⟩ := b
    exact Option.some.inj (e1.symm.trans e2)
  | _ => exact Option.some.inj (a.symm.trans b)
def xPc (D : va_G) (av : List Value) (ws : va_W) (tys : List (ClassId × FieldType)) : Array Value → State → Prop := va_Pc av (fun U => va_P D vwCl ws U.heap ∧ va_K D vwCl tys U)
theorem xPc_bl {D : va_G} {av : List Value} {ws : va_W} {tys : List (ClassId × FieldType)} : FrameBlind (xPc D av ws tys) := fun a U g mk q => by
  obtain ⟨q0, qP, qK⟩ := q
  exact ⟨q0, qP, va_K.moved (u := U) (U := U.calling g mk a) (Vm.Alike.refl U.vm) qK⟩
theorem xPc_use {D : va_G} {av : List Value} {ws : va_W} {tys : List (ClassId × FieldType)} {s : State} {H : Heap} (hP : va_P D vwCl ws H) (hK : va_K D vwCl tys s) : ∀ U : State, U.heap = H → s.WarmedH U.vm → xPc D av ws tys av.toArray U := fun U hU hW => ⟨rfl, by rw [hU]; exact hP, va_K.moved hW.alike hK⟩
def wPc (D : va_G) (av : List Value) (ws : va_W) (tys : List (ClassId × FieldType)) (sz : Nat) : Array Value → State → Prop := va_Pc av (fun U => U.heap.size = sz ∧ va_P D vwCl ws U.heap ∧ va_K D vwCl tys U ∧ va_D (fun _ => True) ws)
theorem wPc_bl {D : va_G} {av : List Value} {ws : va_W} {tys : List (ClassId × FieldType)} {sz : Nat} : FrameBlind (wPc D av ws tys sz) := fun a U g mk q => by
  obtain ⟨q0, q1, qP, qK, qD⟩ := q
  exact ⟨q0, q1, qP, va_K.moved (u := U) (U := U.calling g mk a) (Vm.Alike.refl U.vm) qK, qD⟩
theorem wPc_use {D : va_G} {av : List Value} {ws : va_W} {tys : List (ClassId × FieldType)} {s : State} {H : Heap} {A : Nat → Prop} (hP : va_P D vwCl ws H) (hK : va_K D vwCl tys s) (hD : va_D A ws) : ∀ U : State, U.heap = H → s.WarmedH U.vm → wPc D av ws tys H.size av.toArray U := fun U hU hW => ⟨rfl, by rw [hU], by rw [hU]; exact hP, va_K.moved hW.alike hK, hD.weaken (fun _ _ _ _ => trivial)⟩
/-- what else a constructor wants of the tables: arrays of lines; the private constructors of the nest -/
def xEx (U : State) : Prop := va_AO RX0 U ∧ va_Nw (.methodLinkNest RX2 40 yX0_init "WaitOrWalkOn") U ∧ va_Nw (.methodLinkNest RX4 24 yX1_init "WaitOrWalkOn") U ∧ va_Nw (.methodLinkNest RX4 31 yX3_init "WaitOrWalkOn") U
theorem xEx_warm {s U : State} (hW : s.WarmedH U.vm) (h : xEx s) : xEx U := ⟨va_AO.moved hW.alike h.1, va_Nw.warmM hW h.2.1, va_Nw.warmM hW h.2.2.1, va_Nw.warmM hW h.2.2.2⟩
def wPcX (D : va_G) (av : List Value) (ws : va_W) (tys : List (ClassId × FieldType)) (sz : Nat) : Array Value → State → Prop := va_Pc av (fun U => U.heap.size = sz ∧ va_P D vwCl ws U.heap ∧ va_K D vwCl tys U ∧ va_D (fun _ => True) ws ∧ xEx U)
theorem wPcX_bl {D : va_G} {av : List Value} {ws : va_W} {tys : List (ClassId × FieldType)} {sz : Nat} : FrameBlind (wPcX D av ws tys sz) := fun a U g mk q => by
  obtain ⟨q0, q1, qP, qK, qD, qX⟩ := q
  exact ⟨q0, q1, qP, va_K.moved (u := U) (U := U.calling g mk a) (Vm.Alike.refl U.vm) qK, qD, va_AO.moved (u := U) (U := U.calling g mk a) (Vm.Alike.refl U.vm) qX.1, va_Nw.same (u := U) (U := U.calling g mk a) rfl rfl qX.2.1, va_Nw.same (u := U) (U := U.calling g mk a) rfl rfl qX.2.2.1, va_Nw.same (u := U) (U := U.calling g mk a) rfl rfl qX.2.2.2⟩
theorem wPcX_use {D : va_G} {av : List Value} {ws : va_W} {tys : List (ClassId × FieldType)} {s : State} {H : Heap} {A : Nat → Prop} (hP : va_P D vwCl ws H) (hK : va_K D vwCl tys s) (hD : va_D A ws) (hX : xEx s) : ∀ U : State, U.heap = H → s.WarmedH U.vm → wPcX D av ws tys H.size av.toArray U := fun U hU hW => ⟨rfl, by rw [hU], by rw [hU]; exact hP, va_K.moved hW.alike hK, hD.weaken (fun _ _ _ _ => trivial), xEx_warm hW hX⟩
theorem xi_eq (a b : Int32) : a = b ↔ a.toInt = b.toInt := ⟨fun h => h ▸ rfl, Int32.toInt_inj.mp⟩
theorem xi_lt (a b : Int32) : a < b ↔ a.toInt < b.toInt := Int32.lt_iff_toInt_lt
theorem xi_le (a b : Int32) : a ≤ b ↔ a.toInt ≤ b.toInt := Int32.le_iff_toInt_le
theorem xn_b (b : Prop) [Decidable b] : narrow .boolean (.int (if b then 1 else 0)) = .int (if b then 1 else 0) := by split <;> rfl
section XV
variable {p : Program} {l : Launch} {e : Env} {R : Room} {s : State} {m : MethodId} {args : Array Value} {below : List Frame} {meth : Method} {c : Code} {H : Heap} {locs : List Loc} {cells slots : Nat} {Q : State → Prop} {pc : Nat} {ls : Array Slot} {rest st : List Value}
theorem xv_int {x y : Int32} (h : x = y) (k : W p l e R s m args below meth c H locs cells slots Q (F0 m pc ls (.int y :: rest))) : W p l e R s m args below meth c H locs cells slots Q (F0 m pc ls (.int x :: rest)) := h ▸ k
theorem xv_long {x y : Int64} (h : x = y) (k : W p l e R s m args below meth c H locs cells slots Q (F0 m pc ls (.long y :: rest))) : W p l e R s m args below meth c H locs cells slots Q (F0 m pc ls (.long x :: rest)) := h ▸ k
theorem xv_ref {v : Value} {y : Nat} (h : v = .ref y) (k : W p l e R s m args below meth c H locs cells slots Q (F0 m pc ls (.ref y :: rest))) : W p l e R s m args below meth c H locs cells slots Q (F0 m pc ls (v :: rest)) := h ▸ k
theorem xl_cut {σ : Type} (pc' : Nat) (st' : σ → List Value) (I : σ → Array Slot → Prop) (k : ∀ (q : σ) (ls' : Array Slot), I q ls' → W p l e R s m args below meth c H locs cells slots Q (F0 m pc' ls' (st' q))) (h : (∀ (q : σ) (ls' : Array Slot), I q ls' → W p l e R s m args below meth c H locs cells slots Q (F0 m pc' ls' (st' q))) → W p l e R s m args below meth c H locs cells slots Q (F0 m pc ls st)) : W p l e R s m args below meth c H locs cells slots Q (F0 m pc ls st) := h k
theorem xl_loop {σ : Type} (I : Nat → σ → Array Slot → Prop) (n0 : Nat) (q0 : σ) (h0 : I n0 q0 ls) (hz : ∀ (q : σ) (ls' : Array Slot), ¬ I 0 q ls') (hs : ∀ (n : Nat) (q : σ) (ls' : Array Slot), (∀ (q' : σ) (ls2 : Array Slot), I n q' ls2 → W p l e R s m args below meth c H locs cells slots Q (F0 m pc ls2 st)) → I (n + 1) q ls' → W p l e R s m args below meth c H locs cells slots Q (F0 m pc ls' st)) : W p l e R s m args below meth c H locs cells slots Q (F0 m pc ls st) := by
  have key : ∀ (n : Nat) (q : σ) (ls' : Array Slot), I n q ls' → W p l e R s m args below meth c H locs cells slots Q (F0 m pc ls' st) := by
    intro n
    induction n with
    | zero => intro q ls' h; exact absurd h (hz q ls')
    | succ n ih => intro q ls' h; exact hs n q ls' ih h
  exact key n0 q0 ls h0
theorem xl_loopH {σ : Type} (I : Nat → σ → Heap → List Loc → Array Slot → Prop) (n0 : Nat) (q0 : σ) (h0 : I n0 q0 H locs ls) (hz : ∀ (q : σ) (H' : Heap) (lc : List Loc) (ls' : Array Slot), ¬ I 0 q H' lc ls') (hs : ∀ (n : Nat) (q : σ) (H' : Heap) (lc : List Loc) (ls' : Array Slot), (∀ (q' : σ) (H2 : Heap) (lc2 : List Loc) (ls2 : Array Slot), I n q' H2 lc2 ls2 → W p l e R s m args below meth c H2 lc2 cells slots Q (F0 m pc ls2 st)) → I (n + 1) q H' lc ls' → W p l e R s m args below meth c H' lc cells slots Q (F0 m pc ls' st)) : W p l e R s m args below meth c H locs cells slots Q (F0 m pc ls st) := by
  have key : ∀ (n : Nat) (q : σ) (H' : Heap) (lc : List Loc) (ls' : Array Slot), I n q H' lc ls' → W p l e R s m args below meth c H' lc cells slots Q (F0 m pc ls' st) := by
    intro n
    induction n with
    | zero => intro q H' lc ls' h; exact absurd h (hz q H' lc ls')
    | succ n ih => intro q H' lc ls' h; exact hs n q H' lc ls' ih h
  exact key n0 q0 H locs ls h0
end XV
/-- one more refusal of a kind -/
def xRf (rf : Nat → Int32) (x : Int32) : Nat → Int32 := upd rf (-x).toNatClampNeg (rf (-x).toNatClampNeg + 1)
/-- the array of a road's three lines -/
def xL3 (a b c : Nat) : Nat → Option Nat := va_up (va_up (va_up (fun _ => none) 0 (some a)) 1 (some b)) 2 (some c)
theorem xi_lit (n : Int) : n = n := rfl
theorem xz1 {a : Int32} (h1 : ¬ a < 0) (h2 : ¬ 1 ≤ a) : a = 0 := by
  rw [xi_lt] at h1; rw [xi_le] at h2; rw [xi_eq]
  have e0 : (0 : Int32).toInt = 0 := by decide
  have e1 : (1 : Int32).toInt = 1 := by decide
  omega
theorem xz3 {a : Int32} (h1 : ¬ a < 0) (h2 : ¬ 2 < a) : a = 0 ∨ a = 1 ∨ a = 2 := by
  rw [xi_lt] at h1 h2; simp only [xi_eq]
  have e0 : (0 : Int32).toInt = 0 := by decide
  have e1 : (1 : Int32).toInt = 1 := by decide
  have e2 : (2 : Int32).toInt = 2 := by decide
  omega
theorem xz4 {a : Int32} (h1 : ¬ a < 0) (h2 : ¬ 3 < a) : a = 0 ∨ a = 1 ∨ a = 2 ∨ a = 3 := by
  rw [xi_lt] at h1 h2; simp only [xi_eq]
  have e0 : (0 : Int32).toInt = 0 := by decide
  have e1 : (1 : Int32).toInt = 1 := by decide
  have e2 : (2 : Int32).toInt = 2 := by decide
  have e3 : (3 : Int32).toInt = 3 := by decide
  omega
theorem xzN {a : Int32} {n : Nat} (hn : n < 2 ^ 31) (h1 : ¬ a < 0) (h2 : ¬ nI n < a) : ∃ j : Nat, j ≤ n ∧ a = nI j := by
  rw [xi_lt] at h1 h2
  have e0 : (0 : Int32).toInt = 0 := by decide
  rw [nI_toInt hn] at h2
  refine ⟨a.toInt.toNat, by omega, ?_⟩
  rw [xi_eq, nI_toInt (by omega)]
  omega
theorem xz17 {a : Int32} (h1 : ¬ a < 0) (h2 : ¬ 16 < a) : a = 0 ∨ a = 1 ∨ a = 2 ∨ a = 3 ∨ a = 4 ∨ a = 5 ∨ a = 6 ∨ a = 7 ∨ a = 8 ∨ a = 9 ∨ a = 10 ∨ a = 11 ∨ a = 12 ∨ a = 13 ∨ a = 14 ∨ a = 15 ∨ a = 16 := by
  obtain ⟨j, hj, rfl⟩ := xzN (n := 16) (by decide) h1 h2
  have : j = 0 ∨ j = 1 ∨ j = 2 ∨ j = 3 ∨ j = 4 ∨ j = 5 ∨ j = 6 ∨ j = 7 ∨ j = 8 ∨ j = 9 ∨ j = 10 ∨ j = 11 ∨ j = 12 ∨ j = 13 ∨ j = 14 ∨ j = 15 ∨ j = 16 := by omega
  rcases this with rfl | rfl | rfl | rfl | rfl | rfl | rfl | rfl | rfl | rfl | rfl | rfl | rfl | rfl | rfl | rfl | rfl <;> decide +kernel
theorem xlt {a b c : Int32} (h : a < b) (h2 : b ≤ c) : a < c := by
  rw [xi_lt] at h ⊢; rw [xi_le] at h2; omega
theorem xlt2 {a b c : Int32} (h2 : a ≤ b) (h : b < c) : a < c := by
  rw [xi_lt] at h ⊢; rw [xi_le] at h2; omega
theorem xge {a b : Int32} (h : a < b) : ¬ b ≤ a := Int32.not_le.mpr h
/-- answers on a new object -/
def sStop0 (a w : Int32) : Int32 := if a < 0 then -1 else if 1 ≤ a then -1 else if w < 0 then -2 else if 2 < w then -2 else if w = 2 then 5 else 0
def sBack0 (a v : Int32) : Int32 := if a < 0 then -1 else if 1 ≤ a then -1 else if v < 0 then -4 else if 30 < v then -6 else if 400 < v * 80 then 400 else v * 80
def sSet0 (a v : Int32) : Int32 := if a < 0 then -2 else if 3 < a then -2 else if a = 0 then (if v < 0 then -4 else if 999 < v then -6 else 400) else if a = 1 then (if v < 20 then -4 else if 200 < v then -6 else 80) else if a = 2 then (if v < 0 then -4 else if 9 < v then -6 else 2) else (if v < 1 then -4 else if 60 < v then -6 else 30)
def sCount0 (w : Int32) : Int32 := if w < 0 then -9 else if 16 < w then -9 else if w = 0 then 1 else if w = 2 then 400 else if w = 3 then 80 else if w = 4 then 2 else if w = 5 then 30 else if w = 8 then -9 else if w = 9 then -9 else if w = 10 then -9 else 0
/-- the refusal of a long -/
def xLg (y : Int32) : Int64 := 4000000000000000000 - y.toInt64
theorem xArr {args : Array Value} {s : State} {ty : FieldType} (h : (Cond.arrayClass ty).before args s = true) : ∃ (cA : ClassId) (kA : Class) (comp : ClassId), s.vm.findClass ("[" ++ ty.toString) = some cA ∧ s.vm.classes[cA]? = some kA ∧ kA.kind = .array comp ty := Cond.arrayClass_spec h
theorem xTys {D : va_G} {s : State} {args : Array Value} (hKc : ∀ (k : Nat) (q : vw_C), vwCl[k]? = some q → u_Kn s q.1 q.2.1 q.2.2 (D.1 k) (D.2 k)) (h1 : (Cond.arrayClass .int).before args s = true) (h2 : (Cond.arrayOver (.object RX0)).before args s = true) (h3 : (Cond.arrayClass .boolean).before args s = true) (h4 : (Cond.arrayClass .char).before args s = true) : ∃ cI cL cZ cC : ClassId, va_K D vwCl (xTy cI cL cZ cC) s := by
  obtain ⟨cI, kI, pI, i1, i2, i3⟩ := xArr h1
  obtain ⟨cZ, kZ, pZ, z1, z2, z3⟩ := xArr h3
  obtain ⟨cC, kC, pC, c1, c2, c3⟩ := xArr h4
  obtain ⟨pL, cL, kL, l1, l2, l3, l4, l5⟩ := Cond.arrayOver_spec h2
  refine ⟨cI, cL, cZ, cC, hKc, fun k q h => ?_⟩
  have h : (xTy cI cL cZ cC)[k]? = some q := h
  rcases k with _ | _ | _ | _ | k
  · cases h; exact ⟨fun n z => ⟨fun k h => (by cases h), kI, i2, pI, i3⟩, i1⟩
  · cases h; exact ⟨fun n z => ⟨fun k h => (by cases h), kL, l3, pL, l4⟩, kL, pL, l3, l4, l1, l5⟩
  · cases h; exact ⟨fun n z => ⟨fun k h => (by cases h), kZ, z2, pZ, z3⟩, z1⟩
  · cases h; exact ⟨fun n z => ⟨fun k h => (by cases h), kC, c2, pC, c3⟩, c1⟩
  · simp [xTy] at h
theorem xno {a b c : Int32} (h : a < b) (h2 : b ≤ c) (h3 : c < a) : False := by
  rw [xi_lt] at h h3; rw [xi_le] at h2; omega

/-! what the class's methods answer, in any state: sums, lines, legs -/
theorem xvin {x : Int32} {n : Nat} (h1 : ¬ x < 0) (h2 : x < nI n) (hn : n < 2 ^ 31) : vp_in x n := by
  rw [vp_in_iff]
  rw [xi_lt] at h1 h2
  rw [nI_toInt hn] at h2
  have e0 : (0 : Int32).toInt = 0 := by decide
  omega
theorem xcl_toNat (x : Int32) : x.toNatClampNeg = x.toInt.toNat := rfl
theorem xcl_le {a : Int32} {k : Nat} (hk : k < 2 ^ 31) (h : ¬ nI k < a) : a.toNatClampNeg ≤ k := by
  rw [xi_lt, nI_toInt hk] at h; rw [xcl_toNat]; omega
theorem xcl_lt {a : Int32} {k : Nat} (hk : k < 2 ^ 31) (h : nI k < a) : k + 1 ≤ a.toNatClampNeg := by
  rw [xi_lt, nI_toInt hk] at h; rw [xcl_toNat]; omega
def xSm (f : Nat → Int32) : Nat → Int32
  | 0 => 0
  | n + 1 => xSm f n + f n
/-- a sum of so many from a place on -/
def xSmF (f : Nat → Int32) (j : Nat) : Nat → Int32
  | 0 => 0
  | n + 1 => xSmF f j n + f (j + n)
def xAcc (a : Int32) (f : Nat → Int32) : Nat → Int32
  | 0 => a
  | n + 1 => xAcc a f n + f (n + 1)
def xWa (ch : Nat → Int32) (mi : Int32) : Int32 := xSm ch (min 12 mi.toNatClampNeg)
def sWt (ne : Int32) (ch : Nat → Int32) (t : Int32) : Int32 := if t = 12 then ne else if t < 0 then 0 else if t < 12 then ch t.toNatClampNeg else 0
def xFst (p : Nat → Bool) : Nat → Nat
  | 0 => 0
  | n + 1 => if xFst p n < n then xFst p n else if p n then n else n + 1
theorem xFst_none {p : Nat → Bool} : ∀ n, (∀ i, i < n → p i = false) → xFst p n = n
  | 0, _ => rfl
  | n + 1, h => by
    have e := xFst_none n (fun i hi => h i (by omega))
    simp [xFst, e, h n (by omega)]
theorem xFst_at {p : Nat → Bool} {k : Nat} (hk : p k = true) (hb : ∀ i, i < k → p i = false) : ∀ n, k < n → xFst p n = k
  | 0, h => absurd h (Nat.not_lt_zero k)
  | n + 1, h => by
    rcases Nat.lt_or_ge k n with q | q
    · have e := xFst_at hk hb n q
      simp [xFst, e, q]
    · obtain rfl : k = n := by omega
      have e := xFst_none k hb
      simp [xFst, e, hk]
def xDr (ch : Nat → Int32) (d : Int32) : Nat := xFst (fun k => decide (d < xSm ch (k + 1))) 12
def sRide (ki ru a : Int32) : Int32 := if 0 < a then (if ki = 1 then a * (ru + 1) else if ki = 3 then a * (ru + 1) + 5 else if ki = 4 then a * ((ru + 1) / 2) else a * ru) else 0
def sHalt (ki a b : Int32) : Int32 := if (ki = 2 ∨ ki = 4) ∧ ¬ a = b ∧ ¬ a - a / 2 * 2 = 0 then 0 else 1
def xYd (st : Nat) (ho : Int32) (lg : Nat → Int32) (j : Nat) : Int32 := if j + 1 < st then lg (j + 1) else ho
def xWy (y q : Int32) : Int32 := if q < 1 then 0 else (y + q - 1) / q
def xWh (st : Nat) (ho pa : Int32) (lg : Nat → Int32) (j : Nat) : Int32 := xSmF (fun i => xWy (xYd st ho lg i) pa) j (st - j)
/-! the same of the reference's row of numbers -/
def xLm (nw : Nat → Int32) (st j : Nat) : Int32 := if j = st then nw 1 else nw (10 + j)
def xRs (nw : Nat → Int32) (st j : Nat) : Int32 := xSmF (fun i => (xLm nw st (i + 1) + nw 2 - 1) / nw 2) j (st - j)
def sRd (ki ru a : Int32) : Int32 := if ki = 1 then ru + 1 else if ki = 3 then ru + (if a = 0 then 6 else 1) else if ki = 4 then (ru + 1) / 2 else ru
def xWt (f : Nat → Int32) (t : Nat) : Int32 := if t = 12 then f 2 else f (3 + t)
def xAc2 (a : Int32) (f : Nat → Int32) (t : Nat) : Nat → Int32
  | 0 => a
  | n + 1 => xAc2 a f t n + f (t + n)
def xWs (f : Nat → Int32) (t : Nat) : Int32 := xAc2 (xWt f 12) (xWt f) t (12 - t)
/-! goers: how long one waits; when he is home -/
def sWait (li a2 a3 i : Int32) : Int32 := if a2 = 0 then (if i = 0 then li else 0) else if a2 = 3 then (if i = 0 then a3 else 0) else if a2 = 5 then (if i = 0 then 2 * a3 else a3) else 0
/-- from stop k in minute mi on: t, rides, waits, ways, halts by stops; how far he looks; the minute of being home by riding; the last way -/
def xGo (t : Int32) (rd wt wy hl : Nat → Int32) (lk hm fl : Int32) : Nat → Nat → Int32 → Int32
  | 0, _, mi => mi + fl
  | n + 1, k, mi => if t < 12 ∧ ¬ hl k = 0 ∧ ¬ t + rd k < mi ∧ ¬ mi + wt k + lk < t + rd k then hm else xGo t rd wt wy hl lk hm fl n (k + 1) (mi + wt k + wy k)
theorem xGo_in {t : Int32} {rd wt wy hl : Nat → Int32} {lk hm fl : Int32} {n k : Nat} {mi : Int32} (h : t < 12 ∧ ¬ hl k = 0 ∧ ¬ t + rd k < mi ∧ ¬ mi + wt k + lk < t + rd k) : xGo t rd wt wy hl lk hm fl (n + 1) k mi = hm := by simp only [xGo]; exact if_pos h
theorem xGo_on {t : Int32} {rd wt wy hl : Nat → Int32} {lk hm fl : Int32} {n k : Nat} {mi : Int32} (h : ¬ (t < 12 ∧ ¬ hl k = 0 ∧ ¬ t + rd k < mi ∧ ¬ mi + wt k + lk < t + rd k)) : xGo t rd wt wy hl lk hm fl (n + 1) k mi = xGo t rd wt wy hl lk hm fl n (k + 1) (mi + wt k + wy k) := by simp only [xGo]; exact if_neg h
theorem xs1 {n k : Nat} (h : k < n) : n - k = (n - (k + 1)) + 1 := by omega
def xLk (si a2 : Int32) : Int32 := if a2 = 2 then si else if a2 = 3 then si else if a2 = 5 then si else 0
def xPc2 (pa a2 : Int32) : Int32 := if a2 = 4 then 2 * pa else pa
/-- a goer of the class -/
def xGh (st : Nat) (ho pa si li : Int32) (lg : Nat → Int32) (ki ru a2 a3 t : Int32) : Int32 :=
  xGo t (fun i => sRide ki ru (nI i)) (fun i => sWait li a2 a3 (nI i)) (fun i => xWy (xYd st ho lg i) (xPc2 pa a2)) (fun i => sHalt ki (nI i) (nI (st - 1))) (xLk si a2) (t + sRide ki ru (nI (st - 1)) + xWy (xYd st ho lg (st - 1)) (xPc2 pa a2)) (xWy (xYd st ho lg (st - 1)) (xPc2 pa a2)) (st - 1) 0 0
/-! a fraction's part: the class's Euclid, a hundred steps at most -/
def xGl : Nat → Int32 → Int32 → Int32
  | 0, d, _ => d
  | n + 1, d, r => if 0 < r then xGl n r (d - d / r * r) else d
def xFr (a b q : Int32) : Int64 := if ¬ 0 < a then (if q = 0 then 0 else 1) else if ¬ 0 < b then (if q = 0 then 0 else 1) else if q = 0 then (a / xGl 100 b (a - a / b * b)).toInt64 else (b / xGl 100 b (a - a / b * b)).toInt64
/-! sums over the minutes -/
def xHs (g w : Nat → Int32) : Int32 := xSm (fun i => w i * g i) 13
def sPH (st : Nat) (wh li t rf u rs : Int32) : Int32 := if st = 1 then wh else if t = 12 ∧ u = 12 then li + wh else if t = u then t + (if rs < rf then rs else rf) else if t < u then t + rf else u + rs
theorem xL3_at {la : Nat → Nat} {a : Nat} (h : a < 3) : va_rf (xL3 (la 0) (la 1) (la 2) (nI a).toNatClampNeg) = Value.ref (la a) := by
  rw [nI_clamp (by omega)]
  rcases (show a = 0 ∨ a = 1 ∨ a = 2 by omega) with rfl | rfl | rfl <;> rfl
/-- two lines: the sum over the first's minutes of the sums over the second's -/
def xPo (w1 : Nat → Int32) (f : Nat → Nat → Int32) : Nat → Int32
  | 0 => 0
  | t + 1 => if 0 < w1 t then xAc2 (xPo w1 f t) (f t) 0 13 else xPo w1 f t
/-! the letters: at a place, -1 behind the end; digits -/
def xAt (lt : Nat → Int32) (len p : Nat) : Int32 := if p < len then lt p else -1
def xIsD (lt : Nat → Int32) (len p : Nat) : Int32 := if xAt lt len p < 48 then 0 else if 57 < xAt lt len p then 0 else 1
def xDp (lt : Nat → Int32) (len p : Nat) : Nat := if xAt lt len p = 108 then p + 2 else p + 1
/-- the first place from e on that holds no digit (so many looked at at most) -/
def xSc (lt : Nat → Int32) (len : Nat) : Nat → Nat → Nat
  | 0, e => e
  | n + 1, e => if xIsD lt len e = 0 then e else xSc lt len n (e + 1)
def xDe (lt : Nat → Int32) (len p : Nat) : Nat := xSc lt len (len - xDp lt len p) (xDp lt len p)
theorem xSc_le (lt : Nat → Int32) (len : Nat) : ∀ n e, e ≤ xSc lt len n e ∧ xSc lt len n e ≤ e + n
  | 0, e => ⟨Nat.le_refl e, Nat.le_refl e⟩
  | n + 1, e => by
    simp only [xSc]
    have h := xSc_le lt len n (e + 1)
    split <;> omega
theorem xDp_le (lt : Nat → Int32) (len p : Nat) : p + 1 ≤ xDp lt len p ∧ xDp lt len p ≤ p + 2 := by unfold xDp; split <;> omega
theorem xDe_le (lt : Nat → Int32) (len p : Nat) : xDp lt len p ≤ xDe lt len p ∧ (xDe lt len p ≤ len ∨ xDe lt len p = xDp lt len p) := by
  have h := xSc_le lt len (len - xDp lt len p) (xDp lt len p)
  unfold xDe
  refine ⟨h.1, ?_⟩
  rcases Nat.lt_or_ge (xDp lt len p) len with q | q
  · left; omega
  · right; omega
def xDg (lt : Nat → Int32) (len p : Nat) : Int32 := if xIsD lt len p = 0 then 0 else xAt lt len p - 48
def xNu (lt : Nat → Int32) (len a : Nat) : Nat → Int32
  | 0 => 0
  | n + 1 => xNu lt len a n * 10 + xDg lt len (a + n)
def xNm (lt : Nat → Int32) (len p : Nat) : Int32 := xNu lt len (xDp lt len p) (xDe lt len p - xDp lt len p)
def sLd (x : Int32) : Int32 := if x = 108 then 3 else if x = 112 then 2 else 1
def sMd (x : Int32) : Int32 := if x = 115 then 3 else if x = 104 then 3 else if x = 112 then 3 else if x = 108 then 14 else if x = 101 then 1 else if x = 109 then 2 else 0
theorem xpos_ne {y : Int32} (h : 0 < y) : ¬ y = 0 := fun w => by rw [w] at h; exact absurd h (by decide)
theorem xGh_spec (st : Nat) (ho pa si li : Int32) (lg : Nat → Int32) (ki ru a2 a3 t : Int32) : ∃ GO : Nat → Nat → Int32 → Int32, xGh st ho pa si li lg ki ru a2 a3 t = GO (st - 1) 0 0 ∧ (∀ k mi, GO 0 k mi = mi + xWy (xYd st ho lg (st - 1)) (xPc2 pa a2)) ∧
    (∀ n k mi, t < 12 ∧ ¬ sHalt ki (nI k) (nI (st - 1)) = 0 ∧ ¬ t + sRide ki ru (nI k) < mi ∧ ¬ mi + sWait li a2 a3 (nI k) + xLk si a2 < t + sRide ki ru (nI k) → GO (n + 1) k mi = t + sRide ki ru (nI (st - 1)) + xWy (xYd st ho lg (st - 1)) (xPc2 pa a2)) ∧
    (∀ n k mi, ¬ (t < 12 ∧ ¬ sHalt ki (nI k) (nI (st - 1)) = 0 ∧ ¬ t + sRide ki ru (nI k) < mi ∧ ¬ mi + sWait li a2 a3 (nI k) + xLk si a2 < t + sRide ki ru (nI k)) → GO (n + 1) k mi = GO n (k + 1) (mi + sWait li a2 a3 (nI k) + xWy (xYd st ho lg k) (xPc2 pa a2))) :=
  ⟨_, rfl, fun _ _ => rfl, fun _ _ _ h => xGo_in h, fun _ _ _ h => xGo_on h⟩

/-! refusals' tests -/
def sNL (n : Nat) (a : Int32) : Int32 := if a < 0 then 1 else if a < nI n then 0 else 1
def sNK (a : Int32) : Int32 := if a < 0 then 1 else if 5 < a then 1 else 0
def sNP (a : Int32) : Int32 := if a < 0 then 1 else if 1 < a then 1 else 0
theorem sNL_bad {n : Nat} {a : Int32} (h : ¬ sNL n a = 0) : sNL n a = 1 := by
  unfold sNL at h ⊢; split <;> simp_all
theorem sNL_ok {n : Nat} {a : Int32} (hn : n < 2 ^ 31) (h : ¬ ¬ sNL n a = 0) : ∃ k, a = nI k ∧ k < n := by
  have h := Classical.not_not.mp h
  unfold sNL at h
  split at h
  · exact absurd h (by decide)
  · rename_i h1
    split at h
    · rename_i h2
      rw [xi_lt] at h1 h2
      rw [nI_toInt hn] at h2
      have e0 : (0 : Int32).toInt = 0 := by decide
      refine ⟨a.toInt.toNat, ?_, by omega⟩
      rw [xi_eq, nI_toInt (by omega)]
      omega
    · exact absurd h (by decide)
def xRq (rf : Nat → Int32) (q : Int32) : Nat → Int32 := if q = 0 then rf else xRf rf q

set_option maxHeartbeats 4000000 in
set_option maxRecDepth 100000 in
theorem g_X0_weight (l : Launch) (D : va_G) (cI cL cZ cC : ClassId) (b0 : Nat) (k0 : Nat) (ki : Int32) (ru : Int32) (ne : Int32) (ch : Nat → Int32) (a1 : Int32)  : Met l yX0_weight wsX0_weight ({ frames := 0, cells := 0, slots := 0, locals := 0 } : Room) (xPc D [.ref b0, .int a1] [(b0, .inr (0, [.int ki, .int ru, .int ne, .ref k0])), (k0, .inl (cI, 12, .inl ch))] (xTy cI cL cZ cC)) (vp_Si (fun r : Int32 => r = sWt ne ch a1)) 0 0 (fun _ => False) := by
  refine Met.ofW (cc := cX0_weight) (maxL := 2) (ret := (some .int)) (by decide) rfl ?_
  intro p e s m args below meth c s₁ B hml hv
  obtain ⟨rfl, hP, hK⟩ := hv
  have hx := B.exec
  have hb := B.bytes
  have hr := B.returns
  have hts := atoms_spec (ws := wsX0_weight) B.pre
  have hown : s.vm.findClass RX0 = some m.cls := findClass_of_methodNamed B.named
  have hlocks := B.notSynchronized
  have hwX0 : ∀ w ∈ u_ws RX0 TX0 4, w ∈ wsX0_weight := fun _ h => List.mem_cons_of_mem _ (List.mem_append_right _ h)
  have hl := lv_entry ([.ref b0, .int a1]) (n := 2) (Nat.le_of_ble_eq_true rfl)
  rw [lg_entry_eq]
  generalize (lg_sl ([.ref b0, .int a1]) ++ List.replicate (2 - (lg_sl ([.ref b0, .int a1])).length) Slot.unset).toArray = ls at hl ⊢
  have hl : lv_has ls 2 [(0, .ref b0), (1, .int a1)] := hl
  refine lv_iload_n hx hb dX0_weight_0 rfl (lv_at hl 1 rfl) ?_
  refine lv_bipush (v := 12) hx hb dX0_weight_1 (by decide) ?_
  refine lv_icmp_ne (tgt := 11) hx hb dX0_weight_3 (by decide) (fun c_1 => ?_) (fun c_1 => ?_)
  · refine lv_iload_n hx hb dX0_weight_11 rfl (lv_at hl 1 rfl) ?_
    refine lv_if_lt (tgt := 30) hx hb dX0_weight_12 (by decide) (fun c_2 => ?_) (fun c_2 => ?_)
    · refine lv_iconst (v := 0) hx hb dX0_weight_30 (by decide) ?_
      exact W.iret (v := 0) hx hb hr (fun t ht hW => ⟨_, rfl, by simp [sWt, c_1, c_2], ht⟩) (fun _ h => absurd h List.not_mem_nil) dX0_weight_31
    · refine lv_iload_n hx hb dX0_weight_15 rfl (lv_at hl 1 rfl) ?_
      refine lv_bipush (v := 12) hx hb dX0_weight_16 (by decide) ?_
      refine lv_icmp_ge (tgt := 30) hx hb dX0_weight_18 (by decide) (fun c_3 => ?_) (fun c_3 => ?_)
      · refine lv_iconst (v := 0) hx hb dX0_weight_30 (by decide) ?_
        exact W.iret (v := 0) hx hb hr (fun t ht hW => ⟨_, rfl, by simp [sWt, c_1, c_2, (Int32.not_lt.mpr c_3)], ht⟩) (fun _ h => absurd h List.not_mem_nil) dX0_weight_31
      · refine lv_aload_n hx hb dX0_weight_21 rfl (lv_at hl 0 rfl) ?_
        refine va_get (D := D) (ci := 0) (v := .ref k0) (C := RX0) (T := TX0) (N := 4) hx hb hts hwX0 hown hK hP 0 rfl rfl 3 (by decide) (hts (.fieldLink RX0 9 "WaitOrWalkOn$Line" "chances" "[I") (by decide +kernel)) (fun _ h9 => h9) rfl dX0_weight_22 ?_
        refine lv_iload_n hx hb dX0_weight_25 rfl (lv_at hl 1 rfl) ?_
        refine va_iald (D := D) hx hb hK hP 1 0 rfl rfl (xvin (n := 12) c_2 (Int32.not_le.mp c_3) (by decide)) dX0_weight_26 ?_
        refine lv_goto (tgt := 31) hx hb dX0_weight_27 (by decide) ?_
        exact W.iret (v := ch a1.toNatClampNeg) hx hb hr (fun t ht hW => ⟨_, rfl, by simp [sWt, c_1, c_2, (Int32.not_le.mp c_3)], ht⟩) (fun _ h => absurd h List.not_mem_nil) dX0_weight_31
  · refine lv_aload_n hx hb dX0_weight_6 rfl (lv_at hl 0 rfl) ?_
    refine va_get (D := D) (ci := 0) (v := .int ne) (C := RX0) (T := TX0) (N := 4) hx hb hts hwX0 hown hK hP 0 rfl rfl 2 (by decide) (hts (.fieldLink RX0 22 "WaitOrWalkOn$Line" "never" "I") (by decide +kernel)) (fun _ h9 => h9) rfl dX0_weight_7 ?_
    exact W.iret (v := ne) hx hb hr (fun t ht hW => ⟨_, rfl, by simp [sWt, c_1], ht⟩) (fun _ h => absurd h List.not_mem_nil) dX0_weight_10

set_option maxHeartbeats 4000000 in
set_option maxRecDepth 100000 in
theorem g_X0_weightAhead (l : Launch) (D : va_G) (cI cL cZ cC : ClassId) (b0 : Nat) (k0 : Nat) (ki : Int32) (ru : Int32) (ne : Int32) (ch : Nat → Int32) (a1 : Int32)  : Met l yX0_weightAhead wsX0_weightAhead ({ frames := 0, cells := 0, slots := 0, locals := 0 } : Room) (xPc D [.ref b0, .int a1] [(b0, .inr (0, [.int ki, .int ru, .int ne, .ref k0])), (k0, .inl (cI, 12, .inl ch))] (xTy cI cL cZ cC)) (vp_Si (fun r : Int32 => r = xWa ch a1)) 0 0 (fun _ => False) := by
  refine Met.ofW (cc := cX0_weightAhead) (maxL := 4) (ret := (some .int)) (by decide) rfl ?_
  intro p e s m args below meth c s₁ B hml hv
  obtain ⟨rfl, hP, hK⟩ := hv
  have hx := B.exec
  have hb := B.bytes
  have hr := B.returns
  have hts := atoms_spec (ws := wsX0_weightAhead) B.pre
  have hown : s.vm.findClass RX0 = some m.cls := findClass_of_methodNamed B.named
  have hlocks := B.notSynchronized
  have hwX0 : ∀ w ∈ u_ws RX0 TX0 4, w ∈ wsX0_weightAhead := fun _ h => List.mem_cons_of_mem _ (List.mem_append_right _ h)
  have hl := lv_entry ([.ref b0, .int a1]) (n := 4) (Nat.le_of_ble_eq_true rfl)
  rw [lg_entry_eq]
  generalize (lg_sl ([.ref b0, .int a1]) ++ List.replicate (4 - (lg_sl ([.ref b0, .int a1])).length) Slot.unset).toArray = ls at hl ⊢
  have hl : lv_has ls 4 [(0, .ref b0), (1, .int a1)] := hl
  refine lv_iconst (v := 0) hx hb dX0_weightAhead_0 (by decide) ?_
  refine lv_istore_n (lv' := [(2, .int 0), (0, .ref b0), (1, .int a1)]) hx hb dX0_weightAhead_1 rfl hl (by decide) rfl (fun ls hl => ?_)
  refine lv_iconst (v := 0) hx hb dX0_weightAhead_2 (by decide) ?_
  refine lv_istore_n (lv' := [(3, .int 0), (2, .int 0), (0, .ref b0), (1, .int a1)]) hx hb dX0_weightAhead_3 rfl hl (by decide) rfl (fun ls hl => ?_)
  refine xl_loop (σ := Nat) (fun n q ls => lv_has ls 4 [(3, .int (nI q)), (2, .int (xSm ch q)), (0, .ref b0), (1, .int a1)] ∧ (12 - q < n) ∧ (q ≤ 12) ∧ (q ≤ a1.toNatClampNeg)) (13) (0) ⟨lv_sub hl [0, 1, 2, 3] rfl, by (try dsimp only); exact ⟨by omega, by omega, by omega⟩⟩ (fun q ls h => absurd h.2.1 (Nat.not_lt_zero _)) ?_
  intro n_4 q_4 ls ih_4 hI_4
  obtain ⟨hl, hI_4⟩ := hI_4
  obtain ⟨k, e_4⟩ : ∃ z, z = q_4 := ⟨_, rfl⟩
  subst e_4
  obtain ⟨h1, h2, h3⟩ := hI_4
  try dsimp only at hl h1 h2 h3
  refine lv_iload_n hx hb dX0_weightAhead_4 rfl (lv_at hl 0 rfl) ?_
  refine lv_bipush (v := 12) hx hb dX0_weightAhead_5 (by decide) ?_
  refine lv_icmp_ge (tgt := 30) hx hb dX0_weightAhead_7 (by decide) (fun c_1 => ?_) (fun c_1 => ?_)
  · refine lv_iload_n hx hb dX0_weightAhead_30 rfl (lv_at hl 1 rfl) ?_
    exact W.iret (v := xSm ch k) hx hb hr (fun t ht hW => ⟨_, rfl, (by have w := mt (nI_ltI (a := k) (b := 12) (by omega) (by omega)).mpr (Int32.not_lt.mpr c_1); exact congrArg (xSm ch) (show k = min 12 a1.toNatClampNeg by omega)), ht⟩) (fun _ h => absurd h List.not_mem_nil) dX0_weightAhead_31
  · refine lv_iload_n hx hb dX0_weightAhead_10 rfl (lv_at hl 0 rfl) ?_
    refine lv_iload_n hx hb dX0_weightAhead_11 rfl (lv_at hl 3 rfl) ?_
    refine lv_icmp_ge (tgt := 30) hx hb dX0_weightAhead_12 (by decide) (fun c_2 => ?_) (fun c_2 => ?_)
    · refine lv_iload_n hx hb dX0_weightAhead_30 rfl (lv_at hl 1 rfl) ?_
      exact W.iret (v := xSm ch k) hx hb hr (fun t ht hW => ⟨_, rfl, (by have w := (nI_ltI (a := k) (b := 12) (by omega) (by omega)).mp (Int32.not_le.mp c_1); have w2 := xcl_le (by omega) (Int32.not_lt.mpr c_2); exact congrArg (xSm ch) (show k = min 12 a1.toNatClampNeg by omega)), ht⟩) (fun _ h => absurd h List.not_mem_nil) dX0_weightAhead_31
    · refine lv_iload_n hx hb dX0_weightAhead_15 rfl (lv_at hl 1 rfl) ?_
      refine lv_aload_n hx hb dX0_weightAhead_16 rfl (lv_at hl 2 rfl) ?_
      refine va_get (D := D) (ci := 0) (v := .ref k0) (C := RX0) (T := TX0) (N := 4) hx hb hts hwX0 hown hK hP 0 rfl rfl 3 (by decide) (hts (.fieldLink RX0 9 "WaitOrWalkOn$Line" "chances" "[I") (by decide +kernel)) (fun _ h9 => h9) rfl dX0_weightAhead_17 ?_
      refine lv_iload_n hx hb dX0_weightAhead_20 rfl (lv_at hl 0 rfl) ?_
      refine va_iald (D := D) hx hb hK hP 1 0 rfl rfl (vp_in_nI (by have w := (nI_ltI (a := k) (b := 12) (by omega) (by omega)).mp (Int32.not_le.mp c_1); omega) (by decide)) dX0_weightAhead_21 ?_
      refine xv_int (y := ch k) (by rw [nI_clamp (by omega)]) ?_
      refine lv_iadd hx hb dX0_weightAhead_22 ?_
      refine xv_int (y := xSm ch (k + 1)) (rfl) ?_
      refine lv_istore_n (lv' := [(2, .int (xSm ch (k + 1))), (3, .int (nI k)), (0, .ref b0), (1, .int a1)]) hx hb dX0_weightAhead_23 rfl hl (by decide) rfl (fun ls hl => ?_)
      refine lv_iinc (v := nI (k + 1)) (lv' := [(3, .int (nI (k + 1))), (2, .int (xSm ch (k + 1))), (0, .ref b0), (1, .int a1)]) hx hb dX0_weightAhead_24 hl (k := 1) rfl (nI_1 k) (by decide) rfl (fun ls hl => ?_)
      refine lv_goto (tgt := 4) hx hb dX0_weightAhead_27 (by decide) ?_
      have w := (nI_ltI (a := k) (b := 12) (by omega) (by omega)).mp (Int32.not_le.mp c_1)
      have w2 := xcl_lt (a := a1) (k := k) (by omega) (Int32.not_le.mp c_2)
      exact ih_4 (k + 1) _ ⟨lv_sub hl [0, 1, 2, 3] rfl, by (try dsimp only); exact ⟨by omega, by omega, w2⟩⟩

set_option maxHeartbeats 4000000 in
set_option maxRecDepth 100000 in
theorem g_X0_total (l : Launch) (D : va_G) (cI cL cZ cC : ClassId) (b0 : Nat) (k0 : Nat) (ki : Int32) (ru : Int32) (ne : Int32) (ch : Nat → Int32)  : Met l yX0_total wsX0_total ({ frames := 1, cells := 0, slots := 0, locals := 23 } : Room) (xPc D [.ref b0] [(b0, .inr (0, [.int ki, .int ru, .int ne, .ref k0])), (k0, .inl (cI, 12, .inl ch))] (xTy cI cL cZ cC)) (vp_Si (fun r : Int32 => r = xSm ch 12 + ne)) 0 0 (fun _ => False) := by
  refine Met.ofW (cc := cX0_total) (maxL := 1) (ret := (some .int)) (by decide) rfl ?_
  intro p e s m args below meth c s₁ B hml hv
  obtain ⟨rfl, hP, hK⟩ := hv
  have hx := B.exec
  have hb := B.bytes
  have hr := B.returns
  have hts := atoms_spec (ws := wsX0_total) B.pre
  have hown : s.vm.findClass RX0 = some m.cls := findClass_of_methodNamed B.named
  have hlocks := B.notSynchronized
  have hwX0 : ∀ w ∈ u_ws RX0 TX0 4, w ∈ wsX0_total := fun _ h => List.mem_cons_of_mem _ (List.mem_append_right _ h)
  have hl := lv_entry ([.ref b0]) (n := 1) (Nat.le_of_ble_eq_true rfl)
  rw [lg_entry_eq]
  generalize (lg_sl ([.ref b0]) ++ List.replicate (1 - (lg_sl ([.ref b0])).length) Slot.unset).toArray = ls at hl ⊢
  have hl : lv_has ls 1 [(0, .ref b0)] := hl
  refine lv_aload_n hx hb dX0_total_0 rfl (lv_at hl 0 rfl) ?_
  refine lv_bipush (v := 12) hx hb dX0_total_1 (by decide) ?_
  have hPc := hP.sub (ws' := [(b0, .inr (0, [.int ki, .int ru, .int ne, .ref k0])), (k0, .inl (cI, 12, .inl ch))]) [0, 1] rfl
  refine vp_callSi (va_Run.run (va_runV (As := [.int 12]) (rest := []) ⟨hx, hb, hml, hown, hts⟩ (g_X0_weightAhead l D cI cL cZ cC b0 k0 ki ru ne ch 12 ) (cwV 1 hts gX0_total_X0_weightAhead rfl rfl rfl (by decide +kernel) ⟨Nat.le_of_ble_eq_true rfl, Nat.le_of_ble_eq_true rfl⟩) ⟨xPc_bl, va_recv hK hPc (ci := 0) (q0 := 0) rfl rfl, xPc_use hPc hK⟩ rfl rfl hl.1 rfl (lv_room (Nat.le_of_ble_eq_true rfl)) dX0_total_3 ⟨Nat.le_of_ble_eq_true rfl, Nat.le_of_ble_eq_true rfl⟩)) (fun r_1 er_1 => ?_)
  obtain rfl : (xWa ch (12 : Int32) : Int32) = r_1 := Eq.symm er_1
  refine xv_int (y := xSm ch 12) (congrArg (xSm ch) (by decide +kernel)) ?_
  refine lv_aload_n hx hb dX0_total_6 rfl (lv_at hl 0 rfl) ?_
  refine va_get (D := D) (ci := 0) (v := .int ne) (C := RX0) (T := TX0) (N := 4) hx hb hts hwX0 hown hK hP 0 rfl rfl 2 (by decide) (hts (.fieldLink RX0 22 "WaitOrWalkOn$Line" "never" "I") (by decide +kernel)) (fun _ h9 => h9) rfl dX0_total_7 ?_
  refine lv_iadd hx hb dX0_total_10 ?_
  exact W.iret (v := (xSm ch 12) + ne) hx hb hr (fun t ht hW => ⟨_, rfl, rfl, ht⟩) (fun _ h => absurd h List.not_mem_nil) dX0_total_11

set_option maxHeartbeats 4000000 in
set_option maxRecDepth 100000 in
theorem g_X0_drawn (l : Launch) (D : va_G) (cI cL cZ cC : ClassId) (b0 : Nat) (k0 : Nat) (ki : Int32) (ru : Int32) (ne : Int32) (ch : Nat → Int32) (a1 : Int32)  : Met l yX0_drawn wsX0_drawn ({ frames := 0, cells := 0, slots := 0, locals := 0 } : Room) (xPc D [.ref b0, .int a1] [(b0, .inr (0, [.int ki, .int ru, .int ne, .ref k0])), (k0, .inl (cI, 12, .inl ch))] (xTy cI cL cZ cC)) (vp_Si (fun r : Int32 => r = nI (xDr ch a1))) 0 0 (fun _ => False) := by
  refine Met.ofW (cc := cX0_drawn) (maxL := 4) (ret := (some .int)) (by decide) rfl ?_
  intro p e s m args below meth c s₁ B hml hv
  obtain ⟨rfl, hP, hK⟩ := hv
  have hx := B.exec
  have hb := B.bytes
  have hr := B.returns
  have hts := atoms_spec (ws := wsX0_drawn) B.pre
  have hown : s.vm.findClass RX0 = some m.cls := findClass_of_methodNamed B.named
  have hlocks := B.notSynchronized
  have hwX0 : ∀ w ∈ u_ws RX0 TX0 4, w ∈ wsX0_drawn := fun _ h => List.mem_cons_of_mem _ (List.mem_append_right _ h)
  have hl := lv_entry ([.ref b0, .int a1]) (n := 4) (Nat.le_of_ble_eq_true rfl)
  rw [lg_entry_eq]
  generalize (lg_sl ([.ref b0, .int a1]) ++ List.replicate (4 - (lg_sl ([.ref b0, .int a1])).length) Slot.unset).toArray = ls at hl ⊢
  have hl : lv_has ls 4 [(0, .ref b0), (1, .int a1)] := hl
  refine lv_iconst (v := 0) hx hb dX0_drawn_0 (by decide) ?_
  refine lv_istore_n (lv' := [(2, .int 0), (0, .ref b0), (1, .int a1)]) hx hb dX0_drawn_1 rfl hl (by decide) rfl (fun ls hl => ?_)
  refine lv_iconst (v := 0) hx hb dX0_drawn_2 (by decide) ?_
  refine lv_istore_n (lv' := [(3, .int 0), (2, .int 0), (0, .ref b0), (1, .int a1)]) hx hb dX0_drawn_3 rfl hl (by decide) rfl (fun ls hl => ?_)
  refine xl_loop (σ := Nat) (fun n q ls => lv_has ls 4 [(3, .int (nI q)), (2, .int (xSm ch q)), (0, .ref b0), (1, .int a1)] ∧ (12 - q < n) ∧ (q ≤ 12) ∧ (∀ i, i < q → ¬ a1 < xSm ch (i + 1))) (13) (0) ⟨lv_sub hl [0, 1, 2, 3] rfl, by (try dsimp only); exact ⟨by omega, by omega, fun i hi => absurd hi (Nat.not_lt_zero i)⟩⟩ (fun q ls h => absurd h.2.1 (Nat.not_lt_zero _)) ?_
  intro n_4 q_4 ls ih_4 hI_4
  obtain ⟨hl, hI_4⟩ := hI_4
  obtain ⟨k, e_4⟩ : ∃ z, z = q_4 := ⟨_, rfl⟩
  subst e_4
  obtain ⟨h1, h2, h3⟩ := hI_4
  try dsimp only at hl h1 h2 h3
  refine lv_iload_n hx hb dX0_drawn_4 rfl (lv_at hl 0 rfl) ?_
  refine lv_bipush (v := 12) hx hb dX0_drawn_5 (by decide) ?_
  refine lv_icmp_ge (tgt := 32) hx hb dX0_drawn_7 (by decide) (fun c_1 => ?_) (fun c_1 => ?_)
  · refine lv_bipush (v := 12) hx hb dX0_drawn_32 (by decide) ?_
    exact W.iret (v := 12) hx hb hr (fun t ht hW => ⟨_, rfl, (by have w := mt (nI_ltI (a := k) (b := 12) (by omega) (by omega)).mpr (Int32.not_lt.mpr c_1); exact congrArg nI (xFst_none 12 (fun i hi => decide_eq_false (h3 i (by omega)))).symm), ht⟩) (fun _ h => absurd h List.not_mem_nil) dX0_drawn_34
  · refine lv_iload_n hx hb dX0_drawn_10 rfl (lv_at hl 1 rfl) ?_
    refine lv_aload_n hx hb dX0_drawn_11 rfl (lv_at hl 2 rfl) ?_
    refine va_get (D := D) (ci := 0) (v := .ref k0) (C := RX0) (T := TX0) (N := 4) hx hb hts hwX0 hown hK hP 0 rfl rfl 3 (by decide) (hts (.fieldLink RX0 9 "WaitOrWalkOn$Line" "chances" "[I") (by decide +kernel)) (fun _ h9 => h9) rfl dX0_drawn_12 ?_
    refine lv_iload_n hx hb dX0_drawn_15 rfl (lv_at hl 0 rfl) ?_
    refine va_iald (D := D) hx hb hK hP 1 0 rfl rfl (vp_in_nI (by have w := (nI_ltI (a := k) (b := 12) (by omega) (by omega)).mp (Int32.not_le.mp c_1); omega) (by decide)) dX0_drawn_16 ?_
    refine xv_int (y := ch k) (by rw [nI_clamp (by omega)]) ?_
    refine lv_iadd hx hb dX0_drawn_17 ?_
    refine xv_int (y := xSm ch (k + 1)) (rfl) ?_
    refine lv_istore_n (lv' := [(2, .int (xSm ch (k + 1))), (3, .int (nI k)), (0, .ref b0), (1, .int a1)]) hx hb dX0_drawn_18 rfl hl (by decide) rfl (fun ls hl => ?_)
    refine lv_iload_n hx hb dX0_drawn_19 rfl (lv_at hl 3 rfl) ?_
    refine lv_iload_n hx hb dX0_drawn_20 rfl (lv_at hl 0 rfl) ?_
    refine lv_icmp_ge (tgt := 26) hx hb dX0_drawn_21 (by decide) (fun c_2 => ?_) (fun c_2 => ?_)
    · refine lv_iinc (v := nI (k + 1)) (lv' := [(3, .int (nI (k + 1))), (2, .int (xSm ch (k + 1))), (0, .ref b0), (1, .int a1)]) hx hb dX0_drawn_26 hl (k := 1) rfl (nI_1 k) (by decide) rfl (fun ls hl => ?_)
      refine lv_goto (tgt := 4) hx hb dX0_drawn_29 (by decide) ?_
      have w := (nI_ltI (a := k) (b := 12) (by omega) (by omega)).mp (Int32.not_le.mp c_1)
      exact ih_4 (k + 1) _ ⟨lv_sub hl [0, 1, 2, 3] rfl, by (try dsimp only); exact ⟨by omega, by omega, fun i hi => by rcases Nat.lt_or_ge i k with q | q; exact h3 i q; (obtain rfl : i = k := by omega); exact (Int32.not_lt.mpr c_2)⟩⟩
    · refine lv_iload_n hx hb dX0_drawn_24 rfl (lv_at hl 1 rfl) ?_
      exact W.iret (v := nI k) hx hb hr (fun t ht hW => ⟨_, rfl, (by have w := (nI_ltI (a := k) (b := 12) (by omega) (by omega)).mp (Int32.not_le.mp c_1); exact congrArg nI (xFst_at (decide_eq_true (Int32.not_le.mp c_2)) (fun i hi => decide_eq_false (h3 i hi)) 12 (by omega)).symm), ht⟩) (fun _ h => absurd h List.not_mem_nil) dX0_drawn_25

set_option maxHeartbeats 4000000 in
set_option maxRecDepth 100000 in
theorem g_X0_rideTo (l : Launch) (D : va_G) (cI cL cZ cC : ClassId) (b0 : Nat) (k0 : Nat) (ki : Int32) (ru : Int32) (ne : Int32) (ch : Nat → Int32) (a1 : Int32)  : Met l yX0_rideTo wsX0_rideTo ({ frames := 0, cells := 0, slots := 0, locals := 0 } : Room) (xPc D [.ref b0, .int a1] [(b0, .inr (0, [.int ki, .int ru, .int ne, .ref k0])), (k0, .inl (cI, 12, .inl ch))] (xTy cI cL cZ cC)) (vp_Si (fun r : Int32 => r = sRide ki ru a1)) 0 0 (fun _ => False) := by
  refine Met.ofW (cc := cX0_rideTo) (maxL := 2) (ret := (some .int)) (by decide) rfl ?_
  intro p e s m args below meth c s₁ B hml hv
  obtain ⟨rfl, hP, hK⟩ := hv
  have hx := B.exec
  have hb := B.bytes
  have hr := B.returns
  have hts := atoms_spec (ws := wsX0_rideTo) B.pre
  have hown : s.vm.findClass RX0 = some m.cls := findClass_of_methodNamed B.named
  have hlocks := B.notSynchronized
  have hwX0 : ∀ w ∈ u_ws RX0 TX0 4, w ∈ wsX0_rideTo := fun _ h => List.mem_cons_of_mem _ (List.mem_append_right _ h)
  have hl := lv_entry ([.ref b0, .int a1]) (n := 2) (Nat.le_of_ble_eq_true rfl)
  rw [lg_entry_eq]
  generalize (lg_sl ([.ref b0, .int a1]) ++ List.replicate (2 - (lg_sl ([.ref b0, .int a1])).length) Slot.unset).toArray = ls at hl ⊢
  have hl : lv_has ls 2 [(0, .ref b0), (1, .int a1)] := hl
  refine lv_iload_n hx hb dX0_rideTo_0 rfl (lv_at hl 1 rfl) ?_
  refine lv_if_gt (tgt := 6) hx hb dX0_rideTo_1 (by decide) (fun c_1 => ?_) (fun c_1 => ?_)
  · refine lv_aload_n hx hb dX0_rideTo_6 rfl (lv_at hl 0 rfl) ?_
    refine va_get (D := D) (ci := 0) (v := .int ki) (C := RX0) (T := TX0) (N := 4) hx hb hts hwX0 hown hK hP 0 rfl rfl 0 (by decide) (hts (.fieldLink RX0 15 "WaitOrWalkOn$Line" "kind" "I") (by decide +kernel)) (fun _ h9 => h9) rfl dX0_rideTo_7 ?_
    by_cases c_2 : ki = 1
    · refine lv_tableIn (off := 30) (tgt := 40) hx hb dX0_rideTo_10 (by rw [c_2]; decide +kernel) (by rw [c_2]; decide +kernel) (by rw [c_2]; decide +kernel) (by decide) ?_
      refine lv_iload_n hx hb dX0_rideTo_40 rfl (lv_at hl 1 rfl) ?_
      refine lv_aload_n hx hb dX0_rideTo_41 rfl (lv_at hl 0 rfl) ?_
      refine va_get (D := D) (ci := 0) (v := .int ru) (C := RX0) (T := TX0) (N := 4) hx hb hts hwX0 hown hK hP 0 rfl rfl 1 (by decide) (hts (.fieldLink RX0 19 "WaitOrWalkOn$Line" "run" "I") (by decide +kernel)) (fun _ h9 => h9) rfl dX0_rideTo_42 ?_
      refine lv_iconst (v := 1) hx hb dX0_rideTo_45 (by decide) ?_
      refine lv_iadd hx hb dX0_rideTo_46 ?_
      refine lv_imul hx hb dX0_rideTo_47 ?_
      exact W.iret (v := a1 * (ru + 1)) hx hb hr (fun t ht hW => ⟨_, rfl, by simp [sRide, c_1, c_2], ht⟩) (fun _ h => absurd h List.not_mem_nil) dX0_rideTo_48
    by_cases c_3 : ki = 2
    · refine lv_tableIn (off := 61) (tgt := 71) hx hb dX0_rideTo_10 (by rw [c_3]; decide +kernel) (by rw [c_3]; decide +kernel) (by rw [c_3]; decide +kernel) (by decide) ?_
      refine lv_iload_n hx hb dX0_rideTo_71 rfl (lv_at hl 1 rfl) ?_
      refine lv_aload_n hx hb dX0_rideTo_72 rfl (lv_at hl 0 rfl) ?_
      refine va_get (D := D) (ci := 0) (v := .int ru) (C := RX0) (T := TX0) (N := 4) hx hb hts hwX0 hown hK hP 0 rfl rfl 1 (by decide) (hts (.fieldLink RX0 19 "WaitOrWalkOn$Line" "run" "I") (by decide +kernel)) (fun _ h9 => h9) rfl dX0_rideTo_73 ?_
      refine lv_imul hx hb dX0_rideTo_76 ?_
      exact W.iret (v := a1 * ru) hx hb hr (fun t ht hW => ⟨_, rfl, by simp [sRide, c_1, c_2, c_3], ht⟩) (fun _ h => absurd h List.not_mem_nil) dX0_rideTo_77
    by_cases c_4 : ki = 3
    · refine lv_tableIn (off := 39) (tgt := 49) hx hb dX0_rideTo_10 (by rw [c_4]; decide +kernel) (by rw [c_4]; decide +kernel) (by rw [c_4]; decide +kernel) (by decide) ?_
      refine lv_iload_n hx hb dX0_rideTo_49 rfl (lv_at hl 1 rfl) ?_
      refine lv_aload_n hx hb dX0_rideTo_50 rfl (lv_at hl 0 rfl) ?_
      refine va_get (D := D) (ci := 0) (v := .int ru) (C := RX0) (T := TX0) (N := 4) hx hb hts hwX0 hown hK hP 0 rfl rfl 1 (by decide) (hts (.fieldLink RX0 19 "WaitOrWalkOn$Line" "run" "I") (by decide +kernel)) (fun _ h9 => h9) rfl dX0_rideTo_51 ?_
      refine lv_iconst (v := 1) hx hb dX0_rideTo_54 (by decide) ?_
      refine lv_iadd hx hb dX0_rideTo_55 ?_
      refine lv_imul hx hb dX0_rideTo_56 ?_
      refine lv_iconst (v := 5) hx hb dX0_rideTo_57 (by decide) ?_
      refine lv_iadd hx hb dX0_rideTo_58 ?_
      exact W.iret (v := (a1 * (ru + 1)) + 5) hx hb hr (fun t ht hW => ⟨_, rfl, by simp [sRide, c_1, c_2, c_3, c_4], ht⟩) (fun _ h => absurd h List.not_mem_nil) dX0_rideTo_59
    by_cases c_5 : ki = 4
    · refine lv_tableIn (off := 50) (tgt := 60) hx hb dX0_rideTo_10 (by rw [c_5]; decide +kernel) (by rw [c_5]; decide +kernel) (by rw [c_5]; decide +kernel) (by decide) ?_
      refine lv_iload_n hx hb dX0_rideTo_60 rfl (lv_at hl 1 rfl) ?_
      refine lv_aload_n hx hb dX0_rideTo_61 rfl (lv_at hl 0 rfl) ?_
      refine va_get (D := D) (ci := 0) (v := .int ru) (C := RX0) (T := TX0) (N := 4) hx hb hts hwX0 hown hK hP 0 rfl rfl 1 (by decide) (hts (.fieldLink RX0 19 "WaitOrWalkOn$Line" "run" "I") (by decide +kernel)) (fun _ h9 => h9) rfl dX0_rideTo_62 ?_
      refine lv_iconst (v := 1) hx hb dX0_rideTo_65 (by decide) ?_
      refine lv_iadd hx hb dX0_rideTo_66 ?_
      refine lv_iconst (v := 2) hx hb dX0_rideTo_67 (by decide) ?_
      refine lv_idiv hx hb dX0_rideTo_68 ((by decide)) ?_
      refine lv_imul hx hb dX0_rideTo_69 ?_
      exact W.iret (v := a1 * ((ru + 1) / 2)) hx hb hr (fun t ht hW => ⟨_, rfl, by simp [sRide, c_1, c_2, c_3, c_4, c_5], ht⟩) (fun _ h => absurd h List.not_mem_nil) dX0_rideTo_70
    refine lv_tableOut (tgt := 71) hx hb dX0_rideTo_10 (by have q_2 : ¬ (ki).toInt = 1 := mt (xi_eq (ki) 1).mpr c_2; have q_3 : ¬ (ki).toInt = 2 := mt (xi_eq (ki) 2).mpr c_3; have q_4 : ¬ (ki).toInt = 3 := mt (xi_eq (ki) 3).mpr c_4; have q_5 : ¬ (ki).toInt = 4 := mt (xi_eq (ki) 4).mpr c_5; omega) (by decide) ?_
    refine lv_iload_n hx hb dX0_rideTo_71 rfl (lv_at hl 1 rfl) ?_
    refine lv_aload_n hx hb dX0_rideTo_72 rfl (lv_at hl 0 rfl) ?_
    refine va_get (D := D) (ci := 0) (v := .int ru) (C := RX0) (T := TX0) (N := 4) hx hb hts hwX0 hown hK hP 0 rfl rfl 1 (by decide) (hts (.fieldLink RX0 19 "WaitOrWalkOn$Line" "run" "I") (by decide +kernel)) (fun _ h9 => h9) rfl dX0_rideTo_73 ?_
    refine lv_imul hx hb dX0_rideTo_76 ?_
    exact W.iret (v := a1 * ru) hx hb hr (fun t ht hW => ⟨_, rfl, by simp [sRide, c_1, c_2, c_3, c_4, c_5], ht⟩) (fun _ h => absurd h List.not_mem_nil) dX0_rideTo_77
  · refine lv_iconst (v := 0) hx hb dX0_rideTo_4 (by decide) ?_
    exact W.iret (v := 0) hx hb hr (fun t ht hW => ⟨_, rfl, by simp [sRide, c_1], ht⟩) (fun _ h => absurd h List.not_mem_nil) dX0_rideTo_5

set_option maxHeartbeats 4000000 in
set_option maxRecDepth 100000 in
theorem g_X0_halts (l : Launch) (D : va_G) (cI cL cZ cC : ClassId) (b0 : Nat) (k0 : Nat) (ki : Int32) (ru : Int32) (ne : Int32) (ch : Nat → Int32) (a1 : Int32) (a2 : Int32)  : Met l yX0_halts wsX0_halts ({ frames := 0, cells := 0, slots := 0, locals := 0 } : Room) (xPc D [.ref b0, .int a1, .int a2] [(b0, .inr (0, [.int ki, .int ru, .int ne, .ref k0])), (k0, .inl (cI, 12, .inl ch))] (xTy cI cL cZ cC)) (vp_Si (fun r : Int32 => r = sHalt ki a1 a2)) 0 0 (fun _ => False) := by
  refine Met.ofW (cc := cX0_halts) (maxL := 4) (ret := (some .boolean)) (by decide) rfl ?_
  intro p e s m args below meth c s₁ B hml hv
  obtain ⟨rfl, hP, hK⟩ := hv
  have hx := B.exec
  have hb := B.bytes
  have hr := B.returns
  have hts := atoms_spec (ws := wsX0_halts) B.pre
  have hown : s.vm.findClass RX0 = some m.cls := findClass_of_methodNamed B.named
  have hlocks := B.notSynchronized
  have hwX0 : ∀ w ∈ u_ws RX0 TX0 4, w ∈ wsX0_halts := fun _ h => List.mem_cons_of_mem _ (List.mem_append_right _ h)
  have hl := lv_entry ([.ref b0, .int a1, .int a2]) (n := 4) (Nat.le_of_ble_eq_true rfl)
  rw [lg_entry_eq]
  generalize (lg_sl ([.ref b0, .int a1, .int a2]) ++ List.replicate (4 - (lg_sl ([.ref b0, .int a1, .int a2])).length) Slot.unset).toArray = ls at hl ⊢
  have hl : lv_has ls 4 [(0, .ref b0), (1, .int a1), (2, .int a2)] := hl
  refine lv_aload_n hx hb dX0_halts_0 rfl (lv_at hl 0 rfl) ?_
  refine va_get (D := D) (ci := 0) (v := .int ki) (C := RX0) (T := TX0) (N := 4) hx hb hts hwX0 hown hK hP 0 rfl rfl 0 (by decide) (hts (.fieldLink RX0 15 "WaitOrWalkOn$Line" "kind" "I") (by decide +kernel)) (fun _ h9 => h9) rfl dX0_halts_1 ?_
  refine lv_iconst (v := 2) hx hb dX0_halts_4 (by decide) ?_
  refine lv_icmp_eq (tgt := 16) hx hb dX0_halts_5 (by decide) (fun c_1 => ?_) (fun c_1 => ?_)
  · refine lv_iconst (v := 1) hx hb dX0_halts_16 (by decide) ?_
    refine lv_goto (tgt := 21) hx hb dX0_halts_17 (by decide) ?_
    refine lv_istore_n (lv' := [(3, .int 1), (0, .ref b0), (1, .int a1), (2, .int a2)]) hx hb dX0_halts_21 rfl hl (by decide) rfl (fun ls hl => ?_)
    refine lv_iload_n hx hb dX0_halts_22 rfl (lv_at hl 0 rfl) ?_
    refine lv_if_eq (tgt := 37) hx hb dX0_halts_23 (by decide) (fun c_2 => absurd c_2 (by decide +kernel)) (fun c_2 => ?_)
    refine lv_iload_n hx hb dX0_halts_26 rfl (lv_at hl 2 rfl) ?_
    refine lv_iload_n hx hb dX0_halts_27 rfl (lv_at hl 3 rfl) ?_
    refine lv_icmp_eq (tgt := 37) hx hb dX0_halts_28 (by decide) (fun c_3 => ?_) (fun c_3 => ?_)
    · refine lv_iconst (v := 1) hx hb dX0_halts_37 (by decide) ?_
      refine lv_goto (tgt := 42) hx hb dX0_halts_38 (by decide) ?_
      exact W.zret (v := 1) (ty := .boolean) hx hb hr (by decide +kernel) (fun t ht hW => ⟨_, rfl, by simp [sHalt, c_1, c_2, c_3], ht⟩) (fun _ h => absurd h List.not_mem_nil) dX0_halts_42
    · refine lv_iload_n hx hb dX0_halts_31 rfl (lv_at hl 2 rfl) ?_
      refine lv_iconst (v := 2) hx hb dX0_halts_32 (by decide) ?_
      refine lv_irem hx hb dX0_halts_33 ((by decide)) ?_
      refine lv_if_ne (tgt := 41) hx hb dX0_halts_34 (by decide) (fun c_4 => ?_) (fun c_4 => ?_)
      · refine lv_iconst (v := 0) hx hb dX0_halts_41 (by decide) ?_
        exact W.zret (v := 0) (ty := .boolean) hx hb hr (by decide +kernel) (fun t ht hW => ⟨_, rfl, by simp [sHalt, c_1, c_2, c_3, c_4], ht⟩) (fun _ h => absurd h List.not_mem_nil) dX0_halts_42
      · refine lv_iconst (v := 1) hx hb dX0_halts_37 (by decide) ?_
        refine lv_goto (tgt := 42) hx hb dX0_halts_38 (by decide) ?_
        exact W.zret (v := 1) (ty := .boolean) hx hb hr (by decide +kernel) (fun t ht hW => ⟨_, rfl, by simp [sHalt, c_1, c_2, c_3, c_4], ht⟩) (fun _ h => absurd h List.not_mem_nil) dX0_halts_42
  · refine lv_aload_n hx hb dX0_halts_8 rfl (lv_at hl 0 rfl) ?_
    refine va_get (D := D) (ci := 0) (v := .int ki) (C := RX0) (T := TX0) (N := 4) hx hb hts hwX0 hown hK hP 0 rfl rfl 0 (by decide) (hts (.fieldLink RX0 15 "WaitOrWalkOn$Line" "kind" "I") (by decide +kernel)) (fun _ h9 => h9) rfl dX0_halts_9 ?_
    refine lv_iconst (v := 4) hx hb dX0_halts_12 (by decide) ?_
    refine lv_icmp_ne (tgt := 20) hx hb dX0_halts_13 (by decide) (fun c_5 => ?_) (fun c_5 => ?_)
    · refine lv_iconst (v := 0) hx hb dX0_halts_20 (by decide) ?_
      refine lv_istore_n (lv' := [(3, .int 0), (0, .ref b0), (1, .int a1), (2, .int a2)]) hx hb dX0_halts_21 rfl hl (by decide) rfl (fun ls hl => ?_)
      refine lv_iload_n hx hb dX0_halts_22 rfl (lv_at hl 0 rfl) ?_
      refine lv_if_eq (tgt := 37) hx hb dX0_halts_23 (by decide) (fun c_6 => ?_) (fun c_6 => absurd c_6 (by decide +kernel))
      refine lv_iconst (v := 1) hx hb dX0_halts_37 (by decide) ?_
      refine lv_goto (tgt := 42) hx hb dX0_halts_38 (by decide) ?_
      exact W.zret (v := 1) (ty := .boolean) hx hb hr (by decide +kernel) (fun t ht hW => ⟨_, rfl, by simp [sHalt, c_1, c_5, c_6], ht⟩) (fun _ h => absurd h List.not_mem_nil) dX0_halts_42
    · refine lv_iconst (v := 1) hx hb dX0_halts_16 (by decide) ?_
      refine lv_goto (tgt := 21) hx hb dX0_halts_17 (by decide) ?_
      refine lv_istore_n (lv' := [(3, .int 1), (0, .ref b0), (1, .int a1), (2, .int a2)]) hx hb dX0_halts_21 rfl hl (by decide) rfl (fun ls hl => ?_)
      refine lv_iload_n hx hb dX0_halts_22 rfl (lv_at hl 0 rfl) ?_
      refine lv_if_eq (tgt := 37) hx hb dX0_halts_23 (by decide) (fun c_7 => absurd c_7 (by decide +kernel)) (fun c_7 => ?_)
      refine lv_iload_n hx hb dX0_halts_26 rfl (lv_at hl 2 rfl) ?_
      refine lv_iload_n hx hb dX0_halts_27 rfl (lv_at hl 3 rfl) ?_
      refine lv_icmp_eq (tgt := 37) hx hb dX0_halts_28 (by decide) (fun c_8 => ?_) (fun c_8 => ?_)
      · refine lv_iconst (v := 1) hx hb dX0_halts_37 (by decide) ?_
        refine lv_goto (tgt := 42) hx hb dX0_halts_38 (by decide) ?_
        exact W.zret (v := 1) (ty := .boolean) hx hb hr (by decide +kernel) (fun t ht hW => ⟨_, rfl, by simp [sHalt, c_1, c_5, c_7, c_8], ht⟩) (fun _ h => absurd h List.not_mem_nil) dX0_halts_42
      · refine lv_iload_n hx hb dX0_halts_31 rfl (lv_at hl 2 rfl) ?_
        refine lv_iconst (v := 2) hx hb dX0_halts_32 (by decide) ?_
        refine lv_irem hx hb dX0_halts_33 ((by decide)) ?_
        refine lv_if_ne (tgt := 41) hx hb dX0_halts_34 (by decide) (fun c_9 => ?_) (fun c_9 => ?_)
        · refine lv_iconst (v := 0) hx hb dX0_halts_41 (by decide) ?_
          exact W.zret (v := 0) (ty := .boolean) hx hb hr (by decide +kernel) (fun t ht hW => ⟨_, rfl, by simp [sHalt, c_1, c_5, c_7, c_8, c_9], ht⟩) (fun _ h => absurd h List.not_mem_nil) dX0_halts_42
        · refine lv_iconst (v := 1) hx hb dX0_halts_37 (by decide) ?_
          refine lv_goto (tgt := 42) hx hb dX0_halts_38 (by decide) ?_
          exact W.zret (v := 1) (ty := .boolean) hx hb hr (by decide +kernel) (fun t ht hW => ⟨_, rfl, by simp [sHalt, c_1, c_5, c_7, c_8, c_9], ht⟩) (fun _ h => absurd h List.not_mem_nil) dX0_halts_42

set_option maxHeartbeats 4000000 in
set_option maxRecDepth 100000 in
theorem g_X2_last (l : Launch) (D : va_G) (cI cL cZ cC : ClassId) (rd : Nat) (r0 : Nat) (r1 : Nat) (st : Nat) (ho : Int32) (pa : Int32) (si : Int32) (li : Int32) (lc : Int32) (lg : Nat → Int32) (hs1 : 1 ≤ st) (hs7 : st ≤ 7) : Met l yX2_last wsX2_last ({ frames := 0, cells := 0, slots := 0, locals := 0 } : Room) (xPc D [.ref rd] [(rd, .inr (2, [.int (nI st), .int ho, .int pa, .int si, .int li, .int lc, .ref r0, .ref r1])), (r0, .inl (cI, 7, .inl lg))] (xTy cI cL cZ cC)) (vp_Si (fun r : Int32 => r = nI (st - 1))) 0 0 (fun _ => False) := by
  refine Met.ofW (cc := cX2_last) (maxL := 1) (ret := (some .int)) (by decide) rfl ?_
  intro p e s m args below meth c s₁ B hml hv
  obtain ⟨rfl, hP, hK⟩ := hv
  have hx := B.exec
  have hb := B.bytes
  have hr := B.returns
  have hts := atoms_spec (ws := wsX2_last) B.pre
  have hown : s.vm.findClass RX2 = some m.cls := findClass_of_methodNamed B.named
  have hlocks := B.notSynchronized
  have hwX2 : ∀ w ∈ u_ws RX2 TX2 8, w ∈ wsX2_last := fun _ h => List.mem_cons_of_mem _ (List.mem_append_right _ h)
  have hl := lv_entry ([.ref rd]) (n := 1) (Nat.le_of_ble_eq_true rfl)
  rw [lg_entry_eq]
  generalize (lg_sl ([.ref rd]) ++ List.replicate (1 - (lg_sl ([.ref rd])).length) Slot.unset).toArray = ls at hl ⊢
  have hl : lv_has ls 1 [(0, .ref rd)] := hl
  refine lv_aload_n hx hb dX2_last_0 rfl (lv_at hl 0 rfl) ?_
  refine va_get (D := D) (ci := 2) (v := .int (nI st)) (C := RX2) (T := TX2) (N := 8) hx hb hts hwX2 hown hK hP 0 rfl rfl 0 (by decide) (hts (.fieldLink RX2 9 "WaitOrWalkOn$Road" "stops" "I") (by decide +kernel)) (fun _ h9 => h9) rfl dX2_last_1 ?_
  refine lv_iconst (v := 1) hx hb dX2_last_4 (by decide) ?_
  refine lv_isub hx hb dX2_last_5 ?_
  refine xv_int (y := nI (st - 1)) (pk_sub hs1) ?_
  exact W.iret (v := nI (st - 1)) hx hb hr (fun t ht hW => ⟨_, rfl, rfl, ht⟩) (fun _ h => absurd h List.not_mem_nil) dX2_last_6

set_option maxHeartbeats 4000000 in
set_option maxRecDepth 100000 in
theorem g_X2_yardsFrom (l : Launch) (D : va_G) (cI cL cZ cC : ClassId) (rd : Nat) (r0 : Nat) (r1 : Nat) (st : Nat) (ho : Int32) (pa : Int32) (si : Int32) (li : Int32) (lc : Int32) (lg : Nat → Int32) (j0 : Nat) (hs1 : 1 ≤ st) (hs7 : st ≤ 7) (hj : j0 ≤ 6) : Met l yX2_yardsFrom wsX2_yardsFrom ({ frames := 0, cells := 0, slots := 0, locals := 0 } : Room) (xPc D [.ref rd, .int (nI j0)] [(rd, .inr (2, [.int (nI st), .int ho, .int pa, .int si, .int li, .int lc, .ref r0, .ref r1])), (r0, .inl (cI, 7, .inl lg))] (xTy cI cL cZ cC)) (vp_Si (fun r : Int32 => r = xYd st ho lg j0)) 0 0 (fun _ => False) := by
  refine Met.ofW (cc := cX2_yardsFrom) (maxL := 2) (ret := (some .int)) (by decide) rfl ?_
  intro p e s m args below meth c s₁ B hml hv
  obtain ⟨rfl, hP, hK⟩ := hv
  have hx := B.exec
  have hb := B.bytes
  have hr := B.returns
  have hts := atoms_spec (ws := wsX2_yardsFrom) B.pre
  have hown : s.vm.findClass RX2 = some m.cls := findClass_of_methodNamed B.named
  have hlocks := B.notSynchronized
  have hwX2 : ∀ w ∈ u_ws RX2 TX2 8, w ∈ wsX2_yardsFrom := fun _ h => List.mem_cons_of_mem _ (List.mem_append_right _ h)
  have hl := lv_entry ([.ref rd, .int (nI j0)]) (n := 2) (Nat.le_of_ble_eq_true rfl)
  rw [lg_entry_eq]
  generalize (lg_sl ([.ref rd, .int (nI j0)]) ++ List.replicate (2 - (lg_sl ([.ref rd, .int (nI j0)])).length) Slot.unset).toArray = ls at hl ⊢
  have hl : lv_has ls 2 [(0, .ref rd), (1, .int (nI j0))] := hl
  refine lv_iload_n hx hb dX2_yardsFrom_0 rfl (lv_at hl 1 rfl) ?_
  refine lv_if_lt (tgt := 25) hx hb dX2_yardsFrom_1 (by decide) (fun c_1 => absurd c_1 (nI_pos (by omega))) (fun c_1 => ?_)
  refine lv_iload_n hx hb dX2_yardsFrom_4 rfl (lv_at hl 1 rfl) ?_
  refine lv_aload_n hx hb dX2_yardsFrom_5 rfl (lv_at hl 0 rfl) ?_
  refine va_get (D := D) (ci := 2) (v := .int (nI st)) (C := RX2) (T := TX2) (N := 8) hx hb hts hwX2 hown hK hP 0 rfl rfl 0 (by decide) (hts (.fieldLink RX2 9 "WaitOrWalkOn$Road" "stops" "I") (by decide +kernel)) (fun _ h9 => h9) rfl dX2_yardsFrom_6 ?_
  refine lv_iconst (v := 1) hx hb dX2_yardsFrom_9 (by decide) ?_
  refine lv_isub hx hb dX2_yardsFrom_10 ?_
  refine xv_int (y := nI (st - 1)) (pk_sub hs1) ?_
  refine lv_icmp_ge (tgt := 25) hx hb dX2_yardsFrom_11 (by decide) (fun c_2 => ?_) (fun c_2 => ?_)
  · refine lv_aload_n hx hb dX2_yardsFrom_25 rfl (lv_at hl 0 rfl) ?_
    refine va_get (D := D) (ci := 2) (v := .int ho) (C := RX2) (T := TX2) (N := 8) hx hb hts hwX2 hown hK hP 0 rfl rfl 1 (by decide) (hts (.fieldLink RX2 15 "WaitOrWalkOn$Road" "home" "I") (by decide +kernel)) (fun _ h9 => h9) rfl dX2_yardsFrom_26 ?_
    exact W.iret (v := ho) hx hb hr (fun t ht hW => ⟨_, rfl, (by have w := mt (nI_ltI (a := j0) (b := st - 1) (by omega) (by omega)).mpr (Int32.not_lt.mpr c_2); exact (if_neg (by omega)).symm), ht⟩) (fun _ h => absurd h List.not_mem_nil) dX2_yardsFrom_29
  · refine lv_aload_n hx hb dX2_yardsFrom_14 rfl (lv_at hl 0 rfl) ?_
    refine va_get (D := D) (ci := 2) (v := .ref r0) (C := RX2) (T := TX2) (N := 8) hx hb hts hwX2 hown hK hP 0 rfl rfl 6 (by decide) (hts (.fieldLink RX2 30 "WaitOrWalkOn$Road" "legs" "[I") (by decide +kernel)) (fun _ h9 => h9) rfl dX2_yardsFrom_15 ?_
    refine lv_iload_n hx hb dX2_yardsFrom_18 rfl (lv_at hl 1 rfl) ?_
    refine lv_iconst (v := 1) hx hb dX2_yardsFrom_19 (by decide) ?_
    refine lv_iadd hx hb dX2_yardsFrom_20 ?_
    refine xv_int (y := nI (j0 + 1)) (nI_1 j0) ?_
    refine va_iald (D := D) hx hb hK hP 1 0 rfl rfl (vp_in_nI (by have w := (nI_ltI (a := j0) (b := st - 1) (by omega) (by omega)).mp (Int32.not_le.mp c_2); omega) (by decide)) dX2_yardsFrom_21 ?_
    refine xv_int (y := lg (j0 + 1)) (by rw [nI_clamp (by omega)]) ?_
    refine lv_goto (tgt := 29) hx hb dX2_yardsFrom_22 (by decide) ?_
    exact W.iret (v := lg (j0 + 1)) hx hb hr (fun t ht hW => ⟨_, rfl, (by have w := (nI_ltI (a := j0) (b := st - 1) (by omega) (by omega)).mp (Int32.not_le.mp c_2); exact (if_pos (by omega)).symm), ht⟩) (fun _ h => absurd h List.not_mem_nil) dX2_yardsFrom_29

set_option maxHeartbeats 4000000 in
set_option maxRecDepth 100000 in
theorem g_X2_wayFrom (l : Launch) (D : va_G) (cI cL cZ cC : ClassId) (rd : Nat) (r0 : Nat) (r1 : Nat) (st : Nat) (ho : Int32) (pa : Int32) (si : Int32) (li : Int32) (lc : Int32) (lg : Nat → Int32) (j0 : Nat) (a2 : Int32) (hs1 : 1 ≤ st) (hs7 : st ≤ 7) (hj : j0 ≤ 6) : Met l yX2_wayFrom wsX2_wayFrom ({ frames := 1, cells := 0, slots := 0, locals := 21 } : Room) (xPc D [.ref rd, .int (nI j0), .int a2] [(rd, .inr (2, [.int (nI st), .int ho, .int pa, .int si, .int li, .int lc, .ref r0, .ref r1])), (r0, .inl (cI, 7, .inl lg))] (xTy cI cL cZ cC)) (vp_Si (fun r : Int32 => r = xWy (xYd st ho lg j0) a2)) 0 0 (fun _ => False) := by
  refine Met.ofW (cc := cX2_wayFrom) (maxL := 3) (ret := (some .int)) (by decide) rfl ?_
  intro p e s m args below meth c s₁ B hml hv
  obtain ⟨rfl, hP, hK⟩ := hv
  have hx := B.exec
  have hb := B.bytes
  have hr := B.returns
  have hts := atoms_spec (ws := wsX2_wayFrom) B.pre
  have hown : s.vm.findClass RX2 = some m.cls := findClass_of_methodNamed B.named
  have hlocks := B.notSynchronized
  have hl := lv_entry ([.ref rd, .int (nI j0), .int a2]) (n := 3) (Nat.le_of_ble_eq_true rfl)
  rw [lg_entry_eq]
  generalize (lg_sl ([.ref rd, .int (nI j0), .int a2]) ++ List.replicate (3 - (lg_sl ([.ref rd, .int (nI j0), .int a2])).length) Slot.unset).toArray = ls at hl ⊢
  have hl : lv_has ls 3 [(0, .ref rd), (1, .int (nI j0)), (2, .int a2)] := hl
  refine lv_iload_n hx hb dX2_wayFrom_0 rfl (lv_at hl 2 rfl) ?_
  refine lv_iconst (v := 1) hx hb dX2_wayFrom_1 (by decide) ?_
  refine lv_icmp_ge (tgt := 9) hx hb dX2_wayFrom_2 (by decide) (fun c_1 => ?_) (fun c_1 => ?_)
  · refine lv_aload_n hx hb dX2_wayFrom_9 rfl (lv_at hl 0 rfl) ?_
    refine lv_iload_n hx hb dX2_wayFrom_10 rfl (lv_at hl 1 rfl) ?_
    have hPc := hP.sub (ws' := [(rd, .inr (2, [.int (nI st), .int ho, .int pa, .int si, .int li, .int lc, .ref r0, .ref r1])), (r0, .inl (cI, 7, .inl lg))]) [0, 1] rfl
    refine vp_callSi (va_Run.run (va_runV (As := [.int (nI j0)]) (rest := []) ⟨hx, hb, hml, hown, hts⟩ (g_X2_yardsFrom l D cI cL cZ cC rd r0 r1 st ho pa si li lc lg j0 (by first | assumption | decide +kernel) (by first | assumption | decide +kernel) (by first | assumption | decide +kernel)) (cwV 1 hts gX2_wayFrom_X2_yardsFrom rfl rfl rfl (by decide +kernel) ⟨Nat.le_of_ble_eq_true rfl, Nat.le_of_ble_eq_true rfl⟩) ⟨xPc_bl, va_recv hK hPc (ci := 2) (q0 := 0) rfl rfl, xPc_use hPc hK⟩ rfl rfl hl.1 rfl (lv_room (Nat.le_of_ble_eq_true rfl)) dX2_wayFrom_11 ⟨Nat.le_of_ble_eq_true rfl, Nat.le_of_ble_eq_true rfl⟩)) (fun r_2 er_2 => ?_)
    obtain rfl : (xYd st ho lg j0 : Int32) = r_2 := Eq.symm er_2
    refine lv_iload_n hx hb dX2_wayFrom_14 rfl (lv_at hl 2 rfl) ?_
    refine lv_iadd hx hb dX2_wayFrom_15 ?_
    refine lv_iconst (v := 1) hx hb dX2_wayFrom_16 (by decide) ?_
    refine lv_isub hx hb dX2_wayFrom_17 ?_
    refine lv_iload_n hx hb dX2_wayFrom_18 rfl (lv_at hl 2 rfl) ?_
    refine lv_idiv hx hb dX2_wayFrom_19 (fun w => (w ▸ (Int32.not_lt.mpr c_1) : ¬ (0 : Int32) < 1) (by decide)) ?_
    exact W.iret (v := (((xYd st ho lg j0) + a2) - 1) / a2) hx hb hr (fun t ht hW => ⟨_, rfl, by simp [xWy, (Int32.not_lt.mpr c_1)], ht⟩) (fun _ h => absurd h List.not_mem_nil) dX2_wayFrom_20
  · refine lv_iconst (v := 0) hx hb dX2_wayFrom_5 (by decide) ?_
    refine lv_goto (tgt := 20) hx hb dX2_wayFrom_6 (by decide) ?_
    exact W.iret (v := 0) hx hb hr (fun t ht hW => ⟨_, rfl, by simp [xWy, (Int32.not_le.mp c_1)], ht⟩) (fun _ h => absurd h List.not_mem_nil) dX2_wayFrom_20

set_option maxHeartbeats 4000000 in
set_option maxRecDepth 100000 in
theorem g_X2_walkHome (l : Launch) (D : va_G) (cI cL cZ cC : ClassId) (rd : Nat) (r0 : Nat) (r1 : Nat) (st : Nat) (ho : Int32) (pa : Int32) (si : Int32) (li : Int32) (lc : Int32) (lg : Nat → Int32) (j0 : Nat) (hs1 : 1 ≤ st) (hs7 : st ≤ 7) (hj : j0 ≤ 6) : Met l yX2_walkHome wsX2_walkHome ({ frames := 2, cells := 0, slots := 0, locals := 43 } : Room) (xPc D [.ref rd, .int (nI j0)] [(rd, .inr (2, [.int (nI st), .int ho, .int pa, .int si, .int li, .int lc, .ref r0, .ref r1])), (r0, .inl (cI, 7, .inl lg))] (xTy cI cL cZ cC)) (vp_Si (fun r : Int32 => r = xWh st ho pa lg j0)) 0 0 (fun _ => False) := by
  refine Met.ofW (cc := cX2_walkHome) (maxL := 4) (ret := (some .int)) (by decide) rfl ?_
  intro p e s m args below meth c s₁ B hml hv
  obtain ⟨rfl, hP, hK⟩ := hv
  have hx := B.exec
  have hb := B.bytes
  have hr := B.returns
  have hts := atoms_spec (ws := wsX2_walkHome) B.pre
  have hown : s.vm.findClass RX2 = some m.cls := findClass_of_methodNamed B.named
  have hlocks := B.notSynchronized
  have hwX2 : ∀ w ∈ u_ws RX2 TX2 8, w ∈ wsX2_walkHome := fun _ h => List.mem_cons_of_mem _ (List.mem_append_right _ h)
  have hl := lv_entry ([.ref rd, .int (nI j0)]) (n := 4) (Nat.le_of_ble_eq_true rfl)
  rw [lg_entry_eq]
  generalize (lg_sl ([.ref rd, .int (nI j0)]) ++ List.replicate (4 - (lg_sl ([.ref rd, .int (nI j0)])).length) Slot.unset).toArray = ls at hl ⊢
  have hl : lv_has ls 4 [(0, .ref rd), (1, .int (nI j0))] := hl
  refine lv_iconst (v := 0) hx hb dX2_walkHome_0 (by decide) ?_
  refine lv_istore_n (lv' := [(2, .int 0), (0, .ref rd), (1, .int (nI j0))]) hx hb dX2_walkHome_1 rfl hl (by decide) rfl (fun ls hl => ?_)
  refine lv_iload_n hx hb dX2_walkHome_2 rfl (lv_at hl 2 rfl) ?_
  refine lv_istore_n (lv' := [(3, .int (nI j0)), (2, .int 0), (0, .ref rd), (1, .int (nI j0))]) hx hb dX2_walkHome_3 rfl hl (by decide) rfl (fun ls hl => ?_)
  refine xl_loop (σ := Nat) (fun n q ls => lv_has ls 4 [(3, .int (nI (j0 + q))), (2, .int (xSmF (fun i => xWy (xYd st ho lg i) pa) j0 q)), (0, .ref rd), (1, .int (nI j0))] ∧ (st - (j0 + q) < n) ∧ (q ≤ st - j0)) (st + 1) (0) ⟨lv_sub hl [0, 1, 2, 3] rfl, by (try dsimp only); exact ⟨by omega, by omega⟩⟩ (fun q ls h => absurd h.2.1 (Nat.not_lt_zero _)) ?_
  intro n_4 q_4 ls ih_4 hI_4
  obtain ⟨hl, hI_4⟩ := hI_4
  obtain ⟨k, e_4⟩ : ∃ z, z = q_4 := ⟨_, rfl⟩
  subst e_4
  obtain ⟨h1, h2⟩ := hI_4
  try dsimp only at hl h1 h2
  refine lv_iload_n hx hb dX2_walkHome_4 rfl (lv_at hl 0 rfl) ?_
  refine lv_aload_n hx hb dX2_walkHome_5 rfl (lv_at hl 2 rfl) ?_
  refine va_get (D := D) (ci := 2) (v := .int (nI st)) (C := RX2) (T := TX2) (N := 8) hx hb hts hwX2 hown hK hP 0 rfl rfl 0 (by decide) (hts (.fieldLink RX2 9 "WaitOrWalkOn$Road" "stops" "I") (by decide +kernel)) (fun _ h9 => h9) rfl dX2_walkHome_6 ?_
  refine lv_icmp_ge (tgt := 30) hx hb dX2_walkHome_9 (by decide) (fun c_1 => ?_) (fun c_1 => ?_)
  · refine lv_iload_n hx hb dX2_walkHome_30 rfl (lv_at hl 1 rfl) ?_
    exact W.iret (v := xSmF (fun i => xWy (xYd st ho lg i) pa) j0 k) hx hb hr (fun t ht hW => ⟨_, rfl, (by have w := mt (nI_ltI (a := j0 + k) (b := st) (by omega) (by omega)).mpr (Int32.not_lt.mpr c_1); exact congrArg (xSmF _ j0) (show k = st - j0 by omega)), ht⟩) (fun _ h => absurd h List.not_mem_nil) dX2_walkHome_31
  · refine lv_iload_n hx hb dX2_walkHome_12 rfl (lv_at hl 1 rfl) ?_
    refine lv_aload_n hx hb dX2_walkHome_13 rfl (lv_at hl 2 rfl) ?_
    refine lv_iload_n hx hb dX2_walkHome_14 rfl (lv_at hl 0 rfl) ?_
    refine lv_aload_n hx hb dX2_walkHome_15 rfl (lv_at hl 2 rfl) ?_
    refine va_get (D := D) (ci := 2) (v := .int pa) (C := RX2) (T := TX2) (N := 8) hx hb hts hwX2 hown hK hP 0 rfl rfl 2 (by decide) (hts (.fieldLink RX2 18 "WaitOrWalkOn$Road" "pace" "I") (by decide +kernel)) (fun _ h9 => h9) rfl dX2_walkHome_16 ?_
    have hPc := hP.sub (ws' := [(rd, .inr (2, [.int (nI st), .int ho, .int pa, .int si, .int li, .int lc, .ref r0, .ref r1])), (r0, .inl (cI, 7, .inl lg))]) [0, 1] rfl
    refine vp_callSi (va_Run.run (va_runV (As := [.int (nI (j0 + k)), .int pa]) (rest := [.int (xSmF (fun i => xWy (xYd st ho lg i) pa) j0 k)]) ⟨hx, hb, hml, hown, hts⟩ (g_X2_wayFrom l D cI cL cZ cC rd r0 r1 st ho pa si li lc lg (j0 + k) pa (by first | assumption | decide +kernel) (by first | assumption | decide +kernel) (by have w := (nI_ltI (a := j0 + k) (b := st) (by omega) (by omega)).mp (Int32.not_le.mp c_1); omega)) (cwV 2 hts gX2_walkHome_X2_wayFrom rfl rfl rfl (by decide +kernel) ⟨Nat.le_of_ble_eq_true rfl, Nat.le_of_ble_eq_true rfl⟩) ⟨xPc_bl, va_recv hK hPc (ci := 2) (q0 := 0) rfl rfl, xPc_use hPc hK⟩ rfl rfl hl.1 rfl (lv_room (Nat.le_of_ble_eq_true rfl)) dX2_walkHome_19 ⟨Nat.le_of_ble_eq_true rfl, Nat.le_of_ble_eq_true rfl⟩)) (fun r_2 er_2 => ?_)
    obtain rfl : (xWy (xYd st ho lg (j0 + k)) pa : Int32) = r_2 := Eq.symm er_2
    refine lv_iadd hx hb dX2_walkHome_22 ?_
    refine xv_int (y := xSmF (fun i => xWy (xYd st ho lg i) pa) j0 (k + 1)) (rfl) ?_
    refine lv_istore_n (lv' := [(2, .int (xSmF (fun i => xWy (xYd st ho lg i) pa) j0 (k + 1))), (3, .int (nI (j0 + k))), (0, .ref rd), (1, .int (nI j0))]) hx hb dX2_walkHome_23 rfl hl (by decide) rfl (fun ls hl => ?_)
    refine lv_iinc (v := nI (j0 + (k + 1))) (lv' := [(3, .int (nI (j0 + (k + 1)))), (2, .int (xSmF (fun i => xWy (xYd st ho lg i) pa) j0 (k + 1))), (0, .ref rd), (1, .int (nI j0))]) hx hb dX2_walkHome_24 hl (k := 1) rfl (nI_1 (j0 + k)) (by decide) rfl (fun ls hl => ?_)
    refine lv_goto (tgt := 4) hx hb dX2_walkHome_27 (by decide) ?_
    have w := (nI_ltI (a := j0 + k) (b := st) (by omega) (by omega)).mp (Int32.not_le.mp c_1)
    exact ih_4 (k + 1) _ ⟨lv_sub hl [0, 1, 2, 3] rfl, by (try dsimp only); exact ⟨by omega, by omega⟩⟩

set_option maxHeartbeats 4000000 in
set_option maxRecDepth 100000 in
theorem g_X2_yards (l : Launch) (D : va_G) (cI cL cZ cC : ClassId) (rd : Nat) (r0 : Nat) (r1 : Nat) (st : Nat) (ho : Int32) (pa : Int32) (si : Int32) (li : Int32) (lc : Int32) (lg : Nat → Int32) (hs1 : 1 ≤ st) (hs7 : st ≤ 7) : Met l yX2_yards wsX2_yards ({ frames := 0, cells := 0, slots := 0, locals := 0 } : Room) (xPc D [.ref rd] [(rd, .inr (2, [.int (nI st), .int ho, .int pa, .int si, .int li, .int lc, .ref r0, .ref r1])), (r0, .inl (cI, 7, .inl lg))] (xTy cI cL cZ cC)) (vp_Si (fun r : Int32 => r = xAcc ho lg (st - 1))) 0 0 (fun _ => False) := by
  refine Met.ofW (cc := cX2_yards) (maxL := 3) (ret := (some .int)) (by decide) rfl ?_
  intro p e s m args below meth c s₁ B hml hv
  obtain ⟨rfl, hP, hK⟩ := hv
  have hx := B.exec
  have hb := B.bytes
  have hr := B.returns
  have hts := atoms_spec (ws := wsX2_yards) B.pre
  have hown : s.vm.findClass RX2 = some m.cls := findClass_of_methodNamed B.named
  have hlocks := B.notSynchronized
  have hwX2 : ∀ w ∈ u_ws RX2 TX2 8, w ∈ wsX2_yards := fun _ h => List.mem_cons_of_mem _ (List.mem_append_right _ h)
  have hl := lv_entry ([.ref rd]) (n := 3) (Nat.le_of_ble_eq_true rfl)
  rw [lg_entry_eq]
  generalize (lg_sl ([.ref rd]) ++ List.replicate (3 - (lg_sl ([.ref rd])).length) Slot.unset).toArray = ls at hl ⊢
  have hl : lv_has ls 3 [(0, .ref rd)] := hl
  refine lv_aload_n hx hb dX2_yards_0 rfl (lv_at hl 0 rfl) ?_
  refine va_get (D := D) (ci := 2) (v := .int ho) (C := RX2) (T := TX2) (N := 8) hx hb hts hwX2 hown hK hP 0 rfl rfl 1 (by decide) (hts (.fieldLink RX2 15 "WaitOrWalkOn$Road" "home" "I") (by decide +kernel)) (fun _ h9 => h9) rfl dX2_yards_1 ?_
  refine lv_istore_n (lv' := [(1, .int ho), (0, .ref rd)]) hx hb dX2_yards_4 rfl hl (by decide) rfl (fun ls hl => ?_)
  refine lv_iconst (v := 1) hx hb dX2_yards_5 (by decide) ?_
  refine lv_istore_n (lv' := [(2, .int 1), (1, .int ho), (0, .ref rd)]) hx hb dX2_yards_6 rfl hl (by decide) rfl (fun ls hl => ?_)
  refine xl_loop (σ := Nat) (fun n q ls => lv_has ls 3 [(2, .int (nI (q + 1))), (1, .int (xAcc ho lg q)), (0, .ref rd)] ∧ (st - (q + 1) < n) ∧ (q + 1 ≤ st)) (st + 1) (0) ⟨lv_sub hl [0, 1, 2] rfl, by (try dsimp only); exact ⟨by omega, by omega⟩⟩ (fun q ls h => absurd h.2.1 (Nat.not_lt_zero _)) ?_
  intro n_7 q_7 ls ih_7 hI_7
  obtain ⟨hl, hI_7⟩ := hI_7
  obtain ⟨k, e_7⟩ : ∃ z, z = q_7 := ⟨_, rfl⟩
  subst e_7
  obtain ⟨h1, h2⟩ := hI_7
  try dsimp only at hl h1 h2
  refine lv_iload_n hx hb dX2_yards_7 rfl (lv_at hl 0 rfl) ?_
  refine lv_aload_n hx hb dX2_yards_8 rfl (lv_at hl 2 rfl) ?_
  refine va_get (D := D) (ci := 2) (v := .int (nI st)) (C := RX2) (T := TX2) (N := 8) hx hb hts hwX2 hown hK hP 0 rfl rfl 0 (by decide) (hts (.fieldLink RX2 9 "WaitOrWalkOn$Road" "stops" "I") (by decide +kernel)) (fun _ h9 => h9) rfl dX2_yards_9 ?_
  refine lv_icmp_ge (tgt := 30) hx hb dX2_yards_12 (by decide) (fun c_1 => ?_) (fun c_1 => ?_)
  · refine lv_iload_n hx hb dX2_yards_30 rfl (lv_at hl 1 rfl) ?_
    exact W.iret (v := xAcc ho lg k) hx hb hr (fun t ht hW => ⟨_, rfl, (by have w := mt (nI_ltI (a := k + 1) (b := st) (by omega) (by omega)).mpr (Int32.not_lt.mpr c_1); exact congrArg (xAcc ho lg) (show k = st - 1 by omega)), ht⟩) (fun _ h => absurd h List.not_mem_nil) dX2_yards_31
  · refine lv_iload_n hx hb dX2_yards_15 rfl (lv_at hl 1 rfl) ?_
    refine lv_aload_n hx hb dX2_yards_16 rfl (lv_at hl 2 rfl) ?_
    refine va_get (D := D) (ci := 2) (v := .ref r0) (C := RX2) (T := TX2) (N := 8) hx hb hts hwX2 hown hK hP 0 rfl rfl 6 (by decide) (hts (.fieldLink RX2 30 "WaitOrWalkOn$Road" "legs" "[I") (by decide +kernel)) (fun _ h9 => h9) rfl dX2_yards_17 ?_
    refine lv_iload_n hx hb dX2_yards_20 rfl (lv_at hl 0 rfl) ?_
    refine va_iald (D := D) hx hb hK hP 1 0 rfl rfl (vp_in_nI (by have w := (nI_ltI (a := k + 1) (b := st) (by omega) (by omega)).mp (Int32.not_le.mp c_1); omega) (by decide)) dX2_yards_21 ?_
    refine xv_int (y := lg (k + 1)) (by rw [nI_clamp (by omega)]) ?_
    refine lv_iadd hx hb dX2_yards_22 ?_
    refine xv_int (y := xAcc ho lg (k + 1)) (rfl) ?_
    refine lv_istore_n (lv' := [(1, .int (xAcc ho lg (k + 1))), (2, .int (nI (k + 1))), (0, .ref rd)]) hx hb dX2_yards_23 rfl hl (by decide) rfl (fun ls hl => ?_)
    refine lv_iinc (v := nI (k + 1 + 1)) (lv' := [(2, .int (nI (k + 1 + 1))), (1, .int (xAcc ho lg (k + 1))), (0, .ref rd)]) hx hb dX2_yards_24 hl (k := 1) rfl (nI_1 (k + 1)) (by decide) rfl (fun ls hl => ?_)
    refine lv_goto (tgt := 7) hx hb dX2_yards_27 (by decide) ?_
    have w := (nI_ltI (a := k + 1) (b := st) (by omega) (by omega)).mp (Int32.not_le.mp c_1)
    exact ih_7 (k + 1) _ ⟨lv_sub hl [0, 1, 2] rfl, by (try dsimp only); exact ⟨by omega, by omega⟩⟩

set_option maxHeartbeats 4000000 in
set_option maxRecDepth 100000 in
theorem g_X2_rideHome (l : Launch) (D : va_G) (cI cL cZ cC : ClassId) (rd : Nat) (r0 : Nat) (r1 : Nat) (st : Nat) (ho : Int32) (pa : Int32) (si : Int32) (li : Int32) (lc : Int32) (lg : Nat → Int32) (b0 : Nat) (k0 : Nat) (ki : Int32) (ru : Int32) (ne : Int32) (ch : Nat → Int32) (hs1 : 1 ≤ st) (hs7 : st ≤ 7) : Met l yX2_rideHome wsX2_rideHome ({ frames := 2, cells := 0, slots := 0, locals := 43 } : Room) (xPc D [.ref rd, .ref b0] [(rd, .inr (2, [.int (nI st), .int ho, .int pa, .int si, .int li, .int lc, .ref r0, .ref r1])), (r0, .inl (cI, 7, .inl lg)), (b0, .inr (0, [.int ki, .int ru, .int ne, .ref k0])), (k0, .inl (cI, 12, .inl ch))] (xTy cI cL cZ cC)) (vp_Si (fun r : Int32 => r = sRide ki ru (nI (st - 1)) + xWy (xYd st ho lg (st - 1)) pa)) 0 0 (fun _ => False) := by
  refine Met.ofW (cc := cX2_rideHome) (maxL := 2) (ret := (some .int)) (by decide) rfl ?_
  intro p e s m args below meth c s₁ B hml hv
  obtain ⟨rfl, hP, hK⟩ := hv
  have hx := B.exec
  have hb := B.bytes
  have hr := B.returns
  have hts := atoms_spec (ws := wsX2_rideHome) B.pre
  have hown : s.vm.findClass RX2 = some m.cls := findClass_of_methodNamed B.named
  have hlocks := B.notSynchronized
  have hwX2 : ∀ w ∈ u_ws RX2 TX2 8, w ∈ wsX2_rideHome := fun _ h => List.mem_cons_of_mem _ (List.mem_append_left _ (List.mem_append_right _ h))
  have hl := lv_entry ([.ref rd, .ref b0]) (n := 2) (Nat.le_of_ble_eq_true rfl)
  rw [lg_entry_eq]
  generalize (lg_sl ([.ref rd, .ref b0]) ++ List.replicate (2 - (lg_sl ([.ref rd, .ref b0])).length) Slot.unset).toArray = ls at hl ⊢
  have hl : lv_has ls 2 [(0, .ref rd), (1, .ref b0)] := hl
  refine lv_aload_n hx hb dX2_rideHome_0 rfl (lv_at hl 1 rfl) ?_
  refine lv_aload_n hx hb dX2_rideHome_1 rfl (lv_at hl 0 rfl) ?_
  have hPc := hP.sub (ws' := [(rd, .inr (2, [.int (nI st), .int ho, .int pa, .int si, .int li, .int lc, .ref r0, .ref r1])), (r0, .inl (cI, 7, .inl lg))]) [0, 1] rfl
  refine vp_callSi (va_Run.run (va_runV (As := []) (rest := [.ref b0]) ⟨hx, hb, hml, hown, hts⟩ (g_X2_last l D cI cL cZ cC rd r0 r1 st ho pa si li lc lg (by first | assumption | decide +kernel) (by first | assumption | decide +kernel)) (cwV 0 hts gX2_rideHome_X2_last rfl rfl rfl (by decide +kernel) ⟨Nat.le_of_ble_eq_true rfl, Nat.le_of_ble_eq_true rfl⟩) ⟨xPc_bl, va_recv hK hPc (ci := 2) (q0 := 0) rfl rfl, xPc_use hPc hK⟩ rfl rfl hl.1 rfl (lv_room (Nat.le_of_ble_eq_true rfl)) dX2_rideHome_2 ⟨Nat.le_of_ble_eq_true rfl, Nat.le_of_ble_eq_true rfl⟩)) (fun r_1 er_1 => ?_)
  obtain rfl : (nI (st - 1) : Int32) = r_1 := Eq.symm er_1
  have hPc := hP.sub (ws' := [(b0, .inr (0, [.int ki, .int ru, .int ne, .ref k0])), (k0, .inl (cI, 12, .inl ch))]) [2, 3] rfl
  refine vp_callSi (va_Run.run (va_runV (As := [.int (nI (st - 1))]) (rest := []) ⟨hx, hb, hml, hown, hts⟩ (g_X0_rideTo l D cI cL cZ cC b0 k0 ki ru ne ch (nI (st - 1)) ) (cwV 1 hts gX2_rideHome_X0_rideTo rfl rfl rfl (by decide +kernel) ⟨Nat.le_of_ble_eq_true rfl, Nat.le_of_ble_eq_true rfl⟩) ⟨xPc_bl, va_recv hK hPc (ci := 0) (q0 := 0) rfl rfl, xPc_use hPc hK⟩ rfl rfl hl.1 rfl (lv_room (Nat.le_of_ble_eq_true rfl)) dX2_rideHome_5 ⟨Nat.le_of_ble_eq_true rfl, Nat.le_of_ble_eq_true rfl⟩)) (fun r_2 er_2 => ?_)
  obtain rfl : (sRide ki ru (nI (st - 1)) : Int32) = r_2 := Eq.symm er_2
  refine lv_aload_n hx hb dX2_rideHome_8 rfl (lv_at hl 0 rfl) ?_
  refine lv_aload_n hx hb dX2_rideHome_9 rfl (lv_at hl 0 rfl) ?_
  have hPc := hP.sub (ws' := [(rd, .inr (2, [.int (nI st), .int ho, .int pa, .int si, .int li, .int lc, .ref r0, .ref r1])), (r0, .inl (cI, 7, .inl lg))]) [0, 1] rfl
  refine vp_callSi (va_Run.run (va_runV (As := []) (rest := [.ref rd, .int (sRide ki ru (nI (st - 1)))]) ⟨hx, hb, hml, hown, hts⟩ (g_X2_last l D cI cL cZ cC rd r0 r1 st ho pa si li lc lg (by first | assumption | decide +kernel) (by first | assumption | decide +kernel)) (cwV 0 hts gX2_rideHome_X2_last rfl rfl rfl (by decide +kernel) ⟨Nat.le_of_ble_eq_true rfl, Nat.le_of_ble_eq_true rfl⟩) ⟨xPc_bl, va_recv hK hPc (ci := 2) (q0 := 0) rfl rfl, xPc_use hPc hK⟩ rfl rfl hl.1 rfl (lv_room (Nat.le_of_ble_eq_true rfl)) dX2_rideHome_10 ⟨Nat.le_of_ble_eq_true rfl, Nat.le_of_ble_eq_true rfl⟩)) (fun r_3 er_3 => ?_)
  obtain rfl : (nI (st - 1) : Int32) = r_3 := Eq.symm er_3
  refine lv_aload_n hx hb dX2_rideHome_13 rfl (lv_at hl 0 rfl) ?_
  refine va_get (D := D) (ci := 2) (v := .int pa) (C := RX2) (T := TX2) (N := 8) hx hb hts hwX2 hown hK hP 0 rfl rfl 2 (by decide) (hts (.fieldLink RX2 18 "WaitOrWalkOn$Road" "pace" "I") (by decide +kernel)) (fun _ h9 => h9) rfl dX2_rideHome_14 ?_
  have hPc := hP.sub (ws' := [(rd, .inr (2, [.int (nI st), .int ho, .int pa, .int si, .int li, .int lc, .ref r0, .ref r1])), (r0, .inl (cI, 7, .inl lg))]) [0, 1] rfl
  refine vp_callSi (va_Run.run (va_runV (As := [.int (nI (st - 1)), .int pa]) (rest := [.int (sRide ki ru (nI (st - 1)))]) ⟨hx, hb, hml, hown, hts⟩ (g_X2_wayFrom l D cI cL cZ cC rd r0 r1 st ho pa si li lc lg (st - 1) pa (by first | assumption | decide +kernel) (by first | assumption | decide +kernel) (by omega)) (cwV 2 hts gX2_rideHome_X2_wayFrom rfl rfl rfl (by decide +kernel) ⟨Nat.le_of_ble_eq_true rfl, Nat.le_of_ble_eq_true rfl⟩) ⟨xPc_bl, va_recv hK hPc (ci := 2) (q0 := 0) rfl rfl, xPc_use hPc hK⟩ rfl rfl hl.1 rfl (lv_room (Nat.le_of_ble_eq_true rfl)) dX2_rideHome_17 ⟨Nat.le_of_ble_eq_true rfl, Nat.le_of_ble_eq_true rfl⟩)) (fun r_4 er_4 => ?_)
  obtain rfl : (xWy (xYd st ho lg (st - 1)) pa : Int32) = r_4 := Eq.symm er_4
  refine lv_iadd hx hb dX2_rideHome_20 ?_
  exact W.iret (v := (sRide ki ru (nI (st - 1))) + (xWy (xYd st ho lg (st - 1)) pa)) hx hb hr (fun t ht hW => ⟨_, rfl, rfl, ht⟩) (fun _ h => absurd h List.not_mem_nil) dX2_rideHome_21

set_option maxHeartbeats 4000000 in
set_option maxRecDepth 100000 in
theorem g_X5_minutes (l : Launch) (D : va_G) (cI cL cZ cC : ClassId) (y1 : Int32) (q1 : Int32) (hq : ¬ q1 = 0) : Met l yX5_minutes wsX5_minutes ({ frames := 0, cells := 0, slots := 0, locals := 0 } : Room) (xPc D [.int y1, .int q1] [] (xTy cI cL cZ cC)) (vp_Si (fun r : Int32 => r = (y1 + q1 - 1) / q1)) 0 0 (fun _ => False) := by
  refine Met.ofW (cc := cX5_minutes) (maxL := 2) (ret := (some .int)) (by decide) rfl ?_
  intro p e s m args below meth c s₁ B hml hv
  obtain ⟨rfl, hP, hK⟩ := hv
  have hx := B.exec
  have hb := B.bytes
  have hr := B.returns
  have hts := atoms_spec (ws := wsX5_minutes) B.pre
  have hown : s.vm.findClass RX5 = some m.cls := findClass_of_methodNamed B.named
  have hlocks := B.notSynchronized
  have hl := lv_entry ([.int y1, .int q1]) (n := 2) (Nat.le_of_ble_eq_true rfl)
  rw [lg_entry_eq]
  generalize (lg_sl ([.int y1, .int q1]) ++ List.replicate (2 - (lg_sl ([.int y1, .int q1])).length) Slot.unset).toArray = ls at hl ⊢
  have hl : lv_has ls 2 [(0, .int y1), (1, .int q1)] := hl
  refine lv_iload_n hx hb dX5_minutes_0 rfl (lv_at hl 0 rfl) ?_
  refine lv_iload_n hx hb dX5_minutes_1 rfl (lv_at hl 1 rfl) ?_
  refine lv_iadd hx hb dX5_minutes_2 ?_
  refine lv_iconst (v := 1) hx hb dX5_minutes_3 (by decide) ?_
  refine lv_isub hx hb dX5_minutes_4 ?_
  refine lv_iload_n hx hb dX5_minutes_5 rfl (lv_at hl 1 rfl) ?_
  refine lv_idiv hx hb dX5_minutes_6 (hq) ?_
  exact W.iret (v := ((y1 + q1) - 1) / q1) hx hb hr (fun t ht hW => ⟨_, rfl, rfl, ht⟩) (fun _ h => absurd h List.not_mem_nil) dX5_minutes_7

set_option maxHeartbeats 4000000 in
set_option maxRecDepth 100000 in
theorem g_X5_leg (l : Launch) (D : va_G) (cI cL cZ cC : ClassId) (g0 : Nat) (ra : Nat) (wa : Nat) (ta : Nat) (ma : Nat) (pa : Nat) (ba : Nat) (ka : Nat) (fa : Nat) (qa : Nat) (ea : Nat) (za : Nat) (ya : Nat) (kpt : Int32) (mkd : Int32) (tpd : Int32) (at0 : Int32) (wel : Int32) (srt : Int32) (wks : Int32) (st : Nat) (nw : Nat → Int32) (j0 : Nat) (q1 : Int32) (hn0 : nw 0 = nI st) (hs1 : 1 ≤ st) (hs7 : st ≤ 7) (hj : j0 ≤ 7) (hq : ¬ q1 = 0) : Met l yX5_leg wsX5_leg ({ frames := 1, cells := 0, slots := 0, locals := 21 } : Room) (xPc D [.ref g0, .int (nI j0), .int q1] [(g0, .inr (5, [.ref ra, .ref wa, .ref ta, .int kpt, .ref ma, .int mkd, .ref pa, .int tpd, .int at0, .int wel, .ref ba, .ref ka, .int srt, .ref fa, .ref qa, .ref ea, .ref za, .ref ya, .int wks])), (wa, .inl (cI, 70, .inl nw))] (xTy cI cL cZ cC)) (vp_Si (fun r : Int32 => r = (xLm nw st j0 + q1 - 1) / q1)) 0 0 (fun _ => False) := by
  refine Met.ofW (cc := cX5_leg) (maxL := 3) (ret := (some .int)) (by decide) rfl ?_
  intro p e s m args below meth c s₁ B hml hv
  obtain ⟨rfl, hP, hK⟩ := hv
  have hx := B.exec
  have hb := B.bytes
  have hr := B.returns
  have hts := atoms_spec (ws := wsX5_leg) B.pre
  have hown : s.vm.findClass RX5 = some m.cls := findClass_of_methodNamed B.named
  have hlocks := B.notSynchronized
  have hwX5 : ∀ w ∈ u_ws RX5 TX5 19, w ∈ wsX5_leg := fun _ h => List.mem_cons_of_mem _ (List.mem_append_right _ h)
  have hl := lv_entry ([.ref g0, .int (nI j0), .int q1]) (n := 3) (Nat.le_of_ble_eq_true rfl)
  rw [lg_entry_eq]
  generalize (lg_sl ([.ref g0, .int (nI j0), .int q1]) ++ List.replicate (3 - (lg_sl ([.ref g0, .int (nI j0), .int q1])).length) Slot.unset).toArray = ls at hl ⊢
  have hl : lv_has ls 3 [(0, .ref g0), (1, .int (nI j0)), (2, .int q1)] := hl
  refine lv_iload_n hx hb dX5_leg_0 rfl (lv_at hl 1 rfl) ?_
  refine lv_aload_n hx hb dX5_leg_1 rfl (lv_at hl 0 rfl) ?_
  refine va_get (D := D) (ci := 5) (v := .ref wa) (C := RX5) (T := TX5) (N := 19) hx hb hts hwX5 hown hK hP 0 rfl rfl 1 (by decide) (hts (.fieldLink RX5 19 "WaitOrWalkOnModel" "now" "[I") (by decide +kernel)) (fun _ h9 => h9) rfl dX5_leg_2 ?_
  refine lv_iconst (v := 0) hx hb dX5_leg_5 (by decide) ?_
  refine va_iald (D := D) hx hb hK hP 1 0 rfl rfl (by unfold vp_in; decide +kernel) dX5_leg_6 ?_
  refine xv_int (y := nw 0) rfl ?_
  refine xv_int (y := nI st) (hn0) ?_
  refine lv_icmp_ne (tgt := 19) hx hb dX5_leg_7 (by decide) (fun c_1 => ?_) (fun c_1 => ?_)
  · refine lv_aload_n hx hb dX5_leg_19 rfl (lv_at hl 0 rfl) ?_
    refine va_get (D := D) (ci := 5) (v := .ref wa) (C := RX5) (T := TX5) (N := 19) hx hb hts hwX5 hown hK hP 0 rfl rfl 1 (by decide) (hts (.fieldLink RX5 19 "WaitOrWalkOnModel" "now" "[I") (by decide +kernel)) (fun _ h9 => h9) rfl dX5_leg_20 ?_
    refine lv_bipush (v := 10) hx hb dX5_leg_23 (by decide) ?_
    refine lv_iload_n hx hb dX5_leg_25 rfl (lv_at hl 1 rfl) ?_
    refine lv_iadd hx hb dX5_leg_26 ?_
    refine xv_int (y := nI (10 + j0)) (nI_add 10 j0) ?_
    refine va_iald (D := D) hx hb hK hP 1 0 rfl rfl (vp_in_nI (by omega) (by decide)) dX5_leg_27 ?_
    refine xv_int (y := nw (10 + j0)) (by rw [nI_clamp (by omega)]) ?_
    refine lv_iload_n hx hb dX5_leg_28 rfl (lv_at hl 2 rfl) ?_
    have hPc := hP.sub (ws' := []) [] rfl
    refine vp_callSi (va_Run.run (va_runS (As := [.int (nw (10 + j0)), .int q1]) (rest := []) ⟨hx, hb, hml, hown, hts⟩ (g_X5_minutes l D cI cL cZ cC (nw (10 + j0)) q1 (by first | assumption | decide +kernel)) (va_cwS 2 hts gX5_leg_X5_minutes rfl rfl rfl (by decide +kernel) ⟨Nat.le_of_ble_eq_true rfl, Nat.le_of_ble_eq_true rfl⟩) ⟨xPc_bl, xPc_use hPc hK⟩ rfl rfl hl.1 rfl (lv_room (Nat.le_of_ble_eq_true rfl)) dX5_leg_29 ⟨Nat.le_of_ble_eq_true rfl, Nat.le_of_ble_eq_true rfl⟩)) (fun r_2 er_2 => ?_)
    obtain rfl : (((nw (10 + j0)) + q1 - 1) / q1 : Int32) = r_2 := Eq.symm er_2
    exact W.iret (v := ((nw (10 + j0)) + q1 - 1) / q1) hx hb hr (fun t ht hW => ⟨_, rfl, (by rw [xLm, if_neg (fun w => c_1 (congrArg nI w))]), ht⟩) (fun _ h => absurd h List.not_mem_nil) dX5_leg_32
  · refine lv_aload_n hx hb dX5_leg_10 rfl (lv_at hl 0 rfl) ?_
    refine va_get (D := D) (ci := 5) (v := .ref wa) (C := RX5) (T := TX5) (N := 19) hx hb hts hwX5 hown hK hP 0 rfl rfl 1 (by decide) (hts (.fieldLink RX5 19 "WaitOrWalkOnModel" "now" "[I") (by decide +kernel)) (fun _ h9 => h9) rfl dX5_leg_11 ?_
    refine lv_iconst (v := 1) hx hb dX5_leg_14 (by decide) ?_
    refine va_iald (D := D) hx hb hK hP 1 0 rfl rfl (by unfold vp_in; decide +kernel) dX5_leg_15 ?_
    refine xv_int (y := nw 1) rfl ?_
    refine lv_goto (tgt := 28) hx hb dX5_leg_16 (by decide) ?_
    refine lv_iload_n hx hb dX5_leg_28 rfl (lv_at hl 2 rfl) ?_
    have hPc := hP.sub (ws' := []) [] rfl
    refine vp_callSi (va_Run.run (va_runS (As := [.int (nw 1), .int q1]) (rest := []) ⟨hx, hb, hml, hown, hts⟩ (g_X5_minutes l D cI cL cZ cC (nw 1) q1 (by first | assumption | decide +kernel)) (va_cwS 2 hts gX5_leg_X5_minutes rfl rfl rfl (by decide +kernel) ⟨Nat.le_of_ble_eq_true rfl, Nat.le_of_ble_eq_true rfl⟩) ⟨xPc_bl, xPc_use hPc hK⟩ rfl rfl hl.1 rfl (lv_room (Nat.le_of_ble_eq_true rfl)) dX5_leg_29 ⟨Nat.le_of_ble_eq_true rfl, Nat.le_of_ble_eq_true rfl⟩)) (fun r_3 er_3 => ?_)
    obtain rfl : (((nw 1) + q1 - 1) / q1 : Int32) = r_3 := Eq.symm er_3
    exact W.iret (v := ((nw 1) + q1 - 1) / q1) hx hb hr (fun t ht hW => ⟨_, rfl, (by rw [xLm, if_pos ((nI_eq (by omega) (by omega)).mp c_1)]), ht⟩) (fun _ h => absurd h List.not_mem_nil) dX5_leg_32

set_option maxHeartbeats 4000000 in
set_option maxRecDepth 100000 in
theorem g_X5_rest (l : Launch) (D : va_G) (cI cL cZ cC : ClassId) (g0 : Nat) (ra : Nat) (wa : Nat) (ta : Nat) (ma : Nat) (pa : Nat) (ba : Nat) (ka : Nat) (fa : Nat) (qa : Nat) (ea : Nat) (za : Nat) (ya : Nat) (kpt : Int32) (mkd : Int32) (tpd : Int32) (at0 : Int32) (wel : Int32) (srt : Int32) (wks : Int32) (st : Nat) (nw : Nat → Int32) (j0 : Nat) (hn0 : nw 0 = nI st) (hs1 : 1 ≤ st) (hs7 : st ≤ 7) (hj : j0 ≤ 7) (hq : ¬ nw 2 = 0) : Met l yX5_rest wsX5_rest ({ frames := 2, cells := 0, slots := 0, locals := 43 } : Room) (xPc D [.ref g0, .int (nI j0)] [(g0, .inr (5, [.ref ra, .ref wa, .ref ta, .int kpt, .ref ma, .int mkd, .ref pa, .int tpd, .int at0, .int wel, .ref ba, .ref ka, .int srt, .ref fa, .ref qa, .ref ea, .ref za, .ref ya, .int wks])), (wa, .inl (cI, 70, .inl nw))] (xTy cI cL cZ cC)) (vp_Si (fun r : Int32 => r = xRs nw st j0)) 0 0 (fun _ => False) := by
  refine Met.ofW (cc := cX5_rest) (maxL := 4) (ret := (some .int)) (by decide) rfl ?_
  intro p e s m args below meth c s₁ B hml hv
  obtain ⟨rfl, hP, hK⟩ := hv
  have hx := B.exec
  have hb := B.bytes
  have hr := B.returns
  have hts := atoms_spec (ws := wsX5_rest) B.pre
  have hown : s.vm.findClass RX5 = some m.cls := findClass_of_methodNamed B.named
  have hlocks := B.notSynchronized
  have hwX5 : ∀ w ∈ u_ws RX5 TX5 19, w ∈ wsX5_rest := fun _ h => List.mem_cons_of_mem _ (List.mem_append_right _ h)
  have hl := lv_entry ([.ref g0, .int (nI j0)]) (n := 4) (Nat.le_of_ble_eq_true rfl)
  rw [lg_entry_eq]
  generalize (lg_sl ([.ref g0, .int (nI j0)]) ++ List.replicate (4 - (lg_sl ([.ref g0, .int (nI j0)])).length) Slot.unset).toArray = ls at hl ⊢
  have hl : lv_has ls 4 [(0, .ref g0), (1, .int (nI j0))] := hl
  refine lv_iconst (v := 0) hx hb dX5_rest_0 (by decide) ?_
  refine lv_istore_n (lv' := [(2, .int 0), (0, .ref g0), (1, .int (nI j0))]) hx hb dX5_rest_1 rfl hl (by decide) rfl (fun ls hl => ?_)
  refine lv_iload_n hx hb dX5_rest_2 rfl (lv_at hl 2 rfl) ?_
  refine lv_iconst (v := 1) hx hb dX5_rest_3 (by decide) ?_
  refine lv_iadd hx hb dX5_rest_4 ?_
  refine xv_int (y := nI (j0 + 1)) (nI_1 j0) ?_
  refine lv_istore_n (lv' := [(3, .int (nI (j0 + 1))), (2, .int 0), (0, .ref g0), (1, .int (nI j0))]) hx hb dX5_rest_5 rfl hl (by decide) rfl (fun ls hl => ?_)
  refine xl_loop (σ := Nat) (fun n q ls => lv_has ls 4 [(3, .int (nI (j0 + 1 + q))), (2, .int (xSmF (fun i => (xLm nw st (i + 1) + nw 2 - 1) / nw 2) j0 q)), (0, .ref g0), (1, .int (nI j0))] ∧ (st + 1 - (j0 + q) < n) ∧ (q ≤ st - j0)) (st + 2) (0) ⟨lv_sub hl [0, 1, 2, 3] rfl, by (try dsimp only); exact ⟨by omega, by omega⟩⟩ (fun q ls h => absurd h.2.1 (Nat.not_lt_zero _)) ?_
  intro n_6 q_6 ls ih_6 hI_6
  obtain ⟨hl, hI_6⟩ := hI_6
  obtain ⟨k, e_6⟩ : ∃ z, z = q_6 := ⟨_, rfl⟩
  subst e_6
  obtain ⟨h1, h2⟩ := hI_6
  try dsimp only at hl h1 h2
  refine lv_iload_n hx hb dX5_rest_6 rfl (lv_at hl 0 rfl) ?_
  refine lv_aload_n hx hb dX5_rest_7 rfl (lv_at hl 2 rfl) ?_
  refine va_get (D := D) (ci := 5) (v := .ref wa) (C := RX5) (T := TX5) (N := 19) hx hb hts hwX5 hown hK hP 0 rfl rfl 1 (by decide) (hts (.fieldLink RX5 19 "WaitOrWalkOnModel" "now" "[I") (by decide +kernel)) (fun _ h9 => h9) rfl dX5_rest_8 ?_
  refine lv_iconst (v := 0) hx hb dX5_rest_11 (by decide) ?_
  refine va_iald (D := D) hx hb hK hP 1 0 rfl rfl (by unfold vp_in; decide +kernel) dX5_rest_12 ?_
  refine xv_int (y := nw 0) rfl ?_
  refine xv_int (y := nI st) (hn0) ?_
  refine lv_icmp_gt (tgt := 36) hx hb dX5_rest_13 (by decide) (fun c_1 => ?_) (fun c_1 => ?_)
  · refine lv_iload_n hx hb dX5_rest_36 rfl (lv_at hl 1 rfl) ?_
    exact W.iret (v := xSmF (fun i => (xLm nw st (i + 1) + nw 2 - 1) / nw 2) j0 k) hx hb hr (fun t ht hW => ⟨_, rfl, (by have w := (nI_ltI (a := st) (b := j0 + 1 + k) (by omega) (by omega)).mp c_1; exact congrArg (xSmF _ j0) (show k = st - j0 by omega)), ht⟩) (fun _ h => absurd h List.not_mem_nil) dX5_rest_37
  · refine lv_iload_n hx hb dX5_rest_16 rfl (lv_at hl 1 rfl) ?_
    refine lv_aload_n hx hb dX5_rest_17 rfl (lv_at hl 2 rfl) ?_
    refine lv_iload_n hx hb dX5_rest_18 rfl (lv_at hl 0 rfl) ?_
    refine lv_aload_n hx hb dX5_rest_19 rfl (lv_at hl 2 rfl) ?_
    refine va_get (D := D) (ci := 5) (v := .ref wa) (C := RX5) (T := TX5) (N := 19) hx hb hts hwX5 hown hK hP 0 rfl rfl 1 (by decide) (hts (.fieldLink RX5 19 "WaitOrWalkOnModel" "now" "[I") (by decide +kernel)) (fun _ h9 => h9) rfl dX5_rest_20 ?_
    refine lv_iconst (v := 2) hx hb dX5_rest_23 (by decide) ?_
    refine va_iald (D := D) hx hb hK hP 1 0 rfl rfl (by unfold vp_in; decide +kernel) dX5_rest_24 ?_
    refine xv_int (y := nw 2) rfl ?_
    have hPc := hP.sub (ws' := [(g0, .inr (5, [.ref ra, .ref wa, .ref ta, .int kpt, .ref ma, .int mkd, .ref pa, .int tpd, .int at0, .int wel, .ref ba, .ref ka, .int srt, .ref fa, .ref qa, .ref ea, .ref za, .ref ya, .int wks])), (wa, .inl (cI, 70, .inl nw))]) [0, 1] rfl
    refine vp_callSi (va_Run.run (va_runV (As := [.int (nI (j0 + 1 + k)), .int (nw 2)]) (rest := [.int (xSmF (fun i => (xLm nw st (i + 1) + nw 2 - 1) / nw 2) j0 k)]) ⟨hx, hb, hml, hown, hts⟩ (g_X5_leg l D cI cL cZ cC g0 ra wa ta ma pa ba ka fa qa ea za ya kpt mkd tpd at0 wel srt wks st nw (j0 + 1 + k) (nw 2) (by first | assumption | decide +kernel) (by first | assumption | decide +kernel) (by first | assumption | decide +kernel) (by have w := mt (nI_ltI (a := st) (b := j0 + 1 + k) (by omega) (by omega)).mpr c_1; omega) (by first | assumption | decide +kernel)) (cwV 2 hts gX5_rest_X5_leg rfl rfl rfl (by decide +kernel) ⟨Nat.le_of_ble_eq_true rfl, Nat.le_of_ble_eq_true rfl⟩) ⟨xPc_bl, va_recv hK hPc (ci := 5) (q0 := 0) rfl rfl, xPc_use hPc hK⟩ rfl rfl hl.1 rfl (lv_room (Nat.le_of_ble_eq_true rfl)) dX5_rest_25 ⟨Nat.le_of_ble_eq_true rfl, Nat.le_of_ble_eq_true rfl⟩)) (fun r_2 er_2 => ?_)
    obtain rfl : ((xLm nw st (j0 + 1 + k) + (nw 2) - 1) / (nw 2) : Int32) = r_2 := Eq.symm er_2
    refine lv_iadd hx hb dX5_rest_28 ?_
    refine xv_int (y := xSmF (fun i => (xLm nw st (i + 1) + nw 2 - 1) / nw 2) j0 (k + 1)) (by rw [show j0 + 1 + k = j0 + k + 1 by omega]; rfl) ?_
    refine lv_istore_n (lv' := [(2, .int (xSmF (fun i => (xLm nw st (i + 1) + nw 2 - 1) / nw 2) j0 (k + 1))), (3, .int (nI (j0 + 1 + k))), (0, .ref g0), (1, .int (nI j0))]) hx hb dX5_rest_29 rfl hl (by decide) rfl (fun ls hl => ?_)
    refine lv_iinc (v := nI (j0 + 1 + (k + 1))) (lv' := [(3, .int (nI (j0 + 1 + (k + 1)))), (2, .int (xSmF (fun i => (xLm nw st (i + 1) + nw 2 - 1) / nw 2) j0 (k + 1))), (0, .ref g0), (1, .int (nI j0))]) hx hb dX5_rest_30 hl (k := 1) rfl (nI_1 (j0 + 1 + k)) (by decide) rfl (fun ls hl => ?_)
    refine lv_goto (tgt := 6) hx hb dX5_rest_33 (by decide) ?_
    have w := mt (nI_ltI (a := st) (b := j0 + 1 + k) (by omega) (by omega)).mpr c_1
    exact ih_6 (k + 1) _ ⟨lv_sub hl [0, 1, 2, 3] rfl, by (try dsimp only); exact ⟨by omega, by omega⟩⟩

set_option maxHeartbeats 4000000 in
set_option maxRecDepth 100000 in
theorem g_X5_ride (l : Launch) (D : va_G) (cI cL cZ cC : ClassId) (g0 : Nat) (ra : Nat) (wa : Nat) (ta : Nat) (ma : Nat) (pa : Nat) (ba : Nat) (ka : Nat) (fa : Nat) (qa : Nat) (ea : Nat) (za : Nat) (ya : Nat) (kpt : Int32) (mkd : Int32) (tpd : Int32) (at0 : Int32) (wel : Int32) (srt : Int32) (wks : Int32) (st : Nat) (nw : Nat → Int32) (a0 : Nat) (a2 : Int32) (hn0 : nw 0 = nI st) (hs1 : 1 ≤ st) (hs7 : st ≤ 7) (ha : a0 ≤ 2) : Met l yX5_ride wsX5_ride ({ frames := 0, cells := 0, slots := 0, locals := 0 } : Room) (xPc D [.ref g0, .int (nI a0), .int a2] [(g0, .inr (5, [.ref ra, .ref wa, .ref ta, .int kpt, .ref ma, .int mkd, .ref pa, .int tpd, .int at0, .int wel, .ref ba, .ref ka, .int srt, .ref fa, .ref qa, .ref ea, .ref za, .ref ya, .int wks])), (wa, .inl (cI, 70, .inl nw))] (xTy cI cL cZ cC)) (vp_Si (fun r : Int32 => r = sRd (nw (20 + 16 * a0)) (nw (20 + 16 * a0 + 1)) a2)) 0 0 (fun _ => False) := by
  refine Met.ofW (cc := cX5_ride) (maxL := 5) (ret := (some .int)) (by decide) rfl ?_
  intro p e s m args below meth c s₁ B hml hv
  obtain ⟨rfl, hP, hK⟩ := hv
  have hx := B.exec
  have hb := B.bytes
  have hr := B.returns
  have hts := atoms_spec (ws := wsX5_ride) B.pre
  have hown : s.vm.findClass RX5 = some m.cls := findClass_of_methodNamed B.named
  have hlocks := B.notSynchronized
  have hwX5 : ∀ w ∈ u_ws RX5 TX5 19, w ∈ wsX5_ride := fun _ h => List.mem_cons_of_mem _ (List.mem_append_right _ h)
  have hl := lv_entry ([.ref g0, .int (nI a0), .int a2]) (n := 5) (Nat.le_of_ble_eq_true rfl)
  rw [lg_entry_eq]
  generalize (lg_sl ([.ref g0, .int (nI a0), .int a2]) ++ List.replicate (5 - (lg_sl ([.ref g0, .int (nI a0), .int a2])).length) Slot.unset).toArray = ls at hl ⊢
  have hl : lv_has ls 5 [(0, .ref g0), (1, .int (nI a0)), (2, .int a2)] := hl
  refine lv_aload_n hx hb dX5_ride_0 rfl (lv_at hl 0 rfl) ?_
  refine va_get (D := D) (ci := 5) (v := .ref wa) (C := RX5) (T := TX5) (N := 19) hx hb hts hwX5 hown hK hP 0 rfl rfl 1 (by decide) (hts (.fieldLink RX5 19 "WaitOrWalkOnModel" "now" "[I") (by decide +kernel)) (fun _ h9 => h9) rfl dX5_ride_1 ?_
  refine lv_bipush (v := 20) hx hb dX5_ride_4 (by decide) ?_
  refine lv_bipush (v := 16) hx hb dX5_ride_6 (by decide) ?_
  refine lv_iload_n hx hb dX5_ride_8 rfl (lv_at hl 1 rfl) ?_
  refine lv_imul hx hb dX5_ride_9 ?_
  refine lv_iadd hx hb dX5_ride_10 ?_
  refine xv_int (y := nI (20 + 16 * a0)) (by rw [show (16 : Int32) = nI 16 from rfl, show (20 : Int32) = nI 20 from rfl, pk_mul, nI_add]) ?_
  refine va_iald (D := D) hx hb hK hP 1 0 rfl rfl (vp_in_nI (by omega) (by decide)) dX5_ride_11 ?_
  refine xv_int (y := nw (20 + 16 * a0)) (by rw [nI_clamp (by omega)]) ?_
  refine lv_istore_n (lv' := [(3, .int (nw (20 + 16 * a0))), (0, .ref g0), (1, .int (nI a0)), (2, .int a2)]) hx hb dX5_ride_12 rfl hl (by decide) rfl (fun ls hl => ?_)
  refine lv_aload_n hx hb dX5_ride_13 rfl (lv_at hl 1 rfl) ?_
  refine va_get (D := D) (ci := 5) (v := .ref wa) (C := RX5) (T := TX5) (N := 19) hx hb hts hwX5 hown hK hP 0 rfl rfl 1 (by decide) (hts (.fieldLink RX5 19 "WaitOrWalkOnModel" "now" "[I") (by decide +kernel)) (fun _ h9 => h9) rfl dX5_ride_14 ?_
  refine lv_bipush (v := 20) hx hb dX5_ride_17 (by decide) ?_
  refine lv_bipush (v := 16) hx hb dX5_ride_19 (by decide) ?_
  refine lv_iload_n hx hb dX5_ride_21 rfl (lv_at hl 2 rfl) ?_
  refine lv_imul hx hb dX5_ride_22 ?_
  refine lv_iadd hx hb dX5_ride_23 ?_
  refine xv_int (y := nI (20 + 16 * a0)) (by rw [show (16 : Int32) = nI 16 from rfl, show (20 : Int32) = nI 20 from rfl, pk_mul, nI_add]) ?_
  refine lv_iconst (v := 1) hx hb dX5_ride_24 (by decide) ?_
  refine lv_iadd hx hb dX5_ride_25 ?_
  refine xv_int (y := nI (20 + 16 * a0 + 1)) (nI_1 (20 + 16 * a0)) ?_
  refine va_iald (D := D) hx hb hK hP 1 0 rfl rfl (vp_in_nI (by omega) (by decide)) dX5_ride_26 ?_
  refine xv_int (y := nw (20 + 16 * a0 + 1)) (by rw [nI_clamp (by omega)]) ?_
  refine lv_istore (lv' := [(4, .int (nw (20 + 16 * a0 + 1))), (3, .int (nw (20 + 16 * a0))), (0, .ref g0), (1, .int (nI a0)), (2, .int a2)]) hx hb dX5_ride_27 hl (by decide) rfl (fun ls hl => ?_)
  refine lv_iload_n hx hb dX5_ride_29 rfl (lv_at hl 1 rfl) ?_
  refine lv_iconst (v := 1) hx hb dX5_ride_30 (by decide) ?_
  refine lv_icmp_ne (tgt := 41) hx hb dX5_ride_31 (by decide) (fun c_1 => ?_) (fun c_1 => ?_)
  · refine lv_iload_n hx hb dX5_ride_41 rfl (lv_at hl 1 rfl) ?_
    refine lv_iconst (v := 3) hx hb dX5_ride_42 (by decide) ?_
    refine lv_icmp_ne (tgt := 62) hx hb dX5_ride_43 (by decide) (fun c_2 => ?_) (fun c_2 => ?_)
    · refine lv_iload_n hx hb dX5_ride_62 rfl (lv_at hl 1 rfl) ?_
      refine lv_iconst (v := 4) hx hb dX5_ride_63 (by decide) ?_
      refine lv_icmp_ne (tgt := 76) hx hb dX5_ride_64 (by decide) (fun c_3 => ?_) (fun c_3 => ?_)
      · refine lv_iload hx hb dX5_ride_76 (lv_at hl 0 rfl) ?_
        exact W.iret (v := nw (20 + 16 * a0 + 1)) hx hb hr (fun t ht hW => ⟨_, rfl, by simp [sRd, c_1, c_2, c_3], ht⟩) (fun _ h => absurd h List.not_mem_nil) dX5_ride_78
      · refine lv_iload hx hb dX5_ride_67 (lv_at hl 0 rfl) ?_
        refine lv_iconst (v := 1) hx hb dX5_ride_69 (by decide) ?_
        refine lv_iadd hx hb dX5_ride_70 ?_
        refine lv_iconst (v := 2) hx hb dX5_ride_71 (by decide) ?_
        refine lv_idiv hx hb dX5_ride_72 ((by decide)) ?_
        refine lv_goto (tgt := 78) hx hb dX5_ride_73 (by decide) ?_
        exact W.iret (v := ((nw (20 + 16 * a0 + 1)) + 1) / 2) hx hb hr (fun t ht hW => ⟨_, rfl, by simp [sRd, c_1, c_2, c_3], ht⟩) (fun _ h => absurd h List.not_mem_nil) dX5_ride_78
    · refine lv_iload hx hb dX5_ride_46 (lv_at hl 0 rfl) ?_
      refine lv_iload_n hx hb dX5_ride_48 rfl (lv_at hl 4 rfl) ?_
      refine lv_if_ne (tgt := 57) hx hb dX5_ride_49 (by decide) (fun c_4 => ?_) (fun c_4 => ?_)
      · refine lv_iconst (v := 1) hx hb dX5_ride_57 (by decide) ?_
        refine lv_iadd hx hb dX5_ride_58 ?_
        refine lv_goto (tgt := 78) hx hb dX5_ride_59 (by decide) ?_
        exact W.iret (v := (nw (20 + 16 * a0 + 1)) + 1) hx hb hr (fun t ht hW => ⟨_, rfl, by simp [sRd, c_1, c_2, c_4], ht⟩) (fun _ h => absurd h List.not_mem_nil) dX5_ride_78
      · refine lv_bipush (v := 6) hx hb dX5_ride_52 (by decide) ?_
        refine lv_goto (tgt := 58) hx hb dX5_ride_54 (by decide) ?_
        refine lv_iadd hx hb dX5_ride_58 ?_
        refine lv_goto (tgt := 78) hx hb dX5_ride_59 (by decide) ?_
        exact W.iret (v := (nw (20 + 16 * a0 + 1)) + 6) hx hb hr (fun t ht hW => ⟨_, rfl, by simp [sRd, c_1, c_2, c_4], ht⟩) (fun _ h => absurd h List.not_mem_nil) dX5_ride_78
  · refine lv_iload hx hb dX5_ride_34 (lv_at hl 0 rfl) ?_
    refine lv_iconst (v := 1) hx hb dX5_ride_36 (by decide) ?_
    refine lv_iadd hx hb dX5_ride_37 ?_
    refine lv_goto (tgt := 78) hx hb dX5_ride_38 (by decide) ?_
    exact W.iret (v := (nw (20 + 16 * a0 + 1)) + 1) hx hb hr (fun t ht hW => ⟨_, rfl, by simp [sRd, c_1], ht⟩) (fun _ h => absurd h List.not_mem_nil) dX5_ride_78

set_option maxHeartbeats 4000000 in
set_option maxRecDepth 100000 in
theorem g_X5_to (l : Launch) (D : va_G) (cI cL cZ cC : ClassId) (g0 : Nat) (ra : Nat) (wa : Nat) (ta : Nat) (ma : Nat) (pa : Nat) (ba : Nat) (ka : Nat) (fa : Nat) (qa : Nat) (ea : Nat) (za : Nat) (ya : Nat) (kpt : Int32) (mkd : Int32) (tpd : Int32) (at0 : Int32) (wel : Int32) (srt : Int32) (wks : Int32) (st : Nat) (nw : Nat → Int32) (a0 : Nat) (j0 : Nat) (hn0 : nw 0 = nI st) (hs1 : 1 ≤ st) (hs7 : st ≤ 7) (ha : a0 ≤ 2) (hj : j0 ≤ 7) : Met l yX5_to wsX5_to ({ frames := 1, cells := 0, slots := 0, locals := 24 } : Room) (xPc D [.ref g0, .int (nI a0), .int (nI j0)] [(g0, .inr (5, [.ref ra, .ref wa, .ref ta, .int kpt, .ref ma, .int mkd, .ref pa, .int tpd, .int at0, .int wel, .ref ba, .ref ka, .int srt, .ref fa, .ref qa, .ref ea, .ref za, .ref ya, .int wks])), (wa, .inl (cI, 70, .inl nw))] (xTy cI cL cZ cC)) (vp_Si (fun r : Int32 => r = xSm (fun i => sRd (nw (20 + 16 * a0)) (nw (20 + 16 * a0 + 1)) (nI i)) j0)) 0 0 (fun _ => False) := by
  refine Met.ofW (cc := cX5_to) (maxL := 5) (ret := (some .int)) (by decide) rfl ?_
  intro p e s m args below meth c s₁ B hml hv
  obtain ⟨rfl, hP, hK⟩ := hv
  have hx := B.exec
  have hb := B.bytes
  have hr := B.returns
  have hts := atoms_spec (ws := wsX5_to) B.pre
  have hown : s.vm.findClass RX5 = some m.cls := findClass_of_methodNamed B.named
  have hlocks := B.notSynchronized
  have hl := lv_entry ([.ref g0, .int (nI a0), .int (nI j0)]) (n := 5) (Nat.le_of_ble_eq_true rfl)
  rw [lg_entry_eq]
  generalize (lg_sl ([.ref g0, .int (nI a0), .int (nI j0)]) ++ List.replicate (5 - (lg_sl ([.ref g0, .int (nI a0), .int (nI j0)])).length) Slot.unset).toArray = ls at hl ⊢
  have hl : lv_has ls 5 [(0, .ref g0), (1, .int (nI a0)), (2, .int (nI j0))] := hl
  refine lv_iconst (v := 0) hx hb dX5_to_0 (by decide) ?_
  refine lv_istore_n (lv' := [(3, .int 0), (0, .ref g0), (1, .int (nI a0)), (2, .int (nI j0))]) hx hb dX5_to_1 rfl hl (by decide) rfl (fun ls hl => ?_)
  refine lv_iconst (v := 0) hx hb dX5_to_2 (by decide) ?_
  refine lv_istore (lv' := [(4, .int 0), (3, .int 0), (0, .ref g0), (1, .int (nI a0)), (2, .int (nI j0))]) hx hb dX5_to_3 hl (by decide) rfl (fun ls hl => ?_)
  refine xl_loop (σ := Nat) (fun n q ls => lv_has ls 5 [(4, .int (nI q)), (3, .int (xSm (fun i => sRd (nw (20 + 16 * a0)) (nw (20 + 16 * a0 + 1)) (nI i)) q)), (0, .ref g0), (1, .int (nI a0)), (2, .int (nI j0))] ∧ (j0 - q < n) ∧ (q ≤ j0)) (j0 + 1) (0) ⟨lv_sub hl [0, 1, 2, 3, 4] rfl, by (try dsimp only); exact ⟨by omega, by omega⟩⟩ (fun q ls h => absurd h.2.1 (Nat.not_lt_zero _)) ?_
  intro n_5 q_5 ls ih_5 hI_5
  obtain ⟨hl, hI_5⟩ := hI_5
  obtain ⟨k, e_5⟩ : ∃ z, z = q_5 := ⟨_, rfl⟩
  subst e_5
  obtain ⟨h1, h2⟩ := hI_5
  try dsimp only at hl h1 h2
  refine lv_iload hx hb dX5_to_5 (lv_at hl 0 rfl) ?_
  refine lv_iload_n hx hb dX5_to_7 rfl (lv_at hl 4 rfl) ?_
  refine lv_icmp_ge (tgt := 27) hx hb dX5_to_8 (by decide) (fun c_1 => ?_) (fun c_1 => ?_)
  · refine lv_iload_n hx hb dX5_to_27 rfl (lv_at hl 1 rfl) ?_
    exact W.iret (v := xSm (fun i => sRd (nw (20 + 16 * a0)) (nw (20 + 16 * a0 + 1)) (nI i)) k) hx hb hr (fun t ht hW => ⟨_, rfl, (by have w := mt (nI_ltI (a := k) (b := j0) (by omega) (by omega)).mpr (Int32.not_lt.mpr c_1); exact congrArg (xSm _) (show k = j0 by omega)), ht⟩) (fun _ h => absurd h List.not_mem_nil) dX5_to_28
  · refine lv_iload_n hx hb dX5_to_11 rfl (lv_at hl 1 rfl) ?_
    refine lv_aload_n hx hb dX5_to_12 rfl (lv_at hl 2 rfl) ?_
    refine lv_iload_n hx hb dX5_to_13 rfl (lv_at hl 3 rfl) ?_
    refine lv_iload hx hb dX5_to_14 (lv_at hl 0 rfl) ?_
    have hPc := hP.sub (ws' := [(g0, .inr (5, [.ref ra, .ref wa, .ref ta, .int kpt, .ref ma, .int mkd, .ref pa, .int tpd, .int at0, .int wel, .ref ba, .ref ka, .int srt, .ref fa, .ref qa, .ref ea, .ref za, .ref ya, .int wks])), (wa, .inl (cI, 70, .inl nw))]) [0, 1] rfl
    refine vp_callSi (va_Run.run (va_runV (As := [.int (nI a0), .int (nI k)]) (rest := [.int (xSm (fun i => sRd (nw (20 + 16 * a0)) (nw (20 + 16 * a0 + 1)) (nI i)) k)]) ⟨hx, hb, hml, hown, hts⟩ (g_X5_ride l D cI cL cZ cC g0 ra wa ta ma pa ba ka fa qa ea za ya kpt mkd tpd at0 wel srt wks st nw a0 (nI k) (by first | assumption | decide +kernel) (by first | assumption | decide +kernel) (by first | assumption | decide +kernel) (by first | assumption | decide +kernel)) (cwV 2 hts gX5_to_X5_ride rfl rfl rfl (by decide +kernel) ⟨Nat.le_of_ble_eq_true rfl, Nat.le_of_ble_eq_true rfl⟩) ⟨xPc_bl, va_recv hK hPc (ci := 5) (q0 := 0) rfl rfl, xPc_use hPc hK⟩ rfl rfl hl.1 rfl (lv_room (Nat.le_of_ble_eq_true rfl)) dX5_to_16 ⟨Nat.le_of_ble_eq_true rfl, Nat.le_of_ble_eq_true rfl⟩)) (fun r_2 er_2 => ?_)
    obtain rfl : (sRd (nw (20 + 16 * a0)) (nw (20 + 16 * a0 + 1)) (nI k) : Int32) = r_2 := Eq.symm er_2
    refine lv_iadd hx hb dX5_to_19 ?_
    refine xv_int (y := xSm (fun i => sRd (nw (20 + 16 * a0)) (nw (20 + 16 * a0 + 1)) (nI i)) (k + 1)) (rfl) ?_
    refine lv_istore_n (lv' := [(3, .int (xSm (fun i => sRd (nw (20 + 16 * a0)) (nw (20 + 16 * a0 + 1)) (nI i)) (k + 1))), (4, .int (nI k)), (0, .ref g0), (1, .int (nI a0)), (2, .int (nI j0))]) hx hb dX5_to_20 rfl hl (by decide) rfl (fun ls hl => ?_)
    refine lv_iinc (v := nI (k + 1)) (lv' := [(4, .int (nI (k + 1))), (3, .int (xSm (fun i => sRd (nw (20 + 16 * a0)) (nw (20 + 16 * a0 + 1)) (nI i)) (k + 1))), (0, .ref g0), (1, .int (nI a0)), (2, .int (nI j0))]) hx hb dX5_to_21 hl (k := 1) rfl (nI_1 k) (by decide) rfl (fun ls hl => ?_)
    refine lv_goto (tgt := 5) hx hb dX5_to_24 (by decide) ?_
    have w := (nI_ltI (a := k) (b := j0) (by omega) (by omega)).mp (Int32.not_le.mp c_1)
    exact ih_5 (k + 1) _ ⟨lv_sub hl [0, 1, 2, 3, 4] rfl, by (try dsimp only); exact ⟨by omega, by omega⟩⟩

set_option maxHeartbeats 4000000 in
set_option maxRecDepth 100000 in
theorem g_X5_toLast (l : Launch) (D : va_G) (cI cL cZ cC : ClassId) (g0 : Nat) (ra : Nat) (wa : Nat) (ta : Nat) (ma : Nat) (pa : Nat) (ba : Nat) (ka : Nat) (fa : Nat) (qa : Nat) (ea : Nat) (za : Nat) (ya : Nat) (kpt : Int32) (mkd : Int32) (tpd : Int32) (at0 : Int32) (wel : Int32) (srt : Int32) (wks : Int32) (st : Nat) (nw : Nat → Int32) (a0 : Nat) (hn0 : nw 0 = nI st) (hs1 : 1 ≤ st) (hs7 : st ≤ 7) (ha : a0 ≤ 2) : Met l yX5_toLast wsX5_toLast ({ frames := 2, cells := 0, slots := 0, locals := 48 } : Room) (xPc D [.ref g0, .int (nI a0)] [(g0, .inr (5, [.ref ra, .ref wa, .ref ta, .int kpt, .ref ma, .int mkd, .ref pa, .int tpd, .int at0, .int wel, .ref ba, .ref ka, .int srt, .ref fa, .ref qa, .ref ea, .ref za, .ref ya, .int wks])), (wa, .inl (cI, 70, .inl nw))] (xTy cI cL cZ cC)) (vp_Si (fun r : Int32 => r = xSm (fun i => sRd (nw (20 + 16 * a0)) (nw (20 + 16 * a0 + 1)) (nI i)) (st - 1))) 0 0 (fun _ => False) := by
  refine Met.ofW (cc := cX5_toLast) (maxL := 2) (ret := (some .int)) (by decide) rfl ?_
  intro p e s m args below meth c s₁ B hml hv
  obtain ⟨rfl, hP, hK⟩ := hv
  have hx := B.exec
  have hb := B.bytes
  have hr := B.returns
  have hts := atoms_spec (ws := wsX5_toLast) B.pre
  have hown : s.vm.findClass RX5 = some m.cls := findClass_of_methodNamed B.named
  have hlocks := B.notSynchronized
  have hwX5 : ∀ w ∈ u_ws RX5 TX5 19, w ∈ wsX5_toLast := fun _ h => List.mem_cons_of_mem _ (List.mem_append_right _ h)
  have hl := lv_entry ([.ref g0, .int (nI a0)]) (n := 2) (Nat.le_of_ble_eq_true rfl)
  rw [lg_entry_eq]
  generalize (lg_sl ([.ref g0, .int (nI a0)]) ++ List.replicate (2 - (lg_sl ([.ref g0, .int (nI a0)])).length) Slot.unset).toArray = ls at hl ⊢
  have hl : lv_has ls 2 [(0, .ref g0), (1, .int (nI a0))] := hl
  refine lv_aload_n hx hb dX5_toLast_0 rfl (lv_at hl 0 rfl) ?_
  refine lv_iload_n hx hb dX5_toLast_1 rfl (lv_at hl 1 rfl) ?_
  refine lv_aload_n hx hb dX5_toLast_2 rfl (lv_at hl 0 rfl) ?_
  refine va_get (D := D) (ci := 5) (v := .ref wa) (C := RX5) (T := TX5) (N := 19) hx hb hts hwX5 hown hK hP 0 rfl rfl 1 (by decide) (hts (.fieldLink RX5 19 "WaitOrWalkOnModel" "now" "[I") (by decide +kernel)) (fun _ h9 => h9) rfl dX5_toLast_3 ?_
  refine lv_iconst (v := 0) hx hb dX5_toLast_6 (by decide) ?_
  refine va_iald (D := D) hx hb hK hP 1 0 rfl rfl (by unfold vp_in; decide +kernel) dX5_toLast_7 ?_
  refine xv_int (y := nw 0) rfl ?_
  refine xv_int (y := nI st) (hn0) ?_
  refine lv_iconst (v := 1) hx hb dX5_toLast_8 (by decide) ?_
  refine lv_isub hx hb dX5_toLast_9 ?_
  refine xv_int (y := nI (st - 1)) (pk_sub hs1) ?_
  have hPc := hP.sub (ws' := [(g0, .inr (5, [.ref ra, .ref wa, .ref ta, .int kpt, .ref ma, .int mkd, .ref pa, .int tpd, .int at0, .int wel, .ref ba, .ref ka, .int srt, .ref fa, .ref qa, .ref ea, .ref za, .ref ya, .int wks])), (wa, .inl (cI, 70, .inl nw))]) [0, 1] rfl
  refine vp_callSi (va_Run.run (va_runV (As := [.int (nI a0), .int (nI (st - 1))]) (rest := []) ⟨hx, hb, hml, hown, hts⟩ (g_X5_to l D cI cL cZ cC g0 ra wa ta ma pa ba ka fa qa ea za ya kpt mkd tpd at0 wel srt wks st nw a0 (st - 1) (by first | assumption | decide +kernel) (by first | assumption | decide +kernel) (by first | assumption | decide +kernel) (by first | assumption | decide +kernel) (by omega)) (cwV 2 hts gX5_toLast_X5_to rfl rfl rfl (by decide +kernel) ⟨Nat.le_of_ble_eq_true rfl, Nat.le_of_ble_eq_true rfl⟩) ⟨xPc_bl, va_recv hK hPc (ci := 5) (q0 := 0) rfl rfl, xPc_use hPc hK⟩ rfl rfl hl.1 rfl (lv_room (Nat.le_of_ble_eq_true rfl)) dX5_toLast_10 ⟨Nat.le_of_ble_eq_true rfl, Nat.le_of_ble_eq_true rfl⟩)) (fun r_1 er_1 => ?_)
  obtain rfl : (xSm (fun i => sRd (nw (20 + 16 * a0)) (nw (20 + 16 * a0 + 1)) (nI i)) (st - 1) : Int32) = r_1 := Eq.symm er_1
  exact W.iret (v := xSm (fun i => sRd (nw (20 + 16 * a0)) (nw (20 + 16 * a0 + 1)) (nI i)) (st - 1)) hx hb hr (fun t ht hW => ⟨_, rfl, rfl, ht⟩) (fun _ h => absurd h List.not_mem_nil) dX5_toLast_13

set_option maxHeartbeats 4000000 in
set_option maxRecDepth 100000 in
theorem g_X5_halts (l : Launch) (D : va_G) (cI cL cZ cC : ClassId) (g0 : Nat) (ra : Nat) (wa : Nat) (ta : Nat) (ma : Nat) (pa : Nat) (ba : Nat) (ka : Nat) (fa : Nat) (qa : Nat) (ea : Nat) (za : Nat) (ya : Nat) (kpt : Int32) (mkd : Int32) (tpd : Int32) (at0 : Int32) (wel : Int32) (srt : Int32) (wks : Int32) (st : Nat) (nw : Nat → Int32) (a0 : Nat) (a2 : Int32) (hn0 : nw 0 = nI st) (hs1 : 1 ≤ st) (hs7 : st ≤ 7) (ha : a0 ≤ 2) : Met l yX5_halts wsX5_halts ({ frames := 0, cells := 0, slots := 0, locals := 0 } : Room) (xPc D [.ref g0, .int (nI a0), .int a2] [(g0, .inr (5, [.ref ra, .ref wa, .ref ta, .int kpt, .ref ma, .int mkd, .ref pa, .int tpd, .int at0, .int wel, .ref ba, .ref ka, .int srt, .ref fa, .ref qa, .ref ea, .ref za, .ref ya, .int wks])), (wa, .inl (cI, 70, .inl nw))] (xTy cI cL cZ cC)) (vp_Si (fun r : Int32 => r = sHalt (nw (20 + 16 * a0)) a2 (nI (st - 1)))) 0 0 (fun _ => False) := by
  refine Met.ofW (cc := cX5_halts) (maxL := 4) (ret := (some .boolean)) (by decide) rfl ?_
  intro p e s m args below meth c s₁ B hml hv
  obtain ⟨rfl, hP, hK⟩ := hv
  have hx := B.exec
  have hb := B.bytes
  have hr := B.returns
  have hts := atoms_spec (ws := wsX5_halts) B.pre
  have hown : s.vm.findClass RX5 = some m.cls := findClass_of_methodNamed B.named
  have hlocks := B.notSynchronized
  have hwX5 : ∀ w ∈ u_ws RX5 TX5 19, w ∈ wsX5_halts := fun _ h => List.mem_cons_of_mem _ (List.mem_append_right _ h)
  have hl := lv_entry ([.ref g0, .int (nI a0), .int a2]) (n := 4) (Nat.le_of_ble_eq_true rfl)
  rw [lg_entry_eq]
  generalize (lg_sl ([.ref g0, .int (nI a0), .int a2]) ++ List.replicate (4 - (lg_sl ([.ref g0, .int (nI a0), .int a2])).length) Slot.unset).toArray = ls at hl ⊢
  have hl : lv_has ls 4 [(0, .ref g0), (1, .int (nI a0)), (2, .int a2)] := hl
  refine lv_aload_n hx hb dX5_halts_0 rfl (lv_at hl 0 rfl) ?_
  refine va_get (D := D) (ci := 5) (v := .ref wa) (C := RX5) (T := TX5) (N := 19) hx hb hts hwX5 hown hK hP 0 rfl rfl 1 (by decide) (hts (.fieldLink RX5 19 "WaitOrWalkOnModel" "now" "[I") (by decide +kernel)) (fun _ h9 => h9) rfl dX5_halts_1 ?_
  refine lv_bipush (v := 20) hx hb dX5_halts_4 (by decide) ?_
  refine lv_bipush (v := 16) hx hb dX5_halts_6 (by decide) ?_
  refine lv_iload_n hx hb dX5_halts_8 rfl (lv_at hl 1 rfl) ?_
  refine lv_imul hx hb dX5_halts_9 ?_
  refine lv_iadd hx hb dX5_halts_10 ?_
  refine xv_int (y := nI (20 + 16 * a0)) (by rw [show (16 : Int32) = nI 16 from rfl, show (20 : Int32) = nI 20 from rfl, pk_mul, nI_add]) ?_
  refine va_iald (D := D) hx hb hK hP 1 0 rfl rfl (vp_in_nI (by omega) (by decide)) dX5_halts_11 ?_
  refine xv_int (y := nw (20 + 16 * a0)) (by rw [nI_clamp (by omega)]) ?_
  refine lv_istore_n (lv' := [(3, .int (nw (20 + 16 * a0))), (0, .ref g0), (1, .int (nI a0)), (2, .int a2)]) hx hb dX5_halts_12 rfl hl (by decide) rfl (fun ls hl => ?_)
  refine lv_iload_n hx hb dX5_halts_13 rfl (lv_at hl 0 rfl) ?_
  refine lv_iconst (v := 2) hx hb dX5_halts_14 (by decide) ?_
  refine lv_icmp_eq (tgt := 23) hx hb dX5_halts_15 (by decide) (fun c_1 => ?_) (fun c_1 => ?_)
  · refine lv_iload_n hx hb dX5_halts_23 rfl (lv_at hl 3 rfl) ?_
    refine lv_iconst (v := 2) hx hb dX5_halts_24 (by decide) ?_
    refine lv_irem hx hb dX5_halts_25 ((by decide)) ?_
    refine lv_if_eq (tgt := 41) hx hb dX5_halts_26 (by decide) (fun c_2 => ?_) (fun c_2 => ?_)
    · refine lv_iconst (v := 1) hx hb dX5_halts_41 (by decide) ?_
      refine lv_goto (tgt := 46) hx hb dX5_halts_42 (by decide) ?_
      exact W.zret (v := 1) (ty := .boolean) hx hb hr (by decide +kernel) (fun t ht hW => ⟨_, rfl, by simp [sHalt, c_1, c_2], ht⟩) (fun _ h => absurd h List.not_mem_nil) dX5_halts_46
    · refine lv_iload_n hx hb dX5_halts_29 rfl (lv_at hl 3 rfl) ?_
      refine lv_aload_n hx hb dX5_halts_30 rfl (lv_at hl 1 rfl) ?_
      refine va_get (D := D) (ci := 5) (v := .ref wa) (C := RX5) (T := TX5) (N := 19) hx hb hts hwX5 hown hK hP 0 rfl rfl 1 (by decide) (hts (.fieldLink RX5 19 "WaitOrWalkOnModel" "now" "[I") (by decide +kernel)) (fun _ h9 => h9) rfl dX5_halts_31 ?_
      refine lv_iconst (v := 0) hx hb dX5_halts_34 (by decide) ?_
      refine va_iald (D := D) hx hb hK hP 1 0 rfl rfl (by unfold vp_in; decide +kernel) dX5_halts_35 ?_
      refine xv_int (y := nw 0) rfl ?_
      refine xv_int (y := nI st) (hn0) ?_
      refine lv_iconst (v := 1) hx hb dX5_halts_36 (by decide) ?_
      refine lv_isub hx hb dX5_halts_37 ?_
      refine xv_int (y := nI (st - 1)) (pk_sub hs1) ?_
      refine lv_icmp_ne (tgt := 45) hx hb dX5_halts_38 (by decide) (fun c_3 => ?_) (fun c_3 => ?_)
      · refine lv_iconst (v := 0) hx hb dX5_halts_45 (by decide) ?_
        exact W.zret (v := 0) (ty := .boolean) hx hb hr (by decide +kernel) (fun t ht hW => ⟨_, rfl, by simp [sHalt, c_1, c_2, c_3], ht⟩) (fun _ h => absurd h List.not_mem_nil) dX5_halts_46
      · refine lv_iconst (v := 1) hx hb dX5_halts_41 (by decide) ?_
        refine lv_goto (tgt := 46) hx hb dX5_halts_42 (by decide) ?_
        exact W.zret (v := 1) (ty := .boolean) hx hb hr (by decide +kernel) (fun t ht hW => ⟨_, rfl, by simp [sHalt, c_1, c_2, c_3], ht⟩) (fun _ h => absurd h List.not_mem_nil) dX5_halts_46
  · refine lv_iload_n hx hb dX5_halts_18 rfl (lv_at hl 0 rfl) ?_
    refine lv_iconst (v := 4) hx hb dX5_halts_19 (by decide) ?_
    refine lv_icmp_ne (tgt := 41) hx hb dX5_halts_20 (by decide) (fun c_4 => ?_) (fun c_4 => ?_)
    · refine lv_iconst (v := 1) hx hb dX5_halts_41 (by decide) ?_
      refine lv_goto (tgt := 46) hx hb dX5_halts_42 (by decide) ?_
      exact W.zret (v := 1) (ty := .boolean) hx hb hr (by decide +kernel) (fun t ht hW => ⟨_, rfl, by simp [sHalt, c_1, c_4], ht⟩) (fun _ h => absurd h List.not_mem_nil) dX5_halts_46
    · refine lv_iload_n hx hb dX5_halts_23 rfl (lv_at hl 3 rfl) ?_
      refine lv_iconst (v := 2) hx hb dX5_halts_24 (by decide) ?_
      refine lv_irem hx hb dX5_halts_25 ((by decide)) ?_
      refine lv_if_eq (tgt := 41) hx hb dX5_halts_26 (by decide) (fun c_5 => ?_) (fun c_5 => ?_)
      · refine lv_iconst (v := 1) hx hb dX5_halts_41 (by decide) ?_
        refine lv_goto (tgt := 46) hx hb dX5_halts_42 (by decide) ?_
        exact W.zret (v := 1) (ty := .boolean) hx hb hr (by decide +kernel) (fun t ht hW => ⟨_, rfl, by simp [sHalt, c_1, c_4, c_5], ht⟩) (fun _ h => absurd h List.not_mem_nil) dX5_halts_46
      · refine lv_iload_n hx hb dX5_halts_29 rfl (lv_at hl 3 rfl) ?_
        refine lv_aload_n hx hb dX5_halts_30 rfl (lv_at hl 1 rfl) ?_
        refine va_get (D := D) (ci := 5) (v := .ref wa) (C := RX5) (T := TX5) (N := 19) hx hb hts hwX5 hown hK hP 0 rfl rfl 1 (by decide) (hts (.fieldLink RX5 19 "WaitOrWalkOnModel" "now" "[I") (by decide +kernel)) (fun _ h9 => h9) rfl dX5_halts_31 ?_
        refine lv_iconst (v := 0) hx hb dX5_halts_34 (by decide) ?_
        refine va_iald (D := D) hx hb hK hP 1 0 rfl rfl (by unfold vp_in; decide +kernel) dX5_halts_35 ?_
        refine xv_int (y := nw 0) rfl ?_
        refine xv_int (y := nI st) (hn0) ?_
        refine lv_iconst (v := 1) hx hb dX5_halts_36 (by decide) ?_
        refine lv_isub hx hb dX5_halts_37 ?_
        refine xv_int (y := nI (st - 1)) (pk_sub hs1) ?_
        refine lv_icmp_ne (tgt := 45) hx hb dX5_halts_38 (by decide) (fun c_6 => ?_) (fun c_6 => ?_)
        · refine lv_iconst (v := 0) hx hb dX5_halts_45 (by decide) ?_
          exact W.zret (v := 0) (ty := .boolean) hx hb hr (by decide +kernel) (fun t ht hW => ⟨_, rfl, by simp [sHalt, c_1, c_4, c_5, c_6], ht⟩) (fun _ h => absurd h List.not_mem_nil) dX5_halts_46
        · refine lv_iconst (v := 1) hx hb dX5_halts_41 (by decide) ?_
          refine lv_goto (tgt := 46) hx hb dX5_halts_42 (by decide) ?_
          exact W.zret (v := 1) (ty := .boolean) hx hb hr (by decide +kernel) (fun t ht hW => ⟨_, rfl, by simp [sHalt, c_1, c_4, c_5, c_6], ht⟩) (fun _ h => absurd h List.not_mem_nil) dX5_halts_46

set_option maxHeartbeats 4000000 in
set_option maxRecDepth 100000 in
theorem g_X5_weight (l : Launch) (D : va_G) (cI cL cZ cC : ClassId) (g0 : Nat) (ra : Nat) (wa : Nat) (ta : Nat) (ma : Nat) (pa : Nat) (ba : Nat) (ka : Nat) (fa : Nat) (qa : Nat) (ea : Nat) (za : Nat) (ya : Nat) (kpt : Int32) (mkd : Int32) (tpd : Int32) (at0 : Int32) (wel : Int32) (srt : Int32) (wks : Int32) (st : Nat) (nw : Nat → Int32) (a0 : Nat) (t0 : Nat) (hn0 : nw 0 = nI st) (hs1 : 1 ≤ st) (hs7 : st ≤ 7) (ha : a0 ≤ 2) (ht : t0 ≤ 12) : Met l yX5_weight wsX5_weight ({ frames := 0, cells := 0, slots := 0, locals := 0 } : Room) (xPc D [.ref g0, .int (nI a0), .int (nI t0)] [(g0, .inr (5, [.ref ra, .ref wa, .ref ta, .int kpt, .ref ma, .int mkd, .ref pa, .int tpd, .int at0, .int wel, .ref ba, .ref ka, .int srt, .ref fa, .ref qa, .ref ea, .ref za, .ref ya, .int wks])), (wa, .inl (cI, 70, .inl nw))] (xTy cI cL cZ cC)) (vp_Si (fun r : Int32 => r = xWt (fun i => nw (20 + 16 * a0 + i)) t0)) 0 0 (fun _ => False) := by
  refine Met.ofW (cc := cX5_weight) (maxL := 3) (ret := (some .int)) (by decide) rfl ?_
  intro p e s m args below meth c s₁ B hml hv
  obtain ⟨rfl, hP, hK⟩ := hv
  have hx := B.exec
  have hb := B.bytes
  have hr := B.returns
  have hts := atoms_spec (ws := wsX5_weight) B.pre
  have hown : s.vm.findClass RX5 = some m.cls := findClass_of_methodNamed B.named
  have hlocks := B.notSynchronized
  have hwX5 : ∀ w ∈ u_ws RX5 TX5 19, w ∈ wsX5_weight := fun _ h => List.mem_cons_of_mem _ (List.mem_append_right _ h)
  have hl := lv_entry ([.ref g0, .int (nI a0), .int (nI t0)]) (n := 3) (Nat.le_of_ble_eq_true rfl)
  rw [lg_entry_eq]
  generalize (lg_sl ([.ref g0, .int (nI a0), .int (nI t0)]) ++ List.replicate (3 - (lg_sl ([.ref g0, .int (nI a0), .int (nI t0)])).length) Slot.unset).toArray = ls at hl ⊢
  have hl : lv_has ls 3 [(0, .ref g0), (1, .int (nI a0)), (2, .int (nI t0))] := hl
  refine lv_aload_n hx hb dX5_weight_0 rfl (lv_at hl 0 rfl) ?_
  refine va_get (D := D) (ci := 5) (v := .ref wa) (C := RX5) (T := TX5) (N := 19) hx hb hts hwX5 hown hK hP 0 rfl rfl 1 (by decide) (hts (.fieldLink RX5 19 "WaitOrWalkOnModel" "now" "[I") (by decide +kernel)) (fun _ h9 => h9) rfl dX5_weight_1 ?_
  refine lv_bipush (v := 20) hx hb dX5_weight_4 (by decide) ?_
  refine lv_bipush (v := 16) hx hb dX5_weight_6 (by decide) ?_
  refine lv_iload_n hx hb dX5_weight_8 rfl (lv_at hl 1 rfl) ?_
  refine lv_imul hx hb dX5_weight_9 ?_
  refine lv_iadd hx hb dX5_weight_10 ?_
  refine xv_int (y := nI (20 + 16 * a0)) (by rw [show (16 : Int32) = nI 16 from rfl, show (20 : Int32) = nI 20 from rfl, pk_mul, nI_add]) ?_
  refine lv_iload_n hx hb dX5_weight_11 rfl (lv_at hl 2 rfl) ?_
  refine lv_bipush (v := 12) hx hb dX5_weight_12 (by decide) ?_
  refine lv_icmp_ne (tgt := 21) hx hb dX5_weight_14 (by decide) (fun c_1 => ?_) (fun c_1 => ?_)
  · refine lv_iconst (v := 3) hx hb dX5_weight_21 (by decide) ?_
    refine lv_iload_n hx hb dX5_weight_22 rfl (lv_at hl 2 rfl) ?_
    refine lv_iadd hx hb dX5_weight_23 ?_
    refine xv_int (y := nI (3 + t0)) (nI_add 3 t0) ?_
    refine lv_iadd hx hb dX5_weight_24 ?_
    refine xv_int (y := nI (20 + 16 * a0 + (3 + t0))) (nI_add (20 + 16 * a0) (3 + t0)) ?_
    refine va_iald (D := D) hx hb hK hP 1 0 rfl rfl (vp_in_nI (by omega) (by decide)) dX5_weight_25 ?_
    refine xv_int (y := nw (20 + 16 * a0 + (3 + t0))) (by rw [nI_clamp (by omega)]) ?_
    exact W.iret (v := nw (20 + 16 * a0 + (3 + t0))) hx hb hr (fun t ht hW => ⟨_, rfl, (by rw [xWt, if_neg (fun w => c_1 (congrArg nI w))]), ht⟩) (fun _ h => absurd h List.not_mem_nil) dX5_weight_26
  · refine lv_iconst (v := 2) hx hb dX5_weight_17 (by decide) ?_
    refine lv_goto (tgt := 24) hx hb dX5_weight_18 (by decide) ?_
    refine lv_iadd hx hb dX5_weight_24 ?_
    refine xv_int (y := nI (20 + 16 * a0 + 2)) (nI_add (20 + 16 * a0) 2) ?_
    refine va_iald (D := D) hx hb hK hP 1 0 rfl rfl (vp_in_nI (by omega) (by decide)) dX5_weight_25 ?_
    refine xv_int (y := nw (20 + 16 * a0 + 2)) (by rw [nI_clamp (by omega)]) ?_
    exact W.iret (v := nw (20 + 16 * a0 + 2)) hx hb hr (fun t ht hW => ⟨_, rfl, (by rw [xWt, if_pos ((nI_eq (a := t0) (b := 12) (by omega) (by decide)).mp c_1)]), ht⟩) (fun _ h => absurd h List.not_mem_nil) dX5_weight_26

set_option maxHeartbeats 4000000 in
set_option maxRecDepth 100000 in
theorem g_X5_weights (l : Launch) (D : va_G) (cI cL cZ cC : ClassId) (g0 : Nat) (ra : Nat) (wa : Nat) (ta : Nat) (ma : Nat) (pa : Nat) (ba : Nat) (ka : Nat) (fa : Nat) (qa : Nat) (ea : Nat) (za : Nat) (ya : Nat) (kpt : Int32) (mkd : Int32) (tpd : Int32) (at0 : Int32) (wel : Int32) (srt : Int32) (wks : Int32) (st : Nat) (nw : Nat → Int32) (a0 : Nat) (t0 : Nat) (hn0 : nw 0 = nI st) (hs1 : 1 ≤ st) (hs7 : st ≤ 7) (ha : a0 ≤ 2) (ht : t0 ≤ 12) : Met l yX5_weights wsX5_weights ({ frames := 1, cells := 0, slots := 0, locals := 22 } : Room) (xPc D [.ref g0, .int (nI a0), .int (nI t0)] [(g0, .inr (5, [.ref ra, .ref wa, .ref ta, .int kpt, .ref ma, .int mkd, .ref pa, .int tpd, .int at0, .int wel, .ref ba, .ref ka, .int srt, .ref fa, .ref qa, .ref ea, .ref za, .ref ya, .int wks])), (wa, .inl (cI, 70, .inl nw))] (xTy cI cL cZ cC)) (vp_Si (fun r : Int32 => r = xWs (fun i => nw (20 + 16 * a0 + i)) t0)) 0 0 (fun _ => False) := by
  refine Met.ofW (cc := cX5_weights) (maxL := 5) (ret := (some .int)) (by decide) rfl ?_
  intro p e s m args below meth c s₁ B hml hv
  obtain ⟨rfl, hP, hK⟩ := hv
  have hx := B.exec
  have hb := B.bytes
  have hr := B.returns
  have hts := atoms_spec (ws := wsX5_weights) B.pre
  have hown : s.vm.findClass RX5 = some m.cls := findClass_of_methodNamed B.named
  have hlocks := B.notSynchronized
  have hl := lv_entry ([.ref g0, .int (nI a0), .int (nI t0)]) (n := 5) (Nat.le_of_ble_eq_true rfl)
  rw [lg_entry_eq]
  generalize (lg_sl ([.ref g0, .int (nI a0), .int (nI t0)]) ++ List.replicate (5 - (lg_sl ([.ref g0, .int (nI a0), .int (nI t0)])).length) Slot.unset).toArray = ls at hl ⊢
  have hl : lv_has ls 5 [(0, .ref g0), (1, .int (nI a0)), (2, .int (nI t0))] := hl
  refine lv_aload_n hx hb dX5_weights_0 rfl (lv_at hl 0 rfl) ?_
  refine lv_iload_n hx hb dX5_weights_1 rfl (lv_at hl 1 rfl) ?_
  refine lv_bipush (v := 12) hx hb dX5_weights_2 (by decide) ?_
  have hPc := hP.sub (ws' := [(g0, .inr (5, [.ref ra, .ref wa, .ref ta, .int kpt, .ref ma, .int mkd, .ref pa, .int tpd, .int at0, .int wel, .ref ba, .ref ka, .int srt, .ref fa, .ref qa, .ref ea, .ref za, .ref ya, .int wks])), (wa, .inl (cI, 70, .inl nw))]) [0, 1] rfl
  refine vp_callSi (va_Run.run (va_runV (As := [.int (nI a0), .int 12]) (rest := []) ⟨hx, hb, hml, hown, hts⟩ (g_X5_weight l D cI cL cZ cC g0 ra wa ta ma pa ba ka fa qa ea za ya kpt mkd tpd at0 wel srt wks st nw a0 12 (by first | assumption | decide +kernel) (by first | assumption | decide +kernel) (by first | assumption | decide +kernel) (by first | assumption | decide +kernel) (by decide)) (cwV 2 hts gX5_weights_X5_weight rfl rfl rfl (by decide +kernel) ⟨Nat.le_of_ble_eq_true rfl, Nat.le_of_ble_eq_true rfl⟩) ⟨xPc_bl, va_recv hK hPc (ci := 5) (q0 := 0) rfl rfl, xPc_use hPc hK⟩ rfl rfl hl.1 rfl (lv_room (Nat.le_of_ble_eq_true rfl)) dX5_weights_4 ⟨Nat.le_of_ble_eq_true rfl, Nat.le_of_ble_eq_true rfl⟩)) (fun r_1 er_1 => ?_)
  obtain rfl : (xWt (fun i => nw (20 + 16 * a0 + i)) 12 : Int32) = r_1 := Eq.symm er_1
  refine lv_istore_n (lv' := [(3, .int (xWt (fun i => nw (20 + 16 * a0 + i)) 12)), (0, .ref g0), (1, .int (nI a0)), (2, .int (nI t0))]) hx hb dX5_weights_7 rfl hl (by decide) rfl (fun ls hl => ?_)
  refine lv_iload_n hx hb dX5_weights_8 rfl (lv_at hl 3 rfl) ?_
  refine lv_istore (lv' := [(4, .int (nI t0)), (3, .int (xWt (fun i => nw (20 + 16 * a0 + i)) 12)), (0, .ref g0), (1, .int (nI a0)), (2, .int (nI t0))]) hx hb dX5_weights_9 hl (by decide) rfl (fun ls hl => ?_)
  refine xl_loop (σ := Nat) (fun n q ls => lv_has ls 5 [(4, .int (nI (t0 + q))), (3, .int (xAc2 (xWt (fun i => nw (20 + 16 * a0 + i)) 12) (xWt (fun i => nw (20 + 16 * a0 + i))) t0 q)), (0, .ref g0), (1, .int (nI a0)), (2, .int (nI t0))] ∧ (12 - (t0 + q) < n) ∧ (q ≤ 12 - t0)) (13) (0) ⟨lv_sub hl [0, 1, 2, 3, 4] rfl, by (try dsimp only); exact ⟨by omega, by omega⟩⟩ (fun q ls h => absurd h.2.1 (Nat.not_lt_zero _)) ?_
  intro n_11 q_11 ls ih_11 hI_11
  obtain ⟨hl, hI_11⟩ := hI_11
  obtain ⟨k, e_11⟩ : ∃ z, z = q_11 := ⟨_, rfl⟩
  subst e_11
  obtain ⟨h1, h2⟩ := hI_11
  try dsimp only at hl h1 h2
  refine lv_iload hx hb dX5_weights_11 (lv_at hl 0 rfl) ?_
  refine lv_bipush (v := 12) hx hb dX5_weights_13 (by decide) ?_
  refine lv_icmp_ge (tgt := 34) hx hb dX5_weights_15 (by decide) (fun c_2 => ?_) (fun c_2 => ?_)
  · refine lv_iload_n hx hb dX5_weights_34 rfl (lv_at hl 1 rfl) ?_
    exact W.iret (v := xAc2 (xWt (fun i => nw (20 + 16 * a0 + i)) 12) (xWt (fun i => nw (20 + 16 * a0 + i))) t0 k) hx hb hr (fun t ht hW => ⟨_, rfl, (by have w := mt (nI_ltI (a := t0 + k) (b := 12) (by omega) (by omega)).mpr (Int32.not_lt.mpr c_2); exact congrArg (xAc2 _ _ t0) (show k = 12 - t0 by omega)), ht⟩) (fun _ h => absurd h List.not_mem_nil) dX5_weights_35
  · refine lv_iload_n hx hb dX5_weights_18 rfl (lv_at hl 1 rfl) ?_
    refine lv_aload_n hx hb dX5_weights_19 rfl (lv_at hl 2 rfl) ?_
    refine lv_iload_n hx hb dX5_weights_20 rfl (lv_at hl 3 rfl) ?_
    refine lv_iload hx hb dX5_weights_21 (lv_at hl 0 rfl) ?_
    have hPc := hP.sub (ws' := [(g0, .inr (5, [.ref ra, .ref wa, .ref ta, .int kpt, .ref ma, .int mkd, .ref pa, .int tpd, .int at0, .int wel, .ref ba, .ref ka, .int srt, .ref fa, .ref qa, .ref ea, .ref za, .ref ya, .int wks])), (wa, .inl (cI, 70, .inl nw))]) [0, 1] rfl
    refine vp_callSi (va_Run.run (va_runV (As := [.int (nI a0), .int (nI (t0 + k))]) (rest := [.int (xAc2 (xWt (fun i => nw (20 + 16 * a0 + i)) 12) (xWt (fun i => nw (20 + 16 * a0 + i))) t0 k)]) ⟨hx, hb, hml, hown, hts⟩ (g_X5_weight l D cI cL cZ cC g0 ra wa ta ma pa ba ka fa qa ea za ya kpt mkd tpd at0 wel srt wks st nw a0 (t0 + k) (by first | assumption | decide +kernel) (by first | assumption | decide +kernel) (by first | assumption | decide +kernel) (by first | assumption | decide +kernel) (by have w := (nI_ltI (a := t0 + k) (b := 12) (by omega) (by omega)).mp (Int32.not_le.mp c_2); omega)) (cwV 2 hts gX5_weights_X5_weight rfl rfl rfl (by decide +kernel) ⟨Nat.le_of_ble_eq_true rfl, Nat.le_of_ble_eq_true rfl⟩) ⟨xPc_bl, va_recv hK hPc (ci := 5) (q0 := 0) rfl rfl, xPc_use hPc hK⟩ rfl rfl hl.1 rfl (lv_room (Nat.le_of_ble_eq_true rfl)) dX5_weights_23 ⟨Nat.le_of_ble_eq_true rfl, Nat.le_of_ble_eq_true rfl⟩)) (fun r_3 er_3 => ?_)
    obtain rfl : (xWt (fun i => nw (20 + 16 * a0 + i)) (t0 + k) : Int32) = r_3 := Eq.symm er_3
    refine lv_iadd hx hb dX5_weights_26 ?_
    refine xv_int (y := xAc2 (xWt (fun i => nw (20 + 16 * a0 + i)) 12) (xWt (fun i => nw (20 + 16 * a0 + i))) t0 (k + 1)) (rfl) ?_
    refine lv_istore_n (lv' := [(3, .int (xAc2 (xWt (fun i => nw (20 + 16 * a0 + i)) 12) (xWt (fun i => nw (20 + 16 * a0 + i))) t0 (k + 1))), (4, .int (nI (t0 + k))), (0, .ref g0), (1, .int (nI a0)), (2, .int (nI t0))]) hx hb dX5_weights_27 rfl hl (by decide) rfl (fun ls hl => ?_)
    refine lv_iinc (v := nI (t0 + (k + 1))) (lv' := [(4, .int (nI (t0 + (k + 1)))), (3, .int (xAc2 (xWt (fun i => nw (20 + 16 * a0 + i)) 12) (xWt (fun i => nw (20 + 16 * a0 + i))) t0 (k + 1))), (0, .ref g0), (1, .int (nI a0)), (2, .int (nI t0))]) hx hb dX5_weights_28 hl (k := 1) rfl (nI_1 (t0 + k)) (by decide) rfl (fun ls hl => ?_)
    refine lv_goto (tgt := 11) hx hb dX5_weights_31 (by decide) ?_
    have w := (nI_ltI (a := t0 + k) (b := 12) (by omega) (by omega)).mp (Int32.not_le.mp c_2)
    exact ih_11 (k + 1) _ ⟨lv_sub hl [0, 1, 2, 3, 4] rfl, by (try dsimp only); exact ⟨by omega, by omega⟩⟩

set_option maxHeartbeats 4000000 in
set_option maxRecDepth 100000 in
theorem g_X4_noStop (l : Launch) (D : va_G) (cI cL cZ cC : ClassId) (h0 : Nat) (rd : Nat) (dr : Nat) (kp : Nat) (pl : Nat) (tx : Nat) (nu : Nat) (rf_a : Nat) (nc : Int32) (hi : Int32) (pd : Int32) (r0 : Nat) (r1 : Nat) (st : Nat) (ln : Nat) (ho : Int32) (pa : Int32) (si : Int32) (li : Int32) (a1 : Int32)  : Met l yX4_noStop wsX4_noStop ({ frames := 0, cells := 0, slots := 0, locals := 0 } : Room) (xPc D [.ref h0, .int a1] [(h0, .inr (4, [.ref rd, .ref dr, .ref kp, .ref pl, .ref tx, .ref nu, .ref rf_a, .int nc, .int hi, .int pd])), (rd, .inr (2, [.int (nI st), .int ho, .int pa, .int si, .int li, .int (nI ln), .ref r0, .ref r1]))] (xTy cI cL cZ cC)) (vp_Si (fun r : Int32 => r = sNL st a1)) 0 0 (fun _ => False) := by
  refine Met.ofW (cc := cX4_noStop) (maxL := 2) (ret := (some .boolean)) (by decide) rfl ?_
  intro p e s m args below meth c s₁ B hml hv
  obtain ⟨rfl, hP, hK⟩ := hv
  have hx := B.exec
  have hb := B.bytes
  have hr := B.returns
  have hts := atoms_spec (ws := wsX4_noStop) B.pre
  have hown : s.vm.findClass RX4 = some m.cls := findClass_of_methodNamed B.named
  have hlocks := B.notSynchronized
  have hwX2 : ∀ w ∈ u_ws RX2 TX2 8, w ∈ wsX4_noStop := fun _ h => List.mem_cons_of_mem _ (List.mem_append_right _ h)
  have hwX4 : ∀ w ∈ u_ws RX4 TX4 10, w ∈ wsX4_noStop := fun _ h => List.mem_cons_of_mem _ (List.mem_append_left _ (List.mem_append_right _ h))
  have hl := lv_entry ([.ref h0, .int a1]) (n := 2) (Nat.le_of_ble_eq_true rfl)
  rw [lg_entry_eq]
  generalize (lg_sl ([.ref h0, .int a1]) ++ List.replicate (2 - (lg_sl ([.ref h0, .int a1])).length) Slot.unset).toArray = ls at hl ⊢
  have hl : lv_has ls 2 [(0, .ref h0), (1, .int a1)] := hl
  refine lv_iload_n hx hb dX4_noStop_0 rfl (lv_at hl 1 rfl) ?_
  refine lv_if_lt (tgt := 15) hx hb dX4_noStop_1 (by decide) (fun c_1 => ?_) (fun c_1 => ?_)
  · refine lv_iconst (v := 1) hx hb dX4_noStop_15 (by decide) ?_
    refine lv_goto (tgt := 20) hx hb dX4_noStop_16 (by decide) ?_
    exact W.zret (v := 1) (ty := .boolean) hx hb hr (by decide +kernel) (fun t ht hW => ⟨_, rfl, by simp [sNL, c_1], ht⟩) (fun _ h => absurd h List.not_mem_nil) dX4_noStop_20
  · refine lv_iload_n hx hb dX4_noStop_4 rfl (lv_at hl 1 rfl) ?_
    refine lv_aload_n hx hb dX4_noStop_5 rfl (lv_at hl 0 rfl) ?_
    refine va_get (D := D) (ci := 4) (v := .ref rd) (C := RX4) (T := TX4) (N := 10) hx hb hts hwX4 hown hK hP 0 rfl rfl 0 (by decide) (hts (.fieldLink RX4 10 "WaitOrWalkOn" "road" "LWaitOrWalkOn$Road;") (by decide +kernel)) (fun _ h9 => h9) rfl dX4_noStop_6 ?_
    refine va_get (D := D) (ci := 2) (v := .int (nI st)) (C := RX2) (T := TX2) (N := 8) hx hb hts hwX2 hown hK hP 1 rfl rfl 0 (by decide) (hts (.fieldLink RX4 222 "WaitOrWalkOn$Road" "stops" "I") (by decide +kernel)) (fun _ h9 => h9) rfl dX4_noStop_9 ?_
    refine lv_icmp_lt (tgt := 19) hx hb dX4_noStop_12 (by decide) (fun c_2 => ?_) (fun c_2 => ?_)
    · refine lv_iconst (v := 0) hx hb dX4_noStop_19 (by decide) ?_
      exact W.zret (v := 0) (ty := .boolean) hx hb hr (by decide +kernel) (fun t ht hW => ⟨_, rfl, by simp [sNL, c_1, c_2], ht⟩) (fun _ h => absurd h List.not_mem_nil) dX4_noStop_20
    · refine lv_iconst (v := 1) hx hb dX4_noStop_15 (by decide) ?_
      refine lv_goto (tgt := 20) hx hb dX4_noStop_16 (by decide) ?_
      exact W.zret (v := 1) (ty := .boolean) hx hb hr (by decide +kernel) (fun t ht hW => ⟨_, rfl, by simp [sNL, c_1, c_2], ht⟩) (fun _ h => absurd h List.not_mem_nil) dX4_noStop_20

set_option maxHeartbeats 4000000 in
set_option maxRecDepth 100000 in
theorem g_X4_noLine (l : Launch) (D : va_G) (cI cL cZ cC : ClassId) (h0 : Nat) (rd : Nat) (dr : Nat) (kp : Nat) (pl : Nat) (tx : Nat) (nu : Nat) (rf_a : Nat) (nc : Int32) (hi : Int32) (pd : Int32) (r0 : Nat) (r1 : Nat) (st : Nat) (ln : Nat) (ho : Int32) (pa : Int32) (si : Int32) (li : Int32) (a1 : Int32)  : Met l yX4_noLine wsX4_noLine ({ frames := 0, cells := 0, slots := 0, locals := 0 } : Room) (xPc D [.ref h0, .int a1] [(h0, .inr (4, [.ref rd, .ref dr, .ref kp, .ref pl, .ref tx, .ref nu, .ref rf_a, .int nc, .int hi, .int pd])), (rd, .inr (2, [.int (nI st), .int ho, .int pa, .int si, .int li, .int (nI ln), .ref r0, .ref r1]))] (xTy cI cL cZ cC)) (vp_Si (fun r : Int32 => r = sNL ln a1)) 0 0 (fun _ => False) := by
  refine Met.ofW (cc := cX4_noLine) (maxL := 2) (ret := (some .boolean)) (by decide) rfl ?_
  intro p e s m args below meth c s₁ B hml hv
  obtain ⟨rfl, hP, hK⟩ := hv
  have hx := B.exec
  have hb := B.bytes
  have hr := B.returns
  have hts := atoms_spec (ws := wsX4_noLine) B.pre
  have hown : s.vm.findClass RX4 = some m.cls := findClass_of_methodNamed B.named
  have hlocks := B.notSynchronized
  have hwX2 : ∀ w ∈ u_ws RX2 TX2 8, w ∈ wsX4_noLine := fun _ h => List.mem_cons_of_mem _ (List.mem_append_right _ h)
  have hwX4 : ∀ w ∈ u_ws RX4 TX4 10, w ∈ wsX4_noLine := fun _ h => List.mem_cons_of_mem _ (List.mem_append_left _ (List.mem_append_right _ h))
  have hl := lv_entry ([.ref h0, .int a1]) (n := 2) (Nat.le_of_ble_eq_true rfl)
  rw [lg_entry_eq]
  generalize (lg_sl ([.ref h0, .int a1]) ++ List.replicate (2 - (lg_sl ([.ref h0, .int a1])).length) Slot.unset).toArray = ls at hl ⊢
  have hl : lv_has ls 2 [(0, .ref h0), (1, .int a1)] := hl
  refine lv_iload_n hx hb dX4_noLine_0 rfl (lv_at hl 1 rfl) ?_
  refine lv_if_lt (tgt := 15) hx hb dX4_noLine_1 (by decide) (fun c_1 => ?_) (fun c_1 => ?_)
  · refine lv_iconst (v := 1) hx hb dX4_noLine_15 (by decide) ?_
    refine lv_goto (tgt := 20) hx hb dX4_noLine_16 (by decide) ?_
    exact W.zret (v := 1) (ty := .boolean) hx hb hr (by decide +kernel) (fun t ht hW => ⟨_, rfl, by simp [sNL, c_1], ht⟩) (fun _ h => absurd h List.not_mem_nil) dX4_noLine_20
  · refine lv_iload_n hx hb dX4_noLine_4 rfl (lv_at hl 1 rfl) ?_
    refine lv_aload_n hx hb dX4_noLine_5 rfl (lv_at hl 0 rfl) ?_
    refine va_get (D := D) (ci := 4) (v := .ref rd) (C := RX4) (T := TX4) (N := 10) hx hb hts hwX4 hown hK hP 0 rfl rfl 0 (by decide) (hts (.fieldLink RX4 10 "WaitOrWalkOn" "road" "LWaitOrWalkOn$Road;") (by decide +kernel)) (fun _ h9 => h9) rfl dX4_noLine_6 ?_
    refine va_get (D := D) (ci := 2) (v := .int (nI ln)) (C := RX2) (T := TX2) (N := 8) hx hb hts hwX2 hown hK hP 1 rfl rfl 5 (by decide) (hts (.fieldLink RX4 225 "WaitOrWalkOn$Road" "lineCount" "I") (by decide +kernel)) (fun _ h9 => h9) rfl dX4_noLine_9 ?_
    refine lv_icmp_lt (tgt := 19) hx hb dX4_noLine_12 (by decide) (fun c_2 => ?_) (fun c_2 => ?_)
    · refine lv_iconst (v := 0) hx hb dX4_noLine_19 (by decide) ?_
      exact W.zret (v := 0) (ty := .boolean) hx hb hr (by decide +kernel) (fun t ht hW => ⟨_, rfl, by simp [sNL, c_1, c_2], ht⟩) (fun _ h => absurd h List.not_mem_nil) dX4_noLine_20
    · refine lv_iconst (v := 1) hx hb dX4_noLine_15 (by decide) ?_
      refine lv_goto (tgt := 20) hx hb dX4_noLine_16 (by decide) ?_
      exact W.zret (v := 1) (ty := .boolean) hx hb hr (by decide +kernel) (fun t ht hW => ⟨_, rfl, by simp [sNL, c_1, c_2], ht⟩) (fun _ h => absurd h List.not_mem_nil) dX4_noLine_20

set_option maxHeartbeats 4000000 in
set_option maxRecDepth 100000 in
theorem g_X4_noKind (l : Launch) (D : va_G) (cI cL cZ cC : ClassId) (a1 : Int32)  : Met l yX4_noKind wsX4_noKind ({ frames := 0, cells := 0, slots := 0, locals := 0 } : Room) (xPc D [.int a1] [] (xTy cI cL cZ cC)) (vp_Si (fun r : Int32 => r = sNK a1)) 0 0 (fun _ => False) := by
  refine Met.ofW (cc := cX4_noKind) (maxL := 1) (ret := (some .boolean)) (by decide) rfl ?_
  intro p e s m args below meth c s₁ B hml hv
  obtain ⟨rfl, hP, hK⟩ := hv
  have hx := B.exec
  have hb := B.bytes
  have hr := B.returns
  have hts := atoms_spec (ws := wsX4_noKind) B.pre
  have hown : s.vm.findClass RX4 = some m.cls := findClass_of_methodNamed B.named
  have hlocks := B.notSynchronized
  have hl := lv_entry ([.int a1]) (n := 1) (Nat.le_of_ble_eq_true rfl)
  rw [lg_entry_eq]
  generalize (lg_sl ([.int a1]) ++ List.replicate (1 - (lg_sl ([.int a1])).length) Slot.unset).toArray = ls at hl ⊢
  have hl : lv_has ls 1 [(0, .int a1)] := hl
  refine lv_iload_n hx hb dX4_noKind_0 rfl (lv_at hl 0 rfl) ?_
  refine lv_if_lt (tgt := 9) hx hb dX4_noKind_1 (by decide) (fun c_1 => ?_) (fun c_1 => ?_)
  · refine lv_iconst (v := 1) hx hb dX4_noKind_9 (by decide) ?_
    refine lv_goto (tgt := 14) hx hb dX4_noKind_10 (by decide) ?_
    exact W.zret (v := 1) (ty := .boolean) hx hb hr (by decide +kernel) (fun t ht hW => ⟨_, rfl, by simp [sNK, c_1], ht⟩) (fun _ h => absurd h List.not_mem_nil) dX4_noKind_14
  · refine lv_iload_n hx hb dX4_noKind_4 rfl (lv_at hl 0 rfl) ?_
    refine lv_iconst (v := 5) hx hb dX4_noKind_5 (by decide) ?_
    refine lv_icmp_le (tgt := 13) hx hb dX4_noKind_6 (by decide) (fun c_2 => ?_) (fun c_2 => ?_)
    · refine lv_iconst (v := 0) hx hb dX4_noKind_13 (by decide) ?_
      exact W.zret (v := 0) (ty := .boolean) hx hb hr (by decide +kernel) (fun t ht hW => ⟨_, rfl, by simp [sNK, c_1, (Int32.not_lt.mpr c_2)], ht⟩) (fun _ h => absurd h List.not_mem_nil) dX4_noKind_14
    · refine lv_iconst (v := 1) hx hb dX4_noKind_9 (by decide) ?_
      refine lv_goto (tgt := 14) hx hb dX4_noKind_10 (by decide) ?_
      exact W.zret (v := 1) (ty := .boolean) hx hb hr (by decide +kernel) (fun t ht hW => ⟨_, rfl, by simp [sNK, c_1, (Int32.not_le.mp c_2)], ht⟩) (fun _ h => absurd h List.not_mem_nil) dX4_noKind_14

set_option maxHeartbeats 4000000 in
set_option maxRecDepth 100000 in
theorem g_X4_noPart (l : Launch) (D : va_G) (cI cL cZ cC : ClassId) (a1 : Int32)  : Met l yX4_noPart wsX4_noPart ({ frames := 0, cells := 0, slots := 0, locals := 0 } : Room) (xPc D [.int a1] [] (xTy cI cL cZ cC)) (vp_Si (fun r : Int32 => r = sNP a1)) 0 0 (fun _ => False) := by
  refine Met.ofW (cc := cX4_noPart) (maxL := 1) (ret := (some .boolean)) (by decide) rfl ?_
  intro p e s m args below meth c s₁ B hml hv
  obtain ⟨rfl, hP, hK⟩ := hv
  have hx := B.exec
  have hb := B.bytes
  have hr := B.returns
  have hts := atoms_spec (ws := wsX4_noPart) B.pre
  have hown : s.vm.findClass RX4 = some m.cls := findClass_of_methodNamed B.named
  have hlocks := B.notSynchronized
  have hl := lv_entry ([.int a1]) (n := 1) (Nat.le_of_ble_eq_true rfl)
  rw [lg_entry_eq]
  generalize (lg_sl ([.int a1]) ++ List.replicate (1 - (lg_sl ([.int a1])).length) Slot.unset).toArray = ls at hl ⊢
  have hl : lv_has ls 1 [(0, .int a1)] := hl
  refine lv_iload_n hx hb dX4_noPart_0 rfl (lv_at hl 0 rfl) ?_
  refine lv_if_lt (tgt := 9) hx hb dX4_noPart_1 (by decide) (fun c_1 => ?_) (fun c_1 => ?_)
  · refine lv_iconst (v := 1) hx hb dX4_noPart_9 (by decide) ?_
    refine lv_goto (tgt := 14) hx hb dX4_noPart_10 (by decide) ?_
    exact W.zret (v := 1) (ty := .boolean) hx hb hr (by decide +kernel) (fun t ht hW => ⟨_, rfl, by simp [sNP, c_1], ht⟩) (fun _ h => absurd h List.not_mem_nil) dX4_noPart_14
  · refine lv_iload_n hx hb dX4_noPart_4 rfl (lv_at hl 0 rfl) ?_
    refine lv_iconst (v := 1) hx hb dX4_noPart_5 (by decide) ?_
    refine lv_icmp_le (tgt := 13) hx hb dX4_noPart_6 (by decide) (fun c_2 => ?_) (fun c_2 => ?_)
    · refine lv_iconst (v := 0) hx hb dX4_noPart_13 (by decide) ?_
      exact W.zret (v := 0) (ty := .boolean) hx hb hr (by decide +kernel) (fun t ht hW => ⟨_, rfl, by simp [sNP, c_1, (Int32.not_lt.mpr c_2)], ht⟩) (fun _ h => absurd h List.not_mem_nil) dX4_noPart_14
    · refine lv_iconst (v := 1) hx hb dX4_noPart_9 (by decide) ?_
      refine lv_goto (tgt := 14) hx hb dX4_noPart_10 (by decide) ?_
      exact W.zret (v := 1) (ty := .boolean) hx hb hr (by decide +kernel) (fun t ht hW => ⟨_, rfl, by simp [sNP, c_1, (Int32.not_le.mp c_2)], ht⟩) (fun _ h => absurd h List.not_mem_nil) dX4_noPart_14

set_option maxHeartbeats 4000000 in
set_option maxRecDepth 100000 in
theorem g_X4_waitOf (l : Launch) (D : va_G) (cI cL cZ cC : ClassId) (h0 : Nat) (rd : Nat) (dr : Nat) (kp : Nat) (pl : Nat) (tx : Nat) (nu : Nat) (rf_a : Nat) (nc : Int32) (hi : Int32) (pd : Int32) (r0 : Nat) (r1 : Nat) (st : Nat) (ho : Int32) (pa : Int32) (si : Int32) (li : Int32) (lc : Int32) (a1 : Int32) (a2 : Int32) (a3 : Int32)  : Met l yX4_waitOf wsX4_waitOf ({ frames := 0, cells := 0, slots := 0, locals := 0 } : Room) (xPc D [.ref h0, .int a1, .int a2, .int a3] [(h0, .inr (4, [.ref rd, .ref dr, .ref kp, .ref pl, .ref tx, .ref nu, .ref rf_a, .int nc, .int hi, .int pd])), (rd, .inr (2, [.int (nI st), .int ho, .int pa, .int si, .int li, .int lc, .ref r0, .ref r1]))] (xTy cI cL cZ cC)) (vp_Si (fun r : Int32 => r = sWait li a1 a2 a3)) 0 0 (fun _ => False) := by
  refine Met.ofW (cc := cX4_waitOf) (maxL := 4) (ret := (some .int)) (by decide) rfl ?_
  intro p e s m args below meth c s₁ B hml hv
  obtain ⟨rfl, hP, hK⟩ := hv
  have hx := B.exec
  have hb := B.bytes
  have hr := B.returns
  have hts := atoms_spec (ws := wsX4_waitOf) B.pre
  have hown : s.vm.findClass RX4 = some m.cls := findClass_of_methodNamed B.named
  have hlocks := B.notSynchronized
  have hwX2 : ∀ w ∈ u_ws RX2 TX2 8, w ∈ wsX4_waitOf := fun _ h => List.mem_cons_of_mem _ (List.mem_append_right _ h)
  have hwX4 : ∀ w ∈ u_ws RX4 TX4 10, w ∈ wsX4_waitOf := fun _ h => List.mem_cons_of_mem _ (List.mem_append_left _ (List.mem_append_right _ h))
  have hl := lv_entry ([.ref h0, .int a1, .int a2, .int a3]) (n := 4) (Nat.le_of_ble_eq_true rfl)
  rw [lg_entry_eq]
  generalize (lg_sl ([.ref h0, .int a1, .int a2, .int a3]) ++ List.replicate (4 - (lg_sl ([.ref h0, .int a1, .int a2, .int a3])).length) Slot.unset).toArray = ls at hl ⊢
  have hl : lv_has ls 4 [(0, .ref h0), (1, .int a1), (2, .int a2), (3, .int a3)] := hl
  refine lv_iload_n hx hb dX4_waitOf_0 rfl (lv_at hl 1 rfl) ?_
  by_cases c_1 : a1 = 0
  · refine lv_lookup (off := 35) (tgt := 36) hx hb dX4_waitOf_1 (by decide +kernel) (by rw [c_1]; decide +kernel) (by decide) ?_
    refine lv_iload_n hx hb dX4_waitOf_36 rfl (lv_at hl 3 rfl) ?_
    refine lv_if_ne (tgt := 50) hx hb dX4_waitOf_37 (by decide) (fun c_2 => ?_) (fun c_2 => ?_)
    · refine lv_iconst (v := 0) hx hb dX4_waitOf_50 (by decide) ?_
      exact W.iret (v := 0) hx hb hr (fun t ht hW => ⟨_, rfl, by simp [sWait, c_1, c_2], ht⟩) (fun _ h => absurd h List.not_mem_nil) dX4_waitOf_51
    · refine lv_aload_n hx hb dX4_waitOf_40 rfl (lv_at hl 0 rfl) ?_
      refine va_get (D := D) (ci := 4) (v := .ref rd) (C := RX4) (T := TX4) (N := 10) hx hb hts hwX4 hown hK hP 0 rfl rfl 0 (by decide) (hts (.fieldLink RX4 10 "WaitOrWalkOn" "road" "LWaitOrWalkOn$Road;") (by decide +kernel)) (fun _ h9 => h9) rfl dX4_waitOf_41 ?_
      refine va_get (D := D) (ci := 2) (v := .int li) (C := RX2) (T := TX2) (N := 8) hx hb hts hwX2 hown hK hP 1 rfl rfl 4 (by decide) (hts (.fieldLink RX4 234 "WaitOrWalkOn$Road" "limit" "I") (by decide +kernel)) (fun _ h9 => h9) rfl dX4_waitOf_44 ?_
      refine lv_goto (tgt := 51) hx hb dX4_waitOf_47 (by decide) ?_
      exact W.iret (v := li) hx hb hr (fun t ht hW => ⟨_, rfl, by simp [sWait, c_1, c_2], ht⟩) (fun _ h => absurd h List.not_mem_nil) dX4_waitOf_51
  by_cases c_3 : a1 = 3
  · refine lv_lookup (off := 51) (tgt := 52) hx hb dX4_waitOf_1 (by decide +kernel) (by rw [c_3]; decide +kernel) (by decide) ?_
    refine lv_iload_n hx hb dX4_waitOf_52 rfl (lv_at hl 3 rfl) ?_
    refine lv_if_ne (tgt := 60) hx hb dX4_waitOf_53 (by decide) (fun c_4 => ?_) (fun c_4 => ?_)
    · refine lv_iconst (v := 0) hx hb dX4_waitOf_60 (by decide) ?_
      exact W.iret (v := 0) hx hb hr (fun t ht hW => ⟨_, rfl, by simp [sWait, c_1, c_3, c_4], ht⟩) (fun _ h => absurd h List.not_mem_nil) dX4_waitOf_61
    · refine lv_iload_n hx hb dX4_waitOf_56 rfl (lv_at hl 2 rfl) ?_
      refine lv_goto (tgt := 61) hx hb dX4_waitOf_57 (by decide) ?_
      exact W.iret (v := a2) hx hb hr (fun t ht hW => ⟨_, rfl, by simp [sWait, c_1, c_3, c_4], ht⟩) (fun _ h => absurd h List.not_mem_nil) dX4_waitOf_61
  by_cases c_5 : a1 = 5
  · refine lv_lookup (off := 61) (tgt := 62) hx hb dX4_waitOf_1 (by decide +kernel) (by rw [c_5]; decide +kernel) (by decide) ?_
    refine lv_iload_n hx hb dX4_waitOf_62 rfl (lv_at hl 3 rfl) ?_
    refine lv_if_ne (tgt := 72) hx hb dX4_waitOf_63 (by decide) (fun c_6 => ?_) (fun c_6 => ?_)
    · refine lv_iload_n hx hb dX4_waitOf_72 rfl (lv_at hl 2 rfl) ?_
      exact W.iret (v := a2) hx hb hr (fun t ht hW => ⟨_, rfl, by simp [sWait, c_1, c_3, c_5, c_6], ht⟩) (fun _ h => absurd h List.not_mem_nil) dX4_waitOf_73
    · refine lv_iconst (v := 2) hx hb dX4_waitOf_66 (by decide) ?_
      refine lv_iload_n hx hb dX4_waitOf_67 rfl (lv_at hl 2 rfl) ?_
      refine lv_imul hx hb dX4_waitOf_68 ?_
      refine lv_goto (tgt := 73) hx hb dX4_waitOf_69 (by decide) ?_
      exact W.iret (v := 2 * a2) hx hb hr (fun t ht hW => ⟨_, rfl, by simp [sWait, c_1, c_3, c_5, c_6], ht⟩) (fun _ h => absurd h List.not_mem_nil) dX4_waitOf_73
  refine lv_lookup (off := 73) (tgt := 74) hx hb dX4_waitOf_1 (by decide +kernel) (by have q_1 : ¬ (a1).toInt = 0 := mt (xi_eq (a1) 0).mpr c_1; have q_3 : ¬ (a1).toInt = 3 := mt (xi_eq (a1) 3).mpr c_3; have q_5 : ¬ (a1).toInt = 5 := mt (xi_eq (a1) 5).mpr c_5; simp [Op.lookupswitch.offset, q_1, Ne.symm q_1, q_3, Ne.symm q_3, q_5, Ne.symm q_5]) (by decide) ?_
  refine lv_iconst (v := 0) hx hb dX4_waitOf_74 (by decide) ?_
  exact W.iret (v := 0) hx hb hr (fun t ht hW => ⟨_, rfl, by simp [sWait, c_1, c_3, c_5], ht⟩) (fun _ h => absurd h List.not_mem_nil) dX4_waitOf_75

set_option maxHeartbeats 4000000 in
set_option maxRecDepth 100000 in
theorem g_X4_fraction (l : Launch) (D : va_G) (cI cL cZ cC : ClassId) (a1 : Int32) (a2 : Int32) (a3 : Int32)  : Met l yX4_fraction wsX4_fraction ({ frames := 0, cells := 0, slots := 0, locals := 0 } : Room) (xPc D [.int a1, .int a2, .int a3] [] (xTy cI cL cZ cC)) (vp_Sl (fun r : Int64 => r = xFr a1 a2 a3)) 0 0 (fun _ => False) := by
  refine Met.ofW (cc := cX4_fraction) (maxL := 7) (ret := (some .long)) (by decide) rfl ?_
  intro p e s m args below meth c s₁ B hml hv
  obtain ⟨rfl, hP, hK⟩ := hv
  have hx := B.exec
  have hb := B.bytes
  have hr := B.returns
  have hts := atoms_spec (ws := wsX4_fraction) B.pre
  have hown : s.vm.findClass RX4 = some m.cls := findClass_of_methodNamed B.named
  have hlocks := B.notSynchronized
  have hl := lv_entry ([.int a1, .int a2, .int a3]) (n := 7) (Nat.le_of_ble_eq_true rfl)
  rw [lg_entry_eq]
  generalize (lg_sl ([.int a1, .int a2, .int a3]) ++ List.replicate (7 - (lg_sl ([.int a1, .int a2, .int a3])).length) Slot.unset).toArray = ls at hl ⊢
  have hl : lv_has ls 7 [(0, .int a1), (1, .int a2), (2, .int a3)] := hl
  refine lv_iload_n hx hb dX4_fraction_0 rfl (lv_at hl 0 rfl) ?_
  refine lv_if_le (tgt := 8) hx hb dX4_fraction_1 (by decide) (fun c_1 => ?_) (fun c_1 => ?_)
  · refine lv_iload_n hx hb dX4_fraction_8 rfl (lv_at hl 2 rfl) ?_
    refine lv_if_ne (tgt := 16) hx hb dX4_fraction_9 (by decide) (fun c_2 => ?_) (fun c_2 => ?_)
    · refine lv_lconst (v := 1) hx hb dX4_fraction_16 (by decide) ?_
      exact W.lret (v := 1) hx hb hr (fun t ht hW => ⟨_, rfl, by simp [xFr, (Int32.not_lt.mpr c_1), c_2], ht⟩) (fun _ h => absurd h List.not_mem_nil) dX4_fraction_17
    · refine lv_lconst (v := 0) hx hb dX4_fraction_12 (by decide) ?_
      refine lv_goto (tgt := 17) hx hb dX4_fraction_13 (by decide) ?_
      exact W.lret (v := 0) hx hb hr (fun t ht hW => ⟨_, rfl, by simp [xFr, (Int32.not_lt.mpr c_1), c_2], ht⟩) (fun _ h => absurd h List.not_mem_nil) dX4_fraction_17
  · refine lv_iload_n hx hb dX4_fraction_4 rfl (lv_at hl 1 rfl) ?_
    refine lv_if_gt (tgt := 18) hx hb dX4_fraction_5 (by decide) (fun c_3 => ?_) (fun c_3 => ?_)
    · refine lv_iload_n hx hb dX4_fraction_18 rfl (lv_at hl 1 rfl) ?_
      refine lv_istore_n (lv' := [(3, .int a2), (0, .int a1), (1, .int a2), (2, .int a3)]) hx hb dX4_fraction_19 rfl hl (by decide) rfl (fun ls hl => ?_)
      refine lv_iload_n hx hb dX4_fraction_20 rfl (lv_at hl 1 rfl) ?_
      refine lv_iload_n hx hb dX4_fraction_21 rfl (lv_at hl 2 rfl) ?_
      refine lv_irem hx hb dX4_fraction_22 (xpos_ne c_3) ?_
      refine lv_istore (lv' := [(4, .int (a1 - a1 / a2 * a2)), (3, .int a2), (0, .int a1), (1, .int a2), (2, .int a3)]) hx hb dX4_fraction_23 hl (by decide) rfl (fun ls hl => ?_)
      refine lv_iconst (v := 0) hx hb dX4_fraction_25 (by decide) ?_
      refine lv_istore (lv' := [(5, .int 0), (4, .int (a1 - a1 / a2 * a2)), (3, .int a2), (0, .int a1), (1, .int a2), (2, .int a3)]) hx hb dX4_fraction_26 hl (by decide) rfl (fun ls hl => ?_)
      refine xl_loop (σ := Nat × Int32 × Int32) (fun n q ls => lv_has ls 7 [(5, .int (nI q.1)), (4, .int q.2.2), (3, .int q.2.1), (0, .int a1), (1, .int a2), (2, .int a3)] ∧ (100 - q.1 < n) ∧ (q.1 ≤ 100) ∧ (xGl (100 - q.1) q.2.1 q.2.2 = xGl 100 a2 (a1 - a1 / a2 * a2)) ∧ (0 < q.2.1)) (101) (0, a2, a1 - a1 / a2 * a2) ⟨lv_sub hl [0, 1, 2, 3, 4, 5] rfl, by (try dsimp only); exact ⟨by omega, by omega, rfl, c_3⟩⟩ (fun q ls h => absurd h.2.1 (Nat.not_lt_zero _)) ?_
      intro n_28 q_28 ls ih_28 hI_28
      obtain ⟨hl, hI_28⟩ := hI_28
      obtain ⟨k, d1, r1⟩ := q_28
      obtain ⟨h1, h2, h3, h4⟩ := hI_28
      try dsimp only at hl h1 h2 h3 h4
      refine lv_iload hx hb dX4_fraction_28 (lv_at hl 0 rfl) ?_
      refine lv_bipush (v := 100) hx hb dX4_fraction_30 (by decide) ?_
      refine lv_icmp_ge (tgt := 59) hx hb dX4_fraction_32 (by decide) (fun c_4 => ?_) (fun c_4 => ?_)
      · have hd9 : xGl 100 a2 (a1 - a1 / a2 * a2) = d1 := by have w := mt (nI_ltI (a := k) (b := 100) (by omega) (by omega)).mpr (Int32.not_lt.mpr c_4); rw [← h3, show 100 - k = 0 by omega]; rfl
        refine lv_iload_n hx hb dX4_fraction_59 rfl (lv_at hl 5 rfl) ?_
        refine lv_if_ne (tgt := 70) hx hb dX4_fraction_60 (by decide) (fun c_5 => ?_) (fun c_5 => ?_)
        · refine lv_iload_n hx hb dX4_fraction_70 rfl (lv_at hl 4 rfl) ?_
          refine lv_iload_n hx hb dX4_fraction_71 rfl (lv_at hl 2 rfl) ?_
          refine lv_idiv hx hb dX4_fraction_72 (xpos_ne h4) ?_
          refine lv_i2l (v := (a2 / d1).toInt64) hx hb dX4_fraction_73 rfl ?_
          exact W.lret (v := (a2 / d1).toInt64) hx hb hr (fun t ht hW => ⟨_, rfl, (by rw [xFr, if_neg (fun w => w (Int32.not_le.mp c_1)), if_neg (fun w => w c_3), if_neg c_5, hd9]), ht⟩) (fun _ h => absurd h List.not_mem_nil) dX4_fraction_74
        · refine lv_iload_n hx hb dX4_fraction_63 rfl (lv_at hl 3 rfl) ?_
          refine lv_iload_n hx hb dX4_fraction_64 rfl (lv_at hl 2 rfl) ?_
          refine lv_idiv hx hb dX4_fraction_65 (xpos_ne h4) ?_
          refine lv_i2l (v := (a1 / d1).toInt64) hx hb dX4_fraction_66 rfl ?_
          refine lv_goto (tgt := 74) hx hb dX4_fraction_67 (by decide) ?_
          exact W.lret (v := (a1 / d1).toInt64) hx hb hr (fun t ht hW => ⟨_, rfl, (by rw [xFr, if_neg (fun w => w (Int32.not_le.mp c_1)), if_neg (fun w => w c_3), if_pos c_5, hd9]), ht⟩) (fun _ h => absurd h List.not_mem_nil) dX4_fraction_74
      · refine lv_iload hx hb dX4_fraction_35 (lv_at hl 1 rfl) ?_
        refine lv_if_le (tgt := 59) hx hb dX4_fraction_37 (by decide) (fun c_6 => ?_) (fun c_6 => ?_)
        · have hd9 : xGl 100 a2 (a1 - a1 / a2 * a2) = d1 := by have w := (nI_ltI (a := k) (b := 100) (by omega) (by omega)).mp (Int32.not_le.mp c_4); rw [← h3, xs1 w]; simp only [xGl]; exact if_neg (Int32.not_lt.mpr c_6)
          refine lv_iload_n hx hb dX4_fraction_59 rfl (lv_at hl 5 rfl) ?_
          refine lv_if_ne (tgt := 70) hx hb dX4_fraction_60 (by decide) (fun c_7 => ?_) (fun c_7 => ?_)
          · refine lv_iload_n hx hb dX4_fraction_70 rfl (lv_at hl 4 rfl) ?_
            refine lv_iload_n hx hb dX4_fraction_71 rfl (lv_at hl 2 rfl) ?_
            refine lv_idiv hx hb dX4_fraction_72 (xpos_ne h4) ?_
            refine lv_i2l (v := (a2 / d1).toInt64) hx hb dX4_fraction_73 rfl ?_
            exact W.lret (v := (a2 / d1).toInt64) hx hb hr (fun t ht hW => ⟨_, rfl, (by rw [xFr, if_neg (fun w => w (Int32.not_le.mp c_1)), if_neg (fun w => w c_3), if_neg c_7, hd9]), ht⟩) (fun _ h => absurd h List.not_mem_nil) dX4_fraction_74
          · refine lv_iload_n hx hb dX4_fraction_63 rfl (lv_at hl 3 rfl) ?_
            refine lv_iload_n hx hb dX4_fraction_64 rfl (lv_at hl 2 rfl) ?_
            refine lv_idiv hx hb dX4_fraction_65 (xpos_ne h4) ?_
            refine lv_i2l (v := (a1 / d1).toInt64) hx hb dX4_fraction_66 rfl ?_
            refine lv_goto (tgt := 74) hx hb dX4_fraction_67 (by decide) ?_
            exact W.lret (v := (a1 / d1).toInt64) hx hb hr (fun t ht hW => ⟨_, rfl, (by rw [xFr, if_neg (fun w => w (Int32.not_le.mp c_1)), if_neg (fun w => w c_3), if_pos c_7, hd9]), ht⟩) (fun _ h => absurd h List.not_mem_nil) dX4_fraction_74
        · refine lv_iload_n hx hb dX4_fraction_40 rfl (lv_at hl 2 rfl) ?_
          refine lv_iload hx hb dX4_fraction_41 (lv_at hl 1 rfl) ?_
          refine lv_irem hx hb dX4_fraction_43 (xpos_ne (Int32.not_le.mp c_6)) ?_
          refine lv_istore (lv' := [(6, .int (d1 - d1 / r1 * r1)), (5, .int (nI k)), (4, .int r1), (3, .int d1), (0, .int a1), (1, .int a2), (2, .int a3)]) hx hb dX4_fraction_44 hl (by decide) rfl (fun ls hl => ?_)
          refine lv_iload hx hb dX4_fraction_46 (lv_at hl 2 rfl) ?_
          refine lv_istore_n (lv' := [(3, .int r1), (6, .int (d1 - d1 / r1 * r1)), (5, .int (nI k)), (4, .int r1), (0, .int a1), (1, .int a2), (2, .int a3)]) hx hb dX4_fraction_48 rfl hl (by decide) rfl (fun ls hl => ?_)
          refine lv_iload hx hb dX4_fraction_49 (lv_at hl 1 rfl) ?_
          refine lv_istore (lv' := [(4, .int (d1 - d1 / r1 * r1)), (3, .int r1), (6, .int (d1 - d1 / r1 * r1)), (5, .int (nI k)), (0, .int a1), (1, .int a2), (2, .int a3)]) hx hb dX4_fraction_51 hl (by decide) rfl (fun ls hl => ?_)
          refine lv_iinc (v := nI (k + 1)) (lv' := [(5, .int (nI (k + 1))), (4, .int (d1 - d1 / r1 * r1)), (3, .int r1), (6, .int (d1 - d1 / r1 * r1)), (0, .int a1), (1, .int a2), (2, .int a3)]) hx hb dX4_fraction_53 hl (k := 3) rfl (nI_1 k) (by decide) rfl (fun ls hl => ?_)
          refine lv_goto (tgt := 28) hx hb dX4_fraction_56 (by decide) ?_
          have w := (nI_ltI (a := k) (b := 100) (by omega) (by omega)).mp (Int32.not_le.mp c_4)
          have e3 : xGl (100 - (k + 1)) r1 (d1 - d1 / r1 * r1) = xGl 100 a2 (a1 - a1 / a2 * a2) := by rw [← h3, xs1 w]; simp only [xGl]; exact (if_pos (Int32.not_le.mp c_6)).symm
          exact ih_28 (k + 1, r1, d1 - d1 / r1 * r1) _ ⟨lv_sub hl [0, 1, 2, 4, 5, 6] rfl, by (try dsimp only); exact ⟨by omega, by omega, e3, (Int32.not_le.mp c_6)⟩⟩
    · refine lv_iload_n hx hb dX4_fraction_8 rfl (lv_at hl 2 rfl) ?_
      refine lv_if_ne (tgt := 16) hx hb dX4_fraction_9 (by decide) (fun c_8 => ?_) (fun c_8 => ?_)
      · refine lv_lconst (v := 1) hx hb dX4_fraction_16 (by decide) ?_
        exact W.lret (v := 1) hx hb hr (fun t ht hW => ⟨_, rfl, by simp [xFr, (Int32.not_le.mp c_1), c_3, c_8], ht⟩) (fun _ h => absurd h List.not_mem_nil) dX4_fraction_17
      · refine lv_lconst (v := 0) hx hb dX4_fraction_12 (by decide) ?_
        refine lv_goto (tgt := 17) hx hb dX4_fraction_13 (by decide) ?_
        exact W.lret (v := 0) hx hb hr (fun t ht hW => ⟨_, rfl, by simp [xFr, (Int32.not_le.mp c_1), c_3, c_8], ht⟩) (fun _ h => absurd h List.not_mem_nil) dX4_fraction_17

set_option maxHeartbeats 4000000 in
set_option maxRecDepth 100000 in
theorem g_X4_goerHome (l : Launch) (D : va_G) (cI cL cZ cC : ClassId) (h0 : Nat) (rd : Nat) (dr : Nat) (kp : Nat) (pl : Nat) (tx : Nat) (nu : Nat) (rf_a : Nat) (nc : Int32) (hi : Int32) (pd : Int32) (r0 : Nat) (r1 : Nat) (st : Nat) (ho : Int32) (pa : Int32) (si : Int32) (li : Int32) (lc : Int32) (lg : Nat → Int32) (b0 : Nat) (k0 : Nat) (ki : Int32) (ru : Int32) (ne : Int32) (ch : Nat → Int32) (a2 : Int32) (a3 : Int32) (a4 : Int32) (hs1 : 1 ≤ st) (hs7 : st ≤ 7) : Met l yX4_goerHome wsX4_goerHome ({ frames := 2, cells := 0, slots := 0, locals := 43 } : Room) (xPc D [.ref h0, .ref b0, .int a2, .int a3, .int a4] [(h0, .inr (4, [.ref rd, .ref dr, .ref kp, .ref pl, .ref tx, .ref nu, .ref rf_a, .int nc, .int hi, .int pd])), (rd, .inr (2, [.int (nI st), .int ho, .int pa, .int si, .int li, .int lc, .ref r0, .ref r1])), (r0, .inl (cI, 7, .inl lg)), (b0, .inr (0, [.int ki, .int ru, .int ne, .ref k0])), (k0, .inl (cI, 12, .inl ch))] (xTy cI cL cZ cC)) (vp_Si (fun r : Int32 => r = xGh st ho pa si li lg ki ru a2 a3 a4)) 0 0 (fun _ => False) := by
  refine Met.ofW (cc := cX4_goerHome) (maxL := 13) (ret := (some .int)) (by decide) rfl ?_
  intro p e s m args below meth c s₁ B hml hv
  obtain ⟨rfl, hP, hK⟩ := hv
  have hx := B.exec
  have hb := B.bytes
  have hr := B.returns
  have hts := atoms_spec (ws := wsX4_goerHome) B.pre
  have hown : s.vm.findClass RX4 = some m.cls := findClass_of_methodNamed B.named
  have hlocks := B.notSynchronized
  have hwX2 : ∀ w ∈ u_ws RX2 TX2 8, w ∈ wsX4_goerHome := fun _ h => List.mem_cons_of_mem _ (List.mem_append_left _ (List.mem_append_right _ h))
  have hwX4 : ∀ w ∈ u_ws RX4 TX4 10, w ∈ wsX4_goerHome := fun _ h => List.mem_cons_of_mem _ (List.mem_append_left _ (List.mem_append_left _ (List.mem_append_right _ h)))
  have hl := lv_entry ([.ref h0, .ref b0, .int a2, .int a3, .int a4]) (n := 13) (Nat.le_of_ble_eq_true rfl)
  rw [lg_entry_eq]
  generalize (lg_sl ([.ref h0, .ref b0, .int a2, .int a3, .int a4]) ++ List.replicate (13 - (lg_sl ([.ref h0, .ref b0, .int a2, .int a3, .int a4])).length) Slot.unset).toArray = ls at hl ⊢
  have hl : lv_has ls 13 [(0, .ref h0), (1, .ref b0), (2, .int a2), (3, .int a3), (4, .int a4)] := hl
  obtain ⟨GO, hg0, hg1, hg2, hg3⟩ := xGh_spec st ho pa si li lg ki ru a2 a3 a4
  refine lv_aload_n hx hb dX4_goerHome_0 rfl (lv_at hl 0 rfl) ?_
  refine va_get (D := D) (ci := 4) (v := .ref rd) (C := RX4) (T := TX4) (N := 10) hx hb hts hwX4 hown hK hP 0 rfl rfl 0 (by decide) (hts (.fieldLink RX4 10 "WaitOrWalkOn" "road" "LWaitOrWalkOn$Road;") (by decide +kernel)) (fun _ h9 => h9) rfl dX4_goerHome_1 ?_
  have hPc := hP.sub (ws' := [(rd, .inr (2, [.int (nI st), .int ho, .int pa, .int si, .int li, .int lc, .ref r0, .ref r1])), (r0, .inl (cI, 7, .inl lg))]) [1, 2] rfl
  refine vp_callSi (va_Run.run (va_runV (As := []) (rest := []) ⟨hx, hb, hml, hown, hts⟩ (g_X2_last l D cI cL cZ cC rd r0 r1 st ho pa si li lc lg (by first | assumption | decide +kernel) (by first | assumption | decide +kernel)) (cwV 0 hts gX4_goerHome_X2_last rfl rfl rfl (by decide +kernel) ⟨Nat.le_of_ble_eq_true rfl, Nat.le_of_ble_eq_true rfl⟩) ⟨xPc_bl, va_recv hK hPc (ci := 2) (q0 := 0) rfl rfl, xPc_use hPc hK⟩ rfl rfl hl.1 rfl (lv_room (Nat.le_of_ble_eq_true rfl)) dX4_goerHome_4 ⟨Nat.le_of_ble_eq_true rfl, Nat.le_of_ble_eq_true rfl⟩)) (fun r_1 er_1 => ?_)
  obtain rfl : (nI (st - 1) : Int32) = r_1 := Eq.symm er_1
  refine lv_istore (lv' := [(5, .int (nI (st - 1))), (0, .ref h0), (1, .ref b0), (2, .int a2), (3, .int a3), (4, .int a4)]) hx hb dX4_goerHome_7 hl (by decide) rfl (fun ls hl => ?_)
  refine xl_cut (σ := Unit) 33 (fun _ => [.int (xPc2 pa a2)]) (fun _ ls => lv_has ls 13 [(5, .int (nI (st - 1))), (0, .ref h0), (1, .ref b0), (2, .int a2), (3, .int a3), (4, .int a4)]) ?_ ?_
  · intro _ ls hl
    refine lv_istore (lv' := [(6, .int (xPc2 pa a2)), (5, .int (nI (st - 1))), (0, .ref h0), (1, .ref b0), (2, .int a2), (3, .int a3), (4, .int a4)]) hx hb dX4_goerHome_33 hl (by decide) rfl (fun ls hl => ?_)
    refine lv_aload_n hx hb dX4_goerHome_35 rfl (lv_at hl 2 rfl) ?_
    refine va_get (D := D) (ci := 4) (v := .ref rd) (C := RX4) (T := TX4) (N := 10) hx hb hts hwX4 hown hK hP 0 rfl rfl 0 (by decide) (hts (.fieldLink RX4 10 "WaitOrWalkOn" "road" "LWaitOrWalkOn$Road;") (by decide +kernel)) (fun _ h9 => h9) rfl dX4_goerHome_36 ?_
    refine lv_iload hx hb dX4_goerHome_39 (lv_at hl 1 rfl) ?_
    refine lv_iload hx hb dX4_goerHome_41 (lv_at hl 0 rfl) ?_
    have hPc := hP.sub (ws' := [(rd, .inr (2, [.int (nI st), .int ho, .int pa, .int si, .int li, .int lc, .ref r0, .ref r1])), (r0, .inl (cI, 7, .inl lg))]) [1, 2] rfl
    refine vp_callSi (va_Run.run (va_runV (As := [.int (nI (st - 1)), .int (xPc2 pa a2)]) (rest := []) ⟨hx, hb, hml, hown, hts⟩ (g_X2_wayFrom l D cI cL cZ cC rd r0 r1 st ho pa si li lc lg (st - 1) (xPc2 pa a2) (by first | assumption | decide +kernel) (by first | assumption | decide +kernel) (by omega)) (cwV 2 hts gX4_goerHome_X2_wayFrom rfl rfl rfl (by decide +kernel) ⟨Nat.le_of_ble_eq_true rfl, Nat.le_of_ble_eq_true rfl⟩) ⟨xPc_bl, va_recv hK hPc (ci := 2) (q0 := 0) rfl rfl, xPc_use hPc hK⟩ rfl rfl hl.1 rfl (lv_room (Nat.le_of_ble_eq_true rfl)) dX4_goerHome_43 ⟨Nat.le_of_ble_eq_true rfl, Nat.le_of_ble_eq_true rfl⟩)) (fun r_2 er_2 => ?_)
    obtain rfl : (xWy (xYd st ho lg (st - 1)) (xPc2 pa a2) : Int32) = r_2 := Eq.symm er_2
    refine lv_istore (lv' := [(7, .int (xWy (xYd st ho lg (st - 1)) (xPc2 pa a2))), (6, .int (xPc2 pa a2)), (5, .int (nI (st - 1))), (0, .ref h0), (1, .ref b0), (2, .int a2), (3, .int a3), (4, .int a4)]) hx hb dX4_goerHome_46 hl (by decide) rfl (fun ls hl => ?_)
    refine xl_cut (σ := Unit) 74 (fun _ => [.int (xLk si a2)]) (fun _ ls => lv_has ls 13 [(7, .int (xWy (xYd st ho lg (st - 1)) (xPc2 pa a2))), (6, .int (xPc2 pa a2)), (5, .int (nI (st - 1))), (0, .ref h0), (1, .ref b0), (2, .int a2), (3, .int a3), (4, .int a4)]) ?_ ?_
    · intro _ ls hl
      refine lv_istore (lv' := [(8, .int (xLk si a2)), (7, .int (xWy (xYd st ho lg (st - 1)) (xPc2 pa a2))), (6, .int (xPc2 pa a2)), (5, .int (nI (st - 1))), (0, .ref h0), (1, .ref b0), (2, .int a2), (3, .int a3), (4, .int a4)]) hx hb dX4_goerHome_74 hl (by decide) rfl (fun ls hl => ?_)
      refine lv_iconst (v := 0) hx hb dX4_goerHome_76 (by decide) ?_
      refine lv_istore (lv' := [(9, .int 0), (8, .int (xLk si a2)), (7, .int (xWy (xYd st ho lg (st - 1)) (xPc2 pa a2))), (6, .int (xPc2 pa a2)), (5, .int (nI (st - 1))), (0, .ref h0), (1, .ref b0), (2, .int a2), (3, .int a3), (4, .int a4)]) hx hb dX4_goerHome_77 hl (by decide) rfl (fun ls hl => ?_)
      refine lv_iconst (v := 0) hx hb dX4_goerHome_79 (by decide) ?_
      refine lv_istore (lv' := [(10, .int 0), (9, .int 0), (8, .int (xLk si a2)), (7, .int (xWy (xYd st ho lg (st - 1)) (xPc2 pa a2))), (6, .int (xPc2 pa a2)), (5, .int (nI (st - 1))), (0, .ref h0), (1, .ref b0), (2, .int a2), (3, .int a3), (4, .int a4)]) hx hb dX4_goerHome_80 hl (by decide) rfl (fun ls hl => ?_)
      refine xl_loop (σ := Nat × Int32) (fun n q ls => lv_has ls 13 [(10, .int (nI q.1)), (9, .int q.2), (8, .int (xLk si a2)), (7, .int (xWy (xYd st ho lg (st - 1)) (xPc2 pa a2))), (6, .int (xPc2 pa a2)), (5, .int (nI (st - 1))), (0, .ref h0), (1, .ref b0), (2, .int a2), (3, .int a3), (4, .int a4)] ∧ (st - 1 - q.1 < n) ∧ (q.1 ≤ st - 1) ∧ (GO (st - 1 - q.1) q.1 q.2 = GO (st - 1) 0 0)) (st) (0, 0) ⟨lv_sub hl [0, 1, 2, 3, 4, 5, 6, 7, 8, 9, 10] rfl, by (try dsimp only); exact ⟨by omega, by omega, rfl⟩⟩ (fun q ls h => absurd h.2.1 (Nat.not_lt_zero _)) ?_
      intro n_82 q_82 ls ih_82 hI_82
      obtain ⟨hl, hI_82⟩ := hI_82
      obtain ⟨k, mi⟩ := q_82
      obtain ⟨h1, h2, h3⟩ := hI_82
      try dsimp only at hl h1 h2 h3
      refine lv_iload hx hb dX4_goerHome_82 (lv_at hl 0 rfl) ?_
      refine lv_iload hx hb dX4_goerHome_84 (lv_at hl 5 rfl) ?_
      refine lv_icmp_ge (tgt := 183) hx hb dX4_goerHome_86 (by decide) (fun c_3 => ?_) (fun c_3 => ?_)
      · refine lv_iload hx hb dX4_goerHome_183 (lv_at hl 1 rfl) ?_
        refine lv_iload hx hb dX4_goerHome_185 (lv_at hl 3 rfl) ?_
        refine lv_iadd hx hb dX4_goerHome_187 ?_
        exact W.iret (v := mi + (xWy (xYd st ho lg (st - 1)) (xPc2 pa a2))) hx hb hr (fun t ht hW => ⟨_, rfl, (by have w := mt (nI_ltI (a := k) (b := st - 1) (by omega) (by omega)).mpr (Int32.not_lt.mpr c_3); rw [hg0, ← h3, show st - 1 - k = 0 by omega]; exact (hg1 _ _).symm), ht⟩) (fun _ h => absurd h List.not_mem_nil) dX4_goerHome_188
      · refine lv_iload hx hb dX4_goerHome_89 (lv_at hl 1 rfl) ?_
        refine lv_aload_n hx hb dX4_goerHome_91 rfl (lv_at hl 6 rfl) ?_
        refine lv_iload_n hx hb dX4_goerHome_92 rfl (lv_at hl 8 rfl) ?_
        refine lv_iload_n hx hb dX4_goerHome_93 rfl (lv_at hl 9 rfl) ?_
        refine lv_iload hx hb dX4_goerHome_94 (lv_at hl 0 rfl) ?_
        have hPc := hP.sub (ws' := [(h0, .inr (4, [.ref rd, .ref dr, .ref kp, .ref pl, .ref tx, .ref nu, .ref rf_a, .int nc, .int hi, .int pd])), (rd, .inr (2, [.int (nI st), .int ho, .int pa, .int si, .int li, .int lc, .ref r0, .ref r1]))]) [0, 1] rfl
        refine vp_callSi (va_Run.run (va_runV (As := [.int a2, .int a3, .int (nI k)]) (rest := [.int mi]) ⟨hx, hb, hml, hown, hts⟩ (g_X4_waitOf l D cI cL cZ cC h0 rd dr kp pl tx nu rf_a nc hi pd r0 r1 st ho pa si li lc a2 a3 (nI k) ) (cwV 3 hts gX4_goerHome_X4_waitOf rfl rfl rfl (by decide +kernel) ⟨Nat.le_of_ble_eq_true rfl, Nat.le_of_ble_eq_true rfl⟩) ⟨xPc_bl, va_recv hK hPc (ci := 4) (q0 := 0) rfl rfl, xPc_use hPc hK⟩ rfl rfl hl.1 rfl (lv_room (Nat.le_of_ble_eq_true rfl)) dX4_goerHome_96 ⟨Nat.le_of_ble_eq_true rfl, Nat.le_of_ble_eq_true rfl⟩)) (fun r_4 er_4 => ?_)
        obtain rfl : (sWait li a2 a3 (nI k) : Int32) = r_4 := Eq.symm er_4
        refine lv_iadd hx hb dX4_goerHome_99 ?_
        refine lv_istore (lv' := [(11, .int (mi + (sWait li a2 a3 (nI k)))), (10, .int (nI k)), (9, .int mi), (8, .int (xLk si a2)), (7, .int (xWy (xYd st ho lg (st - 1)) (xPc2 pa a2))), (6, .int (xPc2 pa a2)), (5, .int (nI (st - 1))), (0, .ref h0), (1, .ref b0), (2, .int a2), (3, .int a3), (4, .int a4)]) hx hb dX4_goerHome_100 hl (by decide) rfl (fun ls hl => ?_)
        refine lv_iload hx hb dX4_goerHome_102 (lv_at hl 11 rfl) ?_
        refine lv_aload_n hx hb dX4_goerHome_104 rfl (lv_at hl 8 rfl) ?_
        refine lv_iload hx hb dX4_goerHome_105 (lv_at hl 1 rfl) ?_
        have hPc := hP.sub (ws' := [(b0, .inr (0, [.int ki, .int ru, .int ne, .ref k0])), (k0, .inl (cI, 12, .inl ch))]) [3, 4] rfl
        refine vp_callSi (va_Run.run (va_runV (As := [.int (nI k)]) (rest := [.int a4]) ⟨hx, hb, hml, hown, hts⟩ (g_X0_rideTo l D cI cL cZ cC b0 k0 ki ru ne ch (nI k) ) (cwV 1 hts gX4_goerHome_X0_rideTo rfl rfl rfl (by decide +kernel) ⟨Nat.le_of_ble_eq_true rfl, Nat.le_of_ble_eq_true rfl⟩) ⟨xPc_bl, va_recv hK hPc (ci := 0) (q0 := 0) rfl rfl, xPc_use hPc hK⟩ rfl rfl hl.1 rfl (lv_room (Nat.le_of_ble_eq_true rfl)) dX4_goerHome_107 ⟨Nat.le_of_ble_eq_true rfl, Nat.le_of_ble_eq_true rfl⟩)) (fun r_5 er_5 => ?_)
        obtain rfl : (sRide ki ru (nI k) : Int32) = r_5 := Eq.symm er_5
        refine lv_iadd hx hb dX4_goerHome_110 ?_
        refine lv_istore (lv' := [(12, .int (a4 + (sRide ki ru (nI k)))), (11, .int (mi + (sWait li a2 a3 (nI k)))), (10, .int (nI k)), (9, .int mi), (8, .int (xLk si a2)), (7, .int (xWy (xYd st ho lg (st - 1)) (xPc2 pa a2))), (6, .int (xPc2 pa a2)), (5, .int (nI (st - 1))), (0, .ref h0), (1, .ref b0), (2, .int a2), (3, .int a3), (4, .int a4)]) hx hb dX4_goerHome_111 hl (by decide) rfl (fun ls hl => ?_)
        refine lv_iload hx hb dX4_goerHome_113 (lv_at hl 12 rfl) ?_
        refine lv_bipush (v := 12) hx hb dX4_goerHome_115 (by decide) ?_
        refine lv_icmp_ge (tgt := 161) hx hb dX4_goerHome_117 (by decide) (fun c_6 => ?_) (fun c_6 => ?_)
        · refine lv_iload hx hb dX4_goerHome_161 (lv_at hl 1 rfl) ?_
          refine lv_aload_n hx hb dX4_goerHome_163 rfl (lv_at hl 8 rfl) ?_
          refine va_get (D := D) (ci := 4) (v := .ref rd) (C := RX4) (T := TX4) (N := 10) hx hb hts hwX4 hown hK hP 0 rfl rfl 0 (by decide) (hts (.fieldLink RX4 10 "WaitOrWalkOn" "road" "LWaitOrWalkOn$Road;") (by decide +kernel)) (fun _ h9 => h9) rfl dX4_goerHome_164 ?_
          refine lv_iload hx hb dX4_goerHome_167 (lv_at hl 2 rfl) ?_
          refine lv_iload hx hb dX4_goerHome_169 (lv_at hl 6 rfl) ?_
          have hPc := hP.sub (ws' := [(rd, .inr (2, [.int (nI st), .int ho, .int pa, .int si, .int li, .int lc, .ref r0, .ref r1])), (r0, .inl (cI, 7, .inl lg))]) [1, 2] rfl
          refine vp_callSi (va_Run.run (va_runV (As := [.int (nI k), .int (xPc2 pa a2)]) (rest := [.int (mi + (sWait li a2 a3 (nI k)))]) ⟨hx, hb, hml, hown, hts⟩ (g_X2_wayFrom l D cI cL cZ cC rd r0 r1 st ho pa si li lc lg k (xPc2 pa a2) (by first | assumption | decide +kernel) (by first | assumption | decide +kernel) (by have w := (nI_ltI (a := k) (b := st - 1) (by omega) (by omega)).mp (Int32.not_le.mp c_3); omega)) (cwV 2 hts gX4_goerHome_X2_wayFrom rfl rfl rfl (by decide +kernel) ⟨Nat.le_of_ble_eq_true rfl, Nat.le_of_ble_eq_true rfl⟩) ⟨xPc_bl, va_recv hK hPc (ci := 2) (q0 := 0) rfl rfl, xPc_use hPc hK⟩ rfl rfl hl.1 rfl (lv_room (Nat.le_of_ble_eq_true rfl)) dX4_goerHome_171 ⟨Nat.le_of_ble_eq_true rfl, Nat.le_of_ble_eq_true rfl⟩)) (fun r_7 er_7 => ?_)
          obtain rfl : (xWy (xYd st ho lg k) (xPc2 pa a2) : Int32) = r_7 := Eq.symm er_7
          refine lv_iadd hx hb dX4_goerHome_174 ?_
          refine lv_istore (lv' := [(9, .int ((mi + (sWait li a2 a3 (nI k))) + (xWy (xYd st ho lg k) (xPc2 pa a2)))), (12, .int (a4 + (sRide ki ru (nI k)))), (11, .int (mi + (sWait li a2 a3 (nI k)))), (10, .int (nI k)), (8, .int (xLk si a2)), (7, .int (xWy (xYd st ho lg (st - 1)) (xPc2 pa a2))), (6, .int (xPc2 pa a2)), (5, .int (nI (st - 1))), (0, .ref h0), (1, .ref b0), (2, .int a2), (3, .int a3), (4, .int a4)]) hx hb dX4_goerHome_175 hl (by decide) rfl (fun ls hl => ?_)
          refine lv_iinc (v := nI (k + 1)) (lv' := [(10, .int (nI (k + 1))), (9, .int ((mi + (sWait li a2 a3 (nI k))) + (xWy (xYd st ho lg k) (xPc2 pa a2)))), (12, .int (a4 + (sRide ki ru (nI k)))), (11, .int (mi + (sWait li a2 a3 (nI k)))), (8, .int (xLk si a2)), (7, .int (xWy (xYd st ho lg (st - 1)) (xPc2 pa a2))), (6, .int (xPc2 pa a2)), (5, .int (nI (st - 1))), (0, .ref h0), (1, .ref b0), (2, .int a2), (3, .int a3), (4, .int a4)]) hx hb dX4_goerHome_177 hl (k := 3) rfl (nI_1 k) (by decide) rfl (fun ls hl => ?_)
          refine lv_goto (tgt := 82) hx hb dX4_goerHome_180 (by decide) ?_
          have w := (nI_ltI (a := k) (b := st - 1) (by omega) (by omega)).mp (Int32.not_le.mp c_3)
          have e3 : GO (st - 1 - (k + 1)) (k + 1) (mi + sWait li a2 a3 (nI k) + xWy (xYd st ho lg k) (xPc2 pa a2)) = GO (st - 1) 0 0 := by rw [← h3, xs1 w]; exact (hg3 _ _ _ (fun q => (Int32.not_lt.mpr c_6) q.1)).symm
          exact ih_82 (k + 1, mi + sWait li a2 a3 (nI k) + xWy (xYd st ho lg k) (xPc2 pa a2)) _ ⟨lv_sub hl [0, 1, 4, 5, 6, 7, 8, 9, 10, 11, 12] rfl, by (try dsimp only); exact ⟨by omega, by omega, e3⟩⟩
        · refine lv_aload_n hx hb dX4_goerHome_120 rfl (lv_at hl 9 rfl) ?_
          refine lv_iload hx hb dX4_goerHome_121 (lv_at hl 2 rfl) ?_
          refine lv_iload hx hb dX4_goerHome_123 (lv_at hl 7 rfl) ?_
          have hPc := hP.sub (ws' := [(b0, .inr (0, [.int ki, .int ru, .int ne, .ref k0])), (k0, .inl (cI, 12, .inl ch))]) [3, 4] rfl
          refine vp_callSi (va_Run.run (va_runV (As := [.int (nI k), .int (nI (st - 1))]) (rest := []) ⟨hx, hb, hml, hown, hts⟩ (g_X0_halts l D cI cL cZ cC b0 k0 ki ru ne ch (nI k) (nI (st - 1)) ) (cwV 2 hts gX4_goerHome_X0_halts rfl rfl rfl (by decide +kernel) ⟨Nat.le_of_ble_eq_true rfl, Nat.le_of_ble_eq_true rfl⟩) ⟨xPc_bl, va_recv hK hPc (ci := 0) (q0 := 0) rfl rfl, xPc_use hPc hK⟩ rfl rfl hl.1 rfl (lv_room (Nat.le_of_ble_eq_true rfl)) dX4_goerHome_125 ⟨Nat.le_of_ble_eq_true rfl, Nat.le_of_ble_eq_true rfl⟩)) (fun r_8 er_8 => ?_)
          obtain rfl : (sHalt ki (nI k) (nI (st - 1)) : Int32) = r_8 := Eq.symm er_8
          refine lv_if_eq (tgt := 161) hx hb dX4_goerHome_128 (by decide) (fun c_9 => ?_) (fun c_9 => ?_)
          · refine lv_iload hx hb dX4_goerHome_161 (lv_at hl 1 rfl) ?_
            refine lv_aload_n hx hb dX4_goerHome_163 rfl (lv_at hl 8 rfl) ?_
            refine va_get (D := D) (ci := 4) (v := .ref rd) (C := RX4) (T := TX4) (N := 10) hx hb hts hwX4 hown hK hP 0 rfl rfl 0 (by decide) (hts (.fieldLink RX4 10 "WaitOrWalkOn" "road" "LWaitOrWalkOn$Road;") (by decide +kernel)) (fun _ h9 => h9) rfl dX4_goerHome_164 ?_
            refine lv_iload hx hb dX4_goerHome_167 (lv_at hl 2 rfl) ?_
            refine lv_iload hx hb dX4_goerHome_169 (lv_at hl 6 rfl) ?_
            have hPc := hP.sub (ws' := [(rd, .inr (2, [.int (nI st), .int ho, .int pa, .int si, .int li, .int lc, .ref r0, .ref r1])), (r0, .inl (cI, 7, .inl lg))]) [1, 2] rfl
            refine vp_callSi (va_Run.run (va_runV (As := [.int (nI k), .int (xPc2 pa a2)]) (rest := [.int (mi + (sWait li a2 a3 (nI k)))]) ⟨hx, hb, hml, hown, hts⟩ (g_X2_wayFrom l D cI cL cZ cC rd r0 r1 st ho pa si li lc lg k (xPc2 pa a2) (by first | assumption | decide +kernel) (by first | assumption | decide +kernel) (by have w := (nI_ltI (a := k) (b := st - 1) (by omega) (by omega)).mp (Int32.not_le.mp c_3); omega)) (cwV 2 hts gX4_goerHome_X2_wayFrom rfl rfl rfl (by decide +kernel) ⟨Nat.le_of_ble_eq_true rfl, Nat.le_of_ble_eq_true rfl⟩) ⟨xPc_bl, va_recv hK hPc (ci := 2) (q0 := 0) rfl rfl, xPc_use hPc hK⟩ rfl rfl hl.1 rfl (lv_room (Nat.le_of_ble_eq_true rfl)) dX4_goerHome_171 ⟨Nat.le_of_ble_eq_true rfl, Nat.le_of_ble_eq_true rfl⟩)) (fun r_10 er_10 => ?_)
            obtain rfl : (xWy (xYd st ho lg k) (xPc2 pa a2) : Int32) = r_10 := Eq.symm er_10
            refine lv_iadd hx hb dX4_goerHome_174 ?_
            refine lv_istore (lv' := [(9, .int ((mi + (sWait li a2 a3 (nI k))) + (xWy (xYd st ho lg k) (xPc2 pa a2)))), (12, .int (a4 + (sRide ki ru (nI k)))), (11, .int (mi + (sWait li a2 a3 (nI k)))), (10, .int (nI k)), (8, .int (xLk si a2)), (7, .int (xWy (xYd st ho lg (st - 1)) (xPc2 pa a2))), (6, .int (xPc2 pa a2)), (5, .int (nI (st - 1))), (0, .ref h0), (1, .ref b0), (2, .int a2), (3, .int a3), (4, .int a4)]) hx hb dX4_goerHome_175 hl (by decide) rfl (fun ls hl => ?_)
            refine lv_iinc (v := nI (k + 1)) (lv' := [(10, .int (nI (k + 1))), (9, .int ((mi + (sWait li a2 a3 (nI k))) + (xWy (xYd st ho lg k) (xPc2 pa a2)))), (12, .int (a4 + (sRide ki ru (nI k)))), (11, .int (mi + (sWait li a2 a3 (nI k)))), (8, .int (xLk si a2)), (7, .int (xWy (xYd st ho lg (st - 1)) (xPc2 pa a2))), (6, .int (xPc2 pa a2)), (5, .int (nI (st - 1))), (0, .ref h0), (1, .ref b0), (2, .int a2), (3, .int a3), (4, .int a4)]) hx hb dX4_goerHome_177 hl (k := 3) rfl (nI_1 k) (by decide) rfl (fun ls hl => ?_)
            refine lv_goto (tgt := 82) hx hb dX4_goerHome_180 (by decide) ?_
            have w := (nI_ltI (a := k) (b := st - 1) (by omega) (by omega)).mp (Int32.not_le.mp c_3)
            have e3 : GO (st - 1 - (k + 1)) (k + 1) (mi + sWait li a2 a3 (nI k) + xWy (xYd st ho lg k) (xPc2 pa a2)) = GO (st - 1) 0 0 := by rw [← h3, xs1 w]; exact (hg3 _ _ _ (fun q => q.2.1 c_9)).symm
            exact ih_82 (k + 1, mi + sWait li a2 a3 (nI k) + xWy (xYd st ho lg k) (xPc2 pa a2)) _ ⟨lv_sub hl [0, 1, 4, 5, 6, 7, 8, 9, 10, 11, 12] rfl, by (try dsimp only); exact ⟨by omega, by omega, e3⟩⟩
          · refine lv_iload hx hb dX4_goerHome_131 (lv_at hl 0 rfl) ?_
            refine lv_iload hx hb dX4_goerHome_133 (lv_at hl 3 rfl) ?_
            refine lv_icmp_lt (tgt := 161) hx hb dX4_goerHome_135 (by decide) (fun c_11 => ?_) (fun c_11 => ?_)
            · refine lv_iload hx hb dX4_goerHome_161 (lv_at hl 1 rfl) ?_
              refine lv_aload_n hx hb dX4_goerHome_163 rfl (lv_at hl 8 rfl) ?_
              refine va_get (D := D) (ci := 4) (v := .ref rd) (C := RX4) (T := TX4) (N := 10) hx hb hts hwX4 hown hK hP 0 rfl rfl 0 (by decide) (hts (.fieldLink RX4 10 "WaitOrWalkOn" "road" "LWaitOrWalkOn$Road;") (by decide +kernel)) (fun _ h9 => h9) rfl dX4_goerHome_164 ?_
              refine lv_iload hx hb dX4_goerHome_167 (lv_at hl 2 rfl) ?_
              refine lv_iload hx hb dX4_goerHome_169 (lv_at hl 6 rfl) ?_
              have hPc := hP.sub (ws' := [(rd, .inr (2, [.int (nI st), .int ho, .int pa, .int si, .int li, .int lc, .ref r0, .ref r1])), (r0, .inl (cI, 7, .inl lg))]) [1, 2] rfl
              refine vp_callSi (va_Run.run (va_runV (As := [.int (nI k), .int (xPc2 pa a2)]) (rest := [.int (mi + (sWait li a2 a3 (nI k)))]) ⟨hx, hb, hml, hown, hts⟩ (g_X2_wayFrom l D cI cL cZ cC rd r0 r1 st ho pa si li lc lg k (xPc2 pa a2) (by first | assumption | decide +kernel) (by first | assumption | decide +kernel) (by have w := (nI_ltI (a := k) (b := st - 1) (by omega) (by omega)).mp (Int32.not_le.mp c_3); omega)) (cwV 2 hts gX4_goerHome_X2_wayFrom rfl rfl rfl (by decide +kernel) ⟨Nat.le_of_ble_eq_true rfl, Nat.le_of_ble_eq_true rfl⟩) ⟨xPc_bl, va_recv hK hPc (ci := 2) (q0 := 0) rfl rfl, xPc_use hPc hK⟩ rfl rfl hl.1 rfl (lv_room (Nat.le_of_ble_eq_true rfl)) dX4_goerHome_171 ⟨Nat.le_of_ble_eq_true rfl, Nat.le_of_ble_eq_true rfl⟩)) (fun r_12 er_12 => ?_)
              obtain rfl : (xWy (xYd st ho lg k) (xPc2 pa a2) : Int32) = r_12 := Eq.symm er_12
              refine lv_iadd hx hb dX4_goerHome_174 ?_
              refine lv_istore (lv' := [(9, .int ((mi + (sWait li a2 a3 (nI k))) + (xWy (xYd st ho lg k) (xPc2 pa a2)))), (12, .int (a4 + (sRide ki ru (nI k)))), (11, .int (mi + (sWait li a2 a3 (nI k)))), (10, .int (nI k)), (8, .int (xLk si a2)), (7, .int (xWy (xYd st ho lg (st - 1)) (xPc2 pa a2))), (6, .int (xPc2 pa a2)), (5, .int (nI (st - 1))), (0, .ref h0), (1, .ref b0), (2, .int a2), (3, .int a3), (4, .int a4)]) hx hb dX4_goerHome_175 hl (by decide) rfl (fun ls hl => ?_)
              refine lv_iinc (v := nI (k + 1)) (lv' := [(10, .int (nI (k + 1))), (9, .int ((mi + (sWait li a2 a3 (nI k))) + (xWy (xYd st ho lg k) (xPc2 pa a2)))), (12, .int (a4 + (sRide ki ru (nI k)))), (11, .int (mi + (sWait li a2 a3 (nI k)))), (8, .int (xLk si a2)), (7, .int (xWy (xYd st ho lg (st - 1)) (xPc2 pa a2))), (6, .int (xPc2 pa a2)), (5, .int (nI (st - 1))), (0, .ref h0), (1, .ref b0), (2, .int a2), (3, .int a3), (4, .int a4)]) hx hb dX4_goerHome_177 hl (k := 3) rfl (nI_1 k) (by decide) rfl (fun ls hl => ?_)
              refine lv_goto (tgt := 82) hx hb dX4_goerHome_180 (by decide) ?_
              have w := (nI_ltI (a := k) (b := st - 1) (by omega) (by omega)).mp (Int32.not_le.mp c_3)
              have e3 : GO (st - 1 - (k + 1)) (k + 1) (mi + sWait li a2 a3 (nI k) + xWy (xYd st ho lg k) (xPc2 pa a2)) = GO (st - 1) 0 0 := by rw [← h3, xs1 w]; exact (hg3 _ _ _ (fun q => q.2.2.1 c_11)).symm
              exact ih_82 (k + 1, mi + sWait li a2 a3 (nI k) + xWy (xYd st ho lg k) (xPc2 pa a2)) _ ⟨lv_sub hl [0, 1, 4, 5, 6, 7, 8, 9, 10, 11, 12] rfl, by (try dsimp only); exact ⟨by omega, by omega, e3⟩⟩
            · refine lv_iload hx hb dX4_goerHome_138 (lv_at hl 0 rfl) ?_
              refine lv_iload hx hb dX4_goerHome_140 (lv_at hl 1 rfl) ?_
              refine lv_iload hx hb dX4_goerHome_142 (lv_at hl 4 rfl) ?_
              refine lv_iadd hx hb dX4_goerHome_144 ?_
              refine lv_icmp_gt (tgt := 161) hx hb dX4_goerHome_145 (by decide) (fun c_13 => ?_) (fun c_13 => ?_)
              · refine lv_iload hx hb dX4_goerHome_161 (lv_at hl 1 rfl) ?_
                refine lv_aload_n hx hb dX4_goerHome_163 rfl (lv_at hl 8 rfl) ?_
                refine va_get (D := D) (ci := 4) (v := .ref rd) (C := RX4) (T := TX4) (N := 10) hx hb hts hwX4 hown hK hP 0 rfl rfl 0 (by decide) (hts (.fieldLink RX4 10 "WaitOrWalkOn" "road" "LWaitOrWalkOn$Road;") (by decide +kernel)) (fun _ h9 => h9) rfl dX4_goerHome_164 ?_
                refine lv_iload hx hb dX4_goerHome_167 (lv_at hl 2 rfl) ?_
                refine lv_iload hx hb dX4_goerHome_169 (lv_at hl 6 rfl) ?_
                have hPc := hP.sub (ws' := [(rd, .inr (2, [.int (nI st), .int ho, .int pa, .int si, .int li, .int lc, .ref r0, .ref r1])), (r0, .inl (cI, 7, .inl lg))]) [1, 2] rfl
                refine vp_callSi (va_Run.run (va_runV (As := [.int (nI k), .int (xPc2 pa a2)]) (rest := [.int (mi + (sWait li a2 a3 (nI k)))]) ⟨hx, hb, hml, hown, hts⟩ (g_X2_wayFrom l D cI cL cZ cC rd r0 r1 st ho pa si li lc lg k (xPc2 pa a2) (by first | assumption | decide +kernel) (by first | assumption | decide +kernel) (by have w := (nI_ltI (a := k) (b := st - 1) (by omega) (by omega)).mp (Int32.not_le.mp c_3); omega)) (cwV 2 hts gX4_goerHome_X2_wayFrom rfl rfl rfl (by decide +kernel) ⟨Nat.le_of_ble_eq_true rfl, Nat.le_of_ble_eq_true rfl⟩) ⟨xPc_bl, va_recv hK hPc (ci := 2) (q0 := 0) rfl rfl, xPc_use hPc hK⟩ rfl rfl hl.1 rfl (lv_room (Nat.le_of_ble_eq_true rfl)) dX4_goerHome_171 ⟨Nat.le_of_ble_eq_true rfl, Nat.le_of_ble_eq_true rfl⟩)) (fun r_14 er_14 => ?_)
                obtain rfl : (xWy (xYd st ho lg k) (xPc2 pa a2) : Int32) = r_14 := Eq.symm er_14
                refine lv_iadd hx hb dX4_goerHome_174 ?_
                refine lv_istore (lv' := [(9, .int ((mi + (sWait li a2 a3 (nI k))) + (xWy (xYd st ho lg k) (xPc2 pa a2)))), (12, .int (a4 + (sRide ki ru (nI k)))), (11, .int (mi + (sWait li a2 a3 (nI k)))), (10, .int (nI k)), (8, .int (xLk si a2)), (7, .int (xWy (xYd st ho lg (st - 1)) (xPc2 pa a2))), (6, .int (xPc2 pa a2)), (5, .int (nI (st - 1))), (0, .ref h0), (1, .ref b0), (2, .int a2), (3, .int a3), (4, .int a4)]) hx hb dX4_goerHome_175 hl (by decide) rfl (fun ls hl => ?_)
                refine lv_iinc (v := nI (k + 1)) (lv' := [(10, .int (nI (k + 1))), (9, .int ((mi + (sWait li a2 a3 (nI k))) + (xWy (xYd st ho lg k) (xPc2 pa a2)))), (12, .int (a4 + (sRide ki ru (nI k)))), (11, .int (mi + (sWait li a2 a3 (nI k)))), (8, .int (xLk si a2)), (7, .int (xWy (xYd st ho lg (st - 1)) (xPc2 pa a2))), (6, .int (xPc2 pa a2)), (5, .int (nI (st - 1))), (0, .ref h0), (1, .ref b0), (2, .int a2), (3, .int a3), (4, .int a4)]) hx hb dX4_goerHome_177 hl (k := 3) rfl (nI_1 k) (by decide) rfl (fun ls hl => ?_)
                refine lv_goto (tgt := 82) hx hb dX4_goerHome_180 (by decide) ?_
                have w := (nI_ltI (a := k) (b := st - 1) (by omega) (by omega)).mp (Int32.not_le.mp c_3)
                have e3 : GO (st - 1 - (k + 1)) (k + 1) (mi + sWait li a2 a3 (nI k) + xWy (xYd st ho lg k) (xPc2 pa a2)) = GO (st - 1) 0 0 := by rw [← h3, xs1 w]; exact (hg3 _ _ _ (fun q => q.2.2.2 c_13)).symm
                exact ih_82 (k + 1, mi + sWait li a2 a3 (nI k) + xWy (xYd st ho lg k) (xPc2 pa a2)) _ ⟨lv_sub hl [0, 1, 4, 5, 6, 7, 8, 9, 10, 11, 12] rfl, by (try dsimp only); exact ⟨by omega, by omega, e3⟩⟩
              · refine lv_iload hx hb dX4_goerHome_148 (lv_at hl 12 rfl) ?_
                refine lv_aload_n hx hb dX4_goerHome_150 rfl (lv_at hl 9 rfl) ?_
                refine lv_iload hx hb dX4_goerHome_151 (lv_at hl 7 rfl) ?_
                have hPc := hP.sub (ws' := [(b0, .inr (0, [.int ki, .int ru, .int ne, .ref k0])), (k0, .inl (cI, 12, .inl ch))]) [3, 4] rfl
                refine vp_callSi (va_Run.run (va_runV (As := [.int (nI (st - 1))]) (rest := [.int a4]) ⟨hx, hb, hml, hown, hts⟩ (g_X0_rideTo l D cI cL cZ cC b0 k0 ki ru ne ch (nI (st - 1)) ) (cwV 1 hts gX4_goerHome_X0_rideTo rfl rfl rfl (by decide +kernel) ⟨Nat.le_of_ble_eq_true rfl, Nat.le_of_ble_eq_true rfl⟩) ⟨xPc_bl, va_recv hK hPc (ci := 0) (q0 := 0) rfl rfl, xPc_use hPc hK⟩ rfl rfl hl.1 rfl (lv_room (Nat.le_of_ble_eq_true rfl)) dX4_goerHome_153 ⟨Nat.le_of_ble_eq_true rfl, Nat.le_of_ble_eq_true rfl⟩)) (fun r_15 er_15 => ?_)
                obtain rfl : (sRide ki ru (nI (st - 1)) : Int32) = r_15 := Eq.symm er_15
                refine lv_iadd hx hb dX4_goerHome_156 ?_
                refine lv_iload hx hb dX4_goerHome_157 (lv_at hl 5 rfl) ?_
                refine lv_iadd hx hb dX4_goerHome_159 ?_
                exact W.iret (v := (a4 + (sRide ki ru (nI (st - 1)))) + (xWy (xYd st ho lg (st - 1)) (xPc2 pa a2))) hx hb hr (fun t ht hW => ⟨_, rfl, (by have w := (nI_ltI (a := k) (b := st - 1) (by omega) (by omega)).mp (Int32.not_le.mp c_3); rw [hg0, ← h3, xs1 w]; exact (hg2 _ _ _ ⟨(Int32.not_le.mp c_6), c_9, c_11, c_13⟩).symm), ht⟩) (fun _ h => absurd h List.not_mem_nil) dX4_goerHome_160
    · intro K_74
      refine lv_iload_n hx hb dX4_goerHome_48 rfl (lv_at hl 5 rfl) ?_
      refine lv_iconst (v := 2) hx hb dX4_goerHome_49 (by decide) ?_
      refine lv_icmp_eq (tgt := 63) hx hb dX4_goerHome_50 (by decide) (fun c_16 => ?_) (fun c_16 => ?_)
      · refine lv_aload_n hx hb dX4_goerHome_63 rfl (lv_at hl 3 rfl) ?_
        refine va_get (D := D) (ci := 4) (v := .ref rd) (C := RX4) (T := TX4) (N := 10) hx hb hts hwX4 hown hK hP 0 rfl rfl 0 (by decide) (hts (.fieldLink RX4 10 "WaitOrWalkOn" "road" "LWaitOrWalkOn$Road;") (by decide +kernel)) (fun _ h9 => h9) rfl dX4_goerHome_64 ?_
        refine va_get (D := D) (ci := 2) (v := .int si) (C := RX2) (T := TX2) (N := 8) hx hb hts hwX2 hown hK hP 1 rfl rfl 3 (by decide) (hts (.fieldLink RX4 231 "WaitOrWalkOn$Road" "sight" "I") (by decide +kernel)) (fun _ h9 => h9) rfl dX4_goerHome_67 ?_
        refine lv_goto (tgt := 74) hx hb dX4_goerHome_70 (by decide) ?_
        refine xv_int (y := xLk si a2) (by simp [xLk, c_16]) ?_
        exact K_74 () _ (lv_sub hl [0, 1, 2, 3, 4, 5, 6, 7] rfl)
      · refine lv_iload_n hx hb dX4_goerHome_53 rfl (lv_at hl 5 rfl) ?_
        refine lv_iconst (v := 3) hx hb dX4_goerHome_54 (by decide) ?_
        refine lv_icmp_eq (tgt := 63) hx hb dX4_goerHome_55 (by decide) (fun c_17 => ?_) (fun c_17 => ?_)
        · refine lv_aload_n hx hb dX4_goerHome_63 rfl (lv_at hl 3 rfl) ?_
          refine va_get (D := D) (ci := 4) (v := .ref rd) (C := RX4) (T := TX4) (N := 10) hx hb hts hwX4 hown hK hP 0 rfl rfl 0 (by decide) (hts (.fieldLink RX4 10 "WaitOrWalkOn" "road" "LWaitOrWalkOn$Road;") (by decide +kernel)) (fun _ h9 => h9) rfl dX4_goerHome_64 ?_
          refine va_get (D := D) (ci := 2) (v := .int si) (C := RX2) (T := TX2) (N := 8) hx hb hts hwX2 hown hK hP 1 rfl rfl 3 (by decide) (hts (.fieldLink RX4 231 "WaitOrWalkOn$Road" "sight" "I") (by decide +kernel)) (fun _ h9 => h9) rfl dX4_goerHome_67 ?_
          refine lv_goto (tgt := 74) hx hb dX4_goerHome_70 (by decide) ?_
          refine xv_int (y := xLk si a2) (by simp [xLk, c_16, c_17]) ?_
          exact K_74 () _ (lv_sub hl [0, 1, 2, 3, 4, 5, 6, 7] rfl)
        · refine lv_iload_n hx hb dX4_goerHome_58 rfl (lv_at hl 5 rfl) ?_
          refine lv_iconst (v := 5) hx hb dX4_goerHome_59 (by decide) ?_
          refine lv_icmp_ne (tgt := 73) hx hb dX4_goerHome_60 (by decide) (fun c_18 => ?_) (fun c_18 => ?_)
          · refine lv_iconst (v := 0) hx hb dX4_goerHome_73 (by decide) ?_
            refine xv_int (y := xLk si a2) (by simp [xLk, c_16, c_17, c_18]) ?_
            exact K_74 () _ (lv_sub hl [0, 1, 2, 3, 4, 5, 6, 7] rfl)
          · refine lv_aload_n hx hb dX4_goerHome_63 rfl (lv_at hl 3 rfl) ?_
            refine va_get (D := D) (ci := 4) (v := .ref rd) (C := RX4) (T := TX4) (N := 10) hx hb hts hwX4 hown hK hP 0 rfl rfl 0 (by decide) (hts (.fieldLink RX4 10 "WaitOrWalkOn" "road" "LWaitOrWalkOn$Road;") (by decide +kernel)) (fun _ h9 => h9) rfl dX4_goerHome_64 ?_
            refine va_get (D := D) (ci := 2) (v := .int si) (C := RX2) (T := TX2) (N := 8) hx hb hts hwX2 hown hK hP 1 rfl rfl 3 (by decide) (hts (.fieldLink RX4 231 "WaitOrWalkOn$Road" "sight" "I") (by decide +kernel)) (fun _ h9 => h9) rfl dX4_goerHome_67 ?_
            refine lv_goto (tgt := 74) hx hb dX4_goerHome_70 (by decide) ?_
            refine xv_int (y := xLk si a2) (by simp [xLk, c_16, c_17, c_18]) ?_
            exact K_74 () _ (lv_sub hl [0, 1, 2, 3, 4, 5, 6, 7] rfl)
  · intro K_33
    refine lv_iload_n hx hb dX4_goerHome_9 rfl (lv_at hl 3 rfl) ?_
    refine lv_iconst (v := 4) hx hb dX4_goerHome_10 (by decide) ?_
    refine lv_icmp_ne (tgt := 26) hx hb dX4_goerHome_11 (by decide) (fun c_19 => ?_) (fun c_19 => ?_)
    · refine lv_aload_n hx hb dX4_goerHome_26 rfl (lv_at hl 1 rfl) ?_
      refine va_get (D := D) (ci := 4) (v := .ref rd) (C := RX4) (T := TX4) (N := 10) hx hb hts hwX4 hown hK hP 0 rfl rfl 0 (by decide) (hts (.fieldLink RX4 10 "WaitOrWalkOn" "road" "LWaitOrWalkOn$Road;") (by decide +kernel)) (fun _ h9 => h9) rfl dX4_goerHome_27 ?_
      refine va_get (D := D) (ci := 2) (v := .int pa) (C := RX2) (T := TX2) (N := 8) hx hb hts hwX2 hown hK hP 1 rfl rfl 2 (by decide) (hts (.fieldLink RX4 182 "WaitOrWalkOn$Road" "pace" "I") (by decide +kernel)) (fun _ h9 => h9) rfl dX4_goerHome_30 ?_
      refine xv_int (y := xPc2 pa a2) (by simp [xPc2, c_19]) ?_
      exact K_33 () _ (lv_sub hl [0, 1, 2, 3, 4, 5] rfl)
    · refine lv_iconst (v := 2) hx hb dX4_goerHome_14 (by decide) ?_
      refine lv_aload_n hx hb dX4_goerHome_15 rfl (lv_at hl 1 rfl) ?_
      refine va_get (D := D) (ci := 4) (v := .ref rd) (C := RX4) (T := TX4) (N := 10) hx hb hts hwX4 hown hK hP 0 rfl rfl 0 (by decide) (hts (.fieldLink RX4 10 "WaitOrWalkOn" "road" "LWaitOrWalkOn$Road;") (by decide +kernel)) (fun _ h9 => h9) rfl dX4_goerHome_16 ?_
      refine va_get (D := D) (ci := 2) (v := .int pa) (C := RX2) (T := TX2) (N := 8) hx hb hts hwX2 hown hK hP 1 rfl rfl 2 (by decide) (hts (.fieldLink RX4 182 "WaitOrWalkOn$Road" "pace" "I") (by decide +kernel)) (fun _ h9 => h9) rfl dX4_goerHome_19 ?_
      refine lv_imul hx hb dX4_goerHome_22 ?_
      refine lv_goto (tgt := 33) hx hb dX4_goerHome_23 (by decide) ?_
      refine xv_int (y := xPc2 pa a2) (by simp [xPc2, c_19]) ?_
      exact K_33 () _ (lv_sub hl [0, 1, 2, 3, 4, 5] rfl)
