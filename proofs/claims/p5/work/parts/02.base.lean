/-! helpers: the arrays' classes, a method's start (that only reads; that writes), values renamed, loops, switches -/
abbrev xTy (cI cL cZ cC : ClassId) : List (ClassId × FieldType) := [(cI, .int), (cL, .object RX0), (cZ, .boolean), (cC, .char)]
theorem xK_uniq {D : va_G} {cl : List vw_C} {tys : List (ClassId × FieldType)} {U : State} (h : va_K D cl tys U) (i j : Nat) {c1 c2 : ClassId} {ty : FieldType} (h1 : tys[i]? = some (c1, ty)) (h2 : tys[j]? = some (c2, ty)) (hne : i ≠ j) : c1 = c2 := by
  have a := (h.2 i _ h1).2
  have b := (h.2 j _ h2).2
  cases ty with
  | object C =>
    obtain ⟨_, _, _, _, _, e1⟩ := a
    obtain ⟨_, _, _, _, _, e2⟩ := b
    exact Option.some.inj (e1.symm.trans e2)
  | _ => exact Option.some.inj (a.symm.trans b)
def xPc (D : va_G) (av : List Value) (ws : va_W) (tys : List (ClassId × FieldType)) : Array Value → State → Prop := va_Pc av (fun U => va_P D vwCl ws U.heap ∧ va_K D vwCl tys U)
theorem xPc_bl {D : va_G} {av : List Value} {ws : va_W} {tys : List (ClassId × FieldType)} : FrameBlind (xPc D av ws tys) := fun a U g mk q => by
  obtain ⟨q0, qP, qK⟩ := q
  exact ⟨q0, qP, va_K.moved (u := U) (U := U.calling g mk a) (Vm.Alike.refl U.vm) qK⟩
theorem xPc_use {D : va_G} {av : List Value} {ws : va_W} {tys : List (ClassId × FieldType)} {s : State} {H : Heap} (hP : va_P D vwCl ws H) (hK : va_K D vwCl tys s) : ∀ U : State, U.heap = H → s.WarmedH U.vm → xPc D av ws tys av.toArray U := fun U hU hW => ⟨rfl, by rw [hU]; exact hP, va_K.moved hW.alike hK⟩
def wPc (D : va_G) (av : List Value) (ws : va_W) (tys : List (ClassId × FieldType)) (sz : Nat) : Array Value → State → Prop := va_Pc av (fun U => U.heap.size = sz ∧ va_P D vwCl ws U.heap ∧ va_K D vwCl tys U ∧ va_D (fun _ => True) ws)
theorem wPc_bl {D : va_G} {av : List Value} {ws : va_W} {tys : List (ClassId × FieldType)} {sz : Nat} : FrameBlind (wPc D av ws tys sz) := fun a U g mk q => by
  obtain ⟨q0, q1, qP, qK, qD⟩ := q
  exact ⟨q0, q1, qP, va_K.moved (u := U) (U := U.calling g mk a) (Vm.Alike.refl U.vm) qK, qD⟩
theorem wPc_use {D : va_G} {av : List Value} {ws : va_W} {tys : List (ClassId × FieldType)} {s : State} {H : Heap} {A : Nat → Prop} (hP : va_P D vwCl ws H) (hK : va_K D vwCl tys s) (hD : va_D A ws) : ∀ U : State, U.heap = H → s.WarmedH U.vm → wPc D av ws tys H.size av.toArray U := fun U hU hW => ⟨rfl, by rw [hU], by rw [hU]; exact hP, va_K.moved hW.alike hK, hD.weaken (fun _ _ _ _ => trivial)⟩
/-- what else a constructor wants of the tables: arrays of lines; the private constructors of the nest -/
def xEx (U : State) : Prop := va_AO RX0 U ∧ va_Nw (.methodLinkNest RX2 40 yX0_init "WaitOrWalkOn") U ∧ va_Nw (.methodLinkNest RX4 24 yX1_init "WaitOrWalkOn") U ∧ va_Nw (.methodLinkNest RX4 31 yX3_init "WaitOrWalkOn") U
theorem xEx_warm {s U : State} (hW : s.WarmedH U.vm) (h : xEx s) : xEx U := ⟨va_AO.moved hW.alike h.1, va_Nw.warmM hW h.2.1, va_Nw.warmM hW h.2.2.1, va_Nw.warmM hW h.2.2.2⟩
def wPcX (D : va_G) (av : List Value) (ws : va_W) (tys : List (ClassId × FieldType)) (sz : Nat) : Array Value → State → Prop := va_Pc av (fun U => U.heap.size = sz ∧ va_P D vwCl ws U.heap ∧ va_K D vwCl tys U ∧ va_D (fun _ => True) ws ∧ xEx U)
theorem wPcX_bl {D : va_G} {av : List Value} {ws : va_W} {tys : List (ClassId × FieldType)} {sz : Nat} : FrameBlind (wPcX D av ws tys sz) := fun a U g mk q => by
  obtain ⟨q0, q1, qP, qK, qD, qX⟩ := q
  exact ⟨q0, q1, qP, va_K.moved (u := U) (U := U.calling g mk a) (Vm.Alike.refl U.vm) qK, qD, va_AO.moved (u := U) (U := U.calling g mk a) (Vm.Alike.refl U.vm) qX.1, va_Nw.same (u := U) (U := U.calling g mk a) rfl rfl qX.2.1, va_Nw.same (u := U) (U := U.calling g mk a) rfl rfl qX.2.2.1, va_Nw.same (u := U) (U := U.calling g mk a) rfl rfl qX.2.2.2⟩
theorem wPcX_use {D : va_G} {av : List Value} {ws : va_W} {tys : List (ClassId × FieldType)} {s : State} {H : Heap} {A : Nat → Prop} (hP : va_P D vwCl ws H) (hK : va_K D vwCl tys s) (hD : va_D A ws) (hX : xEx s) : ∀ U : State, U.heap = H → s.WarmedH U.vm → wPcX D av ws tys H.size av.toArray U := fun U hU hW => ⟨rfl, by rw [hU], by rw [hU]; exact hP, va_K.moved hW.alike hK, hD.weaken (fun _ _ _ _ => trivial), xEx_warm hW hX⟩
theorem xi_eq (a b : Int32) : a = b ↔ a.toInt = b.toInt := ⟨fun h => h ▸ rfl, Int32.toInt_inj.mp⟩
theorem xi_lt (a b : Int32) : a < b ↔ a.toInt < b.toInt := Int32.lt_iff_toInt_lt
theorem xi_le (a b : Int32) : a ≤ b ↔ a.toInt ≤ b.toInt := Int32.le_iff_toInt_le
theorem xn_b (b : Prop) [Decidable b] : narrow .boolean (.int (if b then 1 else 0)) = .int (if b then 1 else 0) := by split <;> rfl
section XV
variable {p : Program} {l : Launch} {e : Env} {R : Room} {s : State} {m : MethodId} {args : Array Value} {below : List Frame} {meth : Method} {c : Code} {H : Heap} {locs : List Loc} {cells slots : Nat} {Q : State → Prop} {pc : Nat} {ls : Array Slot} {rest st : List Value}
theorem xv_int {x y : Int32} (h : x = y) (k : W p l e R s m args below meth c H locs cells slots Q (F0 m pc ls (.int y :: rest))) : W p l e R s m args below meth c H locs cells slots Q (F0 m pc ls (.int x :: rest)) := h ▸ k
theorem xv_long {x y : Int64} (h : x = y) (k : W p l e R s m args below meth c H locs cells slots Q (F0 m pc ls (.long y :: rest))) : W p l e R s m args below meth c H locs cells slots Q (F0 m pc ls (.long x :: rest)) := h ▸ k
theorem xv_ref {v : Value} {y : Nat} (h : v = .ref y) (k : W p l e R s m args below meth c H locs cells slots Q (F0 m pc ls (.ref y :: rest))) : W p l e R s m args below meth c H locs cells slots Q (F0 m pc ls (v :: rest)) := h ▸ k
theorem xl_cut {σ : Type} (pc' : Nat) (st' : σ → List Value) (I : σ → Array Slot → Prop) (k : ∀ (q : σ) (ls' : Array Slot), I q ls' → W p l e R s m args below meth c H locs cells slots Q (F0 m pc' ls' (st' q))) (h : (∀ (q : σ) (ls' : Array Slot), I q ls' → W p l e R s m args below meth c H locs cells slots Q (F0 m pc' ls' (st' q))) → W p l e R s m args below meth c H locs cells slots Q (F0 m pc ls st)) : W p l e R s m args below meth c H locs cells slots Q (F0 m pc ls st) := h k
theorem xl_loop {σ : Type} (I : Nat → σ → Array Slot → Prop) (n0 : Nat) (q0 : σ) (h0 : I n0 q0 ls) (hz : ∀ (q : σ) (ls' : Array Slot), ¬ I 0 q ls') (hs : ∀ (n : Nat) (q : σ) (ls' : Array Slot), (∀ (q' : σ) (ls2 : Array Slot), I n q' ls2 → W p l e R s m args below meth c H locs cells slots Q (F0 m pc ls2 st)) → I (n + 1) q ls' → W p l e R s m args below meth c H locs cells slots Q (F0 m pc ls' st)) : W p l e R s m args below meth c H locs cells slots Q (F0 m pc ls st) := by
  have key : ∀ (n : Nat) (q : σ) (ls' : Array Slot), I n q ls' → W p l e R s m args below meth c H locs cells slots Q (F0 m pc ls' st) := by
    intro n
    induction n with
    | zero => intro q ls' h; exact absurd h (hz q ls')
    | succ n ih => intro q ls' h; exact hs n q ls' ih h
  exact key n0 q0 ls h0
theorem xl_loopH {σ : Type} (I : Nat → σ → Heap → List Loc → Array Slot → Prop) (n0 : Nat) (q0 : σ) (h0 : I n0 q0 H locs ls) (hz : ∀ (q : σ) (H' : Heap) (lc : List Loc) (ls' : Array Slot), ¬ I 0 q H' lc ls') (hs : ∀ (n : Nat) (q : σ) (H' : Heap) (lc : List Loc) (ls' : Array Slot), (∀ (q' : σ) (H2 : Heap) (lc2 : List Loc) (ls2 : Array Slot), I n q' H2 lc2 ls2 → W p l e R s m args below meth c H2 lc2 cells slots Q (F0 m pc ls2 st)) → I (n + 1) q H' lc ls' → W p l e R s m args below meth c H' lc cells slots Q (F0 m pc ls' st)) : W p l e R s m args below meth c H locs cells slots Q (F0 m pc ls st) := by
  have key : ∀ (n : Nat) (q : σ) (H' : Heap) (lc : List Loc) (ls' : Array Slot), I n q H' lc ls' → W p l e R s m args below meth c H' lc cells slots Q (F0 m pc ls' st) := by
    intro n
    induction n with
    | zero => intro q H' lc ls' h; exact absurd h (hz q H' lc ls')
    | succ n ih => intro q H' lc ls' h; exact hs n q H' lc ls' ih h
  exact key n0 q0 H locs ls h0
end XV
/-- one more refusal of a kind -/
def xRf (rf : Nat → Int32) (x : Int32) : Nat → Int32 := upd rf (-x).toNatClampNeg (rf (-x).toNatClampNeg + 1)
/-- the array of a road's three lines -/
def xL3 (a b c : Nat) : Nat → Option Nat := va_up (va_up (va_up (fun _ => none) 0 (some a)) 1 (some b)) 2 (some c)
theorem xi_lit (n : Int) : n = n := rfl
theorem xz1 {a : Int32} (h1 : ¬ a < 0) (h2 : ¬ 1 ≤ a) : a = 0 := by
  rw [xi_lt] at h1; rw [xi_le] at h2; rw [xi_eq]
  have e0 : (0 : Int32).toInt = 0 := by decide
  have e1 : (1 : Int32).toInt = 1 := by decide
  omega
theorem xz3 {a : Int32} (h1 : ¬ a < 0) (h2 : ¬ 2 < a) : a = 0 ∨ a = 1 ∨ a = 2 := by
  rw [xi_lt] at h1 h2; simp only [xi_eq]
  have e0 : (0 : Int32).toInt = 0 := by decide
  have e1 : (1 : Int32).toInt = 1 := by decide
  have e2 : (2 : Int32).toInt = 2 := by decide
  omega
theorem xz4 {a : Int32} (h1 : ¬ a < 0) (h2 : ¬ 3 < a) : a = 0 ∨ a = 1 ∨ a = 2 ∨ a = 3 := by
  rw [xi_lt] at h1 h2; simp only [xi_eq]
  have e0 : (0 : Int32).toInt = 0 := by decide
  have e1 : (1 : Int32).toInt = 1 := by decide
  have e2 : (2 : Int32).toInt = 2 := by decide
  have e3 : (3 : Int32).toInt = 3 := by decide
  omega
theorem xzN {a : Int32} {n : Nat} (hn : n < 2 ^ 31) (h1 : ¬ a < 0) (h2 : ¬ nI n < a) : ∃ j : Nat, j ≤ n ∧ a = nI j := by
  rw [xi_lt] at h1 h2
  have e0 : (0 : Int32).toInt = 0 := by decide
  rw [nI_toInt hn] at h2
  refine ⟨a.toInt.toNat, by omega, ?_⟩
  rw [xi_eq, nI_toInt (by omega)]
  omega
theorem xz17 {a : Int32} (h1 : ¬ a < 0) (h2 : ¬ 16 < a) : a = 0 ∨ a = 1 ∨ a = 2 ∨ a = 3 ∨ a = 4 ∨ a = 5 ∨ a = 6 ∨ a = 7 ∨ a = 8 ∨ a = 9 ∨ a = 10 ∨ a = 11 ∨ a = 12 ∨ a = 13 ∨ a = 14 ∨ a = 15 ∨ a = 16 := by
  obtain ⟨j, hj, rfl⟩ := xzN (n := 16) (by decide) h1 h2
  have : j = 0 ∨ j = 1 ∨ j = 2 ∨ j = 3 ∨ j = 4 ∨ j = 5 ∨ j = 6 ∨ j = 7 ∨ j = 8 ∨ j = 9 ∨ j = 10 ∨ j = 11 ∨ j = 12 ∨ j = 13 ∨ j = 14 ∨ j = 15 ∨ j = 16 := by omega
  rcases this with rfl | rfl | rfl | rfl | rfl | rfl | rfl | rfl | rfl | rfl | rfl | rfl | rfl | rfl | rfl | rfl | rfl <;> decide +kernel
theorem xlt {a b c : Int32} (h : a < b) (h2 : b ≤ c) : a < c := by
  rw [xi_lt] at h ⊢; rw [xi_le] at h2; omega
theorem xlt2 {a b c : Int32} (h2 : a ≤ b) (h : b < c) : a < c := by
  rw [xi_lt] at h ⊢; rw [xi_le] at h2; omega
theorem xge {a b : Int32} (h : a < b) : ¬ b ≤ a := Int32.not_le.mpr h
/-- answers on a new object -/
def sStop0 (a w : Int32) : Int32 := if a < 0 then -1 else if 1 ≤ a then -1 else if w < 0 then -2 else if 2 < w then -2 else if w = 2 then 5 else 0
def sBack0 (a v : Int32) : Int32 := if a < 0 then -1 else if 1 ≤ a then -1 else if v < 0 then -4 else if 30 < v then -6 else if 400 < v * 80 then 400 else v * 80
def sSet0 (a v : Int32) : Int32 := if a < 0 then -2 else if 3 < a then -2 else if a = 0 then (if v < 0 then -4 else if 999 < v then -6 else 400) else if a = 1 then (if v < 20 then -4 else if 200 < v then -6 else 80) else if a = 2 then (if v < 0 then -4 else if 9 < v then -6 else 2) else (if v < 1 then -4 else if 60 < v then -6 else 30)
def sCount0 (w : Int32) : Int32 := if w < 0 then -9 else if 16 < w then -9 else if w = 0 then 1 else if w = 2 then 400 else if w = 3 then 80 else if w = 4 then 2 else if w = 5 then 30 else if w = 8 then -9 else if w = 9 then -9 else if w = 10 then -9 else 0
/-- the refusal of a long -/
def xLg (y : Int32) : Int64 := 4000000000000000000 - y.toInt64
theorem xArr {args : Array Value} {s : State} {ty : FieldType} (h : (Cond.arrayClass ty).before args s = true) : ∃ (cA : ClassId) (kA : Class) (comp : ClassId), s.vm.findClass ("[" ++ ty.toString) = some cA ∧ s.vm.classes[cA]? = some kA ∧ kA.kind = .array comp ty := Cond.arrayClass_spec h
theorem xTys {D : va_G} {s : State} {args : Array Value} (hKc : ∀ (k : Nat) (q : vw_C), vwCl[k]? = some q → u_Kn s q.1 q.2.1 q.2.2 (D.1 k) (D.2 k)) (h1 : (Cond.arrayClass .int).before args s = true) (h2 : (Cond.arrayOver (.object RX0)).before args s = true) (h3 : (Cond.arrayClass .boolean).before args s = true) (h4 : (Cond.arrayClass .char).before args s = true) : ∃ cI cL cZ cC : ClassId, va_K D vwCl (xTy cI cL cZ cC) s := by
  obtain ⟨cI, kI, pI, i1, i2, i3⟩ := xArr h1
  obtain ⟨cZ, kZ, pZ, z1, z2, z3⟩ := xArr h3
  obtain ⟨cC, kC, pC, c1, c2, c3⟩ := xArr h4
  obtain ⟨pL, cL, kL, l1, l2, l3, l4, l5⟩ := Cond.arrayOver_spec h2
  refine ⟨cI, cL, cZ, cC, hKc, fun k q h => ?_⟩
  have h : (xTy cI cL cZ cC)[k]? = some q := h
  rcases k with _ | _ | _ | _ | k
  · cases h; exact ⟨fun n z => ⟨fun k h => (by cases h), kI, i2, pI, i3⟩, i1⟩
  · cases h; exact ⟨fun n z => ⟨fun k h => (by cases h), kL, l3, pL, l4⟩, kL, pL, l3, l4, l1, l5⟩
  · cases h; exact ⟨fun n z => ⟨fun k h => (by cases h), kZ, z2, pZ, z3⟩, z1⟩
  · cases h; exact ⟨fun n z => ⟨fun k h => (by cases h), kC, c2, pC, c3⟩, c1⟩
  · simp [xTy] at h
theorem xno {a b c : Int32} (h : a < b) (h2 : b ≤ c) (h3 : c < a) : False := by
  rw [xi_lt] at h h3; rw [xi_le] at h2; omega
