/-! helpers: the arrays' classes, a method's start (that only reads; that writes), values renamed, loops, switches -/
abbrev xTy (cI cL cZ cC : ClassId) : List (ClassId × FieldType) := [(cI, .int), (cL, .object RX0), (cZ, .boolean), (cC, .char)]
theorem xK_uniq {D : va_G} {cl : List vw_C} {tys : List (ClassId × FieldType)} {U : State} (h : va_K D cl tys U) (i j : Nat) {c1 c2 : ClassId} {ty : FieldType} (h1 : tys[i]? = some (c1, ty)) (h2 : tys[j]? = some (c2, ty)) (hne : i ≠ j) : c1 = c2 := by
  have a := (h.2 i _ h1).2
  have b := (h.2 j _ h2).2
  cases ty with
  | object C =>
    obtain ⟨_, _, _, _, _, e1⟩ := a
    obtain ⟨_, _, _, _, _, e2⟩ := b
    exact Option.some.inj (e1.symm.trans e2)
  | _ => exact Option.some.inj (a.symm.trans b)
def xPc (D : va_G) (av : List Value) (ws : va_W) (tys : List (ClassId × FieldType)) : Array Value → State → Prop := va_Pc av (fun U => va_P D vwCl ws U.heap ∧ va_K D vwCl tys U)
theorem xPc_bl {D : va_G} {av : List Value} {ws : va_W} {tys : List (ClassId × FieldType)} : FrameBlind (xPc D av ws tys) := fun a U g mk q => by
  obtain ⟨q0, qP, qK⟩ := q
  exact ⟨q0, qP, va_K.moved (u := U) (U := U.calling g mk a) (Vm.Alike.refl U.vm) qK⟩
theorem xPc_use {D : va_G} {av : List Value} {ws : va_W} {tys : List (ClassId × FieldType)} {s : State} {H : Heap} (hP : va_P D vwCl ws H) (hK : va_K D vwCl tys s) : ∀ U : State, U.heap = H → s.WarmedH U.vm → xPc D av ws tys av.toArray U := fun U hU hW => ⟨rfl, by rw [hU]; exact hP, va_K.moved hW.alike hK⟩
def wPc (D : va_G) (av : List Value) (ws : va_W) (tys : List (ClassId × FieldType)) (sz : Nat) : Array Value → State → Prop := va_Pc av (fun U => U.heap.size = sz ∧ va_P D vwCl ws U.heap ∧ va_K D vwCl tys U ∧ va_D (fun _ => True) ws)
theorem wPc_bl {D : va_G} {av : List Value} {ws : va_W} {tys : List (ClassId × FieldType)} {sz : Nat} : FrameBlind (wPc D av ws tys sz) := fun a U g mk q => by
  obtain ⟨q0, q1, qP, qK, qD⟩ := q
  exact ⟨q0, q1, qP, va_K.moved (u := U) (U := U.calling g mk a) (Vm.Alike.refl U.vm) qK, qD⟩
theorem wPc_use {D : va_G} {av : List Value} {ws : va_W} {tys : List (ClassId × FieldType)} {s : State} {H : Heap} {A : Nat → Prop} (hP : va_P D vwCl ws H) (hK : va_K D vwCl tys s) (hD : va_D A ws) : ∀ U : State, U.heap = H → s.WarmedH U.vm → wPc D av ws tys H.size av.toArray U := fun U hU hW => ⟨rfl, by rw [hU], by rw [hU]; exact hP, va_K.moved hW.alike hK, hD.weaken (fun _ _ _ _ => trivial)⟩
/-- what else a constructor wants of the tables: arrays of lines; the private constructors of the nest -/
def xEx (U : State) : Prop := va_AO RX0 U ∧ va_Nw (.methodLinkNest RX2 40 yX0_init "WaitOrWalkOn") U ∧ va_Nw (.methodLinkNest RX4 24 yX1_init "WaitOrWalkOn") U ∧ va_Nw (.methodLinkNest RX4 31 yX3_init "WaitOrWalkOn") U
theorem xEx_warm {s U : State} (hW : s.WarmedH U.vm) (h : xEx s) : xEx U := ⟨va_AO.moved hW.alike h.1, va_Nw.warmM hW h.2.1, va_Nw.warmM hW h.2.2.1, va_Nw.warmM hW h.2.2.2⟩
def wPcX (D : va_G) (av : List Value) (ws : va_W) (tys : List (ClassId × FieldType)) (sz : Nat) : Array Value → State → Prop := va_Pc av (fun U => U.heap.size = sz ∧ va_P D vwCl ws U.heap ∧ va_K D vwCl tys U ∧ va_D (fun _ => True) ws ∧ xEx U)
theorem wPcX_bl {D : va_G} {av : List Value} {ws : va_W} {tys : List (ClassId × FieldType)} {sz : Nat} : FrameBlind (wPcX D av ws tys sz) := fun a U g mk q => by
  obtain ⟨q0, q1, qP, qK, qD, qX⟩ := q
  exact ⟨q0, q1, qP, va_K.moved (u := U) (U := U.calling g mk a) (Vm.Alike.refl U.vm) qK, qD, va_AO.moved (u := U) (U := U.calling g mk a) (Vm.Alike.refl U.vm) qX.1, va_Nw.same (u := U) (U := U.calling g mk a) rfl rfl qX.2.1, va_Nw.same (u := U) (U := U.calling g mk a) rfl rfl qX.2.2.1, va_Nw.same (u := U) (U := U.calling g mk a) rfl rfl qX.2.2.2⟩
theorem wPcX_use {D : va_G} {av : List Value} {ws : va_W} {tys : List (ClassId × FieldType)} {s : State} {H : Heap} {A : Nat → Prop} (hP : va_P D vwCl ws H) (hK : va_K D vwCl tys s) (hD : va_D A ws) (hX : xEx s) : ∀ U : State, U.heap = H → s.WarmedH U.vm → wPcX D av ws tys H.size av.toArray U := fun U hU hW => ⟨rfl, by rw [hU], by rw [hU]; exact hP, va_K.moved hW.alike hK, hD.weaken (fun _ _ _ _ => trivial), xEx_warm hW hX⟩
theorem xi_eq (a b : Int32) : a = b ↔ a.toInt = b.toInt := ⟨fun h => h ▸ rfl, Int32.toInt_inj.mp⟩
theorem xi_lt (a b : Int32) : a < b ↔ a.toInt < b.toInt := Int32.lt_iff_toInt_lt
theorem xi_le (a b : Int32) : a ≤ b ↔ a.toInt ≤ b.toInt := Int32.le_iff_toInt_le
theorem xn_b (b : Prop) [Decidable b] : narrow .boolean (.int (if b then 1 else 0)) = .int (if b then 1 else 0) := by split <;> rfl
section XV
variable {p : Program} {l : Launch} {e : Env} {R : Room} {s : State} {m : MethodId} {args : Array Value} {below : List Frame} {meth : Method} {c : Code} {H : Heap} {locs : List Loc} {cells slots : Nat} {Q : State → Prop} {pc : Nat} {ls : Array Slot} {rest st : List Value}
theorem xv_int {x y : Int32} (h : x = y) (k : W p l e R s m args below meth c H locs cells slots Q (F0 m pc ls (.int y :: rest))) : W p l e R s m args below meth c H locs cells slots Q (F0 m pc ls (.int x :: rest)) := h ▸ k
theorem xv_long {x y : Int64} (h : x = y) (k : W p l e R s m args below meth c H locs cells slots Q (F0 m pc ls (.long y :: rest))) : W p l e R s m args below meth c H locs cells slots Q (F0 m pc ls (.long x :: rest)) := h ▸ k
theorem xv_ref {v : Value} {y : Nat} (h : v = .ref y) (k : W p l e R s m args below meth c H locs cells slots Q (F0 m pc ls (.ref y :: rest))) : W p l e R s m args below meth c H locs cells slots Q (F0 m pc ls (v :: rest)) := h ▸ k
theorem xl_cut {σ : Type} (pc' : Nat) (st' : σ → List Value) (I : σ → Array Slot → Prop) (k : ∀ (q : σ) (ls' : Array Slot), I q ls' → W p l e R s m args below meth c H locs cells slots Q (F0 m pc' ls' (st' q))) (h : (∀ (q : σ) (ls' : Array Slot), I q ls' → W p l e R s m args below meth c H locs cells slots Q (F0 m pc' ls' (st' q))) → W p l e R s m args below meth c H locs cells slots Q (F0 m pc ls st)) : W p l e R s m args below meth c H locs cells slots Q (F0 m pc ls st) := h k
theorem xl_loop {σ : Type} (I : Nat → σ → Array Slot → Prop) (n0 : Nat) (q0 : σ) (h0 : I n0 q0 ls) (hz : ∀ (q : σ) (ls' : Array Slot), ¬ I 0 q ls') (hs : ∀ (n : Nat) (q : σ) (ls' : Array Slot), (∀ (q' : σ) (ls2 : Array Slot), I n q' ls2 → W p l e R s m args below meth c H locs cells slots Q (F0 m pc ls2 st)) → I (n + 1) q ls' → W p l e R s m args below meth c H locs cells slots Q (F0 m pc ls' st)) : W p l e R s m args below meth c H locs cells slots Q (F0 m pc ls st) := by
  have key : ∀ (n : Nat) (q : σ) (ls' : Array Slot), I n q ls' → W p l e R s m args below meth c H locs cells slots Q (F0 m pc ls' st) := by
    intro n
    induction n with
    | zero => intro q ls' h; exact absurd h (hz q ls')
    | succ n ih => intro q ls' h; exact hs n q ls' ih h
  exact key n0 q0 ls h0
theorem xl_loopH {σ : Type} (I : Nat → σ → Heap → List Loc → Array Slot → Prop) (n0 : Nat) (q0 : σ) (h0 : I n0 q0 H locs ls) (hz : ∀ (q : σ) (H' : Heap) (lc : List Loc) (ls' : Array Slot), ¬ I 0 q H' lc ls') (hs : ∀ (n : Nat) (q : σ) (H' : Heap) (lc : List Loc) (ls' : Array Slot), (∀ (q' : σ) (H2 : Heap) (lc2 : List Loc) (ls2 : Array Slot), I n q' H2 lc2 ls2 → W p l e R s m args below meth c H2 lc2 cells slots Q (F0 m pc ls2 st)) → I (n + 1) q H' lc ls' → W p l e R s m args below meth c H' lc cells slots Q (F0 m pc ls' st)) : W p l e R s m args below meth c H locs cells slots Q (F0 m pc ls st) := by
  have key : ∀ (n : Nat) (q : σ) (H' : Heap) (lc : List Loc) (ls' : Array Slot), I n q H' lc ls' → W p l e R s m args below meth c H' lc cells slots Q (F0 m pc ls' st) := by
    intro n
    induction n with
    | zero => intro q H' lc ls' h; exact absurd h (hz q H' lc ls')
    | succ n ih => intro q H' lc ls' h; exact hs n q H' lc ls' ih h
  exact key n0 q0 H locs ls h0
end XV
/-- one more refusal of a kind -/
def xRf (rf : Nat → Int32) (x : Int32) : Nat → Int32 := upd rf (-x).toNatClampNeg (rf (-x).toNatClampNeg + 1)
/-- the array of a road's three lines -/
def xL3 (a b c : Nat) : Nat → Option Nat := va_up (va_up (va_up (fun _ => none) 0 (some a)) 1 (some b)) 2 (some c)
