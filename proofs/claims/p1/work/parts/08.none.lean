set_option maxHeartbeats 4000000 in
set_option maxRecDepth 100000 in
theorem c_X5_no (l : Launch) (D : va_G) (cI cL cZ cC : ClassId) (sz : Nat) (g0 : Nat) (ra : Nat) (wa : Nat) (ta : Nat) (ma : Nat) (pa : Nat) (ba : Nat) (ka : Nat) (fa : Nat) (qa : Nat) (ea : Nat) (za : Nat) (ya : Nat) (rf : Nat → Int32) (x : Int32) (h1 : 0 < -x) (h2 : -x < 7) : Met l yX5_no wsX5_no ({ frames := 0, cells := 0, slots := 0, locals := 0 } : Room) (wPc D [.ref g0, .int x] [(g0, .inr (5, [.ref ra, .ref wa, .ref ta, .int 0, .ref ma, .int 0, .ref pa, .int 0, .int 0, .int 0, .ref ba, .ref ka, .int 0, .ref fa, .ref qa, .ref ea, .ref za, .ref ya, .int 0])), (ra, .inl (cI, 7, .inl rf))] (xTy cI cL cZ cC) sz) (va_Qi (fun (r : Int32) (_ : Unit) => r = x) (fun (_ : Unit) t => va_P D vwCl [(g0, .inr (5, [.ref ra, .ref wa, .ref ta, .int 0, .ref ma, .int 0, .ref pa, .int 0, .int 0, .int 0, .ref ba, .ref ka, .int 0, .ref fa, .ref qa, .ref ea, .ref za, .ref ya, .int 0])), (ra, .inl (cI, 7, .inl (xRf rf x)))] t.heap ∧ va_D (va_A [(g0, .inr (5, [.ref ra, .ref wa, .ref ta, .int 0, .ref ma, .int 0, .ref pa, .int 0, .int 0, .int 0, .ref ba, .ref ka, .int 0, .ref fa, .ref qa, .ref ea, .ref za, .ref ya, .int 0])), (ra, .inl (cI, 7, .inl rf))] sz) [(g0, .inr (5, [.ref ra, .ref wa, .ref ta, .int 0, .ref ma, .int 0, .ref pa, .int 0, .int 0, .int 0, .ref ba, .ref ka, .int 0, .ref fa, .ref qa, .ref ea, .ref za, .ref ya, .int 0])), (ra, .inl (cI, 7, .inl (xRf rf x)))]) (va_A [(g0, .inr (5, [.ref ra, .ref wa, .ref ta, .int 0, .ref ma, .int 0, .ref pa, .int 0, .int 0, .int 0, .ref ba, .ref ka, .int 0, .ref fa, .ref qa, .ref ea, .ref za, .ref ya, .int 0])), (ra, .inl (cI, 7, .inl rf))] sz)) 0 0 (va_A [(g0, .inr (5, [.ref ra, .ref wa, .ref ta, .int 0, .ref ma, .int 0, .ref pa, .int 0, .int 0, .int 0, .ref ba, .ref ka, .int 0, .ref fa, .ref qa, .ref ea, .ref za, .ref ya, .int 0])), (ra, .inl (cI, 7, .inl rf))] sz) := by
  refine Met.ofW (cc := cX5_no) (maxL := 2) (ret := (some .int)) (by decide) rfl ?_
  intro p e s m args below meth c s₁ B hml hv
  obtain ⟨rfl, hsz, hP, hK, hD0⟩ := hv
  have hx := B.exec
  have hb := B.bytes
  have hr := B.returns
  have hts := atoms_spec (ws := wsX5_no) B.pre
  have hown : s.vm.findClass RX5 = some m.cls := findClass_of_methodNamed B.named
  have hlocks := B.notSynchronized
  have hwX5 : ∀ w ∈ u_ws RX5 TX5 19, w ∈ wsX5_no := fun _ h => List.mem_cons_of_mem _ (List.mem_append_right _ h)
  subst hsz
  have hD := hD0.self (sz := s.heap.size)
  generalize hAe : va_A [(g0, .inr (5, [.ref ra, .ref wa, .ref ta, .int 0, .ref ma, .int 0, .ref pa, .int 0, .int 0, .int 0, .ref ba, .ref ka, .int 0, .ref fa, .ref qa, .ref ea, .ref za, .ref ya, .int 0])), (ra, .inl (cI, 7, .inl rf))] s.heap.size = A at hD ⊢
  have hA : ∀ q : Nat, s.heap.size ≤ q → A q := fun q h => by rw [← hAe]; exact Or.inr h
  have hS : va_S A s.heap s.heap [] := va_S.rf
  have hP : va_P D vwCl [(g0, .inr (5, [.ref ra, .ref wa, .ref ta, .int 0, .ref ma, .int 0, .ref pa, .int 0, .int 0, .int 0, .ref ba, .ref ka, .int 0, .ref fa, .ref qa, .ref ea, .ref za, .ref ya, .int 0])), (ra, .inl (cI, 7, .inl rf))] s.heap := hP
  have hl := lv_entry ([.ref g0, .int x]) (n := 2) (Nat.le_of_ble_eq_true rfl)
  rw [lg_entry_eq]
  generalize (lg_sl ([.ref g0, .int x]) ++ List.replicate (2 - (lg_sl ([.ref g0, .int x])).length) Slot.unset).toArray = ls at hl ⊢
  have hl : lv_has ls 2 [(0, .ref g0), (1, .int x)] := hl
  refine lv_aload_n hx hb dX5_no_0 rfl (lv_at hl 0 rfl) ?_
  refine va_get (D := D) (ci := 5) (v := .ref ra) (C := RX5) (T := TX5) (N := 19) hx hb hts hwX5 hown hK hP 0 rfl rfl 0 (by decide) (hts (.fieldLink RX5 1 "WaitOrWalkOnModel" "refused" "[I") (by decide +kernel)) (fun _ h9 => h9) rfl dX5_no_1 ?_
  refine lv_iload_n hx hb dX5_no_4 rfl (lv_at hl 1 rfl) ?_
  refine lv_ineg hx hb dX5_no_5 ?_
  refine lv_dup2_11 hx hb dX5_no_6 rfl rfl ?_
  refine va_iald (D := D) hx hb hK hP 1 0 rfl rfl (by rw [vp_in_iff]; rw [xi_lt] at h1 h2; have e1 : ((0 : Int32)).toInt = 0 := rfl; have e2 : ((7 : Int32)).toInt = 7 := rfl; omega) dX5_no_7 ?_
  refine lv_iconst (v := 1) hx hb dX5_no_8 (by decide) ?_
  refine lv_iadd hx hb dX5_no_9 ?_
  refine va_iast (D := D) hx hb hK hP hD hS 1 0 rfl rfl (by rw [vp_in_iff]; rw [xi_lt] at h1 h2; have e1 : ((0 : Int32)).toInt = 0 := rfl; have e2 : ((7 : Int32)).toInt = 7 := rfl; omega) dX5_no_10 (fun H locs hP hD hS => ?_)
  have hP : va_P D vwCl [(g0, .inr (5, [.ref ra, .ref wa, .ref ta, .int 0, .ref ma, .int 0, .ref pa, .int 0, .int 0, .int 0, .ref ba, .ref ka, .int 0, .ref fa, .ref qa, .ref ea, .ref za, .ref ya, .int 0])), (ra, .inl (cI, 7, .inl (upd rf ((-x).toNatClampNeg) ((rf (-x).toNatClampNeg) + 1))))] H := hP
  have hD : va_D A [(g0, .inr (5, [.ref ra, .ref wa, .ref ta, .int 0, .ref ma, .int 0, .ref pa, .int 0, .int 0, .int 0, .ref ba, .ref ka, .int 0, .ref fa, .ref qa, .ref ea, .ref za, .ref ya, .int 0])), (ra, .inl (cI, 7, .inl (upd rf ((-x).toNatClampNeg) ((rf (-x).toNatClampNeg) + 1))))] := hD
  refine lv_iload_n hx hb dX5_no_11 rfl (lv_at hl 1 rfl) ?_
  have hP9 := hP.sub (ws' := [(g0, .inr (5, [.ref ra, .ref wa, .ref ta, .int 0, .ref ma, .int 0, .ref pa, .int 0, .int 0, .int 0, .ref ba, .ref ka, .int 0, .ref fa, .ref qa, .ref ea, .ref za, .ref ya, .int 0])), (ra, .inl (cI, 7, .inl (upd rf ((-x).toNatClampNeg) ((rf (-x).toNatClampNeg) + 1))))]) [0, 1] rfl
  have hD9 := hD.sub (ws' := [(g0, .inr (5, [.ref ra, .ref wa, .ref ta, .int 0, .ref ma, .int 0, .ref pa, .int 0, .int 0, .int 0, .ref ba, .ref ka, .int 0, .ref fa, .ref qa, .ref ea, .ref za, .ref ya, .int 0])), (ra, .inl (cI, 7, .inl (upd rf ((-x).toNatClampNeg) ((rf (-x).toNatClampNeg) + 1))))]) [0, 1] (by decide) rfl
  exact W.iret (v := x) hx hb hr (fun t ht hW => ⟨⟨_, (), rfl, rfl, by rw [ht]; exact hP9, hD9⟩, hS.F ht⟩) hS.2.2 dX5_no_12

set_option maxHeartbeats 4000000 in
set_option maxRecDepth 100000 in
theorem c_X5_noLong (l : Launch) (D : va_G) (cI cL cZ cC : ClassId) (sz : Nat) (g0 : Nat) (ra : Nat) (wa : Nat) (ta : Nat) (ma : Nat) (pa : Nat) (ba : Nat) (ka : Nat) (fa : Nat) (qa : Nat) (ea : Nat) (za : Nat) (ya : Nat) (rf : Nat → Int32) (x : Int32) (h1 : 0 < -x) (h2 : -x < 7) : Met l yX5_noLong wsX5_noLong ({ frames := 1, cells := 0, slots := 0, locals := 21 } : Room) (wPc D [.ref g0, .int x] [(g0, .inr (5, [.ref ra, .ref wa, .ref ta, .int 0, .ref ma, .int 0, .ref pa, .int 0, .int 0, .int 0, .ref ba, .ref ka, .int 0, .ref fa, .ref qa, .ref ea, .ref za, .ref ya, .int 0])), (ra, .inl (cI, 7, .inl rf))] (xTy cI cL cZ cC) sz) (va_Ql (fun (r : Int64) (_ : Unit) => r = xLg x) (fun (_ : Unit) t => va_P D vwCl [(g0, .inr (5, [.ref ra, .ref wa, .ref ta, .int 0, .ref ma, .int 0, .ref pa, .int 0, .int 0, .int 0, .ref ba, .ref ka, .int 0, .ref fa, .ref qa, .ref ea, .ref za, .ref ya, .int 0])), (ra, .inl (cI, 7, .inl (xRf rf x)))] t.heap ∧ va_D (va_A [(g0, .inr (5, [.ref ra, .ref wa, .ref ta, .int 0, .ref ma, .int 0, .ref pa, .int 0, .int 0, .int 0, .ref ba, .ref ka, .int 0, .ref fa, .ref qa, .ref ea, .ref za, .ref ya, .int 0])), (ra, .inl (cI, 7, .inl rf))] sz) [(g0, .inr (5, [.ref ra, .ref wa, .ref ta, .int 0, .ref ma, .int 0, .ref pa, .int 0, .int 0, .int 0, .ref ba, .ref ka, .int 0, .ref fa, .ref qa, .ref ea, .ref za, .ref ya, .int 0])), (ra, .inl (cI, 7, .inl (xRf rf x)))]) (va_A [(g0, .inr (5, [.ref ra, .ref wa, .ref ta, .int 0, .ref ma, .int 0, .ref pa, .int 0, .int 0, .int 0, .ref ba, .ref ka, .int 0, .ref fa, .ref qa, .ref ea, .ref za, .ref ya, .int 0])), (ra, .inl (cI, 7, .inl rf))] sz)) 0 0 (va_A [(g0, .inr (5, [.ref ra, .ref wa, .ref ta, .int 0, .ref ma, .int 0, .ref pa, .int 0, .int 0, .int 0, .ref ba, .ref ka, .int 0, .ref fa, .ref qa, .ref ea, .ref za, .ref ya, .int 0])), (ra, .inl (cI, 7, .inl rf))] sz) := by
  refine Met.ofW (cc := cX5_noLong) (maxL := 2) (ret := (some .long)) (by decide) rfl ?_
  intro p e s m args below meth c s₁ B hml hv
  obtain ⟨rfl, hsz, hP, hK, hD0⟩ := hv
  have hx := B.exec
  have hb := B.bytes
  have hr := B.returns
  have hts := atoms_spec (ws := wsX5_noLong) B.pre
  have hown : s.vm.findClass RX5 = some m.cls := findClass_of_methodNamed B.named
  have hlocks := B.notSynchronized
  subst hsz
  have hD := hD0.self (sz := s.heap.size)
  generalize hAe : va_A [(g0, .inr (5, [.ref ra, .ref wa, .ref ta, .int 0, .ref ma, .int 0, .ref pa, .int 0, .int 0, .int 0, .ref ba, .ref ka, .int 0, .ref fa, .ref qa, .ref ea, .ref za, .ref ya, .int 0])), (ra, .inl (cI, 7, .inl rf))] s.heap.size = A at hD ⊢
  have hA : ∀ q : Nat, s.heap.size ≤ q → A q := fun q h => by rw [← hAe]; exact Or.inr h
  have hS : va_S A s.heap s.heap [] := va_S.rf
  have hP : va_P D vwCl [(g0, .inr (5, [.ref ra, .ref wa, .ref ta, .int 0, .ref ma, .int 0, .ref pa, .int 0, .int 0, .int 0, .ref ba, .ref ka, .int 0, .ref fa, .ref qa, .ref ea, .ref za, .ref ya, .int 0])), (ra, .inl (cI, 7, .inl rf))] s.heap := hP
  have hl := lv_entry ([.ref g0, .int x]) (n := 2) (Nat.le_of_ble_eq_true rfl)
  rw [lg_entry_eq]
  generalize (lg_sl ([.ref g0, .int x]) ++ List.replicate (2 - (lg_sl ([.ref g0, .int x])).length) Slot.unset).toArray = ls at hl ⊢
  have hl : lv_has ls 2 [(0, .ref g0), (1, .int x)] := hl
  refine lv_ldc2 hx hb hown (hts (.constantLong RX5 7 (4000000000000000000)) (by decide +kernel)) dX5_noLong_0 ?_
  refine lv_aload_n hx hb dX5_noLong_3 rfl (lv_at hl 0 rfl) ?_
  refine lv_iload_n hx hb dX5_noLong_4 rfl (lv_at hl 1 rfl) ?_
  have hPc := hP.sub (ws' := [(g0, .inr (5, [.ref ra, .ref wa, .ref ta, .int 0, .ref ma, .int 0, .ref pa, .int 0, .int 0, .int 0, .ref ba, .ref ka, .int 0, .ref fa, .ref qa, .ref ea, .ref za, .ref ya, .int 0])), (ra, .inl (cI, 7, .inl rf))]) [0, 1] rfl
  have hDc := hD.sub (ws' := [(g0, .inr (5, [.ref ra, .ref wa, .ref ta, .int 0, .ref ma, .int 0, .ref pa, .int 0, .int 0, .int 0, .ref ba, .ref ka, .int 0, .ref fa, .ref qa, .ref ea, .ref za, .ref ya, .int 0])), (ra, .inl (cI, 7, .inl rf))]) [0, 1] (by decide) rfl
  have hFc := va_free (wc := [(g0, .inr (5, [.ref ra, .ref wa, .ref ta, .int 0, .ref ma, .int 0, .ref pa, .int 0, .int 0, .int 0, .ref ba, .ref ka, .int 0, .ref fa, .ref qa, .ref ea, .ref za, .ref ya, .int 0])), (ra, .inl (cI, 7, .inl rf))]) hD hS hA [0, 1] rfl
  refine va_calli (va_runV (As := [.int x]) (rest := [.long 4000000000000000000]) ⟨hx, hb, hml, hown, hts⟩ (c_X5_no l D cI cL cZ cC _ g0 ra wa ta ma pa ba ka fa qa ea za ya rf x (by first | assumption | decide +kernel) (by first | assumption | decide +kernel)) (cwV 1 hts gX5_noLong_X5_no rfl rfl rfl (by decide +kernel) ⟨Nat.le_of_ble_eq_true rfl, Nat.le_of_ble_eq_true rfl⟩) ⟨wPc_bl, va_recv hK hPc (ci := 5) (q0 := 0) rfl rfl, wPc_use hPc hK hDc⟩ rfl rfl hl.1 rfl (lv_room (Nat.le_of_ble_eq_true rfl)) dX5_noLong_5 ⟨Nat.le_of_ble_eq_true rfl, Nat.le_of_ble_eq_true rfl⟩) hS (fun q _ h => hFc q h) hFc (fun r_1 u_1 t H1 locs ht hvm hw hB hz1 hk1 hS => ?_)
  obtain ⟨hP1, hD1⟩ := hB
  rw [ht] at hP1
  obtain ⟨hP, hD⟩ := va_join (wr := []) (w1 := [(g0, .inr (5, [.ref ra, .ref wa, .ref ta, .int 0, .ref ma, .int 0, .ref pa, .int 0, .int 0, .int 0, .ref ba, .ref ka, .int 0, .ref fa, .ref qa, .ref ea, .ref za, .ref ya, .int 0])), (ra, .inl (cI, 7, .inl (xRf rf x)))]) hP hD [0, 1] [] rfl rfl (by decide) (by decide) hk1 hFc hP1 hD1
  generalize H1 = H at hP hS ⊢
  have hP : va_P D vwCl [(g0, .inr (5, [.ref ra, .ref wa, .ref ta, .int 0, .ref ma, .int 0, .ref pa, .int 0, .int 0, .int 0, .ref ba, .ref ka, .int 0, .ref fa, .ref qa, .ref ea, .ref za, .ref ya, .int 0])), (ra, .inl (cI, 7, .inl (xRf rf x)))] H := hP
  have hD : va_D A [(g0, .inr (5, [.ref ra, .ref wa, .ref ta, .int 0, .ref ma, .int 0, .ref pa, .int 0, .int 0, .int 0, .ref ba, .ref ka, .int 0, .ref fa, .ref qa, .ref ea, .ref za, .ref ya, .int 0])), (ra, .inl (cI, 7, .inl (xRf rf x)))] := hD
  obtain rfl : (x : Int32) = r_1 := Eq.symm hw
  refine lv_i2l (v := x.toInt64) hx hb dX5_noLong_8 rfl ?_
  refine lv_lsub hx hb dX5_noLong_9 ?_
  have hP9 := hP.sub (ws' := [(g0, .inr (5, [.ref ra, .ref wa, .ref ta, .int 0, .ref ma, .int 0, .ref pa, .int 0, .int 0, .int 0, .ref ba, .ref ka, .int 0, .ref fa, .ref qa, .ref ea, .ref za, .ref ya, .int 0])), (ra, .inl (cI, 7, .inl (xRf rf x)))]) [0, 1] rfl
  have hD9 := hD.sub (ws' := [(g0, .inr (5, [.ref ra, .ref wa, .ref ta, .int 0, .ref ma, .int 0, .ref pa, .int 0, .int 0, .int 0, .ref ba, .ref ka, .int 0, .ref fa, .ref qa, .ref ea, .ref za, .ref ya, .int 0])), (ra, .inl (cI, 7, .inl (xRf rf x)))]) [0, 1] (by decide) rfl
  exact W.lret (v := 4000000000000000000 - x.toInt64) hx hb hr (fun t ht hW => ⟨⟨_, (), rfl, rfl, by rw [ht]; exact hP9, hD9⟩, hS.F ht⟩) hS.2.2 dX5_noLong_10

set_option maxHeartbeats 4000000 in
set_option maxRecDepth 100000 in
theorem c_X5_isNoLine (l : Launch) (D : va_G) (cI cL cZ cC : ClassId) (g0 : Nat) (ra : Nat) (wa : Nat) (ta : Nat) (ma : Nat) (pa : Nat) (ba : Nat) (ka : Nat) (fa : Nat) (qa : Nat) (ea : Nat) (za : Nat) (ya : Nat) (a1 : Int32)  : Met l yX5_isNoLine wsX5_isNoLine ({ frames := 0, cells := 0, slots := 0, locals := 0 } : Room) (xPc D [.ref g0, .int a1] [(g0, .inr (5, [.ref ra, .ref wa, .ref ta, .int 0, .ref ma, .int 0, .ref pa, .int 0, .int 0, .int 0, .ref ba, .ref ka, .int 0, .ref fa, .ref qa, .ref ea, .ref za, .ref ya, .int 0])), (wa, .inl (cI, 70, .inl (upd (upd (upd (upd (upd (fun _ => 0) 0 1) 1 400) 2 80) 4 2) 5 30)))] (xTy cI cL cZ cC)) (vp_Si (fun r : Int32 => r = 1)) 0 0 (fun _ => False) := by
  refine Met.ofW (cc := cX5_isNoLine) (maxL := 2) (ret := (some .boolean)) (by decide) rfl ?_
  intro p e s m args below meth c s₁ B hml hv
  obtain ⟨rfl, hP, hK⟩ := hv
  have hx := B.exec
  have hb := B.bytes
  have hr := B.returns
  have hts := atoms_spec (ws := wsX5_isNoLine) B.pre
  have hown : s.vm.findClass RX5 = some m.cls := findClass_of_methodNamed B.named
  have hlocks := B.notSynchronized
  have hwX5 : ∀ w ∈ u_ws RX5 TX5 19, w ∈ wsX5_isNoLine := fun _ h => List.mem_cons_of_mem _ (List.mem_append_right _ h)
  have hl := lv_entry ([.ref g0, .int a1]) (n := 2) (Nat.le_of_ble_eq_true rfl)
  rw [lg_entry_eq]
  generalize (lg_sl ([.ref g0, .int a1]) ++ List.replicate (2 - (lg_sl ([.ref g0, .int a1])).length) Slot.unset).toArray = ls at hl ⊢
  have hl : lv_has ls 2 [(0, .ref g0), (1, .int a1)] := hl
  refine lv_iload_n hx hb dX5_isNoLine_0 rfl (lv_at hl 1 rfl) ?_
  refine lv_if_lt (tgt := 14) hx hb dX5_isNoLine_1 (by decide) (fun c_1 => ?_) (fun c_1 => ?_)
  · refine lv_iconst (v := 1) hx hb dX5_isNoLine_14 (by decide) ?_
    refine lv_goto (tgt := 19) hx hb dX5_isNoLine_15 (by decide) ?_
    exact W.zret (v := 1) (ty := .boolean) hx hb hr (by decide +kernel) (fun t ht hW => ⟨_, rfl, rfl, ht⟩) (fun _ h => absurd h List.not_mem_nil) dX5_isNoLine_19
  · refine lv_iload_n hx hb dX5_isNoLine_4 rfl (lv_at hl 1 rfl) ?_
    refine lv_aload_n hx hb dX5_isNoLine_5 rfl (lv_at hl 0 rfl) ?_
    refine va_get (D := D) (ci := 5) (v := .ref wa) (C := RX5) (T := TX5) (N := 19) hx hb hts hwX5 hown hK hP 0 rfl rfl 1 (by decide) (hts (.fieldLink RX5 19 "WaitOrWalkOnModel" "now" "[I") (by decide +kernel)) (fun _ h9 => h9) rfl dX5_isNoLine_6 ?_
    refine lv_iconst (v := 3) hx hb dX5_isNoLine_9 (by decide) ?_
    refine va_iald (D := D) hx hb hK hP 1 0 rfl rfl (by unfold vp_in; decide +kernel) dX5_isNoLine_10 ?_
    refine xv_int (y := 0) rfl ?_
    refine lv_icmp_lt (tgt := 18) hx hb dX5_isNoLine_11 (by decide) (fun c_2 => absurd c_2 c_1) (fun c_2 => ?_)
    refine lv_iconst (v := 1) hx hb dX5_isNoLine_14 (by decide) ?_
    refine lv_goto (tgt := 19) hx hb dX5_isNoLine_15 (by decide) ?_
    exact W.zret (v := 1) (ty := .boolean) hx hb hr (by decide +kernel) (fun t ht hW => ⟨_, rfl, rfl, ht⟩) (fun _ h => absurd h List.not_mem_nil) dX5_isNoLine_19

set_option maxHeartbeats 4000000 in
set_option maxRecDepth 100000 in
theorem c_X5_isNoStop (l : Launch) (D : va_G) (cI cL cZ cC : ClassId) (g0 : Nat) (ra : Nat) (wa : Nat) (ta : Nat) (ma : Nat) (pa : Nat) (ba : Nat) (ka : Nat) (fa : Nat) (qa : Nat) (ea : Nat) (za : Nat) (ya : Nat) (a1 : Int32)  : Met l yX5_isNoStop wsX5_isNoStop ({ frames := 0, cells := 0, slots := 0, locals := 0 } : Room) (xPc D [.ref g0, .int a1] [(g0, .inr (5, [.ref ra, .ref wa, .ref ta, .int 0, .ref ma, .int 0, .ref pa, .int 0, .int 0, .int 0, .ref ba, .ref ka, .int 0, .ref fa, .ref qa, .ref ea, .ref za, .ref ya, .int 0])), (wa, .inl (cI, 70, .inl (upd (upd (upd (upd (upd (fun _ => 0) 0 1) 1 400) 2 80) 4 2) 5 30)))] (xTy cI cL cZ cC)) (vp_Si (fun r : Int32 => r = if a1 < 0 then 1 else if a1 < 1 then 0 else 1)) 0 0 (fun _ => False) := by
  refine Met.ofW (cc := cX5_isNoStop) (maxL := 2) (ret := (some .boolean)) (by decide) rfl ?_
  intro p e s m args below meth c s₁ B hml hv
  obtain ⟨rfl, hP, hK⟩ := hv
  have hx := B.exec
  have hb := B.bytes
  have hr := B.returns
  have hts := atoms_spec (ws := wsX5_isNoStop) B.pre
  have hown : s.vm.findClass RX5 = some m.cls := findClass_of_methodNamed B.named
  have hlocks := B.notSynchronized
  have hwX5 : ∀ w ∈ u_ws RX5 TX5 19, w ∈ wsX5_isNoStop := fun _ h => List.mem_cons_of_mem _ (List.mem_append_right _ h)
  have hl := lv_entry ([.ref g0, .int a1]) (n := 2) (Nat.le_of_ble_eq_true rfl)
  rw [lg_entry_eq]
  generalize (lg_sl ([.ref g0, .int a1]) ++ List.replicate (2 - (lg_sl ([.ref g0, .int a1])).length) Slot.unset).toArray = ls at hl ⊢
  have hl : lv_has ls 2 [(0, .ref g0), (1, .int a1)] := hl
  refine lv_iload_n hx hb dX5_isNoStop_0 rfl (lv_at hl 1 rfl) ?_
  refine lv_if_lt (tgt := 14) hx hb dX5_isNoStop_1 (by decide) (fun c_1 => ?_) (fun c_1 => ?_)
  · refine lv_iconst (v := 1) hx hb dX5_isNoStop_14 (by decide) ?_
    refine lv_goto (tgt := 19) hx hb dX5_isNoStop_15 (by decide) ?_
    exact W.zret (v := 1) (ty := .boolean) hx hb hr (by decide +kernel) (fun t ht hW => ⟨_, rfl, by simp [c_1], ht⟩) (fun _ h => absurd h List.not_mem_nil) dX5_isNoStop_19
  · refine lv_iload_n hx hb dX5_isNoStop_4 rfl (lv_at hl 1 rfl) ?_
    refine lv_aload_n hx hb dX5_isNoStop_5 rfl (lv_at hl 0 rfl) ?_
    refine va_get (D := D) (ci := 5) (v := .ref wa) (C := RX5) (T := TX5) (N := 19) hx hb hts hwX5 hown hK hP 0 rfl rfl 1 (by decide) (hts (.fieldLink RX5 19 "WaitOrWalkOnModel" "now" "[I") (by decide +kernel)) (fun _ h9 => h9) rfl dX5_isNoStop_6 ?_
    refine lv_iconst (v := 0) hx hb dX5_isNoStop_9 (by decide) ?_
    refine va_iald (D := D) hx hb hK hP 1 0 rfl rfl (by unfold vp_in; decide +kernel) dX5_isNoStop_10 ?_
    refine xv_int (y := 1) rfl ?_
    refine lv_icmp_lt (tgt := 18) hx hb dX5_isNoStop_11 (by decide) (fun c_2 => ?_) (fun c_2 => ?_)
    · refine lv_iconst (v := 0) hx hb dX5_isNoStop_18 (by decide) ?_
      exact W.zret (v := 0) (ty := .boolean) hx hb hr (by decide +kernel) (fun t ht hW => ⟨_, rfl, by simp [c_1, c_2], ht⟩) (fun _ h => absurd h List.not_mem_nil) dX5_isNoStop_19
    · refine lv_iconst (v := 1) hx hb dX5_isNoStop_14 (by decide) ?_
      refine lv_goto (tgt := 19) hx hb dX5_isNoStop_15 (by decide) ?_
      exact W.zret (v := 1) (ty := .boolean) hx hb hr (by decide +kernel) (fun t ht hW => ⟨_, rfl, by simp [c_1, c_2], ht⟩) (fun _ h => absurd h List.not_mem_nil) dX5_isNoStop_19

set_option maxHeartbeats 4000000 in
set_option maxRecDepth 100000 in
theorem p1_X5_line (l : Launch) (D : va_G) (cI cL cZ cC : ClassId) (sz : Nat) (g0 : Nat) (ra : Nat) (wa : Nat) (ta : Nat) (ma : Nat) (pa : Nat) (ba : Nat) (ka : Nat) (fa : Nat) (qa : Nat) (ea : Nat) (za : Nat) (ya : Nat) (a1 : Int32) (a2 : Int32)  : Met l yX5_line wsX5_line ({ frames := 1, cells := 0, slots := 0, locals := 21 } : Room) (wPc D [.ref g0, .int a1, .int a2] [(g0, .inr (5, [.ref ra, .ref wa, .ref ta, .int 0, .ref ma, .int 0, .ref pa, .int 0, .int 0, .int 0, .ref ba, .ref ka, .int 0, .ref fa, .ref qa, .ref ea, .ref za, .ref ya, .int 0])), (wa, .inl (cI, 70, .inl (upd (upd (upd (upd (upd (fun _ => 0) 0 1) 1 400) 2 80) 4 2) 5 30))), (ra, .inl (cI, 7, .inl (fun _ => 0)))] (xTy cI cL cZ cC) sz) (va_Qi (fun (r : Int32) (_ : Unit) => r = -1) (fun (_ : Unit) t => va_P D vwCl [] t.heap ∧ va_D (va_A [(g0, .inr (5, [.ref ra, .ref wa, .ref ta, .int 0, .ref ma, .int 0, .ref pa, .int 0, .int 0, .int 0, .ref ba, .ref ka, .int 0, .ref fa, .ref qa, .ref ea, .ref za, .ref ya, .int 0])), (wa, .inl (cI, 70, .inl (upd (upd (upd (upd (upd (fun _ => 0) 0 1) 1 400) 2 80) 4 2) 5 30))), (ra, .inl (cI, 7, .inl (fun _ => 0)))] sz) []) (va_A [(g0, .inr (5, [.ref ra, .ref wa, .ref ta, .int 0, .ref ma, .int 0, .ref pa, .int 0, .int 0, .int 0, .ref ba, .ref ka, .int 0, .ref fa, .ref qa, .ref ea, .ref za, .ref ya, .int 0])), (wa, .inl (cI, 70, .inl (upd (upd (upd (upd (upd (fun _ => 0) 0 1) 1 400) 2 80) 4 2) 5 30))), (ra, .inl (cI, 7, .inl (fun _ => 0)))] sz)) 0 0 (va_A [(g0, .inr (5, [.ref ra, .ref wa, .ref ta, .int 0, .ref ma, .int 0, .ref pa, .int 0, .int 0, .int 0, .ref ba, .ref ka, .int 0, .ref fa, .ref qa, .ref ea, .ref za, .ref ya, .int 0])), (wa, .inl (cI, 70, .inl (upd (upd (upd (upd (upd (fun _ => 0) 0 1) 1 400) 2 80) 4 2) 5 30))), (ra, .inl (cI, 7, .inl (fun _ => 0)))] sz) := by
  refine Met.ofW (cc := cX5_line) (maxL := 3) (ret := (some .int)) (by decide) rfl ?_
  intro p e s m args below meth c s₁ B hml hv
  obtain ⟨rfl, hsz, hP, hK, hD0⟩ := hv
  have hx := B.exec
  have hb := B.bytes
  have hr := B.returns
  have hts := atoms_spec (ws := wsX5_line) B.pre
  have hown : s.vm.findClass RX5 = some m.cls := findClass_of_methodNamed B.named
  have hlocks := B.notSynchronized
  subst hsz
  have hD := hD0.self (sz := s.heap.size)
  generalize hAe : va_A [(g0, .inr (5, [.ref ra, .ref wa, .ref ta, .int 0, .ref ma, .int 0, .ref pa, .int 0, .int 0, .int 0, .ref ba, .ref ka, .int 0, .ref fa, .ref qa, .ref ea, .ref za, .ref ya, .int 0])), (wa, .inl (cI, 70, .inl (upd (upd (upd (upd (upd (fun _ => 0) 0 1) 1 400) 2 80) 4 2) 5 30))), (ra, .inl (cI, 7, .inl (fun _ => 0)))] s.heap.size = A at hD ⊢
  have hA : ∀ q : Nat, s.heap.size ≤ q → A q := fun q h => by rw [← hAe]; exact Or.inr h
  have hS : va_S A s.heap s.heap [] := va_S.rf
  have hP : va_P D vwCl [(g0, .inr (5, [.ref ra, .ref wa, .ref ta, .int 0, .ref ma, .int 0, .ref pa, .int 0, .int 0, .int 0, .ref ba, .ref ka, .int 0, .ref fa, .ref qa, .ref ea, .ref za, .ref ya, .int 0])), (wa, .inl (cI, 70, .inl (upd (upd (upd (upd (upd (fun _ => 0) 0 1) 1 400) 2 80) 4 2) 5 30))), (ra, .inl (cI, 7, .inl (fun _ => 0)))] s.heap := hP
  have hl := lv_entry ([.ref g0, .int a1, .int a2]) (n := 3) (Nat.le_of_ble_eq_true rfl)
  rw [lg_entry_eq]
  generalize (lg_sl ([.ref g0, .int a1, .int a2]) ++ List.replicate (3 - (lg_sl ([.ref g0, .int a1, .int a2])).length) Slot.unset).toArray = ls at hl ⊢
  have hl : lv_has ls 3 [(0, .ref g0), (1, .int a1), (2, .int a2)] := hl
  refine lv_aload_n hx hb dX5_line_0 rfl (lv_at hl 0 rfl) ?_
  refine lv_iload_n hx hb dX5_line_1 rfl (lv_at hl 1 rfl) ?_
  have hPc := hP.sub (ws' := [(g0, .inr (5, [.ref ra, .ref wa, .ref ta, .int 0, .ref ma, .int 0, .ref pa, .int 0, .int 0, .int 0, .ref ba, .ref ka, .int 0, .ref fa, .ref qa, .ref ea, .ref za, .ref ya, .int 0])), (wa, .inl (cI, 70, .inl (upd (upd (upd (upd (upd (fun _ => 0) 0 1) 1 400) 2 80) 4 2) 5 30)))]) [0, 1] rfl
  refine vp_callSi (va_Run.run (va_runV (As := [.int a1]) (rest := []) ⟨hx, hb, hml, hown, hts⟩ (c_X5_isNoLine l D cI cL cZ cC g0 ra wa ta ma pa ba ka fa qa ea za ya a1 ) (cwV 1 hts gX5_line_X5_isNoLine rfl rfl rfl (by decide +kernel) ⟨Nat.le_of_ble_eq_true rfl, Nat.le_of_ble_eq_true rfl⟩) ⟨xPc_bl, va_recv hK hPc (ci := 5) (q0 := 0) rfl rfl, xPc_use hPc hK⟩ rfl rfl hl.1 rfl (lv_room (Nat.le_of_ble_eq_true rfl)) dX5_line_2 ⟨Nat.le_of_ble_eq_true rfl, Nat.le_of_ble_eq_true rfl⟩)) (fun r_1 er_1 => ?_)
  obtain rfl : (1 : Int32) = r_1 := Eq.symm er_1
  refine lv_if_eq (tgt := 14) hx hb dX5_line_5 (by decide) (fun c_2 => absurd c_2 (by decide +kernel)) (fun c_2 => ?_)
  refine lv_aload_n hx hb dX5_line_8 rfl (lv_at hl 0 rfl) ?_
  refine lv_iconst (v := -1) hx hb dX5_line_9 (by decide) ?_
  have hPc := hP.sub (ws' := [(g0, .inr (5, [.ref ra, .ref wa, .ref ta, .int 0, .ref ma, .int 0, .ref pa, .int 0, .int 0, .int 0, .ref ba, .ref ka, .int 0, .ref fa, .ref qa, .ref ea, .ref za, .ref ya, .int 0])), (ra, .inl (cI, 7, .inl (fun _ => 0)))]) [0, 2] rfl
  have hDc := hD.sub (ws' := [(g0, .inr (5, [.ref ra, .ref wa, .ref ta, .int 0, .ref ma, .int 0, .ref pa, .int 0, .int 0, .int 0, .ref ba, .ref ka, .int 0, .ref fa, .ref qa, .ref ea, .ref za, .ref ya, .int 0])), (ra, .inl (cI, 7, .inl (fun _ => 0)))]) [0, 2] (by decide) rfl
  have hFc := va_free (wc := [(g0, .inr (5, [.ref ra, .ref wa, .ref ta, .int 0, .ref ma, .int 0, .ref pa, .int 0, .int 0, .int 0, .ref ba, .ref ka, .int 0, .ref fa, .ref qa, .ref ea, .ref za, .ref ya, .int 0])), (ra, .inl (cI, 7, .inl (fun _ => 0)))]) hD hS hA [0, 2] rfl
  refine va_calli (va_runV (As := [.int (-1)]) (rest := []) ⟨hx, hb, hml, hown, hts⟩ (c_X5_no l D cI cL cZ cC _ g0 ra wa ta ma pa ba ka fa qa ea za ya (fun _ => 0) (-1) (by first | assumption | decide +kernel) (by first | assumption | decide +kernel)) (cwV 1 hts gX5_line_X5_no rfl rfl rfl (by decide +kernel) ⟨Nat.le_of_ble_eq_true rfl, Nat.le_of_ble_eq_true rfl⟩) ⟨wPc_bl, va_recv hK hPc (ci := 5) (q0 := 0) rfl rfl, wPc_use hPc hK hDc⟩ rfl rfl hl.1 rfl (lv_room (Nat.le_of_ble_eq_true rfl)) dX5_line_10 ⟨Nat.le_of_ble_eq_true rfl, Nat.le_of_ble_eq_true rfl⟩) hS (fun q _ h => hFc q h) hFc (fun r_3 u_3 t H1 locs ht hvm hw hB hz1 hk1 hS => ?_)
  obtain ⟨hP1, hD1⟩ := hB
  rw [ht] at hP1
  obtain ⟨hP, hD⟩ := va_join (wr := [(wa, .inl (cI, 70, .inl (upd (upd (upd (upd (upd (fun _ => 0) 0 1) 1 400) 2 80) 4 2) 5 30)))]) (w1 := [(g0, .inr (5, [.ref ra, .ref wa, .ref ta, .int 0, .ref ma, .int 0, .ref pa, .int 0, .int 0, .int 0, .ref ba, .ref ka, .int 0, .ref fa, .ref qa, .ref ea, .ref za, .ref ya, .int 0])), (ra, .inl (cI, 7, .inl (xRf (fun _ => 0) (-1))))]) hP hD [0, 2] [1] rfl rfl (by decide) (by decide) hk1 hFc hP1 hD1
  generalize H1 = H at hP hS ⊢
  have hP : va_P D vwCl [(wa, .inl (cI, 70, .inl (upd (upd (upd (upd (upd (fun _ => 0) 0 1) 1 400) 2 80) 4 2) 5 30))), (g0, .inr (5, [.ref ra, .ref wa, .ref ta, .int 0, .ref ma, .int 0, .ref pa, .int 0, .int 0, .int 0, .ref ba, .ref ka, .int 0, .ref fa, .ref qa, .ref ea, .ref za, .ref ya, .int 0])), (ra, .inl (cI, 7, .inl (xRf (fun _ => 0) (-1))))] H := hP
  have hD : va_D A [(wa, .inl (cI, 70, .inl (upd (upd (upd (upd (upd (fun _ => 0) 0 1) 1 400) 2 80) 4 2) 5 30))), (g0, .inr (5, [.ref ra, .ref wa, .ref ta, .int 0, .ref ma, .int 0, .ref pa, .int 0, .int 0, .int 0, .ref ba, .ref ka, .int 0, .ref fa, .ref qa, .ref ea, .ref za, .ref ya, .int 0])), (ra, .inl (cI, 7, .inl (xRf (fun _ => 0) (-1))))] := hD
  obtain rfl : ((-1) : Int32) = r_3 := Eq.symm hw
  have hP9 := hP.sub (ws' := []) [] rfl
  have hD9 := hD.sub (ws' := []) [] (by decide) rfl
  exact W.iret (v := -1) hx hb hr (fun t ht hW => ⟨⟨_, (), rfl, rfl, by rw [ht]; exact hP9, hD9⟩, hS.F ht⟩) hS.2.2 dX5_line_13

set_option maxHeartbeats 4000000 in
set_option maxRecDepth 100000 in
theorem p1_X5_chance (l : Launch) (D : va_G) (cI cL cZ cC : ClassId) (sz : Nat) (g0 : Nat) (ra : Nat) (wa : Nat) (ta : Nat) (ma : Nat) (pa : Nat) (ba : Nat) (ka : Nat) (fa : Nat) (qa : Nat) (ea : Nat) (za : Nat) (ya : Nat) (a1 : Int32) (a2 : Int32)  : Met l yX5_chance wsX5_chance ({ frames := 1, cells := 0, slots := 0, locals := 21 } : Room) (wPc D [.ref g0, .int a1, .int a2] [(g0, .inr (5, [.ref ra, .ref wa, .ref ta, .int 0, .ref ma, .int 0, .ref pa, .int 0, .int 0, .int 0, .ref ba, .ref ka, .int 0, .ref fa, .ref qa, .ref ea, .ref za, .ref ya, .int 0])), (wa, .inl (cI, 70, .inl (upd (upd (upd (upd (upd (fun _ => 0) 0 1) 1 400) 2 80) 4 2) 5 30))), (ra, .inl (cI, 7, .inl (fun _ => 0)))] (xTy cI cL cZ cC) sz) (va_Qi (fun (r : Int32) (_ : Unit) => r = -1) (fun (_ : Unit) t => va_P D vwCl [] t.heap ∧ va_D (va_A [(g0, .inr (5, [.ref ra, .ref wa, .ref ta, .int 0, .ref ma, .int 0, .ref pa, .int 0, .int 0, .int 0, .ref ba, .ref ka, .int 0, .ref fa, .ref qa, .ref ea, .ref za, .ref ya, .int 0])), (wa, .inl (cI, 70, .inl (upd (upd (upd (upd (upd (fun _ => 0) 0 1) 1 400) 2 80) 4 2) 5 30))), (ra, .inl (cI, 7, .inl (fun _ => 0)))] sz) []) (va_A [(g0, .inr (5, [.ref ra, .ref wa, .ref ta, .int 0, .ref ma, .int 0, .ref pa, .int 0, .int 0, .int 0, .ref ba, .ref ka, .int 0, .ref fa, .ref qa, .ref ea, .ref za, .ref ya, .int 0])), (wa, .inl (cI, 70, .inl (upd (upd (upd (upd (upd (fun _ => 0) 0 1) 1 400) 2 80) 4 2) 5 30))), (ra, .inl (cI, 7, .inl (fun _ => 0)))] sz)) 0 0 (va_A [(g0, .inr (5, [.ref ra, .ref wa, .ref ta, .int 0, .ref ma, .int 0, .ref pa, .int 0, .int 0, .int 0, .ref ba, .ref ka, .int 0, .ref fa, .ref qa, .ref ea, .ref za, .ref ya, .int 0])), (wa, .inl (cI, 70, .inl (upd (upd (upd (upd (upd (fun _ => 0) 0 1) 1 400) 2 80) 4 2) 5 30))), (ra, .inl (cI, 7, .inl (fun _ => 0)))] sz) := by
  refine Met.ofW (cc := cX5_chance) (maxL := 3) (ret := (some .int)) (by decide) rfl ?_
  intro p e s m args below meth c s₁ B hml hv
  obtain ⟨rfl, hsz, hP, hK, hD0⟩ := hv
  have hx := B.exec
  have hb := B.bytes
  have hr := B.returns
  have hts := atoms_spec (ws := wsX5_chance) B.pre
  have hown : s.vm.findClass RX5 = some m.cls := findClass_of_methodNamed B.named
  have hlocks := B.notSynchronized
  subst hsz
  have hD := hD0.self (sz := s.heap.size)
  generalize hAe : va_A [(g0, .inr (5, [.ref ra, .ref wa, .ref ta, .int 0, .ref ma, .int 0, .ref pa, .int 0, .int 0, .int 0, .ref ba, .ref ka, .int 0, .ref fa, .ref qa, .ref ea, .ref za, .ref ya, .int 0])), (wa, .inl (cI, 70, .inl (upd (upd (upd (upd (upd (fun _ => 0) 0 1) 1 400) 2 80) 4 2) 5 30))), (ra, .inl (cI, 7, .inl (fun _ => 0)))] s.heap.size = A at hD ⊢
  have hA : ∀ q : Nat, s.heap.size ≤ q → A q := fun q h => by rw [← hAe]; exact Or.inr h
  have hS : va_S A s.heap s.heap [] := va_S.rf
  have hP : va_P D vwCl [(g0, .inr (5, [.ref ra, .ref wa, .ref ta, .int 0, .ref ma, .int 0, .ref pa, .int 0, .int 0, .int 0, .ref ba, .ref ka, .int 0, .ref fa, .ref qa, .ref ea, .ref za, .ref ya, .int 0])), (wa, .inl (cI, 70, .inl (upd (upd (upd (upd (upd (fun _ => 0) 0 1) 1 400) 2 80) 4 2) 5 30))), (ra, .inl (cI, 7, .inl (fun _ => 0)))] s.heap := hP
  have hl := lv_entry ([.ref g0, .int a1, .int a2]) (n := 3) (Nat.le_of_ble_eq_true rfl)
  rw [lg_entry_eq]
  generalize (lg_sl ([.ref g0, .int a1, .int a2]) ++ List.replicate (3 - (lg_sl ([.ref g0, .int a1, .int a2])).length) Slot.unset).toArray = ls at hl ⊢
  have hl : lv_has ls 3 [(0, .ref g0), (1, .int a1), (2, .int a2)] := hl
  refine lv_aload_n hx hb dX5_chance_0 rfl (lv_at hl 0 rfl) ?_
  refine lv_iload_n hx hb dX5_chance_1 rfl (lv_at hl 1 rfl) ?_
  have hPc := hP.sub (ws' := [(g0, .inr (5, [.ref ra, .ref wa, .ref ta, .int 0, .ref ma, .int 0, .ref pa, .int 0, .int 0, .int 0, .ref ba, .ref ka, .int 0, .ref fa, .ref qa, .ref ea, .ref za, .ref ya, .int 0])), (wa, .inl (cI, 70, .inl (upd (upd (upd (upd (upd (fun _ => 0) 0 1) 1 400) 2 80) 4 2) 5 30)))]) [0, 1] rfl
  refine vp_callSi (va_Run.run (va_runV (As := [.int a1]) (rest := []) ⟨hx, hb, hml, hown, hts⟩ (c_X5_isNoLine l D cI cL cZ cC g0 ra wa ta ma pa ba ka fa qa ea za ya a1 ) (cwV 1 hts gX5_chance_X5_isNoLine rfl rfl rfl (by decide +kernel) ⟨Nat.le_of_ble_eq_true rfl, Nat.le_of_ble_eq_true rfl⟩) ⟨xPc_bl, va_recv hK hPc (ci := 5) (q0 := 0) rfl rfl, xPc_use hPc hK⟩ rfl rfl hl.1 rfl (lv_room (Nat.le_of_ble_eq_true rfl)) dX5_chance_2 ⟨Nat.le_of_ble_eq_true rfl, Nat.le_of_ble_eq_true rfl⟩)) (fun r_1 er_1 => ?_)
  obtain rfl : (1 : Int32) = r_1 := Eq.symm er_1
  refine lv_if_eq (tgt := 14) hx hb dX5_chance_5 (by decide) (fun c_2 => absurd c_2 (by decide +kernel)) (fun c_2 => ?_)
  refine lv_aload_n hx hb dX5_chance_8 rfl (lv_at hl 0 rfl) ?_
  refine lv_iconst (v := -1) hx hb dX5_chance_9 (by decide) ?_
  have hPc := hP.sub (ws' := [(g0, .inr (5, [.ref ra, .ref wa, .ref ta, .int 0, .ref ma, .int 0, .ref pa, .int 0, .int 0, .int 0, .ref ba, .ref ka, .int 0, .ref fa, .ref qa, .ref ea, .ref za, .ref ya, .int 0])), (ra, .inl (cI, 7, .inl (fun _ => 0)))]) [0, 2] rfl
  have hDc := hD.sub (ws' := [(g0, .inr (5, [.ref ra, .ref wa, .ref ta, .int 0, .ref ma, .int 0, .ref pa, .int 0, .int 0, .int 0, .ref ba, .ref ka, .int 0, .ref fa, .ref qa, .ref ea, .ref za, .ref ya, .int 0])), (ra, .inl (cI, 7, .inl (fun _ => 0)))]) [0, 2] (by decide) rfl
  have hFc := va_free (wc := [(g0, .inr (5, [.ref ra, .ref wa, .ref ta, .int 0, .ref ma, .int 0, .ref pa, .int 0, .int 0, .int 0, .ref ba, .ref ka, .int 0, .ref fa, .ref qa, .ref ea, .ref za, .ref ya, .int 0])), (ra, .inl (cI, 7, .inl (fun _ => 0)))]) hD hS hA [0, 2] rfl
  refine va_calli (va_runV (As := [.int (-1)]) (rest := []) ⟨hx, hb, hml, hown, hts⟩ (c_X5_no l D cI cL cZ cC _ g0 ra wa ta ma pa ba ka fa qa ea za ya (fun _ => 0) (-1) (by first | assumption | decide +kernel) (by first | assumption | decide +kernel)) (cwV 1 hts gX5_chance_X5_no rfl rfl rfl (by decide +kernel) ⟨Nat.le_of_ble_eq_true rfl, Nat.le_of_ble_eq_true rfl⟩) ⟨wPc_bl, va_recv hK hPc (ci := 5) (q0 := 0) rfl rfl, wPc_use hPc hK hDc⟩ rfl rfl hl.1 rfl (lv_room (Nat.le_of_ble_eq_true rfl)) dX5_chance_10 ⟨Nat.le_of_ble_eq_true rfl, Nat.le_of_ble_eq_true rfl⟩) hS (fun q _ h => hFc q h) hFc (fun r_3 u_3 t H1 locs ht hvm hw hB hz1 hk1 hS => ?_)
  obtain ⟨hP1, hD1⟩ := hB
  rw [ht] at hP1
  obtain ⟨hP, hD⟩ := va_join (wr := [(wa, .inl (cI, 70, .inl (upd (upd (upd (upd (upd (fun _ => 0) 0 1) 1 400) 2 80) 4 2) 5 30)))]) (w1 := [(g0, .inr (5, [.ref ra, .ref wa, .ref ta, .int 0, .ref ma, .int 0, .ref pa, .int 0, .int 0, .int 0, .ref ba, .ref ka, .int 0, .ref fa, .ref qa, .ref ea, .ref za, .ref ya, .int 0])), (ra, .inl (cI, 7, .inl (xRf (fun _ => 0) (-1))))]) hP hD [0, 2] [1] rfl rfl (by decide) (by decide) hk1 hFc hP1 hD1
  generalize H1 = H at hP hS ⊢
  have hP : va_P D vwCl [(wa, .inl (cI, 70, .inl (upd (upd (upd (upd (upd (fun _ => 0) 0 1) 1 400) 2 80) 4 2) 5 30))), (g0, .inr (5, [.ref ra, .ref wa, .ref ta, .int 0, .ref ma, .int 0, .ref pa, .int 0, .int 0, .int 0, .ref ba, .ref ka, .int 0, .ref fa, .ref qa, .ref ea, .ref za, .ref ya, .int 0])), (ra, .inl (cI, 7, .inl (xRf (fun _ => 0) (-1))))] H := hP
  have hD : va_D A [(wa, .inl (cI, 70, .inl (upd (upd (upd (upd (upd (fun _ => 0) 0 1) 1 400) 2 80) 4 2) 5 30))), (g0, .inr (5, [.ref ra, .ref wa, .ref ta, .int 0, .ref ma, .int 0, .ref pa, .int 0, .int 0, .int 0, .ref ba, .ref ka, .int 0, .ref fa, .ref qa, .ref ea, .ref za, .ref ya, .int 0])), (ra, .inl (cI, 7, .inl (xRf (fun _ => 0) (-1))))] := hD
  obtain rfl : ((-1) : Int32) = r_3 := Eq.symm hw
  have hP9 := hP.sub (ws' := []) [] rfl
  have hD9 := hD.sub (ws' := []) [] (by decide) rfl
  exact W.iret (v := -1) hx hb hr (fun t ht hW => ⟨⟨_, (), rfl, rfl, by rw [ht]; exact hP9, hD9⟩, hS.F ht⟩) hS.2.2 dX5_chance_13

set_option maxHeartbeats 4000000 in
set_option maxRecDepth 100000 in
theorem p1_X5_there (l : Launch) (D : va_G) (cI cL cZ cC : ClassId) (sz : Nat) (g0 : Nat) (ra : Nat) (wa : Nat) (ta : Nat) (ma : Nat) (pa : Nat) (ba : Nat) (ka : Nat) (fa : Nat) (qa : Nat) (ea : Nat) (za : Nat) (ya : Nat) (a1 : Int32) (a2 : Int32)  : Met l yX5_there wsX5_there ({ frames := 1, cells := 0, slots := 0, locals := 21 } : Room) (wPc D [.ref g0, .int a1, .int a2] [(g0, .inr (5, [.ref ra, .ref wa, .ref ta, .int 0, .ref ma, .int 0, .ref pa, .int 0, .int 0, .int 0, .ref ba, .ref ka, .int 0, .ref fa, .ref qa, .ref ea, .ref za, .ref ya, .int 0])), (wa, .inl (cI, 70, .inl (upd (upd (upd (upd (upd (fun _ => 0) 0 1) 1 400) 2 80) 4 2) 5 30))), (ra, .inl (cI, 7, .inl (fun _ => 0)))] (xTy cI cL cZ cC) sz) (va_Qi (fun (r : Int32) (_ : Unit) => r = -1) (fun (_ : Unit) t => va_P D vwCl [] t.heap ∧ va_D (va_A [(g0, .inr (5, [.ref ra, .ref wa, .ref ta, .int 0, .ref ma, .int 0, .ref pa, .int 0, .int 0, .int 0, .ref ba, .ref ka, .int 0, .ref fa, .ref qa, .ref ea, .ref za, .ref ya, .int 0])), (wa, .inl (cI, 70, .inl (upd (upd (upd (upd (upd (fun _ => 0) 0 1) 1 400) 2 80) 4 2) 5 30))), (ra, .inl (cI, 7, .inl (fun _ => 0)))] sz) []) (va_A [(g0, .inr (5, [.ref ra, .ref wa, .ref ta, .int 0, .ref ma, .int 0, .ref pa, .int 0, .int 0, .int 0, .ref ba, .ref ka, .int 0, .ref fa, .ref qa, .ref ea, .ref za, .ref ya, .int 0])), (wa, .inl (cI, 70, .inl (upd (upd (upd (upd (upd (fun _ => 0) 0 1) 1 400) 2 80) 4 2) 5 30))), (ra, .inl (cI, 7, .inl (fun _ => 0)))] sz)) 0 0 (va_A [(g0, .inr (5, [.ref ra, .ref wa, .ref ta, .int 0, .ref ma, .int 0, .ref pa, .int 0, .int 0, .int 0, .ref ba, .ref ka, .int 0, .ref fa, .ref qa, .ref ea, .ref za, .ref ya, .int 0])), (wa, .inl (cI, 70, .inl (upd (upd (upd (upd (upd (fun _ => 0) 0 1) 1 400) 2 80) 4 2) 5 30))), (ra, .inl (cI, 7, .inl (fun _ => 0)))] sz) := by
  refine Met.ofW (cc := cX5_there) (maxL := 3) (ret := (some .int)) (by decide) rfl ?_
  intro p e s m args below meth c s₁ B hml hv
  obtain ⟨rfl, hsz, hP, hK, hD0⟩ := hv
  have hx := B.exec
  have hb := B.bytes
  have hr := B.returns
  have hts := atoms_spec (ws := wsX5_there) B.pre
  have hown : s.vm.findClass RX5 = some m.cls := findClass_of_methodNamed B.named
  have hlocks := B.notSynchronized
  subst hsz
  have hD := hD0.self (sz := s.heap.size)
  generalize hAe : va_A [(g0, .inr (5, [.ref ra, .ref wa, .ref ta, .int 0, .ref ma, .int 0, .ref pa, .int 0, .int 0, .int 0, .ref ba, .ref ka, .int 0, .ref fa, .ref qa, .ref ea, .ref za, .ref ya, .int 0])), (wa, .inl (cI, 70, .inl (upd (upd (upd (upd (upd (fun _ => 0) 0 1) 1 400) 2 80) 4 2) 5 30))), (ra, .inl (cI, 7, .inl (fun _ => 0)))] s.heap.size = A at hD ⊢
  have hA : ∀ q : Nat, s.heap.size ≤ q → A q := fun q h => by rw [← hAe]; exact Or.inr h
  have hS : va_S A s.heap s.heap [] := va_S.rf
  have hP : va_P D vwCl [(g0, .inr (5, [.ref ra, .ref wa, .ref ta, .int 0, .ref ma, .int 0, .ref pa, .int 0, .int 0, .int 0, .ref ba, .ref ka, .int 0, .ref fa, .ref qa, .ref ea, .ref za, .ref ya, .int 0])), (wa, .inl (cI, 70, .inl (upd (upd (upd (upd (upd (fun _ => 0) 0 1) 1 400) 2 80) 4 2) 5 30))), (ra, .inl (cI, 7, .inl (fun _ => 0)))] s.heap := hP
  have hl := lv_entry ([.ref g0, .int a1, .int a2]) (n := 3) (Nat.le_of_ble_eq_true rfl)
  rw [lg_entry_eq]
  generalize (lg_sl ([.ref g0, .int a1, .int a2]) ++ List.replicate (3 - (lg_sl ([.ref g0, .int a1, .int a2])).length) Slot.unset).toArray = ls at hl ⊢
  have hl : lv_has ls 3 [(0, .ref g0), (1, .int a1), (2, .int a2)] := hl
  refine lv_aload_n hx hb dX5_there_0 rfl (lv_at hl 0 rfl) ?_
  refine lv_iload_n hx hb dX5_there_1 rfl (lv_at hl 1 rfl) ?_
  have hPc := hP.sub (ws' := [(g0, .inr (5, [.ref ra, .ref wa, .ref ta, .int 0, .ref ma, .int 0, .ref pa, .int 0, .int 0, .int 0, .ref ba, .ref ka, .int 0, .ref fa, .ref qa, .ref ea, .ref za, .ref ya, .int 0])), (wa, .inl (cI, 70, .inl (upd (upd (upd (upd (upd (fun _ => 0) 0 1) 1 400) 2 80) 4 2) 5 30)))]) [0, 1] rfl
  refine vp_callSi (va_Run.run (va_runV (As := [.int a1]) (rest := []) ⟨hx, hb, hml, hown, hts⟩ (c_X5_isNoLine l D cI cL cZ cC g0 ra wa ta ma pa ba ka fa qa ea za ya a1 ) (cwV 1 hts gX5_there_X5_isNoLine rfl rfl rfl (by decide +kernel) ⟨Nat.le_of_ble_eq_true rfl, Nat.le_of_ble_eq_true rfl⟩) ⟨xPc_bl, va_recv hK hPc (ci := 5) (q0 := 0) rfl rfl, xPc_use hPc hK⟩ rfl rfl hl.1 rfl (lv_room (Nat.le_of_ble_eq_true rfl)) dX5_there_2 ⟨Nat.le_of_ble_eq_true rfl, Nat.le_of_ble_eq_true rfl⟩)) (fun r_1 er_1 => ?_)
  obtain rfl : (1 : Int32) = r_1 := Eq.symm er_1
  refine lv_if_ne (tgt := 16) hx hb dX5_there_5 (by decide) (fun c_2 => ?_) (fun c_2 => absurd c_2 (by decide +kernel))
  refine lv_aload_n hx hb dX5_there_16 rfl (lv_at hl 0 rfl) ?_
  refine lv_iconst (v := -1) hx hb dX5_there_17 (by decide) ?_
  have hPc := hP.sub (ws' := [(g0, .inr (5, [.ref ra, .ref wa, .ref ta, .int 0, .ref ma, .int 0, .ref pa, .int 0, .int 0, .int 0, .ref ba, .ref ka, .int 0, .ref fa, .ref qa, .ref ea, .ref za, .ref ya, .int 0])), (ra, .inl (cI, 7, .inl (fun _ => 0)))]) [0, 2] rfl
  have hDc := hD.sub (ws' := [(g0, .inr (5, [.ref ra, .ref wa, .ref ta, .int 0, .ref ma, .int 0, .ref pa, .int 0, .int 0, .int 0, .ref ba, .ref ka, .int 0, .ref fa, .ref qa, .ref ea, .ref za, .ref ya, .int 0])), (ra, .inl (cI, 7, .inl (fun _ => 0)))]) [0, 2] (by decide) rfl
  have hFc := va_free (wc := [(g0, .inr (5, [.ref ra, .ref wa, .ref ta, .int 0, .ref ma, .int 0, .ref pa, .int 0, .int 0, .int 0, .ref ba, .ref ka, .int 0, .ref fa, .ref qa, .ref ea, .ref za, .ref ya, .int 0])), (ra, .inl (cI, 7, .inl (fun _ => 0)))]) hD hS hA [0, 2] rfl
  refine va_calli (va_runV (As := [.int (-1)]) (rest := []) ⟨hx, hb, hml, hown, hts⟩ (c_X5_no l D cI cL cZ cC _ g0 ra wa ta ma pa ba ka fa qa ea za ya (fun _ => 0) (-1) (by first | assumption | decide +kernel) (by first | assumption | decide +kernel)) (cwV 1 hts gX5_there_X5_no rfl rfl rfl (by decide +kernel) ⟨Nat.le_of_ble_eq_true rfl, Nat.le_of_ble_eq_true rfl⟩) ⟨wPc_bl, va_recv hK hPc (ci := 5) (q0 := 0) rfl rfl, wPc_use hPc hK hDc⟩ rfl rfl hl.1 rfl (lv_room (Nat.le_of_ble_eq_true rfl)) dX5_there_18 ⟨Nat.le_of_ble_eq_true rfl, Nat.le_of_ble_eq_true rfl⟩) hS (fun q _ h => hFc q h) hFc (fun r_3 u_3 t H1 locs ht hvm hw hB hz1 hk1 hS => ?_)
  obtain ⟨hP1, hD1⟩ := hB
  rw [ht] at hP1
  obtain ⟨hP, hD⟩ := va_join (wr := [(wa, .inl (cI, 70, .inl (upd (upd (upd (upd (upd (fun _ => 0) 0 1) 1 400) 2 80) 4 2) 5 30)))]) (w1 := [(g0, .inr (5, [.ref ra, .ref wa, .ref ta, .int 0, .ref ma, .int 0, .ref pa, .int 0, .int 0, .int 0, .ref ba, .ref ka, .int 0, .ref fa, .ref qa, .ref ea, .ref za, .ref ya, .int 0])), (ra, .inl (cI, 7, .inl (xRf (fun _ => 0) (-1))))]) hP hD [0, 2] [1] rfl rfl (by decide) (by decide) hk1 hFc hP1 hD1
  generalize H1 = H at hP hS ⊢
  have hP : va_P D vwCl [(wa, .inl (cI, 70, .inl (upd (upd (upd (upd (upd (fun _ => 0) 0 1) 1 400) 2 80) 4 2) 5 30))), (g0, .inr (5, [.ref ra, .ref wa, .ref ta, .int 0, .ref ma, .int 0, .ref pa, .int 0, .int 0, .int 0, .ref ba, .ref ka, .int 0, .ref fa, .ref qa, .ref ea, .ref za, .ref ya, .int 0])), (ra, .inl (cI, 7, .inl (xRf (fun _ => 0) (-1))))] H := hP
  have hD : va_D A [(wa, .inl (cI, 70, .inl (upd (upd (upd (upd (upd (fun _ => 0) 0 1) 1 400) 2 80) 4 2) 5 30))), (g0, .inr (5, [.ref ra, .ref wa, .ref ta, .int 0, .ref ma, .int 0, .ref pa, .int 0, .int 0, .int 0, .ref ba, .ref ka, .int 0, .ref fa, .ref qa, .ref ea, .ref za, .ref ya, .int 0])), (ra, .inl (cI, 7, .inl (xRf (fun _ => 0) (-1))))] := hD
  obtain rfl : ((-1) : Int32) = r_3 := Eq.symm hw
  have hP9 := hP.sub (ws' := []) [] rfl
  have hD9 := hD.sub (ws' := []) [] (by decide) rfl
  exact W.iret (v := -1) hx hb hr (fun t ht hW => ⟨⟨_, (), rfl, rfl, by rw [ht]; exact hP9, hD9⟩, hS.F ht⟩) hS.2.2 dX5_there_21

set_option maxHeartbeats 4000000 in
set_option maxRecDepth 100000 in
theorem p1_X5_comes (l : Launch) (D : va_G) (cI cL cZ cC : ClassId) (sz : Nat) (g0 : Nat) (ra : Nat) (wa : Nat) (ta : Nat) (ma : Nat) (pa : Nat) (ba : Nat) (ka : Nat) (fa : Nat) (qa : Nat) (ea : Nat) (za : Nat) (ya : Nat) (a1 : Int32) (a2 : Int32) (a3 : Int32) (a4 : Int32)  : Met l yX5_comes wsX5_comes ({ frames := 2, cells := 0, slots := 0, locals := 42 } : Room) (wPc D [.ref g0, .int a1, .int a2, .int a3, .int a4] [(g0, .inr (5, [.ref ra, .ref wa, .ref ta, .int 0, .ref ma, .int 0, .ref pa, .int 0, .int 0, .int 0, .ref ba, .ref ka, .int 0, .ref fa, .ref qa, .ref ea, .ref za, .ref ya, .int 0])), (wa, .inl (cI, 70, .inl (upd (upd (upd (upd (upd (fun _ => 0) 0 1) 1 400) 2 80) 4 2) 5 30))), (ra, .inl (cI, 7, .inl (fun _ => 0)))] (xTy cI cL cZ cC) sz) (va_Ql (fun (r : Int64) (_ : Unit) => r = xLg (-1)) (fun (_ : Unit) t => va_P D vwCl [] t.heap ∧ va_D (va_A [(g0, .inr (5, [.ref ra, .ref wa, .ref ta, .int 0, .ref ma, .int 0, .ref pa, .int 0, .int 0, .int 0, .ref ba, .ref ka, .int 0, .ref fa, .ref qa, .ref ea, .ref za, .ref ya, .int 0])), (wa, .inl (cI, 70, .inl (upd (upd (upd (upd (upd (fun _ => 0) 0 1) 1 400) 2 80) 4 2) 5 30))), (ra, .inl (cI, 7, .inl (fun _ => 0)))] sz) []) (va_A [(g0, .inr (5, [.ref ra, .ref wa, .ref ta, .int 0, .ref ma, .int 0, .ref pa, .int 0, .int 0, .int 0, .ref ba, .ref ka, .int 0, .ref fa, .ref qa, .ref ea, .ref za, .ref ya, .int 0])), (wa, .inl (cI, 70, .inl (upd (upd (upd (upd (upd (fun _ => 0) 0 1) 1 400) 2 80) 4 2) 5 30))), (ra, .inl (cI, 7, .inl (fun _ => 0)))] sz)) 0 0 (va_A [(g0, .inr (5, [.ref ra, .ref wa, .ref ta, .int 0, .ref ma, .int 0, .ref pa, .int 0, .int 0, .int 0, .ref ba, .ref ka, .int 0, .ref fa, .ref qa, .ref ea, .ref za, .ref ya, .int 0])), (wa, .inl (cI, 70, .inl (upd (upd (upd (upd (upd (fun _ => 0) 0 1) 1 400) 2 80) 4 2) 5 30))), (ra, .inl (cI, 7, .inl (fun _ => 0)))] sz) := by
  refine Met.ofW (cc := cX5_comes) (maxL := 5) (ret := (some .long)) (by decide) rfl ?_
  intro p e s m args below meth c s₁ B hml hv
  obtain ⟨rfl, hsz, hP, hK, hD0⟩ := hv
  have hx := B.exec
  have hb := B.bytes
  have hr := B.returns
  have hts := atoms_spec (ws := wsX5_comes) B.pre
  have hown : s.vm.findClass RX5 = some m.cls := findClass_of_methodNamed B.named
  have hlocks := B.notSynchronized
  subst hsz
  have hD := hD0.self (sz := s.heap.size)
  generalize hAe : va_A [(g0, .inr (5, [.ref ra, .ref wa, .ref ta, .int 0, .ref ma, .int 0, .ref pa, .int 0, .int 0, .int 0, .ref ba, .ref ka, .int 0, .ref fa, .ref qa, .ref ea, .ref za, .ref ya, .int 0])), (wa, .inl (cI, 70, .inl (upd (upd (upd (upd (upd (fun _ => 0) 0 1) 1 400) 2 80) 4 2) 5 30))), (ra, .inl (cI, 7, .inl (fun _ => 0)))] s.heap.size = A at hD ⊢
  have hA : ∀ q : Nat, s.heap.size ≤ q → A q := fun q h => by rw [← hAe]; exact Or.inr h
  have hS : va_S A s.heap s.heap [] := va_S.rf
  have hP : va_P D vwCl [(g0, .inr (5, [.ref ra, .ref wa, .ref ta, .int 0, .ref ma, .int 0, .ref pa, .int 0, .int 0, .int 0, .ref ba, .ref ka, .int 0, .ref fa, .ref qa, .ref ea, .ref za, .ref ya, .int 0])), (wa, .inl (cI, 70, .inl (upd (upd (upd (upd (upd (fun _ => 0) 0 1) 1 400) 2 80) 4 2) 5 30))), (ra, .inl (cI, 7, .inl (fun _ => 0)))] s.heap := hP
  have hl := lv_entry ([.ref g0, .int a1, .int a2, .int a3, .int a4]) (n := 5) (Nat.le_of_ble_eq_true rfl)
  rw [lg_entry_eq]
  generalize (lg_sl ([.ref g0, .int a1, .int a2, .int a3, .int a4]) ++ List.replicate (5 - (lg_sl ([.ref g0, .int a1, .int a2, .int a3, .int a4])).length) Slot.unset).toArray = ls at hl ⊢
  have hl : lv_has ls 5 [(0, .ref g0), (1, .int a1), (2, .int a2), (3, .int a3), (4, .int a4)] := hl
  refine lv_aload_n hx hb dX5_comes_0 rfl (lv_at hl 0 rfl) ?_
  refine lv_iload_n hx hb dX5_comes_1 rfl (lv_at hl 1 rfl) ?_
  have hPc := hP.sub (ws' := [(g0, .inr (5, [.ref ra, .ref wa, .ref ta, .int 0, .ref ma, .int 0, .ref pa, .int 0, .int 0, .int 0, .ref ba, .ref ka, .int 0, .ref fa, .ref qa, .ref ea, .ref za, .ref ya, .int 0])), (wa, .inl (cI, 70, .inl (upd (upd (upd (upd (upd (fun _ => 0) 0 1) 1 400) 2 80) 4 2) 5 30)))]) [0, 1] rfl
  refine vp_callSi (va_Run.run (va_runV (As := [.int a1]) (rest := []) ⟨hx, hb, hml, hown, hts⟩ (c_X5_isNoLine l D cI cL cZ cC g0 ra wa ta ma pa ba ka fa qa ea za ya a1 ) (cwV 1 hts gX5_comes_X5_isNoLine rfl rfl rfl (by decide +kernel) ⟨Nat.le_of_ble_eq_true rfl, Nat.le_of_ble_eq_true rfl⟩) ⟨xPc_bl, va_recv hK hPc (ci := 5) (q0 := 0) rfl rfl, xPc_use hPc hK⟩ rfl rfl hl.1 rfl (lv_room (Nat.le_of_ble_eq_true rfl)) dX5_comes_2 ⟨Nat.le_of_ble_eq_true rfl, Nat.le_of_ble_eq_true rfl⟩)) (fun r_1 er_1 => ?_)
  obtain rfl : (1 : Int32) = r_1 := Eq.symm er_1
  refine lv_if_eq (tgt := 14) hx hb dX5_comes_5 (by decide) (fun c_2 => absurd c_2 (by decide +kernel)) (fun c_2 => ?_)
  refine lv_aload_n hx hb dX5_comes_8 rfl (lv_at hl 0 rfl) ?_
  refine lv_iconst (v := -1) hx hb dX5_comes_9 (by decide) ?_
  have hPc := hP.sub (ws' := [(g0, .inr (5, [.ref ra, .ref wa, .ref ta, .int 0, .ref ma, .int 0, .ref pa, .int 0, .int 0, .int 0, .ref ba, .ref ka, .int 0, .ref fa, .ref qa, .ref ea, .ref za, .ref ya, .int 0])), (ra, .inl (cI, 7, .inl (fun _ => 0)))]) [0, 2] rfl
  have hDc := hD.sub (ws' := [(g0, .inr (5, [.ref ra, .ref wa, .ref ta, .int 0, .ref ma, .int 0, .ref pa, .int 0, .int 0, .int 0, .ref ba, .ref ka, .int 0, .ref fa, .ref qa, .ref ea, .ref za, .ref ya, .int 0])), (ra, .inl (cI, 7, .inl (fun _ => 0)))]) [0, 2] (by decide) rfl
  have hFc := va_free (wc := [(g0, .inr (5, [.ref ra, .ref wa, .ref ta, .int 0, .ref ma, .int 0, .ref pa, .int 0, .int 0, .int 0, .ref ba, .ref ka, .int 0, .ref fa, .ref qa, .ref ea, .ref za, .ref ya, .int 0])), (ra, .inl (cI, 7, .inl (fun _ => 0)))]) hD hS hA [0, 2] rfl
  refine va_calll (va_runV (As := [.int (-1)]) (rest := []) ⟨hx, hb, hml, hown, hts⟩ (c_X5_noLong l D cI cL cZ cC _ g0 ra wa ta ma pa ba ka fa qa ea za ya (fun _ => 0) (-1) (by first | assumption | decide +kernel) (by first | assumption | decide +kernel)) (cwV 1 hts gX5_comes_X5_noLong rfl rfl rfl (by decide +kernel) ⟨Nat.le_of_ble_eq_true rfl, Nat.le_of_ble_eq_true rfl⟩) ⟨wPc_bl, va_recv hK hPc (ci := 5) (q0 := 0) rfl rfl, wPc_use hPc hK hDc⟩ rfl rfl hl.1 rfl (lv_room (Nat.le_of_ble_eq_true rfl)) dX5_comes_10 ⟨Nat.le_of_ble_eq_true rfl, Nat.le_of_ble_eq_true rfl⟩) hS (fun q _ h => hFc q h) hFc (fun r_3 u_3 t H1 locs ht hvm hw hB hz1 hk1 hS => ?_)
  obtain ⟨hP1, hD1⟩ := hB
  rw [ht] at hP1
  obtain ⟨hP, hD⟩ := va_join (wr := [(wa, .inl (cI, 70, .inl (upd (upd (upd (upd (upd (fun _ => 0) 0 1) 1 400) 2 80) 4 2) 5 30)))]) (w1 := [(g0, .inr (5, [.ref ra, .ref wa, .ref ta, .int 0, .ref ma, .int 0, .ref pa, .int 0, .int 0, .int 0, .ref ba, .ref ka, .int 0, .ref fa, .ref qa, .ref ea, .ref za, .ref ya, .int 0])), (ra, .inl (cI, 7, .inl (xRf (fun _ => 0) (-1))))]) hP hD [0, 2] [1] rfl rfl (by decide) (by decide) hk1 hFc hP1 hD1
  generalize H1 = H at hP hS ⊢
  have hP : va_P D vwCl [(wa, .inl (cI, 70, .inl (upd (upd (upd (upd (upd (fun _ => 0) 0 1) 1 400) 2 80) 4 2) 5 30))), (g0, .inr (5, [.ref ra, .ref wa, .ref ta, .int 0, .ref ma, .int 0, .ref pa, .int 0, .int 0, .int 0, .ref ba, .ref ka, .int 0, .ref fa, .ref qa, .ref ea, .ref za, .ref ya, .int 0])), (ra, .inl (cI, 7, .inl (xRf (fun _ => 0) (-1))))] H := hP
  have hD : va_D A [(wa, .inl (cI, 70, .inl (upd (upd (upd (upd (upd (fun _ => 0) 0 1) 1 400) 2 80) 4 2) 5 30))), (g0, .inr (5, [.ref ra, .ref wa, .ref ta, .int 0, .ref ma, .int 0, .ref pa, .int 0, .int 0, .int 0, .ref ba, .ref ka, .int 0, .ref fa, .ref qa, .ref ea, .ref za, .ref ya, .int 0])), (ra, .inl (cI, 7, .inl (xRf (fun _ => 0) (-1))))] := hD
  obtain rfl : (xLg (-1 : Int32) : Int64) = r_3 := Eq.symm hw
  have hP9 := hP.sub (ws' := []) [] rfl
  have hD9 := hD.sub (ws' := []) [] (by decide) rfl
  exact W.lret (v := xLg (-1 : Int32)) hx hb hr (fun t ht hW => ⟨⟨_, (), rfl, rfl, by rw [ht]; exact hP9, hD9⟩, hS.F ht⟩) hS.2.2 dX5_comes_13

set_option maxHeartbeats 4000000 in
set_option maxRecDepth 100000 in
theorem p1_X5_homeAt (l : Launch) (D : va_G) (cI cL cZ cC : ClassId) (sz : Nat) (g0 : Nat) (ra : Nat) (wa : Nat) (ta : Nat) (ma : Nat) (pa : Nat) (ba : Nat) (ka : Nat) (fa : Nat) (qa : Nat) (ea : Nat) (za : Nat) (ya : Nat) (a1 : Int32) (a2 : Int32) (a3 : Int32) (a4 : Int32)  : Met l yX5_homeAt wsX5_homeAt ({ frames := 1, cells := 0, slots := 0, locals := 21 } : Room) (wPc D [.ref g0, .int a1, .int a2, .int a3, .int a4] [(g0, .inr (5, [.ref ra, .ref wa, .ref ta, .int 0, .ref ma, .int 0, .ref pa, .int 0, .int 0, .int 0, .ref ba, .ref ka, .int 0, .ref fa, .ref qa, .ref ea, .ref za, .ref ya, .int 0])), (wa, .inl (cI, 70, .inl (upd (upd (upd (upd (upd (fun _ => 0) 0 1) 1 400) 2 80) 4 2) 5 30))), (ra, .inl (cI, 7, .inl (fun _ => 0)))] (xTy cI cL cZ cC) sz) (va_Qi (fun (r : Int32) (_ : Unit) => r = -1) (fun (_ : Unit) t => va_P D vwCl [] t.heap ∧ va_D (va_A [(g0, .inr (5, [.ref ra, .ref wa, .ref ta, .int 0, .ref ma, .int 0, .ref pa, .int 0, .int 0, .int 0, .ref ba, .ref ka, .int 0, .ref fa, .ref qa, .ref ea, .ref za, .ref ya, .int 0])), (wa, .inl (cI, 70, .inl (upd (upd (upd (upd (upd (fun _ => 0) 0 1) 1 400) 2 80) 4 2) 5 30))), (ra, .inl (cI, 7, .inl (fun _ => 0)))] sz) []) (va_A [(g0, .inr (5, [.ref ra, .ref wa, .ref ta, .int 0, .ref ma, .int 0, .ref pa, .int 0, .int 0, .int 0, .ref ba, .ref ka, .int 0, .ref fa, .ref qa, .ref ea, .ref za, .ref ya, .int 0])), (wa, .inl (cI, 70, .inl (upd (upd (upd (upd (upd (fun _ => 0) 0 1) 1 400) 2 80) 4 2) 5 30))), (ra, .inl (cI, 7, .inl (fun _ => 0)))] sz)) 0 0 (va_A [(g0, .inr (5, [.ref ra, .ref wa, .ref ta, .int 0, .ref ma, .int 0, .ref pa, .int 0, .int 0, .int 0, .ref ba, .ref ka, .int 0, .ref fa, .ref qa, .ref ea, .ref za, .ref ya, .int 0])), (wa, .inl (cI, 70, .inl (upd (upd (upd (upd (upd (fun _ => 0) 0 1) 1 400) 2 80) 4 2) 5 30))), (ra, .inl (cI, 7, .inl (fun _ => 0)))] sz) := by
  refine Met.ofW (cc := cX5_homeAt) (maxL := 5) (ret := (some .int)) (by decide) rfl ?_
  intro p e s m args below meth c s₁ B hml hv
  obtain ⟨rfl, hsz, hP, hK, hD0⟩ := hv
  have hx := B.exec
  have hb := B.bytes
  have hr := B.returns
  have hts := atoms_spec (ws := wsX5_homeAt) B.pre
  have hown : s.vm.findClass RX5 = some m.cls := findClass_of_methodNamed B.named
  have hlocks := B.notSynchronized
  subst hsz
  have hD := hD0.self (sz := s.heap.size)
  generalize hAe : va_A [(g0, .inr (5, [.ref ra, .ref wa, .ref ta, .int 0, .ref ma, .int 0, .ref pa, .int 0, .int 0, .int 0, .ref ba, .ref ka, .int 0, .ref fa, .ref qa, .ref ea, .ref za, .ref ya, .int 0])), (wa, .inl (cI, 70, .inl (upd (upd (upd (upd (upd (fun _ => 0) 0 1) 1 400) 2 80) 4 2) 5 30))), (ra, .inl (cI, 7, .inl (fun _ => 0)))] s.heap.size = A at hD ⊢
  have hA : ∀ q : Nat, s.heap.size ≤ q → A q := fun q h => by rw [← hAe]; exact Or.inr h
  have hS : va_S A s.heap s.heap [] := va_S.rf
  have hP : va_P D vwCl [(g0, .inr (5, [.ref ra, .ref wa, .ref ta, .int 0, .ref ma, .int 0, .ref pa, .int 0, .int 0, .int 0, .ref ba, .ref ka, .int 0, .ref fa, .ref qa, .ref ea, .ref za, .ref ya, .int 0])), (wa, .inl (cI, 70, .inl (upd (upd (upd (upd (upd (fun _ => 0) 0 1) 1 400) 2 80) 4 2) 5 30))), (ra, .inl (cI, 7, .inl (fun _ => 0)))] s.heap := hP
  have hl := lv_entry ([.ref g0, .int a1, .int a2, .int a3, .int a4]) (n := 5) (Nat.le_of_ble_eq_true rfl)
  rw [lg_entry_eq]
  generalize (lg_sl ([.ref g0, .int a1, .int a2, .int a3, .int a4]) ++ List.replicate (5 - (lg_sl ([.ref g0, .int a1, .int a2, .int a3, .int a4])).length) Slot.unset).toArray = ls at hl ⊢
  have hl : lv_has ls 5 [(0, .ref g0), (1, .int a1), (2, .int a2), (3, .int a3), (4, .int a4)] := hl
  refine lv_aload_n hx hb dX5_homeAt_0 rfl (lv_at hl 0 rfl) ?_
  refine lv_iload_n hx hb dX5_homeAt_1 rfl (lv_at hl 1 rfl) ?_
  have hPc := hP.sub (ws' := [(g0, .inr (5, [.ref ra, .ref wa, .ref ta, .int 0, .ref ma, .int 0, .ref pa, .int 0, .int 0, .int 0, .ref ba, .ref ka, .int 0, .ref fa, .ref qa, .ref ea, .ref za, .ref ya, .int 0])), (wa, .inl (cI, 70, .inl (upd (upd (upd (upd (upd (fun _ => 0) 0 1) 1 400) 2 80) 4 2) 5 30)))]) [0, 1] rfl
  refine vp_callSi (va_Run.run (va_runV (As := [.int a1]) (rest := []) ⟨hx, hb, hml, hown, hts⟩ (c_X5_isNoLine l D cI cL cZ cC g0 ra wa ta ma pa ba ka fa qa ea za ya a1 ) (cwV 1 hts gX5_homeAt_X5_isNoLine rfl rfl rfl (by decide +kernel) ⟨Nat.le_of_ble_eq_true rfl, Nat.le_of_ble_eq_true rfl⟩) ⟨xPc_bl, va_recv hK hPc (ci := 5) (q0 := 0) rfl rfl, xPc_use hPc hK⟩ rfl rfl hl.1 rfl (lv_room (Nat.le_of_ble_eq_true rfl)) dX5_homeAt_2 ⟨Nat.le_of_ble_eq_true rfl, Nat.le_of_ble_eq_true rfl⟩)) (fun r_1 er_1 => ?_)
  obtain rfl : (1 : Int32) = r_1 := Eq.symm er_1
  refine lv_if_eq (tgt := 14) hx hb dX5_homeAt_5 (by decide) (fun c_2 => absurd c_2 (by decide +kernel)) (fun c_2 => ?_)
  refine lv_aload_n hx hb dX5_homeAt_8 rfl (lv_at hl 0 rfl) ?_
  refine lv_iconst (v := -1) hx hb dX5_homeAt_9 (by decide) ?_
  have hPc := hP.sub (ws' := [(g0, .inr (5, [.ref ra, .ref wa, .ref ta, .int 0, .ref ma, .int 0, .ref pa, .int 0, .int 0, .int 0, .ref ba, .ref ka, .int 0, .ref fa, .ref qa, .ref ea, .ref za, .ref ya, .int 0])), (ra, .inl (cI, 7, .inl (fun _ => 0)))]) [0, 2] rfl
  have hDc := hD.sub (ws' := [(g0, .inr (5, [.ref ra, .ref wa, .ref ta, .int 0, .ref ma, .int 0, .ref pa, .int 0, .int 0, .int 0, .ref ba, .ref ka, .int 0, .ref fa, .ref qa, .ref ea, .ref za, .ref ya, .int 0])), (ra, .inl (cI, 7, .inl (fun _ => 0)))]) [0, 2] (by decide) rfl
  have hFc := va_free (wc := [(g0, .inr (5, [.ref ra, .ref wa, .ref ta, .int 0, .ref ma, .int 0, .ref pa, .int 0, .int 0, .int 0, .ref ba, .ref ka, .int 0, .ref fa, .ref qa, .ref ea, .ref za, .ref ya, .int 0])), (ra, .inl (cI, 7, .inl (fun _ => 0)))]) hD hS hA [0, 2] rfl
  refine va_calli (va_runV (As := [.int (-1)]) (rest := []) ⟨hx, hb, hml, hown, hts⟩ (c_X5_no l D cI cL cZ cC _ g0 ra wa ta ma pa ba ka fa qa ea za ya (fun _ => 0) (-1) (by first | assumption | decide +kernel) (by first | assumption | decide +kernel)) (cwV 1 hts gX5_homeAt_X5_no rfl rfl rfl (by decide +kernel) ⟨Nat.le_of_ble_eq_true rfl, Nat.le_of_ble_eq_true rfl⟩) ⟨wPc_bl, va_recv hK hPc (ci := 5) (q0 := 0) rfl rfl, wPc_use hPc hK hDc⟩ rfl rfl hl.1 rfl (lv_room (Nat.le_of_ble_eq_true rfl)) dX5_homeAt_10 ⟨Nat.le_of_ble_eq_true rfl, Nat.le_of_ble_eq_true rfl⟩) hS (fun q _ h => hFc q h) hFc (fun r_3 u_3 t H1 locs ht hvm hw hB hz1 hk1 hS => ?_)
  obtain ⟨hP1, hD1⟩ := hB
  rw [ht] at hP1
  obtain ⟨hP, hD⟩ := va_join (wr := [(wa, .inl (cI, 70, .inl (upd (upd (upd (upd (upd (fun _ => 0) 0 1) 1 400) 2 80) 4 2) 5 30)))]) (w1 := [(g0, .inr (5, [.ref ra, .ref wa, .ref ta, .int 0, .ref ma, .int 0, .ref pa, .int 0, .int 0, .int 0, .ref ba, .ref ka, .int 0, .ref fa, .ref qa, .ref ea, .ref za, .ref ya, .int 0])), (ra, .inl (cI, 7, .inl (xRf (fun _ => 0) (-1))))]) hP hD [0, 2] [1] rfl rfl (by decide) (by decide) hk1 hFc hP1 hD1
  generalize H1 = H at hP hS ⊢
  have hP : va_P D vwCl [(wa, .inl (cI, 70, .inl (upd (upd (upd (upd (upd (fun _ => 0) 0 1) 1 400) 2 80) 4 2) 5 30))), (g0, .inr (5, [.ref ra, .ref wa, .ref ta, .int 0, .ref ma, .int 0, .ref pa, .int 0, .int 0, .int 0, .ref ba, .ref ka, .int 0, .ref fa, .ref qa, .ref ea, .ref za, .ref ya, .int 0])), (ra, .inl (cI, 7, .inl (xRf (fun _ => 0) (-1))))] H := hP
  have hD : va_D A [(wa, .inl (cI, 70, .inl (upd (upd (upd (upd (upd (fun _ => 0) 0 1) 1 400) 2 80) 4 2) 5 30))), (g0, .inr (5, [.ref ra, .ref wa, .ref ta, .int 0, .ref ma, .int 0, .ref pa, .int 0, .int 0, .int 0, .ref ba, .ref ka, .int 0, .ref fa, .ref qa, .ref ea, .ref za, .ref ya, .int 0])), (ra, .inl (cI, 7, .inl (xRf (fun _ => 0) (-1))))] := hD
  obtain rfl : ((-1) : Int32) = r_3 := Eq.symm hw
  have hP9 := hP.sub (ws' := []) [] rfl
  have hD9 := hD.sub (ws' := []) [] (by decide) rfl
  exact W.iret (v := -1) hx hb hr (fun t ht hW => ⟨⟨_, (), rfl, rfl, by rw [ht]; exact hP9, hD9⟩, hS.F ht⟩) hS.2.2 dX5_homeAt_13

set_option maxHeartbeats 4000000 in
set_option maxRecDepth 100000 in
theorem p1_X5_mean (l : Launch) (D : va_G) (cI cL cZ cC : ClassId) (sz : Nat) (g0 : Nat) (ra : Nat) (wa : Nat) (ta : Nat) (ma : Nat) (pa : Nat) (ba : Nat) (ka : Nat) (fa : Nat) (qa : Nat) (ea : Nat) (za : Nat) (ya : Nat) (a1 : Int32) (a2 : Int32) (a3 : Int32) (a4 : Int32)  : Met l yX5_mean wsX5_mean ({ frames := 2, cells := 0, slots := 0, locals := 42 } : Room) (wPc D [.ref g0, .int a1, .int a2, .int a3, .int a4] [(g0, .inr (5, [.ref ra, .ref wa, .ref ta, .int 0, .ref ma, .int 0, .ref pa, .int 0, .int 0, .int 0, .ref ba, .ref ka, .int 0, .ref fa, .ref qa, .ref ea, .ref za, .ref ya, .int 0])), (wa, .inl (cI, 70, .inl (upd (upd (upd (upd (upd (fun _ => 0) 0 1) 1 400) 2 80) 4 2) 5 30))), (ra, .inl (cI, 7, .inl (fun _ => 0)))] (xTy cI cL cZ cC) sz) (va_Ql (fun (r : Int64) (_ : Unit) => r = xLg (-1)) (fun (_ : Unit) t => va_P D vwCl [] t.heap ∧ va_D (va_A [(g0, .inr (5, [.ref ra, .ref wa, .ref ta, .int 0, .ref ma, .int 0, .ref pa, .int 0, .int 0, .int 0, .ref ba, .ref ka, .int 0, .ref fa, .ref qa, .ref ea, .ref za, .ref ya, .int 0])), (wa, .inl (cI, 70, .inl (upd (upd (upd (upd (upd (fun _ => 0) 0 1) 1 400) 2 80) 4 2) 5 30))), (ra, .inl (cI, 7, .inl (fun _ => 0)))] sz) []) (va_A [(g0, .inr (5, [.ref ra, .ref wa, .ref ta, .int 0, .ref ma, .int 0, .ref pa, .int 0, .int 0, .int 0, .ref ba, .ref ka, .int 0, .ref fa, .ref qa, .ref ea, .ref za, .ref ya, .int 0])), (wa, .inl (cI, 70, .inl (upd (upd (upd (upd (upd (fun _ => 0) 0 1) 1 400) 2 80) 4 2) 5 30))), (ra, .inl (cI, 7, .inl (fun _ => 0)))] sz)) 0 0 (va_A [(g0, .inr (5, [.ref ra, .ref wa, .ref ta, .int 0, .ref ma, .int 0, .ref pa, .int 0, .int 0, .int 0, .ref ba, .ref ka, .int 0, .ref fa, .ref qa, .ref ea, .ref za, .ref ya, .int 0])), (wa, .inl (cI, 70, .inl (upd (upd (upd (upd (upd (fun _ => 0) 0 1) 1 400) 2 80) 4 2) 5 30))), (ra, .inl (cI, 7, .inl (fun _ => 0)))] sz) := by
  refine Met.ofW (cc := cX5_mean) (maxL := 5) (ret := (some .long)) (by decide) rfl ?_
  intro p e s m args below meth c s₁ B hml hv
  obtain ⟨rfl, hsz, hP, hK, hD0⟩ := hv
  have hx := B.exec
  have hb := B.bytes
  have hr := B.returns
  have hts := atoms_spec (ws := wsX5_mean) B.pre
  have hown : s.vm.findClass RX5 = some m.cls := findClass_of_methodNamed B.named
  have hlocks := B.notSynchronized
  subst hsz
  have hD := hD0.self (sz := s.heap.size)
  generalize hAe : va_A [(g0, .inr (5, [.ref ra, .ref wa, .ref ta, .int 0, .ref ma, .int 0, .ref pa, .int 0, .int 0, .int 0, .ref ba, .ref ka, .int 0, .ref fa, .ref qa, .ref ea, .ref za, .ref ya, .int 0])), (wa, .inl (cI, 70, .inl (upd (upd (upd (upd (upd (fun _ => 0) 0 1) 1 400) 2 80) 4 2) 5 30))), (ra, .inl (cI, 7, .inl (fun _ => 0)))] s.heap.size = A at hD ⊢
  have hA : ∀ q : Nat, s.heap.size ≤ q → A q := fun q h => by rw [← hAe]; exact Or.inr h
  have hS : va_S A s.heap s.heap [] := va_S.rf
  have hP : va_P D vwCl [(g0, .inr (5, [.ref ra, .ref wa, .ref ta, .int 0, .ref ma, .int 0, .ref pa, .int 0, .int 0, .int 0, .ref ba, .ref ka, .int 0, .ref fa, .ref qa, .ref ea, .ref za, .ref ya, .int 0])), (wa, .inl (cI, 70, .inl (upd (upd (upd (upd (upd (fun _ => 0) 0 1) 1 400) 2 80) 4 2) 5 30))), (ra, .inl (cI, 7, .inl (fun _ => 0)))] s.heap := hP
  have hl := lv_entry ([.ref g0, .int a1, .int a2, .int a3, .int a4]) (n := 5) (Nat.le_of_ble_eq_true rfl)
  rw [lg_entry_eq]
  generalize (lg_sl ([.ref g0, .int a1, .int a2, .int a3, .int a4]) ++ List.replicate (5 - (lg_sl ([.ref g0, .int a1, .int a2, .int a3, .int a4])).length) Slot.unset).toArray = ls at hl ⊢
  have hl : lv_has ls 5 [(0, .ref g0), (1, .int a1), (2, .int a2), (3, .int a3), (4, .int a4)] := hl
  refine lv_aload_n hx hb dX5_mean_0 rfl (lv_at hl 0 rfl) ?_
  refine lv_iload_n hx hb dX5_mean_1 rfl (lv_at hl 1 rfl) ?_
  have hPc := hP.sub (ws' := [(g0, .inr (5, [.ref ra, .ref wa, .ref ta, .int 0, .ref ma, .int 0, .ref pa, .int 0, .int 0, .int 0, .ref ba, .ref ka, .int 0, .ref fa, .ref qa, .ref ea, .ref za, .ref ya, .int 0])), (wa, .inl (cI, 70, .inl (upd (upd (upd (upd (upd (fun _ => 0) 0 1) 1 400) 2 80) 4 2) 5 30)))]) [0, 1] rfl
  refine vp_callSi (va_Run.run (va_runV (As := [.int a1]) (rest := []) ⟨hx, hb, hml, hown, hts⟩ (c_X5_isNoLine l D cI cL cZ cC g0 ra wa ta ma pa ba ka fa qa ea za ya a1 ) (cwV 1 hts gX5_mean_X5_isNoLine rfl rfl rfl (by decide +kernel) ⟨Nat.le_of_ble_eq_true rfl, Nat.le_of_ble_eq_true rfl⟩) ⟨xPc_bl, va_recv hK hPc (ci := 5) (q0 := 0) rfl rfl, xPc_use hPc hK⟩ rfl rfl hl.1 rfl (lv_room (Nat.le_of_ble_eq_true rfl)) dX5_mean_2 ⟨Nat.le_of_ble_eq_true rfl, Nat.le_of_ble_eq_true rfl⟩)) (fun r_1 er_1 => ?_)
  obtain rfl : (1 : Int32) = r_1 := Eq.symm er_1
  refine lv_if_eq (tgt := 14) hx hb dX5_mean_5 (by decide) (fun c_2 => absurd c_2 (by decide +kernel)) (fun c_2 => ?_)
  refine lv_aload_n hx hb dX5_mean_8 rfl (lv_at hl 0 rfl) ?_
  refine lv_iconst (v := -1) hx hb dX5_mean_9 (by decide) ?_
  have hPc := hP.sub (ws' := [(g0, .inr (5, [.ref ra, .ref wa, .ref ta, .int 0, .ref ma, .int 0, .ref pa, .int 0, .int 0, .int 0, .ref ba, .ref ka, .int 0, .ref fa, .ref qa, .ref ea, .ref za, .ref ya, .int 0])), (ra, .inl (cI, 7, .inl (fun _ => 0)))]) [0, 2] rfl
  have hDc := hD.sub (ws' := [(g0, .inr (5, [.ref ra, .ref wa, .ref ta, .int 0, .ref ma, .int 0, .ref pa, .int 0, .int 0, .int 0, .ref ba, .ref ka, .int 0, .ref fa, .ref qa, .ref ea, .ref za, .ref ya, .int 0])), (ra, .inl (cI, 7, .inl (fun _ => 0)))]) [0, 2] (by decide) rfl
  have hFc := va_free (wc := [(g0, .inr (5, [.ref ra, .ref wa, .ref ta, .int 0, .ref ma, .int 0, .ref pa, .int 0, .int 0, .int 0, .ref ba, .ref ka, .int 0, .ref fa, .ref qa, .ref ea, .ref za, .ref ya, .int 0])), (ra, .inl (cI, 7, .inl (fun _ => 0)))]) hD hS hA [0, 2] rfl
  refine va_calll (va_runV (As := [.int (-1)]) (rest := []) ⟨hx, hb, hml, hown, hts⟩ (c_X5_noLong l D cI cL cZ cC _ g0 ra wa ta ma pa ba ka fa qa ea za ya (fun _ => 0) (-1) (by first | assumption | decide +kernel) (by first | assumption | decide +kernel)) (cwV 1 hts gX5_mean_X5_noLong rfl rfl rfl (by decide +kernel) ⟨Nat.le_of_ble_eq_true rfl, Nat.le_of_ble_eq_true rfl⟩) ⟨wPc_bl, va_recv hK hPc (ci := 5) (q0 := 0) rfl rfl, wPc_use hPc hK hDc⟩ rfl rfl hl.1 rfl (lv_room (Nat.le_of_ble_eq_true rfl)) dX5_mean_10 ⟨Nat.le_of_ble_eq_true rfl, Nat.le_of_ble_eq_true rfl⟩) hS (fun q _ h => hFc q h) hFc (fun r_3 u_3 t H1 locs ht hvm hw hB hz1 hk1 hS => ?_)
  obtain ⟨hP1, hD1⟩ := hB
  rw [ht] at hP1
  obtain ⟨hP, hD⟩ := va_join (wr := [(wa, .inl (cI, 70, .inl (upd (upd (upd (upd (upd (fun _ => 0) 0 1) 1 400) 2 80) 4 2) 5 30)))]) (w1 := [(g0, .inr (5, [.ref ra, .ref wa, .ref ta, .int 0, .ref ma, .int 0, .ref pa, .int 0, .int 0, .int 0, .ref ba, .ref ka, .int 0, .ref fa, .ref qa, .ref ea, .ref za, .ref ya, .int 0])), (ra, .inl (cI, 7, .inl (xRf (fun _ => 0) (-1))))]) hP hD [0, 2] [1] rfl rfl (by decide) (by decide) hk1 hFc hP1 hD1
  generalize H1 = H at hP hS ⊢
  have hP : va_P D vwCl [(wa, .inl (cI, 70, .inl (upd (upd (upd (upd (upd (fun _ => 0) 0 1) 1 400) 2 80) 4 2) 5 30))), (g0, .inr (5, [.ref ra, .ref wa, .ref ta, .int 0, .ref ma, .int 0, .ref pa, .int 0, .int 0, .int 0, .ref ba, .ref ka, .int 0, .ref fa, .ref qa, .ref ea, .ref za, .ref ya, .int 0])), (ra, .inl (cI, 7, .inl (xRf (fun _ => 0) (-1))))] H := hP
  have hD : va_D A [(wa, .inl (cI, 70, .inl (upd (upd (upd (upd (upd (fun _ => 0) 0 1) 1 400) 2 80) 4 2) 5 30))), (g0, .inr (5, [.ref ra, .ref wa, .ref ta, .int 0, .ref ma, .int 0, .ref pa, .int 0, .int 0, .int 0, .ref ba, .ref ka, .int 0, .ref fa, .ref qa, .ref ea, .ref za, .ref ya, .int 0])), (ra, .inl (cI, 7, .inl (xRf (fun _ => 0) (-1))))] := hD
  obtain rfl : (xLg (-1 : Int32) : Int64) = r_3 := Eq.symm hw
  have hP9 := hP.sub (ws' := []) [] rfl
  have hD9 := hD.sub (ws' := []) [] (by decide) rfl
  exact W.lret (v := xLg (-1 : Int32)) hx hb hr (fun t ht hW => ⟨⟨_, (), rfl, rfl, by rw [ht]; exact hP9, hD9⟩, hS.F ht⟩) hS.2.2 dX5_mean_13

set_option maxHeartbeats 4000000 in
set_option maxRecDepth 100000 in
theorem p1_X5_sooner (l : Launch) (D : va_G) (cI cL cZ cC : ClassId) (sz : Nat) (g0 : Nat) (ra : Nat) (wa : Nat) (ta : Nat) (ma : Nat) (pa : Nat) (ba : Nat) (ka : Nat) (fa : Nat) (qa : Nat) (ea : Nat) (za : Nat) (ya : Nat) (a1 : Int32) (a2 : Int32) (a3 : Int32) (a4 : Int32) (a5 : Int32)  : Met l yX5_sooner wsX5_sooner ({ frames := 2, cells := 0, slots := 0, locals := 42 } : Room) (wPc D [.ref g0, .int a1, .int a2, .int a3, .int a4, .int a5] [(g0, .inr (5, [.ref ra, .ref wa, .ref ta, .int 0, .ref ma, .int 0, .ref pa, .int 0, .int 0, .int 0, .ref ba, .ref ka, .int 0, .ref fa, .ref qa, .ref ea, .ref za, .ref ya, .int 0])), (wa, .inl (cI, 70, .inl (upd (upd (upd (upd (upd (fun _ => 0) 0 1) 1 400) 2 80) 4 2) 5 30))), (ra, .inl (cI, 7, .inl (fun _ => 0)))] (xTy cI cL cZ cC) sz) (va_Ql (fun (r : Int64) (_ : Unit) => r = xLg (-1)) (fun (_ : Unit) t => va_P D vwCl [] t.heap ∧ va_D (va_A [(g0, .inr (5, [.ref ra, .ref wa, .ref ta, .int 0, .ref ma, .int 0, .ref pa, .int 0, .int 0, .int 0, .ref ba, .ref ka, .int 0, .ref fa, .ref qa, .ref ea, .ref za, .ref ya, .int 0])), (wa, .inl (cI, 70, .inl (upd (upd (upd (upd (upd (fun _ => 0) 0 1) 1 400) 2 80) 4 2) 5 30))), (ra, .inl (cI, 7, .inl (fun _ => 0)))] sz) []) (va_A [(g0, .inr (5, [.ref ra, .ref wa, .ref ta, .int 0, .ref ma, .int 0, .ref pa, .int 0, .int 0, .int 0, .ref ba, .ref ka, .int 0, .ref fa, .ref qa, .ref ea, .ref za, .ref ya, .int 0])), (wa, .inl (cI, 70, .inl (upd (upd (upd (upd (upd (fun _ => 0) 0 1) 1 400) 2 80) 4 2) 5 30))), (ra, .inl (cI, 7, .inl (fun _ => 0)))] sz)) 0 0 (va_A [(g0, .inr (5, [.ref ra, .ref wa, .ref ta, .int 0, .ref ma, .int 0, .ref pa, .int 0, .int 0, .int 0, .ref ba, .ref ka, .int 0, .ref fa, .ref qa, .ref ea, .ref za, .ref ya, .int 0])), (wa, .inl (cI, 70, .inl (upd (upd (upd (upd (upd (fun _ => 0) 0 1) 1 400) 2 80) 4 2) 5 30))), (ra, .inl (cI, 7, .inl (fun _ => 0)))] sz) := by
  refine Met.ofW (cc := cX5_sooner) (maxL := 8) (ret := (some .long)) (by decide) rfl ?_
  intro p e s m args below meth c s₁ B hml hv
  obtain ⟨rfl, hsz, hP, hK, hD0⟩ := hv
  have hx := B.exec
  have hb := B.bytes
  have hr := B.returns
  have hts := atoms_spec (ws := wsX5_sooner) B.pre
  have hown : s.vm.findClass RX5 = some m.cls := findClass_of_methodNamed B.named
  have hlocks := B.notSynchronized
  subst hsz
  have hD := hD0.self (sz := s.heap.size)
  generalize hAe : va_A [(g0, .inr (5, [.ref ra, .ref wa, .ref ta, .int 0, .ref ma, .int 0, .ref pa, .int 0, .int 0, .int 0, .ref ba, .ref ka, .int 0, .ref fa, .ref qa, .ref ea, .ref za, .ref ya, .int 0])), (wa, .inl (cI, 70, .inl (upd (upd (upd (upd (upd (fun _ => 0) 0 1) 1 400) 2 80) 4 2) 5 30))), (ra, .inl (cI, 7, .inl (fun _ => 0)))] s.heap.size = A at hD ⊢
  have hA : ∀ q : Nat, s.heap.size ≤ q → A q := fun q h => by rw [← hAe]; exact Or.inr h
  have hS : va_S A s.heap s.heap [] := va_S.rf
  have hP : va_P D vwCl [(g0, .inr (5, [.ref ra, .ref wa, .ref ta, .int 0, .ref ma, .int 0, .ref pa, .int 0, .int 0, .int 0, .ref ba, .ref ka, .int 0, .ref fa, .ref qa, .ref ea, .ref za, .ref ya, .int 0])), (wa, .inl (cI, 70, .inl (upd (upd (upd (upd (upd (fun _ => 0) 0 1) 1 400) 2 80) 4 2) 5 30))), (ra, .inl (cI, 7, .inl (fun _ => 0)))] s.heap := hP
  have hl := lv_entry ([.ref g0, .int a1, .int a2, .int a3, .int a4, .int a5]) (n := 8) (Nat.le_of_ble_eq_true rfl)
  rw [lg_entry_eq]
  generalize (lg_sl ([.ref g0, .int a1, .int a2, .int a3, .int a4, .int a5]) ++ List.replicate (8 - (lg_sl ([.ref g0, .int a1, .int a2, .int a3, .int a4, .int a5])).length) Slot.unset).toArray = ls at hl ⊢
  have hl : lv_has ls 8 [(0, .ref g0), (1, .int a1), (2, .int a2), (3, .int a3), (4, .int a4), (5, .int a5)] := hl
  refine lv_aload_n hx hb dX5_sooner_0 rfl (lv_at hl 0 rfl) ?_
  refine lv_iload_n hx hb dX5_sooner_1 rfl (lv_at hl 1 rfl) ?_
  have hPc := hP.sub (ws' := [(g0, .inr (5, [.ref ra, .ref wa, .ref ta, .int 0, .ref ma, .int 0, .ref pa, .int 0, .int 0, .int 0, .ref ba, .ref ka, .int 0, .ref fa, .ref qa, .ref ea, .ref za, .ref ya, .int 0])), (wa, .inl (cI, 70, .inl (upd (upd (upd (upd (upd (fun _ => 0) 0 1) 1 400) 2 80) 4 2) 5 30)))]) [0, 1] rfl
  refine vp_callSi (va_Run.run (va_runV (As := [.int a1]) (rest := []) ⟨hx, hb, hml, hown, hts⟩ (c_X5_isNoLine l D cI cL cZ cC g0 ra wa ta ma pa ba ka fa qa ea za ya a1 ) (cwV 1 hts gX5_sooner_X5_isNoLine rfl rfl rfl (by decide +kernel) ⟨Nat.le_of_ble_eq_true rfl, Nat.le_of_ble_eq_true rfl⟩) ⟨xPc_bl, va_recv hK hPc (ci := 5) (q0 := 0) rfl rfl, xPc_use hPc hK⟩ rfl rfl hl.1 rfl (lv_room (Nat.le_of_ble_eq_true rfl)) dX5_sooner_2 ⟨Nat.le_of_ble_eq_true rfl, Nat.le_of_ble_eq_true rfl⟩)) (fun r_1 er_1 => ?_)
  obtain rfl : (1 : Int32) = r_1 := Eq.symm er_1
  refine lv_if_eq (tgt := 14) hx hb dX5_sooner_5 (by decide) (fun c_2 => absurd c_2 (by decide +kernel)) (fun c_2 => ?_)
  refine lv_aload_n hx hb dX5_sooner_8 rfl (lv_at hl 0 rfl) ?_
  refine lv_iconst (v := -1) hx hb dX5_sooner_9 (by decide) ?_
  have hPc := hP.sub (ws' := [(g0, .inr (5, [.ref ra, .ref wa, .ref ta, .int 0, .ref ma, .int 0, .ref pa, .int 0, .int 0, .int 0, .ref ba, .ref ka, .int 0, .ref fa, .ref qa, .ref ea, .ref za, .ref ya, .int 0])), (ra, .inl (cI, 7, .inl (fun _ => 0)))]) [0, 2] rfl
  have hDc := hD.sub (ws' := [(g0, .inr (5, [.ref ra, .ref wa, .ref ta, .int 0, .ref ma, .int 0, .ref pa, .int 0, .int 0, .int 0, .ref ba, .ref ka, .int 0, .ref fa, .ref qa, .ref ea, .ref za, .ref ya, .int 0])), (ra, .inl (cI, 7, .inl (fun _ => 0)))]) [0, 2] (by decide) rfl
  have hFc := va_free (wc := [(g0, .inr (5, [.ref ra, .ref wa, .ref ta, .int 0, .ref ma, .int 0, .ref pa, .int 0, .int 0, .int 0, .ref ba, .ref ka, .int 0, .ref fa, .ref qa, .ref ea, .ref za, .ref ya, .int 0])), (ra, .inl (cI, 7, .inl (fun _ => 0)))]) hD hS hA [0, 2] rfl
  refine va_calll (va_runV (As := [.int (-1)]) (rest := []) ⟨hx, hb, hml, hown, hts⟩ (c_X5_noLong l D cI cL cZ cC _ g0 ra wa ta ma pa ba ka fa qa ea za ya (fun _ => 0) (-1) (by first | assumption | decide +kernel) (by first | assumption | decide +kernel)) (cwV 1 hts gX5_sooner_X5_noLong rfl rfl rfl (by decide +kernel) ⟨Nat.le_of_ble_eq_true rfl, Nat.le_of_ble_eq_true rfl⟩) ⟨wPc_bl, va_recv hK hPc (ci := 5) (q0 := 0) rfl rfl, wPc_use hPc hK hDc⟩ rfl rfl hl.1 rfl (lv_room (Nat.le_of_ble_eq_true rfl)) dX5_sooner_10 ⟨Nat.le_of_ble_eq_true rfl, Nat.le_of_ble_eq_true rfl⟩) hS (fun q _ h => hFc q h) hFc (fun r_3 u_3 t H1 locs ht hvm hw hB hz1 hk1 hS => ?_)
  obtain ⟨hP1, hD1⟩ := hB
  rw [ht] at hP1
  obtain ⟨hP, hD⟩ := va_join (wr := [(wa, .inl (cI, 70, .inl (upd (upd (upd (upd (upd (fun _ => 0) 0 1) 1 400) 2 80) 4 2) 5 30)))]) (w1 := [(g0, .inr (5, [.ref ra, .ref wa, .ref ta, .int 0, .ref ma, .int 0, .ref pa, .int 0, .int 0, .int 0, .ref ba, .ref ka, .int 0, .ref fa, .ref qa, .ref ea, .ref za, .ref ya, .int 0])), (ra, .inl (cI, 7, .inl (xRf (fun _ => 0) (-1))))]) hP hD [0, 2] [1] rfl rfl (by decide) (by decide) hk1 hFc hP1 hD1
  generalize H1 = H at hP hS ⊢
  have hP : va_P D vwCl [(wa, .inl (cI, 70, .inl (upd (upd (upd (upd (upd (fun _ => 0) 0 1) 1 400) 2 80) 4 2) 5 30))), (g0, .inr (5, [.ref ra, .ref wa, .ref ta, .int 0, .ref ma, .int 0, .ref pa, .int 0, .int 0, .int 0, .ref ba, .ref ka, .int 0, .ref fa, .ref qa, .ref ea, .ref za, .ref ya, .int 0])), (ra, .inl (cI, 7, .inl (xRf (fun _ => 0) (-1))))] H := hP
  have hD : va_D A [(wa, .inl (cI, 70, .inl (upd (upd (upd (upd (upd (fun _ => 0) 0 1) 1 400) 2 80) 4 2) 5 30))), (g0, .inr (5, [.ref ra, .ref wa, .ref ta, .int 0, .ref ma, .int 0, .ref pa, .int 0, .int 0, .int 0, .ref ba, .ref ka, .int 0, .ref fa, .ref qa, .ref ea, .ref za, .ref ya, .int 0])), (ra, .inl (cI, 7, .inl (xRf (fun _ => 0) (-1))))] := hD
  obtain rfl : (xLg (-1 : Int32) : Int64) = r_3 := Eq.symm hw
  have hP9 := hP.sub (ws' := []) [] rfl
  have hD9 := hD.sub (ws' := []) [] (by decide) rfl
  exact W.lret (v := xLg (-1 : Int32)) hx hb hr (fun t ht hW => ⟨⟨_, (), rfl, rfl, by rw [ht]; exact hP9, hD9⟩, hS.F ht⟩) hS.2.2 dX5_sooner_13

set_option maxHeartbeats 4000000 in
set_option maxRecDepth 100000 in
theorem p1_X5_best (l : Launch) (D : va_G) (cI cL cZ cC : ClassId) (sz : Nat) (g0 : Nat) (ra : Nat) (wa : Nat) (ta : Nat) (ma : Nat) (pa : Nat) (ba : Nat) (ka : Nat) (fa : Nat) (qa : Nat) (ea : Nat) (za : Nat) (ya : Nat) (a1 : Int32) (a2 : Int32) (a3 : Int32)  : Met l yX5_best wsX5_best ({ frames := 1, cells := 0, slots := 0, locals := 21 } : Room) (wPc D [.ref g0, .int a1, .int a2, .int a3] [(g0, .inr (5, [.ref ra, .ref wa, .ref ta, .int 0, .ref ma, .int 0, .ref pa, .int 0, .int 0, .int 0, .ref ba, .ref ka, .int 0, .ref fa, .ref qa, .ref ea, .ref za, .ref ya, .int 0])), (wa, .inl (cI, 70, .inl (upd (upd (upd (upd (upd (fun _ => 0) 0 1) 1 400) 2 80) 4 2) 5 30))), (ra, .inl (cI, 7, .inl (fun _ => 0)))] (xTy cI cL cZ cC) sz) (va_Qi (fun (r : Int32) (_ : Unit) => r = -1) (fun (_ : Unit) t => va_P D vwCl [] t.heap ∧ va_D (va_A [(g0, .inr (5, [.ref ra, .ref wa, .ref ta, .int 0, .ref ma, .int 0, .ref pa, .int 0, .int 0, .int 0, .ref ba, .ref ka, .int 0, .ref fa, .ref qa, .ref ea, .ref za, .ref ya, .int 0])), (wa, .inl (cI, 70, .inl (upd (upd (upd (upd (upd (fun _ => 0) 0 1) 1 400) 2 80) 4 2) 5 30))), (ra, .inl (cI, 7, .inl (fun _ => 0)))] sz) []) (va_A [(g0, .inr (5, [.ref ra, .ref wa, .ref ta, .int 0, .ref ma, .int 0, .ref pa, .int 0, .int 0, .int 0, .ref ba, .ref ka, .int 0, .ref fa, .ref qa, .ref ea, .ref za, .ref ya, .int 0])), (wa, .inl (cI, 70, .inl (upd (upd (upd (upd (upd (fun _ => 0) 0 1) 1 400) 2 80) 4 2) 5 30))), (ra, .inl (cI, 7, .inl (fun _ => 0)))] sz)) 0 0 (va_A [(g0, .inr (5, [.ref ra, .ref wa, .ref ta, .int 0, .ref ma, .int 0, .ref pa, .int 0, .int 0, .int 0, .ref ba, .ref ka, .int 0, .ref fa, .ref qa, .ref ea, .ref za, .ref ya, .int 0])), (wa, .inl (cI, 70, .inl (upd (upd (upd (upd (upd (fun _ => 0) 0 1) 1 400) 2 80) 4 2) 5 30))), (ra, .inl (cI, 7, .inl (fun _ => 0)))] sz) := by
  refine Met.ofW (cc := cX5_best) (maxL := 5) (ret := (some .int)) (by decide) rfl ?_
  intro p e s m args below meth c s₁ B hml hv
  obtain ⟨rfl, hsz, hP, hK, hD0⟩ := hv
  have hx := B.exec
  have hb := B.bytes
  have hr := B.returns
  have hts := atoms_spec (ws := wsX5_best) B.pre
  have hown : s.vm.findClass RX5 = some m.cls := findClass_of_methodNamed B.named
  have hlocks := B.notSynchronized
  subst hsz
  have hD := hD0.self (sz := s.heap.size)
  generalize hAe : va_A [(g0, .inr (5, [.ref ra, .ref wa, .ref ta, .int 0, .ref ma, .int 0, .ref pa, .int 0, .int 0, .int 0, .ref ba, .ref ka, .int 0, .ref fa, .ref qa, .ref ea, .ref za, .ref ya, .int 0])), (wa, .inl (cI, 70, .inl (upd (upd (upd (upd (upd (fun _ => 0) 0 1) 1 400) 2 80) 4 2) 5 30))), (ra, .inl (cI, 7, .inl (fun _ => 0)))] s.heap.size = A at hD ⊢
  have hA : ∀ q : Nat, s.heap.size ≤ q → A q := fun q h => by rw [← hAe]; exact Or.inr h
  have hS : va_S A s.heap s.heap [] := va_S.rf
  have hP : va_P D vwCl [(g0, .inr (5, [.ref ra, .ref wa, .ref ta, .int 0, .ref ma, .int 0, .ref pa, .int 0, .int 0, .int 0, .ref ba, .ref ka, .int 0, .ref fa, .ref qa, .ref ea, .ref za, .ref ya, .int 0])), (wa, .inl (cI, 70, .inl (upd (upd (upd (upd (upd (fun _ => 0) 0 1) 1 400) 2 80) 4 2) 5 30))), (ra, .inl (cI, 7, .inl (fun _ => 0)))] s.heap := hP
  have hl := lv_entry ([.ref g0, .int a1, .int a2, .int a3]) (n := 5) (Nat.le_of_ble_eq_true rfl)
  rw [lg_entry_eq]
  generalize (lg_sl ([.ref g0, .int a1, .int a2, .int a3]) ++ List.replicate (5 - (lg_sl ([.ref g0, .int a1, .int a2, .int a3])).length) Slot.unset).toArray = ls at hl ⊢
  have hl : lv_has ls 5 [(0, .ref g0), (1, .int a1), (2, .int a2), (3, .int a3)] := hl
  refine lv_aload_n hx hb dX5_best_0 rfl (lv_at hl 0 rfl) ?_
  refine lv_iload_n hx hb dX5_best_1 rfl (lv_at hl 1 rfl) ?_
  have hPc := hP.sub (ws' := [(g0, .inr (5, [.ref ra, .ref wa, .ref ta, .int 0, .ref ma, .int 0, .ref pa, .int 0, .int 0, .int 0, .ref ba, .ref ka, .int 0, .ref fa, .ref qa, .ref ea, .ref za, .ref ya, .int 0])), (wa, .inl (cI, 70, .inl (upd (upd (upd (upd (upd (fun _ => 0) 0 1) 1 400) 2 80) 4 2) 5 30)))]) [0, 1] rfl
  refine vp_callSi (va_Run.run (va_runV (As := [.int a1]) (rest := []) ⟨hx, hb, hml, hown, hts⟩ (c_X5_isNoLine l D cI cL cZ cC g0 ra wa ta ma pa ba ka fa qa ea za ya a1 ) (cwV 1 hts gX5_best_X5_isNoLine rfl rfl rfl (by decide +kernel) ⟨Nat.le_of_ble_eq_true rfl, Nat.le_of_ble_eq_true rfl⟩) ⟨xPc_bl, va_recv hK hPc (ci := 5) (q0 := 0) rfl rfl, xPc_use hPc hK⟩ rfl rfl hl.1 rfl (lv_room (Nat.le_of_ble_eq_true rfl)) dX5_best_2 ⟨Nat.le_of_ble_eq_true rfl, Nat.le_of_ble_eq_true rfl⟩)) (fun r_1 er_1 => ?_)
  obtain rfl : (1 : Int32) = r_1 := Eq.symm er_1
  refine lv_if_ne (tgt := 16) hx hb dX5_best_5 (by decide) (fun c_2 => ?_) (fun c_2 => absurd c_2 (by decide +kernel))
  refine lv_aload_n hx hb dX5_best_16 rfl (lv_at hl 0 rfl) ?_
  refine lv_iconst (v := -1) hx hb dX5_best_17 (by decide) ?_
  have hPc := hP.sub (ws' := [(g0, .inr (5, [.ref ra, .ref wa, .ref ta, .int 0, .ref ma, .int 0, .ref pa, .int 0, .int 0, .int 0, .ref ba, .ref ka, .int 0, .ref fa, .ref qa, .ref ea, .ref za, .ref ya, .int 0])), (ra, .inl (cI, 7, .inl (fun _ => 0)))]) [0, 2] rfl
  have hDc := hD.sub (ws' := [(g0, .inr (5, [.ref ra, .ref wa, .ref ta, .int 0, .ref ma, .int 0, .ref pa, .int 0, .int 0, .int 0, .ref ba, .ref ka, .int 0, .ref fa, .ref qa, .ref ea, .ref za, .ref ya, .int 0])), (ra, .inl (cI, 7, .inl (fun _ => 0)))]) [0, 2] (by decide) rfl
  have hFc := va_free (wc := [(g0, .inr (5, [.ref ra, .ref wa, .ref ta, .int 0, .ref ma, .int 0, .ref pa, .int 0, .int 0, .int 0, .ref ba, .ref ka, .int 0, .ref fa, .ref qa, .ref ea, .ref za, .ref ya, .int 0])), (ra, .inl (cI, 7, .inl (fun _ => 0)))]) hD hS hA [0, 2] rfl
  refine va_calli (va_runV (As := [.int (-1)]) (rest := []) ⟨hx, hb, hml, hown, hts⟩ (c_X5_no l D cI cL cZ cC _ g0 ra wa ta ma pa ba ka fa qa ea za ya (fun _ => 0) (-1) (by first | assumption | decide +kernel) (by first | assumption | decide +kernel)) (cwV 1 hts gX5_best_X5_no rfl rfl rfl (by decide +kernel) ⟨Nat.le_of_ble_eq_true rfl, Nat.le_of_ble_eq_true rfl⟩) ⟨wPc_bl, va_recv hK hPc (ci := 5) (q0 := 0) rfl rfl, wPc_use hPc hK hDc⟩ rfl rfl hl.1 rfl (lv_room (Nat.le_of_ble_eq_true rfl)) dX5_best_18 ⟨Nat.le_of_ble_eq_true rfl, Nat.le_of_ble_eq_true rfl⟩) hS (fun q _ h => hFc q h) hFc (fun r_3 u_3 t H1 locs ht hvm hw hB hz1 hk1 hS => ?_)
  obtain ⟨hP1, hD1⟩ := hB
  rw [ht] at hP1
  obtain ⟨hP, hD⟩ := va_join (wr := [(wa, .inl (cI, 70, .inl (upd (upd (upd (upd (upd (fun _ => 0) 0 1) 1 400) 2 80) 4 2) 5 30)))]) (w1 := [(g0, .inr (5, [.ref ra, .ref wa, .ref ta, .int 0, .ref ma, .int 0, .ref pa, .int 0, .int 0, .int 0, .ref ba, .ref ka, .int 0, .ref fa, .ref qa, .ref ea, .ref za, .ref ya, .int 0])), (ra, .inl (cI, 7, .inl (xRf (fun _ => 0) (-1))))]) hP hD [0, 2] [1] rfl rfl (by decide) (by decide) hk1 hFc hP1 hD1
  generalize H1 = H at hP hS ⊢
  have hP : va_P D vwCl [(wa, .inl (cI, 70, .inl (upd (upd (upd (upd (upd (fun _ => 0) 0 1) 1 400) 2 80) 4 2) 5 30))), (g0, .inr (5, [.ref ra, .ref wa, .ref ta, .int 0, .ref ma, .int 0, .ref pa, .int 0, .int 0, .int 0, .ref ba, .ref ka, .int 0, .ref fa, .ref qa, .ref ea, .ref za, .ref ya, .int 0])), (ra, .inl (cI, 7, .inl (xRf (fun _ => 0) (-1))))] H := hP
  have hD : va_D A [(wa, .inl (cI, 70, .inl (upd (upd (upd (upd (upd (fun _ => 0) 0 1) 1 400) 2 80) 4 2) 5 30))), (g0, .inr (5, [.ref ra, .ref wa, .ref ta, .int 0, .ref ma, .int 0, .ref pa, .int 0, .int 0, .int 0, .ref ba, .ref ka, .int 0, .ref fa, .ref qa, .ref ea, .ref za, .ref ya, .int 0])), (ra, .inl (cI, 7, .inl (xRf (fun _ => 0) (-1))))] := hD
  obtain rfl : ((-1) : Int32) = r_3 := Eq.symm hw
  have hP9 := hP.sub (ws' := []) [] rfl
  have hD9 := hD.sub (ws' := []) [] (by decide) rfl
  exact W.iret (v := -1) hx hb hr (fun t ht hW => ⟨⟨_, (), rfl, rfl, by rw [ht]; exact hP9, hD9⟩, hS.F ht⟩) hS.2.2 dX5_best_21

set_option maxHeartbeats 4000000 in
set_option maxRecDepth 100000 in
theorem p1_X5_bestMean (l : Launch) (D : va_G) (cI cL cZ cC : ClassId) (sz : Nat) (g0 : Nat) (ra : Nat) (wa : Nat) (ta : Nat) (ma : Nat) (pa : Nat) (ba : Nat) (ka : Nat) (fa : Nat) (qa : Nat) (ea : Nat) (za : Nat) (ya : Nat) (a1 : Int32) (a2 : Int32) (a3 : Int32) (a4 : Int32)  : Met l yX5_bestMean wsX5_bestMean ({ frames := 2, cells := 0, slots := 0, locals := 42 } : Room) (wPc D [.ref g0, .int a1, .int a2, .int a3, .int a4] [(g0, .inr (5, [.ref ra, .ref wa, .ref ta, .int 0, .ref ma, .int 0, .ref pa, .int 0, .int 0, .int 0, .ref ba, .ref ka, .int 0, .ref fa, .ref qa, .ref ea, .ref za, .ref ya, .int 0])), (wa, .inl (cI, 70, .inl (upd (upd (upd (upd (upd (fun _ => 0) 0 1) 1 400) 2 80) 4 2) 5 30))), (ra, .inl (cI, 7, .inl (fun _ => 0)))] (xTy cI cL cZ cC) sz) (va_Ql (fun (r : Int64) (_ : Unit) => r = xLg (-1)) (fun (_ : Unit) t => va_P D vwCl [] t.heap ∧ va_D (va_A [(g0, .inr (5, [.ref ra, .ref wa, .ref ta, .int 0, .ref ma, .int 0, .ref pa, .int 0, .int 0, .int 0, .ref ba, .ref ka, .int 0, .ref fa, .ref qa, .ref ea, .ref za, .ref ya, .int 0])), (wa, .inl (cI, 70, .inl (upd (upd (upd (upd (upd (fun _ => 0) 0 1) 1 400) 2 80) 4 2) 5 30))), (ra, .inl (cI, 7, .inl (fun _ => 0)))] sz) []) (va_A [(g0, .inr (5, [.ref ra, .ref wa, .ref ta, .int 0, .ref ma, .int 0, .ref pa, .int 0, .int 0, .int 0, .ref ba, .ref ka, .int 0, .ref fa, .ref qa, .ref ea, .ref za, .ref ya, .int 0])), (wa, .inl (cI, 70, .inl (upd (upd (upd (upd (upd (fun _ => 0) 0 1) 1 400) 2 80) 4 2) 5 30))), (ra, .inl (cI, 7, .inl (fun _ => 0)))] sz)) 0 0 (va_A [(g0, .inr (5, [.ref ra, .ref wa, .ref ta, .int 0, .ref ma, .int 0, .ref pa, .int 0, .int 0, .int 0, .ref ba, .ref ka, .int 0, .ref fa, .ref qa, .ref ea, .ref za, .ref ya, .int 0])), (wa, .inl (cI, 70, .inl (upd (upd (upd (upd (upd (fun _ => 0) 0 1) 1 400) 2 80) 4 2) 5 30))), (ra, .inl (cI, 7, .inl (fun _ => 0)))] sz) := by
  refine Met.ofW (cc := cX5_bestMean) (maxL := 6) (ret := (some .long)) (by decide) rfl ?_
  intro p e s m args below meth c s₁ B hml hv
  obtain ⟨rfl, hsz, hP, hK, hD0⟩ := hv
  have hx := B.exec
  have hb := B.bytes
  have hr := B.returns
  have hts := atoms_spec (ws := wsX5_bestMean) B.pre
  have hown : s.vm.findClass RX5 = some m.cls := findClass_of_methodNamed B.named
  have hlocks := B.notSynchronized
  subst hsz
  have hD := hD0.self (sz := s.heap.size)
  generalize hAe : va_A [(g0, .inr (5, [.ref ra, .ref wa, .ref ta, .int 0, .ref ma, .int 0, .ref pa, .int 0, .int 0, .int 0, .ref ba, .ref ka, .int 0, .ref fa, .ref qa, .ref ea, .ref za, .ref ya, .int 0])), (wa, .inl (cI, 70, .inl (upd (upd (upd (upd (upd (fun _ => 0) 0 1) 1 400) 2 80) 4 2) 5 30))), (ra, .inl (cI, 7, .inl (fun _ => 0)))] s.heap.size = A at hD ⊢
  have hA : ∀ q : Nat, s.heap.size ≤ q → A q := fun q h => by rw [← hAe]; exact Or.inr h
  have hS : va_S A s.heap s.heap [] := va_S.rf
  have hP : va_P D vwCl [(g0, .inr (5, [.ref ra, .ref wa, .ref ta, .int 0, .ref ma, .int 0, .ref pa, .int 0, .int 0, .int 0, .ref ba, .ref ka, .int 0, .ref fa, .ref qa, .ref ea, .ref za, .ref ya, .int 0])), (wa, .inl (cI, 70, .inl (upd (upd (upd (upd (upd (fun _ => 0) 0 1) 1 400) 2 80) 4 2) 5 30))), (ra, .inl (cI, 7, .inl (fun _ => 0)))] s.heap := hP
  have hl := lv_entry ([.ref g0, .int a1, .int a2, .int a3, .int a4]) (n := 6) (Nat.le_of_ble_eq_true rfl)
  rw [lg_entry_eq]
  generalize (lg_sl ([.ref g0, .int a1, .int a2, .int a3, .int a4]) ++ List.replicate (6 - (lg_sl ([.ref g0, .int a1, .int a2, .int a3, .int a4])).length) Slot.unset).toArray = ls at hl ⊢
  have hl : lv_has ls 6 [(0, .ref g0), (1, .int a1), (2, .int a2), (3, .int a3), (4, .int a4)] := hl
  refine lv_aload_n hx hb dX5_bestMean_0 rfl (lv_at hl 0 rfl) ?_
  refine lv_iload_n hx hb dX5_bestMean_1 rfl (lv_at hl 1 rfl) ?_
  have hPc := hP.sub (ws' := [(g0, .inr (5, [.ref ra, .ref wa, .ref ta, .int 0, .ref ma, .int 0, .ref pa, .int 0, .int 0, .int 0, .ref ba, .ref ka, .int 0, .ref fa, .ref qa, .ref ea, .ref za, .ref ya, .int 0])), (wa, .inl (cI, 70, .inl (upd (upd (upd (upd (upd (fun _ => 0) 0 1) 1 400) 2 80) 4 2) 5 30)))]) [0, 1] rfl
  refine vp_callSi (va_Run.run (va_runV (As := [.int a1]) (rest := []) ⟨hx, hb, hml, hown, hts⟩ (c_X5_isNoLine l D cI cL cZ cC g0 ra wa ta ma pa ba ka fa qa ea za ya a1 ) (cwV 1 hts gX5_bestMean_X5_isNoLine rfl rfl rfl (by decide +kernel) ⟨Nat.le_of_ble_eq_true rfl, Nat.le_of_ble_eq_true rfl⟩) ⟨xPc_bl, va_recv hK hPc (ci := 5) (q0 := 0) rfl rfl, xPc_use hPc hK⟩ rfl rfl hl.1 rfl (lv_room (Nat.le_of_ble_eq_true rfl)) dX5_bestMean_2 ⟨Nat.le_of_ble_eq_true rfl, Nat.le_of_ble_eq_true rfl⟩)) (fun r_1 er_1 => ?_)
  obtain rfl : (1 : Int32) = r_1 := Eq.symm er_1
  refine lv_if_ne (tgt := 16) hx hb dX5_bestMean_5 (by decide) (fun c_2 => ?_) (fun c_2 => absurd c_2 (by decide +kernel))
  refine lv_aload_n hx hb dX5_bestMean_16 rfl (lv_at hl 0 rfl) ?_
  refine lv_iconst (v := -1) hx hb dX5_bestMean_17 (by decide) ?_
  have hPc := hP.sub (ws' := [(g0, .inr (5, [.ref ra, .ref wa, .ref ta, .int 0, .ref ma, .int 0, .ref pa, .int 0, .int 0, .int 0, .ref ba, .ref ka, .int 0, .ref fa, .ref qa, .ref ea, .ref za, .ref ya, .int 0])), (ra, .inl (cI, 7, .inl (fun _ => 0)))]) [0, 2] rfl
  have hDc := hD.sub (ws' := [(g0, .inr (5, [.ref ra, .ref wa, .ref ta, .int 0, .ref ma, .int 0, .ref pa, .int 0, .int 0, .int 0, .ref ba, .ref ka, .int 0, .ref fa, .ref qa, .ref ea, .ref za, .ref ya, .int 0])), (ra, .inl (cI, 7, .inl (fun _ => 0)))]) [0, 2] (by decide) rfl
  have hFc := va_free (wc := [(g0, .inr (5, [.ref ra, .ref wa, .ref ta, .int 0, .ref ma, .int 0, .ref pa, .int 0, .int 0, .int 0, .ref ba, .ref ka, .int 0, .ref fa, .ref qa, .ref ea, .ref za, .ref ya, .int 0])), (ra, .inl (cI, 7, .inl (fun _ => 0)))]) hD hS hA [0, 2] rfl
  refine va_calll (va_runV (As := [.int (-1)]) (rest := []) ⟨hx, hb, hml, hown, hts⟩ (c_X5_noLong l D cI cL cZ cC _ g0 ra wa ta ma pa ba ka fa qa ea za ya (fun _ => 0) (-1) (by first | assumption | decide +kernel) (by first | assumption | decide +kernel)) (cwV 1 hts gX5_bestMean_X5_noLong rfl rfl rfl (by decide +kernel) ⟨Nat.le_of_ble_eq_true rfl, Nat.le_of_ble_eq_true rfl⟩) ⟨wPc_bl, va_recv hK hPc (ci := 5) (q0 := 0) rfl rfl, wPc_use hPc hK hDc⟩ rfl rfl hl.1 rfl (lv_room (Nat.le_of_ble_eq_true rfl)) dX5_bestMean_18 ⟨Nat.le_of_ble_eq_true rfl, Nat.le_of_ble_eq_true rfl⟩) hS (fun q _ h => hFc q h) hFc (fun r_3 u_3 t H1 locs ht hvm hw hB hz1 hk1 hS => ?_)
  obtain ⟨hP1, hD1⟩ := hB
  rw [ht] at hP1
  obtain ⟨hP, hD⟩ := va_join (wr := [(wa, .inl (cI, 70, .inl (upd (upd (upd (upd (upd (fun _ => 0) 0 1) 1 400) 2 80) 4 2) 5 30)))]) (w1 := [(g0, .inr (5, [.ref ra, .ref wa, .ref ta, .int 0, .ref ma, .int 0, .ref pa, .int 0, .int 0, .int 0, .ref ba, .ref ka, .int 0, .ref fa, .ref qa, .ref ea, .ref za, .ref ya, .int 0])), (ra, .inl (cI, 7, .inl (xRf (fun _ => 0) (-1))))]) hP hD [0, 2] [1] rfl rfl (by decide) (by decide) hk1 hFc hP1 hD1
  generalize H1 = H at hP hS ⊢
  have hP : va_P D vwCl [(wa, .inl (cI, 70, .inl (upd (upd (upd (upd (upd (fun _ => 0) 0 1) 1 400) 2 80) 4 2) 5 30))), (g0, .inr (5, [.ref ra, .ref wa, .ref ta, .int 0, .ref ma, .int 0, .ref pa, .int 0, .int 0, .int 0, .ref ba, .ref ka, .int 0, .ref fa, .ref qa, .ref ea, .ref za, .ref ya, .int 0])), (ra, .inl (cI, 7, .inl (xRf (fun _ => 0) (-1))))] H := hP
  have hD : va_D A [(wa, .inl (cI, 70, .inl (upd (upd (upd (upd (upd (fun _ => 0) 0 1) 1 400) 2 80) 4 2) 5 30))), (g0, .inr (5, [.ref ra, .ref wa, .ref ta, .int 0, .ref ma, .int 0, .ref pa, .int 0, .int 0, .int 0, .ref ba, .ref ka, .int 0, .ref fa, .ref qa, .ref ea, .ref za, .ref ya, .int 0])), (ra, .inl (cI, 7, .inl (xRf (fun _ => 0) (-1))))] := hD
  obtain rfl : (xLg (-1 : Int32) : Int64) = r_3 := Eq.symm hw
  have hP9 := hP.sub (ws' := []) [] rfl
  have hD9 := hD.sub (ws' := []) [] (by decide) rfl
  exact W.lret (v := xLg (-1 : Int32)) hx hb hr (fun t ht hW => ⟨⟨_, (), rfl, rfl, by rw [ht]; exact hP9, hD9⟩, hS.F ht⟩) hS.2.2 dX5_bestMean_21

set_option maxHeartbeats 4000000 in
set_option maxRecDepth 100000 in
theorem p1_X5_patience (l : Launch) (D : va_G) (cI cL cZ cC : ClassId) (sz : Nat) (g0 : Nat) (ra : Nat) (wa : Nat) (ta : Nat) (ma : Nat) (pa : Nat) (ba : Nat) (ka : Nat) (fa : Nat) (qa : Nat) (ea : Nat) (za : Nat) (ya : Nat) (a1 : Int32)  : Met l yX5_patience wsX5_patience ({ frames := 1, cells := 0, slots := 0, locals := 21 } : Room) (wPc D [.ref g0, .int a1] [(g0, .inr (5, [.ref ra, .ref wa, .ref ta, .int 0, .ref ma, .int 0, .ref pa, .int 0, .int 0, .int 0, .ref ba, .ref ka, .int 0, .ref fa, .ref qa, .ref ea, .ref za, .ref ya, .int 0])), (wa, .inl (cI, 70, .inl (upd (upd (upd (upd (upd (fun _ => 0) 0 1) 1 400) 2 80) 4 2) 5 30))), (ra, .inl (cI, 7, .inl (fun _ => 0)))] (xTy cI cL cZ cC) sz) (va_Qi (fun (r : Int32) (_ : Unit) => r = -1) (fun (_ : Unit) t => va_P D vwCl [] t.heap ∧ va_D (va_A [(g0, .inr (5, [.ref ra, .ref wa, .ref ta, .int 0, .ref ma, .int 0, .ref pa, .int 0, .int 0, .int 0, .ref ba, .ref ka, .int 0, .ref fa, .ref qa, .ref ea, .ref za, .ref ya, .int 0])), (wa, .inl (cI, 70, .inl (upd (upd (upd (upd (upd (fun _ => 0) 0 1) 1 400) 2 80) 4 2) 5 30))), (ra, .inl (cI, 7, .inl (fun _ => 0)))] sz) []) (va_A [(g0, .inr (5, [.ref ra, .ref wa, .ref ta, .int 0, .ref ma, .int 0, .ref pa, .int 0, .int 0, .int 0, .ref ba, .ref ka, .int 0, .ref fa, .ref qa, .ref ea, .ref za, .ref ya, .int 0])), (wa, .inl (cI, 70, .inl (upd (upd (upd (upd (upd (fun _ => 0) 0 1) 1 400) 2 80) 4 2) 5 30))), (ra, .inl (cI, 7, .inl (fun _ => 0)))] sz)) 0 0 (va_A [(g0, .inr (5, [.ref ra, .ref wa, .ref ta, .int 0, .ref ma, .int 0, .ref pa, .int 0, .int 0, .int 0, .ref ba, .ref ka, .int 0, .ref fa, .ref qa, .ref ea, .ref za, .ref ya, .int 0])), (wa, .inl (cI, 70, .inl (upd (upd (upd (upd (upd (fun _ => 0) 0 1) 1 400) 2 80) 4 2) 5 30))), (ra, .inl (cI, 7, .inl (fun _ => 0)))] sz) := by
  refine Met.ofW (cc := cX5_patience) (maxL := 4) (ret := (some .int)) (by decide) rfl ?_
  intro p e s m args below meth c s₁ B hml hv
  obtain ⟨rfl, hsz, hP, hK, hD0⟩ := hv
  have hx := B.exec
  have hb := B.bytes
  have hr := B.returns
  have hts := atoms_spec (ws := wsX5_patience) B.pre
  have hown : s.vm.findClass RX5 = some m.cls := findClass_of_methodNamed B.named
  have hlocks := B.notSynchronized
  subst hsz
  have hD := hD0.self (sz := s.heap.size)
  generalize hAe : va_A [(g0, .inr (5, [.ref ra, .ref wa, .ref ta, .int 0, .ref ma, .int 0, .ref pa, .int 0, .int 0, .int 0, .ref ba, .ref ka, .int 0, .ref fa, .ref qa, .ref ea, .ref za, .ref ya, .int 0])), (wa, .inl (cI, 70, .inl (upd (upd (upd (upd (upd (fun _ => 0) 0 1) 1 400) 2 80) 4 2) 5 30))), (ra, .inl (cI, 7, .inl (fun _ => 0)))] s.heap.size = A at hD ⊢
  have hA : ∀ q : Nat, s.heap.size ≤ q → A q := fun q h => by rw [← hAe]; exact Or.inr h
  have hS : va_S A s.heap s.heap [] := va_S.rf
  have hP : va_P D vwCl [(g0, .inr (5, [.ref ra, .ref wa, .ref ta, .int 0, .ref ma, .int 0, .ref pa, .int 0, .int 0, .int 0, .ref ba, .ref ka, .int 0, .ref fa, .ref qa, .ref ea, .ref za, .ref ya, .int 0])), (wa, .inl (cI, 70, .inl (upd (upd (upd (upd (upd (fun _ => 0) 0 1) 1 400) 2 80) 4 2) 5 30))), (ra, .inl (cI, 7, .inl (fun _ => 0)))] s.heap := hP
  have hl := lv_entry ([.ref g0, .int a1]) (n := 4) (Nat.le_of_ble_eq_true rfl)
  rw [lg_entry_eq]
  generalize (lg_sl ([.ref g0, .int a1]) ++ List.replicate (4 - (lg_sl ([.ref g0, .int a1])).length) Slot.unset).toArray = ls at hl ⊢
  have hl : lv_has ls 4 [(0, .ref g0), (1, .int a1)] := hl
  refine lv_aload_n hx hb dX5_patience_0 rfl (lv_at hl 0 rfl) ?_
  refine lv_iload_n hx hb dX5_patience_1 rfl (lv_at hl 1 rfl) ?_
  have hPc := hP.sub (ws' := [(g0, .inr (5, [.ref ra, .ref wa, .ref ta, .int 0, .ref ma, .int 0, .ref pa, .int 0, .int 0, .int 0, .ref ba, .ref ka, .int 0, .ref fa, .ref qa, .ref ea, .ref za, .ref ya, .int 0])), (wa, .inl (cI, 70, .inl (upd (upd (upd (upd (upd (fun _ => 0) 0 1) 1 400) 2 80) 4 2) 5 30)))]) [0, 1] rfl
  refine vp_callSi (va_Run.run (va_runV (As := [.int a1]) (rest := []) ⟨hx, hb, hml, hown, hts⟩ (c_X5_isNoLine l D cI cL cZ cC g0 ra wa ta ma pa ba ka fa qa ea za ya a1 ) (cwV 1 hts gX5_patience_X5_isNoLine rfl rfl rfl (by decide +kernel) ⟨Nat.le_of_ble_eq_true rfl, Nat.le_of_ble_eq_true rfl⟩) ⟨xPc_bl, va_recv hK hPc (ci := 5) (q0 := 0) rfl rfl, xPc_use hPc hK⟩ rfl rfl hl.1 rfl (lv_room (Nat.le_of_ble_eq_true rfl)) dX5_patience_2 ⟨Nat.le_of_ble_eq_true rfl, Nat.le_of_ble_eq_true rfl⟩)) (fun r_1 er_1 => ?_)
  obtain rfl : (1 : Int32) = r_1 := Eq.symm er_1
  refine lv_if_eq (tgt := 14) hx hb dX5_patience_5 (by decide) (fun c_2 => absurd c_2 (by decide +kernel)) (fun c_2 => ?_)
  refine lv_aload_n hx hb dX5_patience_8 rfl (lv_at hl 0 rfl) ?_
  refine lv_iconst (v := -1) hx hb dX5_patience_9 (by decide) ?_
  have hPc := hP.sub (ws' := [(g0, .inr (5, [.ref ra, .ref wa, .ref ta, .int 0, .ref ma, .int 0, .ref pa, .int 0, .int 0, .int 0, .ref ba, .ref ka, .int 0, .ref fa, .ref qa, .ref ea, .ref za, .ref ya, .int 0])), (ra, .inl (cI, 7, .inl (fun _ => 0)))]) [0, 2] rfl
  have hDc := hD.sub (ws' := [(g0, .inr (5, [.ref ra, .ref wa, .ref ta, .int 0, .ref ma, .int 0, .ref pa, .int 0, .int 0, .int 0, .ref ba, .ref ka, .int 0, .ref fa, .ref qa, .ref ea, .ref za, .ref ya, .int 0])), (ra, .inl (cI, 7, .inl (fun _ => 0)))]) [0, 2] (by decide) rfl
  have hFc := va_free (wc := [(g0, .inr (5, [.ref ra, .ref wa, .ref ta, .int 0, .ref ma, .int 0, .ref pa, .int 0, .int 0, .int 0, .ref ba, .ref ka, .int 0, .ref fa, .ref qa, .ref ea, .ref za, .ref ya, .int 0])), (ra, .inl (cI, 7, .inl (fun _ => 0)))]) hD hS hA [0, 2] rfl
  refine va_calli (va_runV (As := [.int (-1)]) (rest := []) ⟨hx, hb, hml, hown, hts⟩ (c_X5_no l D cI cL cZ cC _ g0 ra wa ta ma pa ba ka fa qa ea za ya (fun _ => 0) (-1) (by first | assumption | decide +kernel) (by first | assumption | decide +kernel)) (cwV 1 hts gX5_patience_X5_no rfl rfl rfl (by decide +kernel) ⟨Nat.le_of_ble_eq_true rfl, Nat.le_of_ble_eq_true rfl⟩) ⟨wPc_bl, va_recv hK hPc (ci := 5) (q0 := 0) rfl rfl, wPc_use hPc hK hDc⟩ rfl rfl hl.1 rfl (lv_room (Nat.le_of_ble_eq_true rfl)) dX5_patience_10 ⟨Nat.le_of_ble_eq_true rfl, Nat.le_of_ble_eq_true rfl⟩) hS (fun q _ h => hFc q h) hFc (fun r_3 u_3 t H1 locs ht hvm hw hB hz1 hk1 hS => ?_)
  obtain ⟨hP1, hD1⟩ := hB
  rw [ht] at hP1
  obtain ⟨hP, hD⟩ := va_join (wr := [(wa, .inl (cI, 70, .inl (upd (upd (upd (upd (upd (fun _ => 0) 0 1) 1 400) 2 80) 4 2) 5 30)))]) (w1 := [(g0, .inr (5, [.ref ra, .ref wa, .ref ta, .int 0, .ref ma, .int 0, .ref pa, .int 0, .int 0, .int 0, .ref ba, .ref ka, .int 0, .ref fa, .ref qa, .ref ea, .ref za, .ref ya, .int 0])), (ra, .inl (cI, 7, .inl (xRf (fun _ => 0) (-1))))]) hP hD [0, 2] [1] rfl rfl (by decide) (by decide) hk1 hFc hP1 hD1
  generalize H1 = H at hP hS ⊢
  have hP : va_P D vwCl [(wa, .inl (cI, 70, .inl (upd (upd (upd (upd (upd (fun _ => 0) 0 1) 1 400) 2 80) 4 2) 5 30))), (g0, .inr (5, [.ref ra, .ref wa, .ref ta, .int 0, .ref ma, .int 0, .ref pa, .int 0, .int 0, .int 0, .ref ba, .ref ka, .int 0, .ref fa, .ref qa, .ref ea, .ref za, .ref ya, .int 0])), (ra, .inl (cI, 7, .inl (xRf (fun _ => 0) (-1))))] H := hP
  have hD : va_D A [(wa, .inl (cI, 70, .inl (upd (upd (upd (upd (upd (fun _ => 0) 0 1) 1 400) 2 80) 4 2) 5 30))), (g0, .inr (5, [.ref ra, .ref wa, .ref ta, .int 0, .ref ma, .int 0, .ref pa, .int 0, .int 0, .int 0, .ref ba, .ref ka, .int 0, .ref fa, .ref qa, .ref ea, .ref za, .ref ya, .int 0])), (ra, .inl (cI, 7, .inl (xRf (fun _ => 0) (-1))))] := hD
  obtain rfl : ((-1) : Int32) = r_3 := Eq.symm hw
  have hP9 := hP.sub (ws' := []) [] rfl
  have hD9 := hD.sub (ws' := []) [] (by decide) rfl
  exact W.iret (v := -1) hx hb hr (fun t ht hW => ⟨⟨_, (), rfl, rfl, by rw [ht]; exact hP9, hD9⟩, hS.F ht⟩) hS.2.2 dX5_patience_13

set_option maxHeartbeats 4000000 in
set_option maxRecDepth 100000 in
theorem p1_X5_news (l : Launch) (D : va_G) (cI cL cZ cC : ClassId) (sz : Nat) (g0 : Nat) (ra : Nat) (wa : Nat) (ta : Nat) (ma : Nat) (pa : Nat) (ba : Nat) (ka : Nat) (fa : Nat) (qa : Nat) (ea : Nat) (za : Nat) (ya : Nat) (a1 : Int32) (a2 : Int32)  : Met l yX5_news wsX5_news ({ frames := 2, cells := 0, slots := 0, locals := 42 } : Room) (wPc D [.ref g0, .int a1, .int a2] [(g0, .inr (5, [.ref ra, .ref wa, .ref ta, .int 0, .ref ma, .int 0, .ref pa, .int 0, .int 0, .int 0, .ref ba, .ref ka, .int 0, .ref fa, .ref qa, .ref ea, .ref za, .ref ya, .int 0])), (wa, .inl (cI, 70, .inl (upd (upd (upd (upd (upd (fun _ => 0) 0 1) 1 400) 2 80) 4 2) 5 30))), (ra, .inl (cI, 7, .inl (fun _ => 0)))] (xTy cI cL cZ cC) sz) (va_Ql (fun (r : Int64) (_ : Unit) => r = xLg (-1)) (fun (_ : Unit) t => va_P D vwCl [] t.heap ∧ va_D (va_A [(g0, .inr (5, [.ref ra, .ref wa, .ref ta, .int 0, .ref ma, .int 0, .ref pa, .int 0, .int 0, .int 0, .ref ba, .ref ka, .int 0, .ref fa, .ref qa, .ref ea, .ref za, .ref ya, .int 0])), (wa, .inl (cI, 70, .inl (upd (upd (upd (upd (upd (fun _ => 0) 0 1) 1 400) 2 80) 4 2) 5 30))), (ra, .inl (cI, 7, .inl (fun _ => 0)))] sz) []) (va_A [(g0, .inr (5, [.ref ra, .ref wa, .ref ta, .int 0, .ref ma, .int 0, .ref pa, .int 0, .int 0, .int 0, .ref ba, .ref ka, .int 0, .ref fa, .ref qa, .ref ea, .ref za, .ref ya, .int 0])), (wa, .inl (cI, 70, .inl (upd (upd (upd (upd (upd (fun _ => 0) 0 1) 1 400) 2 80) 4 2) 5 30))), (ra, .inl (cI, 7, .inl (fun _ => 0)))] sz)) 0 0 (va_A [(g0, .inr (5, [.ref ra, .ref wa, .ref ta, .int 0, .ref ma, .int 0, .ref pa, .int 0, .int 0, .int 0, .ref ba, .ref ka, .int 0, .ref fa, .ref qa, .ref ea, .ref za, .ref ya, .int 0])), (wa, .inl (cI, 70, .inl (upd (upd (upd (upd (upd (fun _ => 0) 0 1) 1 400) 2 80) 4 2) 5 30))), (ra, .inl (cI, 7, .inl (fun _ => 0)))] sz) := by
  refine Met.ofW (cc := cX5_news) (maxL := 5) (ret := (some .long)) (by decide) rfl ?_
  intro p e s m args below meth c s₁ B hml hv
  obtain ⟨rfl, hsz, hP, hK, hD0⟩ := hv
  have hx := B.exec
  have hb := B.bytes
  have hr := B.returns
  have hts := atoms_spec (ws := wsX5_news) B.pre
  have hown : s.vm.findClass RX5 = some m.cls := findClass_of_methodNamed B.named
  have hlocks := B.notSynchronized
  subst hsz
  have hD := hD0.self (sz := s.heap.size)
  generalize hAe : va_A [(g0, .inr (5, [.ref ra, .ref wa, .ref ta, .int 0, .ref ma, .int 0, .ref pa, .int 0, .int 0, .int 0, .ref ba, .ref ka, .int 0, .ref fa, .ref qa, .ref ea, .ref za, .ref ya, .int 0])), (wa, .inl (cI, 70, .inl (upd (upd (upd (upd (upd (fun _ => 0) 0 1) 1 400) 2 80) 4 2) 5 30))), (ra, .inl (cI, 7, .inl (fun _ => 0)))] s.heap.size = A at hD ⊢
  have hA : ∀ q : Nat, s.heap.size ≤ q → A q := fun q h => by rw [← hAe]; exact Or.inr h
  have hS : va_S A s.heap s.heap [] := va_S.rf
  have hP : va_P D vwCl [(g0, .inr (5, [.ref ra, .ref wa, .ref ta, .int 0, .ref ma, .int 0, .ref pa, .int 0, .int 0, .int 0, .ref ba, .ref ka, .int 0, .ref fa, .ref qa, .ref ea, .ref za, .ref ya, .int 0])), (wa, .inl (cI, 70, .inl (upd (upd (upd (upd (upd (fun _ => 0) 0 1) 1 400) 2 80) 4 2) 5 30))), (ra, .inl (cI, 7, .inl (fun _ => 0)))] s.heap := hP
  have hl := lv_entry ([.ref g0, .int a1, .int a2]) (n := 5) (Nat.le_of_ble_eq_true rfl)
  rw [lg_entry_eq]
  generalize (lg_sl ([.ref g0, .int a1, .int a2]) ++ List.replicate (5 - (lg_sl ([.ref g0, .int a1, .int a2])).length) Slot.unset).toArray = ls at hl ⊢
  have hl : lv_has ls 5 [(0, .ref g0), (1, .int a1), (2, .int a2)] := hl
  refine lv_aload_n hx hb dX5_news_0 rfl (lv_at hl 0 rfl) ?_
  refine lv_iload_n hx hb dX5_news_1 rfl (lv_at hl 1 rfl) ?_
  have hPc := hP.sub (ws' := [(g0, .inr (5, [.ref ra, .ref wa, .ref ta, .int 0, .ref ma, .int 0, .ref pa, .int 0, .int 0, .int 0, .ref ba, .ref ka, .int 0, .ref fa, .ref qa, .ref ea, .ref za, .ref ya, .int 0])), (wa, .inl (cI, 70, .inl (upd (upd (upd (upd (upd (fun _ => 0) 0 1) 1 400) 2 80) 4 2) 5 30)))]) [0, 1] rfl
  refine vp_callSi (va_Run.run (va_runV (As := [.int a1]) (rest := []) ⟨hx, hb, hml, hown, hts⟩ (c_X5_isNoLine l D cI cL cZ cC g0 ra wa ta ma pa ba ka fa qa ea za ya a1 ) (cwV 1 hts gX5_news_X5_isNoLine rfl rfl rfl (by decide +kernel) ⟨Nat.le_of_ble_eq_true rfl, Nat.le_of_ble_eq_true rfl⟩) ⟨xPc_bl, va_recv hK hPc (ci := 5) (q0 := 0) rfl rfl, xPc_use hPc hK⟩ rfl rfl hl.1 rfl (lv_room (Nat.le_of_ble_eq_true rfl)) dX5_news_2 ⟨Nat.le_of_ble_eq_true rfl, Nat.le_of_ble_eq_true rfl⟩)) (fun r_1 er_1 => ?_)
  obtain rfl : (1 : Int32) = r_1 := Eq.symm er_1
  refine lv_if_eq (tgt := 14) hx hb dX5_news_5 (by decide) (fun c_2 => absurd c_2 (by decide +kernel)) (fun c_2 => ?_)
  refine lv_aload_n hx hb dX5_news_8 rfl (lv_at hl 0 rfl) ?_
  refine lv_iconst (v := -1) hx hb dX5_news_9 (by decide) ?_
  have hPc := hP.sub (ws' := [(g0, .inr (5, [.ref ra, .ref wa, .ref ta, .int 0, .ref ma, .int 0, .ref pa, .int 0, .int 0, .int 0, .ref ba, .ref ka, .int 0, .ref fa, .ref qa, .ref ea, .ref za, .ref ya, .int 0])), (ra, .inl (cI, 7, .inl (fun _ => 0)))]) [0, 2] rfl
  have hDc := hD.sub (ws' := [(g0, .inr (5, [.ref ra, .ref wa, .ref ta, .int 0, .ref ma, .int 0, .ref pa, .int 0, .int 0, .int 0, .ref ba, .ref ka, .int 0, .ref fa, .ref qa, .ref ea, .ref za, .ref ya, .int 0])), (ra, .inl (cI, 7, .inl (fun _ => 0)))]) [0, 2] (by decide) rfl
  have hFc := va_free (wc := [(g0, .inr (5, [.ref ra, .ref wa, .ref ta, .int 0, .ref ma, .int 0, .ref pa, .int 0, .int 0, .int 0, .ref ba, .ref ka, .int 0, .ref fa, .ref qa, .ref ea, .ref za, .ref ya, .int 0])), (ra, .inl (cI, 7, .inl (fun _ => 0)))]) hD hS hA [0, 2] rfl
  refine va_calll (va_runV (As := [.int (-1)]) (rest := []) ⟨hx, hb, hml, hown, hts⟩ (c_X5_noLong l D cI cL cZ cC _ g0 ra wa ta ma pa ba ka fa qa ea za ya (fun _ => 0) (-1) (by first | assumption | decide +kernel) (by first | assumption | decide +kernel)) (cwV 1 hts gX5_news_X5_noLong rfl rfl rfl (by decide +kernel) ⟨Nat.le_of_ble_eq_true rfl, Nat.le_of_ble_eq_true rfl⟩) ⟨wPc_bl, va_recv hK hPc (ci := 5) (q0 := 0) rfl rfl, wPc_use hPc hK hDc⟩ rfl rfl hl.1 rfl (lv_room (Nat.le_of_ble_eq_true rfl)) dX5_news_10 ⟨Nat.le_of_ble_eq_true rfl, Nat.le_of_ble_eq_true rfl⟩) hS (fun q _ h => hFc q h) hFc (fun r_3 u_3 t H1 locs ht hvm hw hB hz1 hk1 hS => ?_)
  obtain ⟨hP1, hD1⟩ := hB
  rw [ht] at hP1
  obtain ⟨hP, hD⟩ := va_join (wr := [(wa, .inl (cI, 70, .inl (upd (upd (upd (upd (upd (fun _ => 0) 0 1) 1 400) 2 80) 4 2) 5 30)))]) (w1 := [(g0, .inr (5, [.ref ra, .ref wa, .ref ta, .int 0, .ref ma, .int 0, .ref pa, .int 0, .int 0, .int 0, .ref ba, .ref ka, .int 0, .ref fa, .ref qa, .ref ea, .ref za, .ref ya, .int 0])), (ra, .inl (cI, 7, .inl (xRf (fun _ => 0) (-1))))]) hP hD [0, 2] [1] rfl rfl (by decide) (by decide) hk1 hFc hP1 hD1
  generalize H1 = H at hP hS ⊢
  have hP : va_P D vwCl [(wa, .inl (cI, 70, .inl (upd (upd (upd (upd (upd (fun _ => 0) 0 1) 1 400) 2 80) 4 2) 5 30))), (g0, .inr (5, [.ref ra, .ref wa, .ref ta, .int 0, .ref ma, .int 0, .ref pa, .int 0, .int 0, .int 0, .ref ba, .ref ka, .int 0, .ref fa, .ref qa, .ref ea, .ref za, .ref ya, .int 0])), (ra, .inl (cI, 7, .inl (xRf (fun _ => 0) (-1))))] H := hP
  have hD : va_D A [(wa, .inl (cI, 70, .inl (upd (upd (upd (upd (upd (fun _ => 0) 0 1) 1 400) 2 80) 4 2) 5 30))), (g0, .inr (5, [.ref ra, .ref wa, .ref ta, .int 0, .ref ma, .int 0, .ref pa, .int 0, .int 0, .int 0, .ref ba, .ref ka, .int 0, .ref fa, .ref qa, .ref ea, .ref za, .ref ya, .int 0])), (ra, .inl (cI, 7, .inl (xRf (fun _ => 0) (-1))))] := hD
  obtain rfl : (xLg (-1 : Int32) : Int64) = r_3 := Eq.symm hw
  have hP9 := hP.sub (ws' := []) [] rfl
  have hD9 := hD.sub (ws' := []) [] (by decide) rfl
  exact W.lret (v := xLg (-1 : Int32)) hx hb hr (fun t ht hW => ⟨⟨_, (), rfl, rfl, by rw [ht]; exact hP9, hD9⟩, hS.F ht⟩) hS.2.2 dX5_news_13

set_option maxHeartbeats 4000000 in
set_option maxRecDepth 100000 in
theorem p1_X5_both (l : Launch) (D : va_G) (cI cL cZ cC : ClassId) (sz : Nat) (g0 : Nat) (ra : Nat) (wa : Nat) (ta : Nat) (ma : Nat) (pa : Nat) (ba : Nat) (ka : Nat) (fa : Nat) (qa : Nat) (ea : Nat) (za : Nat) (ya : Nat) (a1 : Int32) (a2 : Int32) (a3 : Int32)  : Met l yX5_both wsX5_both ({ frames := 2, cells := 0, slots := 0, locals := 42 } : Room) (wPc D [.ref g0, .int a1, .int a2, .int a3] [(g0, .inr (5, [.ref ra, .ref wa, .ref ta, .int 0, .ref ma, .int 0, .ref pa, .int 0, .int 0, .int 0, .ref ba, .ref ka, .int 0, .ref fa, .ref qa, .ref ea, .ref za, .ref ya, .int 0])), (wa, .inl (cI, 70, .inl (upd (upd (upd (upd (upd (fun _ => 0) 0 1) 1 400) 2 80) 4 2) 5 30))), (ra, .inl (cI, 7, .inl (fun _ => 0)))] (xTy cI cL cZ cC) sz) (va_Ql (fun (r : Int64) (_ : Unit) => r = xLg (-1)) (fun (_ : Unit) t => va_P D vwCl [] t.heap ∧ va_D (va_A [(g0, .inr (5, [.ref ra, .ref wa, .ref ta, .int 0, .ref ma, .int 0, .ref pa, .int 0, .int 0, .int 0, .ref ba, .ref ka, .int 0, .ref fa, .ref qa, .ref ea, .ref za, .ref ya, .int 0])), (wa, .inl (cI, 70, .inl (upd (upd (upd (upd (upd (fun _ => 0) 0 1) 1 400) 2 80) 4 2) 5 30))), (ra, .inl (cI, 7, .inl (fun _ => 0)))] sz) []) (va_A [(g0, .inr (5, [.ref ra, .ref wa, .ref ta, .int 0, .ref ma, .int 0, .ref pa, .int 0, .int 0, .int 0, .ref ba, .ref ka, .int 0, .ref fa, .ref qa, .ref ea, .ref za, .ref ya, .int 0])), (wa, .inl (cI, 70, .inl (upd (upd (upd (upd (upd (fun _ => 0) 0 1) 1 400) 2 80) 4 2) 5 30))), (ra, .inl (cI, 7, .inl (fun _ => 0)))] sz)) 0 0 (va_A [(g0, .inr (5, [.ref ra, .ref wa, .ref ta, .int 0, .ref ma, .int 0, .ref pa, .int 0, .int 0, .int 0, .ref ba, .ref ka, .int 0, .ref fa, .ref qa, .ref ea, .ref za, .ref ya, .int 0])), (wa, .inl (cI, 70, .inl (upd (upd (upd (upd (upd (fun _ => 0) 0 1) 1 400) 2 80) 4 2) 5 30))), (ra, .inl (cI, 7, .inl (fun _ => 0)))] sz) := by
  refine Met.ofW (cc := cX5_both) (maxL := 4) (ret := (some .long)) (by decide) rfl ?_
  intro p e s m args below meth c s₁ B hml hv
  obtain ⟨rfl, hsz, hP, hK, hD0⟩ := hv
  have hx := B.exec
  have hb := B.bytes
  have hr := B.returns
  have hts := atoms_spec (ws := wsX5_both) B.pre
  have hown : s.vm.findClass RX5 = some m.cls := findClass_of_methodNamed B.named
  have hlocks := B.notSynchronized
  subst hsz
  have hD := hD0.self (sz := s.heap.size)
  generalize hAe : va_A [(g0, .inr (5, [.ref ra, .ref wa, .ref ta, .int 0, .ref ma, .int 0, .ref pa, .int 0, .int 0, .int 0, .ref ba, .ref ka, .int 0, .ref fa, .ref qa, .ref ea, .ref za, .ref ya, .int 0])), (wa, .inl (cI, 70, .inl (upd (upd (upd (upd (upd (fun _ => 0) 0 1) 1 400) 2 80) 4 2) 5 30))), (ra, .inl (cI, 7, .inl (fun _ => 0)))] s.heap.size = A at hD ⊢
  have hA : ∀ q : Nat, s.heap.size ≤ q → A q := fun q h => by rw [← hAe]; exact Or.inr h
  have hS : va_S A s.heap s.heap [] := va_S.rf
  have hP : va_P D vwCl [(g0, .inr (5, [.ref ra, .ref wa, .ref ta, .int 0, .ref ma, .int 0, .ref pa, .int 0, .int 0, .int 0, .ref ba, .ref ka, .int 0, .ref fa, .ref qa, .ref ea, .ref za, .ref ya, .int 0])), (wa, .inl (cI, 70, .inl (upd (upd (upd (upd (upd (fun _ => 0) 0 1) 1 400) 2 80) 4 2) 5 30))), (ra, .inl (cI, 7, .inl (fun _ => 0)))] s.heap := hP
  have hl := lv_entry ([.ref g0, .int a1, .int a2, .int a3]) (n := 4) (Nat.le_of_ble_eq_true rfl)
  rw [lg_entry_eq]
  generalize (lg_sl ([.ref g0, .int a1, .int a2, .int a3]) ++ List.replicate (4 - (lg_sl ([.ref g0, .int a1, .int a2, .int a3])).length) Slot.unset).toArray = ls at hl ⊢
  have hl : lv_has ls 4 [(0, .ref g0), (1, .int a1), (2, .int a2), (3, .int a3)] := hl
  refine lv_aload_n hx hb dX5_both_0 rfl (lv_at hl 0 rfl) ?_
  refine lv_iload_n hx hb dX5_both_1 rfl (lv_at hl 1 rfl) ?_
  have hPc := hP.sub (ws' := [(g0, .inr (5, [.ref ra, .ref wa, .ref ta, .int 0, .ref ma, .int 0, .ref pa, .int 0, .int 0, .int 0, .ref ba, .ref ka, .int 0, .ref fa, .ref qa, .ref ea, .ref za, .ref ya, .int 0])), (wa, .inl (cI, 70, .inl (upd (upd (upd (upd (upd (fun _ => 0) 0 1) 1 400) 2 80) 4 2) 5 30)))]) [0, 1] rfl
  refine vp_callSi (va_Run.run (va_runV (As := [.int a1]) (rest := []) ⟨hx, hb, hml, hown, hts⟩ (c_X5_isNoLine l D cI cL cZ cC g0 ra wa ta ma pa ba ka fa qa ea za ya a1 ) (cwV 1 hts gX5_both_X5_isNoLine rfl rfl rfl (by decide +kernel) ⟨Nat.le_of_ble_eq_true rfl, Nat.le_of_ble_eq_true rfl⟩) ⟨xPc_bl, va_recv hK hPc (ci := 5) (q0 := 0) rfl rfl, xPc_use hPc hK⟩ rfl rfl hl.1 rfl (lv_room (Nat.le_of_ble_eq_true rfl)) dX5_both_2 ⟨Nat.le_of_ble_eq_true rfl, Nat.le_of_ble_eq_true rfl⟩)) (fun r_1 er_1 => ?_)
  obtain rfl : (1 : Int32) = r_1 := Eq.symm er_1
  refine lv_if_ne (tgt := 21) hx hb dX5_both_5 (by decide) (fun c_2 => ?_) (fun c_2 => absurd c_2 (by decide +kernel))
  refine lv_aload_n hx hb dX5_both_21 rfl (lv_at hl 0 rfl) ?_
  refine lv_iconst (v := -1) hx hb dX5_both_22 (by decide) ?_
  have hPc := hP.sub (ws' := [(g0, .inr (5, [.ref ra, .ref wa, .ref ta, .int 0, .ref ma, .int 0, .ref pa, .int 0, .int 0, .int 0, .ref ba, .ref ka, .int 0, .ref fa, .ref qa, .ref ea, .ref za, .ref ya, .int 0])), (ra, .inl (cI, 7, .inl (fun _ => 0)))]) [0, 2] rfl
  have hDc := hD.sub (ws' := [(g0, .inr (5, [.ref ra, .ref wa, .ref ta, .int 0, .ref ma, .int 0, .ref pa, .int 0, .int 0, .int 0, .ref ba, .ref ka, .int 0, .ref fa, .ref qa, .ref ea, .ref za, .ref ya, .int 0])), (ra, .inl (cI, 7, .inl (fun _ => 0)))]) [0, 2] (by decide) rfl
  have hFc := va_free (wc := [(g0, .inr (5, [.ref ra, .ref wa, .ref ta, .int 0, .ref ma, .int 0, .ref pa, .int 0, .int 0, .int 0, .ref ba, .ref ka, .int 0, .ref fa, .ref qa, .ref ea, .ref za, .ref ya, .int 0])), (ra, .inl (cI, 7, .inl (fun _ => 0)))]) hD hS hA [0, 2] rfl
  refine va_calll (va_runV (As := [.int (-1)]) (rest := []) ⟨hx, hb, hml, hown, hts⟩ (c_X5_noLong l D cI cL cZ cC _ g0 ra wa ta ma pa ba ka fa qa ea za ya (fun _ => 0) (-1) (by first | assumption | decide +kernel) (by first | assumption | decide +kernel)) (cwV 1 hts gX5_both_X5_noLong rfl rfl rfl (by decide +kernel) ⟨Nat.le_of_ble_eq_true rfl, Nat.le_of_ble_eq_true rfl⟩) ⟨wPc_bl, va_recv hK hPc (ci := 5) (q0 := 0) rfl rfl, wPc_use hPc hK hDc⟩ rfl rfl hl.1 rfl (lv_room (Nat.le_of_ble_eq_true rfl)) dX5_both_23 ⟨Nat.le_of_ble_eq_true rfl, Nat.le_of_ble_eq_true rfl⟩) hS (fun q _ h => hFc q h) hFc (fun r_3 u_3 t H1 locs ht hvm hw hB hz1 hk1 hS => ?_)
  obtain ⟨hP1, hD1⟩ := hB
  rw [ht] at hP1
  obtain ⟨hP, hD⟩ := va_join (wr := [(wa, .inl (cI, 70, .inl (upd (upd (upd (upd (upd (fun _ => 0) 0 1) 1 400) 2 80) 4 2) 5 30)))]) (w1 := [(g0, .inr (5, [.ref ra, .ref wa, .ref ta, .int 0, .ref ma, .int 0, .ref pa, .int 0, .int 0, .int 0, .ref ba, .ref ka, .int 0, .ref fa, .ref qa, .ref ea, .ref za, .ref ya, .int 0])), (ra, .inl (cI, 7, .inl (xRf (fun _ => 0) (-1))))]) hP hD [0, 2] [1] rfl rfl (by decide) (by decide) hk1 hFc hP1 hD1
  generalize H1 = H at hP hS ⊢
  have hP : va_P D vwCl [(wa, .inl (cI, 70, .inl (upd (upd (upd (upd (upd (fun _ => 0) 0 1) 1 400) 2 80) 4 2) 5 30))), (g0, .inr (5, [.ref ra, .ref wa, .ref ta, .int 0, .ref ma, .int 0, .ref pa, .int 0, .int 0, .int 0, .ref ba, .ref ka, .int 0, .ref fa, .ref qa, .ref ea, .ref za, .ref ya, .int 0])), (ra, .inl (cI, 7, .inl (xRf (fun _ => 0) (-1))))] H := hP
  have hD : va_D A [(wa, .inl (cI, 70, .inl (upd (upd (upd (upd (upd (fun _ => 0) 0 1) 1 400) 2 80) 4 2) 5 30))), (g0, .inr (5, [.ref ra, .ref wa, .ref ta, .int 0, .ref ma, .int 0, .ref pa, .int 0, .int 0, .int 0, .ref ba, .ref ka, .int 0, .ref fa, .ref qa, .ref ea, .ref za, .ref ya, .int 0])), (ra, .inl (cI, 7, .inl (xRf (fun _ => 0) (-1))))] := hD
  obtain rfl : (xLg (-1 : Int32) : Int64) = r_3 := Eq.symm hw
  have hP9 := hP.sub (ws' := []) [] rfl
  have hD9 := hD.sub (ws' := []) [] (by decide) rfl
  exact W.lret (v := xLg (-1 : Int32)) hx hb hr (fun t ht hW => ⟨⟨_, (), rfl, rfl, by rw [ht]; exact hP9, hD9⟩, hS.F ht⟩) hS.2.2 dX5_both_26

set_option maxHeartbeats 4000000 in
set_option maxRecDepth 100000 in
theorem p1_X5_letGo (l : Launch) (D : va_G) (cI cL cZ cC : ClassId) (sz : Nat) (g0 : Nat) (ra : Nat) (wa : Nat) (ta : Nat) (ma : Nat) (pa : Nat) (ba : Nat) (ka : Nat) (fa : Nat) (qa : Nat) (ea : Nat) (za : Nat) (ya : Nat) (a1 : Int32) (a2 : Int32)  : Met l yX5_letGo wsX5_letGo ({ frames := 1, cells := 0, slots := 0, locals := 21 } : Room) (wPc D [.ref g0, .int a1, .int a2] [(g0, .inr (5, [.ref ra, .ref wa, .ref ta, .int 0, .ref ma, .int 0, .ref pa, .int 0, .int 0, .int 0, .ref ba, .ref ka, .int 0, .ref fa, .ref qa, .ref ea, .ref za, .ref ya, .int 0])), (wa, .inl (cI, 70, .inl (upd (upd (upd (upd (upd (fun _ => 0) 0 1) 1 400) 2 80) 4 2) 5 30))), (ra, .inl (cI, 7, .inl (fun _ => 0)))] (xTy cI cL cZ cC) sz) (va_Qi (fun (r : Int32) (_ : Unit) => r = -1) (fun (_ : Unit) t => va_P D vwCl [] t.heap ∧ va_D (va_A [(g0, .inr (5, [.ref ra, .ref wa, .ref ta, .int 0, .ref ma, .int 0, .ref pa, .int 0, .int 0, .int 0, .ref ba, .ref ka, .int 0, .ref fa, .ref qa, .ref ea, .ref za, .ref ya, .int 0])), (wa, .inl (cI, 70, .inl (upd (upd (upd (upd (upd (fun _ => 0) 0 1) 1 400) 2 80) 4 2) 5 30))), (ra, .inl (cI, 7, .inl (fun _ => 0)))] sz) []) (va_A [(g0, .inr (5, [.ref ra, .ref wa, .ref ta, .int 0, .ref ma, .int 0, .ref pa, .int 0, .int 0, .int 0, .ref ba, .ref ka, .int 0, .ref fa, .ref qa, .ref ea, .ref za, .ref ya, .int 0])), (wa, .inl (cI, 70, .inl (upd (upd (upd (upd (upd (fun _ => 0) 0 1) 1 400) 2 80) 4 2) 5 30))), (ra, .inl (cI, 7, .inl (fun _ => 0)))] sz)) 0 0 (va_A [(g0, .inr (5, [.ref ra, .ref wa, .ref ta, .int 0, .ref ma, .int 0, .ref pa, .int 0, .int 0, .int 0, .ref ba, .ref ka, .int 0, .ref fa, .ref qa, .ref ea, .ref za, .ref ya, .int 0])), (wa, .inl (cI, 70, .inl (upd (upd (upd (upd (upd (fun _ => 0) 0 1) 1 400) 2 80) 4 2) 5 30))), (ra, .inl (cI, 7, .inl (fun _ => 0)))] sz) := by
  refine Met.ofW (cc := cX5_letGo) (maxL := 5) (ret := (some .int)) (by decide) rfl ?_
  intro p e s m args below meth c s₁ B hml hv
  obtain ⟨rfl, hsz, hP, hK, hD0⟩ := hv
  have hx := B.exec
  have hb := B.bytes
  have hr := B.returns
  have hts := atoms_spec (ws := wsX5_letGo) B.pre
  have hown : s.vm.findClass RX5 = some m.cls := findClass_of_methodNamed B.named
  have hlocks := B.notSynchronized
  subst hsz
  have hD := hD0.self (sz := s.heap.size)
  generalize hAe : va_A [(g0, .inr (5, [.ref ra, .ref wa, .ref ta, .int 0, .ref ma, .int 0, .ref pa, .int 0, .int 0, .int 0, .ref ba, .ref ka, .int 0, .ref fa, .ref qa, .ref ea, .ref za, .ref ya, .int 0])), (wa, .inl (cI, 70, .inl (upd (upd (upd (upd (upd (fun _ => 0) 0 1) 1 400) 2 80) 4 2) 5 30))), (ra, .inl (cI, 7, .inl (fun _ => 0)))] s.heap.size = A at hD ⊢
  have hA : ∀ q : Nat, s.heap.size ≤ q → A q := fun q h => by rw [← hAe]; exact Or.inr h
  have hS : va_S A s.heap s.heap [] := va_S.rf
  have hP : va_P D vwCl [(g0, .inr (5, [.ref ra, .ref wa, .ref ta, .int 0, .ref ma, .int 0, .ref pa, .int 0, .int 0, .int 0, .ref ba, .ref ka, .int 0, .ref fa, .ref qa, .ref ea, .ref za, .ref ya, .int 0])), (wa, .inl (cI, 70, .inl (upd (upd (upd (upd (upd (fun _ => 0) 0 1) 1 400) 2 80) 4 2) 5 30))), (ra, .inl (cI, 7, .inl (fun _ => 0)))] s.heap := hP
  have hl := lv_entry ([.ref g0, .int a1, .int a2]) (n := 5) (Nat.le_of_ble_eq_true rfl)
  rw [lg_entry_eq]
  generalize (lg_sl ([.ref g0, .int a1, .int a2]) ++ List.replicate (5 - (lg_sl ([.ref g0, .int a1, .int a2])).length) Slot.unset).toArray = ls at hl ⊢
  have hl : lv_has ls 5 [(0, .ref g0), (1, .int a1), (2, .int a2)] := hl
  refine lv_aload_n hx hb dX5_letGo_0 rfl (lv_at hl 0 rfl) ?_
  refine lv_iload_n hx hb dX5_letGo_1 rfl (lv_at hl 1 rfl) ?_
  have hPc := hP.sub (ws' := [(g0, .inr (5, [.ref ra, .ref wa, .ref ta, .int 0, .ref ma, .int 0, .ref pa, .int 0, .int 0, .int 0, .ref ba, .ref ka, .int 0, .ref fa, .ref qa, .ref ea, .ref za, .ref ya, .int 0])), (wa, .inl (cI, 70, .inl (upd (upd (upd (upd (upd (fun _ => 0) 0 1) 1 400) 2 80) 4 2) 5 30)))]) [0, 1] rfl
  refine vp_callSi (va_Run.run (va_runV (As := [.int a1]) (rest := []) ⟨hx, hb, hml, hown, hts⟩ (c_X5_isNoLine l D cI cL cZ cC g0 ra wa ta ma pa ba ka fa qa ea za ya a1 ) (cwV 1 hts gX5_letGo_X5_isNoLine rfl rfl rfl (by decide +kernel) ⟨Nat.le_of_ble_eq_true rfl, Nat.le_of_ble_eq_true rfl⟩) ⟨xPc_bl, va_recv hK hPc (ci := 5) (q0 := 0) rfl rfl, xPc_use hPc hK⟩ rfl rfl hl.1 rfl (lv_room (Nat.le_of_ble_eq_true rfl)) dX5_letGo_2 ⟨Nat.le_of_ble_eq_true rfl, Nat.le_of_ble_eq_true rfl⟩)) (fun r_1 er_1 => ?_)
  obtain rfl : (1 : Int32) = r_1 := Eq.symm er_1
  refine lv_if_ne (tgt := 21) hx hb dX5_letGo_5 (by decide) (fun c_2 => ?_) (fun c_2 => absurd c_2 (by decide +kernel))
  refine lv_aload_n hx hb dX5_letGo_21 rfl (lv_at hl 0 rfl) ?_
  refine lv_iconst (v := -1) hx hb dX5_letGo_22 (by decide) ?_
  have hPc := hP.sub (ws' := [(g0, .inr (5, [.ref ra, .ref wa, .ref ta, .int 0, .ref ma, .int 0, .ref pa, .int 0, .int 0, .int 0, .ref ba, .ref ka, .int 0, .ref fa, .ref qa, .ref ea, .ref za, .ref ya, .int 0])), (ra, .inl (cI, 7, .inl (fun _ => 0)))]) [0, 2] rfl
  have hDc := hD.sub (ws' := [(g0, .inr (5, [.ref ra, .ref wa, .ref ta, .int 0, .ref ma, .int 0, .ref pa, .int 0, .int 0, .int 0, .ref ba, .ref ka, .int 0, .ref fa, .ref qa, .ref ea, .ref za, .ref ya, .int 0])), (ra, .inl (cI, 7, .inl (fun _ => 0)))]) [0, 2] (by decide) rfl
  have hFc := va_free (wc := [(g0, .inr (5, [.ref ra, .ref wa, .ref ta, .int 0, .ref ma, .int 0, .ref pa, .int 0, .int 0, .int 0, .ref ba, .ref ka, .int 0, .ref fa, .ref qa, .ref ea, .ref za, .ref ya, .int 0])), (ra, .inl (cI, 7, .inl (fun _ => 0)))]) hD hS hA [0, 2] rfl
  refine va_calli (va_runV (As := [.int (-1)]) (rest := []) ⟨hx, hb, hml, hown, hts⟩ (c_X5_no l D cI cL cZ cC _ g0 ra wa ta ma pa ba ka fa qa ea za ya (fun _ => 0) (-1) (by first | assumption | decide +kernel) (by first | assumption | decide +kernel)) (cwV 1 hts gX5_letGo_X5_no rfl rfl rfl (by decide +kernel) ⟨Nat.le_of_ble_eq_true rfl, Nat.le_of_ble_eq_true rfl⟩) ⟨wPc_bl, va_recv hK hPc (ci := 5) (q0 := 0) rfl rfl, wPc_use hPc hK hDc⟩ rfl rfl hl.1 rfl (lv_room (Nat.le_of_ble_eq_true rfl)) dX5_letGo_23 ⟨Nat.le_of_ble_eq_true rfl, Nat.le_of_ble_eq_true rfl⟩) hS (fun q _ h => hFc q h) hFc (fun r_3 u_3 t H1 locs ht hvm hw hB hz1 hk1 hS => ?_)
  obtain ⟨hP1, hD1⟩ := hB
  rw [ht] at hP1
  obtain ⟨hP, hD⟩ := va_join (wr := [(wa, .inl (cI, 70, .inl (upd (upd (upd (upd (upd (fun _ => 0) 0 1) 1 400) 2 80) 4 2) 5 30)))]) (w1 := [(g0, .inr (5, [.ref ra, .ref wa, .ref ta, .int 0, .ref ma, .int 0, .ref pa, .int 0, .int 0, .int 0, .ref ba, .ref ka, .int 0, .ref fa, .ref qa, .ref ea, .ref za, .ref ya, .int 0])), (ra, .inl (cI, 7, .inl (xRf (fun _ => 0) (-1))))]) hP hD [0, 2] [1] rfl rfl (by decide) (by decide) hk1 hFc hP1 hD1
  generalize H1 = H at hP hS ⊢
  have hP : va_P D vwCl [(wa, .inl (cI, 70, .inl (upd (upd (upd (upd (upd (fun _ => 0) 0 1) 1 400) 2 80) 4 2) 5 30))), (g0, .inr (5, [.ref ra, .ref wa, .ref ta, .int 0, .ref ma, .int 0, .ref pa, .int 0, .int 0, .int 0, .ref ba, .ref ka, .int 0, .ref fa, .ref qa, .ref ea, .ref za, .ref ya, .int 0])), (ra, .inl (cI, 7, .inl (xRf (fun _ => 0) (-1))))] H := hP
  have hD : va_D A [(wa, .inl (cI, 70, .inl (upd (upd (upd (upd (upd (fun _ => 0) 0 1) 1 400) 2 80) 4 2) 5 30))), (g0, .inr (5, [.ref ra, .ref wa, .ref ta, .int 0, .ref ma, .int 0, .ref pa, .int 0, .int 0, .int 0, .ref ba, .ref ka, .int 0, .ref fa, .ref qa, .ref ea, .ref za, .ref ya, .int 0])), (ra, .inl (cI, 7, .inl (xRf (fun _ => 0) (-1))))] := hD
  obtain rfl : ((-1) : Int32) = r_3 := Eq.symm hw
  have hP9 := hP.sub (ws' := []) [] rfl
  have hD9 := hD.sub (ws' := []) [] (by decide) rfl
  exact W.iret (v := -1) hx hb hr (fun t ht hW => ⟨⟨_, (), rfl, rfl, by rw [ht]; exact hP9, hD9⟩, hS.F ht⟩) hS.2.2 dX5_letGo_26

set_option maxHeartbeats 4000000 in
set_option maxRecDepth 100000 in
theorem p1_X5_letMean (l : Launch) (D : va_G) (cI cL cZ cC : ClassId) (sz : Nat) (g0 : Nat) (ra : Nat) (wa : Nat) (ta : Nat) (ma : Nat) (pa : Nat) (ba : Nat) (ka : Nat) (fa : Nat) (qa : Nat) (ea : Nat) (za : Nat) (ya : Nat) (a1 : Int32) (a2 : Int32) (a3 : Int32) (a4 : Int32)  : Met l yX5_letMean wsX5_letMean ({ frames := 2, cells := 0, slots := 0, locals := 42 } : Room) (wPc D [.ref g0, .int a1, .int a2, .int a3, .int a4] [(g0, .inr (5, [.ref ra, .ref wa, .ref ta, .int 0, .ref ma, .int 0, .ref pa, .int 0, .int 0, .int 0, .ref ba, .ref ka, .int 0, .ref fa, .ref qa, .ref ea, .ref za, .ref ya, .int 0])), (wa, .inl (cI, 70, .inl (upd (upd (upd (upd (upd (fun _ => 0) 0 1) 1 400) 2 80) 4 2) 5 30))), (ra, .inl (cI, 7, .inl (fun _ => 0)))] (xTy cI cL cZ cC) sz) (va_Ql (fun (r : Int64) (_ : Unit) => r = xLg (-1)) (fun (_ : Unit) t => va_P D vwCl [] t.heap ∧ va_D (va_A [(g0, .inr (5, [.ref ra, .ref wa, .ref ta, .int 0, .ref ma, .int 0, .ref pa, .int 0, .int 0, .int 0, .ref ba, .ref ka, .int 0, .ref fa, .ref qa, .ref ea, .ref za, .ref ya, .int 0])), (wa, .inl (cI, 70, .inl (upd (upd (upd (upd (upd (fun _ => 0) 0 1) 1 400) 2 80) 4 2) 5 30))), (ra, .inl (cI, 7, .inl (fun _ => 0)))] sz) []) (va_A [(g0, .inr (5, [.ref ra, .ref wa, .ref ta, .int 0, .ref ma, .int 0, .ref pa, .int 0, .int 0, .int 0, .ref ba, .ref ka, .int 0, .ref fa, .ref qa, .ref ea, .ref za, .ref ya, .int 0])), (wa, .inl (cI, 70, .inl (upd (upd (upd (upd (upd (fun _ => 0) 0 1) 1 400) 2 80) 4 2) 5 30))), (ra, .inl (cI, 7, .inl (fun _ => 0)))] sz)) 0 0 (va_A [(g0, .inr (5, [.ref ra, .ref wa, .ref ta, .int 0, .ref ma, .int 0, .ref pa, .int 0, .int 0, .int 0, .ref ba, .ref ka, .int 0, .ref fa, .ref qa, .ref ea, .ref za, .ref ya, .int 0])), (wa, .inl (cI, 70, .inl (upd (upd (upd (upd (upd (fun _ => 0) 0 1) 1 400) 2 80) 4 2) 5 30))), (ra, .inl (cI, 7, .inl (fun _ => 0)))] sz) := by
  refine Met.ofW (cc := cX5_letMean) (maxL := 5) (ret := (some .long)) (by decide) rfl ?_
  intro p e s m args below meth c s₁ B hml hv
  obtain ⟨rfl, hsz, hP, hK, hD0⟩ := hv
  have hx := B.exec
  have hb := B.bytes
  have hr := B.returns
  have hts := atoms_spec (ws := wsX5_letMean) B.pre
  have hown : s.vm.findClass RX5 = some m.cls := findClass_of_methodNamed B.named
  have hlocks := B.notSynchronized
  subst hsz
  have hD := hD0.self (sz := s.heap.size)
  generalize hAe : va_A [(g0, .inr (5, [.ref ra, .ref wa, .ref ta, .int 0, .ref ma, .int 0, .ref pa, .int 0, .int 0, .int 0, .ref ba, .ref ka, .int 0, .ref fa, .ref qa, .ref ea, .ref za, .ref ya, .int 0])), (wa, .inl (cI, 70, .inl (upd (upd (upd (upd (upd (fun _ => 0) 0 1) 1 400) 2 80) 4 2) 5 30))), (ra, .inl (cI, 7, .inl (fun _ => 0)))] s.heap.size = A at hD ⊢
  have hA : ∀ q : Nat, s.heap.size ≤ q → A q := fun q h => by rw [← hAe]; exact Or.inr h
  have hS : va_S A s.heap s.heap [] := va_S.rf
  have hP : va_P D vwCl [(g0, .inr (5, [.ref ra, .ref wa, .ref ta, .int 0, .ref ma, .int 0, .ref pa, .int 0, .int 0, .int 0, .ref ba, .ref ka, .int 0, .ref fa, .ref qa, .ref ea, .ref za, .ref ya, .int 0])), (wa, .inl (cI, 70, .inl (upd (upd (upd (upd (upd (fun _ => 0) 0 1) 1 400) 2 80) 4 2) 5 30))), (ra, .inl (cI, 7, .inl (fun _ => 0)))] s.heap := hP
  have hl := lv_entry ([.ref g0, .int a1, .int a2, .int a3, .int a4]) (n := 5) (Nat.le_of_ble_eq_true rfl)
  rw [lg_entry_eq]
  generalize (lg_sl ([.ref g0, .int a1, .int a2, .int a3, .int a4]) ++ List.replicate (5 - (lg_sl ([.ref g0, .int a1, .int a2, .int a3, .int a4])).length) Slot.unset).toArray = ls at hl ⊢
  have hl : lv_has ls 5 [(0, .ref g0), (1, .int a1), (2, .int a2), (3, .int a3), (4, .int a4)] := hl
  refine lv_aload_n hx hb dX5_letMean_0 rfl (lv_at hl 0 rfl) ?_
  refine lv_iload_n hx hb dX5_letMean_1 rfl (lv_at hl 1 rfl) ?_
  have hPc := hP.sub (ws' := [(g0, .inr (5, [.ref ra, .ref wa, .ref ta, .int 0, .ref ma, .int 0, .ref pa, .int 0, .int 0, .int 0, .ref ba, .ref ka, .int 0, .ref fa, .ref qa, .ref ea, .ref za, .ref ya, .int 0])), (wa, .inl (cI, 70, .inl (upd (upd (upd (upd (upd (fun _ => 0) 0 1) 1 400) 2 80) 4 2) 5 30)))]) [0, 1] rfl
  refine vp_callSi (va_Run.run (va_runV (As := [.int a1]) (rest := []) ⟨hx, hb, hml, hown, hts⟩ (c_X5_isNoLine l D cI cL cZ cC g0 ra wa ta ma pa ba ka fa qa ea za ya a1 ) (cwV 1 hts gX5_letMean_X5_isNoLine rfl rfl rfl (by decide +kernel) ⟨Nat.le_of_ble_eq_true rfl, Nat.le_of_ble_eq_true rfl⟩) ⟨xPc_bl, va_recv hK hPc (ci := 5) (q0 := 0) rfl rfl, xPc_use hPc hK⟩ rfl rfl hl.1 rfl (lv_room (Nat.le_of_ble_eq_true rfl)) dX5_letMean_2 ⟨Nat.le_of_ble_eq_true rfl, Nat.le_of_ble_eq_true rfl⟩)) (fun r_1 er_1 => ?_)
  obtain rfl : (1 : Int32) = r_1 := Eq.symm er_1
  refine lv_if_ne (tgt := 21) hx hb dX5_letMean_5 (by decide) (fun c_2 => ?_) (fun c_2 => absurd c_2 (by decide +kernel))
  refine lv_aload_n hx hb dX5_letMean_21 rfl (lv_at hl 0 rfl) ?_
  refine lv_iconst (v := -1) hx hb dX5_letMean_22 (by decide) ?_
  have hPc := hP.sub (ws' := [(g0, .inr (5, [.ref ra, .ref wa, .ref ta, .int 0, .ref ma, .int 0, .ref pa, .int 0, .int 0, .int 0, .ref ba, .ref ka, .int 0, .ref fa, .ref qa, .ref ea, .ref za, .ref ya, .int 0])), (ra, .inl (cI, 7, .inl (fun _ => 0)))]) [0, 2] rfl
  have hDc := hD.sub (ws' := [(g0, .inr (5, [.ref ra, .ref wa, .ref ta, .int 0, .ref ma, .int 0, .ref pa, .int 0, .int 0, .int 0, .ref ba, .ref ka, .int 0, .ref fa, .ref qa, .ref ea, .ref za, .ref ya, .int 0])), (ra, .inl (cI, 7, .inl (fun _ => 0)))]) [0, 2] (by decide) rfl
  have hFc := va_free (wc := [(g0, .inr (5, [.ref ra, .ref wa, .ref ta, .int 0, .ref ma, .int 0, .ref pa, .int 0, .int 0, .int 0, .ref ba, .ref ka, .int 0, .ref fa, .ref qa, .ref ea, .ref za, .ref ya, .int 0])), (ra, .inl (cI, 7, .inl (fun _ => 0)))]) hD hS hA [0, 2] rfl
  refine va_calll (va_runV (As := [.int (-1)]) (rest := []) ⟨hx, hb, hml, hown, hts⟩ (c_X5_noLong l D cI cL cZ cC _ g0 ra wa ta ma pa ba ka fa qa ea za ya (fun _ => 0) (-1) (by first | assumption | decide +kernel) (by first | assumption | decide +kernel)) (cwV 1 hts gX5_letMean_X5_noLong rfl rfl rfl (by decide +kernel) ⟨Nat.le_of_ble_eq_true rfl, Nat.le_of_ble_eq_true rfl⟩) ⟨wPc_bl, va_recv hK hPc (ci := 5) (q0 := 0) rfl rfl, wPc_use hPc hK hDc⟩ rfl rfl hl.1 rfl (lv_room (Nat.le_of_ble_eq_true rfl)) dX5_letMean_23 ⟨Nat.le_of_ble_eq_true rfl, Nat.le_of_ble_eq_true rfl⟩) hS (fun q _ h => hFc q h) hFc (fun r_3 u_3 t H1 locs ht hvm hw hB hz1 hk1 hS => ?_)
  obtain ⟨hP1, hD1⟩ := hB
  rw [ht] at hP1
  obtain ⟨hP, hD⟩ := va_join (wr := [(wa, .inl (cI, 70, .inl (upd (upd (upd (upd (upd (fun _ => 0) 0 1) 1 400) 2 80) 4 2) 5 30)))]) (w1 := [(g0, .inr (5, [.ref ra, .ref wa, .ref ta, .int 0, .ref ma, .int 0, .ref pa, .int 0, .int 0, .int 0, .ref ba, .ref ka, .int 0, .ref fa, .ref qa, .ref ea, .ref za, .ref ya, .int 0])), (ra, .inl (cI, 7, .inl (xRf (fun _ => 0) (-1))))]) hP hD [0, 2] [1] rfl rfl (by decide) (by decide) hk1 hFc hP1 hD1
  generalize H1 = H at hP hS ⊢
  have hP : va_P D vwCl [(wa, .inl (cI, 70, .inl (upd (upd (upd (upd (upd (fun _ => 0) 0 1) 1 400) 2 80) 4 2) 5 30))), (g0, .inr (5, [.ref ra, .ref wa, .ref ta, .int 0, .ref ma, .int 0, .ref pa, .int 0, .int 0, .int 0, .ref ba, .ref ka, .int 0, .ref fa, .ref qa, .ref ea, .ref za, .ref ya, .int 0])), (ra, .inl (cI, 7, .inl (xRf (fun _ => 0) (-1))))] H := hP
  have hD : va_D A [(wa, .inl (cI, 70, .inl (upd (upd (upd (upd (upd (fun _ => 0) 0 1) 1 400) 2 80) 4 2) 5 30))), (g0, .inr (5, [.ref ra, .ref wa, .ref ta, .int 0, .ref ma, .int 0, .ref pa, .int 0, .int 0, .int 0, .ref ba, .ref ka, .int 0, .ref fa, .ref qa, .ref ea, .ref za, .ref ya, .int 0])), (ra, .inl (cI, 7, .inl (xRf (fun _ => 0) (-1))))] := hD
  obtain rfl : (xLg (-1 : Int32) : Int64) = r_3 := Eq.symm hw
  have hP9 := hP.sub (ws' := []) [] rfl
  have hD9 := hD.sub (ws' := []) [] (by decide) rfl
  exact W.lret (v := xLg (-1 : Int32)) hx hb hr (fun t ht hW => ⟨⟨_, (), rfl, rfl, by rw [ht]; exact hP9, hD9⟩, hS.F ht⟩) hS.2.2 dX5_letMean_26

set_option maxHeartbeats 4000000 in
set_option maxRecDepth 100000 in
theorem p1_X5_gone (l : Launch) (D : va_G) (cI cL cZ cC : ClassId) (sz : Nat) (g0 : Nat) (ra : Nat) (wa : Nat) (ta : Nat) (ma : Nat) (pa : Nat) (ba : Nat) (ka : Nat) (fa : Nat) (qa : Nat) (ea : Nat) (za : Nat) (ya : Nat) (a1 : Int32) (a2 : Int32) (a3 : Int32) (a4 : Int32)  : Met l yX5_gone wsX5_gone ({ frames := 2, cells := 0, slots := 0, locals := 42 } : Room) (wPc D [.ref g0, .int a1, .int a2, .int a3, .int a4] [(g0, .inr (5, [.ref ra, .ref wa, .ref ta, .int 0, .ref ma, .int 0, .ref pa, .int 0, .int 0, .int 0, .ref ba, .ref ka, .int 0, .ref fa, .ref qa, .ref ea, .ref za, .ref ya, .int 0])), (wa, .inl (cI, 70, .inl (upd (upd (upd (upd (upd (fun _ => 0) 0 1) 1 400) 2 80) 4 2) 5 30))), (ra, .inl (cI, 7, .inl (fun _ => 0)))] (xTy cI cL cZ cC) sz) (va_Ql (fun (r : Int64) (_ : Unit) => r = xLg (-1)) (fun (_ : Unit) t => va_P D vwCl [] t.heap ∧ va_D (va_A [(g0, .inr (5, [.ref ra, .ref wa, .ref ta, .int 0, .ref ma, .int 0, .ref pa, .int 0, .int 0, .int 0, .ref ba, .ref ka, .int 0, .ref fa, .ref qa, .ref ea, .ref za, .ref ya, .int 0])), (wa, .inl (cI, 70, .inl (upd (upd (upd (upd (upd (fun _ => 0) 0 1) 1 400) 2 80) 4 2) 5 30))), (ra, .inl (cI, 7, .inl (fun _ => 0)))] sz) []) (va_A [(g0, .inr (5, [.ref ra, .ref wa, .ref ta, .int 0, .ref ma, .int 0, .ref pa, .int 0, .int 0, .int 0, .ref ba, .ref ka, .int 0, .ref fa, .ref qa, .ref ea, .ref za, .ref ya, .int 0])), (wa, .inl (cI, 70, .inl (upd (upd (upd (upd (upd (fun _ => 0) 0 1) 1 400) 2 80) 4 2) 5 30))), (ra, .inl (cI, 7, .inl (fun _ => 0)))] sz)) 0 0 (va_A [(g0, .inr (5, [.ref ra, .ref wa, .ref ta, .int 0, .ref ma, .int 0, .ref pa, .int 0, .int 0, .int 0, .ref ba, .ref ka, .int 0, .ref fa, .ref qa, .ref ea, .ref za, .ref ya, .int 0])), (wa, .inl (cI, 70, .inl (upd (upd (upd (upd (upd (fun _ => 0) 0 1) 1 400) 2 80) 4 2) 5 30))), (ra, .inl (cI, 7, .inl (fun _ => 0)))] sz) := by
  refine Met.ofW (cc := cX5_gone) (maxL := 5) (ret := (some .long)) (by decide) rfl ?_
  intro p e s m args below meth c s₁ B hml hv
  obtain ⟨rfl, hsz, hP, hK, hD0⟩ := hv
  have hx := B.exec
  have hb := B.bytes
  have hr := B.returns
  have hts := atoms_spec (ws := wsX5_gone) B.pre
  have hown : s.vm.findClass RX5 = some m.cls := findClass_of_methodNamed B.named
  have hlocks := B.notSynchronized
  subst hsz
  have hD := hD0.self (sz := s.heap.size)
  generalize hAe : va_A [(g0, .inr (5, [.ref ra, .ref wa, .ref ta, .int 0, .ref ma, .int 0, .ref pa, .int 0, .int 0, .int 0, .ref ba, .ref ka, .int 0, .ref fa, .ref qa, .ref ea, .ref za, .ref ya, .int 0])), (wa, .inl (cI, 70, .inl (upd (upd (upd (upd (upd (fun _ => 0) 0 1) 1 400) 2 80) 4 2) 5 30))), (ra, .inl (cI, 7, .inl (fun _ => 0)))] s.heap.size = A at hD ⊢
  have hA : ∀ q : Nat, s.heap.size ≤ q → A q := fun q h => by rw [← hAe]; exact Or.inr h
  have hS : va_S A s.heap s.heap [] := va_S.rf
  have hP : va_P D vwCl [(g0, .inr (5, [.ref ra, .ref wa, .ref ta, .int 0, .ref ma, .int 0, .ref pa, .int 0, .int 0, .int 0, .ref ba, .ref ka, .int 0, .ref fa, .ref qa, .ref ea, .ref za, .ref ya, .int 0])), (wa, .inl (cI, 70, .inl (upd (upd (upd (upd (upd (fun _ => 0) 0 1) 1 400) 2 80) 4 2) 5 30))), (ra, .inl (cI, 7, .inl (fun _ => 0)))] s.heap := hP
  have hl := lv_entry ([.ref g0, .int a1, .int a2, .int a3, .int a4]) (n := 5) (Nat.le_of_ble_eq_true rfl)
  rw [lg_entry_eq]
  generalize (lg_sl ([.ref g0, .int a1, .int a2, .int a3, .int a4]) ++ List.replicate (5 - (lg_sl ([.ref g0, .int a1, .int a2, .int a3, .int a4])).length) Slot.unset).toArray = ls at hl ⊢
  have hl : lv_has ls 5 [(0, .ref g0), (1, .int a1), (2, .int a2), (3, .int a3), (4, .int a4)] := hl
  refine lv_aload_n hx hb dX5_gone_0 rfl (lv_at hl 0 rfl) ?_
  refine lv_iload_n hx hb dX5_gone_1 rfl (lv_at hl 1 rfl) ?_
  have hPc := hP.sub (ws' := [(g0, .inr (5, [.ref ra, .ref wa, .ref ta, .int 0, .ref ma, .int 0, .ref pa, .int 0, .int 0, .int 0, .ref ba, .ref ka, .int 0, .ref fa, .ref qa, .ref ea, .ref za, .ref ya, .int 0])), (wa, .inl (cI, 70, .inl (upd (upd (upd (upd (upd (fun _ => 0) 0 1) 1 400) 2 80) 4 2) 5 30)))]) [0, 1] rfl
  refine vp_callSi (va_Run.run (va_runV (As := [.int a1]) (rest := []) ⟨hx, hb, hml, hown, hts⟩ (c_X5_isNoLine l D cI cL cZ cC g0 ra wa ta ma pa ba ka fa qa ea za ya a1 ) (cwV 1 hts gX5_gone_X5_isNoLine rfl rfl rfl (by decide +kernel) ⟨Nat.le_of_ble_eq_true rfl, Nat.le_of_ble_eq_true rfl⟩) ⟨xPc_bl, va_recv hK hPc (ci := 5) (q0 := 0) rfl rfl, xPc_use hPc hK⟩ rfl rfl hl.1 rfl (lv_room (Nat.le_of_ble_eq_true rfl)) dX5_gone_2 ⟨Nat.le_of_ble_eq_true rfl, Nat.le_of_ble_eq_true rfl⟩)) (fun r_1 er_1 => ?_)
  obtain rfl : (1 : Int32) = r_1 := Eq.symm er_1
  refine lv_if_ne (tgt := 16) hx hb dX5_gone_5 (by decide) (fun c_2 => ?_) (fun c_2 => absurd c_2 (by decide +kernel))
  refine lv_aload_n hx hb dX5_gone_16 rfl (lv_at hl 0 rfl) ?_
  refine lv_iconst (v := -1) hx hb dX5_gone_17 (by decide) ?_
  have hPc := hP.sub (ws' := [(g0, .inr (5, [.ref ra, .ref wa, .ref ta, .int 0, .ref ma, .int 0, .ref pa, .int 0, .int 0, .int 0, .ref ba, .ref ka, .int 0, .ref fa, .ref qa, .ref ea, .ref za, .ref ya, .int 0])), (ra, .inl (cI, 7, .inl (fun _ => 0)))]) [0, 2] rfl
  have hDc := hD.sub (ws' := [(g0, .inr (5, [.ref ra, .ref wa, .ref ta, .int 0, .ref ma, .int 0, .ref pa, .int 0, .int 0, .int 0, .ref ba, .ref ka, .int 0, .ref fa, .ref qa, .ref ea, .ref za, .ref ya, .int 0])), (ra, .inl (cI, 7, .inl (fun _ => 0)))]) [0, 2] (by decide) rfl
  have hFc := va_free (wc := [(g0, .inr (5, [.ref ra, .ref wa, .ref ta, .int 0, .ref ma, .int 0, .ref pa, .int 0, .int 0, .int 0, .ref ba, .ref ka, .int 0, .ref fa, .ref qa, .ref ea, .ref za, .ref ya, .int 0])), (ra, .inl (cI, 7, .inl (fun _ => 0)))]) hD hS hA [0, 2] rfl
  refine va_calll (va_runV (As := [.int (-1)]) (rest := []) ⟨hx, hb, hml, hown, hts⟩ (c_X5_noLong l D cI cL cZ cC _ g0 ra wa ta ma pa ba ka fa qa ea za ya (fun _ => 0) (-1) (by first | assumption | decide +kernel) (by first | assumption | decide +kernel)) (cwV 1 hts gX5_gone_X5_noLong rfl rfl rfl (by decide +kernel) ⟨Nat.le_of_ble_eq_true rfl, Nat.le_of_ble_eq_true rfl⟩) ⟨wPc_bl, va_recv hK hPc (ci := 5) (q0 := 0) rfl rfl, wPc_use hPc hK hDc⟩ rfl rfl hl.1 rfl (lv_room (Nat.le_of_ble_eq_true rfl)) dX5_gone_18 ⟨Nat.le_of_ble_eq_true rfl, Nat.le_of_ble_eq_true rfl⟩) hS (fun q _ h => hFc q h) hFc (fun r_3 u_3 t H1 locs ht hvm hw hB hz1 hk1 hS => ?_)
  obtain ⟨hP1, hD1⟩ := hB
  rw [ht] at hP1
  obtain ⟨hP, hD⟩ := va_join (wr := [(wa, .inl (cI, 70, .inl (upd (upd (upd (upd (upd (fun _ => 0) 0 1) 1 400) 2 80) 4 2) 5 30)))]) (w1 := [(g0, .inr (5, [.ref ra, .ref wa, .ref ta, .int 0, .ref ma, .int 0, .ref pa, .int 0, .int 0, .int 0, .ref ba, .ref ka, .int 0, .ref fa, .ref qa, .ref ea, .ref za, .ref ya, .int 0])), (ra, .inl (cI, 7, .inl (xRf (fun _ => 0) (-1))))]) hP hD [0, 2] [1] rfl rfl (by decide) (by decide) hk1 hFc hP1 hD1
  generalize H1 = H at hP hS ⊢
  have hP : va_P D vwCl [(wa, .inl (cI, 70, .inl (upd (upd (upd (upd (upd (fun _ => 0) 0 1) 1 400) 2 80) 4 2) 5 30))), (g0, .inr (5, [.ref ra, .ref wa, .ref ta, .int 0, .ref ma, .int 0, .ref pa, .int 0, .int 0, .int 0, .ref ba, .ref ka, .int 0, .ref fa, .ref qa, .ref ea, .ref za, .ref ya, .int 0])), (ra, .inl (cI, 7, .inl (xRf (fun _ => 0) (-1))))] H := hP
  have hD : va_D A [(wa, .inl (cI, 70, .inl (upd (upd (upd (upd (upd (fun _ => 0) 0 1) 1 400) 2 80) 4 2) 5 30))), (g0, .inr (5, [.ref ra, .ref wa, .ref ta, .int 0, .ref ma, .int 0, .ref pa, .int 0, .int 0, .int 0, .ref ba, .ref ka, .int 0, .ref fa, .ref qa, .ref ea, .ref za, .ref ya, .int 0])), (ra, .inl (cI, 7, .inl (xRf (fun _ => 0) (-1))))] := hD
  obtain rfl : (xLg (-1 : Int32) : Int64) = r_3 := Eq.symm hw
  have hP9 := hP.sub (ws' := []) [] rfl
  have hD9 := hD.sub (ws' := []) [] (by decide) rfl
  exact W.lret (v := xLg (-1 : Int32)) hx hb hr (fun t ht hW => ⟨⟨_, (), rfl, rfl, by rw [ht]; exact hP9, hD9⟩, hS.F ht⟩) hS.2.2 dX5_gone_21

set_option maxHeartbeats 4000000 in
set_option maxRecDepth 100000 in
theorem p1_X5_stood (l : Launch) (D : va_G) (cI cL cZ cC : ClassId) (sz : Nat) (g0 : Nat) (ra : Nat) (wa : Nat) (ta : Nat) (ma : Nat) (pa : Nat) (ba : Nat) (ka : Nat) (fa : Nat) (qa : Nat) (ea : Nat) (za : Nat) (ya : Nat) (a1 : Int32) (a2 : Int32) (a3 : Int32) (a4 : Int32) (a5 : Int32)  : Met l yX5_stood wsX5_stood ({ frames := 2, cells := 0, slots := 0, locals := 42 } : Room) (wPc D [.ref g0, .int a1, .int a2, .int a3, .int a4, .int a5] [(g0, .inr (5, [.ref ra, .ref wa, .ref ta, .int 0, .ref ma, .int 0, .ref pa, .int 0, .int 0, .int 0, .ref ba, .ref ka, .int 0, .ref fa, .ref qa, .ref ea, .ref za, .ref ya, .int 0])), (wa, .inl (cI, 70, .inl (upd (upd (upd (upd (upd (fun _ => 0) 0 1) 1 400) 2 80) 4 2) 5 30))), (ra, .inl (cI, 7, .inl (fun _ => 0)))] (xTy cI cL cZ cC) sz) (va_Ql (fun (r : Int64) (_ : Unit) => r = xLg (-1)) (fun (_ : Unit) t => va_P D vwCl [] t.heap ∧ va_D (va_A [(g0, .inr (5, [.ref ra, .ref wa, .ref ta, .int 0, .ref ma, .int 0, .ref pa, .int 0, .int 0, .int 0, .ref ba, .ref ka, .int 0, .ref fa, .ref qa, .ref ea, .ref za, .ref ya, .int 0])), (wa, .inl (cI, 70, .inl (upd (upd (upd (upd (upd (fun _ => 0) 0 1) 1 400) 2 80) 4 2) 5 30))), (ra, .inl (cI, 7, .inl (fun _ => 0)))] sz) []) (va_A [(g0, .inr (5, [.ref ra, .ref wa, .ref ta, .int 0, .ref ma, .int 0, .ref pa, .int 0, .int 0, .int 0, .ref ba, .ref ka, .int 0, .ref fa, .ref qa, .ref ea, .ref za, .ref ya, .int 0])), (wa, .inl (cI, 70, .inl (upd (upd (upd (upd (upd (fun _ => 0) 0 1) 1 400) 2 80) 4 2) 5 30))), (ra, .inl (cI, 7, .inl (fun _ => 0)))] sz)) 0 0 (va_A [(g0, .inr (5, [.ref ra, .ref wa, .ref ta, .int 0, .ref ma, .int 0, .ref pa, .int 0, .int 0, .int 0, .ref ba, .ref ka, .int 0, .ref fa, .ref qa, .ref ea, .ref za, .ref ya, .int 0])), (wa, .inl (cI, 70, .inl (upd (upd (upd (upd (upd (fun _ => 0) 0 1) 1 400) 2 80) 4 2) 5 30))), (ra, .inl (cI, 7, .inl (fun _ => 0)))] sz) := by
  refine Met.ofW (cc := cX5_stood) (maxL := 7) (ret := (some .long)) (by decide) rfl ?_
  intro p e s m args below meth c s₁ B hml hv
  obtain ⟨rfl, hsz, hP, hK, hD0⟩ := hv
  have hx := B.exec
  have hb := B.bytes
  have hr := B.returns
  have hts := atoms_spec (ws := wsX5_stood) B.pre
  have hown : s.vm.findClass RX5 = some m.cls := findClass_of_methodNamed B.named
  have hlocks := B.notSynchronized
  subst hsz
  have hD := hD0.self (sz := s.heap.size)
  generalize hAe : va_A [(g0, .inr (5, [.ref ra, .ref wa, .ref ta, .int 0, .ref ma, .int 0, .ref pa, .int 0, .int 0, .int 0, .ref ba, .ref ka, .int 0, .ref fa, .ref qa, .ref ea, .ref za, .ref ya, .int 0])), (wa, .inl (cI, 70, .inl (upd (upd (upd (upd (upd (fun _ => 0) 0 1) 1 400) 2 80) 4 2) 5 30))), (ra, .inl (cI, 7, .inl (fun _ => 0)))] s.heap.size = A at hD ⊢
  have hA : ∀ q : Nat, s.heap.size ≤ q → A q := fun q h => by rw [← hAe]; exact Or.inr h
  have hS : va_S A s.heap s.heap [] := va_S.rf
  have hP : va_P D vwCl [(g0, .inr (5, [.ref ra, .ref wa, .ref ta, .int 0, .ref ma, .int 0, .ref pa, .int 0, .int 0, .int 0, .ref ba, .ref ka, .int 0, .ref fa, .ref qa, .ref ea, .ref za, .ref ya, .int 0])), (wa, .inl (cI, 70, .inl (upd (upd (upd (upd (upd (fun _ => 0) 0 1) 1 400) 2 80) 4 2) 5 30))), (ra, .inl (cI, 7, .inl (fun _ => 0)))] s.heap := hP
  have hl := lv_entry ([.ref g0, .int a1, .int a2, .int a3, .int a4, .int a5]) (n := 7) (Nat.le_of_ble_eq_true rfl)
  rw [lg_entry_eq]
  generalize (lg_sl ([.ref g0, .int a1, .int a2, .int a3, .int a4, .int a5]) ++ List.replicate (7 - (lg_sl ([.ref g0, .int a1, .int a2, .int a3, .int a4, .int a5])).length) Slot.unset).toArray = ls at hl ⊢
  have hl : lv_has ls 7 [(0, .ref g0), (1, .int a1), (2, .int a2), (3, .int a3), (4, .int a4), (5, .int a5)] := hl
  refine lv_aload_n hx hb dX5_stood_0 rfl (lv_at hl 0 rfl) ?_
  refine lv_iload_n hx hb dX5_stood_1 rfl (lv_at hl 1 rfl) ?_
  have hPc := hP.sub (ws' := [(g0, .inr (5, [.ref ra, .ref wa, .ref ta, .int 0, .ref ma, .int 0, .ref pa, .int 0, .int 0, .int 0, .ref ba, .ref ka, .int 0, .ref fa, .ref qa, .ref ea, .ref za, .ref ya, .int 0])), (wa, .inl (cI, 70, .inl (upd (upd (upd (upd (upd (fun _ => 0) 0 1) 1 400) 2 80) 4 2) 5 30)))]) [0, 1] rfl
  refine vp_callSi (va_Run.run (va_runV (As := [.int a1]) (rest := []) ⟨hx, hb, hml, hown, hts⟩ (c_X5_isNoLine l D cI cL cZ cC g0 ra wa ta ma pa ba ka fa qa ea za ya a1 ) (cwV 1 hts gX5_stood_X5_isNoLine rfl rfl rfl (by decide +kernel) ⟨Nat.le_of_ble_eq_true rfl, Nat.le_of_ble_eq_true rfl⟩) ⟨xPc_bl, va_recv hK hPc (ci := 5) (q0 := 0) rfl rfl, xPc_use hPc hK⟩ rfl rfl hl.1 rfl (lv_room (Nat.le_of_ble_eq_true rfl)) dX5_stood_2 ⟨Nat.le_of_ble_eq_true rfl, Nat.le_of_ble_eq_true rfl⟩)) (fun r_1 er_1 => ?_)
  obtain rfl : (1 : Int32) = r_1 := Eq.symm er_1
  refine lv_if_ne (tgt := 16) hx hb dX5_stood_5 (by decide) (fun c_2 => ?_) (fun c_2 => absurd c_2 (by decide +kernel))
  refine lv_aload_n hx hb dX5_stood_16 rfl (lv_at hl 0 rfl) ?_
  refine lv_iconst (v := -1) hx hb dX5_stood_17 (by decide) ?_
  have hPc := hP.sub (ws' := [(g0, .inr (5, [.ref ra, .ref wa, .ref ta, .int 0, .ref ma, .int 0, .ref pa, .int 0, .int 0, .int 0, .ref ba, .ref ka, .int 0, .ref fa, .ref qa, .ref ea, .ref za, .ref ya, .int 0])), (ra, .inl (cI, 7, .inl (fun _ => 0)))]) [0, 2] rfl
  have hDc := hD.sub (ws' := [(g0, .inr (5, [.ref ra, .ref wa, .ref ta, .int 0, .ref ma, .int 0, .ref pa, .int 0, .int 0, .int 0, .ref ba, .ref ka, .int 0, .ref fa, .ref qa, .ref ea, .ref za, .ref ya, .int 0])), (ra, .inl (cI, 7, .inl (fun _ => 0)))]) [0, 2] (by decide) rfl
  have hFc := va_free (wc := [(g0, .inr (5, [.ref ra, .ref wa, .ref ta, .int 0, .ref ma, .int 0, .ref pa, .int 0, .int 0, .int 0, .ref ba, .ref ka, .int 0, .ref fa, .ref qa, .ref ea, .ref za, .ref ya, .int 0])), (ra, .inl (cI, 7, .inl (fun _ => 0)))]) hD hS hA [0, 2] rfl
  refine va_calll (va_runV (As := [.int (-1)]) (rest := []) ⟨hx, hb, hml, hown, hts⟩ (c_X5_noLong l D cI cL cZ cC _ g0 ra wa ta ma pa ba ka fa qa ea za ya (fun _ => 0) (-1) (by first | assumption | decide +kernel) (by first | assumption | decide +kernel)) (cwV 1 hts gX5_stood_X5_noLong rfl rfl rfl (by decide +kernel) ⟨Nat.le_of_ble_eq_true rfl, Nat.le_of_ble_eq_true rfl⟩) ⟨wPc_bl, va_recv hK hPc (ci := 5) (q0 := 0) rfl rfl, wPc_use hPc hK hDc⟩ rfl rfl hl.1 rfl (lv_room (Nat.le_of_ble_eq_true rfl)) dX5_stood_18 ⟨Nat.le_of_ble_eq_true rfl, Nat.le_of_ble_eq_true rfl⟩) hS (fun q _ h => hFc q h) hFc (fun r_3 u_3 t H1 locs ht hvm hw hB hz1 hk1 hS => ?_)
  obtain ⟨hP1, hD1⟩ := hB
  rw [ht] at hP1
  obtain ⟨hP, hD⟩ := va_join (wr := [(wa, .inl (cI, 70, .inl (upd (upd (upd (upd (upd (fun _ => 0) 0 1) 1 400) 2 80) 4 2) 5 30)))]) (w1 := [(g0, .inr (5, [.ref ra, .ref wa, .ref ta, .int 0, .ref ma, .int 0, .ref pa, .int 0, .int 0, .int 0, .ref ba, .ref ka, .int 0, .ref fa, .ref qa, .ref ea, .ref za, .ref ya, .int 0])), (ra, .inl (cI, 7, .inl (xRf (fun _ => 0) (-1))))]) hP hD [0, 2] [1] rfl rfl (by decide) (by decide) hk1 hFc hP1 hD1
  generalize H1 = H at hP hS ⊢
  have hP : va_P D vwCl [(wa, .inl (cI, 70, .inl (upd (upd (upd (upd (upd (fun _ => 0) 0 1) 1 400) 2 80) 4 2) 5 30))), (g0, .inr (5, [.ref ra, .ref wa, .ref ta, .int 0, .ref ma, .int 0, .ref pa, .int 0, .int 0, .int 0, .ref ba, .ref ka, .int 0, .ref fa, .ref qa, .ref ea, .ref za, .ref ya, .int 0])), (ra, .inl (cI, 7, .inl (xRf (fun _ => 0) (-1))))] H := hP
  have hD : va_D A [(wa, .inl (cI, 70, .inl (upd (upd (upd (upd (upd (fun _ => 0) 0 1) 1 400) 2 80) 4 2) 5 30))), (g0, .inr (5, [.ref ra, .ref wa, .ref ta, .int 0, .ref ma, .int 0, .ref pa, .int 0, .int 0, .int 0, .ref ba, .ref ka, .int 0, .ref fa, .ref qa, .ref ea, .ref za, .ref ya, .int 0])), (ra, .inl (cI, 7, .inl (xRf (fun _ => 0) (-1))))] := hD
  obtain rfl : (xLg (-1 : Int32) : Int64) = r_3 := Eq.symm hw
  have hP9 := hP.sub (ws' := []) [] rfl
  have hD9 := hD.sub (ws' := []) [] (by decide) rfl
  exact W.lret (v := xLg (-1 : Int32)) hx hb hr (fun t ht hW => ⟨⟨_, (), rfl, rfl, by rw [ht]; exact hP9, hD9⟩, hS.F ht⟩) hS.2.2 dX5_stood_21

set_option maxHeartbeats 4000000 in
set_option maxRecDepth 100000 in
theorem p1_X5_rules (l : Launch) (D : va_G) (cI cL cZ cC : ClassId) (sz : Nat) (g0 : Nat) (ra : Nat) (wa : Nat) (ta : Nat) (ma : Nat) (pa : Nat) (ba : Nat) (ka : Nat) (fa : Nat) (qa : Nat) (ea : Nat) (za : Nat) (ya : Nat) (a1 : Int32)  : Met l yX5_rules wsX5_rules ({ frames := 1, cells := 0, slots := 0, locals := 21 } : Room) (wPc D [.ref g0, .int a1] [(g0, .inr (5, [.ref ra, .ref wa, .ref ta, .int 0, .ref ma, .int 0, .ref pa, .int 0, .int 0, .int 0, .ref ba, .ref ka, .int 0, .ref fa, .ref qa, .ref ea, .ref za, .ref ya, .int 0])), (wa, .inl (cI, 70, .inl (upd (upd (upd (upd (upd (fun _ => 0) 0 1) 1 400) 2 80) 4 2) 5 30))), (ra, .inl (cI, 7, .inl (fun _ => 0)))] (xTy cI cL cZ cC) sz) (va_Qi (fun (r : Int32) (_ : Unit) => r = -1) (fun (_ : Unit) t => va_P D vwCl [] t.heap ∧ va_D (va_A [(g0, .inr (5, [.ref ra, .ref wa, .ref ta, .int 0, .ref ma, .int 0, .ref pa, .int 0, .int 0, .int 0, .ref ba, .ref ka, .int 0, .ref fa, .ref qa, .ref ea, .ref za, .ref ya, .int 0])), (wa, .inl (cI, 70, .inl (upd (upd (upd (upd (upd (fun _ => 0) 0 1) 1 400) 2 80) 4 2) 5 30))), (ra, .inl (cI, 7, .inl (fun _ => 0)))] sz) []) (va_A [(g0, .inr (5, [.ref ra, .ref wa, .ref ta, .int 0, .ref ma, .int 0, .ref pa, .int 0, .int 0, .int 0, .ref ba, .ref ka, .int 0, .ref fa, .ref qa, .ref ea, .ref za, .ref ya, .int 0])), (wa, .inl (cI, 70, .inl (upd (upd (upd (upd (upd (fun _ => 0) 0 1) 1 400) 2 80) 4 2) 5 30))), (ra, .inl (cI, 7, .inl (fun _ => 0)))] sz)) 0 0 (va_A [(g0, .inr (5, [.ref ra, .ref wa, .ref ta, .int 0, .ref ma, .int 0, .ref pa, .int 0, .int 0, .int 0, .ref ba, .ref ka, .int 0, .ref fa, .ref qa, .ref ea, .ref za, .ref ya, .int 0])), (wa, .inl (cI, 70, .inl (upd (upd (upd (upd (upd (fun _ => 0) 0 1) 1 400) 2 80) 4 2) 5 30))), (ra, .inl (cI, 7, .inl (fun _ => 0)))] sz) := by
  refine Met.ofW (cc := cX5_rules) (maxL := 4) (ret := (some .int)) (by decide) rfl ?_
  intro p e s m args below meth c s₁ B hml hv
  obtain ⟨rfl, hsz, hP, hK, hD0⟩ := hv
  have hx := B.exec
  have hb := B.bytes
  have hr := B.returns
  have hts := atoms_spec (ws := wsX5_rules) B.pre
  have hown : s.vm.findClass RX5 = some m.cls := findClass_of_methodNamed B.named
  have hlocks := B.notSynchronized
  subst hsz
  have hD := hD0.self (sz := s.heap.size)
  generalize hAe : va_A [(g0, .inr (5, [.ref ra, .ref wa, .ref ta, .int 0, .ref ma, .int 0, .ref pa, .int 0, .int 0, .int 0, .ref ba, .ref ka, .int 0, .ref fa, .ref qa, .ref ea, .ref za, .ref ya, .int 0])), (wa, .inl (cI, 70, .inl (upd (upd (upd (upd (upd (fun _ => 0) 0 1) 1 400) 2 80) 4 2) 5 30))), (ra, .inl (cI, 7, .inl (fun _ => 0)))] s.heap.size = A at hD ⊢
  have hA : ∀ q : Nat, s.heap.size ≤ q → A q := fun q h => by rw [← hAe]; exact Or.inr h
  have hS : va_S A s.heap s.heap [] := va_S.rf
  have hP : va_P D vwCl [(g0, .inr (5, [.ref ra, .ref wa, .ref ta, .int 0, .ref ma, .int 0, .ref pa, .int 0, .int 0, .int 0, .ref ba, .ref ka, .int 0, .ref fa, .ref qa, .ref ea, .ref za, .ref ya, .int 0])), (wa, .inl (cI, 70, .inl (upd (upd (upd (upd (upd (fun _ => 0) 0 1) 1 400) 2 80) 4 2) 5 30))), (ra, .inl (cI, 7, .inl (fun _ => 0)))] s.heap := hP
  have hl := lv_entry ([.ref g0, .int a1]) (n := 4) (Nat.le_of_ble_eq_true rfl)
  rw [lg_entry_eq]
  generalize (lg_sl ([.ref g0, .int a1]) ++ List.replicate (4 - (lg_sl ([.ref g0, .int a1])).length) Slot.unset).toArray = ls at hl ⊢
  have hl : lv_has ls 4 [(0, .ref g0), (1, .int a1)] := hl
  refine lv_aload_n hx hb dX5_rules_0 rfl (lv_at hl 0 rfl) ?_
  refine lv_iload_n hx hb dX5_rules_1 rfl (lv_at hl 1 rfl) ?_
  have hPc := hP.sub (ws' := [(g0, .inr (5, [.ref ra, .ref wa, .ref ta, .int 0, .ref ma, .int 0, .ref pa, .int 0, .int 0, .int 0, .ref ba, .ref ka, .int 0, .ref fa, .ref qa, .ref ea, .ref za, .ref ya, .int 0])), (wa, .inl (cI, 70, .inl (upd (upd (upd (upd (upd (fun _ => 0) 0 1) 1 400) 2 80) 4 2) 5 30)))]) [0, 1] rfl
  refine vp_callSi (va_Run.run (va_runV (As := [.int a1]) (rest := []) ⟨hx, hb, hml, hown, hts⟩ (c_X5_isNoLine l D cI cL cZ cC g0 ra wa ta ma pa ba ka fa qa ea za ya a1 ) (cwV 1 hts gX5_rules_X5_isNoLine rfl rfl rfl (by decide +kernel) ⟨Nat.le_of_ble_eq_true rfl, Nat.le_of_ble_eq_true rfl⟩) ⟨xPc_bl, va_recv hK hPc (ci := 5) (q0 := 0) rfl rfl, xPc_use hPc hK⟩ rfl rfl hl.1 rfl (lv_room (Nat.le_of_ble_eq_true rfl)) dX5_rules_2 ⟨Nat.le_of_ble_eq_true rfl, Nat.le_of_ble_eq_true rfl⟩)) (fun r_1 er_1 => ?_)
  obtain rfl : (1 : Int32) = r_1 := Eq.symm er_1
  refine lv_if_eq (tgt := 14) hx hb dX5_rules_5 (by decide) (fun c_2 => absurd c_2 (by decide +kernel)) (fun c_2 => ?_)
  refine lv_aload_n hx hb dX5_rules_8 rfl (lv_at hl 0 rfl) ?_
  refine lv_iconst (v := -1) hx hb dX5_rules_9 (by decide) ?_
  have hPc := hP.sub (ws' := [(g0, .inr (5, [.ref ra, .ref wa, .ref ta, .int 0, .ref ma, .int 0, .ref pa, .int 0, .int 0, .int 0, .ref ba, .ref ka, .int 0, .ref fa, .ref qa, .ref ea, .ref za, .ref ya, .int 0])), (ra, .inl (cI, 7, .inl (fun _ => 0)))]) [0, 2] rfl
  have hDc := hD.sub (ws' := [(g0, .inr (5, [.ref ra, .ref wa, .ref ta, .int 0, .ref ma, .int 0, .ref pa, .int 0, .int 0, .int 0, .ref ba, .ref ka, .int 0, .ref fa, .ref qa, .ref ea, .ref za, .ref ya, .int 0])), (ra, .inl (cI, 7, .inl (fun _ => 0)))]) [0, 2] (by decide) rfl
  have hFc := va_free (wc := [(g0, .inr (5, [.ref ra, .ref wa, .ref ta, .int 0, .ref ma, .int 0, .ref pa, .int 0, .int 0, .int 0, .ref ba, .ref ka, .int 0, .ref fa, .ref qa, .ref ea, .ref za, .ref ya, .int 0])), (ra, .inl (cI, 7, .inl (fun _ => 0)))]) hD hS hA [0, 2] rfl
  refine va_calli (va_runV (As := [.int (-1)]) (rest := []) ⟨hx, hb, hml, hown, hts⟩ (c_X5_no l D cI cL cZ cC _ g0 ra wa ta ma pa ba ka fa qa ea za ya (fun _ => 0) (-1) (by first | assumption | decide +kernel) (by first | assumption | decide +kernel)) (cwV 1 hts gX5_rules_X5_no rfl rfl rfl (by decide +kernel) ⟨Nat.le_of_ble_eq_true rfl, Nat.le_of_ble_eq_true rfl⟩) ⟨wPc_bl, va_recv hK hPc (ci := 5) (q0 := 0) rfl rfl, wPc_use hPc hK hDc⟩ rfl rfl hl.1 rfl (lv_room (Nat.le_of_ble_eq_true rfl)) dX5_rules_10 ⟨Nat.le_of_ble_eq_true rfl, Nat.le_of_ble_eq_true rfl⟩) hS (fun q _ h => hFc q h) hFc (fun r_3 u_3 t H1 locs ht hvm hw hB hz1 hk1 hS => ?_)
  obtain ⟨hP1, hD1⟩ := hB
  rw [ht] at hP1
  obtain ⟨hP, hD⟩ := va_join (wr := [(wa, .inl (cI, 70, .inl (upd (upd (upd (upd (upd (fun _ => 0) 0 1) 1 400) 2 80) 4 2) 5 30)))]) (w1 := [(g0, .inr (5, [.ref ra, .ref wa, .ref ta, .int 0, .ref ma, .int 0, .ref pa, .int 0, .int 0, .int 0, .ref ba, .ref ka, .int 0, .ref fa, .ref qa, .ref ea, .ref za, .ref ya, .int 0])), (ra, .inl (cI, 7, .inl (xRf (fun _ => 0) (-1))))]) hP hD [0, 2] [1] rfl rfl (by decide) (by decide) hk1 hFc hP1 hD1
  generalize H1 = H at hP hS ⊢
  have hP : va_P D vwCl [(wa, .inl (cI, 70, .inl (upd (upd (upd (upd (upd (fun _ => 0) 0 1) 1 400) 2 80) 4 2) 5 30))), (g0, .inr (5, [.ref ra, .ref wa, .ref ta, .int 0, .ref ma, .int 0, .ref pa, .int 0, .int 0, .int 0, .ref ba, .ref ka, .int 0, .ref fa, .ref qa, .ref ea, .ref za, .ref ya, .int 0])), (ra, .inl (cI, 7, .inl (xRf (fun _ => 0) (-1))))] H := hP
  have hD : va_D A [(wa, .inl (cI, 70, .inl (upd (upd (upd (upd (upd (fun _ => 0) 0 1) 1 400) 2 80) 4 2) 5 30))), (g0, .inr (5, [.ref ra, .ref wa, .ref ta, .int 0, .ref ma, .int 0, .ref pa, .int 0, .int 0, .int 0, .ref ba, .ref ka, .int 0, .ref fa, .ref qa, .ref ea, .ref za, .ref ya, .int 0])), (ra, .inl (cI, 7, .inl (xRf (fun _ => 0) (-1))))] := hD
  obtain rfl : ((-1) : Int32) = r_3 := Eq.symm hw
  have hP9 := hP.sub (ws' := []) [] rfl
  have hD9 := hD.sub (ws' := []) [] (by decide) rfl
  exact W.iret (v := -1) hx hb hr (fun t ht hW => ⟨⟨_, (), rfl, rfl, by rw [ht]; exact hP9, hD9⟩, hS.F ht⟩) hS.2.2 dX5_rules_13

set_option maxHeartbeats 4000000 in
set_option maxRecDepth 100000 in
theorem p1_X5_lots (l : Launch) (D : va_G) (cI cL cZ cC : ClassId) (sz : Nat) (g0 : Nat) (ra : Nat) (wa : Nat) (ta : Nat) (ma : Nat) (pa : Nat) (ba : Nat) (ka : Nat) (fa : Nat) (qa : Nat) (ea : Nat) (za : Nat) (ya : Nat) (a1 : Int32) (a2 : Int32) (a3 : Int32) (a4 : Int32)  : Met l yX5_lots wsX5_lots ({ frames := 1, cells := 0, slots := 0, locals := 21 } : Room) (wPc D [.ref g0, .int a1, .int a2, .int a3, .int a4] [(g0, .inr (5, [.ref ra, .ref wa, .ref ta, .int 0, .ref ma, .int 0, .ref pa, .int 0, .int 0, .int 0, .ref ba, .ref ka, .int 0, .ref fa, .ref qa, .ref ea, .ref za, .ref ya, .int 0])), (wa, .inl (cI, 70, .inl (upd (upd (upd (upd (upd (fun _ => 0) 0 1) 1 400) 2 80) 4 2) 5 30))), (ra, .inl (cI, 7, .inl (fun _ => 0)))] (xTy cI cL cZ cC) sz) (va_Qi (fun (r : Int32) (_ : Unit) => r = -1) (fun (_ : Unit) t => va_P D vwCl [] t.heap ∧ va_D (va_A [(g0, .inr (5, [.ref ra, .ref wa, .ref ta, .int 0, .ref ma, .int 0, .ref pa, .int 0, .int 0, .int 0, .ref ba, .ref ka, .int 0, .ref fa, .ref qa, .ref ea, .ref za, .ref ya, .int 0])), (wa, .inl (cI, 70, .inl (upd (upd (upd (upd (upd (fun _ => 0) 0 1) 1 400) 2 80) 4 2) 5 30))), (ra, .inl (cI, 7, .inl (fun _ => 0)))] sz) []) (va_A [(g0, .inr (5, [.ref ra, .ref wa, .ref ta, .int 0, .ref ma, .int 0, .ref pa, .int 0, .int 0, .int 0, .ref ba, .ref ka, .int 0, .ref fa, .ref qa, .ref ea, .ref za, .ref ya, .int 0])), (wa, .inl (cI, 70, .inl (upd (upd (upd (upd (upd (fun _ => 0) 0 1) 1 400) 2 80) 4 2) 5 30))), (ra, .inl (cI, 7, .inl (fun _ => 0)))] sz)) 0 0 (va_A [(g0, .inr (5, [.ref ra, .ref wa, .ref ta, .int 0, .ref ma, .int 0, .ref pa, .int 0, .int 0, .int 0, .ref ba, .ref ka, .int 0, .ref fa, .ref qa, .ref ea, .ref za, .ref ya, .int 0])), (wa, .inl (cI, 70, .inl (upd (upd (upd (upd (upd (fun _ => 0) 0 1) 1 400) 2 80) 4 2) 5 30))), (ra, .inl (cI, 7, .inl (fun _ => 0)))] sz) := by
  refine Met.ofW (cc := cX5_lots) (maxL := 10) (ret := (some .int)) (by decide) rfl ?_
  intro p e s m args below meth c s₁ B hml hv
  obtain ⟨rfl, hsz, hP, hK, hD0⟩ := hv
  have hx := B.exec
  have hb := B.bytes
  have hr := B.returns
  have hts := atoms_spec (ws := wsX5_lots) B.pre
  have hown : s.vm.findClass RX5 = some m.cls := findClass_of_methodNamed B.named
  have hlocks := B.notSynchronized
  subst hsz
  have hD := hD0.self (sz := s.heap.size)
  generalize hAe : va_A [(g0, .inr (5, [.ref ra, .ref wa, .ref ta, .int 0, .ref ma, .int 0, .ref pa, .int 0, .int 0, .int 0, .ref ba, .ref ka, .int 0, .ref fa, .ref qa, .ref ea, .ref za, .ref ya, .int 0])), (wa, .inl (cI, 70, .inl (upd (upd (upd (upd (upd (fun _ => 0) 0 1) 1 400) 2 80) 4 2) 5 30))), (ra, .inl (cI, 7, .inl (fun _ => 0)))] s.heap.size = A at hD ⊢
  have hA : ∀ q : Nat, s.heap.size ≤ q → A q := fun q h => by rw [← hAe]; exact Or.inr h
  have hS : va_S A s.heap s.heap [] := va_S.rf
  have hP : va_P D vwCl [(g0, .inr (5, [.ref ra, .ref wa, .ref ta, .int 0, .ref ma, .int 0, .ref pa, .int 0, .int 0, .int 0, .ref ba, .ref ka, .int 0, .ref fa, .ref qa, .ref ea, .ref za, .ref ya, .int 0])), (wa, .inl (cI, 70, .inl (upd (upd (upd (upd (upd (fun _ => 0) 0 1) 1 400) 2 80) 4 2) 5 30))), (ra, .inl (cI, 7, .inl (fun _ => 0)))] s.heap := hP
  have hl := lv_entry ([.ref g0, .int a1, .int a2, .int a3, .int a4]) (n := 10) (Nat.le_of_ble_eq_true rfl)
  rw [lg_entry_eq]
  generalize (lg_sl ([.ref g0, .int a1, .int a2, .int a3, .int a4]) ++ List.replicate (10 - (lg_sl ([.ref g0, .int a1, .int a2, .int a3, .int a4])).length) Slot.unset).toArray = ls at hl ⊢
  have hl : lv_has ls 10 [(0, .ref g0), (1, .int a1), (2, .int a2), (3, .int a3), (4, .int a4)] := hl
  refine lv_aload_n hx hb dX5_lots_0 rfl (lv_at hl 0 rfl) ?_
  refine lv_iload_n hx hb dX5_lots_1 rfl (lv_at hl 1 rfl) ?_
  have hPc := hP.sub (ws' := [(g0, .inr (5, [.ref ra, .ref wa, .ref ta, .int 0, .ref ma, .int 0, .ref pa, .int 0, .int 0, .int 0, .ref ba, .ref ka, .int 0, .ref fa, .ref qa, .ref ea, .ref za, .ref ya, .int 0])), (wa, .inl (cI, 70, .inl (upd (upd (upd (upd (upd (fun _ => 0) 0 1) 1 400) 2 80) 4 2) 5 30)))]) [0, 1] rfl
  refine vp_callSi (va_Run.run (va_runV (As := [.int a1]) (rest := []) ⟨hx, hb, hml, hown, hts⟩ (c_X5_isNoLine l D cI cL cZ cC g0 ra wa ta ma pa ba ka fa qa ea za ya a1 ) (cwV 1 hts gX5_lots_X5_isNoLine rfl rfl rfl (by decide +kernel) ⟨Nat.le_of_ble_eq_true rfl, Nat.le_of_ble_eq_true rfl⟩) ⟨xPc_bl, va_recv hK hPc (ci := 5) (q0 := 0) rfl rfl, xPc_use hPc hK⟩ rfl rfl hl.1 rfl (lv_room (Nat.le_of_ble_eq_true rfl)) dX5_lots_2 ⟨Nat.le_of_ble_eq_true rfl, Nat.le_of_ble_eq_true rfl⟩)) (fun r_1 er_1 => ?_)
  obtain rfl : (1 : Int32) = r_1 := Eq.symm er_1
  refine lv_if_eq (tgt := 14) hx hb dX5_lots_5 (by decide) (fun c_2 => absurd c_2 (by decide +kernel)) (fun c_2 => ?_)
  refine lv_aload_n hx hb dX5_lots_8 rfl (lv_at hl 0 rfl) ?_
  refine lv_iconst (v := -1) hx hb dX5_lots_9 (by decide) ?_
  have hPc := hP.sub (ws' := [(g0, .inr (5, [.ref ra, .ref wa, .ref ta, .int 0, .ref ma, .int 0, .ref pa, .int 0, .int 0, .int 0, .ref ba, .ref ka, .int 0, .ref fa, .ref qa, .ref ea, .ref za, .ref ya, .int 0])), (ra, .inl (cI, 7, .inl (fun _ => 0)))]) [0, 2] rfl
  have hDc := hD.sub (ws' := [(g0, .inr (5, [.ref ra, .ref wa, .ref ta, .int 0, .ref ma, .int 0, .ref pa, .int 0, .int 0, .int 0, .ref ba, .ref ka, .int 0, .ref fa, .ref qa, .ref ea, .ref za, .ref ya, .int 0])), (ra, .inl (cI, 7, .inl (fun _ => 0)))]) [0, 2] (by decide) rfl
  have hFc := va_free (wc := [(g0, .inr (5, [.ref ra, .ref wa, .ref ta, .int 0, .ref ma, .int 0, .ref pa, .int 0, .int 0, .int 0, .ref ba, .ref ka, .int 0, .ref fa, .ref qa, .ref ea, .ref za, .ref ya, .int 0])), (ra, .inl (cI, 7, .inl (fun _ => 0)))]) hD hS hA [0, 2] rfl
  refine va_calli (va_runV (As := [.int (-1)]) (rest := []) ⟨hx, hb, hml, hown, hts⟩ (c_X5_no l D cI cL cZ cC _ g0 ra wa ta ma pa ba ka fa qa ea za ya (fun _ => 0) (-1) (by first | assumption | decide +kernel) (by first | assumption | decide +kernel)) (cwV 1 hts gX5_lots_X5_no rfl rfl rfl (by decide +kernel) ⟨Nat.le_of_ble_eq_true rfl, Nat.le_of_ble_eq_true rfl⟩) ⟨wPc_bl, va_recv hK hPc (ci := 5) (q0 := 0) rfl rfl, wPc_use hPc hK hDc⟩ rfl rfl hl.1 rfl (lv_room (Nat.le_of_ble_eq_true rfl)) dX5_lots_10 ⟨Nat.le_of_ble_eq_true rfl, Nat.le_of_ble_eq_true rfl⟩) hS (fun q _ h => hFc q h) hFc (fun r_3 u_3 t H1 locs ht hvm hw hB hz1 hk1 hS => ?_)
  obtain ⟨hP1, hD1⟩ := hB
  rw [ht] at hP1
  obtain ⟨hP, hD⟩ := va_join (wr := [(wa, .inl (cI, 70, .inl (upd (upd (upd (upd (upd (fun _ => 0) 0 1) 1 400) 2 80) 4 2) 5 30)))]) (w1 := [(g0, .inr (5, [.ref ra, .ref wa, .ref ta, .int 0, .ref ma, .int 0, .ref pa, .int 0, .int 0, .int 0, .ref ba, .ref ka, .int 0, .ref fa, .ref qa, .ref ea, .ref za, .ref ya, .int 0])), (ra, .inl (cI, 7, .inl (xRf (fun _ => 0) (-1))))]) hP hD [0, 2] [1] rfl rfl (by decide) (by decide) hk1 hFc hP1 hD1
  generalize H1 = H at hP hS ⊢
  have hP : va_P D vwCl [(wa, .inl (cI, 70, .inl (upd (upd (upd (upd (upd (fun _ => 0) 0 1) 1 400) 2 80) 4 2) 5 30))), (g0, .inr (5, [.ref ra, .ref wa, .ref ta, .int 0, .ref ma, .int 0, .ref pa, .int 0, .int 0, .int 0, .ref ba, .ref ka, .int 0, .ref fa, .ref qa, .ref ea, .ref za, .ref ya, .int 0])), (ra, .inl (cI, 7, .inl (xRf (fun _ => 0) (-1))))] H := hP
  have hD : va_D A [(wa, .inl (cI, 70, .inl (upd (upd (upd (upd (upd (fun _ => 0) 0 1) 1 400) 2 80) 4 2) 5 30))), (g0, .inr (5, [.ref ra, .ref wa, .ref ta, .int 0, .ref ma, .int 0, .ref pa, .int 0, .int 0, .int 0, .ref ba, .ref ka, .int 0, .ref fa, .ref qa, .ref ea, .ref za, .ref ya, .int 0])), (ra, .inl (cI, 7, .inl (xRf (fun _ => 0) (-1))))] := hD
  obtain rfl : ((-1) : Int32) = r_3 := Eq.symm hw
  have hP9 := hP.sub (ws' := []) [] rfl
  have hD9 := hD.sub (ws' := []) [] (by decide) rfl
  exact W.iret (v := -1) hx hb hr (fun t ht hW => ⟨⟨_, (), rfl, rfl, by rw [ht]; exact hP9, hD9⟩, hS.F ht⟩) hS.2.2 dX5_lots_13
