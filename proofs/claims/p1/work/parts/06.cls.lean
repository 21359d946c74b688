set_option maxHeartbeats 4000000 in
set_option maxRecDepth 100000 in
theorem c_X3_at (l : Launch) (D : va_G) (cI cL cZ cC : ClassId) (tx : Nat) (t0 : Nat) (p0 : Int32)  : Met l yX3_at wsX3_at ({ frames := 0, cells := 0, slots := 0, locals := 0 } : Room) (xPc D [.ref tx, .int p0] [(tx, .inr (3, [.ref t0, .int 0])), (t0, .inl (cI, 96, .inl (fun _ => 0)))] (xTy cI cL cZ cC)) (vp_Si (fun r : Int32 => r = -1)) 0 0 (fun _ => False) := by
  refine Met.ofW (cc := cX3_at) (maxL := 2) (ret := (some .int)) (by decide) rfl ?_
  intro p e s m args below meth c s₁ B hml hv
  obtain ⟨rfl, hP, hK⟩ := hv
  have hx := B.exec
  have hb := B.bytes
  have hr := B.returns
  have hts := atoms_spec (ws := wsX3_at) B.pre
  have hown : s.vm.findClass RX3 = some m.cls := findClass_of_methodNamed B.named
  have hlocks := B.notSynchronized
  have hwX3 : ∀ w ∈ u_ws RX3 TX3 2, w ∈ wsX3_at := fun _ h => List.mem_cons_of_mem _ (List.mem_append_right _ h)
  have hl := lv_entry ([.ref tx, .int p0]) (n := 2) (Nat.le_of_ble_eq_true rfl)
  rw [lg_entry_eq]
  generalize (lg_sl ([.ref tx, .int p0]) ++ List.replicate (2 - (lg_sl ([.ref tx, .int p0])).length) Slot.unset).toArray = ls at hl ⊢
  have hl : lv_has ls 2 [(0, .ref tx), (1, .int p0)] := hl
  refine lv_iload_n hx hb dX3_at_0 rfl (lv_at hl 1 rfl) ?_
  refine lv_if_lt (tgt := 21) hx hb dX3_at_1 (by decide) (fun c_1 => ?_) (fun c_1 => ?_)
  · refine lv_iconst (v := -1) hx hb dX3_at_21 (by decide) ?_
    exact W.iret (v := -1) hx hb hr (fun t ht hW => ⟨_, rfl, rfl, ht⟩) (fun _ h => absurd h List.not_mem_nil) dX3_at_22
  · refine lv_iload_n hx hb dX3_at_4 rfl (lv_at hl 1 rfl) ?_
    refine lv_aload_n hx hb dX3_at_5 rfl (lv_at hl 0 rfl) ?_
    refine va_get (D := D) (ci := 3) (v := .int 0) (C := RX3) (T := TX3) (N := 2) hx hb hts hwX3 hown hK hP 0 rfl rfl 1 (by decide) (hts (.fieldLink RX3 15 "WaitOrWalkOn$Text" "length" "I") (by decide +kernel)) (fun _ h9 => h9) rfl dX3_at_6 ?_
    refine lv_icmp_ge (tgt := 21) hx hb dX3_at_9 (by decide) (fun c_2 => ?_) (fun c_2 => absurd (Int32.not_lt.mp c_1) c_2)
    refine lv_iconst (v := -1) hx hb dX3_at_21 (by decide) ?_
    exact W.iret (v := -1) hx hb hr (fun t ht hW => ⟨_, rfl, rfl, ht⟩) (fun _ h => absurd h List.not_mem_nil) dX3_at_22

set_option maxHeartbeats 4000000 in
set_option maxRecDepth 100000 in
theorem c_X3_mostDigits (l : Launch) (D : va_G) (cI cL cZ cC : ClassId)   : Met l yX3_mostDigits wsX3_mostDigits ({ frames := 0, cells := 0, slots := 0, locals := 0 } : Room) (xPc D [.int (-1)] [] (xTy cI cL cZ cC)) (vp_Si (fun r : Int32 => r = 0)) 0 0 (fun _ => False) := by
  refine Met.ofW (cc := cX3_mostDigits) (maxL := 1) (ret := (some .int)) (by decide) rfl ?_
  intro p e s m args below meth c s₁ B hml hv
  obtain ⟨rfl, hP, hK⟩ := hv
  have hx := B.exec
  have hb := B.bytes
  have hr := B.returns
  have hts := atoms_spec (ws := wsX3_mostDigits) B.pre
  have hown : s.vm.findClass RX3 = some m.cls := findClass_of_methodNamed B.named
  have hlocks := B.notSynchronized
  have hl := lv_entry ([.int (-1)]) (n := 1) (Nat.le_of_ble_eq_true rfl)
  rw [lg_entry_eq]
  generalize (lg_sl ([.int (-1)]) ++ List.replicate (1 - (lg_sl ([.int (-1)])).length) Slot.unset).toArray = ls at hl ⊢
  have hl : lv_has ls 1 [(0, .int (-1))] := hl
  refine lv_iload_n hx hb dX3_mostDigits_0 rfl (lv_at hl 0 rfl) ?_
  refine lv_tableOut (tgt := 85) hx hb dX3_mostDigits_1 (by decide +kernel) (by decide) ?_
  refine lv_iconst (v := 0) hx hb dX3_mostDigits_85 (by decide) ?_
  exact W.iret (v := 0) hx hb hr (fun t ht hW => ⟨_, rfl, rfl, ht⟩) (fun _ h => absurd h List.not_mem_nil) dX3_mostDigits_86

set_option maxHeartbeats 4000000 in
set_option maxRecDepth 100000 in
theorem c_X3_digitsPlace (l : Launch) (D : va_G) (cI cL cZ cC : ClassId) (tx : Nat) (t0 : Nat) (p0 : Int32)  : Met l yX3_digitsPlace wsX3_digitsPlace ({ frames := 1, cells := 0, slots := 0, locals := 21 } : Room) (xPc D [.ref tx, .int p0] [(tx, .inr (3, [.ref t0, .int 0])), (t0, .inl (cI, 96, .inl (fun _ => 0)))] (xTy cI cL cZ cC)) (vp_Si (fun r : Int32 => r = p0 + 1)) 0 0 (fun _ => False) := by
  refine Met.ofW (cc := cX3_digitsPlace) (maxL := 2) (ret := (some .int)) (by decide) rfl ?_
  intro p e s m args below meth c s₁ B hml hv
  obtain ⟨rfl, hP, hK⟩ := hv
  have hx := B.exec
  have hb := B.bytes
  have hr := B.returns
  have hts := atoms_spec (ws := wsX3_digitsPlace) B.pre
  have hown : s.vm.findClass RX3 = some m.cls := findClass_of_methodNamed B.named
  have hlocks := B.notSynchronized
  have hl := lv_entry ([.ref tx, .int p0]) (n := 2) (Nat.le_of_ble_eq_true rfl)
  rw [lg_entry_eq]
  generalize (lg_sl ([.ref tx, .int p0]) ++ List.replicate (2 - (lg_sl ([.ref tx, .int p0])).length) Slot.unset).toArray = ls at hl ⊢
  have hl : lv_has ls 2 [(0, .ref tx), (1, .int p0)] := hl
  refine lv_aload_n hx hb dX3_digitsPlace_0 rfl (lv_at hl 0 rfl) ?_
  refine lv_iload_n hx hb dX3_digitsPlace_1 rfl (lv_at hl 1 rfl) ?_
  have hPc := hP.sub (ws' := [(tx, .inr (3, [.ref t0, .int 0])), (t0, .inl (cI, 96, .inl (fun _ => 0)))]) [0, 1] rfl
  refine vp_callSi (va_Run.run (va_runV (As := [.int p0]) (rest := []) ⟨hx, hb, hml, hown, hts⟩ (c_X3_at l D cI cL cZ cC tx t0 p0 ) (cwV 1 hts gX3_digitsPlace_X3_at rfl rfl rfl (by decide +kernel) ⟨Nat.le_of_ble_eq_true rfl, Nat.le_of_ble_eq_true rfl⟩) ⟨xPc_bl, va_recv hK hPc (ci := 3) (q0 := 0) rfl rfl, xPc_use hPc hK⟩ rfl rfl hl.1 rfl (lv_room (Nat.le_of_ble_eq_true rfl)) dX3_digitsPlace_2 ⟨Nat.le_of_ble_eq_true rfl, Nat.le_of_ble_eq_true rfl⟩)) (fun r_1 er_1 => ?_)
  obtain rfl : (-1 : Int32) = r_1 := Eq.symm er_1
  refine lv_bipush (v := 108) hx hb dX3_digitsPlace_5 (by decide) ?_
  refine lv_icmp_ne (tgt := 16) hx hb dX3_digitsPlace_7 (by decide) (fun c_2 => ?_) (fun c_2 => absurd c_2 (by decide +kernel))
  refine lv_iload_n hx hb dX3_digitsPlace_16 rfl (lv_at hl 1 rfl) ?_
  refine lv_iconst (v := 1) hx hb dX3_digitsPlace_17 (by decide) ?_
  refine lv_iadd hx hb dX3_digitsPlace_18 ?_
  exact W.iret (v := p0 + 1) hx hb hr (fun t ht hW => ⟨_, rfl, rfl, ht⟩) (fun _ h => absurd h List.not_mem_nil) dX3_digitsPlace_19

set_option maxHeartbeats 4000000 in
set_option maxRecDepth 100000 in
theorem c_X3_digitsEnd (l : Launch) (D : va_G) (cI cL cZ cC : ClassId) (tx : Nat) (t0 : Nat)  : Met l yX3_digitsEnd wsX3_digitsEnd ({ frames := 2, cells := 0, slots := 0, locals := 42 } : Room) (xPc D [.ref tx, .int 0] [(tx, .inr (3, [.ref t0, .int 0])), (t0, .inl (cI, 96, .inl (fun _ => 0)))] (xTy cI cL cZ cC)) (vp_Si (fun r : Int32 => r = 1)) 0 0 (fun _ => False) := by
  refine Met.ofW (cc := cX3_digitsEnd) (maxL := 3) (ret := (some .int)) (by decide) rfl ?_
  intro p e s m args below meth c s₁ B hml hv
  obtain ⟨rfl, hP, hK⟩ := hv
  have hx := B.exec
  have hb := B.bytes
  have hr := B.returns
  have hts := atoms_spec (ws := wsX3_digitsEnd) B.pre
  have hown : s.vm.findClass RX3 = some m.cls := findClass_of_methodNamed B.named
  have hlocks := B.notSynchronized
  have hwX3 : ∀ w ∈ u_ws RX3 TX3 2, w ∈ wsX3_digitsEnd := fun _ h => List.mem_cons_of_mem _ (List.mem_append_right _ h)
  have hl := lv_entry ([.ref tx, .int 0]) (n := 3) (Nat.le_of_ble_eq_true rfl)
  rw [lg_entry_eq]
  generalize (lg_sl ([.ref tx, .int 0]) ++ List.replicate (3 - (lg_sl ([.ref tx, .int 0])).length) Slot.unset).toArray = ls at hl ⊢
  have hl : lv_has ls 3 [(0, .ref tx), (1, .int 0)] := hl
  refine lv_aload_n hx hb dX3_digitsEnd_0 rfl (lv_at hl 0 rfl) ?_
  refine lv_iload_n hx hb dX3_digitsEnd_1 rfl (lv_at hl 1 rfl) ?_
  have hPc := hP.sub (ws' := [(tx, .inr (3, [.ref t0, .int 0])), (t0, .inl (cI, 96, .inl (fun _ => 0)))]) [0, 1] rfl
  refine vp_callSi (va_Run.run (va_runV (As := [.int 0]) (rest := []) ⟨hx, hb, hml, hown, hts⟩ (c_X3_digitsPlace l D cI cL cZ cC tx t0 0 ) (cwV 1 hts gX3_digitsEnd_X3_digitsPlace rfl rfl rfl (by decide +kernel) ⟨Nat.le_of_ble_eq_true rfl, Nat.le_of_ble_eq_true rfl⟩) ⟨xPc_bl, va_recv hK hPc (ci := 3) (q0 := 0) rfl rfl, xPc_use hPc hK⟩ rfl rfl hl.1 rfl (lv_room (Nat.le_of_ble_eq_true rfl)) dX3_digitsEnd_2 ⟨Nat.le_of_ble_eq_true rfl, Nat.le_of_ble_eq_true rfl⟩)) (fun r_1 er_1 => ?_)
  obtain rfl : ((0 : Int32) + 1 : Int32) = r_1 := Eq.symm er_1
  refine xv_int (y := 1) (by decide +kernel) ?_
  refine lv_istore_n (lv' := [(2, .int 1), (0, .ref tx), (1, .int 0)]) hx hb dX3_digitsEnd_5 rfl hl (by decide) rfl (fun ls hl => ?_)
  refine lv_iload_n hx hb dX3_digitsEnd_6 rfl (lv_at hl 0 rfl) ?_
  refine lv_aload_n hx hb dX3_digitsEnd_7 rfl (lv_at hl 1 rfl) ?_
  refine va_get (D := D) (ci := 3) (v := .int 0) (C := RX3) (T := TX3) (N := 2) hx hb hts hwX3 hown hK hP 0 rfl rfl 1 (by decide) (hts (.fieldLink RX3 15 "WaitOrWalkOn$Text" "length" "I") (by decide +kernel)) (fun _ h9 => h9) rfl dX3_digitsEnd_8 ?_
  refine lv_icmp_ge (tgt := 28) hx hb dX3_digitsEnd_11 (by decide) (fun c_2 => ?_) (fun c_2 => absurd c_2 (by decide +kernel))
  refine lv_iload_n hx hb dX3_digitsEnd_28 rfl (lv_at hl 0 rfl) ?_
  exact W.iret (v := 1) hx hb hr (fun t ht hW => ⟨_, rfl, rfl, ht⟩) (fun _ h => absurd h List.not_mem_nil) dX3_digitsEnd_29

set_option maxHeartbeats 4000000 in
set_option maxRecDepth 100000 in
theorem c_X3_wrongPlace (l : Launch) (D : va_G) (cI cL cZ cC : ClassId) (tx : Nat) (t0 : Nat)  : Met l yX3_wrongPlace wsX3_wrongPlace ({ frames := 1, cells := 0, slots := 0, locals := 21 } : Room) (xPc D [.ref tx, .int 0] [(tx, .inr (3, [.ref t0, .int 0])), (t0, .inl (cI, 96, .inl (fun _ => 0)))] (xTy cI cL cZ cC)) (vp_Si (fun r : Int32 => r = 0)) 0 0 (fun _ => False) := by
  refine Met.ofW (cc := cX3_wrongPlace) (maxL := 5) (ret := (some .int)) (by decide) rfl ?_
  intro p e s m args below meth c s₁ B hml hv
  obtain ⟨rfl, hP, hK⟩ := hv
  have hx := B.exec
  have hb := B.bytes
  have hr := B.returns
  have hts := atoms_spec (ws := wsX3_wrongPlace) B.pre
  have hown : s.vm.findClass RX3 = some m.cls := findClass_of_methodNamed B.named
  have hlocks := B.notSynchronized
  have hl := lv_entry ([.ref tx, .int 0]) (n := 5) (Nat.le_of_ble_eq_true rfl)
  rw [lg_entry_eq]
  generalize (lg_sl ([.ref tx, .int 0]) ++ List.replicate (5 - (lg_sl ([.ref tx, .int 0])).length) Slot.unset).toArray = ls at hl ⊢
  have hl : lv_has ls 5 [(0, .ref tx), (1, .int 0)] := hl
  refine lv_aload_n hx hb dX3_wrongPlace_0 rfl (lv_at hl 0 rfl) ?_
  refine lv_iload_n hx hb dX3_wrongPlace_1 rfl (lv_at hl 1 rfl) ?_
  have hPc := hP.sub (ws' := [(tx, .inr (3, [.ref t0, .int 0])), (t0, .inl (cI, 96, .inl (fun _ => 0)))]) [0, 1] rfl
  refine vp_callSi (va_Run.run (va_runV (As := [.int 0]) (rest := []) ⟨hx, hb, hml, hown, hts⟩ (c_X3_at l D cI cL cZ cC tx t0 0 ) (cwV 1 hts gX3_wrongPlace_X3_at rfl rfl rfl (by decide +kernel) ⟨Nat.le_of_ble_eq_true rfl, Nat.le_of_ble_eq_true rfl⟩) ⟨xPc_bl, va_recv hK hPc (ci := 3) (q0 := 0) rfl rfl, xPc_use hPc hK⟩ rfl rfl hl.1 rfl (lv_room (Nat.le_of_ble_eq_true rfl)) dX3_wrongPlace_2 ⟨Nat.le_of_ble_eq_true rfl, Nat.le_of_ble_eq_true rfl⟩)) (fun r_1 er_1 => ?_)
  obtain rfl : (-1 : Int32) = r_1 := Eq.symm er_1
  have hPc := hP.sub (ws' := []) [] rfl
  refine vp_callSi (va_Run.run (va_runS (As := [.int (-1)]) (rest := []) ⟨hx, hb, hml, hown, hts⟩ (c_X3_mostDigits l D cI cL cZ cC  ) (va_cwS 1 hts gX3_wrongPlace_X3_mostDigits rfl rfl rfl (by decide +kernel) ⟨Nat.le_of_ble_eq_true rfl, Nat.le_of_ble_eq_true rfl⟩) ⟨xPc_bl, xPc_use hPc hK⟩ rfl rfl hl.1 rfl (lv_room (Nat.le_of_ble_eq_true rfl)) dX3_wrongPlace_5 ⟨Nat.le_of_ble_eq_true rfl, Nat.le_of_ble_eq_true rfl⟩)) (fun r_2 er_2 => ?_)
  obtain rfl : (0 : Int32) = r_2 := Eq.symm er_2
  refine lv_istore_n (lv' := [(2, .int 0), (0, .ref tx), (1, .int 0)]) hx hb dX3_wrongPlace_8 rfl hl (by decide) rfl (fun ls hl => ?_)
  refine lv_iload_n hx hb dX3_wrongPlace_9 rfl (lv_at hl 0 rfl) ?_
  refine lv_if_ne (tgt := 15) hx hb dX3_wrongPlace_10 (by decide) (fun c_3 => absurd c_3 (by decide +kernel)) (fun c_3 => ?_)
  refine lv_iload_n hx hb dX3_wrongPlace_13 rfl (lv_at hl 2 rfl) ?_
  exact W.iret (v := 0) hx hb hr (fun t ht hW => ⟨_, rfl, rfl, ht⟩) (fun _ h => absurd h List.not_mem_nil) dX3_wrongPlace_14

set_option maxHeartbeats 4000000 in
set_option maxRecDepth 100000 in
theorem c_X3_firstWrongPlace (l : Launch) (D : va_G) (cI cL cZ cC : ClassId) (tx : Nat) (t0 : Nat)  : Met l yX3_firstWrongPlace wsX3_firstWrongPlace ({ frames := 3, cells := 0, slots := 0, locals := 64 } : Room) (xPc D [.ref tx] [(tx, .inr (3, [.ref t0, .int 0])), (t0, .inl (cI, 96, .inl (fun _ => 0)))] (xTy cI cL cZ cC)) (vp_Si (fun r : Int32 => r = 0)) 0 0 (fun _ => False) := by
  refine Met.ofW (cc := cX3_firstWrongPlace) (maxL := 4) (ret := (some .int)) (by decide) rfl ?_
  intro p e s m args below meth c s₁ B hml hv
  obtain ⟨rfl, hP, hK⟩ := hv
  have hx := B.exec
  have hb := B.bytes
  have hr := B.returns
  have hts := atoms_spec (ws := wsX3_firstWrongPlace) B.pre
  have hown : s.vm.findClass RX3 = some m.cls := findClass_of_methodNamed B.named
  have hlocks := B.notSynchronized
  have hwX3 : ∀ w ∈ u_ws RX3 TX3 2, w ∈ wsX3_firstWrongPlace := fun _ h => List.mem_cons_of_mem _ (List.mem_append_right _ h)
  have hl := lv_entry ([.ref tx]) (n := 4) (Nat.le_of_ble_eq_true rfl)
  rw [lg_entry_eq]
  generalize (lg_sl ([.ref tx]) ++ List.replicate (4 - (lg_sl ([.ref tx])).length) Slot.unset).toArray = ls at hl ⊢
  have hl : lv_has ls 4 [(0, .ref tx)] := hl
  refine lv_aload_n hx hb dX3_firstWrongPlace_0 rfl (lv_at hl 0 rfl) ?_
  refine lv_iconst (v := 0) hx hb dX3_firstWrongPlace_1 (by decide) ?_
  have hPc := hP.sub (ws' := [(tx, .inr (3, [.ref t0, .int 0])), (t0, .inl (cI, 96, .inl (fun _ => 0)))]) [0, 1] rfl
  refine vp_callSi (va_Run.run (va_runV (As := [.int 0]) (rest := []) ⟨hx, hb, hml, hown, hts⟩ (c_X3_wrongPlace l D cI cL cZ cC tx t0 ) (cwV 1 hts gX3_firstWrongPlace_X3_wrongPlace rfl rfl rfl (by decide +kernel) ⟨Nat.le_of_ble_eq_true rfl, Nat.le_of_ble_eq_true rfl⟩) ⟨xPc_bl, va_recv hK hPc (ci := 3) (q0 := 0) rfl rfl, xPc_use hPc hK⟩ rfl rfl hl.1 rfl (lv_room (Nat.le_of_ble_eq_true rfl)) dX3_firstWrongPlace_2 ⟨Nat.le_of_ble_eq_true rfl, Nat.le_of_ble_eq_true rfl⟩)) (fun r_1 er_1 => ?_)
  obtain rfl : (0 : Int32) = r_1 := Eq.symm er_1
  refine lv_istore_n (lv' := [(1, .int 0), (0, .ref tx)]) hx hb dX3_firstWrongPlace_5 rfl hl (by decide) rfl (fun ls hl => ?_)
  refine lv_aload_n hx hb dX3_firstWrongPlace_6 rfl (lv_at hl 1 rfl) ?_
  refine lv_iconst (v := 0) hx hb dX3_firstWrongPlace_7 (by decide) ?_
  have hPc := hP.sub (ws' := [(tx, .inr (3, [.ref t0, .int 0])), (t0, .inl (cI, 96, .inl (fun _ => 0)))]) [0, 1] rfl
  refine vp_callSi (va_Run.run (va_runV (As := [.int 0]) (rest := []) ⟨hx, hb, hml, hown, hts⟩ (c_X3_digitsEnd l D cI cL cZ cC tx t0 ) (cwV 1 hts gX3_firstWrongPlace_X3_digitsEnd rfl rfl rfl (by decide +kernel) ⟨Nat.le_of_ble_eq_true rfl, Nat.le_of_ble_eq_true rfl⟩) ⟨xPc_bl, va_recv hK hPc (ci := 3) (q0 := 0) rfl rfl, xPc_use hPc hK⟩ rfl rfl hl.1 rfl (lv_room (Nat.le_of_ble_eq_true rfl)) dX3_firstWrongPlace_8 ⟨Nat.le_of_ble_eq_true rfl, Nat.le_of_ble_eq_true rfl⟩)) (fun r_2 er_2 => ?_)
  obtain rfl : (1 : Int32) = r_2 := Eq.symm er_2
  refine lv_iconst (v := 1) hx hb dX3_firstWrongPlace_11 (by decide) ?_
  refine lv_iadd hx hb dX3_firstWrongPlace_12 ?_
  refine xv_int (y := 2) (by decide +kernel) ?_
  refine lv_istore_n (lv' := [(2, .int 2), (1, .int 0), (0, .ref tx)]) hx hb dX3_firstWrongPlace_13 rfl hl (by decide) rfl (fun ls hl => ?_)
  refine lv_iconst (v := 0) hx hb dX3_firstWrongPlace_14 (by decide) ?_
  refine lv_istore_n (lv' := [(3, .int 0), (2, .int 2), (1, .int 0), (0, .ref tx)]) hx hb dX3_firstWrongPlace_15 rfl hl (by decide) rfl (fun ls hl => ?_)
  refine lv_iload_n hx hb dX3_firstWrongPlace_16 rfl (lv_at hl 0 rfl) ?_
  refine lv_aload_n hx hb dX3_firstWrongPlace_17 rfl (lv_at hl 3 rfl) ?_
  refine va_get (D := D) (ci := 3) (v := .int 0) (C := RX3) (T := TX3) (N := 2) hx hb hts hwX3 hown hK hP 0 rfl rfl 1 (by decide) (hts (.fieldLink RX3 15 "WaitOrWalkOn$Text" "length" "I") (by decide +kernel)) (fun _ h9 => h9) rfl dX3_firstWrongPlace_18 ?_
  refine lv_icmp_ge (tgt := 56) hx hb dX3_firstWrongPlace_21 (by decide) (fun c_3 => ?_) (fun c_3 => absurd c_3 (by decide +kernel))
  refine lv_iload_n hx hb dX3_firstWrongPlace_56 rfl (lv_at hl 2 rfl) ?_
  exact W.iret (v := 0) hx hb hr (fun t ht hW => ⟨_, rfl, rfl, ht⟩) (fun _ h => absurd h List.not_mem_nil) dX3_firstWrongPlace_57

set_option maxHeartbeats 4000000 in
set_option maxRecDepth 100000 in
theorem c_X3_readOnto (l : Launch) (D : va_G) (cI cL cZ cC : ClassId) (tx : Nat) (t0 : Nat) (dr : Nat)  : Met l yX3_readOnto wsX3_readOnto ({ frames := 4, cells := 0, slots := 0, locals := 87 } : Room) (xPc D [.ref tx, .ref dr] [(tx, .inr (3, [.ref t0, .int 0])), (t0, .inl (cI, 96, .inl (fun _ => 0)))] (xTy cI cL cZ cC)) (vp_Si (fun r : Int32 => r = -1000)) 0 0 (fun _ => False) := by
  refine Met.ofW (cc := cX3_readOnto) (maxL := 6) (ret := (some .int)) (by decide) rfl ?_
  intro p e s m args below meth c s₁ B hml hv
  obtain ⟨rfl, hP, hK⟩ := hv
  have hx := B.exec
  have hb := B.bytes
  have hr := B.returns
  have hts := atoms_spec (ws := wsX3_readOnto) B.pre
  have hown : s.vm.findClass RX3 = some m.cls := findClass_of_methodNamed B.named
  have hlocks := B.notSynchronized
  have hl := lv_entry ([.ref tx, .ref dr]) (n := 6) (Nat.le_of_ble_eq_true rfl)
  rw [lg_entry_eq]
  generalize (lg_sl ([.ref tx, .ref dr]) ++ List.replicate (6 - (lg_sl ([.ref tx, .ref dr])).length) Slot.unset).toArray = ls at hl ⊢
  have hl : lv_has ls 6 [(0, .ref tx), (1, .ref dr)] := hl
  refine lv_aload_n hx hb dX3_readOnto_0 rfl (lv_at hl 0 rfl) ?_
  have hPc := hP.sub (ws' := [(tx, .inr (3, [.ref t0, .int 0])), (t0, .inl (cI, 96, .inl (fun _ => 0)))]) [0, 1] rfl
  refine vp_callSi (va_Run.run (va_runV (As := []) (rest := []) ⟨hx, hb, hml, hown, hts⟩ (c_X3_firstWrongPlace l D cI cL cZ cC tx t0 ) (cwV 0 hts gX3_readOnto_X3_firstWrongPlace rfl rfl rfl (by decide +kernel) ⟨Nat.le_of_ble_eq_true rfl, Nat.le_of_ble_eq_true rfl⟩) ⟨xPc_bl, va_recv hK hPc (ci := 3) (q0 := 0) rfl rfl, xPc_use hPc hK⟩ rfl rfl hl.1 rfl (lv_room (Nat.le_of_ble_eq_true rfl)) dX3_readOnto_1 ⟨Nat.le_of_ble_eq_true rfl, Nat.le_of_ble_eq_true rfl⟩)) (fun r_1 er_1 => ?_)
  obtain rfl : (0 : Int32) = r_1 := Eq.symm er_1
  refine lv_istore_n (lv' := [(2, .int 0), (0, .ref tx), (1, .ref dr)]) hx hb dX3_readOnto_4 rfl hl (by decide) rfl (fun ls hl => ?_)
  refine lv_iload_n hx hb dX3_readOnto_5 rfl (lv_at hl 0 rfl) ?_
  refine lv_if_lt (tgt := 15) hx hb dX3_readOnto_6 (by decide) (fun c_2 => absurd c_2 (by decide +kernel)) (fun c_2 => ?_)
  refine lv_sipush (v := -1000) hx hb dX3_readOnto_9 (by decide) ?_
  refine lv_iload_n hx hb dX3_readOnto_12 rfl (lv_at hl 0 rfl) ?_
  refine lv_isub hx hb dX3_readOnto_13 ?_
  refine xv_int (y := (-1000)) (by decide +kernel) ?_
  exact W.iret (v := -1000) hx hb hr (fun t ht hW => ⟨_, rfl, rfl, ht⟩) (fun _ h => absurd h List.not_mem_nil) dX3_readOnto_14

set_option maxHeartbeats 4000000 in
set_option maxRecDepth 100000 in
theorem p1_X4_road (l : Launch) (D : va_G) (cI cL cZ cC : ClassId) (sz : Nat) (h0 : Nat) (rd : Nat) (dr : Nat) (kp : Nat) (pl : Nat) (tx : Nat) (nu : Nat) (rf_a : Nat) (r0 : Nat) (r1 : Nat) (r2 : Nat) (r3 : Nat) (r4 : Nat) (r5 : Nat) (r6 : Nat) (r7 : Nat) (d0 : Nat) (d1 : Nat) (d2 : Nat) (d3 : Nat) (d4 : Nat) (d5 : Nat) (d6 : Nat) (d7 : Nat) (t0 : Nat)  : Met l yX4_road wsX4_road ({ frames := 5, cells := 0, slots := 0, locals := 112 } : Room) (wPc D [.ref h0] [(h0, .inr (4, [.ref rd, .ref dr, .ref kp, .ref pl, .ref tx, .ref nu, .ref rf_a, .int 0, .int 0, .int (-1)])), (rd, .inr (2, [.int 1, .int 400, .int 80, .int 2, .int 30, .int 0, .ref r0, .ref r1])), (r0, .inl (cI, 7, .inl (fun _ => 0))), (r1, .inl (cL, 3, .inr (.inr (.inr (.inr (xL3 r2 r4 r6)))))), (r2, .inr (0, [.int 0, .int 0, .int 0, .ref r3])), (r3, .inl (cI, 12, .inl (fun _ => 0))), (r4, .inr (0, [.int 0, .int 0, .int 0, .ref r5])), (r5, .inl (cI, 12, .inl (fun _ => 0))), (r6, .inr (0, [.int 0, .int 0, .int 0, .ref r7])), (r7, .inl (cI, 12, .inl (fun _ => 0))), (dr, .inr (2, [.int 1, .int 400, .int 80, .int 2, .int 30, .int 0, .ref d0, .ref d1])), (d0, .inl (cI, 7, .inl (fun _ => 0))), (d1, .inl (cL, 3, .inr (.inr (.inr (.inr (xL3 d2 d4 d6)))))), (d2, .inr (0, [.int 0, .int 0, .int 0, .ref d3])), (d3, .inl (cI, 12, .inl (fun _ => 0))), (d4, .inr (0, [.int 0, .int 0, .int 0, .ref d5])), (d5, .inl (cI, 12, .inl (fun _ => 0))), (d6, .inr (0, [.int 0, .int 0, .int 0, .ref d7])), (d7, .inl (cI, 12, .inl (fun _ => 0))), (tx, .inr (3, [.ref t0, .int 0])), (t0, .inl (cI, 96, .inl (fun _ => 0)))] (xTy cI cL cZ cC) sz) (va_Qi (fun (r : Int32) (_ : Unit) => r = -1000) (fun (_ : Unit) t => va_P D vwCl [] t.heap ∧ va_D (va_A [(h0, .inr (4, [.ref rd, .ref dr, .ref kp, .ref pl, .ref tx, .ref nu, .ref rf_a, .int 0, .int 0, .int (-1)])), (rd, .inr (2, [.int 1, .int 400, .int 80, .int 2, .int 30, .int 0, .ref r0, .ref r1])), (r0, .inl (cI, 7, .inl (fun _ => 0))), (r1, .inl (cL, 3, .inr (.inr (.inr (.inr (xL3 r2 r4 r6)))))), (r2, .inr (0, [.int 0, .int 0, .int 0, .ref r3])), (r3, .inl (cI, 12, .inl (fun _ => 0))), (r4, .inr (0, [.int 0, .int 0, .int 0, .ref r5])), (r5, .inl (cI, 12, .inl (fun _ => 0))), (r6, .inr (0, [.int 0, .int 0, .int 0, .ref r7])), (r7, .inl (cI, 12, .inl (fun _ => 0))), (dr, .inr (2, [.int 1, .int 400, .int 80, .int 2, .int 30, .int 0, .ref d0, .ref d1])), (d0, .inl (cI, 7, .inl (fun _ => 0))), (d1, .inl (cL, 3, .inr (.inr (.inr (.inr (xL3 d2 d4 d6)))))), (d2, .inr (0, [.int 0, .int 0, .int 0, .ref d3])), (d3, .inl (cI, 12, .inl (fun _ => 0))), (d4, .inr (0, [.int 0, .int 0, .int 0, .ref d5])), (d5, .inl (cI, 12, .inl (fun _ => 0))), (d6, .inr (0, [.int 0, .int 0, .int 0, .ref d7])), (d7, .inl (cI, 12, .inl (fun _ => 0))), (tx, .inr (3, [.ref t0, .int 0])), (t0, .inl (cI, 96, .inl (fun _ => 0)))] sz) []) (va_A [(h0, .inr (4, [.ref rd, .ref dr, .ref kp, .ref pl, .ref tx, .ref nu, .ref rf_a, .int 0, .int 0, .int (-1)])), (rd, .inr (2, [.int 1, .int 400, .int 80, .int 2, .int 30, .int 0, .ref r0, .ref r1])), (r0, .inl (cI, 7, .inl (fun _ => 0))), (r1, .inl (cL, 3, .inr (.inr (.inr (.inr (xL3 r2 r4 r6)))))), (r2, .inr (0, [.int 0, .int 0, .int 0, .ref r3])), (r3, .inl (cI, 12, .inl (fun _ => 0))), (r4, .inr (0, [.int 0, .int 0, .int 0, .ref r5])), (r5, .inl (cI, 12, .inl (fun _ => 0))), (r6, .inr (0, [.int 0, .int 0, .int 0, .ref r7])), (r7, .inl (cI, 12, .inl (fun _ => 0))), (dr, .inr (2, [.int 1, .int 400, .int 80, .int 2, .int 30, .int 0, .ref d0, .ref d1])), (d0, .inl (cI, 7, .inl (fun _ => 0))), (d1, .inl (cL, 3, .inr (.inr (.inr (.inr (xL3 d2 d4 d6)))))), (d2, .inr (0, [.int 0, .int 0, .int 0, .ref d3])), (d3, .inl (cI, 12, .inl (fun _ => 0))), (d4, .inr (0, [.int 0, .int 0, .int 0, .ref d5])), (d5, .inl (cI, 12, .inl (fun _ => 0))), (d6, .inr (0, [.int 0, .int 0, .int 0, .ref d7])), (d7, .inl (cI, 12, .inl (fun _ => 0))), (tx, .inr (3, [.ref t0, .int 0])), (t0, .inl (cI, 96, .inl (fun _ => 0)))] sz)) 0 0 (va_A [(h0, .inr (4, [.ref rd, .ref dr, .ref kp, .ref pl, .ref tx, .ref nu, .ref rf_a, .int 0, .int 0, .int (-1)])), (rd, .inr (2, [.int 1, .int 400, .int 80, .int 2, .int 30, .int 0, .ref r0, .ref r1])), (r0, .inl (cI, 7, .inl (fun _ => 0))), (r1, .inl (cL, 3, .inr (.inr (.inr (.inr (xL3 r2 r4 r6)))))), (r2, .inr (0, [.int 0, .int 0, .int 0, .ref r3])), (r3, .inl (cI, 12, .inl (fun _ => 0))), (r4, .inr (0, [.int 0, .int 0, .int 0, .ref r5])), (r5, .inl (cI, 12, .inl (fun _ => 0))), (r6, .inr (0, [.int 0, .int 0, .int 0, .ref r7])), (r7, .inl (cI, 12, .inl (fun _ => 0))), (dr, .inr (2, [.int 1, .int 400, .int 80, .int 2, .int 30, .int 0, .ref d0, .ref d1])), (d0, .inl (cI, 7, .inl (fun _ => 0))), (d1, .inl (cL, 3, .inr (.inr (.inr (.inr (xL3 d2 d4 d6)))))), (d2, .inr (0, [.int 0, .int 0, .int 0, .ref d3])), (d3, .inl (cI, 12, .inl (fun _ => 0))), (d4, .inr (0, [.int 0, .int 0, .int 0, .ref d5])), (d5, .inl (cI, 12, .inl (fun _ => 0))), (d6, .inr (0, [.int 0, .int 0, .int 0, .ref d7])), (d7, .inl (cI, 12, .inl (fun _ => 0))), (tx, .inr (3, [.ref t0, .int 0])), (t0, .inl (cI, 96, .inl (fun _ => 0)))] sz) := by
  refine Met.ofW (cc := cX4_road) (maxL := 2) (ret := (some .int)) (by decide) rfl ?_
  intro p e s m args below meth c s₁ B hml hv
  obtain ⟨rfl, hsz, hP, hK, hD0⟩ := hv
  have hx := B.exec
  have hb := B.bytes
  have hr := B.returns
  have hts := atoms_spec (ws := wsX4_road) B.pre
  have hown : s.vm.findClass RX4 = some m.cls := findClass_of_methodNamed B.named
  have hlocks := B.notSynchronized
  have hwX3 : ∀ w ∈ u_ws RX3 TX3 2, w ∈ wsX4_road := fun _ h => List.mem_cons_of_mem _ (List.mem_append_left _ (List.mem_append_left _ (List.mem_append_right _ h)))
  have hwX4 : ∀ w ∈ u_ws RX4 TX4 10, w ∈ wsX4_road := fun _ h => List.mem_cons_of_mem _ (List.mem_append_left _ (List.mem_append_left _ (List.mem_append_left _ (List.mem_append_right _ h))))
  subst hsz
  have hD := hD0.self (sz := s.heap.size)
  generalize hAe : va_A [(h0, .inr (4, [.ref rd, .ref dr, .ref kp, .ref pl, .ref tx, .ref nu, .ref rf_a, .int 0, .int 0, .int (-1)])), (rd, .inr (2, [.int 1, .int 400, .int 80, .int 2, .int 30, .int 0, .ref r0, .ref r1])), (r0, .inl (cI, 7, .inl (fun _ => 0))), (r1, .inl (cL, 3, .inr (.inr (.inr (.inr (xL3 r2 r4 r6)))))), (r2, .inr (0, [.int 0, .int 0, .int 0, .ref r3])), (r3, .inl (cI, 12, .inl (fun _ => 0))), (r4, .inr (0, [.int 0, .int 0, .int 0, .ref r5])), (r5, .inl (cI, 12, .inl (fun _ => 0))), (r6, .inr (0, [.int 0, .int 0, .int 0, .ref r7])), (r7, .inl (cI, 12, .inl (fun _ => 0))), (dr, .inr (2, [.int 1, .int 400, .int 80, .int 2, .int 30, .int 0, .ref d0, .ref d1])), (d0, .inl (cI, 7, .inl (fun _ => 0))), (d1, .inl (cL, 3, .inr (.inr (.inr (.inr (xL3 d2 d4 d6)))))), (d2, .inr (0, [.int 0, .int 0, .int 0, .ref d3])), (d3, .inl (cI, 12, .inl (fun _ => 0))), (d4, .inr (0, [.int 0, .int 0, .int 0, .ref d5])), (d5, .inl (cI, 12, .inl (fun _ => 0))), (d6, .inr (0, [.int 0, .int 0, .int 0, .ref d7])), (d7, .inl (cI, 12, .inl (fun _ => 0))), (tx, .inr (3, [.ref t0, .int 0])), (t0, .inl (cI, 96, .inl (fun _ => 0)))] s.heap.size = A at hD ⊢
  have hA : ∀ q : Nat, s.heap.size ≤ q → A q := fun q h => by rw [← hAe]; exact Or.inr h
  have hS : va_S A s.heap s.heap [] := va_S.rf
  have hP : va_P D vwCl [(h0, .inr (4, [.ref rd, .ref dr, .ref kp, .ref pl, .ref tx, .ref nu, .ref rf_a, .int 0, .int 0, .int (-1)])), (rd, .inr (2, [.int 1, .int 400, .int 80, .int 2, .int 30, .int 0, .ref r0, .ref r1])), (r0, .inl (cI, 7, .inl (fun _ => 0))), (r1, .inl (cL, 3, .inr (.inr (.inr (.inr (xL3 r2 r4 r6)))))), (r2, .inr (0, [.int 0, .int 0, .int 0, .ref r3])), (r3, .inl (cI, 12, .inl (fun _ => 0))), (r4, .inr (0, [.int 0, .int 0, .int 0, .ref r5])), (r5, .inl (cI, 12, .inl (fun _ => 0))), (r6, .inr (0, [.int 0, .int 0, .int 0, .ref r7])), (r7, .inl (cI, 12, .inl (fun _ => 0))), (dr, .inr (2, [.int 1, .int 400, .int 80, .int 2, .int 30, .int 0, .ref d0, .ref d1])), (d0, .inl (cI, 7, .inl (fun _ => 0))), (d1, .inl (cL, 3, .inr (.inr (.inr (.inr (xL3 d2 d4 d6)))))), (d2, .inr (0, [.int 0, .int 0, .int 0, .ref d3])), (d3, .inl (cI, 12, .inl (fun _ => 0))), (d4, .inr (0, [.int 0, .int 0, .int 0, .ref d5])), (d5, .inl (cI, 12, .inl (fun _ => 0))), (d6, .inr (0, [.int 0, .int 0, .int 0, .ref d7])), (d7, .inl (cI, 12, .inl (fun _ => 0))), (tx, .inr (3, [.ref t0, .int 0])), (t0, .inl (cI, 96, .inl (fun _ => 0)))] s.heap := hP
  have hl := lv_entry ([.ref h0]) (n := 2) (Nat.le_of_ble_eq_true rfl)
  rw [lg_entry_eq]
  generalize (lg_sl ([.ref h0]) ++ List.replicate (2 - (lg_sl ([.ref h0])).length) Slot.unset).toArray = ls at hl ⊢
  have hl : lv_has ls 2 [(0, .ref h0)] := hl
  refine lv_aload_n hx hb dX4_road_0 rfl (lv_at hl 0 rfl) ?_
  refine va_get (D := D) (ci := 4) (v := .ref dr) (C := RX4) (T := TX4) (N := 10) hx hb hts hwX4 hown hK hP 0 rfl rfl 1 (by decide) (hts (.fieldLink RX4 16 "WaitOrWalkOn" "draft" "LWaitOrWalkOn$Road;") (by decide +kernel)) (fun _ h9 => h9) rfl dX4_road_1 ?_
  refine lv_aload_n hx hb dX4_road_4 rfl (lv_at hl 0 rfl) ?_
  refine va_get (D := D) (ci := 4) (v := .ref rd) (C := RX4) (T := TX4) (N := 10) hx hb hts hwX4 hown hK hP 0 rfl rfl 0 (by decide) (hts (.fieldLink RX4 10 "WaitOrWalkOn" "road" "LWaitOrWalkOn$Road;") (by decide +kernel)) (fun _ h9 => h9) rfl dX4_road_5 ?_
  have hPc := hP.sub (ws' := [(dr, .inr (2, [.int 1, .int 400, .int 80, .int 2, .int 30, .int 0, .ref d0, .ref d1])), (d0, .inl (cI, 7, .inl (fun _ => 0))), (d1, .inl (cL, 3, .inr (.inr (.inr (.inr (xL3 d2 d4 d6)))))), (d2, .inr (0, [.int 0, .int 0, .int 0, .ref d3])), (d3, .inl (cI, 12, .inl (fun _ => 0))), (d4, .inr (0, [.int 0, .int 0, .int 0, .ref d5])), (d5, .inl (cI, 12, .inl (fun _ => 0))), (d6, .inr (0, [.int 0, .int 0, .int 0, .ref d7])), (d7, .inl (cI, 12, .inl (fun _ => 0))), (rd, .inr (2, [.int 1, .int 400, .int 80, .int 2, .int 30, .int 0, .ref r0, .ref r1])), (r0, .inl (cI, 7, .inl (fun _ => 0))), (r1, .inl (cL, 3, .inr (.inr (.inr (.inr (xL3 r2 r4 r6)))))), (r2, .inr (0, [.int 0, .int 0, .int 0, .ref r3])), (r3, .inl (cI, 12, .inl (fun _ => 0))), (r4, .inr (0, [.int 0, .int 0, .int 0, .ref r5])), (r5, .inl (cI, 12, .inl (fun _ => 0))), (r6, .inr (0, [.int 0, .int 0, .int 0, .ref r7])), (r7, .inl (cI, 12, .inl (fun _ => 0)))]) [10, 11, 12, 13, 14, 15, 16, 17, 18, 1, 2, 3, 4, 5, 6, 7, 8, 9] rfl
  have hDc := hD.sub (ws' := [(dr, .inr (2, [.int 1, .int 400, .int 80, .int 2, .int 30, .int 0, .ref d0, .ref d1])), (d0, .inl (cI, 7, .inl (fun _ => 0))), (d1, .inl (cL, 3, .inr (.inr (.inr (.inr (xL3 d2 d4 d6)))))), (d2, .inr (0, [.int 0, .int 0, .int 0, .ref d3])), (d3, .inl (cI, 12, .inl (fun _ => 0))), (d4, .inr (0, [.int 0, .int 0, .int 0, .ref d5])), (d5, .inl (cI, 12, .inl (fun _ => 0))), (d6, .inr (0, [.int 0, .int 0, .int 0, .ref d7])), (d7, .inl (cI, 12, .inl (fun _ => 0))), (rd, .inr (2, [.int 1, .int 400, .int 80, .int 2, .int 30, .int 0, .ref r0, .ref r1])), (r0, .inl (cI, 7, .inl (fun _ => 0))), (r1, .inl (cL, 3, .inr (.inr (.inr (.inr (xL3 r2 r4 r6)))))), (r2, .inr (0, [.int 0, .int 0, .int 0, .ref r3])), (r3, .inl (cI, 12, .inl (fun _ => 0))), (r4, .inr (0, [.int 0, .int 0, .int 0, .ref r5])), (r5, .inl (cI, 12, .inl (fun _ => 0))), (r6, .inr (0, [.int 0, .int 0, .int 0, .ref r7])), (r7, .inl (cI, 12, .inl (fun _ => 0)))]) [10, 11, 12, 13, 14, 15, 16, 17, 18, 1, 2, 3, 4, 5, 6, 7, 8, 9] (by decide) rfl
  have hFc := va_free (wc := [(dr, .inr (2, [.int 1, .int 400, .int 80, .int 2, .int 30, .int 0, .ref d0, .ref d1])), (d0, .inl (cI, 7, .inl (fun _ => 0))), (d1, .inl (cL, 3, .inr (.inr (.inr (.inr (xL3 d2 d4 d6)))))), (d2, .inr (0, [.int 0, .int 0, .int 0, .ref d3])), (d3, .inl (cI, 12, .inl (fun _ => 0))), (d4, .inr (0, [.int 0, .int 0, .int 0, .ref d5])), (d5, .inl (cI, 12, .inl (fun _ => 0))), (d6, .inr (0, [.int 0, .int 0, .int 0, .ref d7])), (d7, .inl (cI, 12, .inl (fun _ => 0))), (rd, .inr (2, [.int 1, .int 400, .int 80, .int 2, .int 30, .int 0, .ref r0, .ref r1])), (r0, .inl (cI, 7, .inl (fun _ => 0))), (r1, .inl (cL, 3, .inr (.inr (.inr (.inr (xL3 r2 r4 r6)))))), (r2, .inr (0, [.int 0, .int 0, .int 0, .ref r3])), (r3, .inl (cI, 12, .inl (fun _ => 0))), (r4, .inr (0, [.int 0, .int 0, .int 0, .ref r5])), (r5, .inl (cI, 12, .inl (fun _ => 0))), (r6, .inr (0, [.int 0, .int 0, .int 0, .ref r7])), (r7, .inl (cI, 12, .inl (fun _ => 0)))]) hD hS hA [10, 11, 12, 13, 14, 15, 16, 17, 18, 1, 2, 3, 4, 5, 6, 7, 8, 9] rfl
  refine va_callv (va_runV (As := [.ref rd]) (rest := []) ⟨hx, hb, hml, hown, hts⟩ (c_X2_become l D cI cL cZ cC _ dr rd d0 d1 d2 d3 d4 d5 d6 d7 r0 r1 r2 r3 r4 r5 r6 r7 1 400 80 2 30 0 (fun _ => 0) 0 0 0 (fun _ => 0) 0 0 0 (fun _ => 0) 0 0 0 (fun _ => 0) 1 400 80 2 30 0 (fun _ => 0) 0 0 0 (fun _ => 0) 0 0 0 (fun _ => 0) 0 0 0 (fun _ => 0) ) (cwV 1 hts gX4_road_X2_become rfl rfl rfl (by decide +kernel) ⟨Nat.le_of_ble_eq_true rfl, Nat.le_of_ble_eq_true rfl⟩) ⟨wPc_bl, va_recv hK hPc (ci := 2) (q0 := 0) rfl rfl, wPc_use hPc hK hDc⟩ rfl rfl hl.1 rfl (lv_room (Nat.le_of_ble_eq_true rfl)) dX4_road_8 ⟨Nat.le_of_ble_eq_true rfl, Nat.le_of_ble_eq_true rfl⟩) hS (fun q _ h => hFc q h) hFc (fun u_1 t H1 locs ht hvm hw hB hz1 hk1 hS => ?_)
  obtain ⟨hP1, hD1⟩ := hB
  rw [ht] at hP1
  obtain ⟨hP, hD⟩ := va_join (wr := [(h0, .inr (4, [.ref rd, .ref dr, .ref kp, .ref pl, .ref tx, .ref nu, .ref rf_a, .int 0, .int 0, .int (-1)])), (tx, .inr (3, [.ref t0, .int 0])), (t0, .inl (cI, 96, .inl (fun _ => 0)))]) (w1 := [(dr, .inr (2, [.int 1, .int 400, .int 80, .int 2, .int 30, .int 0, .ref d0, .ref d1])), (d0, .inl (cI, 7, .inl (va_cpy (fun _ => 0) (fun _ => 0) 0 0 7))), (d1, .inl (cL, 3, .inr (.inr (.inr (.inr (xL3 d2 d4 d6)))))), (d2, .inr (0, [.int 0, .int 0, .int 0, .ref d3])), (d3, .inl (cI, 12, .inl (va_cpy (fun _ => 0) (fun _ => 0) 0 0 12))), (d4, .inr (0, [.int 0, .int 0, .int 0, .ref d5])), (d5, .inl (cI, 12, .inl (va_cpy (fun _ => 0) (fun _ => 0) 0 0 12))), (d6, .inr (0, [.int 0, .int 0, .int 0, .ref d7])), (d7, .inl (cI, 12, .inl (va_cpy (fun _ => 0) (fun _ => 0) 0 0 12))), (rd, .inr (2, [.int 1, .int 400, .int 80, .int 2, .int 30, .int 0, .ref r0, .ref r1])), (r0, .inl (cI, 7, .inl (fun _ => 0))), (r1, .inl (cL, 3, .inr (.inr (.inr (.inr (xL3 r2 r4 r6)))))), (r2, .inr (0, [.int 0, .int 0, .int 0, .ref r3])), (r3, .inl (cI, 12, .inl (fun _ => 0))), (r4, .inr (0, [.int 0, .int 0, .int 0, .ref r5])), (r5, .inl (cI, 12, .inl (fun _ => 0))), (r6, .inr (0, [.int 0, .int 0, .int 0, .ref r7])), (r7, .inl (cI, 12, .inl (fun _ => 0)))]) hP hD [10, 11, 12, 13, 14, 15, 16, 17, 18, 1, 2, 3, 4, 5, 6, 7, 8, 9] [0, 19, 20] rfl rfl (by decide) (by decide) hk1 hFc hP1 hD1
  generalize H1 = H at hP hS ⊢
  have hP : va_P D vwCl [(h0, .inr (4, [.ref rd, .ref dr, .ref kp, .ref pl, .ref tx, .ref nu, .ref rf_a, .int 0, .int 0, .int (-1)])), (tx, .inr (3, [.ref t0, .int 0])), (t0, .inl (cI, 96, .inl (fun _ => 0))), (dr, .inr (2, [.int 1, .int 400, .int 80, .int 2, .int 30, .int 0, .ref d0, .ref d1])), (d0, .inl (cI, 7, .inl (va_cpy (fun _ => 0) (fun _ => 0) 0 0 7))), (d1, .inl (cL, 3, .inr (.inr (.inr (.inr (xL3 d2 d4 d6)))))), (d2, .inr (0, [.int 0, .int 0, .int 0, .ref d3])), (d3, .inl (cI, 12, .inl (va_cpy (fun _ => 0) (fun _ => 0) 0 0 12))), (d4, .inr (0, [.int 0, .int 0, .int 0, .ref d5])), (d5, .inl (cI, 12, .inl (va_cpy (fun _ => 0) (fun _ => 0) 0 0 12))), (d6, .inr (0, [.int 0, .int 0, .int 0, .ref d7])), (d7, .inl (cI, 12, .inl (va_cpy (fun _ => 0) (fun _ => 0) 0 0 12))), (rd, .inr (2, [.int 1, .int 400, .int 80, .int 2, .int 30, .int 0, .ref r0, .ref r1])), (r0, .inl (cI, 7, .inl (fun _ => 0))), (r1, .inl (cL, 3, .inr (.inr (.inr (.inr (xL3 r2 r4 r6)))))), (r2, .inr (0, [.int 0, .int 0, .int 0, .ref r3])), (r3, .inl (cI, 12, .inl (fun _ => 0))), (r4, .inr (0, [.int 0, .int 0, .int 0, .ref r5])), (r5, .inl (cI, 12, .inl (fun _ => 0))), (r6, .inr (0, [.int 0, .int 0, .int 0, .ref r7])), (r7, .inl (cI, 12, .inl (fun _ => 0)))] H := hP
  have hD : va_D A [(h0, .inr (4, [.ref rd, .ref dr, .ref kp, .ref pl, .ref tx, .ref nu, .ref rf_a, .int 0, .int 0, .int (-1)])), (tx, .inr (3, [.ref t0, .int 0])), (t0, .inl (cI, 96, .inl (fun _ => 0))), (dr, .inr (2, [.int 1, .int 400, .int 80, .int 2, .int 30, .int 0, .ref d0, .ref d1])), (d0, .inl (cI, 7, .inl (va_cpy (fun _ => 0) (fun _ => 0) 0 0 7))), (d1, .inl (cL, 3, .inr (.inr (.inr (.inr (xL3 d2 d4 d6)))))), (d2, .inr (0, [.int 0, .int 0, .int 0, .ref d3])), (d3, .inl (cI, 12, .inl (va_cpy (fun _ => 0) (fun _ => 0) 0 0 12))), (d4, .inr (0, [.int 0, .int 0, .int 0, .ref d5])), (d5, .inl (cI, 12, .inl (va_cpy (fun _ => 0) (fun _ => 0) 0 0 12))), (d6, .inr (0, [.int 0, .int 0, .int 0, .ref d7])), (d7, .inl (cI, 12, .inl (va_cpy (fun _ => 0) (fun _ => 0) 0 0 12))), (rd, .inr (2, [.int 1, .int 400, .int 80, .int 2, .int 30, .int 0, .ref r0, .ref r1])), (r0, .inl (cI, 7, .inl (fun _ => 0))), (r1, .inl (cL, 3, .inr (.inr (.inr (.inr (xL3 r2 r4 r6)))))), (r2, .inr (0, [.int 0, .int 0, .int 0, .ref r3])), (r3, .inl (cI, 12, .inl (fun _ => 0))), (r4, .inr (0, [.int 0, .int 0, .int 0, .ref r5])), (r5, .inl (cI, 12, .inl (fun _ => 0))), (r6, .inr (0, [.int 0, .int 0, .int 0, .ref r7])), (r7, .inl (cI, 12, .inl (fun _ => 0)))] := hD
  refine lv_aload_n hx hb dX4_road_11 rfl (lv_at hl 0 rfl) ?_
  refine va_get (D := D) (ci := 4) (v := .ref tx) (C := RX4) (T := TX4) (N := 10) hx hb hts hwX4 hown hK hP 0 rfl rfl 4 (by decide) (hts (.fieldLink RX4 32 "WaitOrWalkOn" "text" "LWaitOrWalkOn$Text;") (by decide +kernel)) (fun _ h9 => h9) rfl dX4_road_12 ?_
  refine lv_aload_n hx hb dX4_road_15 rfl (lv_at hl 0 rfl) ?_
  refine va_get (D := D) (ci := 4) (v := .ref dr) (C := RX4) (T := TX4) (N := 10) hx hb hts hwX4 hown hK hP 0 rfl rfl 1 (by decide) (hts (.fieldLink RX4 16 "WaitOrWalkOn" "draft" "LWaitOrWalkOn$Road;") (by decide +kernel)) (fun _ h9 => h9) rfl dX4_road_16 ?_
  have hPc := hP.sub (ws' := [(tx, .inr (3, [.ref t0, .int 0])), (t0, .inl (cI, 96, .inl (fun _ => 0)))]) [1, 2] rfl
  refine vp_callSi (va_Run.run (va_runV (As := [.ref dr]) (rest := []) ⟨hx, hb, hml, hown, hts⟩ (c_X3_readOnto l D cI cL cZ cC tx t0 dr ) (cwV 1 hts gX4_road_X3_readOnto rfl rfl rfl (by decide +kernel) ⟨Nat.le_of_ble_eq_true rfl, Nat.le_of_ble_eq_true rfl⟩) ⟨xPc_bl, va_recv hK hPc (ci := 3) (q0 := 0) rfl rfl, xPc_use hPc hK⟩ rfl rfl hl.1 rfl (lv_room (Nat.le_of_ble_eq_true rfl)) dX4_road_19 ⟨Nat.le_of_ble_eq_true rfl, Nat.le_of_ble_eq_true rfl⟩)) (fun r_2 er_2 => ?_)
  obtain rfl : (-1000 : Int32) = r_2 := Eq.symm er_2
  refine lv_istore_n (lv' := [(1, .int (-1000)), (0, .ref h0)]) hx hb dX4_road_22 rfl hl (by decide) rfl (fun ls hl => ?_)
  refine lv_aload_n hx hb dX4_road_23 rfl (lv_at hl 1 rfl) ?_
  refine va_get (D := D) (ci := 4) (v := .ref tx) (C := RX4) (T := TX4) (N := 10) hx hb hts hwX4 hown hK hP 0 rfl rfl 4 (by decide) (hts (.fieldLink RX4 32 "WaitOrWalkOn" "text" "LWaitOrWalkOn$Text;") (by decide +kernel)) (fun _ h9 => h9) rfl dX4_road_24 ?_
  refine lv_iconst (v := 0) hx hb dX4_road_27 (by decide) ?_
  refine va_put (D := D) (ci := 3) (v := .int 0) (ty := .int) (C := RX3) (T := TX3) (N := 2) hx hb hts hwX3 tyX3 tyX3_ok nmX3 hown hK hP hD hS 1 rfl rfl 1 (by decide) (hts (.fieldLink RX4 51 "WaitOrWalkOn$Text" "length" "I") (by decide +kernel)) (fun _ h9 => h9) rfl (by decide +kernel) (by decide +kernel) rfl (Nat.le_of_ble_eq_true rfl) dX4_road_28 (fun H locs hP hD hS => ?_)
  have hP : va_P D vwCl [(h0, .inr (4, [.ref rd, .ref dr, .ref kp, .ref pl, .ref tx, .ref nu, .ref rf_a, .int 0, .int 0, .int (-1)])), (tx, .inr (3, [.ref t0, .int 0])), (t0, .inl (cI, 96, .inl (fun _ => 0))), (dr, .inr (2, [.int 1, .int 400, .int 80, .int 2, .int 30, .int 0, .ref d0, .ref d1])), (d0, .inl (cI, 7, .inl (va_cpy (fun _ => 0) (fun _ => 0) 0 0 7))), (d1, .inl (cL, 3, .inr (.inr (.inr (.inr (xL3 d2 d4 d6)))))), (d2, .inr (0, [.int 0, .int 0, .int 0, .ref d3])), (d3, .inl (cI, 12, .inl (va_cpy (fun _ => 0) (fun _ => 0) 0 0 12))), (d4, .inr (0, [.int 0, .int 0, .int 0, .ref d5])), (d5, .inl (cI, 12, .inl (va_cpy (fun _ => 0) (fun _ => 0) 0 0 12))), (d6, .inr (0, [.int 0, .int 0, .int 0, .ref d7])), (d7, .inl (cI, 12, .inl (va_cpy (fun _ => 0) (fun _ => 0) 0 0 12))), (rd, .inr (2, [.int 1, .int 400, .int 80, .int 2, .int 30, .int 0, .ref r0, .ref r1])), (r0, .inl (cI, 7, .inl (fun _ => 0))), (r1, .inl (cL, 3, .inr (.inr (.inr (.inr (xL3 r2 r4 r6)))))), (r2, .inr (0, [.int 0, .int 0, .int 0, .ref r3])), (r3, .inl (cI, 12, .inl (fun _ => 0))), (r4, .inr (0, [.int 0, .int 0, .int 0, .ref r5])), (r5, .inl (cI, 12, .inl (fun _ => 0))), (r6, .inr (0, [.int 0, .int 0, .int 0, .ref r7])), (r7, .inl (cI, 12, .inl (fun _ => 0)))] H := hP
  have hD : va_D A [(h0, .inr (4, [.ref rd, .ref dr, .ref kp, .ref pl, .ref tx, .ref nu, .ref rf_a, .int 0, .int 0, .int (-1)])), (tx, .inr (3, [.ref t0, .int 0])), (t0, .inl (cI, 96, .inl (fun _ => 0))), (dr, .inr (2, [.int 1, .int 400, .int 80, .int 2, .int 30, .int 0, .ref d0, .ref d1])), (d0, .inl (cI, 7, .inl (va_cpy (fun _ => 0) (fun _ => 0) 0 0 7))), (d1, .inl (cL, 3, .inr (.inr (.inr (.inr (xL3 d2 d4 d6)))))), (d2, .inr (0, [.int 0, .int 0, .int 0, .ref d3])), (d3, .inl (cI, 12, .inl (va_cpy (fun _ => 0) (fun _ => 0) 0 0 12))), (d4, .inr (0, [.int 0, .int 0, .int 0, .ref d5])), (d5, .inl (cI, 12, .inl (va_cpy (fun _ => 0) (fun _ => 0) 0 0 12))), (d6, .inr (0, [.int 0, .int 0, .int 0, .ref d7])), (d7, .inl (cI, 12, .inl (va_cpy (fun _ => 0) (fun _ => 0) 0 0 12))), (rd, .inr (2, [.int 1, .int 400, .int 80, .int 2, .int 30, .int 0, .ref r0, .ref r1])), (r0, .inl (cI, 7, .inl (fun _ => 0))), (r1, .inl (cL, 3, .inr (.inr (.inr (.inr (xL3 r2 r4 r6)))))), (r2, .inr (0, [.int 0, .int 0, .int 0, .ref r3])), (r3, .inl (cI, 12, .inl (fun _ => 0))), (r4, .inr (0, [.int 0, .int 0, .int 0, .ref r5])), (r5, .inl (cI, 12, .inl (fun _ => 0))), (r6, .inr (0, [.int 0, .int 0, .int 0, .ref r7])), (r7, .inl (cI, 12, .inl (fun _ => 0)))] := hD
  refine lv_iload_n hx hb dX4_road_31 rfl (lv_at hl 0 rfl) ?_
  refine lv_if_le (tgt := 51) hx hb dX4_road_32 (by decide) (fun c_3 => ?_) (fun c_3 => absurd c_3 (by decide +kernel))
  refine lv_iload_n hx hb dX4_road_51 rfl (lv_at hl 0 rfl) ?_
  have hP9 := hP.sub (ws' := []) [] rfl
  have hD9 := hD.sub (ws' := []) [] (by decide) rfl
  exact W.iret (v := -1000) hx hb hr (fun t ht hW => ⟨⟨_, (), rfl, rfl, by rw [ht]; exact hP9, hD9⟩, hS.F ht⟩) hS.2.2 dX4_road_52

set_option maxHeartbeats 4000000 in
set_option maxRecDepth 100000 in
theorem p1_X4_image (l : Launch) (D : va_G) (cI cL cZ cC : ClassId) (sz : Nat) (h0 : Nat) (rd : Nat) (dr : Nat) (kp : Nat) (pl : Nat) (tx : Nat) (nu : Nat) (rf_a : Nat) (r0 : Nat) (r1 : Nat) (r2 : Nat) (r3 : Nat) (r4 : Nat) (r5 : Nat) (r6 : Nat) (r7 : Nat) (k0 : Nat) (k1 : Nat) (k2 : Nat) (k3 : Nat) (k4 : Nat) (k5 : Nat) (k6 : Nat) (k7 : Nat)  : Met l yX4_image wsX4_image ({ frames := 3, cells := 0, slots := 0, locals := 83 } : Room) (wPc D [.ref h0] [(h0, .inr (4, [.ref rd, .ref dr, .ref kp, .ref pl, .ref tx, .ref nu, .ref rf_a, .int 0, .int 0, .int (-1)])), (rd, .inr (2, [.int 1, .int 400, .int 80, .int 2, .int 30, .int 0, .ref r0, .ref r1])), (r0, .inl (cI, 7, .inl (fun _ => 0))), (r1, .inl (cL, 3, .inr (.inr (.inr (.inr (xL3 r2 r4 r6)))))), (r2, .inr (0, [.int 0, .int 0, .int 0, .ref r3])), (r3, .inl (cI, 12, .inl (fun _ => 0))), (r4, .inr (0, [.int 0, .int 0, .int 0, .ref r5])), (r5, .inl (cI, 12, .inl (fun _ => 0))), (r6, .inr (0, [.int 0, .int 0, .int 0, .ref r7])), (r7, .inl (cI, 12, .inl (fun _ => 0))), (kp, .inr (2, [.int 1, .int 400, .int 80, .int 2, .int 30, .int 0, .ref k0, .ref k1])), (k0, .inl (cI, 7, .inl (fun _ => 0))), (k1, .inl (cL, 3, .inr (.inr (.inr (.inr (xL3 k2 k4 k6)))))), (k2, .inr (0, [.int 0, .int 0, .int 0, .ref k3])), (k3, .inl (cI, 12, .inl (fun _ => 0))), (k4, .inr (0, [.int 0, .int 0, .int 0, .ref k5])), (k5, .inl (cI, 12, .inl (fun _ => 0))), (k6, .inr (0, [.int 0, .int 0, .int 0, .ref k7])), (k7, .inl (cI, 12, .inl (fun _ => 0)))] (xTy cI cL cZ cC) sz) (va_Qi (fun (r : Int32) (_ : Unit) => r = 1) (fun (_ : Unit) t => va_P D vwCl [] t.heap ∧ va_D (va_A [(h0, .inr (4, [.ref rd, .ref dr, .ref kp, .ref pl, .ref tx, .ref nu, .ref rf_a, .int 0, .int 0, .int (-1)])), (rd, .inr (2, [.int 1, .int 400, .int 80, .int 2, .int 30, .int 0, .ref r0, .ref r1])), (r0, .inl (cI, 7, .inl (fun _ => 0))), (r1, .inl (cL, 3, .inr (.inr (.inr (.inr (xL3 r2 r4 r6)))))), (r2, .inr (0, [.int 0, .int 0, .int 0, .ref r3])), (r3, .inl (cI, 12, .inl (fun _ => 0))), (r4, .inr (0, [.int 0, .int 0, .int 0, .ref r5])), (r5, .inl (cI, 12, .inl (fun _ => 0))), (r6, .inr (0, [.int 0, .int 0, .int 0, .ref r7])), (r7, .inl (cI, 12, .inl (fun _ => 0))), (kp, .inr (2, [.int 1, .int 400, .int 80, .int 2, .int 30, .int 0, .ref k0, .ref k1])), (k0, .inl (cI, 7, .inl (fun _ => 0))), (k1, .inl (cL, 3, .inr (.inr (.inr (.inr (xL3 k2 k4 k6)))))), (k2, .inr (0, [.int 0, .int 0, .int 0, .ref k3])), (k3, .inl (cI, 12, .inl (fun _ => 0))), (k4, .inr (0, [.int 0, .int 0, .int 0, .ref k5])), (k5, .inl (cI, 12, .inl (fun _ => 0))), (k6, .inr (0, [.int 0, .int 0, .int 0, .ref k7])), (k7, .inl (cI, 12, .inl (fun _ => 0)))] sz) []) (va_A [(h0, .inr (4, [.ref rd, .ref dr, .ref kp, .ref pl, .ref tx, .ref nu, .ref rf_a, .int 0, .int 0, .int (-1)])), (rd, .inr (2, [.int 1, .int 400, .int 80, .int 2, .int 30, .int 0, .ref r0, .ref r1])), (r0, .inl (cI, 7, .inl (fun _ => 0))), (r1, .inl (cL, 3, .inr (.inr (.inr (.inr (xL3 r2 r4 r6)))))), (r2, .inr (0, [.int 0, .int 0, .int 0, .ref r3])), (r3, .inl (cI, 12, .inl (fun _ => 0))), (r4, .inr (0, [.int 0, .int 0, .int 0, .ref r5])), (r5, .inl (cI, 12, .inl (fun _ => 0))), (r6, .inr (0, [.int 0, .int 0, .int 0, .ref r7])), (r7, .inl (cI, 12, .inl (fun _ => 0))), (kp, .inr (2, [.int 1, .int 400, .int 80, .int 2, .int 30, .int 0, .ref k0, .ref k1])), (k0, .inl (cI, 7, .inl (fun _ => 0))), (k1, .inl (cL, 3, .inr (.inr (.inr (.inr (xL3 k2 k4 k6)))))), (k2, .inr (0, [.int 0, .int 0, .int 0, .ref k3])), (k3, .inl (cI, 12, .inl (fun _ => 0))), (k4, .inr (0, [.int 0, .int 0, .int 0, .ref k5])), (k5, .inl (cI, 12, .inl (fun _ => 0))), (k6, .inr (0, [.int 0, .int 0, .int 0, .ref k7])), (k7, .inl (cI, 12, .inl (fun _ => 0)))] sz)) 0 0 (va_A [(h0, .inr (4, [.ref rd, .ref dr, .ref kp, .ref pl, .ref tx, .ref nu, .ref rf_a, .int 0, .int 0, .int (-1)])), (rd, .inr (2, [.int 1, .int 400, .int 80, .int 2, .int 30, .int 0, .ref r0, .ref r1])), (r0, .inl (cI, 7, .inl (fun _ => 0))), (r1, .inl (cL, 3, .inr (.inr (.inr (.inr (xL3 r2 r4 r6)))))), (r2, .inr (0, [.int 0, .int 0, .int 0, .ref r3])), (r3, .inl (cI, 12, .inl (fun _ => 0))), (r4, .inr (0, [.int 0, .int 0, .int 0, .ref r5])), (r5, .inl (cI, 12, .inl (fun _ => 0))), (r6, .inr (0, [.int 0, .int 0, .int 0, .ref r7])), (r7, .inl (cI, 12, .inl (fun _ => 0))), (kp, .inr (2, [.int 1, .int 400, .int 80, .int 2, .int 30, .int 0, .ref k0, .ref k1])), (k0, .inl (cI, 7, .inl (fun _ => 0))), (k1, .inl (cL, 3, .inr (.inr (.inr (.inr (xL3 k2 k4 k6)))))), (k2, .inr (0, [.int 0, .int 0, .int 0, .ref k3])), (k3, .inl (cI, 12, .inl (fun _ => 0))), (k4, .inr (0, [.int 0, .int 0, .int 0, .ref k5])), (k5, .inl (cI, 12, .inl (fun _ => 0))), (k6, .inr (0, [.int 0, .int 0, .int 0, .ref k7])), (k7, .inl (cI, 12, .inl (fun _ => 0)))] sz) := by
  refine Met.ofW (cc := cX4_image) (maxL := 1) (ret := (some .int)) (by decide) rfl ?_
  intro p e s m args below meth c s₁ B hml hv
  obtain ⟨rfl, hsz, hP, hK, hD0⟩ := hv
  have hx := B.exec
  have hb := B.bytes
  have hr := B.returns
  have hts := atoms_spec (ws := wsX4_image) B.pre
  have hown : s.vm.findClass RX4 = some m.cls := findClass_of_methodNamed B.named
  have hlocks := B.notSynchronized
  have hwX2 : ∀ w ∈ u_ws RX2 TX2 8, w ∈ wsX4_image := fun _ h => List.mem_cons_of_mem _ (List.mem_append_left _ (List.mem_append_right _ h))
  have hwX4 : ∀ w ∈ u_ws RX4 TX4 10, w ∈ wsX4_image := fun _ h => List.mem_cons_of_mem _ (List.mem_append_left _ (List.mem_append_left _ (List.mem_append_right _ h)))
  subst hsz
  have hD := hD0.self (sz := s.heap.size)
  generalize hAe : va_A [(h0, .inr (4, [.ref rd, .ref dr, .ref kp, .ref pl, .ref tx, .ref nu, .ref rf_a, .int 0, .int 0, .int (-1)])), (rd, .inr (2, [.int 1, .int 400, .int 80, .int 2, .int 30, .int 0, .ref r0, .ref r1])), (r0, .inl (cI, 7, .inl (fun _ => 0))), (r1, .inl (cL, 3, .inr (.inr (.inr (.inr (xL3 r2 r4 r6)))))), (r2, .inr (0, [.int 0, .int 0, .int 0, .ref r3])), (r3, .inl (cI, 12, .inl (fun _ => 0))), (r4, .inr (0, [.int 0, .int 0, .int 0, .ref r5])), (r5, .inl (cI, 12, .inl (fun _ => 0))), (r6, .inr (0, [.int 0, .int 0, .int 0, .ref r7])), (r7, .inl (cI, 12, .inl (fun _ => 0))), (kp, .inr (2, [.int 1, .int 400, .int 80, .int 2, .int 30, .int 0, .ref k0, .ref k1])), (k0, .inl (cI, 7, .inl (fun _ => 0))), (k1, .inl (cL, 3, .inr (.inr (.inr (.inr (xL3 k2 k4 k6)))))), (k2, .inr (0, [.int 0, .int 0, .int 0, .ref k3])), (k3, .inl (cI, 12, .inl (fun _ => 0))), (k4, .inr (0, [.int 0, .int 0, .int 0, .ref k5])), (k5, .inl (cI, 12, .inl (fun _ => 0))), (k6, .inr (0, [.int 0, .int 0, .int 0, .ref k7])), (k7, .inl (cI, 12, .inl (fun _ => 0)))] s.heap.size = A at hD ⊢
  have hA : ∀ q : Nat, s.heap.size ≤ q → A q := fun q h => by rw [← hAe]; exact Or.inr h
  have hS : va_S A s.heap s.heap [] := va_S.rf
  have hP : va_P D vwCl [(h0, .inr (4, [.ref rd, .ref dr, .ref kp, .ref pl, .ref tx, .ref nu, .ref rf_a, .int 0, .int 0, .int (-1)])), (rd, .inr (2, [.int 1, .int 400, .int 80, .int 2, .int 30, .int 0, .ref r0, .ref r1])), (r0, .inl (cI, 7, .inl (fun _ => 0))), (r1, .inl (cL, 3, .inr (.inr (.inr (.inr (xL3 r2 r4 r6)))))), (r2, .inr (0, [.int 0, .int 0, .int 0, .ref r3])), (r3, .inl (cI, 12, .inl (fun _ => 0))), (r4, .inr (0, [.int 0, .int 0, .int 0, .ref r5])), (r5, .inl (cI, 12, .inl (fun _ => 0))), (r6, .inr (0, [.int 0, .int 0, .int 0, .ref r7])), (r7, .inl (cI, 12, .inl (fun _ => 0))), (kp, .inr (2, [.int 1, .int 400, .int 80, .int 2, .int 30, .int 0, .ref k0, .ref k1])), (k0, .inl (cI, 7, .inl (fun _ => 0))), (k1, .inl (cL, 3, .inr (.inr (.inr (.inr (xL3 k2 k4 k6)))))), (k2, .inr (0, [.int 0, .int 0, .int 0, .ref k3])), (k3, .inl (cI, 12, .inl (fun _ => 0))), (k4, .inr (0, [.int 0, .int 0, .int 0, .ref k5])), (k5, .inl (cI, 12, .inl (fun _ => 0))), (k6, .inr (0, [.int 0, .int 0, .int 0, .ref k7])), (k7, .inl (cI, 12, .inl (fun _ => 0)))] s.heap := hP
  have hl := lv_entry ([.ref h0]) (n := 1) (Nat.le_of_ble_eq_true rfl)
  rw [lg_entry_eq]
  generalize (lg_sl ([.ref h0]) ++ List.replicate (1 - (lg_sl ([.ref h0])).length) Slot.unset).toArray = ls at hl ⊢
  have hl : lv_has ls 1 [(0, .ref h0)] := hl
  refine lv_aload_n hx hb dX4_image_0 rfl (lv_at hl 0 rfl) ?_
  refine va_get (D := D) (ci := 4) (v := .ref kp) (C := RX4) (T := TX4) (N := 10) hx hb hts hwX4 hown hK hP 0 rfl rfl 2 (by decide) (hts (.fieldLink RX4 19 "WaitOrWalkOn" "kept" "LWaitOrWalkOn$Road;") (by decide +kernel)) (fun _ h9 => h9) rfl dX4_image_1 ?_
  refine lv_aload_n hx hb dX4_image_4 rfl (lv_at hl 0 rfl) ?_
  refine va_get (D := D) (ci := 4) (v := .ref rd) (C := RX4) (T := TX4) (N := 10) hx hb hts hwX4 hown hK hP 0 rfl rfl 0 (by decide) (hts (.fieldLink RX4 10 "WaitOrWalkOn" "road" "LWaitOrWalkOn$Road;") (by decide +kernel)) (fun _ h9 => h9) rfl dX4_image_5 ?_
  have hPc := hP.sub (ws' := [(kp, .inr (2, [.int 1, .int 400, .int 80, .int 2, .int 30, .int 0, .ref k0, .ref k1])), (k0, .inl (cI, 7, .inl (fun _ => 0))), (k1, .inl (cL, 3, .inr (.inr (.inr (.inr (xL3 k2 k4 k6)))))), (k2, .inr (0, [.int 0, .int 0, .int 0, .ref k3])), (k3, .inl (cI, 12, .inl (fun _ => 0))), (k4, .inr (0, [.int 0, .int 0, .int 0, .ref k5])), (k5, .inl (cI, 12, .inl (fun _ => 0))), (k6, .inr (0, [.int 0, .int 0, .int 0, .ref k7])), (k7, .inl (cI, 12, .inl (fun _ => 0))), (rd, .inr (2, [.int 1, .int 400, .int 80, .int 2, .int 30, .int 0, .ref r0, .ref r1])), (r0, .inl (cI, 7, .inl (fun _ => 0))), (r1, .inl (cL, 3, .inr (.inr (.inr (.inr (xL3 r2 r4 r6)))))), (r2, .inr (0, [.int 0, .int 0, .int 0, .ref r3])), (r3, .inl (cI, 12, .inl (fun _ => 0))), (r4, .inr (0, [.int 0, .int 0, .int 0, .ref r5])), (r5, .inl (cI, 12, .inl (fun _ => 0))), (r6, .inr (0, [.int 0, .int 0, .int 0, .ref r7])), (r7, .inl (cI, 12, .inl (fun _ => 0)))]) [10, 11, 12, 13, 14, 15, 16, 17, 18, 1, 2, 3, 4, 5, 6, 7, 8, 9] rfl
  have hDc := hD.sub (ws' := [(kp, .inr (2, [.int 1, .int 400, .int 80, .int 2, .int 30, .int 0, .ref k0, .ref k1])), (k0, .inl (cI, 7, .inl (fun _ => 0))), (k1, .inl (cL, 3, .inr (.inr (.inr (.inr (xL3 k2 k4 k6)))))), (k2, .inr (0, [.int 0, .int 0, .int 0, .ref k3])), (k3, .inl (cI, 12, .inl (fun _ => 0))), (k4, .inr (0, [.int 0, .int 0, .int 0, .ref k5])), (k5, .inl (cI, 12, .inl (fun _ => 0))), (k6, .inr (0, [.int 0, .int 0, .int 0, .ref k7])), (k7, .inl (cI, 12, .inl (fun _ => 0))), (rd, .inr (2, [.int 1, .int 400, .int 80, .int 2, .int 30, .int 0, .ref r0, .ref r1])), (r0, .inl (cI, 7, .inl (fun _ => 0))), (r1, .inl (cL, 3, .inr (.inr (.inr (.inr (xL3 r2 r4 r6)))))), (r2, .inr (0, [.int 0, .int 0, .int 0, .ref r3])), (r3, .inl (cI, 12, .inl (fun _ => 0))), (r4, .inr (0, [.int 0, .int 0, .int 0, .ref r5])), (r5, .inl (cI, 12, .inl (fun _ => 0))), (r6, .inr (0, [.int 0, .int 0, .int 0, .ref r7])), (r7, .inl (cI, 12, .inl (fun _ => 0)))]) [10, 11, 12, 13, 14, 15, 16, 17, 18, 1, 2, 3, 4, 5, 6, 7, 8, 9] (by decide) rfl
  have hFc := va_free (wc := [(kp, .inr (2, [.int 1, .int 400, .int 80, .int 2, .int 30, .int 0, .ref k0, .ref k1])), (k0, .inl (cI, 7, .inl (fun _ => 0))), (k1, .inl (cL, 3, .inr (.inr (.inr (.inr (xL3 k2 k4 k6)))))), (k2, .inr (0, [.int 0, .int 0, .int 0, .ref k3])), (k3, .inl (cI, 12, .inl (fun _ => 0))), (k4, .inr (0, [.int 0, .int 0, .int 0, .ref k5])), (k5, .inl (cI, 12, .inl (fun _ => 0))), (k6, .inr (0, [.int 0, .int 0, .int 0, .ref k7])), (k7, .inl (cI, 12, .inl (fun _ => 0))), (rd, .inr (2, [.int 1, .int 400, .int 80, .int 2, .int 30, .int 0, .ref r0, .ref r1])), (r0, .inl (cI, 7, .inl (fun _ => 0))), (r1, .inl (cL, 3, .inr (.inr (.inr (.inr (xL3 r2 r4 r6)))))), (r2, .inr (0, [.int 0, .int 0, .int 0, .ref r3])), (r3, .inl (cI, 12, .inl (fun _ => 0))), (r4, .inr (0, [.int 0, .int 0, .int 0, .ref r5])), (r5, .inl (cI, 12, .inl (fun _ => 0))), (r6, .inr (0, [.int 0, .int 0, .int 0, .ref r7])), (r7, .inl (cI, 12, .inl (fun _ => 0)))]) hD hS hA [10, 11, 12, 13, 14, 15, 16, 17, 18, 1, 2, 3, 4, 5, 6, 7, 8, 9] rfl
  refine va_callv (va_runV (As := [.ref rd]) (rest := []) ⟨hx, hb, hml, hown, hts⟩ (c_X2_become l D cI cL cZ cC _ kp rd k0 k1 k2 k3 k4 k5 k6 k7 r0 r1 r2 r3 r4 r5 r6 r7 1 400 80 2 30 0 (fun _ => 0) 0 0 0 (fun _ => 0) 0 0 0 (fun _ => 0) 0 0 0 (fun _ => 0) 1 400 80 2 30 0 (fun _ => 0) 0 0 0 (fun _ => 0) 0 0 0 (fun _ => 0) 0 0 0 (fun _ => 0) ) (cwV 1 hts gX4_image_X2_become rfl rfl rfl (by decide +kernel) ⟨Nat.le_of_ble_eq_true rfl, Nat.le_of_ble_eq_true rfl⟩) ⟨wPc_bl, va_recv hK hPc (ci := 2) (q0 := 0) rfl rfl, wPc_use hPc hK hDc⟩ rfl rfl hl.1 rfl (lv_room (Nat.le_of_ble_eq_true rfl)) dX4_image_8 ⟨Nat.le_of_ble_eq_true rfl, Nat.le_of_ble_eq_true rfl⟩) hS (fun q _ h => hFc q h) hFc (fun u_1 t H1 locs ht hvm hw hB hz1 hk1 hS => ?_)
  obtain ⟨hP1, hD1⟩ := hB
  rw [ht] at hP1
  obtain ⟨hP, hD⟩ := va_join (wr := [(h0, .inr (4, [.ref rd, .ref dr, .ref kp, .ref pl, .ref tx, .ref nu, .ref rf_a, .int 0, .int 0, .int (-1)]))]) (w1 := [(kp, .inr (2, [.int 1, .int 400, .int 80, .int 2, .int 30, .int 0, .ref k0, .ref k1])), (k0, .inl (cI, 7, .inl (va_cpy (fun _ => 0) (fun _ => 0) 0 0 7))), (k1, .inl (cL, 3, .inr (.inr (.inr (.inr (xL3 k2 k4 k6)))))), (k2, .inr (0, [.int 0, .int 0, .int 0, .ref k3])), (k3, .inl (cI, 12, .inl (va_cpy (fun _ => 0) (fun _ => 0) 0 0 12))), (k4, .inr (0, [.int 0, .int 0, .int 0, .ref k5])), (k5, .inl (cI, 12, .inl (va_cpy (fun _ => 0) (fun _ => 0) 0 0 12))), (k6, .inr (0, [.int 0, .int 0, .int 0, .ref k7])), (k7, .inl (cI, 12, .inl (va_cpy (fun _ => 0) (fun _ => 0) 0 0 12))), (rd, .inr (2, [.int 1, .int 400, .int 80, .int 2, .int 30, .int 0, .ref r0, .ref r1])), (r0, .inl (cI, 7, .inl (fun _ => 0))), (r1, .inl (cL, 3, .inr (.inr (.inr (.inr (xL3 r2 r4 r6)))))), (r2, .inr (0, [.int 0, .int 0, .int 0, .ref r3])), (r3, .inl (cI, 12, .inl (fun _ => 0))), (r4, .inr (0, [.int 0, .int 0, .int 0, .ref r5])), (r5, .inl (cI, 12, .inl (fun _ => 0))), (r6, .inr (0, [.int 0, .int 0, .int 0, .ref r7])), (r7, .inl (cI, 12, .inl (fun _ => 0)))]) hP hD [10, 11, 12, 13, 14, 15, 16, 17, 18, 1, 2, 3, 4, 5, 6, 7, 8, 9] [0] rfl rfl (by decide) (by decide) hk1 hFc hP1 hD1
  generalize H1 = H at hP hS ⊢
  have hP : va_P D vwCl [(h0, .inr (4, [.ref rd, .ref dr, .ref kp, .ref pl, .ref tx, .ref nu, .ref rf_a, .int 0, .int 0, .int (-1)])), (kp, .inr (2, [.int 1, .int 400, .int 80, .int 2, .int 30, .int 0, .ref k0, .ref k1])), (k0, .inl (cI, 7, .inl (va_cpy (fun _ => 0) (fun _ => 0) 0 0 7))), (k1, .inl (cL, 3, .inr (.inr (.inr (.inr (xL3 k2 k4 k6)))))), (k2, .inr (0, [.int 0, .int 0, .int 0, .ref k3])), (k3, .inl (cI, 12, .inl (va_cpy (fun _ => 0) (fun _ => 0) 0 0 12))), (k4, .inr (0, [.int 0, .int 0, .int 0, .ref k5])), (k5, .inl (cI, 12, .inl (va_cpy (fun _ => 0) (fun _ => 0) 0 0 12))), (k6, .inr (0, [.int 0, .int 0, .int 0, .ref k7])), (k7, .inl (cI, 12, .inl (va_cpy (fun _ => 0) (fun _ => 0) 0 0 12))), (rd, .inr (2, [.int 1, .int 400, .int 80, .int 2, .int 30, .int 0, .ref r0, .ref r1])), (r0, .inl (cI, 7, .inl (fun _ => 0))), (r1, .inl (cL, 3, .inr (.inr (.inr (.inr (xL3 r2 r4 r6)))))), (r2, .inr (0, [.int 0, .int 0, .int 0, .ref r3])), (r3, .inl (cI, 12, .inl (fun _ => 0))), (r4, .inr (0, [.int 0, .int 0, .int 0, .ref r5])), (r5, .inl (cI, 12, .inl (fun _ => 0))), (r6, .inr (0, [.int 0, .int 0, .int 0, .ref r7])), (r7, .inl (cI, 12, .inl (fun _ => 0)))] H := hP
  have hD : va_D A [(h0, .inr (4, [.ref rd, .ref dr, .ref kp, .ref pl, .ref tx, .ref nu, .ref rf_a, .int 0, .int 0, .int (-1)])), (kp, .inr (2, [.int 1, .int 400, .int 80, .int 2, .int 30, .int 0, .ref k0, .ref k1])), (k0, .inl (cI, 7, .inl (va_cpy (fun _ => 0) (fun _ => 0) 0 0 7))), (k1, .inl (cL, 3, .inr (.inr (.inr (.inr (xL3 k2 k4 k6)))))), (k2, .inr (0, [.int 0, .int 0, .int 0, .ref k3])), (k3, .inl (cI, 12, .inl (va_cpy (fun _ => 0) (fun _ => 0) 0 0 12))), (k4, .inr (0, [.int 0, .int 0, .int 0, .ref k5])), (k5, .inl (cI, 12, .inl (va_cpy (fun _ => 0) (fun _ => 0) 0 0 12))), (k6, .inr (0, [.int 0, .int 0, .int 0, .ref k7])), (k7, .inl (cI, 12, .inl (va_cpy (fun _ => 0) (fun _ => 0) 0 0 12))), (rd, .inr (2, [.int 1, .int 400, .int 80, .int 2, .int 30, .int 0, .ref r0, .ref r1])), (r0, .inl (cI, 7, .inl (fun _ => 0))), (r1, .inl (cL, 3, .inr (.inr (.inr (.inr (xL3 r2 r4 r6)))))), (r2, .inr (0, [.int 0, .int 0, .int 0, .ref r3])), (r3, .inl (cI, 12, .inl (fun _ => 0))), (r4, .inr (0, [.int 0, .int 0, .int 0, .ref r5])), (r5, .inl (cI, 12, .inl (fun _ => 0))), (r6, .inr (0, [.int 0, .int 0, .int 0, .ref r7])), (r7, .inl (cI, 12, .inl (fun _ => 0)))] := hD
  refine lv_aload_n hx hb dX4_image_11 rfl (lv_at hl 0 rfl) ?_
  refine lv_iconst (v := 1) hx hb dX4_image_12 (by decide) ?_
  refine va_put (D := D) (ci := 4) (v := .int 1) (ty := .boolean) (C := RX4) (T := TX4) (N := 10) hx hb hts hwX4 tyX4 tyX4_ok nmX4 hown hK hP hD hS 0 rfl rfl 8 (by decide) (hts (.fieldLink RX4 218 "WaitOrWalkOn" "hasImage" "Z") (by decide +kernel)) (fun _ h9 => h9) rfl (by decide +kernel) (by decide +kernel) rfl (Nat.le_of_ble_eq_true rfl) dX4_image_13 (fun H locs hP hD hS => ?_)
  have hP : va_P D vwCl [(h0, .inr (4, [.ref rd, .ref dr, .ref kp, .ref pl, .ref tx, .ref nu, .ref rf_a, .int 0, .int 1, .int (-1)])), (kp, .inr (2, [.int 1, .int 400, .int 80, .int 2, .int 30, .int 0, .ref k0, .ref k1])), (k0, .inl (cI, 7, .inl (va_cpy (fun _ => 0) (fun _ => 0) 0 0 7))), (k1, .inl (cL, 3, .inr (.inr (.inr (.inr (xL3 k2 k4 k6)))))), (k2, .inr (0, [.int 0, .int 0, .int 0, .ref k3])), (k3, .inl (cI, 12, .inl (va_cpy (fun _ => 0) (fun _ => 0) 0 0 12))), (k4, .inr (0, [.int 0, .int 0, .int 0, .ref k5])), (k5, .inl (cI, 12, .inl (va_cpy (fun _ => 0) (fun _ => 0) 0 0 12))), (k6, .inr (0, [.int 0, .int 0, .int 0, .ref k7])), (k7, .inl (cI, 12, .inl (va_cpy (fun _ => 0) (fun _ => 0) 0 0 12))), (rd, .inr (2, [.int 1, .int 400, .int 80, .int 2, .int 30, .int 0, .ref r0, .ref r1])), (r0, .inl (cI, 7, .inl (fun _ => 0))), (r1, .inl (cL, 3, .inr (.inr (.inr (.inr (xL3 r2 r4 r6)))))), (r2, .inr (0, [.int 0, .int 0, .int 0, .ref r3])), (r3, .inl (cI, 12, .inl (fun _ => 0))), (r4, .inr (0, [.int 0, .int 0, .int 0, .ref r5])), (r5, .inl (cI, 12, .inl (fun _ => 0))), (r6, .inr (0, [.int 0, .int 0, .int 0, .ref r7])), (r7, .inl (cI, 12, .inl (fun _ => 0)))] H := hP
  have hD : va_D A [(h0, .inr (4, [.ref rd, .ref dr, .ref kp, .ref pl, .ref tx, .ref nu, .ref rf_a, .int 0, .int 1, .int (-1)])), (kp, .inr (2, [.int 1, .int 400, .int 80, .int 2, .int 30, .int 0, .ref k0, .ref k1])), (k0, .inl (cI, 7, .inl (va_cpy (fun _ => 0) (fun _ => 0) 0 0 7))), (k1, .inl (cL, 3, .inr (.inr (.inr (.inr (xL3 k2 k4 k6)))))), (k2, .inr (0, [.int 0, .int 0, .int 0, .ref k3])), (k3, .inl (cI, 12, .inl (va_cpy (fun _ => 0) (fun _ => 0) 0 0 12))), (k4, .inr (0, [.int 0, .int 0, .int 0, .ref k5])), (k5, .inl (cI, 12, .inl (va_cpy (fun _ => 0) (fun _ => 0) 0 0 12))), (k6, .inr (0, [.int 0, .int 0, .int 0, .ref k7])), (k7, .inl (cI, 12, .inl (va_cpy (fun _ => 0) (fun _ => 0) 0 0 12))), (rd, .inr (2, [.int 1, .int 400, .int 80, .int 2, .int 30, .int 0, .ref r0, .ref r1])), (r0, .inl (cI, 7, .inl (fun _ => 0))), (r1, .inl (cL, 3, .inr (.inr (.inr (.inr (xL3 r2 r4 r6)))))), (r2, .inr (0, [.int 0, .int 0, .int 0, .ref r3])), (r3, .inl (cI, 12, .inl (fun _ => 0))), (r4, .inr (0, [.int 0, .int 0, .int 0, .ref r5])), (r5, .inl (cI, 12, .inl (fun _ => 0))), (r6, .inr (0, [.int 0, .int 0, .int 0, .ref r7])), (r7, .inl (cI, 12, .inl (fun _ => 0)))] := hD
  refine lv_aload_n hx hb dX4_image_16 rfl (lv_at hl 0 rfl) ?_
  refine va_get (D := D) (ci := 4) (v := .ref kp) (C := RX4) (T := TX4) (N := 10) hx hb hts hwX4 hown hK hP 0 rfl rfl 2 (by decide) (hts (.fieldLink RX4 19 "WaitOrWalkOn" "kept" "LWaitOrWalkOn$Road;") (by decide +kernel)) (fun _ h9 => h9) rfl dX4_image_17 ?_
  refine va_get (D := D) (ci := 2) (v := .int 1) (C := RX2) (T := TX2) (N := 8) hx hb hts hwX2 hown hK hP 1 rfl rfl 0 (by decide) (hts (.fieldLink RX4 222 "WaitOrWalkOn$Road" "stops" "I") (by decide +kernel)) (fun _ h9 => h9) rfl dX4_image_20 ?_
  have hP9 := hP.sub (ws' := []) [] rfl
  have hD9 := hD.sub (ws' := []) [] (by decide) rfl
  exact W.iret (v := 1) hx hb hr (fun t ht hW => ⟨⟨_, (), rfl, rfl, by rw [ht]; exact hP9, hD9⟩, hS.F ht⟩) hS.2.2 dX4_image_23

set_option maxHeartbeats 4000000 in
set_option maxRecDepth 100000 in
theorem p1_X4_on (l : Launch) (D : va_G) (cI cL cZ cC : ClassId) (sz : Nat) (h0 : Nat) (rd : Nat) (dr : Nat) (kp : Nat) (pl : Nat) (tx : Nat) (nu : Nat) (rf_a : Nat)  : Met l yX4_on wsX4_on ({ frames := 1, cells := 0, slots := 0, locals := 22 } : Room) (wPc D [.ref h0] [(h0, .inr (4, [.ref rd, .ref dr, .ref kp, .ref pl, .ref tx, .ref nu, .ref rf_a, .int 0, .int 0, .int (-1)])), (rf_a, .inl (cI, 7, .inl (fun _ => 0)))] (xTy cI cL cZ cC) sz) (va_Qi (fun (r : Int32) (_ : Unit) => r = -3) (fun (_ : Unit) t => va_P D vwCl [] t.heap ∧ va_D (va_A [(h0, .inr (4, [.ref rd, .ref dr, .ref kp, .ref pl, .ref tx, .ref nu, .ref rf_a, .int 0, .int 0, .int (-1)])), (rf_a, .inl (cI, 7, .inl (fun _ => 0)))] sz) []) (va_A [(h0, .inr (4, [.ref rd, .ref dr, .ref kp, .ref pl, .ref tx, .ref nu, .ref rf_a, .int 0, .int 0, .int (-1)])), (rf_a, .inl (cI, 7, .inl (fun _ => 0)))] sz)) 0 0 (va_A [(h0, .inr (4, [.ref rd, .ref dr, .ref kp, .ref pl, .ref tx, .ref nu, .ref rf_a, .int 0, .int 0, .int (-1)])), (rf_a, .inl (cI, 7, .inl (fun _ => 0)))] sz) := by
  refine Met.ofW (cc := cX4_on) (maxL := 1) (ret := (some .int)) (by decide) rfl ?_
  intro p e s m args below meth c s₁ B hml hv
  obtain ⟨rfl, hsz, hP, hK, hD0⟩ := hv
  have hx := B.exec
  have hb := B.bytes
  have hr := B.returns
  have hts := atoms_spec (ws := wsX4_on) B.pre
  have hown : s.vm.findClass RX4 = some m.cls := findClass_of_methodNamed B.named
  have hlocks := B.notSynchronized
  have hwX4 : ∀ w ∈ u_ws RX4 TX4 10, w ∈ wsX4_on := fun _ h => List.mem_cons_of_mem _ (List.mem_append_left _ (List.mem_append_left _ (List.mem_append_right _ h)))
  subst hsz
  have hD := hD0.self (sz := s.heap.size)
  generalize hAe : va_A [(h0, .inr (4, [.ref rd, .ref dr, .ref kp, .ref pl, .ref tx, .ref nu, .ref rf_a, .int 0, .int 0, .int (-1)])), (rf_a, .inl (cI, 7, .inl (fun _ => 0)))] s.heap.size = A at hD ⊢
  have hA : ∀ q : Nat, s.heap.size ≤ q → A q := fun q h => by rw [← hAe]; exact Or.inr h
  have hS : va_S A s.heap s.heap [] := va_S.rf
  have hP : va_P D vwCl [(h0, .inr (4, [.ref rd, .ref dr, .ref kp, .ref pl, .ref tx, .ref nu, .ref rf_a, .int 0, .int 0, .int (-1)])), (rf_a, .inl (cI, 7, .inl (fun _ => 0)))] s.heap := hP
  have hl := lv_entry ([.ref h0]) (n := 1) (Nat.le_of_ble_eq_true rfl)
  rw [lg_entry_eq]
  generalize (lg_sl ([.ref h0]) ++ List.replicate (1 - (lg_sl ([.ref h0])).length) Slot.unset).toArray = ls at hl ⊢
  have hl : lv_has ls 1 [(0, .ref h0)] := hl
  refine lv_aload_n hx hb dX4_on_0 rfl (lv_at hl 0 rfl) ?_
  refine va_get (D := D) (ci := 4) (v := .int 0) (C := RX4) (T := TX4) (N := 10) hx hb hts hwX4 hown hK hP 0 rfl rfl 8 (by decide) (hts (.fieldLink RX4 218 "WaitOrWalkOn" "hasImage" "Z") (by decide +kernel)) (fun _ h9 => h9) rfl dX4_on_1 ?_
  refine lv_if_ne (tgt := 14) hx hb dX4_on_4 (by decide) (fun c_1 => absurd c_1 (by decide +kernel)) (fun c_1 => ?_)
  refine lv_aload_n hx hb dX4_on_7 rfl (lv_at hl 0 rfl) ?_
  refine lv_bipush (v := -3) hx hb dX4_on_8 (by decide) ?_
  have hPc := hP.sub (ws' := [(h0, .inr (4, [.ref rd, .ref dr, .ref kp, .ref pl, .ref tx, .ref nu, .ref rf_a, .int 0, .int 0, .int (-1)])), (rf_a, .inl (cI, 7, .inl (fun _ => 0)))]) [0, 1] rfl
  have hDc := hD.sub (ws' := [(h0, .inr (4, [.ref rd, .ref dr, .ref kp, .ref pl, .ref tx, .ref nu, .ref rf_a, .int 0, .int 0, .int (-1)])), (rf_a, .inl (cI, 7, .inl (fun _ => 0)))]) [0, 1] (by decide) rfl
  have hFc := va_free (wc := [(h0, .inr (4, [.ref rd, .ref dr, .ref kp, .ref pl, .ref tx, .ref nu, .ref rf_a, .int 0, .int 0, .int (-1)])), (rf_a, .inl (cI, 7, .inl (fun _ => 0)))]) hD hS hA [0, 1] rfl
  refine va_calli (va_runV (As := [.int (-3)]) (rest := []) ⟨hx, hb, hml, hown, hts⟩ (c_X4_refuse l D cI cL cZ cC _ h0 rd dr kp pl tx nu rf_a 0 0 (-1) (fun _ => 0) (-3) (by first | assumption | decide +kernel) (by first | assumption | decide +kernel)) (cwV 1 hts gX4_on_X4_refuse rfl rfl rfl (by decide +kernel) ⟨Nat.le_of_ble_eq_true rfl, Nat.le_of_ble_eq_true rfl⟩) ⟨wPc_bl, va_recv hK hPc (ci := 4) (q0 := 0) rfl rfl, wPc_use hPc hK hDc⟩ rfl rfl hl.1 rfl (lv_room (Nat.le_of_ble_eq_true rfl)) dX4_on_10 ⟨Nat.le_of_ble_eq_true rfl, Nat.le_of_ble_eq_true rfl⟩) hS (fun q _ h => hFc q h) hFc (fun r_2 u_2 t H1 locs ht hvm hw hB hz1 hk1 hS => ?_)
  obtain ⟨hP1, hD1⟩ := hB
  rw [ht] at hP1
  obtain ⟨hP, hD⟩ := va_join (wr := []) (w1 := [(h0, .inr (4, [.ref rd, .ref dr, .ref kp, .ref pl, .ref tx, .ref nu, .ref rf_a, .int 0, .int 0, .int (-1)])), (rf_a, .inl (cI, 7, .inl (xRf (fun _ => 0) (-3))))]) hP hD [0, 1] [] rfl rfl (by decide) (by decide) hk1 hFc hP1 hD1
  generalize H1 = H at hP hS ⊢
  have hP : va_P D vwCl [(h0, .inr (4, [.ref rd, .ref dr, .ref kp, .ref pl, .ref tx, .ref nu, .ref rf_a, .int 0, .int 0, .int (-1)])), (rf_a, .inl (cI, 7, .inl (xRf (fun _ => 0) (-3))))] H := hP
  have hD : va_D A [(h0, .inr (4, [.ref rd, .ref dr, .ref kp, .ref pl, .ref tx, .ref nu, .ref rf_a, .int 0, .int 0, .int (-1)])), (rf_a, .inl (cI, 7, .inl (xRf (fun _ => 0) (-3))))] := hD
  obtain rfl : ((-3) : Int32) = r_2 := Eq.symm hw
  have hP9 := hP.sub (ws' := []) [] rfl
  have hD9 := hD.sub (ws' := []) [] (by decide) rfl
  exact W.iret (v := -3) hx hb hr (fun t ht hW => ⟨⟨_, (), rfl, rfl, by rw [ht]; exact hP9, hD9⟩, hS.F ht⟩) hS.2.2 dX4_on_13

set_option maxHeartbeats 4000000 in
set_option maxRecDepth 100000 in
theorem p1_X4_judge (l : Launch) (D : va_G) (cI cL cZ cC : ClassId) (sz : Nat) (h0 : Nat) (rd : Nat) (dr : Nat) (kp : Nat) (pl : Nat) (tx : Nat) (nu : Nat) (rf_a : Nat)  : Met l yX4_judge wsX4_judge ({ frames := 0, cells := 0, slots := 0, locals := 0 } : Room) (wPc D [.ref h0] [(h0, .inr (4, [.ref rd, .ref dr, .ref kp, .ref pl, .ref tx, .ref nu, .ref rf_a, .int 0, .int 0, .int (-1)]))] (xTy cI cL cZ cC) sz) (va_Qi (fun (r : Int32) (_ : Unit) => r = -9) (fun (_ : Unit) t => va_P D vwCl [] t.heap ∧ va_D (va_A [(h0, .inr (4, [.ref rd, .ref dr, .ref kp, .ref pl, .ref tx, .ref nu, .ref rf_a, .int 0, .int 0, .int (-1)]))] sz) []) (va_A [(h0, .inr (4, [.ref rd, .ref dr, .ref kp, .ref pl, .ref tx, .ref nu, .ref rf_a, .int 0, .int 0, .int (-1)]))] sz)) 0 0 (va_A [(h0, .inr (4, [.ref rd, .ref dr, .ref kp, .ref pl, .ref tx, .ref nu, .ref rf_a, .int 0, .int 0, .int (-1)]))] sz) := by
  refine Met.ofW (cc := cX4_judge) (maxL := 3) (ret := (some .int)) (by decide) rfl ?_
  intro p e s m args below meth c s₁ B hml hv
  obtain ⟨rfl, hsz, hP, hK, hD0⟩ := hv
  have hx := B.exec
  have hb := B.bytes
  have hr := B.returns
  have hts := atoms_spec (ws := wsX4_judge) B.pre
  have hown : s.vm.findClass RX4 = some m.cls := findClass_of_methodNamed B.named
  have hlocks := B.notSynchronized
  have hwX4 : ∀ w ∈ u_ws RX4 TX4 10, w ∈ wsX4_judge := fun _ h => List.mem_cons_of_mem _ (List.mem_append_left _ (List.mem_append_right _ h))
  subst hsz
  have hD := hD0.self (sz := s.heap.size)
  generalize hAe : va_A [(h0, .inr (4, [.ref rd, .ref dr, .ref kp, .ref pl, .ref tx, .ref nu, .ref rf_a, .int 0, .int 0, .int (-1)]))] s.heap.size = A at hD ⊢
  have hA : ∀ q : Nat, s.heap.size ≤ q → A q := fun q h => by rw [← hAe]; exact Or.inr h
  have hS : va_S A s.heap s.heap [] := va_S.rf
  have hP : va_P D vwCl [(h0, .inr (4, [.ref rd, .ref dr, .ref kp, .ref pl, .ref tx, .ref nu, .ref rf_a, .int 0, .int 0, .int (-1)]))] s.heap := hP
  have hl := lv_entry ([.ref h0]) (n := 3) (Nat.le_of_ble_eq_true rfl)
  rw [lg_entry_eq]
  generalize (lg_sl ([.ref h0]) ++ List.replicate (3 - (lg_sl ([.ref h0])).length) Slot.unset).toArray = ls at hl ⊢
  have hl : lv_has ls 3 [(0, .ref h0)] := hl
  refine lv_bipush (v := -9) hx hb dX4_judge_0 (by decide) ?_
  refine lv_istore_n (lv' := [(1, .int (-9)), (0, .ref h0)]) hx hb dX4_judge_2 rfl hl (by decide) rfl (fun ls hl => ?_)
  refine lv_iconst (v := 0) hx hb dX4_judge_3 (by decide) ?_
  refine lv_istore_n (lv' := [(2, .int 0), (1, .int (-9)), (0, .ref h0)]) hx hb dX4_judge_4 rfl hl (by decide) rfl (fun ls hl => ?_)
  refine lv_iload_n hx hb dX4_judge_5 rfl (lv_at hl 0 rfl) ?_
  refine lv_aload_n hx hb dX4_judge_6 rfl (lv_at hl 2 rfl) ?_
  refine va_get (D := D) (ci := 4) (v := .int 0) (C := RX4) (T := TX4) (N := 10) hx hb hts hwX4 hown hK hP 0 rfl rfl 7 (by decide) (hts (.fieldLink RX4 200 "WaitOrWalkOn" "numberCount" "I") (by decide +kernel)) (fun _ h9 => h9) rfl dX4_judge_7 ?_
  refine lv_icmp_ge (tgt := 74) hx hb dX4_judge_10 (by decide) (fun c_1 => ?_) (fun c_1 => absurd c_1 (by decide +kernel))
  refine lv_aload_n hx hb dX4_judge_74 rfl (lv_at hl 2 rfl) ?_
  refine lv_iconst (v := 0) hx hb dX4_judge_75 (by decide) ?_
  refine va_put (D := D) (ci := 4) (v := .int 0) (ty := .int) (C := RX4) (T := TX4) (N := 10) hx hb hts hwX4 tyX4 tyX4_ok nmX4 hown hK hP hD hS 0 rfl rfl 7 (by decide) (hts (.fieldLink RX4 200 "WaitOrWalkOn" "numberCount" "I") (by decide +kernel)) (fun _ h9 => h9) rfl (by decide +kernel) (by decide +kernel) rfl (Nat.le_of_ble_eq_true rfl) dX4_judge_76 (fun H locs hP hD hS => ?_)
  have hP : va_P D vwCl [(h0, .inr (4, [.ref rd, .ref dr, .ref kp, .ref pl, .ref tx, .ref nu, .ref rf_a, .int 0, .int 0, .int (-1)]))] H := hP
  have hD : va_D A [(h0, .inr (4, [.ref rd, .ref dr, .ref kp, .ref pl, .ref tx, .ref nu, .ref rf_a, .int 0, .int 0, .int (-1)]))] := hD
  refine lv_iload_n hx hb dX4_judge_79 rfl (lv_at hl 1 rfl) ?_
  have hP9 := hP.sub (ws' := []) [] rfl
  have hD9 := hD.sub (ws' := []) [] (by decide) rfl
  exact W.iret (v := -9) hx hb hr (fun t ht hW => ⟨⟨_, (), rfl, rfl, by rw [ht]; exact hP9, hD9⟩, hS.F ht⟩) hS.2.2 dX4_judge_80

set_option maxHeartbeats 4000000 in
set_option maxRecDepth 100000 in
theorem c_X2_yardsFrom (l : Launch) (D : va_G) (cI cL cZ cC : ClassId) (rd : Nat) (r0 : Nat) (r1 : Nat)  : Met l yX2_yardsFrom wsX2_yardsFrom ({ frames := 0, cells := 0, slots := 0, locals := 0 } : Room) (xPc D [.ref rd, .int 0] [(rd, .inr (2, [.int 1, .int 400, .int 80, .int 2, .int 30, .int 0, .ref r0, .ref r1]))] (xTy cI cL cZ cC)) (vp_Si (fun r : Int32 => r = 400)) 0 0 (fun _ => False) := by
  refine Met.ofW (cc := cX2_yardsFrom) (maxL := 2) (ret := (some .int)) (by decide) rfl ?_
  intro p e s m args below meth c s₁ B hml hv
  obtain ⟨rfl, hP, hK⟩ := hv
  have hx := B.exec
  have hb := B.bytes
  have hr := B.returns
  have hts := atoms_spec (ws := wsX2_yardsFrom) B.pre
  have hown : s.vm.findClass RX2 = some m.cls := findClass_of_methodNamed B.named
  have hlocks := B.notSynchronized
  have hwX2 : ∀ w ∈ u_ws RX2 TX2 8, w ∈ wsX2_yardsFrom := fun _ h => List.mem_cons_of_mem _ (List.mem_append_right _ h)
  have hl := lv_entry ([.ref rd, .int 0]) (n := 2) (Nat.le_of_ble_eq_true rfl)
  rw [lg_entry_eq]
  generalize (lg_sl ([.ref rd, .int 0]) ++ List.replicate (2 - (lg_sl ([.ref rd, .int 0])).length) Slot.unset).toArray = ls at hl ⊢
  have hl : lv_has ls 2 [(0, .ref rd), (1, .int 0)] := hl
  refine lv_iload_n hx hb dX2_yardsFrom_0 rfl (lv_at hl 1 rfl) ?_
  refine lv_if_lt (tgt := 25) hx hb dX2_yardsFrom_1 (by decide) (fun c_1 => absurd c_1 (by decide +kernel)) (fun c_1 => ?_)
  refine lv_iload_n hx hb dX2_yardsFrom_4 rfl (lv_at hl 1 rfl) ?_
  refine lv_aload_n hx hb dX2_yardsFrom_5 rfl (lv_at hl 0 rfl) ?_
  refine va_get (D := D) (ci := 2) (v := .int 1) (C := RX2) (T := TX2) (N := 8) hx hb hts hwX2 hown hK hP 0 rfl rfl 0 (by decide) (hts (.fieldLink RX2 9 "WaitOrWalkOn$Road" "stops" "I") (by decide +kernel)) (fun _ h9 => h9) rfl dX2_yardsFrom_6 ?_
  refine lv_iconst (v := 1) hx hb dX2_yardsFrom_9 (by decide) ?_
  refine lv_isub hx hb dX2_yardsFrom_10 ?_
  refine xv_int (y := 0) (by decide +kernel) ?_
  refine lv_icmp_ge (tgt := 25) hx hb dX2_yardsFrom_11 (by decide) (fun c_2 => ?_) (fun c_2 => absurd c_2 (by decide +kernel))
  refine lv_aload_n hx hb dX2_yardsFrom_25 rfl (lv_at hl 0 rfl) ?_
  refine va_get (D := D) (ci := 2) (v := .int 400) (C := RX2) (T := TX2) (N := 8) hx hb hts hwX2 hown hK hP 0 rfl rfl 1 (by decide) (hts (.fieldLink RX2 15 "WaitOrWalkOn$Road" "home" "I") (by decide +kernel)) (fun _ h9 => h9) rfl dX2_yardsFrom_26 ?_
  exact W.iret (v := 400) hx hb hr (fun t ht hW => ⟨_, rfl, rfl, ht⟩) (fun _ h => absurd h List.not_mem_nil) dX2_yardsFrom_29

set_option maxHeartbeats 4000000 in
set_option maxRecDepth 100000 in
theorem c_X2_wayFrom (l : Launch) (D : va_G) (cI cL cZ cC : ClassId) (rd : Nat) (r0 : Nat) (r1 : Nat)  : Met l yX2_wayFrom wsX2_wayFrom ({ frames := 1, cells := 0, slots := 0, locals := 21 } : Room) (xPc D [.ref rd, .int 0, .int 80] [(rd, .inr (2, [.int 1, .int 400, .int 80, .int 2, .int 30, .int 0, .ref r0, .ref r1]))] (xTy cI cL cZ cC)) (vp_Si (fun r : Int32 => r = 5)) 0 0 (fun _ => False) := by
  refine Met.ofW (cc := cX2_wayFrom) (maxL := 3) (ret := (some .int)) (by decide) rfl ?_
  intro p e s m args below meth c s₁ B hml hv
  obtain ⟨rfl, hP, hK⟩ := hv
  have hx := B.exec
  have hb := B.bytes
  have hr := B.returns
  have hts := atoms_spec (ws := wsX2_wayFrom) B.pre
  have hown : s.vm.findClass RX2 = some m.cls := findClass_of_methodNamed B.named
  have hlocks := B.notSynchronized
  have hl := lv_entry ([.ref rd, .int 0, .int 80]) (n := 3) (Nat.le_of_ble_eq_true rfl)
  rw [lg_entry_eq]
  generalize (lg_sl ([.ref rd, .int 0, .int 80]) ++ List.replicate (3 - (lg_sl ([.ref rd, .int 0, .int 80])).length) Slot.unset).toArray = ls at hl ⊢
  have hl : lv_has ls 3 [(0, .ref rd), (1, .int 0), (2, .int 80)] := hl
  refine lv_iload_n hx hb dX2_wayFrom_0 rfl (lv_at hl 2 rfl) ?_
  refine lv_iconst (v := 1) hx hb dX2_wayFrom_1 (by decide) ?_
  refine lv_icmp_ge (tgt := 9) hx hb dX2_wayFrom_2 (by decide) (fun c_1 => ?_) (fun c_1 => absurd c_1 (by decide +kernel))
  refine lv_aload_n hx hb dX2_wayFrom_9 rfl (lv_at hl 0 rfl) ?_
  refine lv_iload_n hx hb dX2_wayFrom_10 rfl (lv_at hl 1 rfl) ?_
  have hPc := hP.sub (ws' := [(rd, .inr (2, [.int 1, .int 400, .int 80, .int 2, .int 30, .int 0, .ref r0, .ref r1]))]) [0] rfl
  refine vp_callSi (va_Run.run (va_runV (As := [.int 0]) (rest := []) ⟨hx, hb, hml, hown, hts⟩ (c_X2_yardsFrom l D cI cL cZ cC rd r0 r1 ) (cwV 1 hts gX2_wayFrom_X2_yardsFrom rfl rfl rfl (by decide +kernel) ⟨Nat.le_of_ble_eq_true rfl, Nat.le_of_ble_eq_true rfl⟩) ⟨xPc_bl, va_recv hK hPc (ci := 2) (q0 := 0) rfl rfl, xPc_use hPc hK⟩ rfl rfl hl.1 rfl (lv_room (Nat.le_of_ble_eq_true rfl)) dX2_wayFrom_11 ⟨Nat.le_of_ble_eq_true rfl, Nat.le_of_ble_eq_true rfl⟩)) (fun r_2 er_2 => ?_)
  obtain rfl : (400 : Int32) = r_2 := Eq.symm er_2
  refine lv_iload_n hx hb dX2_wayFrom_14 rfl (lv_at hl 2 rfl) ?_
  refine lv_iadd hx hb dX2_wayFrom_15 ?_
  refine xv_int (y := 480) (by decide +kernel) ?_
  refine lv_iconst (v := 1) hx hb dX2_wayFrom_16 (by decide) ?_
  refine lv_isub hx hb dX2_wayFrom_17 ?_
  refine xv_int (y := 479) (by decide +kernel) ?_
  refine lv_iload_n hx hb dX2_wayFrom_18 rfl (lv_at hl 2 rfl) ?_
  refine lv_idiv hx hb dX2_wayFrom_19 ((by decide)) ?_
  refine xv_int (y := 5) (by decide +kernel) ?_
  exact W.iret (v := 5) hx hb hr (fun t ht hW => ⟨_, rfl, rfl, ht⟩) (fun _ h => absurd h List.not_mem_nil) dX2_wayFrom_20

set_option maxHeartbeats 4000000 in
set_option maxRecDepth 100000 in
theorem c_X2_walkHome (l : Launch) (D : va_G) (cI cL cZ cC : ClassId) (rd : Nat) (r0 : Nat) (r1 : Nat)  : Met l yX2_walkHome wsX2_walkHome ({ frames := 2, cells := 0, slots := 0, locals := 43 } : Room) (xPc D [.ref rd, .int 0] [(rd, .inr (2, [.int 1, .int 400, .int 80, .int 2, .int 30, .int 0, .ref r0, .ref r1]))] (xTy cI cL cZ cC)) (vp_Si (fun r : Int32 => r = 5)) 0 0 (fun _ => False) := by
  refine Met.ofW (cc := cX2_walkHome) (maxL := 4) (ret := (some .int)) (by decide) rfl ?_
  intro p e s m args below meth c s₁ B hml hv
  obtain ⟨rfl, hP, hK⟩ := hv
  have hx := B.exec
  have hb := B.bytes
  have hr := B.returns
  have hts := atoms_spec (ws := wsX2_walkHome) B.pre
  have hown : s.vm.findClass RX2 = some m.cls := findClass_of_methodNamed B.named
  have hlocks := B.notSynchronized
  have hwX2 : ∀ w ∈ u_ws RX2 TX2 8, w ∈ wsX2_walkHome := fun _ h => List.mem_cons_of_mem _ (List.mem_append_right _ h)
  have hl := lv_entry ([.ref rd, .int 0]) (n := 4) (Nat.le_of_ble_eq_true rfl)
  rw [lg_entry_eq]
  generalize (lg_sl ([.ref rd, .int 0]) ++ List.replicate (4 - (lg_sl ([.ref rd, .int 0])).length) Slot.unset).toArray = ls at hl ⊢
  have hl : lv_has ls 4 [(0, .ref rd), (1, .int 0)] := hl
  refine lv_iconst (v := 0) hx hb dX2_walkHome_0 (by decide) ?_
  refine lv_istore_n (lv' := [(2, .int 0), (0, .ref rd), (1, .int 0)]) hx hb dX2_walkHome_1 rfl hl (by decide) rfl (fun ls hl => ?_)
  refine lv_iload_n hx hb dX2_walkHome_2 rfl (lv_at hl 2 rfl) ?_
  refine lv_istore_n (lv' := [(3, .int 0), (2, .int 0), (0, .ref rd), (1, .int 0)]) hx hb dX2_walkHome_3 rfl hl (by decide) rfl (fun ls hl => ?_)
  refine lv_iload_n hx hb dX2_walkHome_4 rfl (lv_at hl 0 rfl) ?_
  refine lv_aload_n hx hb dX2_walkHome_5 rfl (lv_at hl 2 rfl) ?_
  refine va_get (D := D) (ci := 2) (v := .int 1) (C := RX2) (T := TX2) (N := 8) hx hb hts hwX2 hown hK hP 0 rfl rfl 0 (by decide) (hts (.fieldLink RX2 9 "WaitOrWalkOn$Road" "stops" "I") (by decide +kernel)) (fun _ h9 => h9) rfl dX2_walkHome_6 ?_
  refine lv_icmp_ge (tgt := 30) hx hb dX2_walkHome_9 (by decide) (fun c_1 => absurd c_1 (by decide +kernel)) (fun c_1 => ?_)
  refine lv_iload_n hx hb dX2_walkHome_12 rfl (lv_at hl 1 rfl) ?_
  refine lv_aload_n hx hb dX2_walkHome_13 rfl (lv_at hl 2 rfl) ?_
  refine lv_iload_n hx hb dX2_walkHome_14 rfl (lv_at hl 0 rfl) ?_
  refine lv_aload_n hx hb dX2_walkHome_15 rfl (lv_at hl 2 rfl) ?_
  refine va_get (D := D) (ci := 2) (v := .int 80) (C := RX2) (T := TX2) (N := 8) hx hb hts hwX2 hown hK hP 0 rfl rfl 2 (by decide) (hts (.fieldLink RX2 18 "WaitOrWalkOn$Road" "pace" "I") (by decide +kernel)) (fun _ h9 => h9) rfl dX2_walkHome_16 ?_
  have hPc := hP.sub (ws' := [(rd, .inr (2, [.int 1, .int 400, .int 80, .int 2, .int 30, .int 0, .ref r0, .ref r1]))]) [0] rfl
  refine vp_callSi (va_Run.run (va_runV (As := [.int 0, .int 80]) (rest := [.int 0]) ⟨hx, hb, hml, hown, hts⟩ (c_X2_wayFrom l D cI cL cZ cC rd r0 r1 ) (cwV 2 hts gX2_walkHome_X2_wayFrom rfl rfl rfl (by decide +kernel) ⟨Nat.le_of_ble_eq_true rfl, Nat.le_of_ble_eq_true rfl⟩) ⟨xPc_bl, va_recv hK hPc (ci := 2) (q0 := 0) rfl rfl, xPc_use hPc hK⟩ rfl rfl hl.1 rfl (lv_room (Nat.le_of_ble_eq_true rfl)) dX2_walkHome_19 ⟨Nat.le_of_ble_eq_true rfl, Nat.le_of_ble_eq_true rfl⟩)) (fun r_2 er_2 => ?_)
  obtain rfl : (5 : Int32) = r_2 := Eq.symm er_2
  refine lv_iadd hx hb dX2_walkHome_22 ?_
  refine xv_int (y := 5) (by decide +kernel) ?_
  refine lv_istore_n (lv' := [(2, .int 5), (3, .int 0), (0, .ref rd), (1, .int 0)]) hx hb dX2_walkHome_23 rfl hl (by decide) rfl (fun ls hl => ?_)
  refine lv_iinc (v := 1) (lv' := [(3, .int 1), (2, .int 5), (0, .ref rd), (1, .int 0)]) hx hb dX2_walkHome_24 hl (k := 1) rfl (by decide +kernel) (by decide) rfl (fun ls hl => ?_)
  refine lv_goto (tgt := 4) hx hb dX2_walkHome_27 (by decide) ?_
  refine lv_iload_n hx hb dX2_walkHome_4 rfl (lv_at hl 0 rfl) ?_
  refine lv_aload_n hx hb dX2_walkHome_5 rfl (lv_at hl 2 rfl) ?_
  refine va_get (D := D) (ci := 2) (v := .int 1) (C := RX2) (T := TX2) (N := 8) hx hb hts hwX2 hown hK hP 0 rfl rfl 0 (by decide) (hts (.fieldLink RX2 9 "WaitOrWalkOn$Road" "stops" "I") (by decide +kernel)) (fun _ h9 => h9) rfl dX2_walkHome_6 ?_
  refine lv_icmp_ge (tgt := 30) hx hb dX2_walkHome_9 (by decide) (fun c_3 => ?_) (fun c_3 => absurd c_3 (by decide +kernel))
  refine lv_iload_n hx hb dX2_walkHome_30 rfl (lv_at hl 1 rfl) ?_
  exact W.iret (v := 5) hx hb hr (fun t ht hW => ⟨_, rfl, rfl, ht⟩) (fun _ h => absurd h List.not_mem_nil) dX2_walkHome_31

set_option maxHeartbeats 4000000 in
set_option maxRecDepth 100000 in
theorem p1_X4_walked (l : Launch) (D : va_G) (cI cL cZ cC : ClassId) (h0 : Nat) (rd : Nat) (dr : Nat) (kp : Nat) (pl : Nat) (tx : Nat) (nu : Nat) (rf_a : Nat) (r0 : Nat) (r1 : Nat)  : Met l yX4_walked wsX4_walked ({ frames := 3, cells := 0, slots := 0, locals := 66 } : Room) (xPc D [.ref h0] [(h0, .inr (4, [.ref rd, .ref dr, .ref kp, .ref pl, .ref tx, .ref nu, .ref rf_a, .int 0, .int 0, .int (-1)])), (rd, .inr (2, [.int 1, .int 400, .int 80, .int 2, .int 30, .int 0, .ref r0, .ref r1]))] (xTy cI cL cZ cC)) (vp_Si (fun r : Int32 => r = 5)) 0 0 (fun _ => False) := by
  refine Met.ofW (cc := cX4_walked) (maxL := 1) (ret := (some .int)) (by decide) rfl ?_
  intro p e s m args below meth c s₁ B hml hv
  obtain ⟨rfl, hP, hK⟩ := hv
  have hx := B.exec
  have hb := B.bytes
  have hr := B.returns
  have hts := atoms_spec (ws := wsX4_walked) B.pre
  have hown : s.vm.findClass RX4 = some m.cls := findClass_of_methodNamed B.named
  have hlocks := B.notSynchronized
  have hwX4 : ∀ w ∈ u_ws RX4 TX4 10, w ∈ wsX4_walked := fun _ h => List.mem_cons_of_mem _ (List.mem_append_left _ (List.mem_append_right _ h))
  have hl := lv_entry ([.ref h0]) (n := 1) (Nat.le_of_ble_eq_true rfl)
  rw [lg_entry_eq]
  generalize (lg_sl ([.ref h0]) ++ List.replicate (1 - (lg_sl ([.ref h0])).length) Slot.unset).toArray = ls at hl ⊢
  have hl : lv_has ls 1 [(0, .ref h0)] := hl
  refine lv_aload_n hx hb dX4_walked_0 rfl (lv_at hl 0 rfl) ?_
  refine va_get (D := D) (ci := 4) (v := .ref rd) (C := RX4) (T := TX4) (N := 10) hx hb hts hwX4 hown hK hP 0 rfl rfl 0 (by decide) (hts (.fieldLink RX4 10 "WaitOrWalkOn" "road" "LWaitOrWalkOn$Road;") (by decide +kernel)) (fun _ h9 => h9) rfl dX4_walked_1 ?_
  refine lv_iconst (v := 0) hx hb dX4_walked_4 (by decide) ?_
  have hPc := hP.sub (ws' := [(rd, .inr (2, [.int 1, .int 400, .int 80, .int 2, .int 30, .int 0, .ref r0, .ref r1]))]) [1] rfl
  refine vp_callSi (va_Run.run (va_runV (As := [.int 0]) (rest := []) ⟨hx, hb, hml, hown, hts⟩ (c_X2_walkHome l D cI cL cZ cC rd r0 r1 ) (cwV 1 hts gX4_walked_X2_walkHome rfl rfl rfl (by decide +kernel) ⟨Nat.le_of_ble_eq_true rfl, Nat.le_of_ble_eq_true rfl⟩) ⟨xPc_bl, va_recv hK hPc (ci := 2) (q0 := 0) rfl rfl, xPc_use hPc hK⟩ rfl rfl hl.1 rfl (lv_room (Nat.le_of_ble_eq_true rfl)) dX4_walked_5 ⟨Nat.le_of_ble_eq_true rfl, Nat.le_of_ble_eq_true rfl⟩)) (fun r_1 er_1 => ?_)
  obtain rfl : (5 : Int32) = r_1 := Eq.symm er_1
  exact W.iret (v := 5) hx hb hr (fun t ht hW => ⟨_, rfl, rfl, ht⟩) (fun _ h => absurd h List.not_mem_nil) dX4_walked_8
