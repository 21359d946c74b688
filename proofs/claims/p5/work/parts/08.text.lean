set_option maxHeartbeats 4000000 in
set_option maxRecDepth 100000 in
theorem g_X3_at (l : Launch) (D : va_G) (cI cL cZ cC : ClassId) (tx : Nat) (t0 : Nat) (len : Nat) (lt : Nat → Int32) (p0 : Nat) (hl96 : len ≤ 96) (hp : p0 ≤ 500) : Met l yX3_at wsX3_at ({ frames := 0, cells := 0, slots := 0, locals := 0 } : Room) (xPc D [.ref tx, .int (nI p0)] [(tx, .inr (3, [.ref t0, .int (nI len)])), (t0, .inl (cI, 96, .inl lt))] (xTy cI cL cZ cC)) (vp_Si (fun r : Int32 => r = xAt lt len p0)) 0 0 (fun _ => False) := by
  refine Met.ofW (cc := cX3_at) (maxL := 2) (ret := (some .int)) (by decide) rfl ?_
  intro p e s m args below meth c s₁ B hml hv
  obtain ⟨rfl, hP, hK⟩ := hv
  have hx := B.exec
  have hb := B.bytes
  have hr := B.returns
  have hts := atoms_spec (ws := wsX3_at) B.pre
  have hown : s.vm.findClass RX3 = some m.cls := findClass_of_methodNamed B.named
  have hlocks := B.notSynchronized
  have hwX3 : ∀ w ∈ u_ws RX3 TX3 2, w ∈ wsX3_at := fun _ h => List.mem_cons_of_mem _ (List.mem_append_right _ h)
  have hl := lv_entry ([.ref tx, .int (nI p0)]) (n := 2) (Nat.le_of_ble_eq_true rfl)
  rw [lg_entry_eq]
  generalize (lg_sl ([.ref tx, .int (nI p0)]) ++ List.replicate (2 - (lg_sl ([.ref tx, .int (nI p0)])).length) Slot.unset).toArray = ls at hl ⊢
  have hl : lv_has ls 2 [(0, .ref tx), (1, .int (nI p0))] := hl
  refine lv_iload_n hx hb dX3_at_0 rfl (lv_at hl 1 rfl) ?_
  refine lv_if_lt (tgt := 21) hx hb dX3_at_1 (by decide) (fun c_1 => absurd c_1 (nI_pos (by omega))) (fun c_1 => ?_)
  refine lv_iload_n hx hb dX3_at_4 rfl (lv_at hl 1 rfl) ?_
  refine lv_aload_n hx hb dX3_at_5 rfl (lv_at hl 0 rfl) ?_
  refine va_get (D := D) (ci := 3) (v := .int (nI len)) (C := RX3) (T := TX3) (N := 2) hx hb hts hwX3 hown hK hP 0 rfl rfl 1 (by decide) (hts (.fieldLink RX3 15 "WaitOrWalkOn$Text" "length" "I") (by decide +kernel)) (fun _ h9 => h9) rfl dX3_at_6 ?_
  refine lv_icmp_ge (tgt := 21) hx hb dX3_at_9 (by decide) (fun c_2 => ?_) (fun c_2 => ?_)
  · refine lv_iconst (v := -1) hx hb dX3_at_21 (by decide) ?_
    exact W.iret (v := -1) hx hb hr (fun t ht hW => ⟨_, rfl, (by have w := mt (nI_ltI (a := p0) (b := len) (by omega) (by omega)).mpr (Int32.not_lt.mpr c_2); exact (if_neg w).symm), ht⟩) (fun _ h => absurd h List.not_mem_nil) dX3_at_22
  · refine lv_aload_n hx hb dX3_at_12 rfl (lv_at hl 0 rfl) ?_
    refine va_get (D := D) (ci := 3) (v := .ref t0) (C := RX3) (T := TX3) (N := 2) hx hb hts hwX3 hown hK hP 0 rfl rfl 0 (by decide) (hts (.fieldLink RX3 9 "WaitOrWalkOn$Text" "letters" "[I") (by decide +kernel)) (fun _ h9 => h9) rfl dX3_at_13 ?_
    refine lv_iload_n hx hb dX3_at_16 rfl (lv_at hl 1 rfl) ?_
    refine va_iald (D := D) hx hb hK hP 1 0 rfl rfl (vp_in_nI (by have w := (nI_ltI (a := p0) (b := len) (by omega) (by omega)).mp (Int32.not_le.mp c_2); omega) (by decide)) dX3_at_17 ?_
    refine xv_int (y := lt p0) (by rw [nI_clamp (by omega)]) ?_
    refine lv_goto (tgt := 22) hx hb dX3_at_18 (by decide) ?_
    exact W.iret (v := lt p0) hx hb hr (fun t ht hW => ⟨_, rfl, (by have w := (nI_ltI (a := p0) (b := len) (by omega) (by omega)).mp (Int32.not_le.mp c_2); exact (if_pos w).symm), ht⟩) (fun _ h => absurd h List.not_mem_nil) dX3_at_22

set_option maxHeartbeats 4000000 in
set_option maxRecDepth 100000 in
theorem g_X3_isDigit (l : Launch) (D : va_G) (cI cL cZ cC : ClassId) (tx : Nat) (t0 : Nat) (len : Nat) (lt : Nat → Int32) (p0 : Nat) (hl96 : len ≤ 96) (hp : p0 ≤ 500) : Met l yX3_isDigit wsX3_isDigit ({ frames := 1, cells := 0, slots := 0, locals := 21 } : Room) (xPc D [.ref tx, .int (nI p0)] [(tx, .inr (3, [.ref t0, .int (nI len)])), (t0, .inl (cI, 96, .inl lt))] (xTy cI cL cZ cC)) (vp_Si (fun r : Int32 => r = xIsD lt len p0)) 0 0 (fun _ => False) := by
  refine Met.ofW (cc := cX3_isDigit) (maxL := 2) (ret := (some .boolean)) (by decide) rfl ?_
  intro p e s m args below meth c s₁ B hml hv
  obtain ⟨rfl, hP, hK⟩ := hv
  have hx := B.exec
  have hb := B.bytes
  have hr := B.returns
  have hts := atoms_spec (ws := wsX3_isDigit) B.pre
  have hown : s.vm.findClass RX3 = some m.cls := findClass_of_methodNamed B.named
  have hlocks := B.notSynchronized
  have hl := lv_entry ([.ref tx, .int (nI p0)]) (n := 2) (Nat.le_of_ble_eq_true rfl)
  rw [lg_entry_eq]
  generalize (lg_sl ([.ref tx, .int (nI p0)]) ++ List.replicate (2 - (lg_sl ([.ref tx, .int (nI p0)])).length) Slot.unset).toArray = ls at hl ⊢
  have hl : lv_has ls 2 [(0, .ref tx), (1, .int (nI p0))] := hl
  refine lv_aload_n hx hb dX3_isDigit_0 rfl (lv_at hl 0 rfl) ?_
  refine lv_iload_n hx hb dX3_isDigit_1 rfl (lv_at hl 1 rfl) ?_
  have hPc := hP.sub (ws' := [(tx, .inr (3, [.ref t0, .int (nI len)])), (t0, .inl (cI, 96, .inl lt))]) [0, 1] rfl
  refine vp_callSi (va_Run.run (va_runV (As := [.int (nI p0)]) (rest := []) ⟨hx, hb, hml, hown, hts⟩ (g_X3_at l D cI cL cZ cC tx t0 len lt p0 (by first | assumption | decide +kernel) (by first | assumption | decide +kernel)) (cwV 1 hts gX3_isDigit_X3_at rfl rfl rfl (by decide +kernel) ⟨Nat.le_of_ble_eq_true rfl, Nat.le_of_ble_eq_true rfl⟩) ⟨xPc_bl, va_recv hK hPc (ci := 3) (q0 := 0) rfl rfl, xPc_use hPc hK⟩ rfl rfl hl.1 rfl (lv_room (Nat.le_of_ble_eq_true rfl)) dX3_isDigit_2 ⟨Nat.le_of_ble_eq_true rfl, Nat.le_of_ble_eq_true rfl⟩)) (fun r_1 er_1 => ?_)
  obtain rfl : (xAt lt len p0 : Int32) = r_1 := Eq.symm er_1
  refine lv_bipush (v := 48) hx hb dX3_isDigit_5 (by decide) ?_
  refine lv_icmp_lt (tgt := 24) hx hb dX3_isDigit_7 (by decide) (fun c_2 => ?_) (fun c_2 => ?_)
  · refine lv_iconst (v := 0) hx hb dX3_isDigit_24 (by decide) ?_
    exact W.zret (v := 0) (ty := .boolean) hx hb hr (by decide +kernel) (fun t ht hW => ⟨_, rfl, by simp [xIsD, c_2], ht⟩) (fun _ h => absurd h List.not_mem_nil) dX3_isDigit_25
  · refine lv_aload_n hx hb dX3_isDigit_10 rfl (lv_at hl 0 rfl) ?_
    refine lv_iload_n hx hb dX3_isDigit_11 rfl (lv_at hl 1 rfl) ?_
    have hPc := hP.sub (ws' := [(tx, .inr (3, [.ref t0, .int (nI len)])), (t0, .inl (cI, 96, .inl lt))]) [0, 1] rfl
    refine vp_callSi (va_Run.run (va_runV (As := [.int (nI p0)]) (rest := []) ⟨hx, hb, hml, hown, hts⟩ (g_X3_at l D cI cL cZ cC tx t0 len lt p0 (by first | assumption | decide +kernel) (by first | assumption | decide +kernel)) (cwV 1 hts gX3_isDigit_X3_at rfl rfl rfl (by decide +kernel) ⟨Nat.le_of_ble_eq_true rfl, Nat.le_of_ble_eq_true rfl⟩) ⟨xPc_bl, va_recv hK hPc (ci := 3) (q0 := 0) rfl rfl, xPc_use hPc hK⟩ rfl rfl hl.1 rfl (lv_room (Nat.le_of_ble_eq_true rfl)) dX3_isDigit_12 ⟨Nat.le_of_ble_eq_true rfl, Nat.le_of_ble_eq_true rfl⟩)) (fun r_3 er_3 => ?_)
    obtain rfl : (xAt lt len p0 : Int32) = r_3 := Eq.symm er_3
    refine lv_bipush (v := 57) hx hb dX3_isDigit_15 (by decide) ?_
    refine lv_icmp_gt (tgt := 24) hx hb dX3_isDigit_17 (by decide) (fun c_4 => ?_) (fun c_4 => ?_)
    · refine lv_iconst (v := 0) hx hb dX3_isDigit_24 (by decide) ?_
      exact W.zret (v := 0) (ty := .boolean) hx hb hr (by decide +kernel) (fun t ht hW => ⟨_, rfl, by simp [xIsD, c_2, c_4], ht⟩) (fun _ h => absurd h List.not_mem_nil) dX3_isDigit_25
    · refine lv_iconst (v := 1) hx hb dX3_isDigit_20 (by decide) ?_
      refine lv_goto (tgt := 25) hx hb dX3_isDigit_21 (by decide) ?_
      exact W.zret (v := 1) (ty := .boolean) hx hb hr (by decide +kernel) (fun t ht hW => ⟨_, rfl, by simp [xIsD, c_2, c_4], ht⟩) (fun _ h => absurd h List.not_mem_nil) dX3_isDigit_25

set_option maxHeartbeats 4000000 in
set_option maxRecDepth 100000 in
theorem g_X3_digitsPlace (l : Launch) (D : va_G) (cI cL cZ cC : ClassId) (tx : Nat) (t0 : Nat) (len : Nat) (lt : Nat → Int32) (p0 : Nat) (hl96 : len ≤ 96) (hp : p0 ≤ 500) : Met l yX3_digitsPlace wsX3_digitsPlace ({ frames := 1, cells := 0, slots := 0, locals := 21 } : Room) (xPc D [.ref tx, .int (nI p0)] [(tx, .inr (3, [.ref t0, .int (nI len)])), (t0, .inl (cI, 96, .inl lt))] (xTy cI cL cZ cC)) (vp_Si (fun r : Int32 => r = nI (xDp lt len p0))) 0 0 (fun _ => False) := by
  refine Met.ofW (cc := cX3_digitsPlace) (maxL := 2) (ret := (some .int)) (by decide) rfl ?_
  intro p e s m args below meth c s₁ B hml hv
  obtain ⟨rfl, hP, hK⟩ := hv
  have hx := B.exec
  have hb := B.bytes
  have hr := B.returns
  have hts := atoms_spec (ws := wsX3_digitsPlace) B.pre
  have hown : s.vm.findClass RX3 = some m.cls := findClass_of_methodNamed B.named
  have hlocks := B.notSynchronized
  have hl := lv_entry ([.ref tx, .int (nI p0)]) (n := 2) (Nat.le_of_ble_eq_true rfl)
  rw [lg_entry_eq]
  generalize (lg_sl ([.ref tx, .int (nI p0)]) ++ List.replicate (2 - (lg_sl ([.ref tx, .int (nI p0)])).length) Slot.unset).toArray = ls at hl ⊢
  have hl : lv_has ls 2 [(0, .ref tx), (1, .int (nI p0))] := hl
  refine lv_aload_n hx hb dX3_digitsPlace_0 rfl (lv_at hl 0 rfl) ?_
  refine lv_iload_n hx hb dX3_digitsPlace_1 rfl (lv_at hl 1 rfl) ?_
  have hPc := hP.sub (ws' := [(tx, .inr (3, [.ref t0, .int (nI len)])), (t0, .inl (cI, 96, .inl lt))]) [0, 1] rfl
  refine vp_callSi (va_Run.run (va_runV (As := [.int (nI p0)]) (rest := []) ⟨hx, hb, hml, hown, hts⟩ (g_X3_at l D cI cL cZ cC tx t0 len lt p0 (by first | assumption | decide +kernel) (by first | assumption | decide +kernel)) (cwV 1 hts gX3_digitsPlace_X3_at rfl rfl rfl (by decide +kernel) ⟨Nat.le_of_ble_eq_true rfl, Nat.le_of_ble_eq_true rfl⟩) ⟨xPc_bl, va_recv hK hPc (ci := 3) (q0 := 0) rfl rfl, xPc_use hPc hK⟩ rfl rfl hl.1 rfl (lv_room (Nat.le_of_ble_eq_true rfl)) dX3_digitsPlace_2 ⟨Nat.le_of_ble_eq_true rfl, Nat.le_of_ble_eq_true rfl⟩)) (fun r_1 er_1 => ?_)
  obtain rfl : (xAt lt len p0 : Int32) = r_1 := Eq.symm er_1
  refine lv_bipush (v := 108) hx hb dX3_digitsPlace_5 (by decide) ?_
  refine lv_icmp_ne (tgt := 16) hx hb dX3_digitsPlace_7 (by decide) (fun c_2 => ?_) (fun c_2 => ?_)
  · refine lv_iload_n hx hb dX3_digitsPlace_16 rfl (lv_at hl 1 rfl) ?_
    refine lv_iconst (v := 1) hx hb dX3_digitsPlace_17 (by decide) ?_
    refine lv_iadd hx hb dX3_digitsPlace_18 ?_
    refine xv_int (y := nI (p0 + 1)) (nI_1 p0) ?_
    exact W.iret (v := nI (p0 + 1)) hx hb hr (fun t ht hW => ⟨_, rfl, (congrArg nI (if_neg c_2).symm), ht⟩) (fun _ h => absurd h List.not_mem_nil) dX3_digitsPlace_19
  · refine lv_iload_n hx hb dX3_digitsPlace_10 rfl (lv_at hl 1 rfl) ?_
    refine lv_iconst (v := 2) hx hb dX3_digitsPlace_11 (by decide) ?_
    refine lv_iadd hx hb dX3_digitsPlace_12 ?_
    refine xv_int (y := nI (p0 + 2)) (nI_add p0 2) ?_
    refine lv_goto (tgt := 19) hx hb dX3_digitsPlace_13 (by decide) ?_
    exact W.iret (v := nI (p0 + 2)) hx hb hr (fun t ht hW => ⟨_, rfl, (congrArg nI (if_pos c_2).symm), ht⟩) (fun _ h => absurd h List.not_mem_nil) dX3_digitsPlace_19

set_option maxHeartbeats 4000000 in
set_option maxRecDepth 100000 in
theorem g_X3_digitsEnd (l : Launch) (D : va_G) (cI cL cZ cC : ClassId) (tx : Nat) (t0 : Nat) (len : Nat) (lt : Nat → Int32) (p0 : Nat) (hl96 : len ≤ 96) (hp : p0 ≤ 500) : Met l yX3_digitsEnd wsX3_digitsEnd ({ frames := 2, cells := 0, slots := 0, locals := 42 } : Room) (xPc D [.ref tx, .int (nI p0)] [(tx, .inr (3, [.ref t0, .int (nI len)])), (t0, .inl (cI, 96, .inl lt))] (xTy cI cL cZ cC)) (vp_Si (fun r : Int32 => r = nI (xDe lt len p0))) 0 0 (fun _ => False) := by
  refine Met.ofW (cc := cX3_digitsEnd) (maxL := 3) (ret := (some .int)) (by decide) rfl ?_
  intro p e s m args below meth c s₁ B hml hv
  obtain ⟨rfl, hP, hK⟩ := hv
  have hx := B.exec
  have hb := B.bytes
  have hr := B.returns
  have hts := atoms_spec (ws := wsX3_digitsEnd) B.pre
  have hown : s.vm.findClass RX3 = some m.cls := findClass_of_methodNamed B.named
  have hlocks := B.notSynchronized
  have hwX3 : ∀ w ∈ u_ws RX3 TX3 2, w ∈ wsX3_digitsEnd := fun _ h => List.mem_cons_of_mem _ (List.mem_append_right _ h)
  have hl := lv_entry ([.ref tx, .int (nI p0)]) (n := 3) (Nat.le_of_ble_eq_true rfl)
  rw [lg_entry_eq]
  generalize (lg_sl ([.ref tx, .int (nI p0)]) ++ List.replicate (3 - (lg_sl ([.ref tx, .int (nI p0)])).length) Slot.unset).toArray = ls at hl ⊢
  have hl : lv_has ls 3 [(0, .ref tx), (1, .int (nI p0))] := hl
  have hdp := xDp_le lt len p0
  refine lv_aload_n hx hb dX3_digitsEnd_0 rfl (lv_at hl 0 rfl) ?_
  refine lv_iload_n hx hb dX3_digitsEnd_1 rfl (lv_at hl 1 rfl) ?_
  have hPc := hP.sub (ws' := [(tx, .inr (3, [.ref t0, .int (nI len)])), (t0, .inl (cI, 96, .inl lt))]) [0, 1] rfl
  refine vp_callSi (va_Run.run (va_runV (As := [.int (nI p0)]) (rest := []) ⟨hx, hb, hml, hown, hts⟩ (g_X3_digitsPlace l D cI cL cZ cC tx t0 len lt p0 (by first | assumption | decide +kernel) (by first | assumption | decide +kernel)) (cwV 1 hts gX3_digitsEnd_X3_digitsPlace rfl rfl rfl (by decide +kernel) ⟨Nat.le_of_ble_eq_true rfl, Nat.le_of_ble_eq_true rfl⟩) ⟨xPc_bl, va_recv hK hPc (ci := 3) (q0 := 0) rfl rfl, xPc_use hPc hK⟩ rfl rfl hl.1 rfl (lv_room (Nat.le_of_ble_eq_true rfl)) dX3_digitsEnd_2 ⟨Nat.le_of_ble_eq_true rfl, Nat.le_of_ble_eq_true rfl⟩)) (fun r_1 er_1 => ?_)
  obtain rfl : (nI (xDp lt len p0) : Int32) = r_1 := Eq.symm er_1
  refine lv_istore_n (lv' := [(2, .int (nI (xDp lt len p0))), (0, .ref tx), (1, .int (nI p0))]) hx hb dX3_digitsEnd_5 rfl hl (by decide) rfl (fun ls hl => ?_)
  refine xl_loop (σ := Nat) (fun n q ls => lv_has ls 3 [(2, .int (nI q)), (0, .ref tx), (1, .int (nI p0))] ∧ (len - q < n) ∧ (q ≤ 600) ∧ (xSc lt len (len - q) q = xSc lt len (len - xDp lt len p0) (xDp lt len p0))) (len + 1) (xDp lt len p0) ⟨lv_sub hl [0, 1, 2] rfl, by (try dsimp only); exact ⟨by omega, by omega, rfl⟩⟩ (fun q ls h => absurd h.2.1 (Nat.not_lt_zero _)) ?_
  intro n_6 q_6 ls ih_6 hI_6
  obtain ⟨hl, hI_6⟩ := hI_6
  obtain ⟨k, e_6⟩ : ∃ z, z = q_6 := ⟨_, rfl⟩
  subst e_6
  obtain ⟨h1, h2, h3⟩ := hI_6
  try dsimp only at hl h1 h2 h3
  refine lv_iload_n hx hb dX3_digitsEnd_6 rfl (lv_at hl 0 rfl) ?_
  refine lv_aload_n hx hb dX3_digitsEnd_7 rfl (lv_at hl 1 rfl) ?_
  refine va_get (D := D) (ci := 3) (v := .int (nI len)) (C := RX3) (T := TX3) (N := 2) hx hb hts hwX3 hown hK hP 0 rfl rfl 1 (by decide) (hts (.fieldLink RX3 15 "WaitOrWalkOn$Text" "length" "I") (by decide +kernel)) (fun _ h9 => h9) rfl dX3_digitsEnd_8 ?_
  refine lv_icmp_ge (tgt := 28) hx hb dX3_digitsEnd_11 (by decide) (fun c_2 => ?_) (fun c_2 => ?_)
  · refine lv_iload_n hx hb dX3_digitsEnd_28 rfl (lv_at hl 0 rfl) ?_
    exact W.iret (v := nI k) hx hb hr (fun t ht hW => ⟨_, rfl, (by have w := mt (nI_ltI (a := k) (b := len) (by omega) (by omega)).mpr (Int32.not_lt.mpr c_2); rw [xDe, ← h3, show len - k = 0 by omega]; rfl), ht⟩) (fun _ h => absurd h List.not_mem_nil) dX3_digitsEnd_29
  · refine lv_aload_n hx hb dX3_digitsEnd_14 rfl (lv_at hl 1 rfl) ?_
    refine lv_iload_n hx hb dX3_digitsEnd_15 rfl (lv_at hl 0 rfl) ?_
    have hPc := hP.sub (ws' := [(tx, .inr (3, [.ref t0, .int (nI len)])), (t0, .inl (cI, 96, .inl lt))]) [0, 1] rfl
    refine vp_callSi (va_Run.run (va_runV (As := [.int (nI k)]) (rest := []) ⟨hx, hb, hml, hown, hts⟩ (g_X3_isDigit l D cI cL cZ cC tx t0 len lt k (by first | assumption | decide +kernel) (by have w := (nI_ltI (a := k) (b := len) (by omega) (by omega)).mp (Int32.not_le.mp c_2); omega)) (cwV 1 hts gX3_digitsEnd_X3_isDigit rfl rfl rfl (by decide +kernel) ⟨Nat.le_of_ble_eq_true rfl, Nat.le_of_ble_eq_true rfl⟩) ⟨xPc_bl, va_recv hK hPc (ci := 3) (q0 := 0) rfl rfl, xPc_use hPc hK⟩ rfl rfl hl.1 rfl (lv_room (Nat.le_of_ble_eq_true rfl)) dX3_digitsEnd_16 ⟨Nat.le_of_ble_eq_true rfl, Nat.le_of_ble_eq_true rfl⟩)) (fun r_3 er_3 => ?_)
    obtain rfl : (xIsD lt len k : Int32) = r_3 := Eq.symm er_3
    refine lv_if_eq (tgt := 28) hx hb dX3_digitsEnd_19 (by decide) (fun c_4 => ?_) (fun c_4 => ?_)
    · refine lv_iload_n hx hb dX3_digitsEnd_28 rfl (lv_at hl 0 rfl) ?_
      exact W.iret (v := nI k) hx hb hr (fun t ht hW => ⟨_, rfl, (by have w := (nI_ltI (a := k) (b := len) (by omega) (by omega)).mp (Int32.not_le.mp c_2); rw [xDe, ← h3, xs1 w]; simp only [xSc]; rw [if_pos c_4]), ht⟩) (fun _ h => absurd h List.not_mem_nil) dX3_digitsEnd_29
    · refine lv_iinc (v := nI (k + 1)) (lv' := [(2, .int (nI (k + 1))), (0, .ref tx), (1, .int (nI p0))]) hx hb dX3_digitsEnd_22 hl (k := 0) rfl (nI_1 k) (by decide) rfl (fun ls hl => ?_)
      refine lv_goto (tgt := 6) hx hb dX3_digitsEnd_25 (by decide) ?_
      have w := (nI_ltI (a := k) (b := len) (by omega) (by omega)).mp (Int32.not_le.mp c_2)
      have e3 : xSc lt len (len - (k + 1)) (k + 1) = xSc lt len (len - xDp lt len p0) (xDp lt len p0) := by rw [← h3, xs1 w]; simp only [xSc]; rw [if_neg c_4]
      exact ih_6 (k + 1) _ ⟨lv_sub hl [0, 1, 2] rfl, by (try dsimp only); exact ⟨by omega, by omega, e3⟩⟩

set_option maxHeartbeats 4000000 in
set_option maxRecDepth 100000 in
theorem g_X3_digit (l : Launch) (D : va_G) (cI cL cZ cC : ClassId) (tx : Nat) (t0 : Nat) (len : Nat) (lt : Nat → Int32) (p0 : Nat) (hl96 : len ≤ 96) (hp : p0 ≤ 500) : Met l yX3_digit wsX3_digit ({ frames := 2, cells := 0, slots := 0, locals := 42 } : Room) (xPc D [.ref tx, .int (nI p0)] [(tx, .inr (3, [.ref t0, .int (nI len)])), (t0, .inl (cI, 96, .inl lt))] (xTy cI cL cZ cC)) (vp_Si (fun r : Int32 => r = xDg lt len p0)) 0 0 (fun _ => False) := by
  refine Met.ofW (cc := cX3_digit) (maxL := 2) (ret := (some .int)) (by decide) rfl ?_
  intro p e s m args below meth c s₁ B hml hv
  obtain ⟨rfl, hP, hK⟩ := hv
  have hx := B.exec
  have hb := B.bytes
  have hr := B.returns
  have hts := atoms_spec (ws := wsX3_digit) B.pre
  have hown : s.vm.findClass RX3 = some m.cls := findClass_of_methodNamed B.named
  have hlocks := B.notSynchronized
  have hl := lv_entry ([.ref tx, .int (nI p0)]) (n := 2) (Nat.le_of_ble_eq_true rfl)
  rw [lg_entry_eq]
  generalize (lg_sl ([.ref tx, .int (nI p0)]) ++ List.replicate (2 - (lg_sl ([.ref tx, .int (nI p0)])).length) Slot.unset).toArray = ls at hl ⊢
  have hl : lv_has ls 2 [(0, .ref tx), (1, .int (nI p0))] := hl
  refine lv_aload_n hx hb dX3_digit_0 rfl (lv_at hl 0 rfl) ?_
  refine lv_iload_n hx hb dX3_digit_1 rfl (lv_at hl 1 rfl) ?_
  have hPc := hP.sub (ws' := [(tx, .inr (3, [.ref t0, .int (nI len)])), (t0, .inl (cI, 96, .inl lt))]) [0, 1] rfl
  refine vp_callSi (va_Run.run (va_runV (As := [.int (nI p0)]) (rest := []) ⟨hx, hb, hml, hown, hts⟩ (g_X3_isDigit l D cI cL cZ cC tx t0 len lt p0 (by first | assumption | decide +kernel) (by first | assumption | decide +kernel)) (cwV 1 hts gX3_digit_X3_isDigit rfl rfl rfl (by decide +kernel) ⟨Nat.le_of_ble_eq_true rfl, Nat.le_of_ble_eq_true rfl⟩) ⟨xPc_bl, va_recv hK hPc (ci := 3) (q0 := 0) rfl rfl, xPc_use hPc hK⟩ rfl rfl hl.1 rfl (lv_room (Nat.le_of_ble_eq_true rfl)) dX3_digit_2 ⟨Nat.le_of_ble_eq_true rfl, Nat.le_of_ble_eq_true rfl⟩)) (fun r_1 er_1 => ?_)
  obtain rfl : (xIsD lt len p0 : Int32) = r_1 := Eq.symm er_1
  refine lv_if_eq (tgt := 19) hx hb dX3_digit_5 (by decide) (fun c_2 => ?_) (fun c_2 => ?_)
  · refine lv_iconst (v := 0) hx hb dX3_digit_19 (by decide) ?_
    exact W.iret (v := 0) hx hb hr (fun t ht hW => ⟨_, rfl, by simp [xDg, c_2], ht⟩) (fun _ h => absurd h List.not_mem_nil) dX3_digit_20
  · refine lv_aload_n hx hb dX3_digit_8 rfl (lv_at hl 0 rfl) ?_
    refine lv_iload_n hx hb dX3_digit_9 rfl (lv_at hl 1 rfl) ?_
    have hPc := hP.sub (ws' := [(tx, .inr (3, [.ref t0, .int (nI len)])), (t0, .inl (cI, 96, .inl lt))]) [0, 1] rfl
    refine vp_callSi (va_Run.run (va_runV (As := [.int (nI p0)]) (rest := []) ⟨hx, hb, hml, hown, hts⟩ (g_X3_at l D cI cL cZ cC tx t0 len lt p0 (by first | assumption | decide +kernel) (by first | assumption | decide +kernel)) (cwV 1 hts gX3_digit_X3_at rfl rfl rfl (by decide +kernel) ⟨Nat.le_of_ble_eq_true rfl, Nat.le_of_ble_eq_true rfl⟩) ⟨xPc_bl, va_recv hK hPc (ci := 3) (q0 := 0) rfl rfl, xPc_use hPc hK⟩ rfl rfl hl.1 rfl (lv_room (Nat.le_of_ble_eq_true rfl)) dX3_digit_10 ⟨Nat.le_of_ble_eq_true rfl, Nat.le_of_ble_eq_true rfl⟩)) (fun r_3 er_3 => ?_)
    obtain rfl : (xAt lt len p0 : Int32) = r_3 := Eq.symm er_3
    refine lv_bipush (v := 48) hx hb dX3_digit_13 (by decide) ?_
    refine lv_isub hx hb dX3_digit_15 ?_
    refine lv_goto (tgt := 20) hx hb dX3_digit_16 (by decide) ?_
    exact W.iret (v := (xAt lt len p0) - 48) hx hb hr (fun t ht hW => ⟨_, rfl, by simp [xDg, c_2], ht⟩) (fun _ h => absurd h List.not_mem_nil) dX3_digit_20

set_option maxHeartbeats 4000000 in
set_option maxRecDepth 100000 in
theorem g_X3_numberAt (l : Launch) (D : va_G) (cI cL cZ cC : ClassId) (tx : Nat) (t0 : Nat) (len : Nat) (lt : Nat → Int32) (p0 : Nat) (hl96 : len ≤ 96) (hp : p0 ≤ 500) : Met l yX3_numberAt wsX3_numberAt ({ frames := 3, cells := 0, slots := 0, locals := 64 } : Room) (xPc D [.ref tx, .int (nI p0)] [(tx, .inr (3, [.ref t0, .int (nI len)])), (t0, .inl (cI, 96, .inl lt))] (xTy cI cL cZ cC)) (vp_Si (fun r : Int32 => r = xNm lt len p0)) 0 0 (fun _ => False) := by
  refine Met.ofW (cc := cX3_numberAt) (maxL := 4) (ret := (some .int)) (by decide) rfl ?_
  intro p e s m args below meth c s₁ B hml hv
  obtain ⟨rfl, hP, hK⟩ := hv
  have hx := B.exec
  have hb := B.bytes
  have hr := B.returns
  have hts := atoms_spec (ws := wsX3_numberAt) B.pre
  have hown : s.vm.findClass RX3 = some m.cls := findClass_of_methodNamed B.named
  have hlocks := B.notSynchronized
  have hl := lv_entry ([.ref tx, .int (nI p0)]) (n := 4) (Nat.le_of_ble_eq_true rfl)
  rw [lg_entry_eq]
  generalize (lg_sl ([.ref tx, .int (nI p0)]) ++ List.replicate (4 - (lg_sl ([.ref tx, .int (nI p0)])).length) Slot.unset).toArray = ls at hl ⊢
  have hl : lv_has ls 4 [(0, .ref tx), (1, .int (nI p0))] := hl
  have hdp := xDp_le lt len p0
  have hde := xDe_le lt len p0
  refine lv_iconst (v := 0) hx hb dX3_numberAt_0 (by decide) ?_
  refine lv_istore_n (lv' := [(2, .int 0), (0, .ref tx), (1, .int (nI p0))]) hx hb dX3_numberAt_1 rfl hl (by decide) rfl (fun ls hl => ?_)
  refine lv_aload_n hx hb dX3_numberAt_2 rfl (lv_at hl 1 rfl) ?_
  refine lv_iload_n hx hb dX3_numberAt_3 rfl (lv_at hl 2 rfl) ?_
  have hPc := hP.sub (ws' := [(tx, .inr (3, [.ref t0, .int (nI len)])), (t0, .inl (cI, 96, .inl lt))]) [0, 1] rfl
  refine vp_callSi (va_Run.run (va_runV (As := [.int (nI p0)]) (rest := []) ⟨hx, hb, hml, hown, hts⟩ (g_X3_digitsPlace l D cI cL cZ cC tx t0 len lt p0 (by first | assumption | decide +kernel) (by first | assumption | decide +kernel)) (cwV 1 hts gX3_numberAt_X3_digitsPlace rfl rfl rfl (by decide +kernel) ⟨Nat.le_of_ble_eq_true rfl, Nat.le_of_ble_eq_true rfl⟩) ⟨xPc_bl, va_recv hK hPc (ci := 3) (q0 := 0) rfl rfl, xPc_use hPc hK⟩ rfl rfl hl.1 rfl (lv_room (Nat.le_of_ble_eq_true rfl)) dX3_numberAt_4 ⟨Nat.le_of_ble_eq_true rfl, Nat.le_of_ble_eq_true rfl⟩)) (fun r_1 er_1 => ?_)
  obtain rfl : (nI (xDp lt len p0) : Int32) = r_1 := Eq.symm er_1
  refine lv_istore_n (lv' := [(3, .int (nI (xDp lt len p0))), (2, .int 0), (0, .ref tx), (1, .int (nI p0))]) hx hb dX3_numberAt_7 rfl hl (by decide) rfl (fun ls hl => ?_)
  refine xl_loop (σ := Nat) (fun n q ls => lv_has ls 4 [(3, .int (nI (xDp lt len p0 + q))), (2, .int (xNu lt len (xDp lt len p0) q)), (0, .ref tx), (1, .int (nI p0))] ∧ (xDe lt len p0 - (xDp lt len p0 + q) < n) ∧ (q ≤ xDe lt len p0 - xDp lt len p0)) (xDe lt len p0 + 1) (0) ⟨lv_sub hl [0, 1, 2, 3] rfl, by (try dsimp only); exact ⟨by omega, by omega⟩⟩ (fun q ls h => absurd h.2.1 (Nat.not_lt_zero _)) ?_
  intro n_8 q_8 ls ih_8 hI_8
  obtain ⟨hl, hI_8⟩ := hI_8
  obtain ⟨k, e_8⟩ : ∃ z, z = q_8 := ⟨_, rfl⟩
  subst e_8
  obtain ⟨h1, h2⟩ := hI_8
  try dsimp only at hl h1 h2
  refine lv_iload_n hx hb dX3_numberAt_8 rfl (lv_at hl 0 rfl) ?_
  refine lv_aload_n hx hb dX3_numberAt_9 rfl (lv_at hl 2 rfl) ?_
  refine lv_iload_n hx hb dX3_numberAt_10 rfl (lv_at hl 3 rfl) ?_
  have hPc := hP.sub (ws' := [(tx, .inr (3, [.ref t0, .int (nI len)])), (t0, .inl (cI, 96, .inl lt))]) [0, 1] rfl
  refine vp_callSi (va_Run.run (va_runV (As := [.int (nI p0)]) (rest := [.int (nI (xDp lt len p0 + k))]) ⟨hx, hb, hml, hown, hts⟩ (g_X3_digitsEnd l D cI cL cZ cC tx t0 len lt p0 (by first | assumption | decide +kernel) (by first | assumption | decide +kernel)) (cwV 1 hts gX3_numberAt_X3_digitsEnd rfl rfl rfl (by decide +kernel) ⟨Nat.le_of_ble_eq_true rfl, Nat.le_of_ble_eq_true rfl⟩) ⟨xPc_bl, va_recv hK hPc (ci := 3) (q0 := 0) rfl rfl, xPc_use hPc hK⟩ rfl rfl hl.1 rfl (lv_room (Nat.le_of_ble_eq_true rfl)) dX3_numberAt_11 ⟨Nat.le_of_ble_eq_true rfl, Nat.le_of_ble_eq_true rfl⟩)) (fun r_2 er_2 => ?_)
  obtain rfl : (nI (xDe lt len p0) : Int32) = r_2 := Eq.symm er_2
  refine lv_icmp_ge (tgt := 34) hx hb dX3_numberAt_14 (by decide) (fun c_3 => ?_) (fun c_3 => ?_)
  · refine lv_iload_n hx hb dX3_numberAt_34 rfl (lv_at hl 1 rfl) ?_
    exact W.iret (v := xNu lt len (xDp lt len p0) k) hx hb hr (fun t ht hW => ⟨_, rfl, (by have w := mt (nI_ltI (a := xDp lt len p0 + k) (b := xDe lt len p0) (by omega) (by omega)).mpr (Int32.not_lt.mpr c_3); rw [xNm, show xDe lt len p0 - xDp lt len p0 = k by omega]), ht⟩) (fun _ h => absurd h List.not_mem_nil) dX3_numberAt_35
  · refine lv_iload_n hx hb dX3_numberAt_17 rfl (lv_at hl 1 rfl) ?_
    refine lv_bipush (v := 10) hx hb dX3_numberAt_18 (by decide) ?_
    refine lv_imul hx hb dX3_numberAt_20 ?_
    refine lv_aload_n hx hb dX3_numberAt_21 rfl (lv_at hl 2 rfl) ?_
    refine lv_iload_n hx hb dX3_numberAt_22 rfl (lv_at hl 0 rfl) ?_
    have hPc := hP.sub (ws' := [(tx, .inr (3, [.ref t0, .int (nI len)])), (t0, .inl (cI, 96, .inl lt))]) [0, 1] rfl
    refine vp_callSi (va_Run.run (va_runV (As := [.int (nI (xDp lt len p0 + k))]) (rest := [.int ((xNu lt len (xDp lt len p0) k) * 10)]) ⟨hx, hb, hml, hown, hts⟩ (g_X3_digit l D cI cL cZ cC tx t0 len lt (xDp lt len p0 + k) (by first | assumption | decide +kernel) (by have w := (nI_ltI (a := xDp lt len p0 + k) (b := xDe lt len p0) (by omega) (by omega)).mp (Int32.not_le.mp c_3); omega)) (cwV 1 hts gX3_numberAt_X3_digit rfl rfl rfl (by decide +kernel) ⟨Nat.le_of_ble_eq_true rfl, Nat.le_of_ble_eq_true rfl⟩) ⟨xPc_bl, va_recv hK hPc (ci := 3) (q0 := 0) rfl rfl, xPc_use hPc hK⟩ rfl rfl hl.1 rfl (lv_room (Nat.le_of_ble_eq_true rfl)) dX3_numberAt_23 ⟨Nat.le_of_ble_eq_true rfl, Nat.le_of_ble_eq_true rfl⟩)) (fun r_4 er_4 => ?_)
    obtain rfl : (xDg lt len (xDp lt len p0 + k) : Int32) = r_4 := Eq.symm er_4
    refine lv_iadd hx hb dX3_numberAt_26 ?_
    refine xv_int (y := xNu lt len (xDp lt len p0) (k + 1)) (rfl) ?_
    refine lv_istore_n (lv' := [(2, .int (xNu lt len (xDp lt len p0) (k + 1))), (3, .int (nI (xDp lt len p0 + k))), (0, .ref tx), (1, .int (nI p0))]) hx hb dX3_numberAt_27 rfl hl (by decide) rfl (fun ls hl => ?_)
    refine lv_iinc (v := nI (xDp lt len p0 + (k + 1))) (lv' := [(3, .int (nI (xDp lt len p0 + (k + 1)))), (2, .int (xNu lt len (xDp lt len p0) (k + 1))), (0, .ref tx), (1, .int (nI p0))]) hx hb dX3_numberAt_28 hl (k := 1) rfl (nI_1 (xDp lt len p0 + k)) (by decide) rfl (fun ls hl => ?_)
    refine lv_goto (tgt := 8) hx hb dX3_numberAt_31 (by decide) ?_
    have w := (nI_ltI (a := xDp lt len p0 + k) (b := xDe lt len p0) (by omega) (by omega)).mp (Int32.not_le.mp c_3)
    exact ih_8 (k + 1) _ ⟨lv_sub hl [0, 1, 2, 3] rfl, by (try dsimp only); exact ⟨by omega, by omega⟩⟩

set_option maxHeartbeats 4000000 in
set_option maxRecDepth 100000 in
theorem g_X3_leastDigits (l : Launch) (D : va_G) (cI cL cZ cC : ClassId) (x0 : Int32)  : Met l yX3_leastDigits wsX3_leastDigits ({ frames := 0, cells := 0, slots := 0, locals := 0 } : Room) (xPc D [.int x0] [] (xTy cI cL cZ cC)) (vp_Si (fun r : Int32 => r = sLd x0)) 0 0 (fun _ => False) := by
  refine Met.ofW (cc := cX3_leastDigits) (maxL := 1) (ret := (some .int)) (by decide) rfl ?_
  intro p e s m args below meth c s₁ B hml hv
  obtain ⟨rfl, hP, hK⟩ := hv
  have hx := B.exec
  have hb := B.bytes
  have hr := B.returns
  have hts := atoms_spec (ws := wsX3_leastDigits) B.pre
  have hown : s.vm.findClass RX3 = some m.cls := findClass_of_methodNamed B.named
  have hlocks := B.notSynchronized
  have hl := lv_entry ([.int x0]) (n := 1) (Nat.le_of_ble_eq_true rfl)
  rw [lg_entry_eq]
  generalize (lg_sl ([.int x0]) ++ List.replicate (1 - (lg_sl ([.int x0])).length) Slot.unset).toArray = ls at hl ⊢
  have hl : lv_has ls 1 [(0, .int x0)] := hl
  refine lv_iload_n hx hb dX3_leastDigits_0 rfl (lv_at hl 0 rfl) ?_
  by_cases c_1 : x0 = 108
  · refine lv_lookup (off := 29) (tgt := 30) hx hb dX3_leastDigits_1 (by decide +kernel) (by rw [c_1]; decide +kernel) (by decide) ?_
    refine lv_iconst (v := 3) hx hb dX3_leastDigits_30 (by decide) ?_
    exact W.iret (v := 3) hx hb hr (fun t ht hW => ⟨_, rfl, by simp [sLd, c_1], ht⟩) (fun _ h => absurd h List.not_mem_nil) dX3_leastDigits_31
  by_cases c_2 : x0 = 112
  · refine lv_lookup (off := 27) (tgt := 28) hx hb dX3_leastDigits_1 (by decide +kernel) (by rw [c_2]; decide +kernel) (by decide) ?_
    refine lv_iconst (v := 2) hx hb dX3_leastDigits_28 (by decide) ?_
    exact W.iret (v := 2) hx hb hr (fun t ht hW => ⟨_, rfl, by simp [sLd, c_1, c_2], ht⟩) (fun _ h => absurd h List.not_mem_nil) dX3_leastDigits_29
  refine lv_lookup (off := 31) (tgt := 32) hx hb dX3_leastDigits_1 (by decide +kernel) (by have q_1 : ¬ (x0).toInt = 108 := mt (xi_eq (x0) 108).mpr c_1; have q_2 : ¬ (x0).toInt = 112 := mt (xi_eq (x0) 112).mpr c_2; simp [Op.lookupswitch.offset, q_1, Ne.symm q_1, q_2, Ne.symm q_2]) (by decide) ?_
  refine lv_iconst (v := 1) hx hb dX3_leastDigits_32 (by decide) ?_
  exact W.iret (v := 1) hx hb hr (fun t ht hW => ⟨_, rfl, by simp [sLd, c_1, c_2], ht⟩) (fun _ h => absurd h List.not_mem_nil) dX3_leastDigits_33

set_option maxHeartbeats 4000000 in
set_option maxRecDepth 100000 in
theorem g_X3_mostDigits (l : Launch) (D : va_G) (cI cL cZ cC : ClassId) (x0 : Int32)  : Met l yX3_mostDigits wsX3_mostDigits ({ frames := 0, cells := 0, slots := 0, locals := 0 } : Room) (xPc D [.int x0] [] (xTy cI cL cZ cC)) (vp_Si (fun r : Int32 => r = sMd x0)) 0 0 (fun _ => False) := by
  refine Met.ofW (cc := cX3_mostDigits) (maxL := 1) (ret := (some .int)) (by decide) rfl ?_
  intro p e s m args below meth c s₁ B hml hv
  obtain ⟨rfl, hP, hK⟩ := hv
  have hx := B.exec
  have hb := B.bytes
  have hr := B.returns
  have hts := atoms_spec (ws := wsX3_mostDigits) B.pre
  have hown : s.vm.findClass RX3 = some m.cls := findClass_of_methodNamed B.named
  have hlocks := B.notSynchronized
  have hl := lv_entry ([.int x0]) (n := 1) (Nat.le_of_ble_eq_true rfl)
  rw [lg_entry_eq]
  generalize (lg_sl ([.int x0]) ++ List.replicate (1 - (lg_sl ([.int x0])).length) Slot.unset).toArray = ls at hl ⊢
  have hl : lv_has ls 1 [(0, .int x0)] := hl
  refine lv_iload_n hx hb dX3_mostDigits_0 rfl (lv_at hl 0 rfl) ?_
  by_cases c_1 : x0 = 101
  · refine lv_tableIn (off := 80) (tgt := 81) hx hb dX3_mostDigits_1 (by rw [c_1]; decide +kernel) (by rw [c_1]; decide +kernel) (by rw [c_1]; decide +kernel) (by decide) ?_
    refine lv_iconst (v := 1) hx hb dX3_mostDigits_81 (by decide) ?_
    exact W.iret (v := 1) hx hb hr (fun t ht hW => ⟨_, rfl, by simp [sMd, c_1], ht⟩) (fun _ h => absurd h List.not_mem_nil) dX3_mostDigits_82
  by_cases c_2 : x0 = 102
  · refine lv_tableIn (off := 84) (tgt := 85) hx hb dX3_mostDigits_1 (by rw [c_2]; decide +kernel) (by rw [c_2]; decide +kernel) (by rw [c_2]; decide +kernel) (by decide) ?_
    refine lv_iconst (v := 0) hx hb dX3_mostDigits_85 (by decide) ?_
    exact W.iret (v := 0) hx hb hr (fun t ht hW => ⟨_, rfl, by simp [sMd, c_1, c_2], ht⟩) (fun _ h => absurd h List.not_mem_nil) dX3_mostDigits_86
  by_cases c_3 : x0 = 103
  · refine lv_tableIn (off := 84) (tgt := 85) hx hb dX3_mostDigits_1 (by rw [c_3]; decide +kernel) (by rw [c_3]; decide +kernel) (by rw [c_3]; decide +kernel) (by decide) ?_
    refine lv_iconst (v := 0) hx hb dX3_mostDigits_85 (by decide) ?_
    exact W.iret (v := 0) hx hb hr (fun t ht hW => ⟨_, rfl, by simp [sMd, c_1, c_2, c_3], ht⟩) (fun _ h => absurd h List.not_mem_nil) dX3_mostDigits_86
  by_cases c_4 : x0 = 104
  · refine lv_tableIn (off := 75) (tgt := 76) hx hb dX3_mostDigits_1 (by rw [c_4]; decide +kernel) (by rw [c_4]; decide +kernel) (by rw [c_4]; decide +kernel) (by decide) ?_
    refine lv_iconst (v := 3) hx hb dX3_mostDigits_76 (by decide) ?_
    exact W.iret (v := 3) hx hb hr (fun t ht hW => ⟨_, rfl, by simp [sMd, c_1, c_2, c_3, c_4], ht⟩) (fun _ h => absurd h List.not_mem_nil) dX3_mostDigits_77
  by_cases c_5 : x0 = 105
  · refine lv_tableIn (off := 84) (tgt := 85) hx hb dX3_mostDigits_1 (by rw [c_5]; decide +kernel) (by rw [c_5]; decide +kernel) (by rw [c_5]; decide +kernel) (by decide) ?_
    refine lv_iconst (v := 0) hx hb dX3_mostDigits_85 (by decide) ?_
    exact W.iret (v := 0) hx hb hr (fun t ht hW => ⟨_, rfl, by simp [sMd, c_1, c_2, c_3, c_4, c_5], ht⟩) (fun _ h => absurd h List.not_mem_nil) dX3_mostDigits_86
  by_cases c_6 : x0 = 106
  · refine lv_tableIn (off := 84) (tgt := 85) hx hb dX3_mostDigits_1 (by rw [c_6]; decide +kernel) (by rw [c_6]; decide +kernel) (by rw [c_6]; decide +kernel) (by decide) ?_
    refine lv_iconst (v := 0) hx hb dX3_mostDigits_85 (by decide) ?_
    exact W.iret (v := 0) hx hb hr (fun t ht hW => ⟨_, rfl, by simp [sMd, c_1, c_2, c_3, c_4, c_5, c_6], ht⟩) (fun _ h => absurd h List.not_mem_nil) dX3_mostDigits_86
  by_cases c_7 : x0 = 107
  · refine lv_tableIn (off := 84) (tgt := 85) hx hb dX3_mostDigits_1 (by rw [c_7]; decide +kernel) (by rw [c_7]; decide +kernel) (by rw [c_7]; decide +kernel) (by decide) ?_
    refine lv_iconst (v := 0) hx hb dX3_mostDigits_85 (by decide) ?_
    exact W.iret (v := 0) hx hb hr (fun t ht hW => ⟨_, rfl, by simp [sMd, c_1, c_2, c_3, c_4, c_5, c_6, c_7], ht⟩) (fun _ h => absurd h List.not_mem_nil) dX3_mostDigits_86
  by_cases c_8 : x0 = 108
  · refine lv_tableIn (off := 77) (tgt := 78) hx hb dX3_mostDigits_1 (by rw [c_8]; decide +kernel) (by rw [c_8]; decide +kernel) (by rw [c_8]; decide +kernel) (by decide) ?_
    refine lv_bipush (v := 14) hx hb dX3_mostDigits_78 (by decide) ?_
    exact W.iret (v := 14) hx hb hr (fun t ht hW => ⟨_, rfl, by simp [sMd, c_1, c_2, c_3, c_4, c_5, c_6, c_7, c_8], ht⟩) (fun _ h => absurd h List.not_mem_nil) dX3_mostDigits_80
  by_cases c_9 : x0 = 109
  · refine lv_tableIn (off := 82) (tgt := 83) hx hb dX3_mostDigits_1 (by rw [c_9]; decide +kernel) (by rw [c_9]; decide +kernel) (by rw [c_9]; decide +kernel) (by decide) ?_
    refine lv_iconst (v := 2) hx hb dX3_mostDigits_83 (by decide) ?_
    exact W.iret (v := 2) hx hb hr (fun t ht hW => ⟨_, rfl, by simp [sMd, c_1, c_2, c_3, c_4, c_5, c_6, c_7, c_8, c_9], ht⟩) (fun _ h => absurd h List.not_mem_nil) dX3_mostDigits_84
  by_cases c_10 : x0 = 110
  · refine lv_tableIn (off := 84) (tgt := 85) hx hb dX3_mostDigits_1 (by rw [c_10]; decide +kernel) (by rw [c_10]; decide +kernel) (by rw [c_10]; decide +kernel) (by decide) ?_
    refine lv_iconst (v := 0) hx hb dX3_mostDigits_85 (by decide) ?_
    exact W.iret (v := 0) hx hb hr (fun t ht hW => ⟨_, rfl, by simp [sMd, c_1, c_2, c_3, c_4, c_5, c_6, c_7, c_8, c_9, c_10], ht⟩) (fun _ h => absurd h List.not_mem_nil) dX3_mostDigits_86
  by_cases c_11 : x0 = 111
  · refine lv_tableIn (off := 84) (tgt := 85) hx hb dX3_mostDigits_1 (by rw [c_11]; decide +kernel) (by rw [c_11]; decide +kernel) (by rw [c_11]; decide +kernel) (by decide) ?_
    refine lv_iconst (v := 0) hx hb dX3_mostDigits_85 (by decide) ?_
    exact W.iret (v := 0) hx hb hr (fun t ht hW => ⟨_, rfl, by simp [sMd, c_1, c_2, c_3, c_4, c_5, c_6, c_7, c_8, c_9, c_10, c_11], ht⟩) (fun _ h => absurd h List.not_mem_nil) dX3_mostDigits_86
  by_cases c_12 : x0 = 112
  · refine lv_tableIn (off := 75) (tgt := 76) hx hb dX3_mostDigits_1 (by rw [c_12]; decide +kernel) (by rw [c_12]; decide +kernel) (by rw [c_12]; decide +kernel) (by decide) ?_
    refine lv_iconst (v := 3) hx hb dX3_mostDigits_76 (by decide) ?_
    exact W.iret (v := 3) hx hb hr (fun t ht hW => ⟨_, rfl, by simp [sMd, c_1, c_2, c_3, c_4, c_5, c_6, c_7, c_8, c_9, c_10, c_11, c_12], ht⟩) (fun _ h => absurd h List.not_mem_nil) dX3_mostDigits_77
  by_cases c_13 : x0 = 113
  · refine lv_tableIn (off := 84) (tgt := 85) hx hb dX3_mostDigits_1 (by rw [c_13]; decide +kernel) (by rw [c_13]; decide +kernel) (by rw [c_13]; decide +kernel) (by decide) ?_
    refine lv_iconst (v := 0) hx hb dX3_mostDigits_85 (by decide) ?_
    exact W.iret (v := 0) hx hb hr (fun t ht hW => ⟨_, rfl, by simp [sMd, c_1, c_2, c_3, c_4, c_5, c_6, c_7, c_8, c_9, c_10, c_11, c_12, c_13], ht⟩) (fun _ h => absurd h List.not_mem_nil) dX3_mostDigits_86
  by_cases c_14 : x0 = 114
  · refine lv_tableIn (off := 84) (tgt := 85) hx hb dX3_mostDigits_1 (by rw [c_14]; decide +kernel) (by rw [c_14]; decide +kernel) (by rw [c_14]; decide +kernel) (by decide) ?_
    refine lv_iconst (v := 0) hx hb dX3_mostDigits_85 (by decide) ?_
    exact W.iret (v := 0) hx hb hr (fun t ht hW => ⟨_, rfl, by simp [sMd, c_1, c_2, c_3, c_4, c_5, c_6, c_7, c_8, c_9, c_10, c_11, c_12, c_13, c_14], ht⟩) (fun _ h => absurd h List.not_mem_nil) dX3_mostDigits_86
  by_cases c_15 : x0 = 115
  · refine lv_tableIn (off := 75) (tgt := 76) hx hb dX3_mostDigits_1 (by rw [c_15]; decide +kernel) (by rw [c_15]; decide +kernel) (by rw [c_15]; decide +kernel) (by decide) ?_
    refine lv_iconst (v := 3) hx hb dX3_mostDigits_76 (by decide) ?_
    exact W.iret (v := 3) hx hb hr (fun t ht hW => ⟨_, rfl, by simp [sMd, c_1, c_2, c_3, c_4, c_5, c_6, c_7, c_8, c_9, c_10, c_11, c_12, c_13, c_14, c_15], ht⟩) (fun _ h => absurd h List.not_mem_nil) dX3_mostDigits_77
  refine lv_tableOut (tgt := 85) hx hb dX3_mostDigits_1 (by have q_1 : ¬ (x0).toInt = 101 := mt (xi_eq (x0) 101).mpr c_1; have q_2 : ¬ (x0).toInt = 102 := mt (xi_eq (x0) 102).mpr c_2; have q_3 : ¬ (x0).toInt = 103 := mt (xi_eq (x0) 103).mpr c_3; have q_4 : ¬ (x0).toInt = 104 := mt (xi_eq (x0) 104).mpr c_4; have q_5 : ¬ (x0).toInt = 105 := mt (xi_eq (x0) 105).mpr c_5; have q_6 : ¬ (x0).toInt = 106 := mt (xi_eq (x0) 106).mpr c_6; have q_7 : ¬ (x0).toInt = 107 := mt (xi_eq (x0) 107).mpr c_7; have q_8 : ¬ (x0).toInt = 108 := mt (xi_eq (x0) 108).mpr c_8; have q_9 : ¬ (x0).toInt = 109 := mt (xi_eq (x0) 109).mpr c_9; have q_10 : ¬ (x0).toInt = 110 := mt (xi_eq (x0) 110).mpr c_10; have q_11 : ¬ (x0).toInt = 111 := mt (xi_eq (x0) 111).mpr c_11; have q_12 : ¬ (x0).toInt = 112 := mt (xi_eq (x0) 112).mpr c_12; have q_13 : ¬ (x0).toInt = 113 := mt (xi_eq (x0) 113).mpr c_13; have q_14 : ¬ (x0).toInt = 114 := mt (xi_eq (x0) 114).mpr c_14; have q_15 : ¬ (x0).toInt = 115 := mt (xi_eq (x0) 115).mpr c_15; omega) (by decide) ?_
  refine lv_iconst (v := 0) hx hb dX3_mostDigits_85 (by decide) ?_
  exact W.iret (v := 0) hx hb hr (fun t ht hW => ⟨_, rfl, by simp [sMd, c_1, c_2, c_3, c_4, c_5, c_6, c_7, c_8, c_9, c_10, c_11, c_12, c_13, c_14, c_15], ht⟩) (fun _ h => absurd h List.not_mem_nil) dX3_mostDigits_86
