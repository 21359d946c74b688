set_option maxHeartbeats 4000000 in
set_option maxRecDepth 100000 in
theorem g_X0_weight (l : Launch) (D : va_G) (cI cL cZ cC : ClassId) (b0 : Nat) (k0 : Nat) (ki : Int32) (ru : Int32) (ne : Int32) (ch : Nat → Int32) (a1 : Int32)  : Met l yX0_weight wsX0_weight ({ frames := 0, cells := 0, slots := 0, locals := 0 } : Room) (xPc D [.ref b0, .int a1] [(b0, .inr (0, [.int ki, .int ru, .int ne, .ref k0])), (k0, .inl (cI, 12, .inl ch))] (xTy cI cL cZ cC)) (vp_Si (fun r : Int32 => r = sWt ne ch a1)) 0 0 (fun _ => False) := by
  refine Met.ofW (cc := cX0_weight) (maxL := 2) (ret := (some .int)) (by decide) rfl ?_
  intro p e s m args below meth c s₁ B hml hv
  obtain ⟨rfl, hP, hK⟩ := hv
  have hx := B.exec
  have hb := B.bytes
  have hr := B.returns
  have hts := atoms_spec (ws := wsX0_weight) B.pre
  have hown : s.vm.findClass RX0 = some m.cls := findClass_of_methodNamed B.named
  have hlocks := B.notSynchronized
  have hwX0 : ∀ w ∈ u_ws RX0 TX0 4, w ∈ wsX0_weight := fun _ h => List.mem_cons_of_mem _ (List.mem_append_right _ h)
  have hl := lv_entry ([.ref b0, .int a1]) (n := 2) (Nat.le_of_ble_eq_true rfl)
  rw [lg_entry_eq]
  generalize (lg_sl ([.ref b0, .int a1]) ++ List.replicate (2 - (lg_sl ([.ref b0, .int a1])).length) Slot.unset).toArray = ls at hl ⊢
  have hl : lv_has ls 2 [(0, .ref b0), (1, .int a1)] := hl
  refine lv_iload_n hx hb dX0_weight_0 rfl (lv_at hl 1 rfl) ?_
  refine lv_bipush (v := 12) hx hb dX0_weight_1 (by decide) ?_
  refine lv_icmp_ne (tgt := 11) hx hb dX0_weight_3 (by decide) (fun c_1 => ?_) (fun c_1 => ?_)
  · refine lv_iload_n hx hb dX0_weight_11 rfl (lv_at hl 1 rfl) ?_
    refine lv_if_lt (tgt := 30) hx hb dX0_weight_12 (by decide) (fun c_2 => ?_) (fun c_2 => ?_)
    · refine lv_iconst (v := 0) hx hb dX0_weight_30 (by decide) ?_
      exact W.iret (v := 0) hx hb hr (fun t ht hW => ⟨_, rfl, by simp [sWt, c_1, c_2], ht⟩) (fun _ h => absurd h List.not_mem_nil) dX0_weight_31
    · refine lv_iload_n hx hb dX0_weight_15 rfl (lv_at hl 1 rfl) ?_
      refine lv_bipush (v := 12) hx hb dX0_weight_16 (by decide) ?_
      refine lv_icmp_ge (tgt := 30) hx hb dX0_weight_18 (by decide) (fun c_3 => ?_) (fun c_3 => ?_)
      · refine lv_iconst (v := 0) hx hb dX0_weight_30 (by decide) ?_
        exact W.iret (v := 0) hx hb hr (fun t ht hW => ⟨_, rfl, by simp [sWt, c_1, c_2, (Int32.not_lt.mpr c_3)], ht⟩) (fun _ h => absurd h List.not_mem_nil) dX0_weight_31
      · refine lv_aload_n hx hb dX0_weight_21 rfl (lv_at hl 0 rfl) ?_
        refine va_get (D := D) (ci := 0) (v := .ref k0) (C := RX0) (T := TX0) (N := 4) hx hb hts hwX0 hown hK hP 0 rfl rfl 3 (by decide) (hts (.fieldLink RX0 9 "WaitOrWalkOn$Line" "chances" "[I") (by decide +kernel)) (fun _ h9 => h9) rfl dX0_weight_22 ?_
        refine lv_iload_n hx hb dX0_weight_25 rfl (lv_at hl 1 rfl) ?_
        refine va_iald (D := D) hx hb hK hP 1 0 rfl rfl (xvin (n := 12) c_2 (Int32.not_le.mp c_3) (by decide)) dX0_weight_26 ?_
        refine lv_goto (tgt := 31) hx hb dX0_weight_27 (by decide) ?_
        exact W.iret (v := ch a1.toNatClampNeg) hx hb hr (fun t ht hW => ⟨_, rfl, by simp [sWt, c_1, c_2, (Int32.not_le.mp c_3)], ht⟩) (fun _ h => absurd h List.not_mem_nil) dX0_weight_31
  · refine lv_aload_n hx hb dX0_weight_6 rfl (lv_at hl 0 rfl) ?_
    refine va_get (D := D) (ci := 0) (v := .int ne) (C := RX0) (T := TX0) (N := 4) hx hb hts hwX0 hown hK hP 0 rfl rfl 2 (by decide) (hts (.fieldLink RX0 22 "WaitOrWalkOn$Line" "never" "I") (by decide +kernel)) (fun _ h9 => h9) rfl dX0_weight_7 ?_
    exact W.iret (v := ne) hx hb hr (fun t ht hW => ⟨_, rfl, by simp [sWt, c_1], ht⟩) (fun _ h => absurd h List.not_mem_nil) dX0_weight_10

set_option maxHeartbeats 4000000 in
set_option maxRecDepth 100000 in
theorem g_X0_weightAhead (l : Launch) (D : va_G) (cI cL cZ cC : ClassId) (b0 : Nat) (k0 : Nat) (ki : Int32) (ru : Int32) (ne : Int32) (ch : Nat → Int32) (a1 : Int32)  : Met l yX0_weightAhead wsX0_weightAhead ({ frames := 0, cells := 0, slots := 0, locals := 0 } : Room) (xPc D [.ref b0, .int a1] [(b0, .inr (0, [.int ki, .int ru, .int ne, .ref k0])), (k0, .inl (cI, 12, .inl ch))] (xTy cI cL cZ cC)) (vp_Si (fun r : Int32 => r = xWa ch a1)) 0 0 (fun _ => False) := by
  refine Met.ofW (cc := cX0_weightAhead) (maxL := 4) (ret := (some .int)) (by decide) rfl ?_
  intro p e s m args below meth c s₁ B hml hv
  obtain ⟨rfl, hP, hK⟩ := hv
  have hx := B.exec
  have hb := B.bytes
  have hr := B.returns
  have hts := atoms_spec (ws := wsX0_weightAhead) B.pre
  have hown : s.vm.findClass RX0 = some m.cls := findClass_of_methodNamed B.named
  have hlocks := B.notSynchronized
  have hwX0 : ∀ w ∈ u_ws RX0 TX0 4, w ∈ wsX0_weightAhead := fun _ h => List.mem_cons_of_mem _ (List.mem_append_right _ h)
  have hl := lv_entry ([.ref b0, .int a1]) (n := 4) (Nat.le_of_ble_eq_true rfl)
  rw [lg_entry_eq]
  generalize (lg_sl ([.ref b0, .int a1]) ++ List.replicate (4 - (lg_sl ([.ref b0, .int a1])).length) Slot.unset).toArray = ls at hl ⊢
  have hl : lv_has ls 4 [(0, .ref b0), (1, .int a1)] := hl
  refine lv_iconst (v := 0) hx hb dX0_weightAhead_0 (by decide) ?_
  refine lv_istore_n (lv' := [(2, .int 0), (0, .ref b0), (1, .int a1)]) hx hb dX0_weightAhead_1 rfl hl (by decide) rfl (fun ls hl => ?_)
  refine lv_iconst (v := 0) hx hb dX0_weightAhead_2 (by decide) ?_
  refine lv_istore_n (lv' := [(3, .int 0), (2, .int 0), (0, .ref b0), (1, .int a1)]) hx hb dX0_weightAhead_3 rfl hl (by decide) rfl (fun ls hl => ?_)
  refine xl_loop (σ := Nat) (fun n q ls => lv_has ls 4 [(3, .int (nI q)), (2, .int (xSm ch q)), (0, .ref b0), (1, .int a1)] ∧ (12 - q < n) ∧ (q ≤ 12) ∧ (q ≤ a1.toNatClampNeg)) (13) (0) ⟨lv_sub hl [0, 1, 2, 3] rfl, by (try dsimp only); exact ⟨by omega, by omega, by omega⟩⟩ (fun q ls h => absurd h.2.1 (Nat.not_lt_zero _)) ?_
  intro n_4 q_4 ls ih_4 hI_4
  obtain ⟨hl, hI_4⟩ := hI_4
  obtain ⟨k, e_4⟩ : ∃ z, z = q_4 := ⟨_, rfl⟩
  subst e_4
  obtain ⟨h1, h2, h3⟩ := hI_4
  try dsimp only at hl h1 h2 h3
  refine lv_iload_n hx hb dX0_weightAhead_4 rfl (lv_at hl 0 rfl) ?_
  refine lv_bipush (v := 12) hx hb dX0_weightAhead_5 (by decide) ?_
  refine lv_icmp_ge (tgt := 30) hx hb dX0_weightAhead_7 (by decide) (fun c_1 => ?_) (fun c_1 => ?_)
  · refine lv_iload_n hx hb dX0_weightAhead_30 rfl (lv_at hl 1 rfl) ?_
    exact W.iret (v := xSm ch k) hx hb hr (fun t ht hW => ⟨_, rfl, (by have w := mt (nI_ltI (a := k) (b := 12) (by omega) (by omega)).mpr (Int32.not_lt.mpr c_1); exact congrArg (xSm ch) (show k = min 12 a1.toNatClampNeg by omega)), ht⟩) (fun _ h => absurd h List.not_mem_nil) dX0_weightAhead_31
  · refine lv_iload_n hx hb dX0_weightAhead_10 rfl (lv_at hl 0 rfl) ?_
    refine lv_iload_n hx hb dX0_weightAhead_11 rfl (lv_at hl 3 rfl) ?_
    refine lv_icmp_ge (tgt := 30) hx hb dX0_weightAhead_12 (by decide) (fun c_2 => ?_) (fun c_2 => ?_)
    · refine lv_iload_n hx hb dX0_weightAhead_30 rfl (lv_at hl 1 rfl) ?_
      exact W.iret (v := xSm ch k) hx hb hr (fun t ht hW => ⟨_, rfl, (by have w := (nI_ltI (a := k) (b := 12) (by omega) (by omega)).mp (Int32.not_le.mp c_1); have w2 := xcl_le (by omega) (Int32.not_lt.mpr c_2); exact congrArg (xSm ch) (show k = min 12 a1.toNatClampNeg by omega)), ht⟩) (fun _ h => absurd h List.not_mem_nil) dX0_weightAhead_31
    · refine lv_iload_n hx hb dX0_weightAhead_15 rfl (lv_at hl 1 rfl) ?_
      refine lv_aload_n hx hb dX0_weightAhead_16 rfl (lv_at hl 2 rfl) ?_
      refine va_get (D := D) (ci := 0) (v := .ref k0) (C := RX0) (T := TX0) (N := 4) hx hb hts hwX0 hown hK hP 0 rfl rfl 3 (by decide) (hts (.fieldLink RX0 9 "WaitOrWalkOn$Line" "chances" "[I") (by decide +kernel)) (fun _ h9 => h9) rfl dX0_weightAhead_17 ?_
      refine lv_iload_n hx hb dX0_weightAhead_20 rfl (lv_at hl 0 rfl) ?_
      refine va_iald (D := D) hx hb hK hP 1 0 rfl rfl (vp_in_nI (by have w := (nI_ltI (a := k) (b := 12) (by omega) (by omega)).mp (Int32.not_le.mp c_1); omega) (by decide)) dX0_weightAhead_21 ?_
      refine xv_int (y := ch k) (by rw [nI_clamp (by omega)]) ?_
      refine lv_iadd hx hb dX0_weightAhead_22 ?_
      refine xv_int (y := xSm ch (k + 1)) (rfl) ?_
      refine lv_istore_n (lv' := [(2, .int (xSm ch (k + 1))), (3, .int (nI k)), (0, .ref b0), (1, .int a1)]) hx hb dX0_weightAhead_23 rfl hl (by decide) rfl (fun ls hl => ?_)
      refine lv_iinc (v := nI (k + 1)) (lv' := [(3, .int (nI (k + 1))), (2, .int (xSm ch (k + 1))), (0, .ref b0), (1, .int a1)]) hx hb dX0_weightAhead_24 hl (k := 1) rfl (nI_1 k) (by decide) rfl (fun ls hl => ?_)
      refine lv_goto (tgt := 4) hx hb dX0_weightAhead_27 (by decide) ?_
      have w := (nI_ltI (a := k) (b := 12) (by omega) (by omega)).mp (Int32.not_le.mp c_1)
      have w2 := xcl_lt (a := a1) (k := k) (by omega) (Int32.not_le.mp c_2)
      exact ih_4 (k + 1) _ ⟨lv_sub hl [0, 1, 2, 3] rfl, by (try dsimp only); exact ⟨by omega, by omega, w2⟩⟩

set_option maxHeartbeats 4000000 in
set_option maxRecDepth 100000 in
theorem g_X0_total (l : Launch) (D : va_G) (cI cL cZ cC : ClassId) (b0 : Nat) (k0 : Nat) (ki : Int32) (ru : Int32) (ne : Int32) (ch : Nat → Int32)  : Met l yX0_total wsX0_total ({ frames := 1, cells := 0, slots := 0, locals := 23 } : Room) (xPc D [.ref b0] [(b0, .inr (0, [.int ki, .int ru, .int ne, .ref k0])), (k0, .inl (cI, 12, .inl ch))] (xTy cI cL cZ cC)) (vp_Si (fun r : Int32 => r = xSm ch 12 + ne)) 0 0 (fun _ => False) := by
  refine Met.ofW (cc := cX0_total) (maxL := 1) (ret := (some .int)) (by decide) rfl ?_
  intro p e s m args below meth c s₁ B hml hv
  obtain ⟨rfl, hP, hK⟩ := hv
  have hx := B.exec
  have hb := B.bytes
  have hr := B.returns
  have hts := atoms_spec (ws := wsX0_total) B.pre
  have hown : s.vm.findClass RX0 = some m.cls := findClass_of_methodNamed B.named
  have hlocks := B.notSynchronized
  have hwX0 : ∀ w ∈ u_ws RX0 TX0 4, w ∈ wsX0_total := fun _ h => List.mem_cons_of_mem _ (List.mem_append_right _ h)
  have hl := lv_entry ([.ref b0]) (n := 1) (Nat.le_of_ble_eq_true rfl)
  rw [lg_entry_eq]
  generalize (lg_sl ([.ref b0]) ++ List.replicate (1 - (lg_sl ([.ref b0])).length) Slot.unset).toArray = ls at hl ⊢
  have hl : lv_has ls 1 [(0, .ref b0)] := hl
  refine lv_aload_n hx hb dX0_total_0 rfl (lv_at hl 0 rfl) ?_
  refine lv_bipush (v := 12) hx hb dX0_total_1 (by decide) ?_
  have hPc := hP.sub (ws' := [(b0, .inr (0, [.int ki, .int ru, .int ne, .ref k0])), (k0, .inl (cI, 12, .inl ch))]) [0, 1] rfl
  refine vp_callSi (va_Run.run (va_runV (As := [.int 12]) (rest := []) ⟨hx, hb, hml, hown, hts⟩ (g_X0_weightAhead l D cI cL cZ cC b0 k0 ki ru ne ch 12 ) (cwV 1 hts gX0_total_X0_weightAhead rfl rfl rfl (by decide +kernel) ⟨Nat.le_of_ble_eq_true rfl, Nat.le_of_ble_eq_true rfl⟩) ⟨xPc_bl, va_recv hK hPc (ci := 0) (q0 := 0) rfl rfl, xPc_use hPc hK⟩ rfl rfl hl.1 rfl (lv_room (Nat.le_of_ble_eq_true rfl)) dX0_total_3 ⟨Nat.le_of_ble_eq_true rfl, Nat.le_of_ble_eq_true rfl⟩)) (fun r_1 er_1 => ?_)
  obtain rfl : (xWa ch (12 : Int32) : Int32) = r_1 := Eq.symm er_1
  refine xv_int (y := xSm ch 12) (congrArg (xSm ch) (by decide +kernel)) ?_
  refine lv_aload_n hx hb dX0_total_6 rfl (lv_at hl 0 rfl) ?_
  refine va_get (D := D) (ci := 0) (v := .int ne) (C := RX0) (T := TX0) (N := 4) hx hb hts hwX0 hown hK hP 0 rfl rfl 2 (by decide) (hts (.fieldLink RX0 22 "WaitOrWalkOn$Line" "never" "I") (by decide +kernel)) (fun _ h9 => h9) rfl dX0_total_7 ?_
  refine lv_iadd hx hb dX0_total_10 ?_
  exact W.iret (v := (xSm ch 12) + ne) hx hb hr (fun t ht hW => ⟨_, rfl, rfl, ht⟩) (fun _ h => absurd h List.not_mem_nil) dX0_total_11

set_option maxHeartbeats 4000000 in
set_option maxRecDepth 100000 in
theorem g_X0_drawn (l : Launch) (D : va_G) (cI cL cZ cC : ClassId) (b0 : Nat) (k0 : Nat) (ki : Int32) (ru : Int32) (ne : Int32) (ch : Nat → Int32) (a1 : Int32)  : Met l yX0_drawn wsX0_drawn ({ frames := 0, cells := 0, slots := 0, locals := 0 } : Room) (xPc D [.ref b0, .int a1] [(b0, .inr (0, [.int ki, .int ru, .int ne, .ref k0])), (k0, .inl (cI, 12, .inl ch))] (xTy cI cL cZ cC)) (vp_Si (fun r : Int32 => r = nI (xDr ch a1))) 0 0 (fun _ => False) := by
  refine Met.ofW (cc := cX0_drawn) (maxL := 4) (ret := (some .int)) (by decide) rfl ?_
  intro p e s m args below meth c s₁ B hml hv
  obtain ⟨rfl, hP, hK⟩ := hv
  have hx := B.exec
  have hb := B.bytes
  have hr := B.returns
  have hts := atoms_spec (ws := wsX0_drawn) B.pre
  have hown : s.vm.findClass RX0 = some m.cls := findClass_of_methodNamed B.named
  have hlocks := B.notSynchronized
  have hwX0 : ∀ w ∈ u_ws RX0 TX0 4, w ∈ wsX0_drawn := fun _ h => List.mem_cons_of_mem _ (List.mem_append_right _ h)
  have hl := lv_entry ([.ref b0, .int a1]) (n := 4) (Nat.le_of_ble_eq_true rfl)
  rw [lg_entry_eq]
  generalize (lg_sl ([.ref b0, .int a1]) ++ List.replicate (4 - (lg_sl ([.ref b0, .int a1])).length) Slot.unset).toArray = ls at hl ⊢
  have hl : lv_has ls 4 [(0, .ref b0), (1, .int a1)] := hl
  refine lv_iconst (v := 0) hx hb dX0_drawn_0 (by decide) ?_
  refine lv_istore_n (lv' := [(2, .int 0), (0, .ref b0), (1, .int a1)]) hx hb dX0_drawn_1 rfl hl (by decide) rfl (fun ls hl => ?_)
  refine lv_iconst (v := 0) hx hb dX0_drawn_2 (by decide) ?_
  refine lv_istore_n (lv' := [(3, .int 0), (2, .int 0), (0, .ref b0), (1, .int a1)]) hx hb dX0_drawn_3 rfl hl (by decide) rfl (fun ls hl => ?_)
  refine xl_loop (σ := Nat) (fun n q ls => lv_has ls 4 [(3, .int (nI q)), (2, .int (xSm ch q)), (0, .ref b0), (1, .int a1)] ∧ (12 - q < n) ∧ (q ≤ 12) ∧ (∀ i, i < q → ¬ a1 < xSm ch (i + 1))) (13) (0) ⟨lv_sub hl [0, 1, 2, 3] rfl, by (try dsimp only); exact ⟨by omega, by omega, fun i hi => absurd hi (Nat.not_lt_zero i)⟩⟩ (fun q ls h => absurd h.2.1 (Nat.not_lt_zero _)) ?_
  intro n_4 q_4 ls ih_4 hI_4
  obtain ⟨hl, hI_4⟩ := hI_4
  obtain ⟨k, e_4⟩ : ∃ z, z = q_4 := ⟨_, rfl⟩
  subst e_4
  obtain ⟨h1, h2, h3⟩ := hI_4
  try dsimp only at hl h1 h2 h3
  refine lv_iload_n hx hb dX0_drawn_4 rfl (lv_at hl 0 rfl) ?_
  refine lv_bipush (v := 12) hx hb dX0_drawn_5 (by decide) ?_
  refine lv_icmp_ge (tgt := 32) hx hb dX0_drawn_7 (by decide) (fun c_1 => ?_) (fun c_1 => ?_)
  · refine lv_bipush (v := 12) hx hb dX0_drawn_32 (by decide) ?_
    exact W.iret (v := 12) hx hb hr (fun t ht hW => ⟨_, rfl, (by have w := mt (nI_ltI (a := k) (b := 12) (by omega) (by omega)).mpr (Int32.not_lt.mpr c_1); exact congrArg nI (xFst_none 12 (fun i hi => decide_eq_false (h3 i (by omega)))).symm), ht⟩) (fun _ h => absurd h List.not_mem_nil) dX0_drawn_34
  · refine lv_iload_n hx hb dX0_drawn_10 rfl (lv_at hl 1 rfl) ?_
    refine lv_aload_n hx hb dX0_drawn_11 rfl (lv_at hl 2 rfl) ?_
    refine va_get (D := D) (ci := 0) (v := .ref k0) (C := RX0) (T := TX0) (N := 4) hx hb hts hwX0 hown hK hP 0 rfl rfl 3 (by decide) (hts (.fieldLink RX0 9 "WaitOrWalkOn$Line" "chances" "[I") (by decide +kernel)) (fun _ h9 => h9) rfl dX0_drawn_12 ?_
    refine lv_iload_n hx hb dX0_drawn_15 rfl (lv_at hl 0 rfl) ?_
    refine va_iald (D := D) hx hb hK hP 1 0 rfl rfl (vp_in_nI (by have w := (nI_ltI (a := k) (b := 12) (by omega) (by omega)).mp (Int32.not_le.mp c_1); omega) (by decide)) dX0_drawn_16 ?_
    refine xv_int (y := ch k) (by rw [nI_clamp (by omega)]) ?_
    refine lv_iadd hx hb dX0_drawn_17 ?_
    refine xv_int (y := xSm ch (k + 1)) (rfl) ?_
    refine lv_istore_n (lv' := [(2, .int (xSm ch (k + 1))), (3, .int (nI k)), (0, .ref b0), (1, .int a1)]) hx hb dX0_drawn_18 rfl hl (by decide) rfl (fun ls hl => ?_)
    refine lv_iload_n hx hb dX0_drawn_19 rfl (lv_at hl 3 rfl) ?_
    refine lv_iload_n hx hb dX0_drawn_20 rfl (lv_at hl 0 rfl) ?_
    refine lv_icmp_ge (tgt := 26) hx hb dX0_drawn_21 (by decide) (fun c_2 => ?_) (fun c_2 => ?_)
    · refine lv_iinc (v := nI (k + 1)) (lv' := [(3, .int (nI (k + 1))), (2, .int (xSm ch (k + 1))), (0, .ref b0), (1, .int a1)]) hx hb dX0_drawn_26 hl (k := 1) rfl (nI_1 k) (by decide) rfl (fun ls hl => ?_)
      refine lv_goto (tgt := 4) hx hb dX0_drawn_29 (by decide) ?_
      have w := (nI_ltI (a := k) (b := 12) (by omega) (by omega)).mp (Int32.not_le.mp c_1)
      exact ih_4 (k + 1) _ ⟨lv_sub hl [0, 1, 2, 3] rfl, by (try dsimp only); exact ⟨by omega, by omega, fun i hi => by rcases Nat.lt_or_ge i k with q | q; exact h3 i q; (obtain rfl : i = k := by omega); exact (Int32.not_lt.mpr c_2)⟩⟩
    · refine lv_iload_n hx hb dX0_drawn_24 rfl (lv_at hl 1 rfl) ?_
      exact W.iret (v := nI k) hx hb hr (fun t ht hW => ⟨_, rfl, (by have w := (nI_ltI (a := k) (b := 12) (by omega) (by omega)).mp (Int32.not_le.mp c_1); exact congrArg nI (xFst_at (decide_eq_true (Int32.not_le.mp c_2)) (fun i hi => decide_eq_false (h3 i hi)) 12 (by omega)).symm), ht⟩) (fun _ h => absurd h List.not_mem_nil) dX0_drawn_25

set_option maxHeartbeats 4000000 in
set_option maxRecDepth 100000 in
theorem g_X0_rideTo (l : Launch) (D : va_G) (cI cL cZ cC : ClassId) (b0 : Nat) (k0 : Nat) (ki : Int32) (ru : Int32) (ne : Int32) (ch : Nat → Int32) (a1 : Int32)  : Met l yX0_rideTo wsX0_rideTo ({ frames := 0, cells := 0, slots := 0, locals := 0 } : Room) (xPc D [.ref b0, .int a1] [(b0, .inr (0, [.int ki, .int ru, .int ne, .ref k0])), (k0, .inl (cI, 12, .inl ch))] (xTy cI cL cZ cC)) (vp_Si (fun r : Int32 => r = sRide ki ru a1)) 0 0 (fun _ => False) := by
  refine Met.ofW (cc := cX0_rideTo) (maxL := 2) (ret := (some .int)) (by decide) rfl ?_
  intro p e s m args below meth c s₁ B hml hv
  obtain ⟨rfl, hP, hK⟩ := hv
  have hx := B.exec
  have hb := B.bytes
  have hr := B.returns
  have hts := atoms_spec (ws := wsX0_rideTo) B.pre
  have hown : s.vm.findClass RX0 = some m.cls := findClass_of_methodNamed B.named
  have hlocks := B.notSynchronized
  have hwX0 : ∀ w ∈ u_ws RX0 TX0 4, w ∈ wsX0_rideTo := fun _ h => List.mem_cons_of_mem _ (List.mem_append_right _ h)
  have hl := lv_entry ([.ref b0, .int a1]) (n := 2) (Nat.le_of_ble_eq_true rfl)
  rw [lg_entry_eq]
  generalize (lg_sl ([.ref b0, .int a1]) ++ List.replicate (2 - (lg_sl ([.ref b0, .int a1])).length) Slot.unset).toArray = ls at hl ⊢
  have hl : lv_has ls 2 [(0, .ref b0), (1, .int a1)] := hl
  refine lv_iload_n hx hb dX0_rideTo_0 rfl (lv_at hl 1 rfl) ?_
  refine lv_if_gt (tgt := 6) hx hb dX0_rideTo_1 (by decide) (fun c_1 => ?_) (fun c_1 => ?_)
  · refine lv_aload_n hx hb dX0_rideTo_6 rfl (lv_at hl 0 rfl) ?_
    refine va_get (D := D) (ci := 0) (v := .int ki) (C := RX0) (T := TX0) (N := 4) hx hb hts hwX0 hown hK hP 0 rfl rfl 0 (by decide) (hts (.fieldLink RX0 15 "WaitOrWalkOn$Line" "kind" "I") (by decide +kernel)) (fun _ h9 => h9) rfl dX0_rideTo_7 ?_
    by_cases c_2 : ki = 1
    · refine lv_tableIn (off := 30) (tgt := 40) hx hb dX0_rideTo_10 (by rw [c_2]; decide +kernel) (by rw [c_2]; decide +kernel) (by rw [c_2]; decide +kernel) (by decide) ?_
      refine lv_iload_n hx hb dX0_rideTo_40 rfl (lv_at hl 1 rfl) ?_
      refine lv_aload_n hx hb dX0_rideTo_41 rfl (lv_at hl 0 rfl) ?_
      refine va_get (D := D) (ci := 0) (v := .int ru) (C := RX0) (T := TX0) (N := 4) hx hb hts hwX0 hown hK hP 0 rfl rfl 1 (by decide) (hts (.fieldLink RX0 19 "WaitOrWalkOn$Line" "run" "I") (by decide +kernel)) (fun _ h9 => h9) rfl dX0_rideTo_42 ?_
      refine lv_iconst (v := 1) hx hb dX0_rideTo_45 (by decide) ?_
      refine lv_iadd hx hb dX0_rideTo_46 ?_
      refine lv_imul hx hb dX0_rideTo_47 ?_
      exact W.iret (v := a1 * (ru + 1)) hx hb hr (fun t ht hW => ⟨_, rfl, by simp [sRide, c_1, c_2], ht⟩) (fun _ h => absurd h List.not_mem_nil) dX0_rideTo_48
    by_cases c_3 : ki = 2
    · refine lv_tableIn (off := 61) (tgt := 71) hx hb dX0_rideTo_10 (by rw [c_3]; decide +kernel) (by rw [c_3]; decide +kernel) (by rw [c_3]; decide +kernel) (by decide) ?_
      refine lv_iload_n hx hb dX0_rideTo_71 rfl (lv_at hl 1 rfl) ?_
      refine lv_aload_n hx hb dX0_rideTo_72 rfl (lv_at hl 0 rfl) ?_
      refine va_get (D := D) (ci := 0) (v := .int ru) (C := RX0) (T := TX0) (N := 4) hx hb hts hwX0 hown hK hP 0 rfl rfl 1 (by decide) (hts (.fieldLink RX0 19 "WaitOrWalkOn$Line" "run" "I") (by decide +kernel)) (fun _ h9 => h9) rfl dX0_rideTo_73 ?_
      refine lv_imul hx hb dX0_rideTo_76 ?_
      exact W.iret (v := a1 * ru) hx hb hr (fun t ht hW => ⟨_, rfl, by simp [sRide, c_1, c_2, c_3], ht⟩) (fun _ h => absurd h List.not_mem_nil) dX0_rideTo_77
    by_cases c_4 : ki = 3
    · refine lv_tableIn (off := 39) (tgt := 49) hx hb dX0_rideTo_10 (by rw [c_4]; decide +kernel) (by rw [c_4]; decide +kernel) (by rw [c_4]; decide +kernel) (by decide) ?_
      refine lv_iload_n hx hb dX0_rideTo_49 rfl (lv_at hl 1 rfl) ?_
      refine lv_aload_n hx hb dX0_rideTo_50 rfl (lv_at hl 0 rfl) ?_
      refine va_get (D := D) (ci := 0) (v := .int ru) (C := RX0) (T := TX0) (N := 4) hx hb hts hwX0 hown hK hP 0 rfl rfl 1 (by decide) (hts (.fieldLink RX0 19 "WaitOrWalkOn$Line" "run" "I") (by decide +kernel)) (fun _ h9 => h9) rfl dX0_rideTo_51 ?_
      refine lv_iconst (v := 1) hx hb dX0_rideTo_54 (by decide) ?_
      refine lv_iadd hx hb dX0_rideTo_55 ?_
      refine lv_imul hx hb dX0_rideTo_56 ?_
      refine lv_iconst (v := 5) hx hb dX0_rideTo_57 (by decide) ?_
      refine lv_iadd hx hb dX0_rideTo_58 ?_
      exact W.iret (v := (a1 * (ru + 1)) + 5) hx hb hr (fun t ht hW => ⟨_, rfl, by simp [sRide, c_1, c_2, c_3, c_4], ht⟩) (fun _ h => absurd h List.not_mem_nil) dX0_rideTo_59
    by_cases c_5 : ki = 4
    · refine lv_tableIn (off := 50) (tgt := 60) hx hb dX0_rideTo_10 (by rw [c_5]; decide +kernel) (by rw [c_5]; decide +kernel) (by rw [c_5]; decide +kernel) (by decide) ?_
      refine lv_iload_n hx hb dX0_rideTo_60 rfl (lv_at hl 1 rfl) ?_
      refine lv_aload_n hx hb dX0_rideTo_61 rfl (lv_at hl 0 rfl) ?_
      refine va_get (D := D) (ci := 0) (v := .int ru) (C := RX0) (T := TX0) (N := 4) hx hb hts hwX0 hown hK hP 0 rfl rfl 1 (by decide) (hts (.fieldLink RX0 19 "WaitOrWalkOn$Line" "run" "I") (by decide +kernel)) (fun _ h9 => h9) rfl dX0_rideTo_62 ?_
      refine lv_iconst (v := 1) hx hb dX0_rideTo_65 (by decide) ?_
      refine lv_iadd hx hb dX0_rideTo_66 ?_
      refine lv_iconst (v := 2) hx hb dX0_rideTo_67 (by decide) ?_
      refine lv_idiv hx hb dX0_rideTo_68 ((by decide)) ?_
      refine lv_imul hx hb dX0_rideTo_69 ?_
      exact W.iret (v := a1 * ((ru + 1) / 2)) hx hb hr (fun t ht hW => ⟨_, rfl, by simp [sRide, c_1, c_2, c_3, c_4, c_5], ht⟩) (fun _ h => absurd h List.not_mem_nil) dX0_rideTo_70
    refine lv_tableOut (tgt := 71) hx hb dX0_rideTo_10 (by have q_2 : ¬ (ki).toInt = 1 := mt (xi_eq (ki) 1).mpr c_2; have q_3 : ¬ (ki).toInt = 2 := mt (xi_eq (ki) 2).mpr c_3; have q_4 : ¬ (ki).toInt = 3 := mt (xi_eq (ki) 3).mpr c_4; have q_5 : ¬ (ki).toInt = 4 := mt (xi_eq (ki) 4).mpr c_5; omega) (by decide) ?_
    refine lv_iload_n hx hb dX0_rideTo_71 rfl (lv_at hl 1 rfl) ?_
    refine lv_aload_n hx hb dX0_rideTo_72 rfl (lv_at hl 0 rfl) ?_
    refine va_get (D := D) (ci := 0) (v := .int ru) (C := RX0) (T := TX0) (N := 4) hx hb hts hwX0 hown hK hP 0 rfl rfl 1 (by decide) (hts (.fieldLink RX0 19 "WaitOrWalkOn$Line" "run" "I") (by decide +kernel)) (fun _ h9 => h9) rfl dX0_rideTo_73 ?_
    refine lv_imul hx hb dX0_rideTo_76 ?_
    exact W.iret (v := a1 * ru) hx hb hr (fun t ht hW => ⟨_, rfl, by simp [sRide, c_1, c_2, c_3, c_4, c_5], ht⟩) (fun _ h => absurd h List.not_mem_nil) dX0_rideTo_77
  · refine lv_iconst (v := 0) hx hb dX0_rideTo_4 (by decide) ?_
    exact W.iret (v := 0) hx hb hr (fun t ht hW => ⟨_, rfl, by simp [sRide, c_1], ht⟩) (fun _ h => absurd h List.not_mem_nil) dX0_rideTo_5

set_option maxHeartbeats 4000000 in
set_option maxRecDepth 100000 in
theorem g_X0_halts (l : Launch) (D : va_G) (cI cL cZ cC : ClassId) (b0 : Nat) (k0 : Nat) (ki : Int32) (ru : Int32) (ne : Int32) (ch : Nat → Int32) (a1 : Int32) (a2 : Int32)  : Met l yX0_halts wsX0_halts ({ frames := 0, cells := 0, slots := 0, locals := 0 } : Room) (xPc D [.ref b0, .int a1, .int a2] [(b0, .inr (0, [.int ki, .int ru, .int ne, .ref k0])), (k0, .inl (cI, 12, .inl ch))] (xTy cI cL cZ cC)) (vp_Si (fun r : Int32 => r = sHalt ki a1 a2)) 0 0 (fun _ => False) := by
  refine Met.ofW (cc := cX0_halts) (maxL := 4) (ret := (some .boolean)) (by decide) rfl ?_
  intro p e s m args below meth c s₁ B hml hv
  obtain ⟨rfl, hP, hK⟩ := hv
  have hx := B.exec
  have hb := B.bytes
  have hr := B.returns
  have hts := atoms_spec (ws := wsX0_halts) B.pre
  have hown : s.vm.findClass RX0 = some m.cls := findClass_of_methodNamed B.named
  have hlocks := B.notSynchronized
  have hwX0 : ∀ w ∈ u_ws RX0 TX0 4, w ∈ wsX0_halts := fun _ h => List.mem_cons_of_mem _ (List.mem_append_right _ h)
  have hl := lv_entry ([.ref b0, .int a1, .int a2]) (n := 4) (Nat.le_of_ble_eq_true rfl)
  rw [lg_entry_eq]
  generalize (lg_sl ([.ref b0, .int a1, .int a2]) ++ List.replicate (4 - (lg_sl ([.ref b0, .int a1, .int a2])).length) Slot.unset).toArray = ls at hl ⊢
  have hl : lv_has ls 4 [(0, .ref b0), (1, .int a1), (2, .int a2)] := hl
  refine lv_aload_n hx hb dX0_halts_0 rfl (lv_at hl 0 rfl) ?_
  refine va_get (D := D) (ci := 0) (v := .int ki) (C := RX0) (T := TX0) (N := 4) hx hb hts hwX0 hown hK hP 0 rfl rfl 0 (by decide) (hts (.fieldLink RX0 15 "WaitOrWalkOn$Line" "kind" "I") (by decide +kernel)) (fun _ h9 => h9) rfl dX0_halts_1 ?_
  refine lv_iconst (v := 2) hx hb dX0_halts_4 (by decide) ?_
  refine lv_icmp_eq (tgt := 16) hx hb dX0_halts_5 (by decide) (fun c_1 => ?_) (fun c_1 => ?_)
  · refine lv_iconst (v := 1) hx hb dX0_halts_16 (by decide) ?_
    refine lv_goto (tgt := 21) hx hb dX0_halts_17 (by decide) ?_
    refine lv_istore_n (lv' := [(3, .int 1), (0, .ref b0), (1, .int a1), (2, .int a2)]) hx hb dX0_halts_21 rfl hl (by decide) rfl (fun ls hl => ?_)
    refine lv_iload_n hx hb dX0_halts_22 rfl (lv_at hl 0 rfl) ?_
    refine lv_if_eq (tgt := 37) hx hb dX0_halts_23 (by decide) (fun c_2 => absurd c_2 (by decide +kernel)) (fun c_2 => ?_)
    refine lv_iload_n hx hb dX0_halts_26 rfl (lv_at hl 2 rfl) ?_
    refine lv_iload_n hx hb dX0_halts_27 rfl (lv_at hl 3 rfl) ?_
    refine lv_icmp_eq (tgt := 37) hx hb dX0_halts_28 (by decide) (fun c_3 => ?_) (fun c_3 => ?_)
    · refine lv_iconst (v := 1) hx hb dX0_halts_37 (by decide) ?_
      refine lv_goto (tgt := 42) hx hb dX0_halts_38 (by decide) ?_
      exact W.zret (v := 1) (ty := .boolean) hx hb hr (by decide +kernel) (fun t ht hW => ⟨_, rfl, by simp [sHalt, c_1, c_2, c_3], ht⟩) (fun _ h => absurd h List.not_mem_nil) dX0_halts_42
    · refine lv_iload_n hx hb dX0_halts_31 rfl (lv_at hl 2 rfl) ?_
      refine lv_iconst (v := 2) hx hb dX0_halts_32 (by decide) ?_
      refine lv_irem hx hb dX0_halts_33 ((by decide)) ?_
      refine lv_if_ne (tgt := 41) hx hb dX0_halts_34 (by decide) (fun c_4 => ?_) (fun c_4 => ?_)
      · refine lv_iconst (v := 0) hx hb dX0_halts_41 (by decide) ?_
        exact W.zret (v := 0) (ty := .boolean) hx hb hr (by decide +kernel) (fun t ht hW => ⟨_, rfl, by simp [sHalt, c_1, c_2, c_3, c_4], ht⟩) (fun _ h => absurd h List.not_mem_nil) dX0_halts_42
      · refine lv_iconst (v := 1) hx hb dX0_halts_37 (by decide) ?_
        refine lv_goto (tgt := 42) hx hb dX0_halts_38 (by decide) ?_
        exact W.zret (v := 1) (ty := .boolean) hx hb hr (by decide +kernel) (fun t ht hW => ⟨_, rfl, by simp [sHalt, c_1, c_2, c_3, c_4], ht⟩) (fun _ h => absurd h List.not_mem_nil) dX0_halts_42
  · refine lv_aload_n hx hb dX0_halts_8 rfl (lv_at hl 0 rfl) ?_
    refine va_get (D := D) (ci := 0) (v := .int ki) (C := RX0) (T := TX0) (N := 4) hx hb hts hwX0 hown hK hP 0 rfl rfl 0 (by decide) (hts (.fieldLink RX0 15 "WaitOrWalkOn$Line" "kind" "I") (by decide +kernel)) (fun _ h9 => h9) rfl dX0_halts_9 ?_
    refine lv_iconst (v := 4) hx hb dX0_halts_12 (by decide) ?_
    refine lv_icmp_ne (tgt := 20) hx hb dX0_halts_13 (by decide) (fun c_5 => ?_) (fun c_5 => ?_)
    · refine lv_iconst (v := 0) hx hb dX0_halts_20 (by decide) ?_
      refine lv_istore_n (lv' := [(3, .int 0), (0, .ref b0), (1, .int a1), (2, .int a2)]) hx hb dX0_halts_21 rfl hl (by decide) rfl (fun ls hl => ?_)
      refine lv_iload_n hx hb dX0_halts_22 rfl (lv_at hl 0 rfl) ?_
      refine lv_if_eq (tgt := 37) hx hb dX0_halts_23 (by decide) (fun c_6 => ?_) (fun c_6 => absurd c_6 (by decide +kernel))
      refine lv_iconst (v := 1) hx hb dX0_halts_37 (by decide) ?_
      refine lv_goto (tgt := 42) hx hb dX0_halts_38 (by decide) ?_
      exact W.zret (v := 1) (ty := .boolean) hx hb hr (by decide +kernel) (fun t ht hW => ⟨_, rfl, by simp [sHalt, c_1, c_5, c_6], ht⟩) (fun _ h => absurd h List.not_mem_nil) dX0_halts_42
    · refine lv_iconst (v := 1) hx hb dX0_halts_16 (by decide) ?_
      refine lv_goto (tgt := 21) hx hb dX0_halts_17 (by decide) ?_
      refine lv_istore_n (lv' := [(3, .int 1), (0, .ref b0), (1, .int a1), (2, .int a2)]) hx hb dX0_halts_21 rfl hl (by decide) rfl (fun ls hl => ?_)
      refine lv_iload_n hx hb dX0_halts_22 rfl (lv_at hl 0 rfl) ?_
      refine lv_if_eq (tgt := 37) hx hb dX0_halts_23 (by decide) (fun c_7 => absurd c_7 (by decide +kernel)) (fun c_7 => ?_)
      refine lv_iload_n hx hb dX0_halts_26 rfl (lv_at hl 2 rfl) ?_
      refine lv_iload_n hx hb dX0_halts_27 rfl (lv_at hl 3 rfl) ?_
      refine lv_icmp_eq (tgt := 37) hx hb dX0_halts_28 (by decide) (fun c_8 => ?_) (fun c_8 => ?_)
      · refine lv_iconst (v := 1) hx hb dX0_halts_37 (by decide) ?_
        refine lv_goto (tgt := 42) hx hb dX0_halts_38 (by decide) ?_
        exact W.zret (v := 1) (ty := .boolean) hx hb hr (by decide +kernel) (fun t ht hW => ⟨_, rfl, by simp [sHalt, c_1, c_5, c_7, c_8], ht⟩) (fun _ h => absurd h List.not_mem_nil) dX0_halts_42
      · refine lv_iload_n hx hb dX0_halts_31 rfl (lv_at hl 2 rfl) ?_
        refine lv_iconst (v := 2) hx hb dX0_halts_32 (by decide) ?_
        refine lv_irem hx hb dX0_halts_33 ((by decide)) ?_
        refine lv_if_ne (tgt := 41) hx hb dX0_halts_34 (by decide) (fun c_9 => ?_) (fun c_9 => ?_)
        · refine lv_iconst (v := 0) hx hb dX0_halts_41 (by decide) ?_
          exact W.zret (v := 0) (ty := .boolean) hx hb hr (by decide +kernel) (fun t ht hW => ⟨_, rfl, by simp [sHalt, c_1, c_5, c_7, c_8, c_9], ht⟩) (fun _ h => absurd h List.not_mem_nil) dX0_halts_42
        · refine lv_iconst (v := 1) hx hb dX0_halts_37 (by decide) ?_
          refine lv_goto (tgt := 42) hx hb dX0_halts_38 (by decide) ?_
          exact W.zret (v := 1) (ty := .boolean) hx hb hr (by decide +kernel) (fun t ht hW => ⟨_, rfl, by simp [sHalt, c_1, c_5, c_7, c_8, c_9], ht⟩) (fun _ h => absurd h List.not_mem_nil) dX0_halts_42

set_option maxHeartbeats 4000000 in
set_option maxRecDepth 100000 in
theorem g_X2_last (l : Launch) (D : va_G) (cI cL cZ cC : ClassId) (rd : Nat) (r0 : Nat) (r1 : Nat) (st : Nat) (ho : Int32) (pa : Int32) (si : Int32) (li : Int32) (lc : Int32) (lg : Nat → Int32) (hs1 : 1 ≤ st) (hs7 : st ≤ 7) : Met l yX2_last wsX2_last ({ frames := 0, cells := 0, slots := 0, locals := 0 } : Room) (xPc D [.ref rd] [(rd, .inr (2, [.int (nI st), .int ho, .int pa, .int si, .int li, .int lc, .ref r0, .ref r1])), (r0, .inl (cI, 7, .inl lg))] (xTy cI cL cZ cC)) (vp_Si (fun r : Int32 => r = nI (st - 1))) 0 0 (fun _ => False) := by
  refine Met.ofW (cc := cX2_last) (maxL := 1) (ret := (some .int)) (by decide) rfl ?_
  intro p e s m args below meth c s₁ B hml hv
  obtain ⟨rfl, hP, hK⟩ := hv
  have hx := B.exec
  have hb := B.bytes
  have hr := B.returns
  have hts := atoms_spec (ws := wsX2_last) B.pre
  have hown : s.vm.findClass RX2 = some m.cls := findClass_of_methodNamed B.named
  have hlocks := B.notSynchronized
  have hwX2 : ∀ w ∈ u_ws RX2 TX2 8, w ∈ wsX2_last := fun _ h => List.mem_cons_of_mem _ (List.mem_append_right _ h)
  have hl := lv_entry ([.ref rd]) (n := 1) (Nat.le_of_ble_eq_true rfl)
  rw [lg_entry_eq]
  generalize (lg_sl ([.ref rd]) ++ List.replicate (1 - (lg_sl ([.ref rd])).length) Slot.unset).toArray = ls at hl ⊢
  have hl : lv_has ls 1 [(0, .ref rd)] := hl
  refine lv_aload_n hx hb dX2_last_0 rfl (lv_at hl 0 rfl) ?_
  refine va_get (D := D) (ci := 2) (v := .int (nI st)) (C := RX2) (T := TX2) (N := 8) hx hb hts hwX2 hown hK hP 0 rfl rfl 0 (by decide) (hts (.fieldLink RX2 9 "WaitOrWalkOn$Road" "stops" "I") (by decide +kernel)) (fun _ h9 => h9) rfl dX2_last_1 ?_
  refine lv_iconst (v := 1) hx hb dX2_last_4 (by decide) ?_
  refine lv_isub hx hb dX2_last_5 ?_
  refine xv_int (y := nI (st - 1)) (pk_sub hs1) ?_
  exact W.iret (v := nI (st - 1)) hx hb hr (fun t ht hW => ⟨_, rfl, rfl, ht⟩) (fun _ h => absurd h List.not_mem_nil) dX2_last_6

set_option maxHeartbeats 4000000 in
set_option maxRecDepth 100000 in
theorem g_X2_yardsFrom (l : Launch) (D : va_G) (cI cL cZ cC : ClassId) (rd : Nat) (r0 : Nat) (r1 : Nat) (st : Nat) (ho : Int32) (pa : Int32) (si : Int32) (li : Int32) (lc : Int32) (lg : Nat → Int32) (j0 : Nat) (hs1 : 1 ≤ st) (hs7 : st ≤ 7) (hj : j0 ≤ 6) : Met l yX2_yardsFrom wsX2_yardsFrom ({ frames := 0, cells := 0, slots := 0, locals := 0 } : Room) (xPc D [.ref rd, .int (nI j0)] [(rd, .inr (2, [.int (nI st), .int ho, .int pa, .int si, .int li, .int lc, .ref r0, .ref r1])), (r0, .inl (cI, 7, .inl lg))] (xTy cI cL cZ cC)) (vp_Si (fun r : Int32 => r = xYd st ho lg j0)) 0 0 (fun _ => False) := by
  refine Met.ofW (cc := cX2_yardsFrom) (maxL := 2) (ret := (some .int)) (by decide) rfl ?_
  intro p e s m args below meth c s₁ B hml hv
  obtain ⟨rfl, hP, hK⟩ := hv
  have hx := B.exec
  have hb := B.bytes
  have hr := B.returns
  have hts := atoms_spec (ws := wsX2_yardsFrom) B.pre
  have hown : s.vm.findClass RX2 = some m.cls := findClass_of_methodNamed B.named
  have hlocks := B.notSynchronized
  have hwX2 : ∀ w ∈ u_ws RX2 TX2 8, w ∈ wsX2_yardsFrom := fun _ h => List.mem_cons_of_mem _ (List.mem_append_right _ h)
  have hl := lv_entry ([.ref rd, .int (nI j0)]) (n := 2) (Nat.le_of_ble_eq_true rfl)
  rw [lg_entry_eq]
  generalize (lg_sl ([.ref rd, .int (nI j0)]) ++ List.replicate (2 - (lg_sl ([.ref rd, .int (nI j0)])).length) Slot.unset).toArray = ls at hl ⊢
  have hl : lv_has ls 2 [(0, .ref rd), (1, .int (nI j0))] := hl
  refine lv_iload_n hx hb dX2_yardsFrom_0 rfl (lv_at hl 1 rfl) ?_
  refine lv_if_lt (tgt := 25) hx hb dX2_yardsFrom_1 (by decide) (fun c_1 => absurd c_1 (nI_pos (by omega))) (fun c_1 => ?_)
  refine lv_iload_n hx hb dX2_yardsFrom_4 rfl (lv_at hl 1 rfl) ?_
  refine lv_aload_n hx hb dX2_yardsFrom_5 rfl (lv_at hl 0 rfl) ?_
  refine va_get (D := D) (ci := 2) (v := .int (nI st)) (C := RX2) (T := TX2) (N := 8) hx hb hts hwX2 hown hK hP 0 rfl rfl 0 (by decide) (hts (.fieldLink RX2 9 "WaitOrWalkOn$Road" "stops" "I") (by decide +kernel)) (fun _ h9 => h9) rfl dX2_yardsFrom_6 ?_
  refine lv_iconst (v := 1) hx hb dX2_yardsFrom_9 (by decide) ?_
  refine lv_isub hx hb dX2_yardsFrom_10 ?_
  refine xv_int (y := nI (st - 1)) (pk_sub hs1) ?_
  refine lv_icmp_ge (tgt := 25) hx hb dX2_yardsFrom_11 (by decide) (fun c_2 => ?_) (fun c_2 => ?_)
  · refine lv_aload_n hx hb dX2_yardsFrom_25 rfl (lv_at hl 0 rfl) ?_
    refine va_get (D := D) (ci := 2) (v := .int ho) (C := RX2) (T := TX2) (N := 8) hx hb hts hwX2 hown hK hP 0 rfl rfl 1 (by decide) (hts (.fieldLink RX2 15 "WaitOrWalkOn$Road" "home" "I") (by decide +kernel)) (fun _ h9 => h9) rfl dX2_yardsFrom_26 ?_
    exact W.iret (v := ho) hx hb hr (fun t ht hW => ⟨_, rfl, (by have w := mt (nI_ltI (a := j0) (b := st - 1) (by omega) (by omega)).mpr (Int32.not_lt.mpr c_2); exact (if_neg (by omega)).symm), ht⟩) (fun _ h => absurd h List.not_mem_nil) dX2_yardsFrom_29
  · refine lv_aload_n hx hb dX2_yardsFrom_14 rfl (lv_at hl 0 rfl) ?_
    refine va_get (D := D) (ci := 2) (v := .ref r0) (C := RX2) (T := TX2) (N := 8) hx hb hts hwX2 hown hK hP 0 rfl rfl 6 (by decide) (hts (.fieldLink RX2 30 "WaitOrWalkOn$Road" "legs" "[I") (by decide +kernel)) (fun _ h9 => h9) rfl dX2_yardsFrom_15 ?_
    refine lv_iload_n hx hb dX2_yardsFrom_18 rfl (lv_at hl 1 rfl) ?_
    refine lv_iconst (v := 1) hx hb dX2_yardsFrom_19 (by decide) ?_
    refine lv_iadd hx hb dX2_yardsFrom_20 ?_
    refine xv_int (y := nI (j0 + 1)) (nI_1 j0) ?_
    refine va_iald (D := D) hx hb hK hP 1 0 rfl rfl (vp_in_nI (by have w := (nI_ltI (a := j0) (b := st - 1) (by omega) (by omega)).mp (Int32.not_le.mp c_2); omega) (by decide)) dX2_yardsFrom_21 ?_
    refine xv_int (y := lg (j0 + 1)) (by rw [nI_clamp (by omega)]) ?_
    refine lv_goto (tgt := 29) hx hb dX2_yardsFrom_22 (by decide) ?_
    exact W.iret (v := lg (j0 + 1)) hx hb hr (fun t ht hW => ⟨_, rfl, (by have w := (nI_ltI (a := j0) (b := st - 1) (by omega) (by omega)).mp (Int32.not_le.mp c_2); exact (if_pos (by omega)).symm), ht⟩) (fun _ h => absurd h List.not_mem_nil) dX2_yardsFrom_29

set_option maxHeartbeats 4000000 in
set_option maxRecDepth 100000 in
theorem g_X2_wayFrom (l : Launch) (D : va_G) (cI cL cZ cC : ClassId) (rd : Nat) (r0 : Nat) (r1 : Nat) (st : Nat) (ho : Int32) (pa : Int32) (si : Int32) (li : Int32) (lc : Int32) (lg : Nat → Int32) (j0 : Nat) (a2 : Int32) (hs1 : 1 ≤ st) (hs7 : st ≤ 7) (hj : j0 ≤ 6) : Met l yX2_wayFrom wsX2_wayFrom ({ frames := 1, cells := 0, slots := 0, locals := 21 } : Room) (xPc D [.ref rd, .int (nI j0), .int a2] [(rd, .inr (2, [.int (nI st), .int ho, .int pa, .int si, .int li, .int lc, .ref r0, .ref r1])), (r0, .inl (cI, 7, .inl lg))] (xTy cI cL cZ cC)) (vp_Si (fun r : Int32 => r = xWy (xYd st ho lg j0) a2)) 0 0 (fun _ => False) := by
  refine Met.ofW (cc := cX2_wayFrom) (maxL := 3) (ret := (some .int)) (by decide) rfl ?_
  intro p e s m args below meth c s₁ B hml hv
  obtain ⟨rfl, hP, hK⟩ := hv
  have hx := B.exec
  have hb := B.bytes
  have hr := B.returns
  have hts := atoms_spec (ws := wsX2_wayFrom) B.pre
  have hown : s.vm.findClass RX2 = some m.cls := findClass_of_methodNamed B.named
  have hlocks := B.notSynchronized
  have hl := lv_entry ([.ref rd, .int (nI j0), .int a2]) (n := 3) (Nat.le_of_ble_eq_true rfl)
  rw [lg_entry_eq]
  generalize (lg_sl ([.ref rd, .int (nI j0), .int a2]) ++ List.replicate (3 - (lg_sl ([.ref rd, .int (nI j0), .int a2])).length) Slot.unset).toArray = ls at hl ⊢
  have hl : lv_has ls 3 [(0, .ref rd), (1, .int (nI j0)), (2, .int a2)] := hl
  refine lv_iload_n hx hb dX2_wayFrom_0 rfl (lv_at hl 2 rfl) ?_
  refine lv_iconst (v := 1) hx hb dX2_wayFrom_1 (by decide) ?_
  refine lv_icmp_ge (tgt := 9) hx hb dX2_wayFrom_2 (by decide) (fun c_1 => ?_) (fun c_1 => ?_)
  · refine lv_aload_n hx hb dX2_wayFrom_9 rfl (lv_at hl 0 rfl) ?_
    refine lv_iload_n hx hb dX2_wayFrom_10 rfl (lv_at hl 1 rfl) ?_
    have hPc := hP.sub (ws' := [(rd, .inr (2, [.int (nI st), .int ho, .int pa, .int si, .int li, .int lc, .ref r0, .ref r1])), (r0, .inl (cI, 7, .inl lg))]) [0, 1] rfl
    refine vp_callSi (va_Run.run (va_runV (As := [.int (nI j0)]) (rest := []) ⟨hx, hb, hml, hown, hts⟩ (g_X2_yardsFrom l D cI cL cZ cC rd r0 r1 st ho pa si li lc lg j0 (by first | assumption | decide +kernel) (by first | assumption | decide +kernel) (by first | assumption | decide +kernel)) (cwV 1 hts gX2_wayFrom_X2_yardsFrom rfl rfl rfl (by decide +kernel) ⟨Nat.le_of_ble_eq_true rfl, Nat.le_of_ble_eq_true rfl⟩) ⟨xPc_bl, va_recv hK hPc (ci := 2) (q0 := 0) rfl rfl, xPc_use hPc hK⟩ rfl rfl hl.1 rfl (lv_room (Nat.le_of_ble_eq_true rfl)) dX2_wayFrom_11 ⟨Nat.le_of_ble_eq_true rfl, Nat.le_of_ble_eq_true rfl⟩)) (fun r_2 er_2 => ?_)
    obtain rfl : (xYd st ho lg j0 : Int32) = r_2 := Eq.symm er_2
    refine lv_iload_n hx hb dX2_wayFrom_14 rfl (lv_at hl 2 rfl) ?_
    refine lv_iadd hx hb dX2_wayFrom_15 ?_
    refine lv_iconst (v := 1) hx hb dX2_wayFrom_16 (by decide) ?_
    refine lv_isub hx hb dX2_wayFrom_17 ?_
    refine lv_iload_n hx hb dX2_wayFrom_18 rfl (lv_at hl 2 rfl) ?_
    refine lv_idiv hx hb dX2_wayFrom_19 (fun w => (w ▸ (Int32.not_lt.mpr c_1) : ¬ (0 : Int32) < 1) (by decide)) ?_
    exact W.iret (v := (((xYd st ho lg j0) + a2) - 1) / a2) hx hb hr (fun t ht hW => ⟨_, rfl, by simp [xWy, (Int32.not_lt.mpr c_1)], ht⟩) (fun _ h => absurd h List.not_mem_nil) dX2_wayFrom_20
  · refine lv_iconst (v := 0) hx hb dX2_wayFrom_5 (by decide) ?_
    refine lv_goto (tgt := 20) hx hb dX2_wayFrom_6 (by decide) ?_
    exact W.iret (v := 0) hx hb hr (fun t ht hW => ⟨_, rfl, by simp [xWy, (Int32.not_le.mp c_1)], ht⟩) (fun _ h => absurd h List.not_mem_nil) dX2_wayFrom_20

set_option maxHeartbeats 4000000 in
set_option maxRecDepth 100000 in
theorem g_X2_walkHome (l : Launch) (D : va_G) (cI cL cZ cC : ClassId) (rd : Nat) (r0 : Nat) (r1 : Nat) (st : Nat) (ho : Int32) (pa : Int32) (si : Int32) (li : Int32) (lc : Int32) (lg : Nat → Int32) (j0 : Nat) (hs1 : 1 ≤ st) (hs7 : st ≤ 7) (hj : j0 ≤ 6) : Met l yX2_walkHome wsX2_walkHome ({ frames := 2, cells := 0, slots := 0, locals := 43 } : Room) (xPc D [.ref rd, .int (nI j0)] [(rd, .inr (2, [.int (nI st), .int ho, .int pa, .int si, .int li, .int lc, .ref r0, .ref r1])), (r0, .inl (cI, 7, .inl lg))] (xTy cI cL cZ cC)) (vp_Si (fun r : Int32 => r = xWh st ho pa lg j0)) 0 0 (fun _ => False) := by
  refine Met.ofW (cc := cX2_walkHome) (maxL := 4) (ret := (some .int)) (by decide) rfl ?_
  intro p e s m args below meth c s₁ B hml hv
  obtain ⟨rfl, hP, hK⟩ := hv
  have hx := B.exec
  have hb := B.bytes
  have hr := B.returns
  have hts := atoms_spec (ws := wsX2_walkHome) B.pre
  have hown : s.vm.findClass RX2 = some m.cls := findClass_of_methodNamed B.named
  have hlocks := B.notSynchronized
  have hwX2 : ∀ w ∈ u_ws RX2 TX2 8, w ∈ wsX2_walkHome := fun _ h => List.mem_cons_of_mem _ (List.mem_append_right _ h)
  have hl := lv_entry ([.ref rd, .int (nI j0)]) (n := 4) (Nat.le_of_ble_eq_true rfl)
  rw [lg_entry_eq]
  generalize (lg_sl ([.ref rd, .int (nI j0)]) ++ List.replicate (4 - (lg_sl ([.ref rd, .int (nI j0)])).length) Slot.unset).toArray = ls at hl ⊢
  have hl : lv_has ls 4 [(0, .ref rd), (1, .int (nI j0))] := hl
  refine lv_iconst (v := 0) hx hb dX2_walkHome_0 (by decide) ?_
  refine lv_istore_n (lv' := [(2, .int 0), (0, .ref rd), (1, .int (nI j0))]) hx hb dX2_walkHome_1 rfl hl (by decide) rfl (fun ls hl => ?_)
  refine lv_iload_n hx hb dX2_walkHome_2 rfl (lv_at hl 2 rfl) ?_
  refine lv_istore_n (lv' := [(3, .int (nI j0)), (2, .int 0), (0, .ref rd), (1, .int (nI j0))]) hx hb dX2_walkHome_3 rfl hl (by decide) rfl (fun ls hl => ?_)
  refine xl_loop (σ := Nat) (fun n q ls => lv_has ls 4 [(3, .int (nI (j0 + q))), (2, .int (xSmF (fun i => xWy (xYd st ho lg i) pa) j0 q)), (0, .ref rd), (1, .int (nI j0))] ∧ (st - (j0 + q) < n) ∧ (q ≤ st - j0)) (st + 1) (0) ⟨lv_sub hl [0, 1, 2, 3] rfl, by (try dsimp only); exact ⟨by omega, by omega⟩⟩ (fun q ls h => absurd h.2.1 (Nat.not_lt_zero _)) ?_
  intro n_4 q_4 ls ih_4 hI_4
  obtain ⟨hl, hI_4⟩ := hI_4
  obtain ⟨k, e_4⟩ : ∃ z, z = q_4 := ⟨_, rfl⟩
  subst e_4
  obtain ⟨h1, h2⟩ := hI_4
  try dsimp only at hl h1 h2
  refine lv_iload_n hx hb dX2_walkHome_4 rfl (lv_at hl 0 rfl) ?_
  refine lv_aload_n hx hb dX2_walkHome_5 rfl (lv_at hl 2 rfl) ?_
  refine va_get (D := D) (ci := 2) (v := .int (nI st)) (C := RX2) (T := TX2) (N := 8) hx hb hts hwX2 hown hK hP 0 rfl rfl 0 (by decide) (hts (.fieldLink RX2 9 "WaitOrWalkOn$Road" "stops" "I") (by decide +kernel)) (fun _ h9 => h9) rfl dX2_walkHome_6 ?_
  refine lv_icmp_ge (tgt := 30) hx hb dX2_walkHome_9 (by decide) (fun c_1 => ?_) (fun c_1 => ?_)
  · refine lv_iload_n hx hb dX2_walkHome_30 rfl (lv_at hl 1 rfl) ?_
    exact W.iret (v := xSmF (fun i => xWy (xYd st ho lg i) pa) j0 k) hx hb hr (fun t ht hW => ⟨_, rfl, (by have w := mt (nI_ltI (a := j0 + k) (b := st) (by omega) (by omega)).mpr (Int32.not_lt.mpr c_1); exact congrArg (xSmF _ j0) (show k = st - j0 by omega)), ht⟩) (fun _ h => absurd h List.not_mem_nil) dX2_walkHome_31
  · refine lv_iload_n hx hb dX2_walkHome_12 rfl (lv_at hl 1 rfl) ?_
    refine lv_aload_n hx hb dX2_walkHome_13 rfl (lv_at hl 2 rfl) ?_
    refine lv_iload_n hx hb dX2_walkHome_14 rfl (lv_at hl 0 rfl) ?_
    refine lv_aload_n hx hb dX2_walkHome_15 rfl (lv_at hl 2 rfl) ?_
    refine va_get (D := D) (ci := 2) (v := .int pa) (C := RX2) (T := TX2) (N := 8) hx hb hts hwX2 hown hK hP 0 rfl rfl 2 (by decide) (hts (.fieldLink RX2 18 "WaitOrWalkOn$Road" "pace" "I") (by decide +kernel)) (fun _ h9 => h9) rfl dX2_walkHome_16 ?_
    have hPc := hP.sub (ws' := [(rd, .inr (2, [.int (nI st), .int ho, .int pa, .int si, .int li, .int lc, .ref r0, .ref r1])), (r0, .inl (cI, 7, .inl lg))]) [0, 1] rfl
    refine vp_callSi (va_Run.run (va_runV (As := [.int (nI (j0 + k)), .int pa]) (rest := [.int (xSmF (fun i => xWy (xYd st ho lg i) pa) j0 k)]) ⟨hx, hb, hml, hown, hts⟩ (g_X2_wayFrom l D cI cL cZ cC rd r0 r1 st ho pa si li lc lg (j0 + k) pa (by first | assumption | decide +kernel) (by first | assumption | decide +kernel) (by have w := (nI_ltI (a := j0 + k) (b := st) (by omega) (by omega)).mp (Int32.not_le.mp c_1); omega)) (cwV 2 hts gX2_walkHome_X2_wayFrom rfl rfl rfl (by decide +kernel) ⟨Nat.le_of_ble_eq_true rfl, Nat.le_of_ble_eq_true rfl⟩) ⟨xPc_bl, va_recv hK hPc (ci := 2) (q0 := 0) rfl rfl, xPc_use hPc hK⟩ rfl rfl hl.1 rfl (lv_room (Nat.le_of_ble_eq_true rfl)) dX2_walkHome_19 ⟨Nat.le_of_ble_eq_true rfl, Nat.le_of_ble_eq_true rfl⟩)) (fun r_2 er_2 => ?_)
    obtain rfl : (xWy (xYd st ho lg (j0 + k)) pa : Int32) = r_2 := Eq.symm er_2
    refine lv_iadd hx hb dX2_walkHome_22 ?_
    refine xv_int (y := xSmF (fun i => xWy (xYd st ho lg i) pa) j0 (k + 1)) (rfl) ?_
    refine lv_istore_n (lv' := [(2, .int (xSmF (fun i => xWy (xYd st ho lg i) pa) j0 (k + 1))), (3, .int (nI (j0 + k))), (0, .ref rd), (1, .int (nI j0))]) hx hb dX2_walkHome_23 rfl hl (by decide) rfl (fun ls hl => ?_)
    refine lv_iinc (v := nI (j0 + (k + 1))) (lv' := [(3, .int (nI (j0 + (k + 1)))), (2, .int (xSmF (fun i => xWy (xYd st ho lg i) pa) j0 (k + 1))), (0, .ref rd), (1, .int (nI j0))]) hx hb dX2_walkHome_24 hl (k := 1) rfl (nI_1 (j0 + k)) (by decide) rfl (fun ls hl => ?_)
    refine lv_goto (tgt := 4) hx hb dX2_walkHome_27 (by decide) ?_
    have w := (nI_ltI (a := j0 + k) (b := st) (by omega) (by omega)).mp (Int32.not_le.mp c_1)
    exact ih_4 (k + 1) _ ⟨lv_sub hl [0, 1, 2, 3] rfl, by (try dsimp only); exact ⟨by omega, by omega⟩⟩

set_option maxHeartbeats 4000000 in
set_option maxRecDepth 100000 in
theorem g_X2_yards (l : Launch) (D : va_G) (cI cL cZ cC : ClassId) (rd : Nat) (r0 : Nat) (r1 : Nat) (st : Nat) (ho : Int32) (pa : Int32) (si : Int32) (li : Int32) (lc : Int32) (lg : Nat → Int32) (hs1 : 1 ≤ st) (hs7 : st ≤ 7) : Met l yX2_yards wsX2_yards ({ frames := 0, cells := 0, slots := 0, locals := 0 } : Room) (xPc D [.ref rd] [(rd, .inr (2, [.int (nI st), .int ho, .int pa, .int si, .int li, .int lc, .ref r0, .ref r1])), (r0, .inl (cI, 7, .inl lg))] (xTy cI cL cZ cC)) (vp_Si (fun r : Int32 => r = xAcc ho lg (st - 1))) 0 0 (fun _ => False) := by
  refine Met.ofW (cc := cX2_yards) (maxL := 3) (ret := (some .int)) (by decide) rfl ?_
  intro p e s m args below meth c s₁ B hml hv
  obtain ⟨rfl, hP, hK⟩ := hv
  have hx := B.exec
  have hb := B.bytes
  have hr := B.returns
  have hts := atoms_spec (ws := wsX2_yards) B.pre
  have hown : s.vm.findClass RX2 = some m.cls := findClass_of_methodNamed B.named
  have hlocks := B.notSynchronized
  have hwX2 : ∀ w ∈ u_ws RX2 TX2 8, w ∈ wsX2_yards := fun _ h => List.mem_cons_of_mem _ (List.mem_append_right _ h)
  have hl := lv_entry ([.ref rd]) (n := 3) (Nat.le_of_ble_eq_true rfl)
  rw [lg_entry_eq]
  generalize (lg_sl ([.ref rd]) ++ List.replicate (3 - (lg_sl ([.ref rd])).length) Slot.unset).toArray = ls at hl ⊢
  have hl : lv_has ls 3 [(0, .ref rd)] := hl
  refine lv_aload_n hx hb dX2_yards_0 rfl (lv_at hl 0 rfl) ?_
  refine va_get (D := D) (ci := 2) (v := .int ho) (C := RX2) (T := TX2) (N := 8) hx hb hts hwX2 hown hK hP 0 rfl rfl 1 (by decide) (hts (.fieldLink RX2 15 "WaitOrWalkOn$Road" "home" "I") (by decide +kernel)) (fun _ h9 => h9) rfl dX2_yards_1 ?_
  refine lv_istore_n (lv' := [(1, .int ho), (0, .ref rd)]) hx hb dX2_yards_4 rfl hl (by decide) rfl (fun ls hl => ?_)
  refine lv_iconst (v := 1) hx hb dX2_yards_5 (by decide) ?_
  refine lv_istore_n (lv' := [(2, .int 1), (1, .int ho), (0, .ref rd)]) hx hb dX2_yards_6 rfl hl (by decide) rfl (fun ls hl => ?_)
  refine xl_loop (σ := Nat) (fun n q ls => lv_has ls 3 [(2, .int (nI (q + 1))), (1, .int (xAcc ho lg q)), (0, .ref rd)] ∧ (st - (q + 1) < n) ∧ (q + 1 ≤ st)) (st + 1) (0) ⟨lv_sub hl [0, 1, 2] rfl, by (try dsimp only); exact ⟨by omega, by omega⟩⟩ (fun q ls h => absurd h.2.1 (Nat.not_lt_zero _)) ?_
  intro n_7 q_7 ls ih_7 hI_7
  obtain ⟨hl, hI_7⟩ := hI_7
  obtain ⟨k, e_7⟩ : ∃ z, z = q_7 := ⟨_, rfl⟩
  subst e_7
  obtain ⟨h1, h2⟩ := hI_7
  try dsimp only at hl h1 h2
  refine lv_iload_n hx hb dX2_yards_7 rfl (lv_at hl 0 rfl) ?_
  refine lv_aload_n hx hb dX2_yards_8 rfl (lv_at hl 2 rfl) ?_
  refine va_get (D := D) (ci := 2) (v := .int (nI st)) (C := RX2) (T := TX2) (N := 8) hx hb hts hwX2 hown hK hP 0 rfl rfl 0 (by decide) (hts (.fieldLink RX2 9 "WaitOrWalkOn$Road" "stops" "I") (by decide +kernel)) (fun _ h9 => h9) rfl dX2_yards_9 ?_
  refine lv_icmp_ge (tgt := 30) hx hb dX2_yards_12 (by decide) (fun c_1 => ?_) (fun c_1 => ?_)
  · refine lv_iload_n hx hb dX2_yards_30 rfl (lv_at hl 1 rfl) ?_
    exact W.iret (v := xAcc ho lg k) hx hb hr (fun t ht hW => ⟨_, rfl, (by have w := mt (nI_ltI (a := k + 1) (b := st) (by omega) (by omega)).mpr (Int32.not_lt.mpr c_1); exact congrArg (xAcc ho lg) (show k = st - 1 by omega)), ht⟩) (fun _ h => absurd h List.not_mem_nil) dX2_yards_31
  · refine lv_iload_n hx hb dX2_yards_15 rfl (lv_at hl 1 rfl) ?_
    refine lv_aload_n hx hb dX2_yards_16 rfl (lv_at hl 2 rfl) ?_
    refine va_get (D := D) (ci := 2) (v := .ref r0) (C := RX2) (T := TX2) (N := 8) hx hb hts hwX2 hown hK hP 0 rfl rfl 6 (by decide) (hts (.fieldLink RX2 30 "WaitOrWalkOn$Road" "legs" "[I") (by decide +kernel)) (fun _ h9 => h9) rfl dX2_yards_17 ?_
    refine lv_iload_n hx hb dX2_yards_20 rfl (lv_at hl 0 rfl) ?_
    refine va_iald (D := D) hx hb hK hP 1 0 rfl rfl (vp_in_nI (by have w := (nI_ltI (a := k + 1) (b := st) (by omega) (by omega)).mp (Int32.not_le.mp c_1); omega) (by decide)) dX2_yards_21 ?_
    refine xv_int (y := lg (k + 1)) (by rw [nI_clamp (by omega)]) ?_
    refine lv_iadd hx hb dX2_yards_22 ?_
    refine xv_int (y := xAcc ho lg (k + 1)) (rfl) ?_
    refine lv_istore_n (lv' := [(1, .int (xAcc ho lg (k + 1))), (2, .int (nI (k + 1))), (0, .ref rd)]) hx hb dX2_yards_23 rfl hl (by decide) rfl (fun ls hl => ?_)
    refine lv_iinc (v := nI (k + 1 + 1)) (lv' := [(2, .int (nI (k + 1 + 1))), (1, .int (xAcc ho lg (k + 1))), (0, .ref rd)]) hx hb dX2_yards_24 hl (k := 1) rfl (nI_1 (k + 1)) (by decide) rfl (fun ls hl => ?_)
    refine lv_goto (tgt := 7) hx hb dX2_yards_27 (by decide) ?_
    have w := (nI_ltI (a := k + 1) (b := st) (by omega) (by omega)).mp (Int32.not_le.mp c_1)
    exact ih_7 (k + 1) _ ⟨lv_sub hl [0, 1, 2] rfl, by (try dsimp only); exact ⟨by omega, by omega⟩⟩

set_option maxHeartbeats 4000000 in
set_option maxRecDepth 100000 in
theorem g_X2_rideHome (l : Launch) (D : va_G) (cI cL cZ cC : ClassId) (rd : Nat) (r0 : Nat) (r1 : Nat) (st : Nat) (ho : Int32) (pa : Int32) (si : Int32) (li : Int32) (lc : Int32) (lg : Nat → Int32) (b0 : Nat) (k0 : Nat) (ki : Int32) (ru : Int32) (ne : Int32) (ch : Nat → Int32) (hs1 : 1 ≤ st) (hs7 : st ≤ 7) : Met l yX2_rideHome wsX2_rideHome ({ frames := 2, cells := 0, slots := 0, locals := 43 } : Room) (xPc D [.ref rd, .ref b0] [(rd, .inr (2, [.int (nI st), .int ho, .int pa, .int si, .int li, .int lc, .ref r0, .ref r1])), (r0, .inl (cI, 7, .inl lg)), (b0, .inr (0, [.int ki, .int ru, .int ne, .ref k0])), (k0, .inl (cI, 12, .inl ch))] (xTy cI cL cZ cC)) (vp_Si (fun r : Int32 => r = sRide ki ru (nI (st - 1)) + xWy (xYd st ho lg (st - 1)) pa)) 0 0 (fun _ => False) := by
  refine Met.ofW (cc := cX2_rideHome) (maxL := 2) (ret := (some .int)) (by decide) rfl ?_
  intro p e s m args below meth c s₁ B hml hv
  obtain ⟨rfl, hP, hK⟩ := hv
  have hx := B.exec
  have hb := B.bytes
  have hr := B.returns
  have hts := atoms_spec (ws := wsX2_rideHome) B.pre
  have hown : s.vm.findClass RX2 = some m.cls := findClass_of_methodNamed B.named
  have hlocks := B.notSynchronized
  have hwX2 : ∀ w ∈ u_ws RX2 TX2 8, w ∈ wsX2_rideHome := fun _ h => List.mem_cons_of_mem _ (List.mem_append_left _ (List.mem_append_right _ h))
  have hl := lv_entry ([.ref rd, .ref b0]) (n := 2) (Nat.le_of_ble_eq_true rfl)
  rw [lg_entry_eq]
  generalize (lg_sl ([.ref rd, .ref b0]) ++ List.replicate (2 - (lg_sl ([.ref rd, .ref b0])).length) Slot.unset).toArray = ls at hl ⊢
  have hl : lv_has ls 2 [(0, .ref rd), (1, .ref b0)] := hl
  refine lv_aload_n hx hb dX2_rideHome_0 rfl (lv_at hl 1 rfl) ?_
  refine lv_aload_n hx hb dX2_rideHome_1 rfl (lv_at hl 0 rfl) ?_
  have hPc := hP.sub (ws' := [(rd, .inr (2, [.int (nI st), .int ho, .int pa, .int si, .int li, .int lc, .ref r0, .ref r1])), (r0, .inl (cI, 7, .inl lg))]) [0, 1] rfl
  refine vp_callSi (va_Run.run (va_runV (As := []) (rest := [.ref b0]) ⟨hx, hb, hml, hown, hts⟩ (g_X2_last l D cI cL cZ cC rd r0 r1 st ho pa si li lc lg (by first | assumption | decide +kernel) (by first | assumption | decide +kernel)) (cwV 0 hts gX2_rideHome_X2_last rfl rfl rfl (by decide +kernel) ⟨Nat.le_of_ble_eq_true rfl, Nat.le_of_ble_eq_true rfl⟩) ⟨xPc_bl, va_recv hK hPc (ci := 2) (q0 := 0) rfl rfl, xPc_use hPc hK⟩ rfl rfl hl.1 rfl (lv_room (Nat.le_of_ble_eq_true rfl)) dX2_rideHome_2 ⟨Nat.le_of_ble_eq_true rfl, Nat.le_of_ble_eq_true rfl⟩)) (fun r_1 er_1 => ?_)
  obtain rfl : (nI (st - 1) : Int32) = r_1 := Eq.symm er_1
  have hPc := hP.sub (ws' := [(b0, .inr (0, [.int ki, .int ru, .int ne, .ref k0])), (k0, .inl (cI, 12, .inl ch))]) [2, 3] rfl
  refine vp_callSi (va_Run.run (va_runV (As := [.int (nI (st - 1))]) (rest := []) ⟨hx, hb, hml, hown, hts⟩ (g_X0_rideTo l D cI cL cZ cC b0 k0 ki ru ne ch (nI (st - 1)) ) (cwV 1 hts gX2_rideHome_X0_rideTo rfl rfl rfl (by decide +kernel) ⟨Nat.le_of_ble_eq_true rfl, Nat.le_of_ble_eq_true rfl⟩) ⟨xPc_bl, va_recv hK hPc (ci := 0) (q0 := 0) rfl rfl, xPc_use hPc hK⟩ rfl rfl hl.1 rfl (lv_room (Nat.le_of_ble_eq_true rfl)) dX2_rideHome_5 ⟨Nat.le_of_ble_eq_true rfl, Nat.le_of_ble_eq_true rfl⟩)) (fun r_2 er_2 => ?_)
  obtain rfl : (sRide ki ru (nI (st - 1)) : Int32) = r_2 := Eq.symm er_2
  refine lv_aload_n hx hb dX2_rideHome_8 rfl (lv_at hl 0 rfl) ?_
  refine lv_aload_n hx hb dX2_rideHome_9 rfl (lv_at hl 0 rfl) ?_
  have hPc := hP.sub (ws' := [(rd, .inr (2, [.int (nI st), .int ho, .int pa, .int si, .int li, .int lc, .ref r0, .ref r1])), (r0, .inl (cI, 7, .inl lg))]) [0, 1] rfl
  refine vp_callSi (va_Run.run (va_runV (As := []) (rest := [.ref rd, .int (sRide ki ru (nI (st - 1)))]) ⟨hx, hb, hml, hown, hts⟩ (g_X2_last l D cI cL cZ cC rd r0 r1 st ho pa si li lc lg (by first | assumption | decide +kernel) (by first | assumption | decide +kernel)) (cwV 0 hts gX2_rideHome_X2_last rfl rfl rfl (by decide +kernel) ⟨Nat.le_of_ble_eq_true rfl, Nat.le_of_ble_eq_true rfl⟩) ⟨xPc_bl, va_recv hK hPc (ci := 2) (q0 := 0) rfl rfl, xPc_use hPc hK⟩ rfl rfl hl.1 rfl (lv_room (Nat.le_of_ble_eq_true rfl)) dX2_rideHome_10 ⟨Nat.le_of_ble_eq_true rfl, Nat.le_of_ble_eq_true rfl⟩)) (fun r_3 er_3 => ?_)
  obtain rfl : (nI (st - 1) : Int32) = r_3 := Eq.symm er_3
  refine lv_aload_n hx hb dX2_rideHome_13 rfl (lv_at hl 0 rfl) ?_
  refine va_get (D := D) (ci := 2) (v := .int pa) (C := RX2) (T := TX2) (N := 8) hx hb hts hwX2 hown hK hP 0 rfl rfl 2 (by decide) (hts (.fieldLink RX2 18 "WaitOrWalkOn$Road" "pace" "I") (by decide +kernel)) (fun _ h9 => h9) rfl dX2_rideHome_14 ?_
  have hPc := hP.sub (ws' := [(rd, .inr (2, [.int (nI st), .int ho, .int pa, .int si, .int li, .int lc, .ref r0, .ref r1])), (r0, .inl (cI, 7, .inl lg))]) [0, 1] rfl
  refine vp_callSi (va_Run.run (va_runV (As := [.int (nI (st - 1)), .int pa]) (rest := [.int (sRide ki ru (nI (st - 1)))]) ⟨hx, hb, hml, hown, hts⟩ (g_X2_wayFrom l D cI cL cZ cC rd r0 r1 st ho pa si li lc lg (st - 1) pa (by first | assumption | decide +kernel) (by first | assumption | decide +kernel) (by omega)) (cwV 2 hts gX2_rideHome_X2_wayFrom rfl rfl rfl (by decide +kernel) ⟨Nat.le_of_ble_eq_true rfl, Nat.le_of_ble_eq_true rfl⟩) ⟨xPc_bl, va_recv hK hPc (ci := 2) (q0 := 0) rfl rfl, xPc_use hPc hK⟩ rfl rfl hl.1 rfl (lv_room (Nat.le_of_ble_eq_true rfl)) dX2_rideHome_17 ⟨Nat.le_of_ble_eq_true rfl, Nat.le_of_ble_eq_true rfl⟩)) (fun r_4 er_4 => ?_)
  obtain rfl : (xWy (xYd st ho lg (st - 1)) pa : Int32) = r_4 := Eq.symm er_4
  refine lv_iadd hx hb dX2_rideHome_20 ?_
  exact W.iret (v := (sRide ki ru (nI (st - 1))) + (xWy (xYd st ho lg (st - 1)) pa)) hx hb hr (fun t ht hW => ⟨_, rfl, rfl, ht⟩) (fun _ h => absurd h List.not_mem_nil) dX2_rideHome_21
