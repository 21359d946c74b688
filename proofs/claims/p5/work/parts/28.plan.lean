set_option maxHeartbeats 4000000 in
set_option maxRecDepth 100000 in
theorem g_X1_index (l : Launch) (D : va_G) (cI cL cZ cC : ClassId) (a0 : Int32) (a1 : Int32) (a2 : Int32)  : Met l yX1_index wsX1_index ({ frames := 0, cells := 0, slots := 0, locals := 0 } : Room) (xPc D [.int a0, .int a1, .int a2] [] (xTy cI cL cZ cC)) (vp_Si (fun r : Int32 => r = (a0 * 61 + a1) * 13 + a2)) 0 0 (fun _ => False) := by
  refine Met.ofW (cc := cX1_index) (maxL := 3) (ret := (some .int)) (by decide) rfl ?_
  intro p e s m args below meth c s₁ B hml hv
  obtain ⟨rfl, hP, hK⟩ := hv
  have hx := B.exec
  have hb := B.bytes
  have hr := B.returns
  have hts := atoms_spec (ws := wsX1_index) B.pre
  have hown : s.vm.findClass RX1 = some m.cls := findClass_of_methodNamed B.named
  have hlocks := B.notSynchronized
  have hl := lv_entry ([.int a0, .int a1, .int a2]) (n := 3) (Nat.le_of_ble_eq_true rfl)
  rw [lg_entry_eq]
  generalize (lg_sl ([.int a0, .int a1, .int a2]) ++ List.replicate (3 - (lg_sl ([.int a0, .int a1, .int a2])).length) Slot.unset).toArray = ls at hl ⊢
  have hl : lv_has ls 3 [(0, .int a0), (1, .int a1), (2, .int a2)] := hl
  refine lv_iload_n hx hb dX1_index_0 rfl (lv_at hl 0 rfl) ?_
  refine lv_bipush (v := 61) hx hb dX1_index_1 (by decide) ?_
  refine lv_imul hx hb dX1_index_3 ?_
  refine lv_iload_n hx hb dX1_index_4 rfl (lv_at hl 1 rfl) ?_
  refine lv_iadd hx hb dX1_index_5 ?_
  refine lv_bipush (v := 13) hx hb dX1_index_6 (by decide) ?_
  refine lv_imul hx hb dX1_index_8 ?_
  refine lv_iload_n hx hb dX1_index_9 rfl (lv_at hl 2 rfl) ?_
  refine lv_iadd hx hb dX1_index_10 ?_
  exact W.iret (v := (((a0 * 61) + a1) * 13) + a2) hx hb hr (fun t ht hW => ⟨_, rfl, rfl, ht⟩) (fun _ h => absurd h List.not_mem_nil) dX1_index_11

set_option maxHeartbeats 4000000 in
set_option maxRecDepth 100000 in
theorem g_X1_boundAt (l : Launch) (D : va_G) (cI cL cZ cC : ClassId) (pl : Nat) (p0 : Nat) (p1 : Nat) (p2 : Nat) (p3 : Nat) (p4 : Nat) (p5 : Nat) (lz : Nat) (rq : Int32) (q0 : Nat) (a2 : Int32) (a3 : Int32) (rj : Nat → Int32) (hq0 : q0 ≤ 6) (hle : ¬ a3 < 0) : Met l yX1_boundAt wsX1_boundAt ({ frames := 1, cells := 0, slots := 0, locals := 14 } : Room) (xPc D [.ref pl, .int (nI q0), .int a2, .int a3] [(pl, .inr (1, [.ref p0, .ref p1, .ref p2, .ref p3, .ref p4, .ref p5, .int (nI lz), .int rq])), (p2, .inl (cI, 7, .inl rj))] (xTy cI cL cZ cC)) (vp_Si (fun r : Int32 => r = nI (xBn (rj q0) a2 a3))) 0 0 (fun _ => False) := by
  refine Met.ofW (cc := cX1_boundAt) (maxL := 4) (ret := (some .int)) (by decide) rfl ?_
  intro p e s m args below meth c s₁ B hml hv
  obtain ⟨rfl, hP, hK⟩ := hv
  have hx := B.exec
  have hb := B.bytes
  have hr := B.returns
  have hts := atoms_spec (ws := wsX1_boundAt) B.pre
  have hown : s.vm.findClass RX1 = some m.cls := findClass_of_methodNamed B.named
  have hlocks := B.notSynchronized
  have hwX1 : ∀ w ∈ u_ws RX1 TX1 8, w ∈ wsX1_boundAt := fun _ h => List.mem_cons_of_mem _ (List.mem_append_right _ h)
  have hl := lv_entry ([.ref pl, .int (nI q0), .int a2, .int a3]) (n := 4) (Nat.le_of_ble_eq_true rfl)
  rw [lg_entry_eq]
  generalize (lg_sl ([.ref pl, .int (nI q0), .int a2, .int a3]) ++ List.replicate (4 - (lg_sl ([.ref pl, .int (nI q0), .int a2, .int a3])).length) Slot.unset).toArray = ls at hl ⊢
  have hl : lv_has ls 4 [(0, .ref pl), (1, .int (nI q0)), (2, .int a2), (3, .int a3)] := hl
  refine lv_bipush (v := 12) hx hb dX1_boundAt_0 (by decide) ?_
  refine lv_iload_n hx hb dX1_boundAt_2 rfl (lv_at hl 3 rfl) ?_
  refine lv_iload_n hx hb dX1_boundAt_3 rfl (lv_at hl 2 rfl) ?_
  refine lv_aload_n hx hb dX1_boundAt_4 rfl (lv_at hl 0 rfl) ?_
  refine va_get (D := D) (ci := 1) (v := .ref p2) (C := RX1) (T := TX1) (N := 8) hx hb hts hwX1 hown hK hP 0 rfl rfl 2 (by decide) (hts (.fieldLink RX1 18 "WaitOrWalkOn$Plan" "ride" "[I") (by decide +kernel)) (fun _ h9 => h9) rfl dX1_boundAt_5 ?_
  refine lv_iload_n hx hb dX1_boundAt_8 rfl (lv_at hl 1 rfl) ?_
  refine va_iald (D := D) hx hb hK hP 1 0 rfl rfl (vp_in_nI (by omega) (by decide)) dX1_boundAt_9 ?_
  refine xv_int (y := rj q0) (congrArg rj (nI_clamp (by omega))) ?_
  refine lv_isub hx hb dX1_boundAt_10 ?_
  refine va_mmax hx hb (hml.trans hl.1.symm) hown (hts (.methodLink RX1 89 Lib.Math.max.name) (by decide +kernel)) (hts (.static Lib.Math.max.name) (by decide +kernel)) (hts (.initialized "java/lang/Math") (by decide +kernel)) (hts (.code Lib.Math.max.name Lib.Math.max.code 2 (some .int)) (by decide +kernel)) (Nat.le_of_ble_eq_true rfl) (Nat.le_of_ble_eq_true rfl) (Nat.le_of_ble_eq_true rfl) (Nat.le_of_ble_eq_true rfl) dX1_boundAt_11 ?_
  refine xv_int (y := xMx a3 (a2 - rj q0)) (rfl) ?_
  refine va_mmin hx hb (hml.trans hl.1.symm) hown (hts (.methodLink RX1 94 Lib.Math.min.name) (by decide +kernel)) (hts (.static Lib.Math.min.name) (by decide +kernel)) (hts (.initialized "java/lang/Math") (by decide +kernel)) (hts (.code Lib.Math.min.name Lib.Math.min.code 2 (some .int)) (by decide +kernel)) (Nat.le_of_ble_eq_true rfl) (Nat.le_of_ble_eq_true rfl) (Nat.le_of_ble_eq_true rfl) (Nat.le_of_ble_eq_true rfl) dX1_boundAt_14 ?_
  refine xv_int (y := nI (xBn (rj q0) a2 a3)) (xBd_n hle) ?_
  exact W.iret (v := nI (xBn (rj q0) a2 a3)) hx hb hr (fun t ht hW => ⟨_, rfl, rfl, ht⟩) (fun _ h => absurd h List.not_mem_nil) dX1_boundAt_17

set_option maxHeartbeats 4000000 in
set_option maxRecDepth 100000 in
theorem g_X1_weightAt (l : Launch) (D : va_G) (cI cL cZ cC : ClassId) (pl : Nat) (p0 : Nat) (p1 : Nat) (p2 : Nat) (p3 : Nat) (p4 : Nat) (p5 : Nat) (lz : Nat) (rq : Int32) (q0 : Nat) (a2 : Int32) (rj : Nat → Int32) (wf : Nat → Int32) (hq0 : q0 ≤ 6) : Met l yX1_weightAt wsX1_weightAt ({ frames := 2, cells := 0, slots := 0, locals := 37 } : Room) (xPc D [.ref pl, .int (nI q0), .int a2] [(pl, .inr (1, [.ref p0, .ref p1, .ref p2, .ref p3, .ref p4, .ref p5, .int (nI lz), .int rq])), (p2, .inl (cI, 7, .inl rj)), (p1, .inl (cI, 13, .inl wf))] (xTy cI cL cZ cC)) (vp_Si (fun r : Int32 => r = wf (xBn (rj q0) a2 0))) 0 0 (fun _ => False) := by
  refine Met.ofW (cc := cX1_weightAt) (maxL := 3) (ret := (some .int)) (by decide) rfl ?_
  intro p e s m args below meth c s₁ B hml hv
  obtain ⟨rfl, hP, hK⟩ := hv
  have hx := B.exec
  have hb := B.bytes
  have hr := B.returns
  have hts := atoms_spec (ws := wsX1_weightAt) B.pre
  have hown : s.vm.findClass RX1 = some m.cls := findClass_of_methodNamed B.named
  have hlocks := B.notSynchronized
  have hwX1 : ∀ w ∈ u_ws RX1 TX1 8, w ∈ wsX1_weightAt := fun _ h => List.mem_cons_of_mem _ (List.mem_append_right _ h)
  have hl := lv_entry ([.ref pl, .int (nI q0), .int a2]) (n := 3) (Nat.le_of_ble_eq_true rfl)
  rw [lg_entry_eq]
  generalize (lg_sl ([.ref pl, .int (nI q0), .int a2]) ++ List.replicate (3 - (lg_sl ([.ref pl, .int (nI q0), .int a2])).length) Slot.unset).toArray = ls at hl ⊢
  have hl : lv_has ls 3 [(0, .ref pl), (1, .int (nI q0)), (2, .int a2)] := hl
  refine lv_aload_n hx hb dX1_weightAt_0 rfl (lv_at hl 0 rfl) ?_
  refine va_get (D := D) (ci := 1) (v := .ref p1) (C := RX1) (T := TX1) (N := 8) hx hb hts hwX1 hown hK hP 0 rfl rfl 1 (by decide) (hts (.fieldLink RX1 15 "WaitOrWalkOn$Plan" "weightFrom" "[I") (by decide +kernel)) (fun _ h9 => h9) rfl dX1_weightAt_1 ?_
  refine lv_aload_n hx hb dX1_weightAt_4 rfl (lv_at hl 0 rfl) ?_
  refine lv_iload_n hx hb dX1_weightAt_5 rfl (lv_at hl 1 rfl) ?_
  refine lv_iload_n hx hb dX1_weightAt_6 rfl (lv_at hl 2 rfl) ?_
  refine lv_iconst (v := 0) hx hb dX1_weightAt_7 (by decide) ?_
  have hPc := hP.sub (ws' := [(pl, .inr (1, [.ref p0, .ref p1, .ref p2, .ref p3, .ref p4, .ref p5, .int (nI lz), .int rq])), (p2, .inl (cI, 7, .inl rj))]) [0, 1] rfl
  refine vp_callSi (va_Run.run (va_runV (As := [.int (nI q0), .int a2, .int 0]) (rest := [.ref p1]) ⟨hx, hb, hml, hown, hts⟩ (g_X1_boundAt l D cI cL cZ cC pl p0 p1 p2 p3 p4 p5 lz rq q0 a2 0 rj (by first | assumption | decide +kernel) (by first | assumption | decide +kernel)) (cwV 3 hts gX1_weightAt_X1_boundAt rfl rfl rfl (by decide +kernel) ⟨Nat.le_of_ble_eq_true rfl, Nat.le_of_ble_eq_true rfl⟩) ⟨xPc_bl, va_recv hK hPc (ci := 1) (q0 := 0) rfl rfl, xPc_use hPc hK⟩ rfl rfl hl.1 rfl (lv_room (Nat.le_of_ble_eq_true rfl)) dX1_weightAt_8 ⟨Nat.le_of_ble_eq_true rfl, Nat.le_of_ble_eq_true rfl⟩)) (fun r_1 er_1 => ?_)
  obtain rfl : (nI (xBn (rj q0) a2 (0 : Int32)) : Int32) = r_1 := Eq.symm er_1
  refine va_iald (D := D) hx hb hK hP 2 0 rfl rfl (vp_in_nI (Nat.lt_succ_of_le (xBn_le _ _ _)) (by decide)) dX1_weightAt_11 ?_
  refine xv_int (y := wf (xBn (rj q0) a2 0)) (congrArg wf (nI_clamp (by have w := xBn_le (rj q0) a2 0; omega))) ?_
  exact W.iret (v := wf (xBn (rj q0) a2 0)) hx hb hr (fun t ht hW => ⟨_, rfl, rfl, ht⟩) (fun _ h => absurd h List.not_mem_nil) dX1_weightAt_12

set_option maxHeartbeats 4000000 in
set_option maxRecDepth 100000 in
theorem g_X1_sumAt (l : Launch) (D : va_G) (cI cL cZ cC : ClassId) (pl : Nat) (p0 : Nat) (p1 : Nat) (p2 : Nat) (p3 : Nat) (p4 : Nat) (p5 : Nat) (lz : Nat) (rq : Int32) (q0 : Nat) (m0 : Nat) (b0 : Nat) (sm : Nat → Int32) (wf : Nat → Int32) (wh : Nat → Int32) (hlz : lz ≤ 6) (hq0 : q0 ≤ 6) (hm0 : m0 ≤ 2000) (hb0 : b0 ≤ 12) : Met l yX1_sumAt wsX1_sumAt ({ frames := 1, cells := 0, slots := 0, locals := 22 } : Room) (xPc D [.ref pl, .int (nI q0), .int (nI m0), .int (nI b0)] [(pl, .inr (1, [.ref p0, .ref p1, .ref p2, .ref p3, .ref p4, .ref p5, .int (nI lz), .int rq])), (p0, .inl (cI, 5551, .inl sm)), (p1, .inl (cI, 13, .inl wf)), (p4, .inl (cI, 7, .inl wh))] (xTy cI cL cZ cC)) (vp_Si (fun r : Int32 => r = sSu lz sm wf wh q0 m0 b0)) 0 0 (fun _ => False) := by
  refine Met.ofW (cc := cX1_sumAt) (maxL := 4) (ret := (some .int)) (by decide) rfl ?_
  intro p e s m args below meth c s₁ B hml hv
  obtain ⟨rfl, hP, hK⟩ := hv
  have hx := B.exec
  have hb := B.bytes
  have hr := B.returns
  have hts := atoms_spec (ws := wsX1_sumAt) B.pre
  have hown : s.vm.findClass RX1 = some m.cls := findClass_of_methodNamed B.named
  have hlocks := B.notSynchronized
  have hwX1 : ∀ w ∈ u_ws RX1 TX1 8, w ∈ wsX1_sumAt := fun _ h => List.mem_cons_of_mem _ (List.mem_append_right _ h)
  have hl := lv_entry ([.ref pl, .int (nI q0), .int (nI m0), .int (nI b0)]) (n := 4) (Nat.le_of_ble_eq_true rfl)
  rw [lg_entry_eq]
  generalize (lg_sl ([.ref pl, .int (nI q0), .int (nI m0), .int (nI b0)]) ++ List.replicate (4 - (lg_sl ([.ref pl, .int (nI q0), .int (nI m0), .int (nI b0)])).length) Slot.unset).toArray = ls at hl ⊢
  have hl : lv_has ls 4 [(0, .ref pl), (1, .int (nI q0)), (2, .int (nI m0)), (3, .int (nI b0))] := hl
  refine lv_iload_n hx hb dX1_sumAt_0 rfl (lv_at hl 1 rfl) ?_
  refine lv_aload_n hx hb dX1_sumAt_1 rfl (lv_at hl 0 rfl) ?_
  refine va_get (D := D) (ci := 1) (v := .int (nI lz)) (C := RX1) (T := TX1) (N := 8) hx hb hts hwX1 hown hK hP 0 rfl rfl 6 (by decide) (hts (.fieldLink RX1 37 "WaitOrWalkOn$Plan" "last" "I") (by decide +kernel)) (fun _ h9 => h9) rfl dX1_sumAt_2 ?_
  refine lv_icmp_ge (tgt := 14) hx hb dX1_sumAt_5 (by decide) (fun c_1 => ?_) (fun c_1 => ?_)
  · refine lv_aload_n hx hb dX1_sumAt_14 rfl (lv_at hl 0 rfl) ?_
    refine va_get (D := D) (ci := 1) (v := .ref p1) (C := RX1) (T := TX1) (N := 8) hx hb hts hwX1 hown hK hP 0 rfl rfl 1 (by decide) (hts (.fieldLink RX1 15 "WaitOrWalkOn$Plan" "weightFrom" "[I") (by decide +kernel)) (fun _ h9 => h9) rfl dX1_sumAt_15 ?_
    refine lv_iload_n hx hb dX1_sumAt_18 rfl (lv_at hl 3 rfl) ?_
    refine va_iald (D := D) hx hb hK hP 2 0 rfl rfl (vp_in_nI (by omega) (by decide)) dX1_sumAt_19 ?_
    refine xv_int (y := wf b0) (congrArg wf (nI_clamp (by omega))) ?_
    refine lv_iload_n hx hb dX1_sumAt_20 rfl (lv_at hl 2 rfl) ?_
    refine lv_aload_n hx hb dX1_sumAt_21 rfl (lv_at hl 0 rfl) ?_
    refine va_get (D := D) (ci := 1) (v := .ref p4) (C := RX1) (T := TX1) (N := 8) hx hb hts hwX1 hown hK hP 0 rfl rfl 4 (by decide) (hts (.fieldLink RX1 24 "WaitOrWalkOn$Plan" "walkHome" "[I") (by decide +kernel)) (fun _ h9 => h9) rfl dX1_sumAt_22 ?_
    refine lv_iload_n hx hb dX1_sumAt_25 rfl (lv_at hl 1 rfl) ?_
    refine va_iald (D := D) hx hb hK hP 3 0 rfl rfl (vp_in_nI (by omega) (by decide)) dX1_sumAt_26 ?_
    refine xv_int (y := wh q0) (congrArg wh (nI_clamp (by omega))) ?_
    refine lv_iadd hx hb dX1_sumAt_27 ?_
    refine lv_imul hx hb dX1_sumAt_28 ?_
    exact W.iret (v := (wf b0) * ((nI m0) + (wh q0))) hx hb hr (fun t ht hW => ⟨_, rfl, (by have w1 := mt (nI_ltI (a := q0) (b := lz) (by omega) (by omega)).mpr (Int32.not_lt.mpr c_1); simp [sSu, w1]), ht⟩) (fun _ h => absurd h List.not_mem_nil) dX1_sumAt_29
  · refine lv_iload_n hx hb dX1_sumAt_8 rfl (lv_at hl 2 rfl) ?_
    refine lv_bipush (v := 60) hx hb dX1_sumAt_9 (by decide) ?_
    refine lv_icmp_le (tgt := 30) hx hb dX1_sumAt_11 (by decide) (fun c_2 => ?_) (fun c_2 => ?_)
    · refine lv_aload_n hx hb dX1_sumAt_30 rfl (lv_at hl 0 rfl) ?_
      refine va_get (D := D) (ci := 1) (v := .ref p0) (C := RX1) (T := TX1) (N := 8) hx hb hts hwX1 hown hK hP 0 rfl rfl 0 (by decide) (hts (.fieldLink RX1 11 "WaitOrWalkOn$Plan" "sums" "[I") (by decide +kernel)) (fun _ h9 => h9) rfl dX1_sumAt_31 ?_
      refine lv_iload_n hx hb dX1_sumAt_34 rfl (lv_at hl 1 rfl) ?_
      refine lv_iload_n hx hb dX1_sumAt_35 rfl (lv_at hl 2 rfl) ?_
      refine lv_iload_n hx hb dX1_sumAt_36 rfl (lv_at hl 3 rfl) ?_
      have hPc := hP.sub (ws' := []) [] rfl
      refine vp_callSi (va_Run.run (va_runS (As := [.int (nI q0), .int (nI m0), .int (nI b0)]) (rest := [.ref p0]) ⟨hx, hb, hml, hown, hts⟩ (g_X1_index l D cI cL cZ cC (nI q0) (nI m0) (nI b0) ) (va_cwS 3 hts gX1_sumAt_X1_index rfl rfl rfl (by decide +kernel) ⟨Nat.le_of_ble_eq_true rfl, Nat.le_of_ble_eq_true rfl⟩) ⟨xPc_bl, xPc_use hPc hK⟩ rfl rfl hl.1 rfl (lv_room (Nat.le_of_ble_eq_true rfl)) dX1_sumAt_37 ⟨Nat.le_of_ble_eq_true rfl, Nat.le_of_ble_eq_true rfl⟩)) (fun r_3 er_3 => ?_)
      obtain rfl : (((nI q0) * 61 + (nI m0)) * 13 + (nI b0) : Int32) = r_3 := Eq.symm er_3
      refine xv_int (y := nI ((q0 * 61 + m0) * 13 + b0)) (pk_idx q0 m0 b0) ?_
      refine va_iald (D := D) hx hb hK hP 1 0 rfl rfl (vp_in_nI (by have w1 := (nI_ltI (a := q0) (b := lz) (by omega) (by omega)).mp (Int32.not_le.mp c_1); have w2 := mt (nI_ltI (a := 60) (b := m0) (by decide) (by omega)).mpr (Int32.not_lt.mpr c_2); omega) (by decide)) dX1_sumAt_40 ?_
      refine xv_int (y := sm ((q0 * 61 + m0) * 13 + b0)) (congrArg sm (nI_clamp (by have w1 := (nI_ltI (a := q0) (b := lz) (by omega) (by omega)).mp (Int32.not_le.mp c_1); have w2 := mt (nI_ltI (a := 60) (b := m0) (by decide) (by omega)).mpr (Int32.not_lt.mpr c_2); omega))) ?_
      exact W.iret (v := sm ((q0 * 61 + m0) * 13 + b0)) hx hb hr (fun t ht hW => ⟨_, rfl, (by have w1 := (nI_ltI (a := q0) (b := lz) (by omega) (by omega)).mp (Int32.not_le.mp c_1); have w2 := mt (nI_ltI (a := 60) (b := m0) (by decide) (by omega)).mpr (Int32.not_lt.mpr c_2); simp [sSu, w1, w2]), ht⟩) (fun _ h => absurd h List.not_mem_nil) dX1_sumAt_41
    · refine lv_aload_n hx hb dX1_sumAt_14 rfl (lv_at hl 0 rfl) ?_
      refine va_get (D := D) (ci := 1) (v := .ref p1) (C := RX1) (T := TX1) (N := 8) hx hb hts hwX1 hown hK hP 0 rfl rfl 1 (by decide) (hts (.fieldLink RX1 15 "WaitOrWalkOn$Plan" "weightFrom" "[I") (by decide +kernel)) (fun _ h9 => h9) rfl dX1_sumAt_15 ?_
      refine lv_iload_n hx hb dX1_sumAt_18 rfl (lv_at hl 3 rfl) ?_
      refine va_iald (D := D) hx hb hK hP 2 0 rfl rfl (vp_in_nI (by omega) (by decide)) dX1_sumAt_19 ?_
      refine xv_int (y := wf b0) (congrArg wf (nI_clamp (by omega))) ?_
      refine lv_iload_n hx hb dX1_sumAt_20 rfl (lv_at hl 2 rfl) ?_
      refine lv_aload_n hx hb dX1_sumAt_21 rfl (lv_at hl 0 rfl) ?_
      refine va_get (D := D) (ci := 1) (v := .ref p4) (C := RX1) (T := TX1) (N := 8) hx hb hts hwX1 hown hK hP 0 rfl rfl 4 (by decide) (hts (.fieldLink RX1 24 "WaitOrWalkOn$Plan" "walkHome" "[I") (by decide +kernel)) (fun _ h9 => h9) rfl dX1_sumAt_22 ?_
      refine lv_iload_n hx hb dX1_sumAt_25 rfl (lv_at hl 1 rfl) ?_
      refine va_iald (D := D) hx hb hK hP 3 0 rfl rfl (vp_in_nI (by omega) (by decide)) dX1_sumAt_26 ?_
      refine xv_int (y := wh q0) (congrArg wh (nI_clamp (by omega))) ?_
      refine lv_iadd hx hb dX1_sumAt_27 ?_
      refine lv_imul hx hb dX1_sumAt_28 ?_
      exact W.iret (v := (wf b0) * ((nI m0) + (wh q0))) hx hb hr (fun t ht hW => ⟨_, rfl, (by have w1 := (nI_ltI (a := q0) (b := lz) (by omega) (by omega)).mp (Int32.not_le.mp c_1); have w2 := (nI_ltI (a := 60) (b := m0) (by decide) (by omega)).mp (Int32.not_le.mp c_2); simp [sSu, w1, w2]), ht⟩) (fun _ h => absurd h List.not_mem_nil) dX1_sumAt_29

set_option maxHeartbeats 4000000 in
set_option maxRecDepth 100000 in
theorem g_X1_leastAt (l : Launch) (D : va_G) (cI cL cZ cC : ClassId) (pl : Nat) (p0 : Nat) (p1 : Nat) (p2 : Nat) (p3 : Nat) (p4 : Nat) (p5 : Nat) (lz : Nat) (rq : Int32) (q0 : Nat) (m0 : Nat) (rj : Nat → Int32) (sm : Nat → Int32) (wf : Nat → Int32) (wh : Nat → Int32) (hlz : lz ≤ 6) (hq0 : q0 ≤ 6) (hm0 : m0 ≤ 2000) : Met l yX1_leastAt wsX1_leastAt ({ frames := 2, cells := 0, slots := 0, locals := 45 } : Room) (xPc D [.ref pl, .int (nI q0), .int (nI m0)] [(pl, .inr (1, [.ref p0, .ref p1, .ref p2, .ref p3, .ref p4, .ref p5, .int (nI lz), .int rq])), (p0, .inl (cI, 5551, .inl sm)), (p1, .inl (cI, 13, .inl wf)), (p4, .inl (cI, 7, .inl wh)), (p2, .inl (cI, 7, .inl rj))] (xTy cI cL cZ cC)) (vp_Si (fun r : Int32 => r = sSu lz sm wf wh q0 m0 (xBn (rj q0) (nI m0) 0))) 0 0 (fun _ => False) := by
  refine Met.ofW (cc := cX1_leastAt) (maxL := 3) (ret := (some .int)) (by decide) rfl ?_
  intro p e s m args below meth c s₁ B hml hv
  obtain ⟨rfl, hP, hK⟩ := hv
  have hx := B.exec
  have hb := B.bytes
  have hr := B.returns
  have hts := atoms_spec (ws := wsX1_leastAt) B.pre
  have hown : s.vm.findClass RX1 = some m.cls := findClass_of_methodNamed B.named
  have hlocks := B.notSynchronized
  have hl := lv_entry ([.ref pl, .int (nI q0), .int (nI m0)]) (n := 3) (Nat.le_of_ble_eq_true rfl)
  rw [lg_entry_eq]
  generalize (lg_sl ([.ref pl, .int (nI q0), .int (nI m0)]) ++ List.replicate (3 - (lg_sl ([.ref pl, .int (nI q0), .int (nI m0)])).length) Slot.unset).toArray = ls at hl ⊢
  have hl : lv_has ls 3 [(0, .ref pl), (1, .int (nI q0)), (2, .int (nI m0))] := hl
  refine lv_aload_n hx hb dX1_leastAt_0 rfl (lv_at hl 0 rfl) ?_
  refine lv_iload_n hx hb dX1_leastAt_1 rfl (lv_at hl 1 rfl) ?_
  refine lv_iload_n hx hb dX1_leastAt_2 rfl (lv_at hl 2 rfl) ?_
  refine lv_aload_n hx hb dX1_leastAt_3 rfl (lv_at hl 0 rfl) ?_
  refine lv_iload_n hx hb dX1_leastAt_4 rfl (lv_at hl 1 rfl) ?_
  refine lv_iload_n hx hb dX1_leastAt_5 rfl (lv_at hl 2 rfl) ?_
  refine lv_iconst (v := 0) hx hb dX1_leastAt_6 (by decide) ?_
  have hPc := hP.sub (ws' := [(pl, .inr (1, [.ref p0, .ref p1, .ref p2, .ref p3, .ref p4, .ref p5, .int (nI lz), .int rq])), (p2, .inl (cI, 7, .inl rj))]) [0, 4] rfl
  refine vp_callSi (va_Run.run (va_runV (As := [.int (nI q0), .int (nI m0), .int 0]) (rest := [.int (nI m0), .int (nI q0), .ref pl]) ⟨hx, hb, hml, hown, hts⟩ (g_X1_boundAt l D cI cL cZ cC pl p0 p1 p2 p3 p4 p5 lz rq q0 (nI m0) 0 rj (by first | assumption | decide +kernel) (by first | assumption | decide +kernel)) (cwV 3 hts gX1_leastAt_X1_boundAt rfl rfl rfl (by decide +kernel) ⟨Nat.le_of_ble_eq_true rfl, Nat.le_of_ble_eq_true rfl⟩) ⟨xPc_bl, va_recv hK hPc (ci := 1) (q0 := 0) rfl rfl, xPc_use hPc hK⟩ rfl rfl hl.1 rfl (lv_room (Nat.le_of_ble_eq_true rfl)) dX1_leastAt_7 ⟨Nat.le_of_ble_eq_true rfl, Nat.le_of_ble_eq_true rfl⟩)) (fun r_1 er_1 => ?_)
  obtain rfl : (nI (xBn (rj q0) (nI m0) (0 : Int32)) : Int32) = r_1 := Eq.symm er_1
  have hPc := hP.sub (ws' := [(pl, .inr (1, [.ref p0, .ref p1, .ref p2, .ref p3, .ref p4, .ref p5, .int (nI lz), .int rq])), (p0, .inl (cI, 5551, .inl sm)), (p1, .inl (cI, 13, .inl wf)), (p4, .inl (cI, 7, .inl wh))]) [0, 1, 2, 3] rfl
  refine vp_callSi (va_Run.run (va_runV (As := [.int (nI q0), .int (nI m0), .int (nI (xBn (rj q0) (nI m0) (0 : Int32)))]) (rest := []) ⟨hx, hb, hml, hown, hts⟩ (g_X1_sumAt l D cI cL cZ cC pl p0 p1 p2 p3 p4 p5 lz rq q0 m0 (xBn (rj q0) (nI m0) 0) sm wf wh (by first | assumption | decide +kernel) (by first | assumption | decide +kernel) (by first | assumption | decide +kernel) (xBn_le _ _ _)) (cwV 3 hts gX1_leastAt_X1_sumAt rfl rfl rfl (by decide +kernel) ⟨Nat.le_of_ble_eq_true rfl, Nat.le_of_ble_eq_true rfl⟩) ⟨xPc_bl, va_recv hK hPc (ci := 1) (q0 := 0) rfl rfl, xPc_use hPc hK⟩ rfl rfl hl.1 rfl (lv_room (Nat.le_of_ble_eq_true rfl)) dX1_leastAt_10 ⟨Nat.le_of_ble_eq_true rfl, Nat.le_of_ble_eq_true rfl⟩)) (fun r_2 er_2 => ?_)
  obtain rfl : (sSu lz sm wf wh q0 m0 (xBn (rj q0) (nI m0) 0) : Int32) = r_2 := Eq.symm er_2
  exact W.iret (v := sSu lz sm wf wh q0 m0 (xBn (rj q0) (nI m0) 0)) hx hb hr (fun t ht hW => ⟨_, rfl, rfl, ht⟩) (fun _ h => absurd h List.not_mem_nil) dX1_leastAt_13

set_option maxHeartbeats 4000000 in
set_option maxRecDepth 100000 in
theorem g_X1_walkSum (l : Launch) (D : va_G) (cI cL cZ cC : ClassId) (pl : Nat) (p0 : Nat) (p1 : Nat) (p2 : Nat) (p3 : Nat) (p4 : Nat) (p5 : Nat) (lz : Nat) (rq : Int32) (q0 : Nat) (m0 : Nat) (b0 : Nat) (wn : Nat → Nat) (rj : Nat → Int32) (sm : Nat → Int32) (wf : Nat → Int32) (wh : Nat → Int32) (hlz : lz ≤ 6) (hq0 : q0 ≤ 5) (hm0 : m0 ≤ 1000) (hb0 : b0 ≤ 12) (hwn : wn q0 ≤ 1000) : Met l yX1_walkSum wsX1_walkSum ({ frames := 2, cells := 0, slots := 0, locals := 45 } : Room) (xPc D [.ref pl, .int (nI q0), .int (nI m0), .int (nI b0)] [(pl, .inr (1, [.ref p0, .ref p1, .ref p2, .ref p3, .ref p4, .ref p5, .int (nI lz), .int rq])), (p0, .inl (cI, 5551, .inl sm)), (p1, .inl (cI, 13, .inl wf)), (p2, .inl (cI, 7, .inl rj)), (p3, .inl (cI, 7, .inl (fun i => nI (wn i)))), (p4, .inl (cI, 7, .inl wh))] (xTy cI cL cZ cC)) (vp_Si (fun r : Int32 => r = (wf b0 - wf (xBn (rj (q0 + 1)) (nI (m0 + wn q0)) (nI b0))) * (nI m0 + wh q0) + sSu lz sm wf wh (q0 + 1) (m0 + wn q0) (xBn (rj (q0 + 1)) (nI (m0 + wn q0)) (nI b0)))) 0 0 (fun _ => False) := by
  refine Met.ofW (cc := cX1_walkSum) (maxL := 7) (ret := (some .int)) (by decide) rfl ?_
  intro p e s m args below meth c s₁ B hml hv
  obtain ⟨rfl, hP, hK⟩ := hv
  have hx := B.exec
  have hb := B.bytes
  have hr := B.returns
  have hts := atoms_spec (ws := wsX1_walkSum) B.pre
  have hown : s.vm.findClass RX1 = some m.cls := findClass_of_methodNamed B.named
  have hlocks := B.notSynchronized
  have hwX1 : ∀ w ∈ u_ws RX1 TX1 8, w ∈ wsX1_walkSum := fun _ h => List.mem_cons_of_mem _ (List.mem_append_right _ h)
  have hl := lv_entry ([.ref pl, .int (nI q0), .int (nI m0), .int (nI b0)]) (n := 7) (Nat.le_of_ble_eq_true rfl)
  rw [lg_entry_eq]
  generalize (lg_sl ([.ref pl, .int (nI q0), .int (nI m0), .int (nI b0)]) ++ List.replicate (7 - (lg_sl ([.ref pl, .int (nI q0), .int (nI m0), .int (nI b0)])).length) Slot.unset).toArray = ls at hl ⊢
  have hl : lv_has ls 7 [(0, .ref pl), (1, .int (nI q0)), (2, .int (nI m0)), (3, .int (nI b0))] := hl
  refine lv_iload_n hx hb dX1_walkSum_0 rfl (lv_at hl 2 rfl) ?_
  refine lv_aload_n hx hb dX1_walkSum_1 rfl (lv_at hl 0 rfl) ?_
  refine va_get (D := D) (ci := 1) (v := .ref p3) (C := RX1) (T := TX1) (N := 8) hx hb hts hwX1 hown hK hP 0 rfl rfl 3 (by decide) (hts (.fieldLink RX1 21 "WaitOrWalkOn$Plan" "walk" "[I") (by decide +kernel)) (fun _ h9 => h9) rfl dX1_walkSum_2 ?_
  refine lv_iload_n hx hb dX1_walkSum_5 rfl (lv_at hl 1 rfl) ?_
  refine va_iald (D := D) hx hb hK hP 4 0 rfl rfl (vp_in_nI (by omega) (by decide)) dX1_walkSum_6 ?_
  refine xv_int (y := nI (wn q0)) (congrArg (fun i => nI (wn i)) (nI_clamp (by omega))) ?_
  refine lv_iadd hx hb dX1_walkSum_7 ?_
  refine xv_int (y := nI (m0 + wn q0)) (nI_add _ _) ?_
  refine lv_istore (lv' := [(4, .int (nI (m0 + wn q0))), (0, .ref pl), (1, .int (nI q0)), (2, .int (nI m0)), (3, .int (nI b0))]) hx hb dX1_walkSum_8 hl (by decide) rfl (fun ls hl => ?_)
  refine lv_aload_n hx hb dX1_walkSum_10 rfl (lv_at hl 1 rfl) ?_
  refine lv_iload_n hx hb dX1_walkSum_11 rfl (lv_at hl 2 rfl) ?_
  refine lv_iconst (v := 1) hx hb dX1_walkSum_12 (by decide) ?_
  refine lv_iadd hx hb dX1_walkSum_13 ?_
  refine xv_int (y := nI (q0 + 1)) (nI_1 q0) ?_
  refine lv_iload hx hb dX1_walkSum_14 (lv_at hl 0 rfl) ?_
  refine lv_iload_n hx hb dX1_walkSum_16 rfl (lv_at hl 4 rfl) ?_
  have hPc := hP.sub (ws' := [(pl, .inr (1, [.ref p0, .ref p1, .ref p2, .ref p3, .ref p4, .ref p5, .int (nI lz), .int rq])), (p2, .inl (cI, 7, .inl rj))]) [0, 3] rfl
  refine vp_callSi (va_Run.run (va_runV (As := [.int (nI (q0 + 1)), .int (nI (m0 + wn q0)), .int (nI b0)]) (rest := []) ⟨hx, hb, hml, hown, hts⟩ (g_X1_boundAt l D cI cL cZ cC pl p0 p1 p2 p3 p4 p5 lz rq (q0 + 1) (nI (m0 + wn q0)) (nI b0) rj (by omega) (xNn (by omega))) (cwV 3 hts gX1_walkSum_X1_boundAt rfl rfl rfl (by decide +kernel) ⟨Nat.le_of_ble_eq_true rfl, Nat.le_of_ble_eq_true rfl⟩) ⟨xPc_bl, va_recv hK hPc (ci := 1) (q0 := 0) rfl rfl, xPc_use hPc hK⟩ rfl rfl hl.1 rfl (lv_room (Nat.le_of_ble_eq_true rfl)) dX1_walkSum_17 ⟨Nat.le_of_ble_eq_true rfl, Nat.le_of_ble_eq_true rfl⟩)) (fun r_1 er_1 => ?_)
  obtain rfl : (nI (xBn (rj (q0 + 1)) (nI (m0 + wn q0)) (nI b0)) : Int32) = r_1 := Eq.symm er_1
  refine lv_istore (lv' := [(5, .int (nI (xBn (rj (q0 + 1)) (nI (m0 + wn q0)) (nI b0)))), (4, .int (nI (m0 + wn q0))), (0, .ref pl), (1, .int (nI q0)), (2, .int (nI m0)), (3, .int (nI b0))]) hx hb dX1_walkSum_20 hl (by decide) rfl (fun ls hl => ?_)
  refine lv_aload_n hx hb dX1_walkSum_22 rfl (lv_at hl 2 rfl) ?_
  refine va_get (D := D) (ci := 1) (v := .ref p1) (C := RX1) (T := TX1) (N := 8) hx hb hts hwX1 hown hK hP 0 rfl rfl 1 (by decide) (hts (.fieldLink RX1 15 "WaitOrWalkOn$Plan" "weightFrom" "[I") (by decide +kernel)) (fun _ h9 => h9) rfl dX1_walkSum_23 ?_
  refine lv_iload_n hx hb dX1_walkSum_26 rfl (lv_at hl 5 rfl) ?_
  refine va_iald (D := D) hx hb hK hP 2 0 rfl rfl (vp_in_nI (by omega) (by decide)) dX1_walkSum_27 ?_
  refine xv_int (y := wf b0) (congrArg wf (nI_clamp (by omega))) ?_
  refine lv_aload_n hx hb dX1_walkSum_28 rfl (lv_at hl 2 rfl) ?_
  refine va_get (D := D) (ci := 1) (v := .ref p1) (C := RX1) (T := TX1) (N := 8) hx hb hts hwX1 hown hK hP 0 rfl rfl 1 (by decide) (hts (.fieldLink RX1 15 "WaitOrWalkOn$Plan" "weightFrom" "[I") (by decide +kernel)) (fun _ h9 => h9) rfl dX1_walkSum_29 ?_
  refine lv_iload hx hb dX1_walkSum_32 (lv_at hl 0 rfl) ?_
  refine va_iald (D := D) hx hb hK hP 2 0 rfl rfl (vp_in_nI (Nat.lt_succ_of_le (xBn_le _ _ _)) (by decide)) dX1_walkSum_34 ?_
  refine xv_int (y := wf (xBn (rj (q0 + 1)) (nI (m0 + wn q0)) (nI b0))) (congrArg wf (nI_clamp (by have w := xBn_le (rj (q0 + 1)) (nI (m0 + wn q0)) (nI b0); omega))) ?_
  refine lv_isub hx hb dX1_walkSum_35 ?_
  refine lv_istore (lv' := [(6, .int ((wf b0) - (wf (xBn (rj (q0 + 1)) (nI (m0 + wn q0)) (nI b0))))), (5, .int (nI (xBn (rj (q0 + 1)) (nI (m0 + wn q0)) (nI b0)))), (4, .int (nI (m0 + wn q0))), (0, .ref pl), (1, .int (nI q0)), (2, .int (nI m0)), (3, .int (nI b0))]) hx hb dX1_walkSum_36 hl (by decide) rfl (fun ls hl => ?_)
  refine lv_iload hx hb dX1_walkSum_38 (lv_at hl 0 rfl) ?_
  refine lv_iload_n hx hb dX1_walkSum_40 rfl (lv_at hl 5 rfl) ?_
  refine lv_aload_n hx hb dX1_walkSum_41 rfl (lv_at hl 3 rfl) ?_
  refine va_get (D := D) (ci := 1) (v := .ref p4) (C := RX1) (T := TX1) (N := 8) hx hb hts hwX1 hown hK hP 0 rfl rfl 4 (by decide) (hts (.fieldLink RX1 24 "WaitOrWalkOn$Plan" "walkHome" "[I") (by decide +kernel)) (fun _ h9 => h9) rfl dX1_walkSum_42 ?_
  refine lv_iload_n hx hb dX1_walkSum_45 rfl (lv_at hl 4 rfl) ?_
  refine va_iald (D := D) hx hb hK hP 5 0 rfl rfl (vp_in_nI (by omega) (by decide)) dX1_walkSum_46 ?_
  refine xv_int (y := wh q0) (congrArg wh (nI_clamp (by omega))) ?_
  refine lv_iadd hx hb dX1_walkSum_47 ?_
  refine lv_imul hx hb dX1_walkSum_48 ?_
  refine lv_aload_n hx hb dX1_walkSum_49 rfl (lv_at hl 3 rfl) ?_
  refine lv_iload_n hx hb dX1_walkSum_50 rfl (lv_at hl 4 rfl) ?_
  refine lv_iconst (v := 1) hx hb dX1_walkSum_51 (by decide) ?_
  refine lv_iadd hx hb dX1_walkSum_52 ?_
  refine xv_int (y := nI (q0 + 1)) (nI_1 q0) ?_
  refine lv_iload hx hb dX1_walkSum_53 (lv_at hl 2 rfl) ?_
  refine lv_iload hx hb dX1_walkSum_55 (lv_at hl 1 rfl) ?_
  have hPc := hP.sub (ws' := [(pl, .inr (1, [.ref p0, .ref p1, .ref p2, .ref p3, .ref p4, .ref p5, .int (nI lz), .int rq])), (p0, .inl (cI, 5551, .inl sm)), (p1, .inl (cI, 13, .inl wf)), (p4, .inl (cI, 7, .inl wh))]) [0, 1, 2, 5] rfl
  refine vp_callSi (va_Run.run (va_runV (As := [.int (nI (q0 + 1)), .int (nI (m0 + wn q0)), .int (nI (xBn (rj (q0 + 1)) (nI (m0 + wn q0)) (nI b0)))]) (rest := [.int (((wf b0) - (wf (xBn (rj (q0 + 1)) (nI (m0 + wn q0)) (nI b0)))) * ((nI m0) + (wh q0)))]) ⟨hx, hb, hml, hown, hts⟩ (g_X1_sumAt l D cI cL cZ cC pl p0 p1 p2 p3 p4 p5 lz rq (q0 + 1) (m0 + wn q0) (xBn (rj (q0 + 1)) (nI (m0 + wn q0)) (nI b0)) sm wf wh (by first | assumption | decide +kernel) (by omega) (by omega) (xBn_le _ _ _)) (cwV 3 hts gX1_walkSum_X1_sumAt rfl rfl rfl (by decide +kernel) ⟨Nat.le_of_ble_eq_true rfl, Nat.le_of_ble_eq_true rfl⟩) ⟨xPc_bl, va_recv hK hPc (ci := 1) (q0 := 0) rfl rfl, xPc_use hPc hK⟩ rfl rfl hl.1 rfl (lv_room (Nat.le_of_ble_eq_true rfl)) dX1_walkSum_57 ⟨Nat.le_of_ble_eq_true rfl, Nat.le_of_ble_eq_true rfl⟩)) (fun r_2 er_2 => ?_)
  obtain rfl : (sSu lz sm wf wh (q0 + 1) (m0 + wn q0) (xBn (rj (q0 + 1)) (nI (m0 + wn q0)) (nI b0)) : Int32) = r_2 := Eq.symm er_2
  refine lv_iadd hx hb dX1_walkSum_60 ?_
  exact W.iret (v := (((wf b0) - (wf (xBn (rj (q0 + 1)) (nI (m0 + wn q0)) (nI b0)))) * ((nI m0) + (wh q0))) + (sSu lz sm wf wh (q0 + 1) (m0 + wn q0) (xBn (rj (q0 + 1)) (nI (m0 + wn q0)) (nI b0)))) hx hb hr (fun t ht hW => ⟨_, rfl, rfl, ht⟩) (fun _ h => absurd h List.not_mem_nil) dX1_walkSum_61
