set_option maxHeartbeats 4000000 in
set_option maxRecDepth 100000 in
theorem g_X1_choice (l : Launch) (D : va_G) (cI cL cZ cC : ClassId) (pl : Nat) (p0 : Nat) (p1 : Nat) (p2 : Nat) (p3 : Nat) (p4 : Nat) (p5 : Nat) (lz : Nat) (rq : Int32) (q0 : Nat) (m0 : Nat) (wn : Nat → Nat) (rj : Nat → Int32) (sm : Nat → Int32) (wf : Nat → Int32) (wh : Nat → Int32) (hlz : lz ≤ 6) (hq0 : q0 ≤ 6) (hm0 : m0 ≤ 60) (hwn : ∀ i, i ≤ 6 → wn i ≤ 1000) : Met l yX1_choice wsX1_choice ({ frames := 3, cells := 0, slots := 0, locals := 71 } : Room) (xPc D [.ref pl, .int (nI q0), .int (nI m0)] [(pl, .inr (1, [.ref p0, .ref p1, .ref p2, .ref p3, .ref p4, .ref p5, .int (nI lz), .int rq])), (p0, .inl (cI, 5551, .inl sm)), (p1, .inl (cI, 13, .inl wf)), (p2, .inl (cI, 7, .inl rj)), (p3, .inl (cI, 7, .inl (fun i => nI (wn i)))), (p4, .inl (cI, 7, .inl wh))] (xTy cI cL cZ cC)) (vp_Si (fun r : Int32 => r = xCh9 lz sm wf rj wn wh q0 m0)) 0 0 (fun _ => False) := by
  refine Met.ofW (cc := cX1_choice) (maxL := 4) (ret := (some .int)) (by decide) rfl ?_
  intro p e s m args below meth c s₁ B hml hv
  obtain ⟨rfl, hP, hK⟩ := hv
  have hx := B.exec
  have hb := B.bytes
  have hr := B.returns
  have hts := atoms_spec (ws := wsX1_choice) B.pre
  have hown : s.vm.findClass RX1 = some m.cls := findClass_of_methodNamed B.named
  have hlocks := B.notSynchronized
  have hwX1 : ∀ w ∈ u_ws RX1 TX1 8, w ∈ wsX1_choice := fun _ h => List.mem_cons_of_mem _ (List.mem_append_right _ h)
  have hl := lv_entry ([.ref pl, .int (nI q0), .int (nI m0)]) (n := 4) (Nat.le_of_ble_eq_true rfl)
  rw [lg_entry_eq]
  generalize (lg_sl ([.ref pl, .int (nI q0), .int (nI m0)]) ++ List.replicate (4 - (lg_sl ([.ref pl, .int (nI q0), .int (nI m0)])).length) Slot.unset).toArray = ls at hl ⊢
  have hl : lv_has ls 4 [(0, .ref pl), (1, .int (nI q0)), (2, .int (nI m0))] := hl
  refine lv_aload_n hx hb dX1_choice_0 rfl (lv_at hl 0 rfl) ?_
  refine lv_iload_n hx hb dX1_choice_1 rfl (lv_at hl 1 rfl) ?_
  refine lv_iload_n hx hb dX1_choice_2 rfl (lv_at hl 2 rfl) ?_
  have hPc := hP.sub (ws' := [(pl, .inr (1, [.ref p0, .ref p1, .ref p2, .ref p3, .ref p4, .ref p5, .int (nI lz), .int rq])), (p2, .inl (cI, 7, .inl rj)), (p1, .inl (cI, 13, .inl wf))]) [0, 3, 2] rfl
  refine vp_callSi (va_Run.run (va_runV (As := [.int (nI q0), .int (nI m0)]) (rest := []) ⟨hx, hb, hml, hown, hts⟩ (g_X1_weightAt l D cI cL cZ cC pl p0 p1 p2 p3 p4 p5 lz rq q0 (nI m0) rj wf (by first | assumption | decide +kernel)) (cwV 2 hts gX1_choice_X1_weightAt rfl rfl rfl (by decide +kernel) ⟨Nat.le_of_ble_eq_true rfl, Nat.le_of_ble_eq_true rfl⟩) ⟨xPc_bl, va_recv hK hPc (ci := 1) (q0 := 0) rfl rfl, xPc_use hPc hK⟩ rfl rfl hl.1 rfl (lv_room (Nat.le_of_ble_eq_true rfl)) dX1_choice_3 ⟨Nat.le_of_ble_eq_true rfl, Nat.le_of_ble_eq_true rfl⟩)) (fun r_1 er_1 => ?_)
  obtain rfl : (wf (xBn (rj q0) (nI m0) 0) : Int32) = r_1 := Eq.symm er_1
  refine lv_if_ne (tgt := 12) hx hb dX1_choice_6 (by decide) (fun c_2 => ?_) (fun c_2 => ?_)
  · refine lv_iload_n hx hb dX1_choice_12 rfl (lv_at hl 1 rfl) ?_
    refine lv_aload_n hx hb dX1_choice_13 rfl (lv_at hl 0 rfl) ?_
    refine va_get (D := D) (ci := 1) (v := .int (nI lz)) (C := RX1) (T := TX1) (N := 8) hx hb hts hwX1 hown hK hP 0 rfl rfl 6 (by decide) (hts (.fieldLink RX1 37 "WaitOrWalkOn$Plan" "last" "I") (by decide +kernel)) (fun _ h9 => h9) rfl dX1_choice_14 ?_
    refine lv_icmp_ge (tgt := 26) hx hb dX1_choice_17 (by decide) (fun c_3 => ?_) (fun c_3 => ?_)
    · refine lv_iconst (v := 1) hx hb dX1_choice_26 (by decide) ?_
      exact W.iret (v := 1) hx hb hr (fun t ht hW => ⟨_, rfl, (by have w1 := mt (nI_ltI (a := q0) (b := lz) (by omega) (by omega)).mpr (Int32.not_lt.mpr c_3); simp [xCh9, c_2, w1]), ht⟩) (fun _ h => absurd h List.not_mem_nil) dX1_choice_27
    · refine lv_iload_n hx hb dX1_choice_20 rfl (lv_at hl 2 rfl) ?_
      refine lv_bipush (v := 60) hx hb dX1_choice_21 (by decide) ?_
      refine lv_icmp_lt (tgt := 28) hx hb dX1_choice_23 (by decide) (fun c_4 => ?_) (fun c_4 => ?_)
      · refine lv_aload_n hx hb dX1_choice_28 rfl (lv_at hl 0 rfl) ?_
        refine lv_iload_n hx hb dX1_choice_29 rfl (lv_at hl 1 rfl) ?_
        refine lv_iload_n hx hb dX1_choice_30 rfl (lv_at hl 2 rfl) ?_
        refine lv_iconst (v := 1) hx hb dX1_choice_31 (by decide) ?_
        refine lv_iadd hx hb dX1_choice_32 ?_
        refine xv_int (y := nI (m0 + 1)) (nI_1 m0) ?_
        refine lv_iconst (v := 0) hx hb dX1_choice_33 (by decide) ?_
        have hPc := hP.sub (ws' := [(pl, .inr (1, [.ref p0, .ref p1, .ref p2, .ref p3, .ref p4, .ref p5, .int (nI lz), .int rq])), (p2, .inl (cI, 7, .inl rj))]) [0, 3] rfl
        refine vp_callSi (va_Run.run (va_runV (As := [.int (nI q0), .int (nI (m0 + 1)), .int 0]) (rest := []) ⟨hx, hb, hml, hown, hts⟩ (g_X1_boundAt l D cI cL cZ cC pl p0 p1 p2 p3 p4 p5 lz rq q0 (nI (m0 + 1)) 0 rj (by first | assumption | decide +kernel) (by first | assumption | decide +kernel)) (cwV 3 hts gX1_choice_X1_boundAt rfl rfl rfl (by decide +kernel) ⟨Nat.le_of_ble_eq_true rfl, Nat.le_of_ble_eq_true rfl⟩) ⟨xPc_bl, va_recv hK hPc (ci := 1) (q0 := 0) rfl rfl, xPc_use hPc hK⟩ rfl rfl hl.1 rfl (lv_room (Nat.le_of_ble_eq_true rfl)) dX1_choice_34 ⟨Nat.le_of_ble_eq_true rfl, Nat.le_of_ble_eq_true rfl⟩)) (fun r_5 er_5 => ?_)
        obtain rfl : (nI (xBn (rj q0) (nI (m0 + 1)) (0 : Int32)) : Int32) = r_5 := Eq.symm er_5
        refine lv_istore_n (lv' := [(3, .int (nI (xBn (rj q0) (nI (m0 + 1)) (0 : Int32)))), (0, .ref pl), (1, .int (nI q0)), (2, .int (nI m0))]) hx hb dX1_choice_37 rfl hl (by decide) rfl (fun ls hl => ?_)
        refine lv_aload_n hx hb dX1_choice_38 rfl (lv_at hl 1 rfl) ?_
        refine lv_iload_n hx hb dX1_choice_39 rfl (lv_at hl 2 rfl) ?_
        refine lv_iload_n hx hb dX1_choice_40 rfl (lv_at hl 3 rfl) ?_
        refine lv_iload_n hx hb dX1_choice_41 rfl (lv_at hl 0 rfl) ?_
        have hPc := hP.sub (ws' := [(pl, .inr (1, [.ref p0, .ref p1, .ref p2, .ref p3, .ref p4, .ref p5, .int (nI lz), .int rq])), (p0, .inl (cI, 5551, .inl sm)), (p1, .inl (cI, 13, .inl wf)), (p2, .inl (cI, 7, .inl rj)), (p3, .inl (cI, 7, .inl (fun i => nI (wn i)))), (p4, .inl (cI, 7, .inl wh))]) [0, 1, 2, 3, 4, 5] rfl
        refine vp_callSi (va_Run.run (va_runV (As := [.int (nI q0), .int (nI m0), .int (nI (xBn (rj q0) (nI (m0 + 1)) (0 : Int32)))]) (rest := []) ⟨hx, hb, hml, hown, hts⟩ (g_X1_walkSum l D cI cL cZ cC pl p0 p1 p2 p3 p4 p5 lz rq q0 m0 (xBn (rj q0) (nI (m0 + 1)) 0) wn rj sm wf wh (by first | assumption | decide +kernel) (by have w1 := (nI_ltI (a := q0) (b := lz) (by omega) (by omega)).mp (Int32.not_le.mp c_3); have w2 := (nI_ltI (a := m0) (b := 60) (by omega) (by omega)).mp c_4; omega) (by omega) (xBn_le _ _ _) (hwn _ hq0)) (cwV 3 hts gX1_choice_X1_walkSum rfl rfl rfl (by decide +kernel) ⟨Nat.le_of_ble_eq_true rfl, Nat.le_of_ble_eq_true rfl⟩) ⟨xPc_bl, va_recv hK hPc (ci := 1) (q0 := 0) rfl rfl, xPc_use hPc hK⟩ rfl rfl hl.1 rfl (lv_room (Nat.le_of_ble_eq_true rfl)) dX1_choice_42 ⟨Nat.le_of_ble_eq_true rfl, Nat.le_of_ble_eq_true rfl⟩)) (fun r_6 er_6 => ?_)
        obtain rfl : ((wf (xBn (rj q0) (nI (m0 + 1)) 0) - wf (xBn (rj (q0 + 1)) (nI (m0 + wn q0)) (nI (xBn (rj q0) (nI (m0 + 1)) 0)))) * (nI m0 + wh q0) + sSu lz sm wf wh (q0 + 1) (m0 + wn q0) (xBn (rj (q0 + 1)) (nI (m0 + wn q0)) (nI (xBn (rj q0) (nI (m0 + 1)) 0))) : Int32) = r_6 := Eq.symm er_6
        refine lv_aload_n hx hb dX1_choice_45 rfl (lv_at hl 1 rfl) ?_
        refine lv_iload_n hx hb dX1_choice_46 rfl (lv_at hl 2 rfl) ?_
        refine lv_iload_n hx hb dX1_choice_47 rfl (lv_at hl 3 rfl) ?_
        refine lv_iconst (v := 1) hx hb dX1_choice_48 (by decide) ?_
        refine lv_iadd hx hb dX1_choice_49 ?_
        refine xv_int (y := nI (m0 + 1)) (nI_1 m0) ?_
        refine lv_iload_n hx hb dX1_choice_50 rfl (lv_at hl 0 rfl) ?_
        have hPc := hP.sub (ws' := [(pl, .inr (1, [.ref p0, .ref p1, .ref p2, .ref p3, .ref p4, .ref p5, .int (nI lz), .int rq])), (p0, .inl (cI, 5551, .inl sm)), (p1, .inl (cI, 13, .inl wf)), (p4, .inl (cI, 7, .inl wh))]) [0, 1, 2, 5] rfl
        refine vp_callSi (va_Run.run (va_runV (As := [.int (nI q0), .int (nI (m0 + 1)), .int (nI (xBn (rj q0) (nI (m0 + 1)) (0 : Int32)))]) (rest := [.int ((wf (xBn (rj q0) (nI (m0 + 1)) 0) - wf (xBn (rj (q0 + 1)) (nI (m0 + wn q0)) (nI (xBn (rj q0) (nI (m0 + 1)) 0)))) * (nI m0 + wh q0) + sSu lz sm wf wh (q0 + 1) (m0 + wn q0) (xBn (rj (q0 + 1)) (nI (m0 + wn q0)) (nI (xBn (rj q0) (nI (m0 + 1)) 0))))]) ⟨hx, hb, hml, hown, hts⟩ (g_X1_sumAt l D cI cL cZ cC pl p0 p1 p2 p3 p4 p5 lz rq q0 (m0 + 1) (xBn (rj q0) (nI (m0 + 1)) 0) sm wf wh (by first | assumption | decide +kernel) (by first | assumption | decide +kernel) (by omega) (xBn_le _ _ _)) (cwV 3 hts gX1_choice_X1_sumAt rfl rfl rfl (by decide +kernel) ⟨Nat.le_of_ble_eq_true rfl, Nat.le_of_ble_eq_true rfl⟩) ⟨xPc_bl, va_recv hK hPc (ci := 1) (q0 := 0) rfl rfl, xPc_use hPc hK⟩ rfl rfl hl.1 rfl (lv_room (Nat.le_of_ble_eq_true rfl)) dX1_choice_51 ⟨Nat.le_of_ble_eq_true rfl, Nat.le_of_ble_eq_true rfl⟩)) (fun r_7 er_7 => ?_)
        obtain rfl : (sSu lz sm wf wh q0 (m0 + 1) (xBn (rj q0) (nI (m0 + 1)) 0) : Int32) = r_7 := Eq.symm er_7
        refine lv_icmp_ge (tgt := 61) hx hb dX1_choice_54 (by decide) (fun c_8 => ?_) (fun c_8 => ?_)
        · refine lv_iconst (v := 0) hx hb dX1_choice_61 (by decide) ?_
          exact W.iret (v := 0) hx hb hr (fun t ht hW => ⟨_, rfl, (by have w1 := (nI_ltI (a := q0) (b := lz) (by omega) (by omega)).mp (Int32.not_le.mp c_3); have w2 := (nI_ltI (a := m0) (b := 60) (by omega) (by omega)).mp c_4; simp [xCh9, c_2, w1, w2, Int32.not_lt.mp (Int32.not_lt.mpr c_8)]), ht⟩) (fun _ h => absurd h List.not_mem_nil) dX1_choice_62
        · refine lv_iconst (v := 1) hx hb dX1_choice_57 (by decide) ?_
          refine lv_goto (tgt := 62) hx hb dX1_choice_58 (by decide) ?_
          exact W.iret (v := 1) hx hb hr (fun t ht hW => ⟨_, rfl, (by have w1 := (nI_ltI (a := q0) (b := lz) (by omega) (by omega)).mp (Int32.not_le.mp c_3); have w2 := (nI_ltI (a := m0) (b := 60) (by omega) (by omega)).mp c_4; simp [xCh9, c_2, w1, w2, (Int32.not_le.mp c_8)]), ht⟩) (fun _ h => absurd h List.not_mem_nil) dX1_choice_62
      · refine lv_iconst (v := 1) hx hb dX1_choice_26 (by decide) ?_
        exact W.iret (v := 1) hx hb hr (fun t ht hW => ⟨_, rfl, (by have w1 := (nI_ltI (a := q0) (b := lz) (by omega) (by omega)).mp (Int32.not_le.mp c_3); have w2 := mt (nI_ltI (a := m0) (b := 60) (by omega) (by omega)).mpr c_4; simp [xCh9, c_2, w1, w2]), ht⟩) (fun _ h => absurd h List.not_mem_nil) dX1_choice_27
  · refine lv_bipush (v := -9) hx hb dX1_choice_9 (by decide) ?_
    exact W.iret (v := -9) hx hb hr (fun t ht hW => ⟨_, rfl, (by simp [xCh9, c_2]), ht⟩) (fun _ h => absurd h List.not_mem_nil) dX1_choice_11

set_option maxHeartbeats 4000000 in
set_option maxRecDepth 100000 in
theorem g_X1_leastSum (l : Launch) (D : va_G) (cI cL cZ cC : ClassId) (pl : Nat) (p0 : Nat) (p1 : Nat) (p2 : Nat) (p3 : Nat) (p4 : Nat) (p5 : Nat) (lz : Nat) (rq : Int32) (q0 : Nat) (m0 : Nat) (b0 : Nat) (wn : Nat → Nat) (rj : Nat → Int32) (sm : Nat → Int32) (wf : Nat → Int32) (wh : Nat → Int32) (hz : Nat → Int32) (hlz : lz ≤ 6) (hq0 : q0 ≤ 5) (hm0 : m0 ≤ 60) (hb0 : b0 ≤ 12) (hwn : wn q0 ≤ 1000) : Met l yX1_leastSum wsX1_leastSum ({ frames := 3, cells := 0, slots := 0, locals := 71 } : Room) (xPc D [.ref pl, .int (nI q0), .int (nI m0), .int (nI b0)] [(pl, .inr (1, [.ref p0, .ref p1, .ref p2, .ref p3, .ref p4, .ref p5, .int (nI lz), .int rq])), (p0, .inl (cI, 5551, .inl sm)), (p1, .inl (cI, 13, .inl wf)), (p2, .inl (cI, 7, .inl rj)), (p3, .inl (cI, 7, .inl (fun i => nI (wn i)))), (p4, .inl (cI, 7, .inl wh)), (p5, .inl (cZ, 7, .inl hz))] (xTy cI cL cZ cC)) (vp_Si (fun r : Int32 => r = xLs lz rq sm wf rj wn wh hz q0 m0 b0)) 0 0 (fun _ => False) := by
  refine Met.ofW (cc := cX1_leastSum) (maxL := 9) (ret := (some .int)) (by decide) rfl ?_
  intro p e s m args below meth c s₁ B hml hv
  obtain ⟨rfl, hP, hK⟩ := hv
  have hx := B.exec
  have hb := B.bytes
  have hr := B.returns
  have hts := atoms_spec (ws := wsX1_leastSum) B.pre
  have hown : s.vm.findClass RX1 = some m.cls := findClass_of_methodNamed B.named
  have hlocks := B.notSynchronized
  have hwX1 : ∀ w ∈ u_ws RX1 TX1 8, w ∈ wsX1_leastSum := fun _ h => List.mem_cons_of_mem _ (List.mem_append_right _ h)
  have hl := lv_entry ([.ref pl, .int (nI q0), .int (nI m0), .int (nI b0)]) (n := 9) (Nat.le_of_ble_eq_true rfl)
  rw [lg_entry_eq]
  generalize (lg_sl ([.ref pl, .int (nI q0), .int (nI m0), .int (nI b0)]) ++ List.replicate (9 - (lg_sl ([.ref pl, .int (nI q0), .int (nI m0), .int (nI b0)])).length) Slot.unset).toArray = ls at hl ⊢
  have hl : lv_has ls 9 [(0, .ref pl), (1, .int (nI q0)), (2, .int (nI m0)), (3, .int (nI b0))] := hl
  refine lv_iload_n hx hb dX1_leastSum_0 rfl (lv_at hl 2 rfl) ?_
  refine lv_aload_n hx hb dX1_leastSum_1 rfl (lv_at hl 0 rfl) ?_
  refine va_get (D := D) (ci := 1) (v := .ref p2) (C := RX1) (T := TX1) (N := 8) hx hb hts hwX1 hown hK hP 0 rfl rfl 2 (by decide) (hts (.fieldLink RX1 18 "WaitOrWalkOn$Plan" "ride" "[I") (by decide +kernel)) (fun _ h9 => h9) rfl dX1_leastSum_2 ?_
  refine lv_iload_n hx hb dX1_leastSum_5 rfl (lv_at hl 1 rfl) ?_
  refine va_iald (D := D) hx hb hK hP 3 0 rfl rfl (vp_in_nI (by omega) (by decide)) dX1_leastSum_6 ?_
  refine xv_int (y := rj q0) (congrArg rj (nI_clamp (by omega))) ?_
  refine lv_isub hx hb dX1_leastSum_7 ?_
  refine lv_istore (lv' := [(4, .int ((nI m0) - (rj q0))), (0, .ref pl), (1, .int (nI q0)), (2, .int (nI m0)), (3, .int (nI b0))]) hx hb dX1_leastSum_8 hl (by decide) rfl (fun ls hl => ?_)
  refine xl_cut (σ := Unit) 44 (fun _ => [.int (xW9 wf (nI m0 - rj q0) b0)]) (fun _ ls => lv_has ls 9 [(4, .int ((nI m0) - (rj q0))), (0, .ref pl), (1, .int (nI q0)), (2, .int (nI m0)), (3, .int (nI b0))]) ?_ ?_
  · intro _ ls hl
    refine lv_istore (lv' := [(5, .int (xW9 wf (nI m0 - rj q0) b0)), (4, .int ((nI m0) - (rj q0))), (0, .ref pl), (1, .int (nI q0)), (2, .int (nI m0)), (3, .int (nI b0))]) hx hb dX1_leastSum_44 hl (by decide) rfl (fun ls hl => ?_)
    refine lv_iload_n hx hb dX1_leastSum_46 rfl (lv_at hl 4 rfl) ?_
    refine lv_aload_n hx hb dX1_leastSum_47 rfl (lv_at hl 2 rfl) ?_
    refine va_get (D := D) (ci := 1) (v := .ref p4) (C := RX1) (T := TX1) (N := 8) hx hb hts hwX1 hown hK hP 0 rfl rfl 4 (by decide) (hts (.fieldLink RX1 24 "WaitOrWalkOn$Plan" "walkHome" "[I") (by decide +kernel)) (fun _ h9 => h9) rfl dX1_leastSum_48 ?_
    refine lv_iload_n hx hb dX1_leastSum_51 rfl (lv_at hl 3 rfl) ?_
    refine va_iald (D := D) hx hb hK hP 5 0 rfl rfl (vp_in_nI (by omega) (by decide)) dX1_leastSum_52 ?_
    refine xv_int (y := wh q0) (congrArg wh (nI_clamp (by omega))) ?_
    refine lv_iadd hx hb dX1_leastSum_53 ?_
    refine lv_istore (lv' := [(6, .int ((nI m0) + (wh q0))), (5, .int (xW9 wf (nI m0 - rj q0) b0)), (4, .int ((nI m0) - (rj q0))), (0, .ref pl), (1, .int (nI q0)), (2, .int (nI m0)), (3, .int (nI b0))]) hx hb dX1_leastSum_54 hl (by decide) rfl (fun ls hl => ?_)
    refine lv_iload hx hb dX1_leastSum_56 (lv_at hl 1 rfl) ?_
    refine lv_aload_n hx hb dX1_leastSum_58 rfl (lv_at hl 3 rfl) ?_
    refine va_get (D := D) (ci := 1) (v := .ref p5) (C := RX1) (T := TX1) (N := 8) hx hb hts hwX1 hown hK hP 0 rfl rfl 5 (by decide) (hts (.fieldLink RX1 27 "WaitOrWalkOn$Plan" "halts" "[Z") (by decide +kernel)) (fun _ h9 => h9) rfl dX1_leastSum_59 ?_
    refine lv_iload_n hx hb dX1_leastSum_62 rfl (lv_at hl 4 rfl) ?_
    refine va_zald (D := D) hx hb hK hP 6 2 rfl rfl (vp_in_nI (by omega) (by decide)) dX1_leastSum_63 ?_
    refine xv_int (y := hz q0) (congrArg hz (nI_clamp (by omega))) ?_
    refine lv_if_eq (tgt := 77) hx hb dX1_leastSum_64 (by decide) (fun c_1 => ?_) (fun c_1 => ?_)
    · refine lv_iload hx hb dX1_leastSum_77 (lv_at hl 0 rfl) ?_
      refine lv_imul hx hb dX1_leastSum_79 ?_
      refine lv_istore (lv' := [(7, .int ((xW9 wf (nI m0 - rj q0) b0) * ((nI m0) + (wh q0)))), (6, .int ((nI m0) + (wh q0))), (5, .int (xW9 wf (nI m0 - rj q0) b0)), (4, .int ((nI m0) - (rj q0))), (0, .ref pl), (1, .int (nI q0)), (2, .int (nI m0)), (3, .int (nI b0))]) hx hb dX1_leastSum_80 hl (by decide) rfl (fun ls hl => ?_)
      refine lv_iload_n hx hb dX1_leastSum_82 rfl (lv_at hl 6 rfl) ?_
      refine lv_bipush (v := 60) hx hb dX1_leastSum_83 (by decide) ?_
      refine lv_icmp_lt (tgt := 104) hx hb dX1_leastSum_85 (by decide) (fun c_2 => ?_) (fun c_2 => ?_)
      · refine lv_aload_n hx hb dX1_leastSum_104 rfl (lv_at hl 4 rfl) ?_
        refine lv_iload_n hx hb dX1_leastSum_105 rfl (lv_at hl 5 rfl) ?_
        refine lv_iload_n hx hb dX1_leastSum_106 rfl (lv_at hl 6 rfl) ?_
        refine lv_iconst (v := 1) hx hb dX1_leastSum_107 (by decide) ?_
        refine lv_iadd hx hb dX1_leastSum_108 ?_
        refine xv_int (y := nI (m0 + 1)) (nI_1 m0) ?_
        refine lv_iload_n hx hb dX1_leastSum_109 rfl (lv_at hl 7 rfl) ?_
        have hPc := hP.sub (ws' := [(pl, .inr (1, [.ref p0, .ref p1, .ref p2, .ref p3, .ref p4, .ref p5, .int (nI lz), .int rq])), (p2, .inl (cI, 7, .inl rj))]) [0, 3] rfl
        refine vp_callSi (va_Run.run (va_runV (As := [.int (nI q0), .int (nI (m0 + 1)), .int (nI b0)]) (rest := []) ⟨hx, hb, hml, hown, hts⟩ (g_X1_boundAt l D cI cL cZ cC pl p0 p1 p2 p3 p4 p5 lz rq q0 (nI (m0 + 1)) (nI b0) rj (by omega) (xNn (by omega))) (cwV 3 hts gX1_leastSum_X1_boundAt rfl rfl rfl (by decide +kernel) ⟨Nat.le_of_ble_eq_true rfl, Nat.le_of_ble_eq_true rfl⟩) ⟨xPc_bl, va_recv hK hPc (ci := 1) (q0 := 0) rfl rfl, xPc_use hPc hK⟩ rfl rfl hl.1 rfl (lv_room (Nat.le_of_ble_eq_true rfl)) dX1_leastSum_110 ⟨Nat.le_of_ble_eq_true rfl, Nat.le_of_ble_eq_true rfl⟩)) (fun r_3 er_3 => ?_)
        obtain rfl : (nI (xBn (rj q0) (nI (m0 + 1)) (nI b0)) : Int32) = r_3 := Eq.symm er_3
        refine lv_istore (lv' := [(8, .int (nI (xBn (rj q0) (nI (m0 + 1)) (nI b0)))), (7, .int ((xW9 wf (nI m0 - rj q0) b0) * ((nI m0) + (wh q0)))), (6, .int ((nI m0) + (wh q0))), (5, .int (xW9 wf (nI m0 - rj q0) b0)), (4, .int ((nI m0) - (rj q0))), (0, .ref pl), (1, .int (nI q0)), (2, .int (nI m0)), (3, .int (nI b0))]) hx hb dX1_leastSum_113 hl (by decide) rfl (fun ls hl => ?_)
        refine lv_iload hx hb dX1_leastSum_115 (lv_at hl 1 rfl) ?_
        refine lv_aload_n hx hb dX1_leastSum_117 rfl (lv_at hl 5 rfl) ?_
        refine lv_iload_n hx hb dX1_leastSum_118 rfl (lv_at hl 6 rfl) ?_
        refine lv_iload_n hx hb dX1_leastSum_119 rfl (lv_at hl 7 rfl) ?_
        refine lv_iconst (v := 1) hx hb dX1_leastSum_120 (by decide) ?_
        refine lv_iadd hx hb dX1_leastSum_121 ?_
        refine xv_int (y := nI (m0 + 1)) (nI_1 m0) ?_
        refine lv_iload hx hb dX1_leastSum_122 (lv_at hl 0 rfl) ?_
        have hPc := hP.sub (ws' := [(pl, .inr (1, [.ref p0, .ref p1, .ref p2, .ref p3, .ref p4, .ref p5, .int (nI lz), .int rq])), (p0, .inl (cI, 5551, .inl sm)), (p1, .inl (cI, 13, .inl wf)), (p4, .inl (cI, 7, .inl wh))]) [0, 1, 2, 5] rfl
        refine vp_callSi (va_Run.run (va_runV (As := [.int (nI q0), .int (nI (m0 + 1)), .int (nI (xBn (rj q0) (nI (m0 + 1)) (nI b0)))]) (rest := [.int ((xW9 wf (nI m0 - rj q0) b0) * ((nI m0) + (wh q0)))]) ⟨hx, hb, hml, hown, hts⟩ (g_X1_sumAt l D cI cL cZ cC pl p0 p1 p2 p3 p4 p5 lz rq q0 (m0 + 1) (xBn (rj q0) (nI (m0 + 1)) (nI b0)) sm wf wh (by first | assumption | decide +kernel) (by omega) (by omega) (xBn_le _ _ _)) (cwV 3 hts gX1_leastSum_X1_sumAt rfl rfl rfl (by decide +kernel) ⟨Nat.le_of_ble_eq_true rfl, Nat.le_of_ble_eq_true rfl⟩) ⟨xPc_bl, va_recv hK hPc (ci := 1) (q0 := 0) rfl rfl, xPc_use hPc hK⟩ rfl rfl hl.1 rfl (lv_room (Nat.le_of_ble_eq_true rfl)) dX1_leastSum_124 ⟨Nat.le_of_ble_eq_true rfl, Nat.le_of_ble_eq_true rfl⟩)) (fun r_4 er_4 => ?_)
        obtain rfl : (sSu lz sm wf wh q0 (m0 + 1) (xBn (rj q0) (nI (m0 + 1)) (nI b0)) : Int32) = r_4 := Eq.symm er_4
        refine lv_aload_n hx hb dX1_leastSum_127 rfl (lv_at hl 5 rfl) ?_
        refine lv_iload_n hx hb dX1_leastSum_128 rfl (lv_at hl 6 rfl) ?_
        refine lv_iload_n hx hb dX1_leastSum_129 rfl (lv_at hl 7 rfl) ?_
        refine lv_iload hx hb dX1_leastSum_130 (lv_at hl 0 rfl) ?_
        have hPc := hP.sub (ws' := [(pl, .inr (1, [.ref p0, .ref p1, .ref p2, .ref p3, .ref p4, .ref p5, .int (nI lz), .int rq])), (p0, .inl (cI, 5551, .inl sm)), (p1, .inl (cI, 13, .inl wf)), (p2, .inl (cI, 7, .inl rj)), (p3, .inl (cI, 7, .inl (fun i => nI (wn i)))), (p4, .inl (cI, 7, .inl wh))]) [0, 1, 2, 3, 4, 5] rfl
        refine vp_callSi (va_Run.run (va_runV (As := [.int (nI q0), .int (nI m0), .int (nI (xBn (rj q0) (nI (m0 + 1)) (nI b0)))]) (rest := [.int (sSu lz sm wf wh q0 (m0 + 1) (xBn (rj q0) (nI (m0 + 1)) (nI b0))), .int ((xW9 wf (nI m0 - rj q0) b0) * ((nI m0) + (wh q0)))]) ⟨hx, hb, hml, hown, hts⟩ (g_X1_walkSum l D cI cL cZ cC pl p0 p1 p2 p3 p4 p5 lz rq q0 m0 (xBn (rj q0) (nI (m0 + 1)) (nI b0)) wn rj sm wf wh (by first | assumption | decide +kernel) (by first | assumption | decide +kernel) (by omega) (xBn_le _ _ _) (by first | assumption | decide +kernel)) (cwV 3 hts gX1_leastSum_X1_walkSum rfl rfl rfl (by decide +kernel) ⟨Nat.le_of_ble_eq_true rfl, Nat.le_of_ble_eq_true rfl⟩) ⟨xPc_bl, va_recv hK hPc (ci := 1) (q0 := 0) rfl rfl, xPc_use hPc hK⟩ rfl rfl hl.1 rfl (lv_room (Nat.le_of_ble_eq_true rfl)) dX1_leastSum_132 ⟨Nat.le_of_ble_eq_true rfl, Nat.le_of_ble_eq_true rfl⟩)) (fun r_5 er_5 => ?_)
        obtain rfl : ((wf (xBn (rj q0) (nI (m0 + 1)) (nI b0)) - wf (xBn (rj (q0 + 1)) (nI (m0 + wn q0)) (nI (xBn (rj q0) (nI (m0 + 1)) (nI b0))))) * (nI m0 + wh q0) + sSu lz sm wf wh (q0 + 1) (m0 + wn q0) (xBn (rj (q0 + 1)) (nI (m0 + wn q0)) (nI (xBn (rj q0) (nI (m0 + 1)) (nI b0)))) : Int32) = r_5 := Eq.symm er_5
        refine va_mmin hx hb (hml.trans hl.1.symm) hown (hts (.methodLink RX1 94 Lib.Math.min.name) (by decide +kernel)) (hts (.static Lib.Math.min.name) (by decide +kernel)) (hts (.initialized "java/lang/Math") (by decide +kernel)) (hts (.code Lib.Math.min.name Lib.Math.min.code 2 (some .int)) (by decide +kernel)) (Nat.le_of_ble_eq_true rfl) (Nat.le_of_ble_eq_true rfl) (Nat.le_of_ble_eq_true rfl) (Nat.le_of_ble_eq_true rfl) dX1_leastSum_135 ?_
        refine xv_int (y := xMn (sSu lz sm wf wh q0 (m0 + 1) (xBn (rj q0) (nI (m0 + 1)) (nI b0))) (xWk lz sm wf rj wn wh q0 m0 (xBn (rj q0) (nI (m0 + 1)) (nI b0)))) (rfl) ?_
        refine lv_iadd hx hb dX1_leastSum_138 ?_
        exact W.iret (v := ((xW9 wf (nI m0 - rj q0) b0) * ((nI m0) + (wh q0))) + (xMn (sSu lz sm wf wh q0 (m0 + 1) (xBn (rj q0) (nI (m0 + 1)) (nI b0))) (xWk lz sm wf rj wn wh q0 m0 (xBn (rj q0) (nI (m0 + 1)) (nI b0))))) hx hb hr (fun t ht hW => ⟨_, rfl, (by have w6 := (nI_ltI (a := m0) (b := 60) (by omega) (by omega)).mp c_2; simp [xLs, w6, c_1]), ht⟩) (fun _ h => absurd h List.not_mem_nil) dX1_leastSum_139
      · refine lv_iload hx hb dX1_leastSum_88 (lv_at hl 0 rfl) ?_
        refine lv_aload_n hx hb dX1_leastSum_90 rfl (lv_at hl 4 rfl) ?_
        refine va_get (D := D) (ci := 1) (v := .ref p1) (C := RX1) (T := TX1) (N := 8) hx hb hts hwX1 hown hK hP 0 rfl rfl 1 (by decide) (hts (.fieldLink RX1 15 "WaitOrWalkOn$Plan" "weightFrom" "[I") (by decide +kernel)) (fun _ h9 => h9) rfl dX1_leastSum_91 ?_
        refine lv_iload_n hx hb dX1_leastSum_94 rfl (lv_at hl 7 rfl) ?_
        refine va_iald (D := D) hx hb hK hP 2 0 rfl rfl (vp_in_nI (by omega) (by decide)) dX1_leastSum_95 ?_
        refine xv_int (y := wf b0) (congrArg wf (nI_clamp (by omega))) ?_
        refine lv_iload hx hb dX1_leastSum_96 (lv_at hl 2 rfl) ?_
        refine lv_isub hx hb dX1_leastSum_98 ?_
        refine lv_iload hx hb dX1_leastSum_99 (lv_at hl 1 rfl) ?_
        refine lv_imul hx hb dX1_leastSum_101 ?_
        refine lv_iadd hx hb dX1_leastSum_102 ?_
        exact W.iret (v := ((xW9 wf (nI m0 - rj q0) b0) * ((nI m0) + (wh q0))) + (((wf b0) - (xW9 wf (nI m0 - rj q0) b0)) * ((nI m0) + (wh q0)))) hx hb hr (fun t ht hW => ⟨_, rfl, (by have w6 := mt (nI_ltI (a := m0) (b := 60) (by omega) (by omega)).mpr c_2; simp [xLs, w6, c_1]), ht⟩) (fun _ h => absurd h List.not_mem_nil) dX1_leastSum_103
    · refine lv_iload hx hb dX1_leastSum_67 (lv_at hl 2 rfl) ?_
      refine lv_aload_n hx hb dX1_leastSum_69 rfl (lv_at hl 3 rfl) ?_
      refine va_get (D := D) (ci := 1) (v := .int rq) (C := RX1) (T := TX1) (N := 8) hx hb hts hwX1 hown hK hP 0 rfl rfl 7 (by decide) (hts (.fieldLink RX1 44 "WaitOrWalkOn$Plan" "rideHome" "I") (by decide +kernel)) (fun _ h9 => h9) rfl dX1_leastSum_70 ?_
      refine lv_iadd hx hb dX1_leastSum_73 ?_
      refine lv_goto (tgt := 79) hx hb dX1_leastSum_74 (by decide) ?_
      refine lv_imul hx hb dX1_leastSum_79 ?_
      refine lv_istore (lv' := [(7, .int ((xW9 wf (nI m0 - rj q0) b0) * (((nI m0) - (rj q0)) + rq))), (6, .int ((nI m0) + (wh q0))), (5, .int (xW9 wf (nI m0 - rj q0) b0)), (4, .int ((nI m0) - (rj q0))), (0, .ref pl), (1, .int (nI q0)), (2, .int (nI m0)), (3, .int (nI b0))]) hx hb dX1_leastSum_80 hl (by decide) rfl (fun ls hl => ?_)
      refine lv_iload_n hx hb dX1_leastSum_82 rfl (lv_at hl 6 rfl) ?_
      refine lv_bipush (v := 60) hx hb dX1_leastSum_83 (by decide) ?_
      refine lv_icmp_lt (tgt := 104) hx hb dX1_leastSum_85 (by decide) (fun c_6 => ?_) (fun c_6 => ?_)
      · refine lv_aload_n hx hb dX1_leastSum_104 rfl (lv_at hl 4 rfl) ?_
        refine lv_iload_n hx hb dX1_leastSum_105 rfl (lv_at hl 5 rfl) ?_
        refine lv_iload_n hx hb dX1_leastSum_106 rfl (lv_at hl 6 rfl) ?_
        refine lv_iconst (v := 1) hx hb dX1_leastSum_107 (by decide) ?_
        refine lv_iadd hx hb dX1_leastSum_108 ?_
        refine xv_int (y := nI (m0 + 1)) (nI_1 m0) ?_
        refine lv_iload_n hx hb dX1_leastSum_109 rfl (lv_at hl 7 rfl) ?_
        have hPc := hP.sub (ws' := [(pl, .inr (1, [.ref p0, .ref p1, .ref p2, .ref p3, .ref p4, .ref p5, .int (nI lz), .int rq])), (p2, .inl (cI, 7, .inl rj))]) [0, 3] rfl
        refine vp_callSi (va_Run.run (va_runV (As := [.int (nI q0), .int (nI (m0 + 1)), .int (nI b0)]) (rest := []) ⟨hx, hb, hml, hown, hts⟩ (g_X1_boundAt l D cI cL cZ cC pl p0 p1 p2 p3 p4 p5 lz rq q0 (nI (m0 + 1)) (nI b0) rj (by omega) (xNn (by omega))) (cwV 3 hts gX1_leastSum_X1_boundAt rfl rfl rfl (by decide +kernel) ⟨Nat.le_of_ble_eq_true rfl, Nat.le_of_ble_eq_true rfl⟩) ⟨xPc_bl, va_recv hK hPc (ci := 1) (q0 := 0) rfl rfl, xPc_use hPc hK⟩ rfl rfl hl.1 rfl (lv_room (Nat.le_of_ble_eq_true rfl)) dX1_leastSum_110 ⟨Nat.le_of_ble_eq_true rfl, Nat.le_of_ble_eq_true rfl⟩)) (fun r_7 er_7 => ?_)
        obtain rfl : (nI (xBn (rj q0) (nI (m0 + 1)) (nI b0)) : Int32) = r_7 := Eq.symm er_7
        refine lv_istore (lv' := [(8, .int (nI (xBn (rj q0) (nI (m0 + 1)) (nI b0)))), (7, .int ((xW9 wf (nI m0 - rj q0) b0) * (((nI m0) - (rj q0)) + rq))), (6, .int ((nI m0) + (wh q0))), (5, .int (xW9 wf (nI m0 - rj q0) b0)), (4, .int ((nI m0) - (rj q0))), (0, .ref pl), (1, .int (nI q0)), (2, .int (nI m0)), (3, .int (nI b0))]) hx hb dX1_leastSum_113 hl (by decide) rfl (fun ls hl => ?_)
        refine lv_iload hx hb dX1_leastSum_115 (lv_at hl 1 rfl) ?_
        refine lv_aload_n hx hb dX1_leastSum_117 rfl (lv_at hl 5 rfl) ?_
        refine lv_iload_n hx hb dX1_leastSum_118 rfl (lv_at hl 6 rfl) ?_
        refine lv_iload_n hx hb dX1_leastSum_119 rfl (lv_at hl 7 rfl) ?_
        refine lv_iconst (v := 1) hx hb dX1_leastSum_120 (by decide) ?_
        refine lv_iadd hx hb dX1_leastSum_121 ?_
        refine xv_int (y := nI (m0 + 1)) (nI_1 m0) ?_
        refine lv_iload hx hb dX1_leastSum_122 (lv_at hl 0 rfl) ?_
        have hPc := hP.sub (ws' := [(pl, .inr (1, [.ref p0, .ref p1, .ref p2, .ref p3, .ref p4, .ref p5, .int (nI lz), .int rq])), (p0, .inl (cI, 5551, .inl sm)), (p1, .inl (cI, 13, .inl wf)), (p4, .inl (cI, 7, .inl wh))]) [0, 1, 2, 5] rfl
        refine vp_callSi (va_Run.run (va_runV (As := [.int (nI q0), .int (nI (m0 + 1)), .int (nI (xBn (rj q0) (nI (m0 + 1)) (nI b0)))]) (rest := [.int ((xW9 wf (nI m0 - rj q0) b0) * (((nI m0) - (rj q0)) + rq))]) ⟨hx, hb, hml, hown, hts⟩ (g_X1_sumAt l D cI cL cZ cC pl p0 p1 p2 p3 p4 p5 lz rq q0 (m0 + 1) (xBn (rj q0) (nI (m0 + 1)) (nI b0)) sm wf wh (by first | assumption | decide +kernel) (by omega) (by omega) (xBn_le _ _ _)) (cwV 3 hts gX1_leastSum_X1_sumAt rfl rfl rfl (by decide +kernel) ⟨Nat.le_of_ble_eq_true rfl, Nat.le_of_ble_eq_true rfl⟩) ⟨xPc_bl, va_recv hK hPc (ci := 1) (q0 := 0) rfl rfl, xPc_use hPc hK⟩ rfl rfl hl.1 rfl (lv_room (Nat.le_of_ble_eq_true rfl)) dX1_leastSum_124 ⟨Nat.le_of_ble_eq_true rfl, Nat.le_of_ble_eq_true rfl⟩)) (fun r_8 er_8 => ?_)
        obtain rfl : (sSu lz sm wf wh q0 (m0 + 1) (xBn (rj q0) (nI (m0 + 1)) (nI b0)) : Int32) = r_8 := Eq.symm er_8
        refine lv_aload_n hx hb dX1_leastSum_127 rfl (lv_at hl 5 rfl) ?_
        refine lv_iload_n hx hb dX1_leastSum_128 rfl (lv_at hl 6 rfl) ?_
        refine lv_iload_n hx hb dX1_leastSum_129 rfl (lv_at hl 7 rfl) ?_
        refine lv_iload hx hb dX1_leastSum_130 (lv_at hl 0 rfl) ?_
        have hPc := hP.sub (ws' := [(pl, .inr (1, [.ref p0, .ref p1, .ref p2, .ref p3, .ref p4, .ref p5, .int (nI lz), .int rq])), (p0, .inl (cI, 5551, .inl sm)), (p1, .inl (cI, 13, .inl wf)), (p2, .inl (cI, 7, .inl rj)), (p3, .inl (cI, 7, .inl (fun i => nI (wn i)))), (p4, .inl (cI, 7, .inl wh))]) [0, 1, 2, 3, 4, 5] rfl
        refine vp_callSi (va_Run.run (va_runV (As := [.int (nI q0), .int (nI m0), .int (nI (xBn (rj q0) (nI (m0 + 1)) (nI b0)))]) (rest := [.int (sSu lz sm wf wh q0 (m0 + 1) (xBn (rj q0) (nI (m0 + 1)) (nI b0))), .int ((xW9 wf (nI m0 - rj q0) b0) * (((nI m0) - (rj q0)) + rq))]) ⟨hx, hb, hml, hown, hts⟩ (g_X1_walkSum l D cI cL cZ cC pl p0 p1 p2 p3 p4 p5 lz rq q0 m0 (xBn (rj q0) (nI (m0 + 1)) (nI b0)) wn rj sm wf wh (by first | assumption | decide +kernel) (by first | assumption | decide +kernel) (by omega) (xBn_le _ _ _) (by first | assumption | decide +kernel)) (cwV 3 hts gX1_leastSum_X1_walkSum rfl rfl rfl (by decide +kernel) ⟨Nat.le_of_ble_eq_true rfl, Nat.le_of_ble_eq_true rfl⟩) ⟨xPc_bl, va_recv hK hPc (ci := 1) (q0 := 0) rfl rfl, xPc_use hPc hK⟩ rfl rfl hl.1 rfl (lv_room (Nat.le_of_ble_eq_true rfl)) dX1_leastSum_132 ⟨Nat.le_of_ble_eq_true rfl, Nat.le_of_ble_eq_true rfl⟩)) (fun r_9 er_9 => ?_)
        obtain rfl : ((wf (xBn (rj q0) (nI (m0 + 1)) (nI b0)) - wf (xBn (rj (q0 + 1)) (nI (m0 + wn q0)) (nI (xBn (rj q0) (nI (m0 + 1)) (nI b0))))) * (nI m0 + wh q0) + sSu lz sm wf wh (q0 + 1) (m0 + wn q0) (xBn (rj (q0 + 1)) (nI (m0 + wn q0)) (nI (xBn (rj q0) (nI (m0 + 1)) (nI b0)))) : Int32) = r_9 := Eq.symm er_9
        refine va_mmin hx hb (hml.trans hl.1.symm) hown (hts (.methodLink RX1 94 Lib.Math.min.name) (by decide +kernel)) (hts (.static Lib.Math.min.name) (by decide +kernel)) (hts (.initialized "java/lang/Math") (by decide +kernel)) (hts (.code Lib.Math.min.name Lib.Math.min.code 2 (some .int)) (by decide +kernel)) (Nat.le_of_ble_eq_true rfl) (Nat.le_of_ble_eq_true rfl) (Nat.le_of_ble_eq_true rfl) (Nat.le_of_ble_eq_true rfl) dX1_leastSum_135 ?_
        refine xv_int (y := xMn (sSu lz sm wf wh q0 (m0 + 1) (xBn (rj q0) (nI (m0 + 1)) (nI b0))) (xWk lz sm wf rj wn wh q0 m0 (xBn (rj q0) (nI (m0 + 1)) (nI b0)))) (rfl) ?_
        refine lv_iadd hx hb dX1_leastSum_138 ?_
        exact W.iret (v := ((xW9 wf (nI m0 - rj q0) b0) * (((nI m0) - (rj q0)) + rq)) + (xMn (sSu lz sm wf wh q0 (m0 + 1) (xBn (rj q0) (nI (m0 + 1)) (nI b0))) (xWk lz sm wf rj wn wh q0 m0 (xBn (rj q0) (nI (m0 + 1)) (nI b0))))) hx hb hr (fun t ht hW => ⟨_, rfl, (by have w6 := (nI_ltI (a := m0) (b := 60) (by omega) (by omega)).mp c_6; simp [xLs, w6, c_1]), ht⟩) (fun _ h => absurd h List.not_mem_nil) dX1_leastSum_139
      · refine lv_iload hx hb dX1_leastSum_88 (lv_at hl 0 rfl) ?_
        refine lv_aload_n hx hb dX1_leastSum_90 rfl (lv_at hl 4 rfl) ?_
        refine va_get (D := D) (ci := 1) (v := .ref p1) (C := RX1) (T := TX1) (N := 8) hx hb hts hwX1 hown hK hP 0 rfl rfl 1 (by decide) (hts (.fieldLink RX1 15 "WaitOrWalkOn$Plan" "weightFrom" "[I") (by decide +kernel)) (fun _ h9 => h9) rfl dX1_leastSum_91 ?_
        refine lv_iload_n hx hb dX1_leastSum_94 rfl (lv_at hl 7 rfl) ?_
        refine va_iald (D := D) hx hb hK hP 2 0 rfl rfl (vp_in_nI (by omega) (by decide)) dX1_leastSum_95 ?_
        refine xv_int (y := wf b0) (congrArg wf (nI_clamp (by omega))) ?_
        refine lv_iload hx hb dX1_leastSum_96 (lv_at hl 2 rfl) ?_
        refine lv_isub hx hb dX1_leastSum_98 ?_
        refine lv_iload hx hb dX1_leastSum_99 (lv_at hl 1 rfl) ?_
        refine lv_imul hx hb dX1_leastSum_101 ?_
        refine lv_iadd hx hb dX1_leastSum_102 ?_
        exact W.iret (v := ((xW9 wf (nI m0 - rj q0) b0) * (((nI m0) - (rj q0)) + rq)) + (((wf b0) - (xW9 wf (nI m0 - rj q0) b0)) * ((nI m0) + (wh q0)))) hx hb hr (fun t ht hW => ⟨_, rfl, (by have w6 := mt (nI_ltI (a := m0) (b := 60) (by omega) (by omega)).mpr c_6; simp [xLs, w6, c_1]), ht⟩) (fun _ h => absurd h List.not_mem_nil) dX1_leastSum_103
  · intro K_44
    refine lv_iload hx hb dX1_leastSum_10 (lv_at hl 0 rfl) ?_
    refine lv_iload_n hx hb dX1_leastSum_12 rfl (lv_at hl 4 rfl) ?_
    refine lv_icmp_lt (tgt := 43) hx hb dX1_leastSum_13 (by decide) (fun c_10 => ?_) (fun c_10 => ?_)
    · refine lv_iconst (v := 0) hx hb dX1_leastSum_43 (by decide) ?_
      refine xv_int (y := xW9 wf (nI m0 - rj q0) b0) (by simp [xW9, c_10]) ?_
      exact K_44 () _ (lv_sub hl [0, 1, 2, 3, 4] rfl)
    · refine lv_iload hx hb dX1_leastSum_16 (lv_at hl 0 rfl) ?_
      refine lv_bipush (v := 12) hx hb dX1_leastSum_18 (by decide) ?_
      refine lv_icmp_ge (tgt := 43) hx hb dX1_leastSum_20 (by decide) (fun c_11 => ?_) (fun c_11 => ?_)
      · refine lv_iconst (v := 0) hx hb dX1_leastSum_43 (by decide) ?_
        refine xv_int (y := xW9 wf (nI m0 - rj q0) b0) (by simp [xW9, c_10, (Int32.not_lt.mpr c_11)]) ?_
        exact K_44 () _ (lv_sub hl [0, 1, 2, 3, 4] rfl)
      · refine lv_aload_n hx hb dX1_leastSum_23 rfl (lv_at hl 1 rfl) ?_
        refine va_get (D := D) (ci := 1) (v := .ref p1) (C := RX1) (T := TX1) (N := 8) hx hb hts hwX1 hown hK hP 0 rfl rfl 1 (by decide) (hts (.fieldLink RX1 15 "WaitOrWalkOn$Plan" "weightFrom" "[I") (by decide +kernel)) (fun _ h9 => h9) rfl dX1_leastSum_24 ?_
        refine lv_iload hx hb dX1_leastSum_27 (lv_at hl 0 rfl) ?_
        refine va_iald (D := D) hx hb hK hP 2 0 rfl rfl ((xInT (by omega) c_10 (Int32.not_le.mp c_11)).1) dX1_leastSum_29 ?_
        refine lv_aload_n hx hb dX1_leastSum_30 rfl (lv_at hl 1 rfl) ?_
        refine va_get (D := D) (ci := 1) (v := .ref p1) (C := RX1) (T := TX1) (N := 8) hx hb hts hwX1 hown hK hP 0 rfl rfl 1 (by decide) (hts (.fieldLink RX1 15 "WaitOrWalkOn$Plan" "weightFrom" "[I") (by decide +kernel)) (fun _ h9 => h9) rfl dX1_leastSum_31 ?_
        refine lv_iload hx hb dX1_leastSum_34 (lv_at hl 0 rfl) ?_
        refine lv_iconst (v := 1) hx hb dX1_leastSum_36 (by decide) ?_
        refine lv_iadd hx hb dX1_leastSum_37 ?_
        refine va_iald (D := D) hx hb hK hP 2 0 rfl rfl ((xInT (by omega) c_10 (Int32.not_le.mp c_11)).2) dX1_leastSum_38 ?_
        refine lv_isub hx hb dX1_leastSum_39 ?_
        refine lv_goto (tgt := 44) hx hb dX1_leastSum_40 (by decide) ?_
        refine xv_int (y := xW9 wf (nI m0 - rj q0) b0) (by simp [xW9, c_10, (Int32.not_le.mp c_11)]) ?_
        exact K_44 () _ (lv_sub hl [0, 1, 2, 3, 4] rfl)
