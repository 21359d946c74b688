set_option maxHeartbeats 4000000 in
set_option maxRecDepth 100000 in
theorem g_X5_cell (l : Launch) (D : va_G) (cI cL cZ cC : ClassId) (g0 : Nat) (ra : Nat) (wa : Nat) (ta : Nat) (ma : Nat) (pa : Nat) (ba : Nat) (ka : Nat) (fa : Nat) (qa : Nat) (ea : Nat) (za : Nat) (ya : Nat) (kpt : Int32) (mkd : Int32) (tpd : Int32) (at0 : Int32) (wel : Int32) (srt : Int32) (wks : Int32) (q0 : Nat) (m0 : Nat) (b0 : Nat)  : Met l yX5_cell wsX5_cell ({ frames := 0, cells := 0, slots := 0, locals := 0 } : Room) (xPc D [.ref g0, .int (nI q0), .int (nI m0), .int (nI b0)] [(g0, .inr (5, [.ref ra, .ref wa, .ref ta, .int kpt, .ref ma, .int mkd, .ref pa, .int tpd, .int at0, .int wel, .ref ba, .ref ka, .int srt, .ref fa, .ref qa, .ref ea, .ref za, .ref ya, .int wks]))] (xTy cI cL cZ cC)) (vp_Si (fun r : Int32 => r = nI ((q0 * 61 + m0) * 13 + b0))) 0 0 (fun _ => False) := by
  refine Met.ofW (cc := cX5_cell) (maxL := 4) (ret := (some .int)) (by decide) rfl ?_
  intro p e s m args below meth c s₁ B hml hv
  obtain ⟨rfl, hP, hK⟩ := hv
  have hx := B.exec
  have hb := B.bytes
  have hr := B.returns
  have hts := atoms_spec (ws := wsX5_cell) B.pre
  have hown : s.vm.findClass RX5 = some m.cls := findClass_of_methodNamed B.named
  have hlocks := B.notSynchronized
  have hl := lv_entry ([.ref g0, .int (nI q0), .int (nI m0), .int (nI b0)]) (n := 4) (Nat.le_of_ble_eq_true rfl)
  rw [lg_entry_eq]
  generalize (lg_sl ([.ref g0, .int (nI q0), .int (nI m0), .int (nI b0)]) ++ List.replicate (4 - (lg_sl ([.ref g0, .int (nI q0), .int (nI m0), .int (nI b0)])).length) Slot.unset).toArray = ls at hl ⊢
  have hl : lv_has ls 4 [(0, .ref g0), (1, .int (nI q0)), (2, .int (nI m0)), (3, .int (nI b0))] := hl
  refine lv_iload_n hx hb dX5_cell_0 rfl (lv_at hl 1 rfl) ?_
  refine lv_bipush (v := 61) hx hb dX5_cell_1 (by decide) ?_
  refine lv_imul hx hb dX5_cell_3 ?_
  refine lv_iload_n hx hb dX5_cell_4 rfl (lv_at hl 2 rfl) ?_
  refine lv_iadd hx hb dX5_cell_5 ?_
  refine lv_bipush (v := 13) hx hb dX5_cell_6 (by decide) ?_
  refine lv_imul hx hb dX5_cell_8 ?_
  refine lv_iload_n hx hb dX5_cell_9 rfl (lv_at hl 3 rfl) ?_
  refine lv_iadd hx hb dX5_cell_10 ?_
  refine xv_int (y := nI ((q0 * 61 + m0) * 13 + b0)) (pk_idx q0 m0 b0) ?_
  exact W.iret (v := nI ((q0 * 61 + m0) * 13 + b0)) hx hb hr (fun t ht hW => ⟨_, rfl, rfl, ht⟩) (fun _ h => absurd h List.not_mem_nil) dX5_cell_11

set_option maxHeartbeats 4000000 in
set_option maxRecDepth 100000 in
theorem g_X5_later (l : Launch) (D : va_G) (cI cL cZ cC : ClassId) (g0 : Nat) (ra : Nat) (wa : Nat) (ta : Nat) (ma : Nat) (pa : Nat) (ba : Nat) (ka : Nat) (fa : Nat) (qa : Nat) (ea : Nat) (za : Nat) (ya : Nat) (kpt : Int32) (mkd : Int32) (tpd : Int32) (at0 : Int32) (wel : Int32) (srt : Int32) (wks : Int32) (st : Nat) (nw : Nat → Int32) (a0 : Nat) (j0 : Nat) (m0 : Nat) (b0 : Nat) (y : Nat → Int32) (hn0 : nw 0 = nI st) (hs1 : 1 ≤ st) (hs7 : st ≤ 7) (ha : a0 ≤ 2) (hq2 : ¬ nw 2 = 0) (hjs : j0 < st) (hm0 : m0 ≤ 2000) (hb0 : b0 ≤ 12) : Met l yX5_later wsX5_later ({ frames := 3, cells := 0, slots := 0, locals := 66 } : Room) (xPc D [.ref g0, .int (nI a0), .int (nI j0), .int (nI m0), .int (nI b0)] [(g0, .inr (5, [.ref ra, .ref wa, .ref ta, .int kpt, .ref ma, .int mkd, .ref pa, .int tpd, .int at0, .int wel, .ref ba, .ref ka, .int srt, .ref fa, .ref qa, .ref ea, .ref za, .ref ya, .int wks])), (wa, .inl (cI, 70, .inl nw)), (ya, .inl (cI, 5600, .inl y))] (xTy cI cL cZ cC)) (vp_Si (fun r : Int32 => r = x5La st nw (20 + 16 * a0) y j0 m0 b0)) 0 0 (fun _ => False) := by
  refine Met.ofW (cc := cX5_later) (maxL := 6) (ret := (some .int)) (by decide) rfl ?_
  intro p e s m args below meth c s₁ B hml hv
  obtain ⟨rfl, hP, hK⟩ := hv
  have hx := B.exec
  have hb := B.bytes
  have hr := B.returns
  have hts := atoms_spec (ws := wsX5_later) B.pre
  have hown : s.vm.findClass RX5 = some m.cls := findClass_of_methodNamed B.named
  have hlocks := B.notSynchronized
  have hwX5 : ∀ w ∈ u_ws RX5 TX5 19, w ∈ wsX5_later := fun _ h => List.mem_cons_of_mem _ (List.mem_append_right _ h)
  have hl := lv_entry ([.ref g0, .int (nI a0), .int (nI j0), .int (nI m0), .int (nI b0)]) (n := 6) (Nat.le_of_ble_eq_true rfl)
  rw [lg_entry_eq]
  generalize (lg_sl ([.ref g0, .int (nI a0), .int (nI j0), .int (nI m0), .int (nI b0)]) ++ List.replicate (6 - (lg_sl ([.ref g0, .int (nI a0), .int (nI j0), .int (nI m0), .int (nI b0)])).length) Slot.unset).toArray = ls at hl ⊢
  have hl : lv_has ls 6 [(0, .ref g0), (1, .int (nI a0)), (2, .int (nI j0)), (3, .int (nI m0)), (4, .int (nI b0))] := hl
  refine lv_bipush (v := 12) hx hb dX5_later_0 (by decide) ?_
  refine lv_iload hx hb dX5_later_2 (lv_at hl 4 rfl) ?_
  refine lv_iload_n hx hb dX5_later_4 rfl (lv_at hl 3 rfl) ?_
  refine lv_aload_n hx hb dX5_later_5 rfl (lv_at hl 0 rfl) ?_
  refine lv_iload_n hx hb dX5_later_6 rfl (lv_at hl 1 rfl) ?_
  refine lv_iload_n hx hb dX5_later_7 rfl (lv_at hl 2 rfl) ?_
  have hPc := hP.sub (ws' := [(g0, .inr (5, [.ref ra, .ref wa, .ref ta, .int kpt, .ref ma, .int mkd, .ref pa, .int tpd, .int at0, .int wel, .ref ba, .ref ka, .int srt, .ref fa, .ref qa, .ref ea, .ref za, .ref ya, .int wks])), (wa, .inl (cI, 70, .inl nw))]) [0, 1] rfl
  refine vp_callSi (va_Run.run (va_runV (As := [.int (nI a0), .int (nI j0)]) (rest := [.int (nI m0), .int (nI b0), .int 12]) ⟨hx, hb, hml, hown, hts⟩ (g_X5_to l D cI cL cZ cC g0 ra wa ta ma pa ba ka fa qa ea za ya kpt mkd tpd at0 wel srt wks st nw a0 j0 (by first | assumption | decide +kernel) (by first | assumption | decide +kernel) (by first | assumption | decide +kernel) (by omega) (by omega)) (cwV 2 hts gX5_later_X5_to rfl rfl rfl (by decide +kernel) ⟨Nat.le_of_ble_eq_true rfl, Nat.le_of_ble_eq_true rfl⟩) ⟨xPc_bl, va_recv hK hPc (ci := 5) (q0 := 0) rfl rfl, xPc_use hPc hK⟩ rfl rfl hl.1 rfl (lv_room (Nat.le_of_ble_eq_true rfl)) dX5_later_8 ⟨Nat.le_of_ble_eq_true rfl, Nat.le_of_ble_eq_true rfl⟩)) (fun r_1 er_1 => ?_)
  obtain rfl : (xSm (fun i => sRd (nw (20 + 16 * a0)) (nw (20 + 16 * a0 + 1)) (nI i)) j0 : Int32) = r_1 := Eq.symm er_1
  refine xv_int (y := xTO nw (20 + 16 * a0) j0) (rfl) ?_
  refine lv_isub hx hb dX5_later_11 ?_
  refine va_mmax hx hb (hml.trans hl.1.symm) hown (hts (.methodLink RX5 152 Lib.Math.max.name) (by decide +kernel)) (hts (.static Lib.Math.max.name) (by decide +kernel)) (hts (.initialized "java/lang/Math") (by decide +kernel)) (hts (.code Lib.Math.max.name Lib.Math.max.code 2 (some .int)) (by decide +kernel)) (Nat.le_of_ble_eq_true rfl) (Nat.le_of_ble_eq_true rfl) (Nat.le_of_ble_eq_true rfl) (Nat.le_of_ble_eq_true rfl) dX5_later_12 ?_
  refine va_mmin hx hb (hml.trans hl.1.symm) hown (hts (.methodLink RX5 157 Lib.Math.min.name) (by decide +kernel)) (hts (.static Lib.Math.min.name) (by decide +kernel)) (hts (.initialized "java/lang/Math") (by decide +kernel)) (hts (.code Lib.Math.min.name Lib.Math.min.code 2 (some .int)) (by decide +kernel)) (Nat.le_of_ble_eq_true rfl) (Nat.le_of_ble_eq_true rfl) (Nat.le_of_ble_eq_true rfl) (Nat.le_of_ble_eq_true rfl) dX5_later_15 ?_
  refine xv_int (y := nI (x5Fr nw (20 + 16 * a0) j0 (m0) (b0))) (xBd_n (le := nI b0) (xNn (by omega))) ?_
  refine lv_istore (lv' := [(5, .int (nI (x5Fr nw (20 + 16 * a0) j0 (m0) (b0)))), (0, .ref g0), (1, .int (nI a0)), (2, .int (nI j0)), (3, .int (nI m0)), (4, .int (nI b0))]) hx hb dX5_later_18 hl (by decide) rfl (fun ls hl => ?_)
  refine lv_iload_n hx hb dX5_later_20 rfl (lv_at hl 4 rfl) ?_
  refine lv_bipush (v := 60) hx hb dX5_later_21 (by decide) ?_
  refine lv_icmp_le (tgt := 44) hx hb dX5_later_23 (by decide) (fun c_2 => ?_) (fun c_2 => ?_)
  · refine lv_aload_n hx hb dX5_later_44 rfl (lv_at hl 1 rfl) ?_
    refine va_get (D := D) (ci := 5) (v := .ref ya) (C := RX5) (T := TX5) (N := 19) hx hb hts hwX5 hown hK hP 0 rfl rfl 17 (by decide) (hts (.fieldLink RX5 50 "WaitOrWalkOnModel" "value" "[I") (by decide +kernel)) (fun _ h9 => h9) rfl dX5_later_45 ?_
    refine lv_aload_n hx hb dX5_later_48 rfl (lv_at hl 1 rfl) ?_
    refine lv_iload_n hx hb dX5_later_49 rfl (lv_at hl 3 rfl) ?_
    refine lv_iload_n hx hb dX5_later_50 rfl (lv_at hl 4 rfl) ?_
    refine lv_iload hx hb dX5_later_51 (lv_at hl 0 rfl) ?_
    have hPc := hP.sub (ws' := [(g0, .inr (5, [.ref ra, .ref wa, .ref ta, .int kpt, .ref ma, .int mkd, .ref pa, .int tpd, .int at0, .int wel, .ref ba, .ref ka, .int srt, .ref fa, .ref qa, .ref ea, .ref za, .ref ya, .int wks]))]) [0] rfl
    refine vp_callSi (va_Run.run (va_runV (As := [.int (nI j0), .int (nI m0), .int (nI (x5Fr nw (20 + 16 * a0) j0 (m0) (b0)))]) (rest := [.ref ya]) ⟨hx, hb, hml, hown, hts⟩ (g_X5_cell l D cI cL cZ cC g0 ra wa ta ma pa ba ka fa qa ea za ya kpt mkd tpd at0 wel srt wks j0 m0 (x5Fr nw (20 + 16 * a0) j0 (m0) (b0)) ) (cwV 3 hts gX5_later_X5_cell rfl rfl rfl (by decide +kernel) ⟨Nat.le_of_ble_eq_true rfl, Nat.le_of_ble_eq_true rfl⟩) ⟨xPc_bl, va_recv hK hPc (ci := 5) (q0 := 0) rfl rfl, xPc_use hPc hK⟩ rfl rfl hl.1 rfl (lv_room (Nat.le_of_ble_eq_true rfl)) dX5_later_53 ⟨Nat.le_of_ble_eq_true rfl, Nat.le_of_ble_eq_true rfl⟩)) (fun r_3 er_3 => ?_)
    obtain rfl : (nI ((j0 * 61 + m0) * 13 + (x5Fr nw (20 + 16 * a0) j0 (m0) (b0))) : Int32) = r_3 := Eq.symm er_3
    refine va_iald (D := D) hx hb hK hP 2 0 rfl rfl (vp_in_nI (by have w6 := mt (nI_ltI (a := 60) (b := m0) (by decide) (by omega)).mpr (Int32.not_lt.mpr c_2); have w7 := x5Fr_le nw (20 + 16 * a0) j0 m0 b0; omega) (by decide)) dX5_later_56 ?_
    refine xv_int (y := y ((j0 * 61 + m0) * 13 + x5Fr nw (20 + 16 * a0) j0 (m0) (b0))) (congrArg y (nI_clamp (by have w6 := mt (nI_ltI (a := 60) (b := m0) (by decide) (by omega)).mpr (Int32.not_lt.mpr c_2); have w7 := x5Fr_le nw (20 + 16 * a0) j0 m0 b0; omega))) ?_
    exact W.iret (v := y ((j0 * 61 + m0) * 13 + x5Fr nw (20 + 16 * a0) j0 (m0) (b0))) hx hb hr (fun t ht hW => ⟨_, rfl, (by rw [x5La, if_neg (Int32.not_lt.mpr c_2)]), ht⟩) (fun _ h => absurd h List.not_mem_nil) dX5_later_57
  · refine lv_aload_n hx hb dX5_later_26 rfl (lv_at hl 1 rfl) ?_
    refine lv_iload_n hx hb dX5_later_27 rfl (lv_at hl 2 rfl) ?_
    refine lv_iload hx hb dX5_later_28 (lv_at hl 0 rfl) ?_
    have hPc := hP.sub (ws' := [(g0, .inr (5, [.ref ra, .ref wa, .ref ta, .int kpt, .ref ma, .int mkd, .ref pa, .int tpd, .int at0, .int wel, .ref ba, .ref ka, .int srt, .ref fa, .ref qa, .ref ea, .ref za, .ref ya, .int wks])), (wa, .inl (cI, 70, .inl nw))]) [0, 1] rfl
    refine vp_callSi (va_Run.run (va_runV (As := [.int (nI a0), .int (nI (x5Fr nw (20 + 16 * a0) j0 (m0) (b0)))]) (rest := []) ⟨hx, hb, hml, hown, hts⟩ (g_X5_weights l D cI cL cZ cC g0 ra wa ta ma pa ba ka fa qa ea za ya kpt mkd tpd at0 wel srt wks st nw a0 (x5Fr nw (20 + 16 * a0) j0 (m0) (b0)) (by first | assumption | decide +kernel) (by first | assumption | decide +kernel) (by first | assumption | decide +kernel) (by omega) (x5Fr_le _ _ _ _ _)) (cwV 2 hts gX5_later_X5_weights rfl rfl rfl (by decide +kernel) ⟨Nat.le_of_ble_eq_true rfl, Nat.le_of_ble_eq_true rfl⟩) ⟨xPc_bl, va_recv hK hPc (ci := 5) (q0 := 0) rfl rfl, xPc_use hPc hK⟩ rfl rfl hl.1 rfl (lv_room (Nat.le_of_ble_eq_true rfl)) dX5_later_30 ⟨Nat.le_of_ble_eq_true rfl, Nat.le_of_ble_eq_true rfl⟩)) (fun r_4 er_4 => ?_)
    obtain rfl : (xWs (fun i => nw (20 + 16 * a0 + i)) (x5Fr nw (20 + 16 * a0) j0 (m0) (b0)) : Int32) = r_4 := Eq.symm er_4
    refine lv_iload_n hx hb dX5_later_33 rfl (lv_at hl 4 rfl) ?_
    refine lv_aload_n hx hb dX5_later_34 rfl (lv_at hl 1 rfl) ?_
    refine lv_iload_n hx hb dX5_later_35 rfl (lv_at hl 3 rfl) ?_
    have hPc := hP.sub (ws' := [(g0, .inr (5, [.ref ra, .ref wa, .ref ta, .int kpt, .ref ma, .int mkd, .ref pa, .int tpd, .int at0, .int wel, .ref ba, .ref ka, .int srt, .ref fa, .ref qa, .ref ea, .ref za, .ref ya, .int wks])), (wa, .inl (cI, 70, .inl nw))]) [0, 1] rfl
    refine vp_callSi (va_Run.run (va_runV (As := [.int (nI j0)]) (rest := [.int (nI m0), .int (xWs (fun i => nw (20 + 16 * a0 + i)) (x5Fr nw (20 + 16 * a0) j0 (m0) (b0)))]) ⟨hx, hb, hml, hown, hts⟩ (g_X5_rest l D cI cL cZ cC g0 ra wa ta ma pa ba ka fa qa ea za ya kpt mkd tpd at0 wel srt wks st nw j0 (by first | assumption | decide +kernel) (by first | assumption | decide +kernel) (by first | assumption | decide +kernel) (by omega) (hq2)) (cwV 1 hts gX5_later_X5_rest rfl rfl rfl (by decide +kernel) ⟨Nat.le_of_ble_eq_true rfl, Nat.le_of_ble_eq_true rfl⟩) ⟨xPc_bl, va_recv hK hPc (ci := 5) (q0 := 0) rfl rfl, xPc_use hPc hK⟩ rfl rfl hl.1 rfl (lv_room (Nat.le_of_ble_eq_true rfl)) dX5_later_36 ⟨Nat.le_of_ble_eq_true rfl, Nat.le_of_ble_eq_true rfl⟩)) (fun r_5 er_5 => ?_)
    obtain rfl : (xRs nw st j0 : Int32) = r_5 := Eq.symm er_5
    refine lv_iadd hx hb dX5_later_39 ?_
    refine lv_imul hx hb dX5_later_40 ?_
    refine lv_goto (tgt := 57) hx hb dX5_later_41 (by decide) ?_
    exact W.iret (v := (xWs (fun i => nw (20 + 16 * a0 + i)) (x5Fr nw (20 + 16 * a0) j0 (m0) (b0))) * ((nI m0) + (xRs nw st j0))) hx hb hr (fun t ht hW => ⟨_, rfl, (by rw [x5La, if_pos (Int32.not_le.mp c_2)]), ht⟩) (fun _ h => absurd h List.not_mem_nil) dX5_later_57

set_option maxHeartbeats 4000000 in
set_option maxRecDepth 100000 in
theorem g_X5_onFoot (l : Launch) (D : va_G) (cI cL cZ cC : ClassId) (g0 : Nat) (ra : Nat) (wa : Nat) (ta : Nat) (ma : Nat) (pa : Nat) (ba : Nat) (ka : Nat) (fa : Nat) (qa : Nat) (ea : Nat) (za : Nat) (ya : Nat) (kpt : Int32) (mkd : Int32) (tpd : Int32) (at0 : Int32) (wel : Int32) (srt : Int32) (wks : Int32) (st : Nat) (nw : Nat → Int32) (a0 : Nat) (wn : Nat → Nat) (j0 : Nat) (m0 : Nat) (b0 : Nat) (y : Nat → Int32) (hn0 : nw 0 = nI st) (hs1 : 1 ≤ st) (hs7 : st ≤ 7) (ha : a0 ≤ 2) (hq2 : ¬ nw 2 = 0) (hwn : ∀ j, 1 ≤ j → j ≤ st → (xLm nw st j + nw 2 - 1) / nw 2 = nI (wn j) ∧ wn j ≤ 1000) (hjs : j0 < st) (hm0 : m0 ≤ 60) (hb0 : b0 ≤ 12) : Met l yX5_onFoot wsX5_onFoot ({ frames := 4, cells := 0, slots := 0, locals := 91 } : Room) (xPc D [.ref g0, .int (nI a0), .int (nI j0), .int (nI m0), .int (nI b0)] [(g0, .inr (5, [.ref ra, .ref wa, .ref ta, .int kpt, .ref ma, .int mkd, .ref pa, .int tpd, .int at0, .int wel, .ref ba, .ref ka, .int srt, .ref fa, .ref qa, .ref ea, .ref za, .ref ya, .int wks])), (wa, .inl (cI, 70, .inl nw)), (ya, .inl (cI, 5600, .inl y))] (xTy cI cL cZ cC)) (vp_Si (fun r : Int32 => r = x5Of st nw (20 + 16 * a0) wn y j0 m0 b0)) 0 0 (fun _ => False) := by
  refine Met.ofW (cc := cX5_onFoot) (maxL := 8) (ret := (some .int)) (by decide) rfl ?_
  intro p e s m args below meth c s₁ B hml hv
  obtain ⟨rfl, hP, hK⟩ := hv
  have hx := B.exec
  have hb := B.bytes
  have hr := B.returns
  have hts := atoms_spec (ws := wsX5_onFoot) B.pre
  have hown : s.vm.findClass RX5 = some m.cls := findClass_of_methodNamed B.named
  have hlocks := B.notSynchronized
  have hwX5 : ∀ w ∈ u_ws RX5 TX5 19, w ∈ wsX5_onFoot := fun _ h => List.mem_cons_of_mem _ (List.mem_append_right _ h)
  have hl := lv_entry ([.ref g0, .int (nI a0), .int (nI j0), .int (nI m0), .int (nI b0)]) (n := 8) (Nat.le_of_ble_eq_true rfl)
  rw [lg_entry_eq]
  generalize (lg_sl ([.ref g0, .int (nI a0), .int (nI j0), .int (nI m0), .int (nI b0)]) ++ List.replicate (8 - (lg_sl ([.ref g0, .int (nI a0), .int (nI j0), .int (nI m0), .int (nI b0)])).length) Slot.unset).toArray = ls at hl ⊢
  have hl : lv_has ls 8 [(0, .ref g0), (1, .int (nI a0)), (2, .int (nI j0)), (3, .int (nI m0)), (4, .int (nI b0))] := hl
  refine lv_iload_n hx hb dX5_onFoot_0 rfl (lv_at hl 3 rfl) ?_
  refine lv_aload_n hx hb dX5_onFoot_1 rfl (lv_at hl 0 rfl) ?_
  refine lv_iload_n hx hb dX5_onFoot_2 rfl (lv_at hl 2 rfl) ?_
  have hPc := hP.sub (ws' := [(g0, .inr (5, [.ref ra, .ref wa, .ref ta, .int kpt, .ref ma, .int mkd, .ref pa, .int tpd, .int at0, .int wel, .ref ba, .ref ka, .int srt, .ref fa, .ref qa, .ref ea, .ref za, .ref ya, .int wks])), (wa, .inl (cI, 70, .inl nw))]) [0, 1] rfl
  refine vp_callSi (va_Run.run (va_runV (As := [.int (nI j0)]) (rest := [.int (nI m0)]) ⟨hx, hb, hml, hown, hts⟩ (g_X5_rest l D cI cL cZ cC g0 ra wa ta ma pa ba ka fa qa ea za ya kpt mkd tpd at0 wel srt wks st nw j0 (by first | assumption | decide +kernel) (by first | assumption | decide +kernel) (by first | assumption | decide +kernel) (by omega) (hq2)) (cwV 1 hts gX5_onFoot_X5_rest rfl rfl rfl (by decide +kernel) ⟨Nat.le_of_ble_eq_true rfl, Nat.le_of_ble_eq_true rfl⟩) ⟨xPc_bl, va_recv hK hPc (ci := 5) (q0 := 0) rfl rfl, xPc_use hPc hK⟩ rfl rfl hl.1 rfl (lv_room (Nat.le_of_ble_eq_true rfl)) dX5_onFoot_3 ⟨Nat.le_of_ble_eq_true rfl, Nat.le_of_ble_eq_true rfl⟩)) (fun r_1 er_1 => ?_)
  obtain rfl : (xRs nw st j0 : Int32) = r_1 := Eq.symm er_1
  refine lv_iadd hx hb dX5_onFoot_6 ?_
  refine lv_istore (lv' := [(5, .int ((nI m0) + (xRs nw st j0))), (0, .ref g0), (1, .int (nI a0)), (2, .int (nI j0)), (3, .int (nI m0)), (4, .int (nI b0))]) hx hb dX5_onFoot_7 hl (by decide) rfl (fun ls hl => ?_)
  refine lv_iload_n hx hb dX5_onFoot_9 rfl (lv_at hl 3 rfl) ?_
  refine lv_aload_n hx hb dX5_onFoot_10 rfl (lv_at hl 1 rfl) ?_
  refine va_get (D := D) (ci := 5) (v := .ref wa) (C := RX5) (T := TX5) (N := 19) hx hb hts hwX5 hown hK hP 0 rfl rfl 1 (by decide) (hts (.fieldLink RX5 19 "WaitOrWalkOnModel" "now" "[I") (by decide +kernel)) (fun _ h9 => h9) rfl dX5_onFoot_11 ?_
  refine lv_iconst (v := 0) hx hb dX5_onFoot_14 (by decide) ?_
  refine va_iald (D := D) hx hb hK hP 1 0 rfl rfl (by unfold vp_in; decide +kernel) dX5_onFoot_15 ?_
  refine xv_int (y := nw 0) rfl ?_
  refine xv_int (y := nI st) (hn0) ?_
  refine lv_iconst (v := 1) hx hb dX5_onFoot_16 (by decide) ?_
  refine lv_isub hx hb dX5_onFoot_17 ?_
  refine xv_int (y := nI (st - 1)) (pk_sub hs1) ?_
  refine lv_icmp_eq (tgt := 27) hx hb dX5_onFoot_18 (by decide) (fun c_2 => ?_) (fun c_2 => ?_)
  · refine lv_aload_n hx hb dX5_onFoot_27 rfl (lv_at hl 1 rfl) ?_
    refine lv_iload_n hx hb dX5_onFoot_28 rfl (lv_at hl 2 rfl) ?_
    refine lv_iload hx hb dX5_onFoot_29 (lv_at hl 5 rfl) ?_
    have hPc := hP.sub (ws' := [(g0, .inr (5, [.ref ra, .ref wa, .ref ta, .int kpt, .ref ma, .int mkd, .ref pa, .int tpd, .int at0, .int wel, .ref ba, .ref ka, .int srt, .ref fa, .ref qa, .ref ea, .ref za, .ref ya, .int wks])), (wa, .inl (cI, 70, .inl nw))]) [0, 1] rfl
    refine vp_callSi (va_Run.run (va_runV (As := [.int (nI a0), .int (nI b0)]) (rest := []) ⟨hx, hb, hml, hown, hts⟩ (g_X5_weights l D cI cL cZ cC g0 ra wa ta ma pa ba ka fa qa ea za ya kpt mkd tpd at0 wel srt wks st nw a0 b0 (by first | assumption | decide +kernel) (by first | assumption | decide +kernel) (by first | assumption | decide +kernel) (by omega) (by omega)) (cwV 2 hts gX5_onFoot_X5_weights rfl rfl rfl (by decide +kernel) ⟨Nat.le_of_ble_eq_true rfl, Nat.le_of_ble_eq_true rfl⟩) ⟨xPc_bl, va_recv hK hPc (ci := 5) (q0 := 0) rfl rfl, xPc_use hPc hK⟩ rfl rfl hl.1 rfl (lv_room (Nat.le_of_ble_eq_true rfl)) dX5_onFoot_31 ⟨Nat.le_of_ble_eq_true rfl, Nat.le_of_ble_eq_true rfl⟩)) (fun r_3 er_3 => ?_)
    obtain rfl : (xWs (fun i => nw (20 + 16 * a0 + i)) b0 : Int32) = r_3 := Eq.symm er_3
    refine lv_iload hx hb dX5_onFoot_34 (lv_at hl 0 rfl) ?_
    refine lv_imul hx hb dX5_onFoot_36 ?_
    exact W.iret (v := (xWs (fun i => nw (20 + 16 * a0 + i)) b0) * ((nI m0) + (xRs nw st j0))) hx hb hr (fun t ht hW => ⟨_, rfl, (by rw [x5Of, if_pos c_2]), ht⟩) (fun _ h => absurd h List.not_mem_nil) dX5_onFoot_37
  · refine lv_iload_n hx hb dX5_onFoot_21 rfl (lv_at hl 4 rfl) ?_
    refine lv_bipush (v := 60) hx hb dX5_onFoot_22 (by decide) ?_
    refine lv_icmp_ne (tgt := 38) hx hb dX5_onFoot_24 (by decide) (fun c_4 => ?_) (fun c_4 => ?_)
    · refine lv_iload_n hx hb dX5_onFoot_38 rfl (lv_at hl 4 rfl) ?_
      refine lv_aload_n hx hb dX5_onFoot_39 rfl (lv_at hl 1 rfl) ?_
      refine lv_iload_n hx hb dX5_onFoot_40 rfl (lv_at hl 3 rfl) ?_
      refine lv_iconst (v := 1) hx hb dX5_onFoot_41 (by decide) ?_
      refine lv_iadd hx hb dX5_onFoot_42 ?_
      refine xv_int (y := nI (j0 + 1)) (nI_1 j0) ?_
      refine lv_aload_n hx hb dX5_onFoot_43 rfl (lv_at hl 1 rfl) ?_
      refine va_get (D := D) (ci := 5) (v := .ref wa) (C := RX5) (T := TX5) (N := 19) hx hb hts hwX5 hown hK hP 0 rfl rfl 1 (by decide) (hts (.fieldLink RX5 19 "WaitOrWalkOnModel" "now" "[I") (by decide +kernel)) (fun _ h9 => h9) rfl dX5_onFoot_44 ?_
      refine lv_iconst (v := 2) hx hb dX5_onFoot_47 (by decide) ?_
      refine va_iald (D := D) hx hb hK hP 1 0 rfl rfl (by unfold vp_in; decide +kernel) dX5_onFoot_48 ?_
      refine xv_int (y := nw 2) rfl ?_
      have hPc := hP.sub (ws' := [(g0, .inr (5, [.ref ra, .ref wa, .ref ta, .int kpt, .ref ma, .int mkd, .ref pa, .int tpd, .int at0, .int wel, .ref ba, .ref ka, .int srt, .ref fa, .ref qa, .ref ea, .ref za, .ref ya, .int wks])), (wa, .inl (cI, 70, .inl nw))]) [0, 1] rfl
      refine vp_callSi (va_Run.run (va_runV (As := [.int (nI (j0 + 1)), .int (nw 2)]) (rest := [.int (nI m0)]) ⟨hx, hb, hml, hown, hts⟩ (g_X5_leg l D cI cL cZ cC g0 ra wa ta ma pa ba ka fa qa ea za ya kpt mkd tpd at0 wel srt wks st nw (j0 + 1) (nw 2) (by first | assumption | decide +kernel) (by first | assumption | decide +kernel) (by first | assumption | decide +kernel) (by omega) (hq2)) (cwV 2 hts gX5_onFoot_X5_leg rfl rfl rfl (by decide +kernel) ⟨Nat.le_of_ble_eq_true rfl, Nat.le_of_ble_eq_true rfl⟩) ⟨xPc_bl, va_recv hK hPc (ci := 5) (q0 := 0) rfl rfl, xPc_use hPc hK⟩ rfl rfl hl.1 rfl (lv_room (Nat.le_of_ble_eq_true rfl)) dX5_onFoot_49 ⟨Nat.le_of_ble_eq_true rfl, Nat.le_of_ble_eq_true rfl⟩)) (fun r_5 er_5 => ?_)
      obtain rfl : ((xLm nw st (j0 + 1) + (nw 2) - 1) / (nw 2) : Int32) = r_5 := Eq.symm er_5
      refine xv_int (y := nI (wn (j0 + 1))) ((hwn (j0 + 1) (by omega) (by omega)).1) ?_
      refine lv_iadd hx hb dX5_onFoot_52 ?_
      refine xv_int (y := nI (m0 + wn (j0 + 1))) (nI_add _ _) ?_
      refine lv_istore (lv' := [(6, .int (nI (m0 + wn (j0 + 1)))), (5, .int ((nI m0) + (xRs nw st j0))), (0, .ref g0), (1, .int (nI a0)), (2, .int (nI j0)), (3, .int (nI m0)), (4, .int (nI b0))]) hx hb dX5_onFoot_53 hl (by decide) rfl (fun ls hl => ?_)
      refine lv_bipush (v := 12) hx hb dX5_onFoot_55 (by decide) ?_
      refine lv_iload hx hb dX5_onFoot_57 (lv_at hl 6 rfl) ?_
      refine lv_iload hx hb dX5_onFoot_59 (lv_at hl 0 rfl) ?_
      refine lv_aload_n hx hb dX5_onFoot_61 rfl (lv_at hl 2 rfl) ?_
      refine lv_iload_n hx hb dX5_onFoot_62 rfl (lv_at hl 3 rfl) ?_
      refine lv_iload_n hx hb dX5_onFoot_63 rfl (lv_at hl 4 rfl) ?_
      refine lv_iconst (v := 1) hx hb dX5_onFoot_64 (by decide) ?_
      refine lv_iadd hx hb dX5_onFoot_65 ?_
      refine xv_int (y := nI (j0 + 1)) (nI_1 j0) ?_
      have hPc := hP.sub (ws' := [(g0, .inr (5, [.ref ra, .ref wa, .ref ta, .int kpt, .ref ma, .int mkd, .ref pa, .int tpd, .int at0, .int wel, .ref ba, .ref ka, .int srt, .ref fa, .ref qa, .ref ea, .ref za, .ref ya, .int wks])), (wa, .inl (cI, 70, .inl nw))]) [0, 1] rfl
      refine vp_callSi (va_Run.run (va_runV (As := [.int (nI a0), .int (nI (j0 + 1))]) (rest := [.int (nI (m0 + wn (j0 + 1))), .int (nI b0), .int 12]) ⟨hx, hb, hml, hown, hts⟩ (g_X5_to l D cI cL cZ cC g0 ra wa ta ma pa ba ka fa qa ea za ya kpt mkd tpd at0 wel srt wks st nw a0 (j0 + 1) (by first | assumption | decide +kernel) (by first | assumption | decide +kernel) (by first | assumption | decide +kernel) (by omega) (by omega)) (cwV 2 hts gX5_onFoot_X5_to rfl rfl rfl (by decide +kernel) ⟨Nat.le_of_ble_eq_true rfl, Nat.le_of_ble_eq_true rfl⟩) ⟨xPc_bl, va_recv hK hPc (ci := 5) (q0 := 0) rfl rfl, xPc_use hPc hK⟩ rfl rfl hl.1 rfl (lv_room (Nat.le_of_ble_eq_true rfl)) dX5_onFoot_66 ⟨Nat.le_of_ble_eq_true rfl, Nat.le_of_ble_eq_true rfl⟩)) (fun r_6 er_6 => ?_)
      obtain rfl : (xSm (fun i => sRd (nw (20 + 16 * a0)) (nw (20 + 16 * a0 + 1)) (nI i)) (j0 + 1) : Int32) = r_6 := Eq.symm er_6
      refine xv_int (y := xTO nw (20 + 16 * a0) (j0 + 1)) (rfl) ?_
      refine lv_isub hx hb dX5_onFoot_69 ?_
      refine va_mmax hx hb (hml.trans hl.1.symm) hown (hts (.methodLink RX5 152 Lib.Math.max.name) (by decide +kernel)) (hts (.static Lib.Math.max.name) (by decide +kernel)) (hts (.initialized "java/lang/Math") (by decide +kernel)) (hts (.code Lib.Math.max.name Lib.Math.max.code 2 (some .int)) (by decide +kernel)) (Nat.le_of_ble_eq_true rfl) (Nat.le_of_ble_eq_true rfl) (Nat.le_of_ble_eq_true rfl) (Nat.le_of_ble_eq_true rfl) dX5_onFoot_70 ?_
      refine va_mmin hx hb (hml.trans hl.1.symm) hown (hts (.methodLink RX5 157 Lib.Math.min.name) (by decide +kernel)) (hts (.static Lib.Math.min.name) (by decide +kernel)) (hts (.initialized "java/lang/Math") (by decide +kernel)) (hts (.code Lib.Math.min.name Lib.Math.min.code 2 (some .int)) (by decide +kernel)) (Nat.le_of_ble_eq_true rfl) (Nat.le_of_ble_eq_true rfl) (Nat.le_of_ble_eq_true rfl) (Nat.le_of_ble_eq_true rfl) dX5_onFoot_73 ?_
      refine xv_int (y := nI (x5Fr nw (20 + 16 * a0) (j0 + 1) (m0 + wn (j0 + 1)) (b0))) (xBd_n (le := nI b0) (xNn (by omega))) ?_
      refine lv_istore (lv' := [(7, .int (nI (x5Fr nw (20 + 16 * a0) (j0 + 1) (m0 + wn (j0 + 1)) (b0)))), (6, .int (nI (m0 + wn (j0 + 1)))), (5, .int ((nI m0) + (xRs nw st j0))), (0, .ref g0), (1, .int (nI a0)), (2, .int (nI j0)), (3, .int (nI m0)), (4, .int (nI b0))]) hx hb dX5_onFoot_76 hl (by decide) rfl (fun ls hl => ?_)
      refine lv_aload_n hx hb dX5_onFoot_78 rfl (lv_at hl 3 rfl) ?_
      refine lv_iload_n hx hb dX5_onFoot_79 rfl (lv_at hl 4 rfl) ?_
      refine lv_iload hx hb dX5_onFoot_80 (lv_at hl 7 rfl) ?_
      have hPc := hP.sub (ws' := [(g0, .inr (5, [.ref ra, .ref wa, .ref ta, .int kpt, .ref ma, .int mkd, .ref pa, .int tpd, .int at0, .int wel, .ref ba, .ref ka, .int srt, .ref fa, .ref qa, .ref ea, .ref za, .ref ya, .int wks])), (wa, .inl (cI, 70, .inl nw))]) [0, 1] rfl
      refine vp_callSi (va_Run.run (va_runV (As := [.int (nI a0), .int (nI b0)]) (rest := []) ⟨hx, hb, hml, hown, hts⟩ (g_X5_weights l D cI cL cZ cC g0 ra wa ta ma pa ba ka fa qa ea za ya kpt mkd tpd at0 wel srt wks st nw a0 b0 (by first | assumption | decide +kernel) (by first | assumption | decide +kernel) (by first | assumption | decide +kernel) (by omega) (by omega)) (cwV 2 hts gX5_onFoot_X5_weights rfl rfl rfl (by decide +kernel) ⟨Nat.le_of_ble_eq_true rfl, Nat.le_of_ble_eq_true rfl⟩) ⟨xPc_bl, va_recv hK hPc (ci := 5) (q0 := 0) rfl rfl, xPc_use hPc hK⟩ rfl rfl hl.1 rfl (lv_room (Nat.le_of_ble_eq_true rfl)) dX5_onFoot_82 ⟨Nat.le_of_ble_eq_true rfl, Nat.le_of_ble_eq_true rfl⟩)) (fun r_7 er_7 => ?_)
      obtain rfl : (xWs (fun i => nw (20 + 16 * a0 + i)) b0 : Int32) = r_7 := Eq.symm er_7
      refine lv_aload_n hx hb dX5_onFoot_85 rfl (lv_at hl 3 rfl) ?_
      refine lv_iload_n hx hb dX5_onFoot_86 rfl (lv_at hl 4 rfl) ?_
      refine lv_iload hx hb dX5_onFoot_87 (lv_at hl 0 rfl) ?_
      have hPc := hP.sub (ws' := [(g0, .inr (5, [.ref ra, .ref wa, .ref ta, .int kpt, .ref ma, .int mkd, .ref pa, .int tpd, .int at0, .int wel, .ref ba, .ref ka, .int srt, .ref fa, .ref qa, .ref ea, .ref za, .ref ya, .int wks])), (wa, .inl (cI, 70, .inl nw))]) [0, 1] rfl
      refine vp_callSi (va_Run.run (va_runV (As := [.int (nI a0), .int (nI (x5Fr nw (20 + 16 * a0) (j0 + 1) (m0 + wn (j0 + 1)) (b0)))]) (rest := [.int (xWs (fun i => nw (20 + 16 * a0 + i)) b0)]) ⟨hx, hb, hml, hown, hts⟩ (g_X5_weights l D cI cL cZ cC g0 ra wa ta ma pa ba ka fa qa ea za ya kpt mkd tpd at0 wel srt wks st nw a0 (x5Fr nw (20 + 16 * a0) (j0 + 1) (m0 + wn (j0 + 1)) (b0)) (by first | assumption | decide +kernel) (by first | assumption | decide +kernel) (by first | assumption | decide +kernel) (by omega) (x5Fr_le _ _ _ _ _)) (cwV 2 hts gX5_onFoot_X5_weights rfl rfl rfl (by decide +kernel) ⟨Nat.le_of_ble_eq_true rfl, Nat.le_of_ble_eq_true rfl⟩) ⟨xPc_bl, va_recv hK hPc (ci := 5) (q0 := 0) rfl rfl, xPc_use hPc hK⟩ rfl rfl hl.1 rfl (lv_room (Nat.le_of_ble_eq_true rfl)) dX5_onFoot_89 ⟨Nat.le_of_ble_eq_true rfl, Nat.le_of_ble_eq_true rfl⟩)) (fun r_8 er_8 => ?_)
      obtain rfl : (xWs (fun i => nw (20 + 16 * a0 + i)) (x5Fr nw (20 + 16 * a0) (j0 + 1) (m0 + wn (j0 + 1)) (b0)) : Int32) = r_8 := Eq.symm er_8
      refine lv_isub hx hb dX5_onFoot_92 ?_
      refine lv_iload hx hb dX5_onFoot_93 (lv_at hl 2 rfl) ?_
      refine lv_imul hx hb dX5_onFoot_95 ?_
      refine lv_aload_n hx hb dX5_onFoot_96 rfl (lv_at hl 3 rfl) ?_
      refine lv_iload_n hx hb dX5_onFoot_97 rfl (lv_at hl 4 rfl) ?_
      refine lv_iload_n hx hb dX5_onFoot_98 rfl (lv_at hl 5 rfl) ?_
      refine lv_iconst (v := 1) hx hb dX5_onFoot_99 (by decide) ?_
      refine lv_iadd hx hb dX5_onFoot_100 ?_
      refine xv_int (y := nI (j0 + 1)) (nI_1 j0) ?_
      refine lv_iload hx hb dX5_onFoot_101 (lv_at hl 1 rfl) ?_
      refine lv_iload hx hb dX5_onFoot_103 (lv_at hl 0 rfl) ?_
      have hPc := hP.sub (ws' := [(g0, .inr (5, [.ref ra, .ref wa, .ref ta, .int kpt, .ref ma, .int mkd, .ref pa, .int tpd, .int at0, .int wel, .ref ba, .ref ka, .int srt, .ref fa, .ref qa, .ref ea, .ref za, .ref ya, .int wks])), (wa, .inl (cI, 70, .inl nw)), (ya, .inl (cI, 5600, .inl y))]) [0, 1, 2] rfl
      refine vp_callSi (va_Run.run (va_runV (As := [.int (nI a0), .int (nI (j0 + 1)), .int (nI (m0 + wn (j0 + 1))), .int (nI (x5Fr nw (20 + 16 * a0) (j0 + 1) (m0 + wn (j0 + 1)) (b0)))]) (rest := [.int (((xWs (fun i => nw (20 + 16 * a0 + i)) b0) - (xWs (fun i => nw (20 + 16 * a0 + i)) (x5Fr nw (20 + 16 * a0) (j0 + 1) (m0 + wn (j0 + 1)) (b0)))) * ((nI m0) + (xRs nw st j0)))]) ⟨hx, hb, hml, hown, hts⟩ (g_X5_later l D cI cL cZ cC g0 ra wa ta ma pa ba ka fa qa ea za ya kpt mkd tpd at0 wel srt wks st nw a0 (j0 + 1) (m0 + wn (j0 + 1)) (x5Fr nw (20 + 16 * a0) (j0 + 1) (m0 + wn (j0 + 1)) (b0)) y (by first | assumption | decide +kernel) (by first | assumption | decide +kernel) (by first | assumption | decide +kernel) (by first | assumption | decide +kernel) (by first | assumption | decide +kernel) (by have w8 : j0 + 1 < st := (by have w9 := mt (nI_eq (a := j0) (b := st - 1) (by omega) (by omega)).mpr c_2; omega); exact w8) (by have w := (hwn (j0 + 1) (by omega) (by omega)).2; omega) (x5Fr_le _ _ _ _ _)) (cwV 4 hts gX5_onFoot_X5_later rfl rfl rfl (by decide +kernel) ⟨Nat.le_of_ble_eq_true rfl, Nat.le_of_ble_eq_true rfl⟩) ⟨xPc_bl, va_recv hK hPc (ci := 5) (q0 := 0) rfl rfl, xPc_use hPc hK⟩ rfl rfl hl.1 rfl (lv_room (Nat.le_of_ble_eq_true rfl)) dX5_onFoot_105 ⟨Nat.le_of_ble_eq_true rfl, Nat.le_of_ble_eq_true rfl⟩)) (fun r_9 er_9 => ?_)
      obtain rfl : (x5La st nw (20 + 16 * a0) y (j0 + 1) (m0 + wn (j0 + 1)) (x5Fr nw (20 + 16 * a0) (j0 + 1) (m0 + wn (j0 + 1)) (b0)) : Int32) = r_9 := Eq.symm er_9
      refine lv_iadd hx hb dX5_onFoot_108 ?_
      exact W.iret (v := (((xWs (fun i => nw (20 + 16 * a0 + i)) b0) - (xWs (fun i => nw (20 + 16 * a0 + i)) (x5Fr nw (20 + 16 * a0) (j0 + 1) (m0 + wn (j0 + 1)) (b0)))) * ((nI m0) + (xRs nw st j0))) + (x5La st nw (20 + 16 * a0) y (j0 + 1) (m0 + wn (j0 + 1)) (x5Fr nw (20 + 16 * a0) (j0 + 1) (m0 + wn (j0 + 1)) (b0)))) hx hb hr (fun t ht hW => ⟨_, rfl, (by rw [x5Of, if_neg c_2, if_neg c_4]), ht⟩) (fun _ h => absurd h List.not_mem_nil) dX5_onFoot_109
    · refine lv_aload_n hx hb dX5_onFoot_27 rfl (lv_at hl 1 rfl) ?_
      refine lv_iload_n hx hb dX5_onFoot_28 rfl (lv_at hl 2 rfl) ?_
      refine lv_iload hx hb dX5_onFoot_29 (lv_at hl 5 rfl) ?_
      have hPc := hP.sub (ws' := [(g0, .inr (5, [.ref ra, .ref wa, .ref ta, .int kpt, .ref ma, .int mkd, .ref pa, .int tpd, .int at0, .int wel, .ref ba, .ref ka, .int srt, .ref fa, .ref qa, .ref ea, .ref za, .ref ya, .int wks])), (wa, .inl (cI, 70, .inl nw))]) [0, 1] rfl
      refine vp_callSi (va_Run.run (va_runV (As := [.int (nI a0), .int (nI b0)]) (rest := []) ⟨hx, hb, hml, hown, hts⟩ (g_X5_weights l D cI cL cZ cC g0 ra wa ta ma pa ba ka fa qa ea za ya kpt mkd tpd at0 wel srt wks st nw a0 b0 (by first | assumption | decide +kernel) (by first | assumption | decide +kernel) (by first | assumption | decide +kernel) (by omega) (by omega)) (cwV 2 hts gX5_onFoot_X5_weights rfl rfl rfl (by decide +kernel) ⟨Nat.le_of_ble_eq_true rfl, Nat.le_of_ble_eq_true rfl⟩) ⟨xPc_bl, va_recv hK hPc (ci := 5) (q0 := 0) rfl rfl, xPc_use hPc hK⟩ rfl rfl hl.1 rfl (lv_room (Nat.le_of_ble_eq_true rfl)) dX5_onFoot_31 ⟨Nat.le_of_ble_eq_true rfl, Nat.le_of_ble_eq_true rfl⟩)) (fun r_10 er_10 => ?_)
      obtain rfl : (xWs (fun i => nw (20 + 16 * a0 + i)) b0 : Int32) = r_10 := Eq.symm er_10
      refine lv_iload hx hb dX5_onFoot_34 (lv_at hl 0 rfl) ?_
      refine lv_imul hx hb dX5_onFoot_36 ?_
      exact W.iret (v := (xWs (fun i => nw (20 + 16 * a0 + i)) b0) * ((nI m0) + (xRs nw st j0))) hx hb hr (fun t ht hW => ⟨_, rfl, (by rw [x5Of, if_neg c_2, if_pos c_4]), ht⟩) (fun _ h => absurd h List.not_mem_nil) dX5_onFoot_37

set_option maxHeartbeats 4000000 in
set_option maxRecDepth 100000 in
theorem g_X5_worked (l : Launch) (D : va_G) (cI cL cZ cC : ClassId) (sz : Nat) (g0 : Nat) (ra : Nat) (wa : Nat) (ta : Nat) (ma : Nat) (pa : Nat) (ba : Nat) (ka : Nat) (fa : Nat) (qa : Nat) (ea : Nat) (za : Nat) (ya : Nat) (kpt : Int32) (mkd : Int32) (tpd : Int32) (at0 : Int32) (wel : Int32) (srt : Int32) (wks : Int32) (st : Nat) (nw : Nat → Int32) (a0 : Nat) (wn : Nat → Nat) (j0 : Nat) (m0 : Nat) (b0 : Nat) (y : Nat → Int32) (hn0 : nw 0 = nI st) (hs1 : 1 ≤ st) (hs7 : st ≤ 7) (ha : a0 ≤ 2) (hq2 : ¬ nw 2 = 0) (hwn : ∀ j, 1 ≤ j → j ≤ st → (xLm nw st j + nw 2 - 1) / nw 2 = nI (wn j) ∧ wn j ≤ 1000) (hjs : j0 < st) (hm0 : m0 ≤ 60) (hb0 : b0 ≤ 12) : Met l yX5_worked wsX5_worked ({ frames := 5, cells := 0, slots := 0, locals := 118 } : Room) (wPc D [.ref g0, .int (nI a0), .int (nI j0), .int (nI m0), .int (nI b0)] [(g0, .inr (5, [.ref ra, .ref wa, .ref ta, .int kpt, .ref ma, .int mkd, .ref pa, .int tpd, .int at0, .int wel, .ref ba, .ref ka, .int srt, .ref fa, .ref qa, .ref ea, .ref za, .ref ya, .int wks])), (wa, .inl (cI, 70, .inl nw)), (ya, .inl (cI, 5600, .inl y))] (xTy cI cL cZ cC) sz) (va_Qi (fun (r : Int32) (_ : Unit) => r = x5Wr st nw (20 + 16 * a0) wn y j0 m0 b0) (fun (_ : Unit) t => va_P D vwCl [(g0, .inr (5, [.ref ra, .ref wa, .ref ta, .int kpt, .ref ma, .int mkd, .ref pa, .int tpd, .int at0, .int wel, .ref ba, .ref ka, .int srt, .ref fa, .ref qa, .ref ea, .ref za, .ref ya, .int (x5Wk st nw (20 + 16 * a0) wn y j0 m0 b0)])), (wa, .inl (cI, 70, .inl nw)), (ya, .inl (cI, 5600, .inl y))] t.heap ∧ va_D (va_A [(g0, .inr (5, [.ref ra, .ref wa, .ref ta, .int kpt, .ref ma, .int mkd, .ref pa, .int tpd, .int at0, .int wel, .ref ba, .ref ka, .int srt, .ref fa, .ref qa, .ref ea, .ref za, .ref ya, .int wks])), (wa, .inl (cI, 70, .inl nw)), (ya, .inl (cI, 5600, .inl y))] sz) [(g0, .inr (5, [.ref ra, .ref wa, .ref ta, .int kpt, .ref ma, .int mkd, .ref pa, .int tpd, .int at0, .int wel, .ref ba, .ref ka, .int srt, .ref fa, .ref qa, .ref ea, .ref za, .ref ya, .int (x5Wk st nw (20 + 16 * a0) wn y j0 m0 b0)])), (wa, .inl (cI, 70, .inl nw)), (ya, .inl (cI, 5600, .inl y))]) (va_A [(g0, .inr (5, [.ref ra, .ref wa, .ref ta, .int kpt, .ref ma, .int mkd, .ref pa, .int tpd, .int at0, .int wel, .ref ba, .ref ka, .int srt, .ref fa, .ref qa, .ref ea, .ref za, .ref ya, .int wks])), (wa, .inl (cI, 70, .inl nw)), (ya, .inl (cI, 5600, .inl y))] sz)) 0 0 (va_A [(g0, .inr (5, [.ref ra, .ref wa, .ref ta, .int kpt, .ref ma, .int mkd, .ref pa, .int tpd, .int at0, .int wel, .ref ba, .ref ka, .int srt, .ref fa, .ref qa, .ref ea, .ref za, .ref ya, .int wks])), (wa, .inl (cI, 70, .inl nw)), (ya, .inl (cI, 5600, .inl y))] sz) := by
  refine Met.ofW (cc := cX5_worked) (maxL := 11) (ret := (some .int)) (by decide) rfl ?_
  intro p e s m args below meth c s₁ B hml hv
  obtain ⟨rfl, hsz, hP, hK, hD0⟩ := hv
  have hx := B.exec
  have hb := B.bytes
  have hr := B.returns
  have hts := atoms_spec (ws := wsX5_worked) B.pre
  have hown : s.vm.findClass RX5 = some m.cls := findClass_of_methodNamed B.named
  have hlocks := B.notSynchronized
  have hwX5 : ∀ w ∈ u_ws RX5 TX5 19, w ∈ wsX5_worked := fun _ h => List.mem_cons_of_mem _ (List.mem_append_right _ h)
  subst hsz
  have hD := hD0.self (sz := s.heap.size)
  generalize hAe : va_A [(g0, .inr (5, [.ref ra, .ref wa, .ref ta, .int kpt, .ref ma, .int mkd, .ref pa, .int tpd, .int at0, .int wel, .ref ba, .ref ka, .int srt, .ref fa, .ref qa, .ref ea, .ref za, .ref ya, .int wks])), (wa, .inl (cI, 70, .inl nw)), (ya, .inl (cI, 5600, .inl y))] s.heap.size = A at hD ⊢
  have hA : ∀ q : Nat, s.heap.size ≤ q → A q := fun q h => by rw [← hAe]; exact Or.inr h
  have hS : va_S A s.heap s.heap [] := va_S.rf
  have hP : va_P D vwCl [(g0, .inr (5, [.ref ra, .ref wa, .ref ta, .int kpt, .ref ma, .int mkd, .ref pa, .int tpd, .int at0, .int wel, .ref ba, .ref ka, .int srt, .ref fa, .ref qa, .ref ea, .ref za, .ref ya, .int wks])), (wa, .inl (cI, 70, .inl nw)), (ya, .inl (cI, 5600, .inl y))] s.heap := hP
  have hl := lv_entry ([.ref g0, .int (nI a0), .int (nI j0), .int (nI m0), .int (nI b0)]) (n := 11) (Nat.le_of_ble_eq_true rfl)
  rw [lg_entry_eq]
  generalize (lg_sl ([.ref g0, .int (nI a0), .int (nI j0), .int (nI m0), .int (nI b0)]) ++ List.replicate (11 - (lg_sl ([.ref g0, .int (nI a0), .int (nI j0), .int (nI m0), .int (nI b0)])).length) Slot.unset).toArray = ls at hl ⊢
  have hl : lv_has ls 11 [(0, .ref g0), (1, .int (nI a0)), (2, .int (nI j0)), (3, .int (nI m0)), (4, .int (nI b0))] := hl
  refine lv_iload_n hx hb dX5_worked_0 rfl (lv_at hl 3 rfl) ?_
  refine lv_aload_n hx hb dX5_worked_1 rfl (lv_at hl 0 rfl) ?_
  refine lv_iload_n hx hb dX5_worked_2 rfl (lv_at hl 1 rfl) ?_
  refine lv_iload_n hx hb dX5_worked_3 rfl (lv_at hl 2 rfl) ?_
  have hPc := hP.sub (ws' := [(g0, .inr (5, [.ref ra, .ref wa, .ref ta, .int kpt, .ref ma, .int mkd, .ref pa, .int tpd, .int at0, .int wel, .ref ba, .ref ka, .int srt, .ref fa, .ref qa, .ref ea, .ref za, .ref ya, .int wks])), (wa, .inl (cI, 70, .inl nw))]) [0, 1] rfl
  refine vp_callSi (va_Run.run (va_runV (As := [.int (nI a0), .int (nI j0)]) (rest := [.int (nI m0)]) ⟨hx, hb, hml, hown, hts⟩ (g_X5_to l D cI cL cZ cC g0 ra wa ta ma pa ba ka fa qa ea za ya kpt mkd tpd at0 wel srt wks st nw a0 j0 (by first | assumption | decide +kernel) (by first | assumption | decide +kernel) (by first | assumption | decide +kernel) (by omega) (by omega)) (cwV 2 hts gX5_worked_X5_to rfl rfl rfl (by decide +kernel) ⟨Nat.le_of_ble_eq_true rfl, Nat.le_of_ble_eq_true rfl⟩) ⟨xPc_bl, va_recv hK hPc (ci := 5) (q0 := 0) rfl rfl, xPc_use hPc hK⟩ rfl rfl hl.1 rfl (lv_room (Nat.le_of_ble_eq_true rfl)) dX5_worked_4 ⟨Nat.le_of_ble_eq_true rfl, Nat.le_of_ble_eq_true rfl⟩)) (fun r_1 er_1 => ?_)
  obtain rfl : (xSm (fun i => sRd (nw (20 + 16 * a0)) (nw (20 + 16 * a0 + 1)) (nI i)) j0 : Int32) = r_1 := Eq.symm er_1
  refine xv_int (y := xTO nw (20 + 16 * a0) j0) (rfl) ?_
  refine lv_isub hx hb dX5_worked_7 ?_
  refine lv_istore (lv' := [(5, .int ((nI m0) - (xTO nw (20 + 16 * a0) j0))), (0, .ref g0), (1, .int (nI a0)), (2, .int (nI j0)), (3, .int (nI m0)), (4, .int (nI b0))]) hx hb dX5_worked_8 hl (by decide) rfl (fun ls hl => ?_)
  refine xl_cut (σ := Unit) 29 (fun _ => [.int (x5Is nw (20 + 16 * a0) j0 m0 b0)]) (fun _ ls => lv_has ls 11 [(5, .int ((nI m0) - (xTO nw (20 + 16 * a0) j0))), (0, .ref g0), (1, .int (nI a0)), (2, .int (nI j0)), (3, .int (nI m0)), (4, .int (nI b0))]) ?_ ?_
  · intro _ ls hl
    refine lv_istore (lv' := [(6, .int (x5Is nw (20 + 16 * a0) j0 m0 b0)), (5, .int ((nI m0) - (xTO nw (20 + 16 * a0) j0))), (0, .ref g0), (1, .int (nI a0)), (2, .int (nI j0)), (3, .int (nI m0)), (4, .int (nI b0))]) hx hb dX5_worked_29 hl (by decide) rfl (fun ls hl => ?_)
    refine xl_cut (σ := Unit) 45 (fun _ => [.int (nI (x5Nx nw (20 + 16 * a0) j0 m0 b0))]) (fun _ ls => lv_has ls 11 [(6, .int (x5Is nw (20 + 16 * a0) j0 m0 b0)), (5, .int ((nI m0) - (xTO nw (20 + 16 * a0) j0))), (0, .ref g0), (1, .int (nI a0)), (2, .int (nI j0)), (3, .int (nI m0)), (4, .int (nI b0))]) ?_ ?_
    · intro _ ls hl
      refine lv_istore (lv' := [(7, .int (nI (x5Nx nw (20 + 16 * a0) j0 m0 b0))), (6, .int (x5Is nw (20 + 16 * a0) j0 m0 b0)), (5, .int ((nI m0) - (xTO nw (20 + 16 * a0) j0))), (0, .ref g0), (1, .int (nI a0)), (2, .int (nI j0)), (3, .int (nI m0)), (4, .int (nI b0))]) hx hb dX5_worked_45 hl (by decide) rfl (fun ls hl => ?_)
      refine xl_cut (σ := Unit) 108 (fun _ => [.int (x5Sm st nw (20 + 16 * a0) j0 m0 b0)]) (fun _ ls => lv_has ls 11 [(7, .int (nI (x5Nx nw (20 + 16 * a0) j0 m0 b0))), (6, .int (x5Is nw (20 + 16 * a0) j0 m0 b0)), (5, .int ((nI m0) - (xTO nw (20 + 16 * a0) j0))), (0, .ref g0), (1, .int (nI a0)), (2, .int (nI j0)), (3, .int (nI m0)), (4, .int (nI b0))]) ?_ ?_
      · intro _ ls hl
        refine lv_istore (lv' := [(8, .int (x5Sm st nw (20 + 16 * a0) j0 m0 b0)), (7, .int (nI (x5Nx nw (20 + 16 * a0) j0 m0 b0))), (6, .int (x5Is nw (20 + 16 * a0) j0 m0 b0)), (5, .int ((nI m0) - (xTO nw (20 + 16 * a0) j0))), (0, .ref g0), (1, .int (nI a0)), (2, .int (nI j0)), (3, .int (nI m0)), (4, .int (nI b0))]) hx hb dX5_worked_108 hl (by decide) rfl (fun ls hl => ?_)
        refine lv_aload_n hx hb dX5_worked_110 rfl (lv_at hl 4 rfl) ?_
        refine lv_iload_n hx hb dX5_worked_111 rfl (lv_at hl 5 rfl) ?_
        refine lv_iload_n hx hb dX5_worked_112 rfl (lv_at hl 6 rfl) ?_
        refine lv_iload_n hx hb dX5_worked_113 rfl (lv_at hl 7 rfl) ?_
        refine lv_iload hx hb dX5_worked_114 (lv_at hl 1 rfl) ?_
        have hPc := hP.sub (ws' := [(g0, .inr (5, [.ref ra, .ref wa, .ref ta, .int kpt, .ref ma, .int mkd, .ref pa, .int tpd, .int at0, .int wel, .ref ba, .ref ka, .int srt, .ref fa, .ref qa, .ref ea, .ref za, .ref ya, .int wks])), (wa, .inl (cI, 70, .inl nw)), (ya, .inl (cI, 5600, .inl y))]) [0, 1, 2] rfl
        refine vp_callSi (va_Run.run (va_runV (As := [.int (nI a0), .int (nI j0), .int (nI m0), .int (nI (x5Nx nw (20 + 16 * a0) j0 m0 b0))]) (rest := []) ⟨hx, hb, hml, hown, hts⟩ (g_X5_onFoot l D cI cL cZ cC g0 ra wa ta ma pa ba ka fa qa ea za ya kpt mkd tpd at0 wel srt wks st nw a0 wn j0 m0 (x5Nx nw (20 + 16 * a0) j0 m0 b0) y (by first | assumption | decide +kernel) (by first | assumption | decide +kernel) (by first | assumption | decide +kernel) (by first | assumption | decide +kernel) (by first | assumption | decide +kernel) (hwn) (hjs) (hm0) (x5Nx_le hb0)) (cwV 4 hts gX5_worked_X5_onFoot rfl rfl rfl (by decide +kernel) ⟨Nat.le_of_ble_eq_true rfl, Nat.le_of_ble_eq_true rfl⟩) ⟨xPc_bl, va_recv hK hPc (ci := 5) (q0 := 0) rfl rfl, xPc_use hPc hK⟩ rfl rfl hl.1 rfl (lv_room (Nat.le_of_ble_eq_true rfl)) dX5_worked_116 ⟨Nat.le_of_ble_eq_true rfl, Nat.le_of_ble_eq_true rfl⟩)) (fun r_2 er_2 => ?_)
        obtain rfl : (x5Of st nw (20 + 16 * a0) wn y j0 m0 (x5Nx nw (20 + 16 * a0) j0 m0 b0) : Int32) = r_2 := Eq.symm er_2
        refine lv_istore (lv' := [(9, .int (x5Of st nw (20 + 16 * a0) wn y j0 m0 (x5Nx nw (20 + 16 * a0) j0 m0 b0))), (8, .int (x5Sm st nw (20 + 16 * a0) j0 m0 b0)), (7, .int (nI (x5Nx nw (20 + 16 * a0) j0 m0 b0))), (6, .int (x5Is nw (20 + 16 * a0) j0 m0 b0)), (5, .int ((nI m0) - (xTO nw (20 + 16 * a0) j0))), (0, .ref g0), (1, .int (nI a0)), (2, .int (nI j0)), (3, .int (nI m0)), (4, .int (nI b0))]) hx hb dX5_worked_119 hl (by decide) rfl (fun ls hl => ?_)
        refine lv_iload_n hx hb dX5_worked_121 rfl (lv_at hl 7 rfl) ?_
        refine lv_aload_n hx hb dX5_worked_122 rfl (lv_at hl 5 rfl) ?_
        refine va_get (D := D) (ci := 5) (v := .ref wa) (C := RX5) (T := TX5) (N := 19) hx hb hts hwX5 hown hK hP 0 rfl rfl 1 (by decide) (hts (.fieldLink RX5 19 "WaitOrWalkOnModel" "now" "[I") (by decide +kernel)) (fun _ h9 => h9) rfl dX5_worked_123 ?_
        refine lv_iconst (v := 0) hx hb dX5_worked_126 (by decide) ?_
        refine va_iald (D := D) hx hb hK hP 1 0 rfl rfl (by unfold vp_in; decide +kernel) dX5_worked_127 ?_
        refine xv_int (y := nw 0) rfl ?_
        refine xv_int (y := nI st) (hn0) ?_
        refine lv_iconst (v := 1) hx hb dX5_worked_128 (by decide) ?_
        refine lv_isub hx hb dX5_worked_129 ?_
        refine xv_int (y := nI (st - 1)) (pk_sub hs1) ?_
        refine lv_icmp_eq (tgt := 139) hx hb dX5_worked_130 (by decide) (fun c_3 => ?_) (fun c_3 => ?_)
        · refine lv_aload_n hx hb dX5_worked_139 rfl (lv_at hl 5 rfl) ?_
          refine lv_iconst (v := 1) hx hb dX5_worked_140 (by decide) ?_
          refine va_put (D := D) (ci := 5) (v := .int 1) (ty := .boolean) (C := RX5) (T := TX5) (N := 19) hx hb hts hwX5 tyX5 tyX5_ok nmX5 hown hK hP hD hS 0 rfl rfl 18 (by decide) (hts (.fieldLink RX5 169 "WaitOrWalkOnModel" "walks" "Z") (by decide +kernel)) (fun _ h9 => h9) rfl (by decide +kernel) (by decide +kernel) rfl (Nat.le_of_ble_eq_true rfl) dX5_worked_141 (fun H locs hP hD hS => ?_)
          have hP : va_P D vwCl [(g0, .inr (5, [.ref ra, .ref wa, .ref ta, .int kpt, .ref ma, .int mkd, .ref pa, .int tpd, .int at0, .int wel, .ref ba, .ref ka, .int srt, .ref fa, .ref qa, .ref ea, .ref za, .ref ya, .int 1])), (wa, .inl (cI, 70, .inl nw)), (ya, .inl (cI, 5600, .inl y))] H := hP
          have hD : va_D A [(g0, .inr (5, [.ref ra, .ref wa, .ref ta, .int kpt, .ref ma, .int mkd, .ref pa, .int tpd, .int at0, .int wel, .ref ba, .ref ka, .int srt, .ref fa, .ref qa, .ref ea, .ref za, .ref ya, .int 1])), (wa, .inl (cI, 70, .inl nw)), (ya, .inl (cI, 5600, .inl y))] := hD
          refine lv_iload hx hb dX5_worked_144 (lv_at hl 1 rfl) ?_
          refine lv_iload hx hb dX5_worked_146 (lv_at hl 0 rfl) ?_
          refine lv_iadd hx hb dX5_worked_148 ?_
          have hP9 := hP.sub (ws' := [(g0, .inr (5, [.ref ra, .ref wa, .ref ta, .int kpt, .ref ma, .int mkd, .ref pa, .int tpd, .int at0, .int wel, .ref ba, .ref ka, .int srt, .ref fa, .ref qa, .ref ea, .ref za, .ref ya, .int 1])), (wa, .inl (cI, 70, .inl nw)), (ya, .inl (cI, 5600, .inl y))]) [0, 1, 2] rfl
          have hD9 := hD.sub (ws' := [(g0, .inr (5, [.ref ra, .ref wa, .ref ta, .int kpt, .ref ma, .int mkd, .ref pa, .int tpd, .int at0, .int wel, .ref ba, .ref ka, .int srt, .ref fa, .ref qa, .ref ea, .ref za, .ref ya, .int 1])), (wa, .inl (cI, 70, .inl nw)), (ya, .inl (cI, 5600, .inl y))]) [0, 1, 2] (by decide) rfl
          have hE9 : ([(g0, .inr (5, [.ref ra, .ref wa, .ref ta, .int kpt, .ref ma, .int mkd, .ref pa, .int tpd, .int at0, .int wel, .ref ba, .ref ka, .int srt, .ref fa, .ref qa, .ref ea, .ref za, .ref ya, .int 1])), (wa, .inl (cI, 70, .inl nw)), (ya, .inl (cI, 5600, .inl y))] : va_W) = [(g0, .inr (5, [.ref ra, .ref wa, .ref ta, .int kpt, .ref ma, .int mkd, .ref pa, .int tpd, .int at0, .int wel, .ref ba, .ref ka, .int srt, .ref fa, .ref qa, .ref ea, .ref za, .ref ya, .int (x5Wk st nw (20 + 16 * a0) wn y j0 m0 b0)])), (wa, .inl (cI, 70, .inl nw)), (ya, .inl (cI, 5600, .inl y))] := by have w9 : (1 : Int32) = x5Wk st nw (20 + 16 * a0) wn y j0 m0 b0 := (x5W_a c_3).2; rw [← w9]
          exact W.iret (v := (x5Sm st nw (20 + 16 * a0) j0 m0 b0) + (x5Of st nw (20 + 16 * a0) wn y j0 m0 (x5Nx nw (20 + 16 * a0) j0 m0 b0))) hx hb hr (fun t ht hW => ⟨⟨_, (), rfl, (x5W_a c_3).1, by rw [ht]; exact hE9 ▸ hP9, hE9 ▸ hD9⟩, hS.F ht⟩) hS.2.2 dX5_worked_149
        · refine lv_iload_n hx hb dX5_worked_133 rfl (lv_at hl 8 rfl) ?_
          refine lv_bipush (v := 60) hx hb dX5_worked_134 (by decide) ?_
          refine lv_icmp_ne (tgt := 150) hx hb dX5_worked_136 (by decide) (fun c_4 => ?_) (fun c_4 => ?_)
          · refine lv_aload_n hx hb dX5_worked_150 rfl (lv_at hl 5 rfl) ?_
            refine lv_iload_n hx hb dX5_worked_151 rfl (lv_at hl 6 rfl) ?_
            refine lv_iload_n hx hb dX5_worked_152 rfl (lv_at hl 7 rfl) ?_
            refine lv_iload_n hx hb dX5_worked_153 rfl (lv_at hl 8 rfl) ?_
            refine lv_iconst (v := 1) hx hb dX5_worked_154 (by decide) ?_
            refine lv_iadd hx hb dX5_worked_155 ?_
            refine xv_int (y := nI (m0 + 1)) (nI_1 m0) ?_
            refine lv_iload hx hb dX5_worked_156 (lv_at hl 2 rfl) ?_
            have hPc := hP.sub (ws' := [(g0, .inr (5, [.ref ra, .ref wa, .ref ta, .int kpt, .ref ma, .int mkd, .ref pa, .int tpd, .int at0, .int wel, .ref ba, .ref ka, .int srt, .ref fa, .ref qa, .ref ea, .ref za, .ref ya, .int wks])), (wa, .inl (cI, 70, .inl nw)), (ya, .inl (cI, 5600, .inl y))]) [0, 1, 2] rfl
            refine vp_callSi (va_Run.run (va_runV (As := [.int (nI a0), .int (nI j0), .int (nI (m0 + 1)), .int (nI (x5Nx nw (20 + 16 * a0) j0 m0 b0))]) (rest := []) ⟨hx, hb, hml, hown, hts⟩ (g_X5_later l D cI cL cZ cC g0 ra wa ta ma pa ba ka fa qa ea za ya kpt mkd tpd at0 wel srt wks st nw a0 j0 (m0 + 1) (x5Nx nw (20 + 16 * a0) j0 m0 b0) y (by first | assumption | decide +kernel) (by first | assumption | decide +kernel) (by first | assumption | decide +kernel) (by first | assumption | decide +kernel) (by first | assumption | decide +kernel) (hjs) (by omega) (x5Nx_le hb0)) (cwV 4 hts gX5_worked_X5_later rfl rfl rfl (by decide +kernel) ⟨Nat.le_of_ble_eq_true rfl, Nat.le_of_ble_eq_true rfl⟩) ⟨xPc_bl, va_recv hK hPc (ci := 5) (q0 := 0) rfl rfl, xPc_use hPc hK⟩ rfl rfl hl.1 rfl (lv_room (Nat.le_of_ble_eq_true rfl)) dX5_worked_158 ⟨Nat.le_of_ble_eq_true rfl, Nat.le_of_ble_eq_true rfl⟩)) (fun r_5 er_5 => ?_)
            obtain rfl : (x5La st nw (20 + 16 * a0) y j0 (m0 + 1) (x5Nx nw (20 + 16 * a0) j0 m0 b0) : Int32) = r_5 := Eq.symm er_5
            refine lv_istore (lv' := [(10, .int (x5La st nw (20 + 16 * a0) y j0 (m0 + 1) (x5Nx nw (20 + 16 * a0) j0 m0 b0))), (9, .int (x5Of st nw (20 + 16 * a0) wn y j0 m0 (x5Nx nw (20 + 16 * a0) j0 m0 b0))), (8, .int (x5Sm st nw (20 + 16 * a0) j0 m0 b0)), (7, .int (nI (x5Nx nw (20 + 16 * a0) j0 m0 b0))), (6, .int (x5Is nw (20 + 16 * a0) j0 m0 b0)), (5, .int ((nI m0) - (xTO nw (20 + 16 * a0) j0))), (0, .ref g0), (1, .int (nI a0)), (2, .int (nI j0)), (3, .int (nI m0)), (4, .int (nI b0))]) hx hb dX5_worked_161 hl (by decide) rfl (fun ls hl => ?_)
            refine lv_aload_n hx hb dX5_worked_163 rfl (lv_at hl 6 rfl) ?_
            refine lv_iload hx hb dX5_worked_164 (lv_at hl 1 rfl) ?_
            refine lv_iload hx hb dX5_worked_166 (lv_at hl 0 rfl) ?_
            refine lv_icmp_ge (tgt := 175) hx hb dX5_worked_168 (by decide) (fun c_6 => ?_) (fun c_6 => ?_)
            · refine lv_iconst (v := 0) hx hb dX5_worked_175 (by decide) ?_
              refine va_put (D := D) (ci := 5) (v := .int 0) (ty := .boolean) (C := RX5) (T := TX5) (N := 19) hx hb hts hwX5 tyX5 tyX5_ok nmX5 hown hK hP hD hS 0 rfl rfl 18 (by decide) (hts (.fieldLink RX5 169 "WaitOrWalkOnModel" "walks" "Z") (by decide +kernel)) (fun _ h9 => h9) rfl (by decide +kernel) (by decide +kernel) rfl (Nat.le_of_ble_eq_true rfl) dX5_worked_176 (fun H locs hP hD hS => ?_)
              have hP : va_P D vwCl [(g0, .inr (5, [.ref ra, .ref wa, .ref ta, .int kpt, .ref ma, .int mkd, .ref pa, .int tpd, .int at0, .int wel, .ref ba, .ref ka, .int srt, .ref fa, .ref qa, .ref ea, .ref za, .ref ya, .int 0])), (wa, .inl (cI, 70, .inl nw)), (ya, .inl (cI, 5600, .inl y))] H := hP
              have hD : va_D A [(g0, .inr (5, [.ref ra, .ref wa, .ref ta, .int kpt, .ref ma, .int mkd, .ref pa, .int tpd, .int at0, .int wel, .ref ba, .ref ka, .int srt, .ref fa, .ref qa, .ref ea, .ref za, .ref ya, .int 0])), (wa, .inl (cI, 70, .inl nw)), (ya, .inl (cI, 5600, .inl y))] := hD
              refine lv_iload hx hb dX5_worked_179 (lv_at hl 2 rfl) ?_
              refine lv_iload hx hb dX5_worked_181 (lv_at hl 1 rfl) ?_
              refine lv_iload hx hb dX5_worked_183 (lv_at hl 0 rfl) ?_
              refine va_mmin hx hb (hml.trans hl.1.symm) hown (hts (.methodLink RX5 157 Lib.Math.min.name) (by decide +kernel)) (hts (.static Lib.Math.min.name) (by decide +kernel)) (hts (.initialized "java/lang/Math") (by decide +kernel)) (hts (.code Lib.Math.min.name Lib.Math.min.code 2 (some .int)) (by decide +kernel)) (Nat.le_of_ble_eq_true rfl) (Nat.le_of_ble_eq_true rfl) (Nat.le_of_ble_eq_true rfl) (Nat.le_of_ble_eq_true rfl) dX5_worked_185 ?_
              refine xv_int (y := xMn (x5Of st nw (20 + 16 * a0) wn y j0 m0 (x5Nx nw (20 + 16 * a0) j0 m0 b0)) (x5La st nw (20 + 16 * a0) y j0 (m0 + 1) (x5Nx nw (20 + 16 * a0) j0 m0 b0))) (rfl) ?_
              refine lv_iadd hx hb dX5_worked_188 ?_
              have hP9 := hP.sub (ws' := [(g0, .inr (5, [.ref ra, .ref wa, .ref ta, .int kpt, .ref ma, .int mkd, .ref pa, .int tpd, .int at0, .int wel, .ref ba, .ref ka, .int srt, .ref fa, .ref qa, .ref ea, .ref za, .ref ya, .int 0])), (wa, .inl (cI, 70, .inl nw)), (ya, .inl (cI, 5600, .inl y))]) [0, 1, 2] rfl
              have hD9 := hD.sub (ws' := [(g0, .inr (5, [.ref ra, .ref wa, .ref ta, .int kpt, .ref ma, .int mkd, .ref pa, .int tpd, .int at0, .int wel, .ref ba, .ref ka, .int srt, .ref fa, .ref qa, .ref ea, .ref za, .ref ya, .int 0])), (wa, .inl (cI, 70, .inl nw)), (ya, .inl (cI, 5600, .inl y))]) [0, 1, 2] (by decide) rfl
              have hE9 : ([(g0, .inr (5, [.ref ra, .ref wa, .ref ta, .int kpt, .ref ma, .int mkd, .ref pa, .int tpd, .int at0, .int wel, .ref ba, .ref ka, .int srt, .ref fa, .ref qa, .ref ea, .ref za, .ref ya, .int 0])), (wa, .inl (cI, 70, .inl nw)), (ya, .inl (cI, 5600, .inl y))] : va_W) = [(g0, .inr (5, [.ref ra, .ref wa, .ref ta, .int kpt, .ref ma, .int mkd, .ref pa, .int tpd, .int at0, .int wel, .ref ba, .ref ka, .int srt, .ref fa, .ref qa, .ref ea, .ref za, .ref ya, .int (x5Wk st nw (20 + 16 * a0) wn y j0 m0 b0)])), (wa, .inl (cI, 70, .inl nw)), (ya, .inl (cI, 5600, .inl y))] := by have w9 : (0 : Int32) = x5Wk st nw (20 + 16 * a0) wn y j0 m0 b0 := x5W_f c_3 c_4 (Int32.not_lt.mpr c_6); rw [← w9]
              exact W.iret (v := (x5Sm st nw (20 + 16 * a0) j0 m0 b0) + (xMn (x5Of st nw (20 + 16 * a0) wn y j0 m0 (x5Nx nw (20 + 16 * a0) j0 m0 b0)) (x5La st nw (20 + 16 * a0) y j0 (m0 + 1) (x5Nx nw (20 + 16 * a0) j0 m0 b0)))) hx hb hr (fun t ht hW => ⟨⟨_, (), rfl, x5W_c c_3 c_4, by rw [ht]; exact hE9 ▸ hP9, hE9 ▸ hD9⟩, hS.F ht⟩) hS.2.2 dX5_worked_189
            · refine lv_iconst (v := 1) hx hb dX5_worked_171 (by decide) ?_
              refine lv_goto (tgt := 176) hx hb dX5_worked_172 (by decide) ?_
              refine va_put (D := D) (ci := 5) (v := .int 1) (ty := .boolean) (C := RX5) (T := TX5) (N := 19) hx hb hts hwX5 tyX5 tyX5_ok nmX5 hown hK hP hD hS 0 rfl rfl 18 (by decide) (hts (.fieldLink RX5 169 "WaitOrWalkOnModel" "walks" "Z") (by decide +kernel)) (fun _ h9 => h9) rfl (by decide +kernel) (by decide +kernel) rfl (Nat.le_of_ble_eq_true rfl) dX5_worked_176 (fun H locs hP hD hS => ?_)
              have hP : va_P D vwCl [(g0, .inr (5, [.ref ra, .ref wa, .ref ta, .int kpt, .ref ma, .int mkd, .ref pa, .int tpd, .int at0, .int wel, .ref ba, .ref ka, .int srt, .ref fa, .ref qa, .ref ea, .ref za, .ref ya, .int 1])), (wa, .inl (cI, 70, .inl nw)), (ya, .inl (cI, 5600, .inl y))] H := hP
              have hD : va_D A [(g0, .inr (5, [.ref ra, .ref wa, .ref ta, .int kpt, .ref ma, .int mkd, .ref pa, .int tpd, .int at0, .int wel, .ref ba, .ref ka, .int srt, .ref fa, .ref qa, .ref ea, .ref za, .ref ya, .int 1])), (wa, .inl (cI, 70, .inl nw)), (ya, .inl (cI, 5600, .inl y))] := hD
              refine lv_iload hx hb dX5_worked_179 (lv_at hl 2 rfl) ?_
              refine lv_iload hx hb dX5_worked_181 (lv_at hl 1 rfl) ?_
              refine lv_iload hx hb dX5_worked_183 (lv_at hl 0 rfl) ?_
              refine va_mmin hx hb (hml.trans hl.1.symm) hown (hts (.methodLink RX5 157 Lib.Math.min.name) (by decide +kernel)) (hts (.static Lib.Math.min.name) (by decide +kernel)) (hts (.initialized "java/lang/Math") (by decide +kernel)) (hts (.code Lib.Math.min.name Lib.Math.min.code 2 (some .int)) (by decide +kernel)) (Nat.le_of_ble_eq_true rfl) (Nat.le_of_ble_eq_true rfl) (Nat.le_of_ble_eq_true rfl) (Nat.le_of_ble_eq_true rfl) dX5_worked_185 ?_
              refine xv_int (y := xMn (x5Of st nw (20 + 16 * a0) wn y j0 m0 (x5Nx nw (20 + 16 * a0) j0 m0 b0)) (x5La st nw (20 + 16 * a0) y j0 (m0 + 1) (x5Nx nw (20 + 16 * a0) j0 m0 b0))) (rfl) ?_
              refine lv_iadd hx hb dX5_worked_188 ?_
              have hP9 := hP.sub (ws' := [(g0, .inr (5, [.ref ra, .ref wa, .ref ta, .int kpt, .ref ma, .int mkd, .ref pa, .int tpd, .int at0, .int wel, .ref ba, .ref ka, .int srt, .ref fa, .ref qa, .ref ea, .ref za, .ref ya, .int 1])), (wa, .inl (cI, 70, .inl nw)), (ya, .inl (cI, 5600, .inl y))]) [0, 1, 2] rfl
              have hD9 := hD.sub (ws' := [(g0, .inr (5, [.ref ra, .ref wa, .ref ta, .int kpt, .ref ma, .int mkd, .ref pa, .int tpd, .int at0, .int wel, .ref ba, .ref ka, .int srt, .ref fa, .ref qa, .ref ea, .ref za, .ref ya, .int 1])), (wa, .inl (cI, 70, .inl nw)), (ya, .inl (cI, 5600, .inl y))]) [0, 1, 2] (by decide) rfl
              have hE9 : ([(g0, .inr (5, [.ref ra, .ref wa, .ref ta, .int kpt, .ref ma, .int mkd, .ref pa, .int tpd, .int at0, .int wel, .ref ba, .ref ka, .int srt, .ref fa, .ref qa, .ref ea, .ref za, .ref ya, .int 1])), (wa, .inl (cI, 70, .inl nw)), (ya, .inl (cI, 5600, .inl y))] : va_W) = [(g0, .inr (5, [.ref ra, .ref wa, .ref ta, .int kpt, .ref ma, .int mkd, .ref pa, .int tpd, .int at0, .int wel, .ref ba, .ref ka, .int srt, .ref fa, .ref qa, .ref ea, .ref za, .ref ya, .int (x5Wk st nw (20 + 16 * a0) wn y j0 m0 b0)])), (wa, .inl (cI, 70, .inl nw)), (ya, .inl (cI, 5600, .inl y))] := by have w9 : (1 : Int32) = x5Wk st nw (20 + 16 * a0) wn y j0 m0 b0 := x5W_t c_3 c_4 (Int32.not_le.mp c_6); rw [← w9]
              exact W.iret (v := (x5Sm st nw (20 + 16 * a0) j0 m0 b0) + (xMn (x5Of st nw (20 + 16 * a0) wn y j0 m0 (x5Nx nw (20 + 16 * a0) j0 m0 b0)) (x5La st nw (20 + 16 * a0) y j0 (m0 + 1) (x5Nx nw (20 + 16 * a0) j0 m0 b0)))) hx hb hr (fun t ht hW => ⟨⟨_, (), rfl, x5W_c c_3 c_4, by rw [ht]; exact hE9 ▸ hP9, hE9 ▸ hD9⟩, hS.F ht⟩) hS.2.2 dX5_worked_189
          · refine lv_aload_n hx hb dX5_worked_139 rfl (lv_at hl 5 rfl) ?_
            refine lv_iconst (v := 1) hx hb dX5_worked_140 (by decide) ?_
            refine va_put (D := D) (ci := 5) (v := .int 1) (ty := .boolean) (C := RX5) (T := TX5) (N := 19) hx hb hts hwX5 tyX5 tyX5_ok nmX5 hown hK hP hD hS 0 rfl rfl 18 (by decide) (hts (.fieldLink RX5 169 "WaitOrWalkOnModel" "walks" "Z") (by decide +kernel)) (fun _ h9 => h9) rfl (by decide +kernel) (by decide +kernel) rfl (Nat.le_of_ble_eq_true rfl) dX5_worked_141 (fun H locs hP hD hS => ?_)
            have hP : va_P D vwCl [(g0, .inr (5, [.ref ra, .ref wa, .ref ta, .int kpt, .ref ma, .int mkd, .ref pa, .int tpd, .int at0, .int wel, .ref ba, .ref ka, .int srt, .ref fa, .ref qa, .ref ea, .ref za, .ref ya, .int 1])), (wa, .inl (cI, 70, .inl nw)), (ya, .inl (cI, 5600, .inl y))] H := hP
            have hD : va_D A [(g0, .inr (5, [.ref ra, .ref wa, .ref ta, .int kpt, .ref ma, .int mkd, .ref pa, .int tpd, .int at0, .int wel, .ref ba, .ref ka, .int srt, .ref fa, .ref qa, .ref ea, .ref za, .ref ya, .int 1])), (wa, .inl (cI, 70, .inl nw)), (ya, .inl (cI, 5600, .inl y))] := hD
            refine lv_iload hx hb dX5_worked_144 (lv_at hl 1 rfl) ?_
            refine lv_iload hx hb dX5_worked_146 (lv_at hl 0 rfl) ?_
            refine lv_iadd hx hb dX5_worked_148 ?_
            have hP9 := hP.sub (ws' := [(g0, .inr (5, [.ref ra, .ref wa, .ref ta, .int kpt, .ref ma, .int mkd, .ref pa, .int tpd, .int at0, .int wel, .ref ba, .ref ka, .int srt, .ref fa, .ref qa, .ref ea, .ref za, .ref ya, .int 1])), (wa, .inl (cI, 70, .inl nw)), (ya, .inl (cI, 5600, .inl y))]) [0, 1, 2] rfl
            have hD9 := hD.sub (ws' := [(g0, .inr (5, [.ref ra, .ref wa, .ref ta, .int kpt, .ref ma, .int mkd, .ref pa, .int tpd, .int at0, .int wel, .ref ba, .ref ka, .int srt, .ref fa, .ref qa, .ref ea, .ref za, .ref ya, .int 1])), (wa, .inl (cI, 70, .inl nw)), (ya, .inl (cI, 5600, .inl y))]) [0, 1, 2] (by decide) rfl
            have hE9 : ([(g0, .inr (5, [.ref ra, .ref wa, .ref ta, .int kpt, .ref ma, .int mkd, .ref pa, .int tpd, .int at0, .int wel, .ref ba, .ref ka, .int srt, .ref fa, .ref qa, .ref ea, .ref za, .ref ya, .int 1])), (wa, .inl (cI, 70, .inl nw)), (ya, .inl (cI, 5600, .inl y))] : va_W) = [(g0, .inr (5, [.ref ra, .ref wa, .ref ta, .int kpt, .ref ma, .int mkd, .ref pa, .int tpd, .int at0, .int wel, .ref ba, .ref ka, .int srt, .ref fa, .ref qa, .ref ea, .ref za, .ref ya, .int (x5Wk st nw (20 + 16 * a0) wn y j0 m0 b0)])), (wa, .inl (cI, 70, .inl nw)), (ya, .inl (cI, 5600, .inl y))] := by have w9 : (1 : Int32) = x5Wk st nw (20 + 16 * a0) wn y j0 m0 b0 := (x5W_b c_3 c_4).2; rw [← w9]
            exact W.iret (v := (x5Sm st nw (20 + 16 * a0) j0 m0 b0) + (x5Of st nw (20 + 16 * a0) wn y j0 m0 (x5Nx nw (20 + 16 * a0) j0 m0 b0))) hx hb hr (fun t ht hW => ⟨⟨_, (), rfl, (x5W_b c_3 c_4).1, by rw [ht]; exact hE9 ▸ hP9, hE9 ▸ hD9⟩, hS.F ht⟩) hS.2.2 dX5_worked_149
      · intro K_108
        refine lv_iload hx hb dX5_worked_47 (lv_at hl 1 rfl) ?_
        refine lv_if_eq (tgt := 107) hx hb dX5_worked_49 (by decide) (fun c_7 => ?_) (fun c_7 => ?_)
        · refine lv_iconst (v := 0) hx hb dX5_worked_107 (by decide) ?_
          refine xv_int (y := x5Sm st nw (20 + 16 * a0) j0 m0 b0) (by rw [x5Sm, if_pos c_7]) ?_
          exact K_108 () _ (lv_sub hl [0, 1, 2, 3, 4, 5, 6, 7] rfl)
        · refine lv_aload_n hx hb dX5_worked_52 rfl (lv_at hl 3 rfl) ?_
          refine lv_iload_n hx hb dX5_worked_53 rfl (lv_at hl 4 rfl) ?_
          refine lv_iload hx hb dX5_worked_54 (lv_at hl 7 rfl) ?_
          have hPc := hP.sub (ws' := [(g0, .inr (5, [.ref ra, .ref wa, .ref ta, .int kpt, .ref ma, .int mkd, .ref pa, .int tpd, .int at0, .int wel, .ref ba, .ref ka, .int srt, .ref fa, .ref qa, .ref ea, .ref za, .ref ya, .int wks])), (wa, .inl (cI, 70, .inl nw))]) [0, 1] rfl
          refine vp_callSi (va_Run.run (va_runV (As := [.int (nI a0), .int (nI b0)]) (rest := []) ⟨hx, hb, hml, hown, hts⟩ (g_X5_weight l D cI cL cZ cC g0 ra wa ta ma pa ba ka fa qa ea za ya kpt mkd tpd at0 wel srt wks st nw a0 b0 (by first | assumption | decide +kernel) (by first | assumption | decide +kernel) (by first | assumption | decide +kernel) (by omega) (by omega)) (cwV 2 hts gX5_worked_X5_weight rfl rfl rfl (by decide +kernel) ⟨Nat.le_of_ble_eq_true rfl, Nat.le_of_ble_eq_true rfl⟩) ⟨xPc_bl, va_recv hK hPc (ci := 5) (q0 := 0) rfl rfl, xPc_use hPc hK⟩ rfl rfl hl.1 rfl (lv_room (Nat.le_of_ble_eq_true rfl)) dX5_worked_56 ⟨Nat.le_of_ble_eq_true rfl, Nat.le_of_ble_eq_true rfl⟩)) (fun r_8 er_8 => ?_)
          obtain rfl : (xWt (fun i => nw (20 + 16 * a0 + i)) b0 : Int32) = r_8 := Eq.symm er_8
          refine lv_aload_n hx hb dX5_worked_59 rfl (lv_at hl 3 rfl) ?_
          refine lv_iload_n hx hb dX5_worked_60 rfl (lv_at hl 4 rfl) ?_
          refine lv_iload_n hx hb dX5_worked_61 rfl (lv_at hl 5 rfl) ?_
          have hPc := hP.sub (ws' := [(g0, .inr (5, [.ref ra, .ref wa, .ref ta, .int kpt, .ref ma, .int mkd, .ref pa, .int tpd, .int at0, .int wel, .ref ba, .ref ka, .int srt, .ref fa, .ref qa, .ref ea, .ref za, .ref ya, .int wks])), (wa, .inl (cI, 70, .inl nw))]) [0, 1] rfl
          refine vp_callSi (va_Run.run (va_runV (As := [.int (nI a0), .int (nI j0)]) (rest := [.int (xWt (fun i => nw (20 + 16 * a0 + i)) b0)]) ⟨hx, hb, hml, hown, hts⟩ (g_X5_halts l D cI cL cZ cC g0 ra wa ta ma pa ba ka fa qa ea za ya kpt mkd tpd at0 wel srt wks st nw a0 (nI j0) (by first | assumption | decide +kernel) (by first | assumption | decide +kernel) (by first | assumption | decide +kernel) (by first | assumption | decide +kernel)) (cwV 2 hts gX5_worked_X5_halts rfl rfl rfl (by decide +kernel) ⟨Nat.le_of_ble_eq_true rfl, Nat.le_of_ble_eq_true rfl⟩) ⟨xPc_bl, va_recv hK hPc (ci := 5) (q0 := 0) rfl rfl, xPc_use hPc hK⟩ rfl rfl hl.1 rfl (lv_room (Nat.le_of_ble_eq_true rfl)) dX5_worked_62 ⟨Nat.le_of_ble_eq_true rfl, Nat.le_of_ble_eq_true rfl⟩)) (fun r_9 er_9 => ?_)
          obtain rfl : (sHalt (nw (20 + 16 * a0)) (nI j0) (nI (st - 1)) : Int32) = r_9 := Eq.symm er_9
          refine lv_if_eq (tgt := 96) hx hb dX5_worked_65 (by decide) (fun c_10 => ?_) (fun c_10 => ?_)
          · refine lv_iload_n hx hb dX5_worked_96 rfl (lv_at hl 6 rfl) ?_
            refine lv_aload_n hx hb dX5_worked_97 rfl (lv_at hl 3 rfl) ?_
            refine lv_iload_n hx hb dX5_worked_98 rfl (lv_at hl 5 rfl) ?_
            have hPc := hP.sub (ws' := [(g0, .inr (5, [.ref ra, .ref wa, .ref ta, .int kpt, .ref ma, .int mkd, .ref pa, .int tpd, .int at0, .int wel, .ref ba, .ref ka, .int srt, .ref fa, .ref qa, .ref ea, .ref za, .ref ya, .int wks])), (wa, .inl (cI, 70, .inl nw))]) [0, 1] rfl
            refine vp_callSi (va_Run.run (va_runV (As := [.int (nI j0)]) (rest := [.int (nI m0), .int (xWt (fun i => nw (20 + 16 * a0 + i)) b0)]) ⟨hx, hb, hml, hown, hts⟩ (g_X5_rest l D cI cL cZ cC g0 ra wa ta ma pa ba ka fa qa ea za ya kpt mkd tpd at0 wel srt wks st nw j0 (by first | assumption | decide +kernel) (by first | assumption | decide +kernel) (by first | assumption | decide +kernel) (by omega) (hq2)) (cwV 1 hts gX5_worked_X5_rest rfl rfl rfl (by decide +kernel) ⟨Nat.le_of_ble_eq_true rfl, Nat.le_of_ble_eq_true rfl⟩) ⟨xPc_bl, va_recv hK hPc (ci := 5) (q0 := 0) rfl rfl, xPc_use hPc hK⟩ rfl rfl hl.1 rfl (lv_room (Nat.le_of_ble_eq_true rfl)) dX5_worked_99 ⟨Nat.le_of_ble_eq_true rfl, Nat.le_of_ble_eq_true rfl⟩)) (fun r_11 er_11 => ?_)
            obtain rfl : (xRs nw st j0 : Int32) = r_11 := Eq.symm er_11
            refine lv_iadd hx hb dX5_worked_102 ?_
            refine lv_imul hx hb dX5_worked_103 ?_
            refine lv_goto (tgt := 108) hx hb dX5_worked_104 (by decide) ?_
            refine xv_int (y := x5Sm st nw (20 + 16 * a0) j0 m0 b0) (by rw [x5Sm, if_neg c_7, if_pos c_10]) ?_
            exact K_108 () _ (lv_sub hl [0, 1, 2, 3, 4, 5, 6, 7] rfl)
          · refine lv_iload hx hb dX5_worked_68 (lv_at hl 7 rfl) ?_
            refine lv_aload_n hx hb dX5_worked_70 rfl (lv_at hl 3 rfl) ?_
            refine lv_iload_n hx hb dX5_worked_71 rfl (lv_at hl 4 rfl) ?_
            have hPc := hP.sub (ws' := [(g0, .inr (5, [.ref ra, .ref wa, .ref ta, .int kpt, .ref ma, .int mkd, .ref pa, .int tpd, .int at0, .int wel, .ref ba, .ref ka, .int srt, .ref fa, .ref qa, .ref ea, .ref za, .ref ya, .int wks])), (wa, .inl (cI, 70, .inl nw))]) [0, 1] rfl
            refine vp_callSi (va_Run.run (va_runV (As := [.int (nI a0)]) (rest := [.int (nI b0), .int (xWt (fun i => nw (20 + 16 * a0 + i)) b0)]) ⟨hx, hb, hml, hown, hts⟩ (g_X5_toLast l D cI cL cZ cC g0 ra wa ta ma pa ba ka fa qa ea za ya kpt mkd tpd at0 wel srt wks st nw a0 (by first | assumption | decide +kernel) (by first | assumption | decide +kernel) (by first | assumption | decide +kernel) (by omega)) (cwV 1 hts gX5_worked_X5_toLast rfl rfl rfl (by decide +kernel) ⟨Nat.le_of_ble_eq_true rfl, Nat.le_of_ble_eq_true rfl⟩) ⟨xPc_bl, va_recv hK hPc (ci := 5) (q0 := 0) rfl rfl, xPc_use hPc hK⟩ rfl rfl hl.1 rfl (lv_room (Nat.le_of_ble_eq_true rfl)) dX5_worked_72 ⟨Nat.le_of_ble_eq_true rfl, Nat.le_of_ble_eq_true rfl⟩)) (fun r_12 er_12 => ?_)
            obtain rfl : (xSm (fun i => sRd (nw (20 + 16 * a0)) (nw (20 + 16 * a0 + 1)) (nI i)) (st - 1) : Int32) = r_12 := Eq.symm er_12
            refine xv_int (y := xTO nw (20 + 16 * a0) (st - 1)) (rfl) ?_
            refine lv_iadd hx hb dX5_worked_75 ?_
            refine lv_aload_n hx hb dX5_worked_76 rfl (lv_at hl 3 rfl) ?_
            refine lv_aload_n hx hb dX5_worked_77 rfl (lv_at hl 3 rfl) ?_
            refine va_get (D := D) (ci := 5) (v := .ref wa) (C := RX5) (T := TX5) (N := 19) hx hb hts hwX5 hown hK hP 0 rfl rfl 1 (by decide) (hts (.fieldLink RX5 19 "WaitOrWalkOnModel" "now" "[I") (by decide +kernel)) (fun _ h9 => h9) rfl dX5_worked_78 ?_
            refine lv_iconst (v := 0) hx hb dX5_worked_81 (by decide) ?_
            refine va_iald (D := D) hx hb hK hP 1 0 rfl rfl (by unfold vp_in; decide +kernel) dX5_worked_82 ?_
            refine xv_int (y := nw 0) rfl ?_
            refine xv_int (y := nI st) (hn0) ?_
            refine lv_aload_n hx hb dX5_worked_83 rfl (lv_at hl 3 rfl) ?_
            refine va_get (D := D) (ci := 5) (v := .ref wa) (C := RX5) (T := TX5) (N := 19) hx hb hts hwX5 hown hK hP 0 rfl rfl 1 (by decide) (hts (.fieldLink RX5 19 "WaitOrWalkOnModel" "now" "[I") (by decide +kernel)) (fun _ h9 => h9) rfl dX5_worked_84 ?_
            refine lv_iconst (v := 2) hx hb dX5_worked_87 (by decide) ?_
            refine va_iald (D := D) hx hb hK hP 1 0 rfl rfl (by unfold vp_in; decide +kernel) dX5_worked_88 ?_
            refine xv_int (y := nw 2) rfl ?_
            have hPc := hP.sub (ws' := [(g0, .inr (5, [.ref ra, .ref wa, .ref ta, .int kpt, .ref ma, .int mkd, .ref pa, .int tpd, .int at0, .int wel, .ref ba, .ref ka, .int srt, .ref fa, .ref qa, .ref ea, .ref za, .ref ya, .int wks])), (wa, .inl (cI, 70, .inl nw))]) [0, 1] rfl
            refine vp_callSi (va_Run.run (va_runV (As := [.int (nI st), .int (nw 2)]) (rest := [.int ((nI b0) + (xTO nw (20 + 16 * a0) (st - 1))), .int (xWt (fun i => nw (20 + 16 * a0 + i)) b0)]) ⟨hx, hb, hml, hown, hts⟩ (g_X5_leg l D cI cL cZ cC g0 ra wa ta ma pa ba ka fa qa ea za ya kpt mkd tpd at0 wel srt wks st nw st (nw 2) (by first | assumption | decide +kernel) (by first | assumption | decide +kernel) (by first | assumption | decide +kernel) (by omega) (hq2)) (cwV 2 hts gX5_worked_X5_leg rfl rfl rfl (by decide +kernel) ⟨Nat.le_of_ble_eq_true rfl, Nat.le_of_ble_eq_true rfl⟩) ⟨xPc_bl, va_recv hK hPc (ci := 5) (q0 := 0) rfl rfl, xPc_use hPc hK⟩ rfl rfl hl.1 rfl (lv_room (Nat.le_of_ble_eq_true rfl)) dX5_worked_89 ⟨Nat.le_of_ble_eq_true rfl, Nat.le_of_ble_eq_true rfl⟩)) (fun r_13 er_13 => ?_)
            obtain rfl : ((xLm nw st st + (nw 2) - 1) / (nw 2) : Int32) = r_13 := Eq.symm er_13
            refine lv_iadd hx hb dX5_worked_92 ?_
            refine lv_goto (tgt := 103) hx hb dX5_worked_93 (by decide) ?_
            refine lv_imul hx hb dX5_worked_103 ?_
            refine lv_goto (tgt := 108) hx hb dX5_worked_104 (by decide) ?_
            refine xv_int (y := x5Sm st nw (20 + 16 * a0) j0 m0 b0) (by rw [x5Sm, if_neg c_7, if_neg c_10]) ?_
            exact K_108 () _ (lv_sub hl [0, 1, 2, 3, 4, 5, 6, 7] rfl)
    · intro K_45
      refine lv_iload hx hb dX5_worked_31 (lv_at hl 0 rfl) ?_
      refine lv_if_eq (tgt := 43) hx hb dX5_worked_33 (by decide) (fun c_14 => ?_) (fun c_14 => ?_)
      · refine lv_iload hx hb dX5_worked_43 (lv_at hl 6 rfl) ?_
        refine xv_int (y := nI (x5Nx nw (20 + 16 * a0) j0 m0 b0)) (congrArg nI (show _ = x5Nx nw (20 + 16 * a0) j0 m0 b0 by rw [x5Nx, if_pos c_14])) ?_
        exact K_45 () _ (lv_sub hl [0, 1, 2, 3, 4, 5, 6] rfl)
      · refine lv_iload hx hb dX5_worked_36 (lv_at hl 6 rfl) ?_
        refine lv_iconst (v := 1) hx hb dX5_worked_38 (by decide) ?_
        refine lv_iadd hx hb dX5_worked_39 ?_
        refine xv_int (y := nI (b0 + 1)) (nI_1 b0) ?_
        refine lv_goto (tgt := 45) hx hb dX5_worked_40 (by decide) ?_
        refine xv_int (y := nI (x5Nx nw (20 + 16 * a0) j0 m0 b0)) (congrArg nI (show _ = x5Nx nw (20 + 16 * a0) j0 m0 b0 by rw [x5Nx, if_neg c_14])) ?_
        exact K_45 () _ (lv_sub hl [0, 1, 2, 3, 4, 5, 6] rfl)
  · intro K_29
    refine lv_iload hx hb dX5_worked_10 (lv_at hl 0 rfl) ?_
    refine lv_iload hx hb dX5_worked_12 (lv_at hl 5 rfl) ?_
    refine lv_icmp_ne (tgt := 28) hx hb dX5_worked_14 (by decide) (fun c_15 => ?_) (fun c_15 => ?_)
    · refine lv_iconst (v := 0) hx hb dX5_worked_28 (by decide) ?_
      refine xv_int (y := x5Is nw (20 + 16 * a0) j0 m0 b0) (by rw [x5Is, if_neg c_15]) ?_
      exact K_29 () _ (lv_sub hl [0, 1, 2, 3, 4, 5] rfl)
    · refine lv_iload hx hb dX5_worked_17 (lv_at hl 5 rfl) ?_
      refine lv_bipush (v := 12) hx hb dX5_worked_19 (by decide) ?_
      refine lv_icmp_ge (tgt := 28) hx hb dX5_worked_21 (by decide) (fun c_16 => ?_) (fun c_16 => ?_)
      · refine lv_iconst (v := 0) hx hb dX5_worked_28 (by decide) ?_
        refine xv_int (y := x5Is nw (20 + 16 * a0) j0 m0 b0) (by rw [x5Is, if_pos c_15, if_neg (Int32.not_lt.mpr c_16)]) ?_
        exact K_29 () _ (lv_sub hl [0, 1, 2, 3, 4, 5] rfl)
      · refine lv_iconst (v := 1) hx hb dX5_worked_24 (by decide) ?_
        refine lv_goto (tgt := 29) hx hb dX5_worked_25 (by decide) ?_
        refine xv_int (y := x5Is nw (20 + 16 * a0) j0 m0 b0) (by rw [x5Is, if_pos c_15, if_pos (Int32.not_le.mp c_16)]) ?_
        exact K_29 () _ (lv_sub hl [0, 1, 2, 3, 4, 5] rfl)
