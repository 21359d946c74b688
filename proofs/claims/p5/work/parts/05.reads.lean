set_option maxHeartbeats 4000000 in
set_option maxRecDepth 100000 in
theorem g_X5_minutes (l : Launch) (D : va_G) (cI cL cZ cC : ClassId) (y1 : Int32) (q1 : Int32) (hq : ¬ q1 = 0) : Met l yX5_minutes wsX5_minutes ({ frames := 0, cells := 0, slots := 0, locals := 0 } : Room) (xPc D [.int y1, .int q1] [] (xTy cI cL cZ cC)) (vp_Si (fun r : Int32 => r = (y1 + q1 - 1) / q1)) 0 0 (fun _ => False) := by
  refine Met.ofW (cc := cX5_minutes) (maxL := 2) (ret := (some .int)) (by decide) rfl ?_
  intro p e s m args below meth c s₁ B hml hv
  obtain ⟨rfl, hP, hK⟩ := hv
  have hx := B.exec
  have hb := B.bytes
  have hr := B.returns
  have hts := atoms_spec (ws := wsX5_minutes) B.pre
  have hown : s.vm.findClass RX5 = some m.cls := findClass_of_methodNamed B.named
  have hlocks := B.notSynchronized
  have hl := lv_entry ([.int y1, .int q1]) (n := 2) (Nat.le_of_ble_eq_true rfl)
  rw [lg_entry_eq]
  generalize (lg_sl ([.int y1, .int q1]) ++ List.replicate (2 - (lg_sl ([.int y1, .int q1])).length) Slot.unset).toArray = ls at hl ⊢
  have hl : lv_has ls 2 [(0, .int y1), (1, .int q1)] := hl
  refine lv_iload_n hx hb dX5_minutes_0 rfl (lv_at hl 0 rfl) ?_
  refine lv_iload_n hx hb dX5_minutes_1 rfl (lv_at hl 1 rfl) ?_
  refine lv_iadd hx hb dX5_minutes_2 ?_
  refine lv_iconst (v := 1) hx hb dX5_minutes_3 (by decide) ?_
  refine lv_isub hx hb dX5_minutes_4 ?_
  refine lv_iload_n hx hb dX5_minutes_5 rfl (lv_at hl 1 rfl) ?_
  refine lv_idiv hx hb dX5_minutes_6 (hq) ?_
  exact W.iret (v := ((y1 + q1) - 1) / q1) hx hb hr (fun t ht hW => ⟨_, rfl, rfl, ht⟩) (fun _ h => absurd h List.not_mem_nil) dX5_minutes_7

set_option maxHeartbeats 4000000 in
set_option maxRecDepth 100000 in
theorem g_X5_leg (l : Launch) (D : va_G) (cI cL cZ cC : ClassId) (g0 : Nat) (ra : Nat) (wa : Nat) (ta : Nat) (ma : Nat) (pa : Nat) (ba : Nat) (ka : Nat) (fa : Nat) (qa : Nat) (ea : Nat) (za : Nat) (ya : Nat) (kpt : Int32) (mkd : Int32) (tpd : Int32) (at0 : Int32) (wel : Int32) (srt : Int32) (wks : Int32) (st : Nat) (nw : Nat → Int32) (j0 : Nat) (q1 : Int32) (hn0 : nw 0 = nI st) (hs1 : 1 ≤ st) (hs7 : st ≤ 7) (hj : j0 ≤ 7) (hq : ¬ q1 = 0) : Met l yX5_leg wsX5_leg ({ frames := 1, cells := 0, slots := 0, locals := 21 } : Room) (xPc D [.ref g0, .int (nI j0), .int q1] [(g0, .inr (5, [.ref ra, .ref wa, .ref ta, .int kpt, .ref ma, .int mkd, .ref pa, .int tpd, .int at0, .int wel, .ref ba, .ref ka, .int srt, .ref fa, .ref qa, .ref ea, .ref za, .ref ya, .int wks])), (wa, .inl (cI, 70, .inl nw))] (xTy cI cL cZ cC)) (vp_Si (fun r : Int32 => r = (xLm nw st j0 + q1 - 1) / q1)) 0 0 (fun _ => False) := by
  refine Met.ofW (cc := cX5_leg) (maxL := 3) (ret := (some .int)) (by decide) rfl ?_
  intro p e s m args below meth c s₁ B hml hv
  obtain ⟨rfl, hP, hK⟩ := hv
  have hx := B.exec
  have hb := B.bytes
  have hr := B.returns
  have hts := atoms_spec (ws := wsX5_leg) B.pre
  have hown : s.vm.findClass RX5 = some m.cls := findClass_of_methodNamed B.named
  have hlocks := B.notSynchronized
  have hwX5 : ∀ w ∈ u_ws RX5 TX5 19, w ∈ wsX5_leg := fun _ h => List.mem_cons_of_mem _ (List.mem_append_right _ h)
  have hl := lv_entry ([.ref g0, .int (nI j0), .int q1]) (n := 3) (Nat.le_of_ble_eq_true rfl)
  rw [lg_entry_eq]
  generalize (lg_sl ([.ref g0, .int (nI j0), .int q1]) ++ List.replicate (3 - (lg_sl ([.ref g0, .int (nI j0), .int q1])).length) Slot.unset).toArray = ls at hl ⊢
  have hl : lv_has ls 3 [(0, .ref g0), (1, .int (nI j0)), (2, .int q1)] := hl
  refine lv_iload_n hx hb dX5_leg_0 rfl (lv_at hl 1 rfl) ?_
  refine lv_aload_n hx hb dX5_leg_1 rfl (lv_at hl 0 rfl) ?_
  refine va_get (D := D) (ci := 5) (v := .ref wa) (C := RX5) (T := TX5) (N := 19) hx hb hts hwX5 hown hK hP 0 rfl rfl 1 (by decide) (hts (.fieldLink RX5 19 "WaitOrWalkOnModel" "now" "[I") (by decide +kernel)) (fun _ h9 => h9) rfl dX5_leg_2 ?_
  refine lv_iconst (v := 0) hx hb dX5_leg_5 (by decide) ?_
  refine va_iald (D := D) hx hb hK hP 1 0 rfl rfl (by unfold vp_in; decide +kernel) dX5_leg_6 ?_
  refine xv_int (y := nw 0) rfl ?_
  refine xv_int (y := nI st) (hn0) ?_
  refine lv_icmp_ne (tgt := 19) hx hb dX5_leg_7 (by decide) (fun c_1 => ?_) (fun c_1 => ?_)
  · refine lv_aload_n hx hb dX5_leg_19 rfl (lv_at hl 0 rfl) ?_
    refine va_get (D := D) (ci := 5) (v := .ref wa) (C := RX5) (T := TX5) (N := 19) hx hb hts hwX5 hown hK hP 0 rfl rfl 1 (by decide) (hts (.fieldLink RX5 19 "WaitOrWalkOnModel" "now" "[I") (by decide +kernel)) (fun _ h9 => h9) rfl dX5_leg_20 ?_
    refine lv_bipush (v := 10) hx hb dX5_leg_23 (by decide) ?_
    refine lv_iload_n hx hb dX5_leg_25 rfl (lv_at hl 1 rfl) ?_
    refine lv_iadd hx hb dX5_leg_26 ?_
    refine xv_int (y := nI (10 + j0)) (nI_add 10 j0) ?_
    refine va_iald (D := D) hx hb hK hP 1 0 rfl rfl (vp_in_nI (by omega) (by decide)) dX5_leg_27 ?_
    refine xv_int (y := nw (10 + j0)) (by rw [nI_clamp (by omega)]) ?_
    refine lv_iload_n hx hb dX5_leg_28 rfl (lv_at hl 2 rfl) ?_
    have hPc := hP.sub (ws' := []) [] rfl
    refine vp_callSi (va_Run.run (va_runS (As := [.int (nw (10 + j0)), .int q1]) (rest := []) ⟨hx, hb, hml, hown, hts⟩ (g_X5_minutes l D cI cL cZ cC (nw (10 + j0)) q1 (by first | assumption | decide +kernel)) (va_cwS 2 hts gX5_leg_X5_minutes rfl rfl rfl (by decide +kernel) ⟨Nat.le_of_ble_eq_true rfl, Nat.le_of_ble_eq_true rfl⟩) ⟨xPc_bl, xPc_use hPc hK⟩ rfl rfl hl.1 rfl (lv_room (Nat.le_of_ble_eq_true rfl)) dX5_leg_29 ⟨Nat.le_of_ble_eq_true rfl, Nat.le_of_ble_eq_true rfl⟩)) (fun r_2 er_2 => ?_)
    obtain rfl : (((nw (10 + j0)) + q1 - 1) / q1 : Int32) = r_2 := Eq.symm er_2
    exact W.iret (v := ((nw (10 + j0)) + q1 - 1) / q1) hx hb hr (fun t ht hW => ⟨_, rfl, (by rw [xLm, if_neg (fun w => c_1 (congrArg nI w))]), ht⟩) (fun _ h => absurd h List.not_mem_nil) dX5_leg_32
  · refine lv_aload_n hx hb dX5_leg_10 rfl (lv_at hl 0 rfl) ?_
    refine va_get (D := D) (ci := 5) (v := .ref wa) (C := RX5) (T := TX5) (N := 19) hx hb hts hwX5 hown hK hP 0 rfl rfl 1 (by decide) (hts (.fieldLink RX5 19 "WaitOrWalkOnModel" "now" "[I") (by decide +kernel)) (fun _ h9 => h9) rfl dX5_leg_11 ?_
    refine lv_iconst (v := 1) hx hb dX5_leg_14 (by decide) ?_
    refine va_iald (D := D) hx hb hK hP 1 0 rfl rfl (by unfold vp_in; decide +kernel) dX5_leg_15 ?_
    refine xv_int (y := nw 1) rfl ?_
    refine lv_goto (tgt := 28) hx hb dX5_leg_16 (by decide) ?_
    refine lv_iload_n hx hb dX5_leg_28 rfl (lv_at hl 2 rfl) ?_
    have hPc := hP.sub (ws' := []) [] rfl
    refine vp_callSi (va_Run.run (va_runS (As := [.int (nw 1), .int q1]) (rest := []) ⟨hx, hb, hml, hown, hts⟩ (g_X5_minutes l D cI cL cZ cC (nw 1) q1 (by first | assumption | decide +kernel)) (va_cwS 2 hts gX5_leg_X5_minutes rfl rfl rfl (by decide +kernel) ⟨Nat.le_of_ble_eq_true rfl, Nat.le_of_ble_eq_true rfl⟩) ⟨xPc_bl, xPc_use hPc hK⟩ rfl rfl hl.1 rfl (lv_room (Nat.le_of_ble_eq_true rfl)) dX5_leg_29 ⟨Nat.le_of_ble_eq_true rfl, Nat.le_of_ble_eq_true rfl⟩)) (fun r_3 er_3 => ?_)
    obtain rfl : (((nw 1) + q1 - 1) / q1 : Int32) = r_3 := Eq.symm er_3
    exact W.iret (v := ((nw 1) + q1 - 1) / q1) hx hb hr (fun t ht hW => ⟨_, rfl, (by rw [xLm, if_pos ((nI_eq (by omega) (by omega)).mp c_1)]), ht⟩) (fun _ h => absurd h List.not_mem_nil) dX5_leg_32

set_option maxHeartbeats 4000000 in
set_option maxRecDepth 100000 in
theorem g_X5_rest (l : Launch) (D : va_G) (cI cL cZ cC : ClassId) (g0 : Nat) (ra : Nat) (wa : Nat) (ta : Nat) (ma : Nat) (pa : Nat) (ba : Nat) (ka : Nat) (fa : Nat) (qa : Nat) (ea : Nat) (za : Nat) (ya : Nat) (kpt : Int32) (mkd : Int32) (tpd : Int32) (at0 : Int32) (wel : Int32) (srt : Int32) (wks : Int32) (st : Nat) (nw : Nat → Int32) (j0 : Nat) (hn0 : nw 0 = nI st) (hs1 : 1 ≤ st) (hs7 : st ≤ 7) (hj : j0 ≤ 7) (hq : ¬ nw 2 = 0) : Met l yX5_rest wsX5_rest ({ frames := 2, cells := 0, slots := 0, locals := 43 } : Room) (xPc D [.ref g0, .int (nI j0)] [(g0, .inr (5, [.ref ra, .ref wa, .ref ta, .int kpt, .ref ma, .int mkd, .ref pa, .int tpd, .int at0, .int wel, .ref ba, .ref ka, .int srt, .ref fa, .ref qa, .ref ea, .ref za, .ref ya, .int wks])), (wa, .inl (cI, 70, .inl nw))] (xTy cI cL cZ cC)) (vp_Si (fun r : Int32 => r = xRs nw st j0)) 0 0 (fun _ => False) := by
  refine Met.ofW (cc := cX5_rest) (maxL := 4) (ret := (some .int)) (by decide) rfl ?_
  intro p e s m args below meth c s₁ B hml hv
  obtain ⟨rfl, hP, hK⟩ := hv
  have hx := B.exec
  have hb := B.bytes
  have hr := B.returns
  have hts := atoms_spec (ws := wsX5_rest) B.pre
  have hown : s.vm.findClass RX5 = some m.cls := findClass_of_methodNamed B.named
  have hlocks := B.notSynchronized
  have hwX5 : ∀ w ∈ u_ws RX5 TX5 19, w ∈ wsX5_rest := fun _ h => List.mem_cons_of_mem _ (List.mem_append_right _ h)
  have hl := lv_entry ([.ref g0, .int (nI j0)]) (n := 4) (Nat.le_of_ble_eq_true rfl)
  rw [lg_entry_eq]
  generalize (lg_sl ([.ref g0, .int (nI j0)]) ++ List.replicate (4 - (lg_sl ([.ref g0, .int (nI j0)])).length) Slot.unset).toArray = ls at hl ⊢
  have hl : lv_has ls 4 [(0, .ref g0), (1, .int (nI j0))] := hl
  refine lv_iconst (v := 0) hx hb dX5_rest_0 (by decide) ?_
  refine lv_istore_n (lv' := [(2, .int 0), (0, .ref g0), (1, .int (nI j0))]) hx hb dX5_rest_1 rfl hl (by decide) rfl (fun ls hl => ?_)
  refine lv_iload_n hx hb dX5_rest_2 rfl (lv_at hl 2 rfl) ?_
  refine lv_iconst (v := 1) hx hb dX5_rest_3 (by decide) ?_
  refine lv_iadd hx hb dX5_rest_4 ?_
  refine xv_int (y := nI (j0 + 1)) (nI_1 j0) ?_
  refine lv_istore_n (lv' := [(3, .int (nI (j0 + 1))), (2, .int 0), (0, .ref g0), (1, .int (nI j0))]) hx hb dX5_rest_5 rfl hl (by decide) rfl (fun ls hl => ?_)
  refine xl_loop (σ := Nat) (fun n q ls => lv_has ls 4 [(3, .int (nI (j0 + 1 + q))), (2, .int (xSmF (fun i => (xLm nw st (i + 1) + nw 2 - 1) / nw 2) j0 q)), (0, .ref g0), (1, .int (nI j0))] ∧ (st + 1 - (j0 + q) < n) ∧ (q ≤ st - j0)) (st + 2) (0) ⟨lv_sub hl [0, 1, 2, 3] rfl, by (try dsimp only); exact ⟨by omega, by omega⟩⟩ (fun q ls h => absurd h.2.1 (Nat.not_lt_zero _)) ?_
  intro n_6 q_6 ls ih_6 hI_6
  obtain ⟨hl, hI_6⟩ := hI_6
  obtain ⟨k, e_6⟩ : ∃ z, z = q_6 := ⟨_, rfl⟩
  subst e_6
  obtain ⟨h1, h2⟩ := hI_6
  try dsimp only at hl h1 h2
  refine lv_iload_n hx hb dX5_rest_6 rfl (lv_at hl 0 rfl) ?_
  refine lv_aload_n hx hb dX5_rest_7 rfl (lv_at hl 2 rfl) ?_
  refine va_get (D := D) (ci := 5) (v := .ref wa) (C := RX5) (T := TX5) (N := 19) hx hb hts hwX5 hown hK hP 0 rfl rfl 1 (by decide) (hts (.fieldLink RX5 19 "WaitOrWalkOnModel" "now" "[I") (by decide +kernel)) (fun _ h9 => h9) rfl dX5_rest_8 ?_
  refine lv_iconst (v := 0) hx hb dX5_rest_11 (by decide) ?_
  refine va_iald (D := D) hx hb hK hP 1 0 rfl rfl (by unfold vp_in; decide +kernel) dX5_rest_12 ?_
  refine xv_int (y := nw 0) rfl ?_
  refine xv_int (y := nI st) (hn0) ?_
  refine lv_icmp_gt (tgt := 36) hx hb dX5_rest_13 (by decide) (fun c_1 => ?_) (fun c_1 => ?_)
  · refine lv_iload_n hx hb dX5_rest_36 rfl (lv_at hl 1 rfl) ?_
    exact W.iret (v := xSmF (fun i => (xLm nw st (i + 1) + nw 2 - 1) / nw 2) j0 k) hx hb hr (fun t ht hW => ⟨_, rfl, (by have w := (nI_ltI (a := st) (b := j0 + 1 + k) (by omega) (by omega)).mp c_1; exact congrArg (xSmF _ j0) (show k = st - j0 by omega)), ht⟩) (fun _ h => absurd h List.not_mem_nil) dX5_rest_37
  · refine lv_iload_n hx hb dX5_rest_16 rfl (lv_at hl 1 rfl) ?_
    refine lv_aload_n hx hb dX5_rest_17 rfl (lv_at hl 2 rfl) ?_
    refine lv_iload_n hx hb dX5_rest_18 rfl (lv_at hl 0 rfl) ?_
    refine lv_aload_n hx hb dX5_rest_19 rfl (lv_at hl 2 rfl) ?_
    refine va_get (D := D) (ci := 5) (v := .ref wa) (C := RX5) (T := TX5) (N := 19) hx hb hts hwX5 hown hK hP 0 rfl rfl 1 (by decide) (hts (.fieldLink RX5 19 "WaitOrWalkOnModel" "now" "[I") (by decide +kernel)) (fun _ h9 => h9) rfl dX5_rest_20 ?_
    refine lv_iconst (v := 2) hx hb dX5_rest_23 (by decide) ?_
    refine va_iald (D := D) hx hb hK hP 1 0 rfl rfl (by unfold vp_in; decide +kernel) dX5_rest_24 ?_
    refine xv_int (y := nw 2) rfl ?_
    have hPc := hP.sub (ws' := [(g0, .inr (5, [.ref ra, .ref wa, .ref ta, .int kpt, .ref ma, .int mkd, .ref pa, .int tpd, .int at0, .int wel, .ref ba, .ref ka, .int srt, .ref fa, .ref qa, .ref ea, .ref za, .ref ya, .int wks])), (wa, .inl (cI, 70, .inl nw))]) [0, 1] rfl
    refine vp_callSi (va_Run.run (va_runV (As := [.int (nI (j0 + 1 + k)), .int (nw 2)]) (rest := [.int (xSmF (fun i => (xLm nw st (i + 1) + nw 2 - 1) / nw 2) j0 k)]) ⟨hx, hb, hml, hown, hts⟩ (g_X5_leg l D cI cL cZ cC g0 ra wa ta ma pa ba ka fa qa ea za ya kpt mkd tpd at0 wel srt wks st nw (j0 + 1 + k) (nw 2) (by first | assumption | decide +kernel) (by first | assumption | decide +kernel) (by first | assumption | decide +kernel) (by have w := mt (nI_ltI (a := st) (b := j0 + 1 + k) (by omega) (by omega)).mpr c_1; omega) (by first | assumption | decide +kernel)) (cwV 2 hts gX5_rest_X5_leg rfl rfl rfl (by decide +kernel) ⟨Nat.le_of_ble_eq_true rfl, Nat.le_of_ble_eq_true rfl⟩) ⟨xPc_bl, va_recv hK hPc (ci := 5) (q0 := 0) rfl rfl, xPc_use hPc hK⟩ rfl rfl hl.1 rfl (lv_room (Nat.le_of_ble_eq_true rfl)) dX5_rest_25 ⟨Nat.le_of_ble_eq_true rfl, Nat.le_of_ble_eq_true rfl⟩)) (fun r_2 er_2 => ?_)
    obtain rfl : ((xLm nw st (j0 + 1 + k) + (nw 2) - 1) / (nw 2) : Int32) = r_2 := Eq.symm er_2
    refine lv_iadd hx hb dX5_rest_28 ?_
    refine xv_int (y := xSmF (fun i => (xLm nw st (i + 1) + nw 2 - 1) / nw 2) j0 (k + 1)) (by rw [show j0 + 1 + k = j0 + k + 1 by omega]; rfl) ?_
    refine lv_istore_n (lv' := [(2, .int (xSmF (fun i => (xLm nw st (i + 1) + nw 2 - 1) / nw 2) j0 (k + 1))), (3, .int (nI (j0 + 1 + k))), (0, .ref g0), (1, .int (nI j0))]) hx hb dX5_rest_29 rfl hl (by decide) rfl (fun ls hl => ?_)
    refine lv_iinc (v := nI (j0 + 1 + (k + 1))) (lv' := [(3, .int (nI (j0 + 1 + (k + 1)))), (2, .int (xSmF (fun i => (xLm nw st (i + 1) + nw 2 - 1) / nw 2) j0 (k + 1))), (0, .ref g0), (1, .int (nI j0))]) hx hb dX5_rest_30 hl (k := 1) rfl (nI_1 (j0 + 1 + k)) (by decide) rfl (fun ls hl => ?_)
    refine lv_goto (tgt := 6) hx hb dX5_rest_33 (by decide) ?_
    have w := mt (nI_ltI (a := st) (b := j0 + 1 + k) (by omega) (by omega)).mpr c_1
    exact ih_6 (k + 1) _ ⟨lv_sub hl [0, 1, 2, 3] rfl, by (try dsimp only); exact ⟨by omega, by omega⟩⟩

set_option maxHeartbeats 4000000 in
set_option maxRecDepth 100000 in
theorem g_X5_ride (l : Launch) (D : va_G) (cI cL cZ cC : ClassId) (g0 : Nat) (ra : Nat) (wa : Nat) (ta : Nat) (ma : Nat) (pa : Nat) (ba : Nat) (ka : Nat) (fa : Nat) (qa : Nat) (ea : Nat) (za : Nat) (ya : Nat) (kpt : Int32) (mkd : Int32) (tpd : Int32) (at0 : Int32) (wel : Int32) (srt : Int32) (wks : Int32) (st : Nat) (nw : Nat → Int32) (a0 : Nat) (a2 : Int32) (hn0 : nw 0 = nI st) (hs1 : 1 ≤ st) (hs7 : st ≤ 7) (ha : a0 ≤ 2) : Met l yX5_ride wsX5_ride ({ frames := 0, cells := 0, slots := 0, locals := 0 } : Room) (xPc D [.ref g0, .int (nI a0), .int a2] [(g0, .inr (5, [.ref ra, .ref wa, .ref ta, .int kpt, .ref ma, .int mkd, .ref pa, .int tpd, .int at0, .int wel, .ref ba, .ref ka, .int srt, .ref fa, .ref qa, .ref ea, .ref za, .ref ya, .int wks])), (wa, .inl (cI, 70, .inl nw))] (xTy cI cL cZ cC)) (vp_Si (fun r : Int32 => r = sRd (nw (20 + 16 * a0)) (nw (20 + 16 * a0 + 1)) a2)) 0 0 (fun _ => False) := by
  refine Met.ofW (cc := cX5_ride) (maxL := 5) (ret := (some .int)) (by decide) rfl ?_
  intro p e s m args below meth c s₁ B hml hv
  obtain ⟨rfl, hP, hK⟩ := hv
  have hx := B.exec
  have hb := B.bytes
  have hr := B.returns
  have hts := atoms_spec (ws := wsX5_ride) B.pre
  have hown : s.vm.findClass RX5 = some m.cls := findClass_of_methodNamed B.named
  have hlocks := B.notSynchronized
  have hwX5 : ∀ w ∈ u_ws RX5 TX5 19, w ∈ wsX5_ride := fun _ h => List.mem_cons_of_mem _ (List.mem_append_right _ h)
  have hl := lv_entry ([.ref g0, .int (nI a0), .int a2]) (n := 5) (Nat.le_of_ble_eq_true rfl)
  rw [lg_entry_eq]
  generalize (lg_sl ([.ref g0, .int (nI a0), .int a2]) ++ List.replicate (5 - (lg_sl ([.ref g0, .int (nI a0), .int a2])).length) Slot.unset).toArray = ls at hl ⊢
  have hl : lv_has ls 5 [(0, .ref g0), (1, .int (nI a0)), (2, .int a2)] := hl
  refine lv_aload_n hx hb dX5_ride_0 rfl (lv_at hl 0 rfl) ?_
  refine va_get (D := D) (ci := 5) (v := .ref wa) (C := RX5) (T := TX5) (N := 19) hx hb hts hwX5 hown hK hP 0 rfl rfl 1 (by decide) (hts (.fieldLink RX5 19 "WaitOrWalkOnModel" "now" "[I") (by decide +kernel)) (fun _ h9 => h9) rfl dX5_ride_1 ?_
  refine lv_bipush (v := 20) hx hb dX5_ride_4 (by decide) ?_
  refine lv_bipush (v := 16) hx hb dX5_ride_6 (by decide) ?_
  refine lv_iload_n hx hb dX5_ride_8 rfl (lv_at hl 1 rfl) ?_
  refine lv_imul hx hb dX5_ride_9 ?_
  refine lv_iadd hx hb dX5_ride_10 ?_
  refine xv_int (y := nI (20 + 16 * a0)) (by rw [show (16 : Int32) = nI 16 from rfl, show (20 : Int32) = nI 20 from rfl, pk_mul, nI_add]) ?_
  refine va_iald (D := D) hx hb hK hP 1 0 rfl rfl (vp_in_nI (by omega) (by decide)) dX5_ride_11 ?_
  refine xv_int (y := nw (20 + 16 * a0)) (by rw [nI_clamp (by omega)]) ?_
  refine lv_istore_n (lv' := [(3, .int (nw (20 + 16 * a0))), (0, .ref g0), (1, .int (nI a0)), (2, .int a2)]) hx hb dX5_ride_12 rfl hl (by decide) rfl (fun ls hl => ?_)
  refine lv_aload_n hx hb dX5_ride_13 rfl (lv_at hl 1 rfl) ?_
  refine va_get (D := D) (ci := 5) (v := .ref wa) (C := RX5) (T := TX5) (N := 19) hx hb hts hwX5 hown hK hP 0 rfl rfl 1 (by decide) (hts (.fieldLink RX5 19 "WaitOrWalkOnModel" "now" "[I") (by decide +kernel)) (fun _ h9 => h9) rfl dX5_ride_14 ?_
  refine lv_bipush (v := 20) hx hb dX5_ride_17 (by decide) ?_
  refine lv_bipush (v := 16) hx hb dX5_ride_19 (by decide) ?_
  refine lv_iload_n hx hb dX5_ride_21 rfl (lv_at hl 2 rfl) ?_
  refine lv_imul hx hb dX5_ride_22 ?_
  refine lv_iadd hx hb dX5_ride_23 ?_
  refine xv_int (y := nI (20 + 16 * a0)) (by rw [show (16 : Int32) = nI 16 from rfl, show (20 : Int32) = nI 20 from rfl, pk_mul, nI_add]) ?_
  refine lv_iconst (v := 1) hx hb dX5_ride_24 (by decide) ?_
  refine lv_iadd hx hb dX5_ride_25 ?_
  refine xv_int (y := nI (20 + 16 * a0 + 1)) (nI_1 (20 + 16 * a0)) ?_
  refine va_iald (D := D) hx hb hK hP 1 0 rfl rfl (vp_in_nI (by omega) (by decide)) dX5_ride_26 ?_
  refine xv_int (y := nw (20 + 16 * a0 + 1)) (by rw [nI_clamp (by omega)]) ?_
  refine lv_istore (lv' := [(4, .int (nw (20 + 16 * a0 + 1))), (3, .int (nw (20 + 16 * a0))), (0, .ref g0), (1, .int (nI a0)), (2, .int a2)]) hx hb dX5_ride_27 hl (by decide) rfl (fun ls hl => ?_)
  refine lv_iload_n hx hb dX5_ride_29 rfl (lv_at hl 1 rfl) ?_
  refine lv_iconst (v := 1) hx hb dX5_ride_30 (by decide) ?_
  refine lv_icmp_ne (tgt := 41) hx hb dX5_ride_31 (by decide) (fun c_1 => ?_) (fun c_1 => ?_)
  · refine lv_iload_n hx hb dX5_ride_41 rfl (lv_at hl 1 rfl) ?_
    refine lv_iconst (v := 3) hx hb dX5_ride_42 (by decide) ?_
    refine lv_icmp_ne (tgt := 62) hx hb dX5_ride_43 (by decide) (fun c_2 => ?_) (fun c_2 => ?_)
    · refine lv_iload_n hx hb dX5_ride_62 rfl (lv_at hl 1 rfl) ?_
      refine lv_iconst (v := 4) hx hb dX5_ride_63 (by decide) ?_
      refine lv_icmp_ne (tgt := 76) hx hb dX5_ride_64 (by decide) (fun c_3 => ?_) (fun c_3 => ?_)
      · refine lv_iload hx hb dX5_ride_76 (lv_at hl 0 rfl) ?_
        exact W.iret (v := nw (20 + 16 * a0 + 1)) hx hb hr (fun t ht hW => ⟨_, rfl, by simp [sRd, c_1, c_2, c_3], ht⟩) (fun _ h => absurd h List.not_mem_nil) dX5_ride_78
      · refine lv_iload hx hb dX5_ride_67 (lv_at hl 0 rfl) ?_
        refine lv_iconst (v := 1) hx hb dX5_ride_69 (by decide) ?_
        refine lv_iadd hx hb dX5_ride_70 ?_
        refine lv_iconst (v := 2) hx hb dX5_ride_71 (by decide) ?_
        refine lv_idiv hx hb dX5_ride_72 ((by decide)) ?_
        refine lv_goto (tgt := 78) hx hb dX5_ride_73 (by decide) ?_
        exact W.iret (v := ((nw (20 + 16 * a0 + 1)) + 1) / 2) hx hb hr (fun t ht hW => ⟨_, rfl, by simp [sRd, c_1, c_2, c_3], ht⟩) (fun _ h => absurd h List.not_mem_nil) dX5_ride_78
    · refine lv_iload hx hb dX5_ride_46 (lv_at hl 0 rfl) ?_
      refine lv_iload_n hx hb dX5_ride_48 rfl (lv_at hl 4 rfl) ?_
      refine lv_if_ne (tgt := 57) hx hb dX5_ride_49 (by decide) (fun c_4 => ?_) (fun c_4 => ?_)
      · refine lv_iconst (v := 1) hx hb dX5_ride_57 (by decide) ?_
        refine lv_iadd hx hb dX5_ride_58 ?_
        refine lv_goto (tgt := 78) hx hb dX5_ride_59 (by decide) ?_
        exact W.iret (v := (nw (20 + 16 * a0 + 1)) + 1) hx hb hr (fun t ht hW => ⟨_, rfl, by simp [sRd, c_1, c_2, c_4], ht⟩) (fun _ h => absurd h List.not_mem_nil) dX5_ride_78
      · refine lv_bipush (v := 6) hx hb dX5_ride_52 (by decide) ?_
        refine lv_goto (tgt := 58) hx hb dX5_ride_54 (by decide) ?_
        refine lv_iadd hx hb dX5_ride_58 ?_
        refine lv_goto (tgt := 78) hx hb dX5_ride_59 (by decide) ?_
        exact W.iret (v := (nw (20 + 16 * a0 + 1)) + 6) hx hb hr (fun t ht hW => ⟨_, rfl, by simp [sRd, c_1, c_2, c_4], ht⟩) (fun _ h => absurd h List.not_mem_nil) dX5_ride_78
  · refine lv_iload hx hb dX5_ride_34 (lv_at hl 0 rfl) ?_
    refine lv_iconst (v := 1) hx hb dX5_ride_36 (by decide) ?_
    refine lv_iadd hx hb dX5_ride_37 ?_
    refine lv_goto (tgt := 78) hx hb dX5_ride_38 (by decide) ?_
    exact W.iret (v := (nw (20 + 16 * a0 + 1)) + 1) hx hb hr (fun t ht hW => ⟨_, rfl, by simp [sRd, c_1], ht⟩) (fun _ h => absurd h List.not_mem_nil) dX5_ride_78

set_option maxHeartbeats 4000000 in
set_option maxRecDepth 100000 in
theorem g_X5_to (l : Launch) (D : va_G) (cI cL cZ cC : ClassId) (g0 : Nat) (ra : Nat) (wa : Nat) (ta : Nat) (ma : Nat) (pa : Nat) (ba : Nat) (ka : Nat) (fa : Nat) (qa : Nat) (ea : Nat) (za : Nat) (ya : Nat) (kpt : Int32) (mkd : Int32) (tpd : Int32) (at0 : Int32) (wel : Int32) (srt : Int32) (wks : Int32) (st : Nat) (nw : Nat → Int32) (a0 : Nat) (j0 : Nat) (hn0 : nw 0 = nI st) (hs1 : 1 ≤ st) (hs7 : st ≤ 7) (ha : a0 ≤ 2) (hj : j0 ≤ 7) : Met l yX5_to wsX5_to ({ frames := 1, cells := 0, slots := 0, locals := 24 } : Room) (xPc D [.ref g0, .int (nI a0), .int (nI j0)] [(g0, .inr (5, [.ref ra, .ref wa, .ref ta, .int kpt, .ref ma, .int mkd, .ref pa, .int tpd, .int at0, .int wel, .ref ba, .ref ka, .int srt, .ref fa, .ref qa, .ref ea, .ref za, .ref ya, .int wks])), (wa, .inl (cI, 70, .inl nw))] (xTy cI cL cZ cC)) (vp_Si (fun r : Int32 => r = xSm (fun i => sRd (nw (20 + 16 * a0)) (nw (20 + 16 * a0 + 1)) (nI i)) j0)) 0 0 (fun _ => False) := by
  refine Met.ofW (cc := cX5_to) (maxL := 5) (ret := (some .int)) (by decide) rfl ?_
  intro p e s m args below meth c s₁ B hml hv
  obtain ⟨rfl, hP, hK⟩ := hv
  have hx := B.exec
  have hb := B.bytes
  have hr := B.returns
  have hts := atoms_spec (ws := wsX5_to) B.pre
  have hown : s.vm.findClass RX5 = some m.cls := findClass_of_methodNamed B.named
  have hlocks := B.notSynchronized
  have hl := lv_entry ([.ref g0, .int (nI a0), .int (nI j0)]) (n := 5) (Nat.le_of_ble_eq_true rfl)
  rw [lg_entry_eq]
  generalize (lg_sl ([.ref g0, .int (nI a0), .int (nI j0)]) ++ List.replicate (5 - (lg_sl ([.ref g0, .int (nI a0), .int (nI j0)])).length) Slot.unset).toArray = ls at hl ⊢
  have hl : lv_has ls 5 [(0, .ref g0), (1, .int (nI a0)), (2, .int (nI j0))] := hl
  refine lv_iconst (v := 0) hx hb dX5_to_0 (by decide) ?_
  refine lv_istore_n (lv' := [(3, .int 0), (0, .ref g0), (1, .int (nI a0)), (2, .int (nI j0))]) hx hb dX5_to_1 rfl hl (by decide) rfl (fun ls hl => ?_)
  refine lv_iconst (v := 0) hx hb dX5_to_2 (by decide) ?_
  refine lv_istore (lv' := [(4, .int 0), (3, .int 0), (0, .ref g0), (1, .int (nI a0)), (2, .int (nI j0))]) hx hb dX5_to_3 hl (by decide) rfl (fun ls hl => ?_)
  refine xl_loop (σ := Nat) (fun n q ls => lv_has ls 5 [(4, .int (nI q)), (3, .int (xSm (fun i => sRd (nw (20 + 16 * a0)) (nw (20 + 16 * a0 + 1)) (nI i)) q)), (0, .ref g0), (1, .int (nI a0)), (2, .int (nI j0))] ∧ (j0 - q < n) ∧ (q ≤ j0)) (j0 + 1) (0) ⟨lv_sub hl [0, 1, 2, 3, 4] rfl, by (try dsimp only); exact ⟨by omega, by omega⟩⟩ (fun q ls h => absurd h.2.1 (Nat.not_lt_zero _)) ?_
  intro n_5 q_5 ls ih_5 hI_5
  obtain ⟨hl, hI_5⟩ := hI_5
  obtain ⟨k, e_5⟩ : ∃ z, z = q_5 := ⟨_, rfl⟩
  subst e_5
  obtain ⟨h1, h2⟩ := hI_5
  try dsimp only at hl h1 h2
  refine lv_iload hx hb dX5_to_5 (lv_at hl 0 rfl) ?_
  refine lv_iload_n hx hb dX5_to_7 rfl (lv_at hl 4 rfl) ?_
  refine lv_icmp_ge (tgt := 27) hx hb dX5_to_8 (by decide) (fun c_1 => ?_) (fun c_1 => ?_)
  · refine lv_iload_n hx hb dX5_to_27 rfl (lv_at hl 1 rfl) ?_
    exact W.iret (v := xSm (fun i => sRd (nw (20 + 16 * a0)) (nw (20 + 16 * a0 + 1)) (nI i)) k) hx hb hr (fun t ht hW => ⟨_, rfl, (by have w := mt (nI_ltI (a := k) (b := j0) (by omega) (by omega)).mpr (Int32.not_lt.mpr c_1); exact congrArg (xSm _) (show k = j0 by omega)), ht⟩) (fun _ h => absurd h List.not_mem_nil) dX5_to_28
  · refine lv_iload_n hx hb dX5_to_11 rfl (lv_at hl 1 rfl) ?_
    refine lv_aload_n hx hb dX5_to_12 rfl (lv_at hl 2 rfl) ?_
    refine lv_iload_n hx hb dX5_to_13 rfl (lv_at hl 3 rfl) ?_
    refine lv_iload hx hb dX5_to_14 (lv_at hl 0 rfl) ?_
    have hPc := hP.sub (ws' := [(g0, .inr (5, [.ref ra, .ref wa, .ref ta, .int kpt, .ref ma, .int mkd, .ref pa, .int tpd, .int at0, .int wel, .ref ba, .ref ka, .int srt, .ref fa, .ref qa, .ref ea, .ref za, .ref ya, .int wks])), (wa, .inl (cI, 70, .inl nw))]) [0, 1] rfl
    refine vp_callSi (va_Run.run (va_runV (As := [.int (nI a0), .int (nI k)]) (rest := [.int (xSm (fun i => sRd (nw (20 + 16 * a0)) (nw (20 + 16 * a0 + 1)) (nI i)) k)]) ⟨hx, hb, hml, hown, hts⟩ (g_X5_ride l D cI cL cZ cC g0 ra wa ta ma pa ba ka fa qa ea za ya kpt mkd tpd at0 wel srt wks st nw a0 (nI k) (by first | assumption | decide +kernel) (by first | assumption | decide +kernel) (by first | assumption | decide +kernel) (by first | assumption | decide +kernel)) (cwV 2 hts gX5_to_X5_ride rfl rfl rfl (by decide +kernel) ⟨Nat.le_of_ble_eq_true rfl, Nat.le_of_ble_eq_true rfl⟩) ⟨xPc_bl, va_recv hK hPc (ci := 5) (q0 := 0) rfl rfl, xPc_use hPc hK⟩ rfl rfl hl.1 rfl (lv_room (Nat.le_of_ble_eq_true rfl)) dX5_to_16 ⟨Nat.le_of_ble_eq_true rfl, Nat.le_of_ble_eq_true rfl⟩)) (fun r_2 er_2 => ?_)
    obtain rfl : (sRd (nw (20 + 16 * a0)) (nw (20 + 16 * a0 + 1)) (nI k) : Int32) = r_2 := Eq.symm er_2
    refine lv_iadd hx hb dX5_to_19 ?_
    refine xv_int (y := xSm (fun i => sRd (nw (20 + 16 * a0)) (nw (20 + 16 * a0 + 1)) (nI i)) (k + 1)) (rfl) ?_
    refine lv_istore_n (lv' := [(3, .int (xSm (fun i => sRd (nw (20 + 16 * a0)) (nw (20 + 16 * a0 + 1)) (nI i)) (k + 1))), (4, .int (nI k)), (0, .ref g0), (1, .int (nI a0)), (2, .int (nI j0))]) hx hb dX5_to_20 rfl hl (by decide) rfl (fun ls hl => ?_)
    refine lv_iinc (v := nI (k + 1)) (lv' := [(4, .int (nI (k + 1))), (3, .int (xSm (fun i => sRd (nw (20 + 16 * a0)) (nw (20 + 16 * a0 + 1)) (nI i)) (k + 1))), (0, .ref g0), (1, .int (nI a0)), (2, .int (nI j0))]) hx hb dX5_to_21 hl (k := 1) rfl (nI_1 k) (by decide) rfl (fun ls hl => ?_)
    refine lv_goto (tgt := 5) hx hb dX5_to_24 (by decide) ?_
    have w := (nI_ltI (a := k) (b := j0) (by omega) (by omega)).mp (Int32.not_le.mp c_1)
    exact ih_5 (k + 1) _ ⟨lv_sub hl [0, 1, 2, 3, 4] rfl, by (try dsimp only); exact ⟨by omega, by omega⟩⟩

set_option maxHeartbeats 4000000 in
set_option maxRecDepth 100000 in
theorem g_X5_toLast (l : Launch) (D : va_G) (cI cL cZ cC : ClassId) (g0 : Nat) (ra : Nat) (wa : Nat) (ta : Nat) (ma : Nat) (pa : Nat) (ba : Nat) (ka : Nat) (fa : Nat) (qa : Nat) (ea : Nat) (za : Nat) (ya : Nat) (kpt : Int32) (mkd : Int32) (tpd : Int32) (at0 : Int32) (wel : Int32) (srt : Int32) (wks : Int32) (st : Nat) (nw : Nat → Int32) (a0 : Nat) (hn0 : nw 0 = nI st) (hs1 : 1 ≤ st) (hs7 : st ≤ 7) (ha : a0 ≤ 2) : Met l yX5_toLast wsX5_toLast ({ frames := 2, cells := 0, slots := 0, locals := 48 } : Room) (xPc D [.ref g0, .int (nI a0)] [(g0, .inr (5, [.ref ra, .ref wa, .ref ta, .int kpt, .ref ma, .int mkd, .ref pa, .int tpd, .int at0, .int wel, .ref ba, .ref ka, .int srt, .ref fa, .ref qa, .ref ea, .ref za, .ref ya, .int wks])), (wa, .inl (cI, 70, .inl nw))] (xTy cI cL cZ cC)) (vp_Si (fun r : Int32 => r = xSm (fun i => sRd (nw (20 + 16 * a0)) (nw (20 + 16 * a0 + 1)) (nI i)) (st - 1))) 0 0 (fun _ => False) := by
  refine Met.ofW (cc := cX5_toLast) (maxL := 2) (ret := (some .int)) (by decide) rfl ?_
  intro p e s m args below meth c s₁ B hml hv
  obtain ⟨rfl, hP, hK⟩ := hv
  have hx := B.exec
  have hb := B.bytes
  have hr := B.returns
  have hts := atoms_spec (ws := wsX5_toLast) B.pre
  have hown : s.vm.findClass RX5 = some m.cls := findClass_of_methodNamed B.named
  have hlocks := B.notSynchronized
  have hwX5 : ∀ w ∈ u_ws RX5 TX5 19, w ∈ wsX5_toLast := fun _ h => List.mem_cons_of_mem _ (List.mem_append_right _ h)
  have hl := lv_entry ([.ref g0, .int (nI a0)]) (n := 2) (Nat.le_of_ble_eq_true rfl)
  rw [lg_entry_eq]
  generalize (lg_sl ([.ref g0, .int (nI a0)]) ++ List.replicate (2 - (lg_sl ([.ref g0, .int (nI a0)])).length) Slot.unset).toArray = ls at hl ⊢
  have hl : lv_has ls 2 [(0, .ref g0), (1, .int (nI a0))] := hl
  refine lv_aload_n hx hb dX5_toLast_0 rfl (lv_at hl 0 rfl) ?_
  refine lv_iload_n hx hb dX5_toLast_1 rfl (lv_at hl 1 rfl) ?_
  refine lv_aload_n hx hb dX5_toLast_2 rfl (lv_at hl 0 rfl) ?_
  refine va_get (D := D) (ci := 5) (v := .ref wa) (C := RX5) (T := TX5) (N := 19) hx hb hts hwX5 hown hK hP 0 rfl rfl 1 (by decide) (hts (.fieldLink RX5 19 "WaitOrWalkOnModel" "now" "[I") (by decide +kernel)) (fun _ h9 => h9) rfl dX5_toLast_3 ?_
  refine lv_iconst (v := 0) hx hb dX5_toLast_6 (by decide) ?_
  refine va_iald (D := D) hx hb hK hP 1 0 rfl rfl (by unfold vp_in; decide +kernel) dX5_toLast_7 ?_
  refine xv_int (y := nw 0) rfl ?_
  refine xv_int (y := nI st) (hn0) ?_
  refine lv_iconst (v := 1) hx hb dX5_toLast_8 (by decide) ?_
  refine lv_isub hx hb dX5_toLast_9 ?_
  refine xv_int (y := nI (st - 1)) (pk_sub hs1) ?_
  have hPc := hP.sub (ws' := [(g0, .inr (5, [.ref ra, .ref wa, .ref ta, .int kpt, .ref ma, .int mkd, .ref pa, .int tpd, .int at0, .int wel, .ref ba, .ref ka, .int srt, .ref fa, .ref qa, .ref ea, .ref za, .ref ya, .int wks])), (wa, .inl (cI, 70, .inl nw))]) [0, 1] rfl
  refine vp_callSi (va_Run.run (va_runV (As := [.int (nI a0), .int (nI (st - 1))]) (rest := []) ⟨hx, hb, hml, hown, hts⟩ (g_X5_to l D cI cL cZ cC g0 ra wa ta ma pa ba ka fa qa ea za ya kpt mkd tpd at0 wel srt wks st nw a0 (st - 1) (by first | assumption | decide +kernel) (by first | assumption | decide +kernel) (by first | assumption | decide +kernel) (by first | assumption | decide +kernel) (by omega)) (cwV 2 hts gX5_toLast_X5_to rfl rfl rfl (by decide +kernel) ⟨Nat.le_of_ble_eq_true rfl, Nat.le_of_ble_eq_true rfl⟩) ⟨xPc_bl, va_recv hK hPc (ci := 5) (q0 := 0) rfl rfl, xPc_use hPc hK⟩ rfl rfl hl.1 rfl (lv_room (Nat.le_of_ble_eq_true rfl)) dX5_toLast_10 ⟨Nat.le_of_ble_eq_true rfl, Nat.le_of_ble_eq_true rfl⟩)) (fun r_1 er_1 => ?_)
  obtain rfl : (xSm (fun i => sRd (nw (20 + 16 * a0)) (nw (20 + 16 * a0 + 1)) (nI i)) (st - 1) : Int32) = r_1 := Eq.symm er_1
  exact W.iret (v := xSm (fun i => sRd (nw (20 + 16 * a0)) (nw (20 + 16 * a0 + 1)) (nI i)) (st - 1)) hx hb hr (fun t ht hW => ⟨_, rfl, rfl, ht⟩) (fun _ h => absurd h List.not_mem_nil) dX5_toLast_13

set_option maxHeartbeats 4000000 in
set_option maxRecDepth 100000 in
theorem g_X5_halts (l : Launch) (D : va_G) (cI cL cZ cC : ClassId) (g0 : Nat) (ra : Nat) (wa : Nat) (ta : Nat) (ma : Nat) (pa : Nat) (ba : Nat) (ka : Nat) (fa : Nat) (qa : Nat) (ea : Nat) (za : Nat) (ya : Nat) (kpt : Int32) (mkd : Int32) (tpd : Int32) (at0 : Int32) (wel : Int32) (srt : Int32) (wks : Int32) (st : Nat) (nw : Nat → Int32) (a0 : Nat) (a2 : Int32) (hn0 : nw 0 = nI st) (hs1 : 1 ≤ st) (hs7 : st ≤ 7) (ha : a0 ≤ 2) : Met l yX5_halts wsX5_halts ({ frames := 0, cells := 0, slots := 0, locals := 0 } : Room) (xPc D [.ref g0, .int (nI a0), .int a2] [(g0, .inr (5, [.ref ra, .ref wa, .ref ta, .int kpt, .ref ma, .int mkd, .ref pa, .int tpd, .int at0, .int wel, .ref ba, .ref ka, .int srt, .ref fa, .ref qa, .ref ea, .ref za, .ref ya, .int wks])), (wa, .inl (cI, 70, .inl nw))] (xTy cI cL cZ cC)) (vp_Si (fun r : Int32 => r = sHalt (nw (20 + 16 * a0)) a2 (nI (st - 1)))) 0 0 (fun _ => False) := by
  refine Met.ofW (cc := cX5_halts) (maxL := 4) (ret := (some .boolean)) (by decide) rfl ?_
  intro p e s m args below meth c s₁ B hml hv
  obtain ⟨rfl, hP, hK⟩ := hv
  have hx := B.exec
  have hb := B.bytes
  have hr := B.returns
  have hts := atoms_spec (ws := wsX5_halts) B.pre
  have hown : s.vm.findClass RX5 = some m.cls := findClass_of_methodNamed B.named
  have hlocks := B.notSynchronized
  have hwX5 : ∀ w ∈ u_ws RX5 TX5 19, w ∈ wsX5_halts := fun _ h => List.mem_cons_of_mem _ (List.mem_append_right _ h)
  have hl := lv_entry ([.ref g0, .int (nI a0), .int a2]) (n := 4) (Nat.le_of_ble_eq_true rfl)
  rw [lg_entry_eq]
  generalize (lg_sl ([.ref g0, .int (nI a0), .int a2]) ++ List.replicate (4 - (lg_sl ([.ref g0, .int (nI a0), .int a2])).length) Slot.unset).toArray = ls at hl ⊢
  have hl : lv_has ls 4 [(0, .ref g0), (1, .int (nI a0)), (2, .int a2)] := hl
  refine lv_aload_n hx hb dX5_halts_0 rfl (lv_at hl 0 rfl) ?_
  refine va_get (D := D) (ci := 5) (v := .ref wa) (C := RX5) (T := TX5) (N := 19) hx hb hts hwX5 hown hK hP 0 rfl rfl 1 (by decide) (hts (.fieldLink RX5 19 "WaitOrWalkOnModel" "now" "[I") (by decide +kernel)) (fun _ h9 => h9) rfl dX5_halts_1 ?_
  refine lv_bipush (v := 20) hx hb dX5_halts_4 (by decide) ?_
  refine lv_bipush (v := 16) hx hb dX5_halts_6 (by decide) ?_
  refine lv_iload_n hx hb dX5_halts_8 rfl (lv_at hl 1 rfl) ?_
  refine lv_imul hx hb dX5_halts_9 ?_
  refine lv_iadd hx hb dX5_halts_10 ?_
  refine xv_int (y := nI (20 + 16 * a0)) (by rw [show (16 : Int32) = nI 16 from rfl, show (20 : Int32) = nI 20 from rfl, pk_mul, nI_add]) ?_
  refine va_iald (D := D) hx hb hK hP 1 0 rfl rfl (vp_in_nI (by omega) (by decide)) dX5_halts_11 ?_
  refine xv_int (y := nw (20 + 16 * a0)) (by rw [nI_clamp (by omega)]) ?_
  refine lv_istore_n (lv' := [(3, .int (nw (20 + 16 * a0))), (0, .ref g0), (1, .int (nI a0)), (2, .int a2)]) hx hb dX5_halts_12 rfl hl (by decide) rfl (fun ls hl => ?_)
  refine lv_iload_n hx hb dX5_halts_13 rfl (lv_at hl 0 rfl) ?_
  refine lv_iconst (v := 2) hx hb dX5_halts_14 (by decide) ?_
  refine lv_icmp_eq (tgt := 23) hx hb dX5_halts_15 (by decide) (fun c_1 => ?_) (fun c_1 => ?_)
  · refine lv_iload_n hx hb dX5_halts_23 rfl (lv_at hl 3 rfl) ?_
    refine lv_iconst (v := 2) hx hb dX5_halts_24 (by decide) ?_
    refine lv_irem hx hb dX5_halts_25 ((by decide)) ?_
    refine lv_if_eq (tgt := 41) hx hb dX5_halts_26 (by decide) (fun c_2 => ?_) (fun c_2 => ?_)
    · refine lv_iconst (v := 1) hx hb dX5_halts_41 (by decide) ?_
      refine lv_goto (tgt := 46) hx hb dX5_halts_42 (by decide) ?_
      exact W.zret (v := 1) (ty := .boolean) hx hb hr (by decide +kernel) (fun t ht hW => ⟨_, rfl, by simp [sHalt, c_1, c_2], ht⟩) (fun _ h => absurd h List.not_mem_nil) dX5_halts_46
    · refine lv_iload_n hx hb dX5_halts_29 rfl (lv_at hl 3 rfl) ?_
      refine lv_aload_n hx hb dX5_halts_30 rfl (lv_at hl 1 rfl) ?_
      refine va_get (D := D) (ci := 5) (v := .ref wa) (C := RX5) (T := TX5) (N := 19) hx hb hts hwX5 hown hK hP 0 rfl rfl 1 (by decide) (hts (.fieldLink RX5 19 "WaitOrWalkOnModel" "now" "[I") (by decide +kernel)) (fun _ h9 => h9) rfl dX5_halts_31 ?_
      refine lv_iconst (v := 0) hx hb dX5_halts_34 (by decide) ?_
      refine va_iald (D := D) hx hb hK hP 1 0 rfl rfl (by unfold vp_in; decide +kernel) dX5_halts_35 ?_
      refine xv_int (y := nw 0) rfl ?_
      refine xv_int (y := nI st) (hn0) ?_
      refine lv_iconst (v := 1) hx hb dX5_halts_36 (by decide) ?_
      refine lv_isub hx hb dX5_halts_37 ?_
      refine xv_int (y := nI (st - 1)) (pk_sub hs1) ?_
      refine lv_icmp_ne (tgt := 45) hx hb dX5_halts_38 (by decide) (fun c_3 => ?_) (fun c_3 => ?_)
      · refine lv_iconst (v := 0) hx hb dX5_halts_45 (by decide) ?_
        exact W.zret (v := 0) (ty := .boolean) hx hb hr (by decide +kernel) (fun t ht hW => ⟨_, rfl, by simp [sHalt, c_1, c_2, c_3], ht⟩) (fun _ h => absurd h List.not_mem_nil) dX5_halts_46
      · refine lv_iconst (v := 1) hx hb dX5_halts_41 (by decide) ?_
        refine lv_goto (tgt := 46) hx hb dX5_halts_42 (by decide) ?_
        exact W.zret (v := 1) (ty := .boolean) hx hb hr (by decide +kernel) (fun t ht hW => ⟨_, rfl, by simp [sHalt, c_1, c_2, c_3], ht⟩) (fun _ h => absurd h List.not_mem_nil) dX5_halts_46
  · refine lv_iload_n hx hb dX5_halts_18 rfl (lv_at hl 0 rfl) ?_
    refine lv_iconst (v := 4) hx hb dX5_halts_19 (by decide) ?_
    refine lv_icmp_ne (tgt := 41) hx hb dX5_halts_20 (by decide) (fun c_4 => ?_) (fun c_4 => ?_)
    · refine lv_iconst (v := 1) hx hb dX5_halts_41 (by decide) ?_
      refine lv_goto (tgt := 46) hx hb dX5_halts_42 (by decide) ?_
      exact W.zret (v := 1) (ty := .boolean) hx hb hr (by decide +kernel) (fun t ht hW => ⟨_, rfl, by simp [sHalt, c_1, c_4], ht⟩) (fun _ h => absurd h List.not_mem_nil) dX5_halts_46
    · refine lv_iload_n hx hb dX5_halts_23 rfl (lv_at hl 3 rfl) ?_
      refine lv_iconst (v := 2) hx hb dX5_halts_24 (by decide) ?_
      refine lv_irem hx hb dX5_halts_25 ((by decide)) ?_
      refine lv_if_eq (tgt := 41) hx hb dX5_halts_26 (by decide) (fun c_5 => ?_) (fun c_5 => ?_)
      · refine lv_iconst (v := 1) hx hb dX5_halts_41 (by decide) ?_
        refine lv_goto (tgt := 46) hx hb dX5_halts_42 (by decide) ?_
        exact W.zret (v := 1) (ty := .boolean) hx hb hr (by decide +kernel) (fun t ht hW => ⟨_, rfl, by simp [sHalt, c_1, c_4, c_5], ht⟩) (fun _ h => absurd h List.not_mem_nil) dX5_halts_46
      · refine lv_iload_n hx hb dX5_halts_29 rfl (lv_at hl 3 rfl) ?_
        refine lv_aload_n hx hb dX5_halts_30 rfl (lv_at hl 1 rfl) ?_
        refine va_get (D := D) (ci := 5) (v := .ref wa) (C := RX5) (T := TX5) (N := 19) hx hb hts hwX5 hown hK hP 0 rfl rfl 1 (by decide) (hts (.fieldLink RX5 19 "WaitOrWalkOnModel" "now" "[I") (by decide +kernel)) (fun _ h9 => h9) rfl dX5_halts_31 ?_
        refine lv_iconst (v := 0) hx hb dX5_halts_34 (by decide) ?_
        refine va_iald (D := D) hx hb hK hP 1 0 rfl rfl (by unfold vp_in; decide +kernel) dX5_halts_35 ?_
        refine xv_int (y := nw 0) rfl ?_
        refine xv_int (y := nI st) (hn0) ?_
        refine lv_iconst (v := 1) hx hb dX5_halts_36 (by decide) ?_
        refine lv_isub hx hb dX5_halts_37 ?_
        refine xv_int (y := nI (st - 1)) (pk_sub hs1) ?_
        refine lv_icmp_ne (tgt := 45) hx hb dX5_halts_38 (by decide) (fun c_6 => ?_) (fun c_6 => ?_)
        · refine lv_iconst (v := 0) hx hb dX5_halts_45 (by decide) ?_
          exact W.zret (v := 0) (ty := .boolean) hx hb hr (by decide +kernel) (fun t ht hW => ⟨_, rfl, by simp [sHalt, c_1, c_4, c_5, c_6], ht⟩) (fun _ h => absurd h List.not_mem_nil) dX5_halts_46
        · refine lv_iconst (v := 1) hx hb dX5_halts_41 (by decide) ?_
          refine lv_goto (tgt := 46) hx hb dX5_halts_42 (by decide) ?_
          exact W.zret (v := 1) (ty := .boolean) hx hb hr (by decide +kernel) (fun t ht hW => ⟨_, rfl, by simp [sHalt, c_1, c_4, c_5, c_6], ht⟩) (fun _ h => absurd h List.not_mem_nil) dX5_halts_46

set_option maxHeartbeats 4000000 in
set_option maxRecDepth 100000 in
theorem g_X5_weight (l : Launch) (D : va_G) (cI cL cZ cC : ClassId) (g0 : Nat) (ra : Nat) (wa : Nat) (ta : Nat) (ma : Nat) (pa : Nat) (ba : Nat) (ka : Nat) (fa : Nat) (qa : Nat) (ea : Nat) (za : Nat) (ya : Nat) (kpt : Int32) (mkd : Int32) (tpd : Int32) (at0 : Int32) (wel : Int32) (srt : Int32) (wks : Int32) (st : Nat) (nw : Nat → Int32) (a0 : Nat) (t0 : Nat) (hn0 : nw 0 = nI st) (hs1 : 1 ≤ st) (hs7 : st ≤ 7) (ha : a0 ≤ 2) (ht : t0 ≤ 12) : Met l yX5_weight wsX5_weight ({ frames := 0, cells := 0, slots := 0, locals := 0 } : Room) (xPc D [.ref g0, .int (nI a0), .int (nI t0)] [(g0, .inr (5, [.ref ra, .ref wa, .ref ta, .int kpt, .ref ma, .int mkd, .ref pa, .int tpd, .int at0, .int wel, .ref ba, .ref ka, .int srt, .ref fa, .ref qa, .ref ea, .ref za, .ref ya, .int wks])), (wa, .inl (cI, 70, .inl nw))] (xTy cI cL cZ cC)) (vp_Si (fun r : Int32 => r = xWt (fun i => nw (20 + 16 * a0 + i)) t0)) 0 0 (fun _ => False) := by
  refine Met.ofW (cc := cX5_weight) (maxL := 3) (ret := (some .int)) (by decide) rfl ?_
  intro p e s m args below meth c s₁ B hml hv
  obtain ⟨rfl, hP, hK⟩ := hv
  have hx := B.exec
  have hb := B.bytes
  have hr := B.returns
  have hts := atoms_spec (ws := wsX5_weight) B.pre
  have hown : s.vm.findClass RX5 = some m.cls := findClass_of_methodNamed B.named
  have hlocks := B.notSynchronized
  have hwX5 : ∀ w ∈ u_ws RX5 TX5 19, w ∈ wsX5_weight := fun _ h => List.mem_cons_of_mem _ (List.mem_append_right _ h)
  have hl := lv_entry ([.ref g0, .int (nI a0), .int (nI t0)]) (n := 3) (Nat.le_of_ble_eq_true rfl)
  rw [lg_entry_eq]
  generalize (lg_sl ([.ref g0, .int (nI a0), .int (nI t0)]) ++ List.replicate (3 - (lg_sl ([.ref g0, .int (nI a0), .int (nI t0)])).length) Slot.unset).toArray = ls at hl ⊢
  have hl : lv_has ls 3 [(0, .ref g0), (1, .int (nI a0)), (2, .int (nI t0))] := hl
  refine lv_aload_n hx hb dX5_weight_0 rfl (lv_at hl 0 rfl) ?_
  refine va_get (D := D) (ci := 5) (v := .ref wa) (C := RX5) (T := TX5) (N := 19) hx hb hts hwX5 hown hK hP 0 rfl rfl 1 (by decide) (hts (.fieldLink RX5 19 "WaitOrWalkOnModel" "now" "[I") (by decide +kernel)) (fun _ h9 => h9) rfl dX5_weight_1 ?_
  refine lv_bipush (v := 20) hx hb dX5_weight_4 (by decide) ?_
  refine lv_bipush (v := 16) hx hb dX5_weight_6 (by decide) ?_
  refine lv_iload_n hx hb dX5_weight_8 rfl (lv_at hl 1 rfl) ?_
  refine lv_imul hx hb dX5_weight_9 ?_
  refine lv_iadd hx hb dX5_weight_10 ?_
  refine xv_int (y := nI (20 + 16 * a0)) (by rw [show (16 : Int32) = nI 16 from rfl, show (20 : Int32) = nI 20 from rfl, pk_mul, nI_add]) ?_
  refine lv_iload_n hx hb dX5_weight_11 rfl (lv_at hl 2 rfl) ?_
  refine lv_bipush (v := 12) hx hb dX5_weight_12 (by decide) ?_
  refine lv_icmp_ne (tgt := 21) hx hb dX5_weight_14 (by decide) (fun c_1 => ?_) (fun c_1 => ?_)
  · refine lv_iconst (v := 3) hx hb dX5_weight_21 (by decide) ?_
    refine lv_iload_n hx hb dX5_weight_22 rfl (lv_at hl 2 rfl) ?_
    refine lv_iadd hx hb dX5_weight_23 ?_
    refine xv_int (y := nI (3 + t0)) (nI_add 3 t0) ?_
    refine lv_iadd hx hb dX5_weight_24 ?_
    refine xv_int (y := nI (20 + 16 * a0 + (3 + t0))) (nI_add (20 + 16 * a0) (3 + t0)) ?_
    refine va_iald (D := D) hx hb hK hP 1 0 rfl rfl (vp_in_nI (by omega) (by decide)) dX5_weight_25 ?_
    refine xv_int (y := nw (20 + 16 * a0 + (3 + t0))) (by rw [nI_clamp (by omega)]) ?_
    exact W.iret (v := nw (20 + 16 * a0 + (3 + t0))) hx hb hr (fun t ht hW => ⟨_, rfl, (by rw [xWt, if_neg (fun w => c_1 (congrArg nI w))]), ht⟩) (fun _ h => absurd h List.not_mem_nil) dX5_weight_26
  · refine lv_iconst (v := 2) hx hb dX5_weight_17 (by decide) ?_
    refine lv_goto (tgt := 24) hx hb dX5_weight_18 (by decide) ?_
    refine lv_iadd hx hb dX5_weight_24 ?_
    refine xv_int (y := nI (20 + 16 * a0 + 2)) (nI_add (20 + 16 * a0) 2) ?_
    refine va_iald (D := D) hx hb hK hP 1 0 rfl rfl (vp_in_nI (by omega) (by decide)) dX5_weight_25 ?_
    refine xv_int (y := nw (20 + 16 * a0 + 2)) (by rw [nI_clamp (by omega)]) ?_
    exact W.iret (v := nw (20 + 16 * a0 + 2)) hx hb hr (fun t ht hW => ⟨_, rfl, (by rw [xWt, if_pos ((nI_eq (a := t0) (b := 12) (by omega) (by decide)).mp c_1)]), ht⟩) (fun _ h => absurd h List.not_mem_nil) dX5_weight_26

set_option maxHeartbeats 4000000 in
set_option maxRecDepth 100000 in
theorem g_X5_weights (l : Launch) (D : va_G) (cI cL cZ cC : ClassId) (g0 : Nat) (ra : Nat) (wa : Nat) (ta : Nat) (ma : Nat) (pa : Nat) (ba : Nat) (ka : Nat) (fa : Nat) (qa : Nat) (ea : Nat) (za : Nat) (ya : Nat) (kpt : Int32) (mkd : Int32) (tpd : Int32) (at0 : Int32) (wel : Int32) (srt : Int32) (wks : Int32) (st : Nat) (nw : Nat → Int32) (a0 : Nat) (t0 : Nat) (hn0 : nw 0 = nI st) (hs1 : 1 ≤ st) (hs7 : st ≤ 7) (ha : a0 ≤ 2) (ht : t0 ≤ 12) : Met l yX5_weights wsX5_weights ({ frames := 1, cells := 0, slots := 0, locals := 22 } : Room) (xPc D [.ref g0, .int (nI a0), .int (nI t0)] [(g0, .inr (5, [.ref ra, .ref wa, .ref ta, .int kpt, .ref ma, .int mkd, .ref pa, .int tpd, .int at0, .int wel, .ref ba, .ref ka, .int srt, .ref fa, .ref qa, .ref ea, .ref za, .ref ya, .int wks])), (wa, .inl (cI, 70, .inl nw))] (xTy cI cL cZ cC)) (vp_Si (fun r : Int32 => r = xWs (fun i => nw (20 + 16 * a0 + i)) t0)) 0 0 (fun _ => False) := by
  refine Met.ofW (cc := cX5_weights) (maxL := 5) (ret := (some .int)) (by decide) rfl ?_
  intro p e s m args below meth c s₁ B hml hv
  obtain ⟨rfl, hP, hK⟩ := hv
  have hx := B.exec
  have hb := B.bytes
  have hr := B.returns
  have hts := atoms_spec (ws := wsX5_weights) B.pre
  have hown : s.vm.findClass RX5 = some m.cls := findClass_of_methodNamed B.named
  have hlocks := B.notSynchronized
  have hl := lv_entry ([.ref g0, .int (nI a0), .int (nI t0)]) (n := 5) (Nat.le_of_ble_eq_true rfl)
  rw [lg_entry_eq]
  generalize (lg_sl ([.ref g0, .int (nI a0), .int (nI t0)]) ++ List.replicate (5 - (lg_sl ([.ref g0, .int (nI a0), .int (nI t0)])).length) Slot.unset).toArray = ls at hl ⊢
  have hl : lv_has ls 5 [(0, .ref g0), (1, .int (nI a0)), (2, .int (nI t0))] := hl
  refine lv_aload_n hx hb dX5_weights_0 rfl (lv_at hl 0 rfl) ?_
  refine lv_iload_n hx hb dX5_weights_1 rfl (lv_at hl 1 rfl) ?_
  refine lv_bipush (v := 12) hx hb dX5_weights_2 (by decide) ?_
  have hPc := hP.sub (ws' := [(g0, .inr (5, [.ref ra, .ref wa, .ref ta, .int kpt, .ref ma, .int mkd, .ref pa, .int tpd, .int at0, .int wel, .ref ba, .ref ka, .int srt, .ref fa, .ref qa, .ref ea, .ref za, .ref ya, .int wks])), (wa, .inl (cI, 70, .inl nw))]) [0, 1] rfl
  refine vp_callSi (va_Run.run (va_runV (As := [.int (nI a0), .int 12]) (rest := []) ⟨hx, hb, hml, hown, hts⟩ (g_X5_weight l D cI cL cZ cC g0 ra wa ta ma pa ba ka fa qa ea za ya kpt mkd tpd at0 wel srt wks st nw a0 12 (by first | assumption | decide +kernel) (by first | assumption | decide +kernel) (by first | assumption | decide +kernel) (by first | assumption | decide +kernel) (by decide)) (cwV 2 hts gX5_weights_X5_weight rfl rfl rfl (by decide +kernel) ⟨Nat.le_of_ble_eq_true rfl, Nat.le_of_ble_eq_true rfl⟩) ⟨xPc_bl, va_recv hK hPc (ci := 5) (q0 := 0) rfl rfl, xPc_use hPc hK⟩ rfl rfl hl.1 rfl (lv_room (Nat.le_of_ble_eq_true rfl)) dX5_weights_4 ⟨Nat.le_of_ble_eq_true rfl, Nat.le_of_ble_eq_true rfl⟩)) (fun r_1 er_1 => ?_)
  obtain rfl : (xWt (fun i => nw (20 + 16 * a0 + i)) 12 : Int32) = r_1 := Eq.symm er_1
  refine lv_istore_n (lv' := [(3, .int (xWt (fun i => nw (20 + 16 * a0 + i)) 12)), (0, .ref g0), (1, .int (nI a0)), (2, .int (nI t0))]) hx hb dX5_weights_7 rfl hl (by decide) rfl (fun ls hl => ?_)
  refine lv_iload_n hx hb dX5_weights_8 rfl (lv_at hl 3 rfl) ?_
  refine lv_istore (lv' := [(4, .int (nI t0)), (3, .int (xWt (fun i => nw (20 + 16 * a0 + i)) 12)), (0, .ref g0), (1, .int (nI a0)), (2, .int (nI t0))]) hx hb dX5_weights_9 hl (by decide) rfl (fun ls hl => ?_)
  refine xl_loop (σ := Nat) (fun n q ls => lv_has ls 5 [(4, .int (nI (t0 + q))), (3, .int (xAc2 (xWt (fun i => nw (20 + 16 * a0 + i)) 12) (xWt (fun i => nw (20 + 16 * a0 + i))) t0 q)), (0, .ref g0), (1, .int (nI a0)), (2, .int (nI t0))] ∧ (12 - (t0 + q) < n) ∧ (q ≤ 12 - t0)) (13) (0) ⟨lv_sub hl [0, 1, 2, 3, 4] rfl, by (try dsimp only); exact ⟨by omega, by omega⟩⟩ (fun q ls h => absurd h.2.1 (Nat.not_lt_zero _)) ?_
  intro n_11 q_11 ls ih_11 hI_11
  obtain ⟨hl, hI_11⟩ := hI_11
  obtain ⟨k, e_11⟩ : ∃ z, z = q_11 := ⟨_, rfl⟩
  subst e_11
  obtain ⟨h1, h2⟩ := hI_11
  try dsimp only at hl h1 h2
  refine lv_iload hx hb dX5_weights_11 (lv_at hl 0 rfl) ?_
  refine lv_bipush (v := 12) hx hb dX5_weights_13 (by decide) ?_
  refine lv_icmp_ge (tgt := 34) hx hb dX5_weights_15 (by decide) (fun c_2 => ?_) (fun c_2 => ?_)
  · refine lv_iload_n hx hb dX5_weights_34 rfl (lv_at hl 1 rfl) ?_
    exact W.iret (v := xAc2 (xWt (fun i => nw (20 + 16 * a0 + i)) 12) (xWt (fun i => nw (20 + 16 * a0 + i))) t0 k) hx hb hr (fun t ht hW => ⟨_, rfl, (by have w := mt (nI_ltI (a := t0 + k) (b := 12) (by omega) (by omega)).mpr (Int32.not_lt.mpr c_2); exact congrArg (xAc2 _ _ t0) (show k = 12 - t0 by omega)), ht⟩) (fun _ h => absurd h List.not_mem_nil) dX5_weights_35
  · refine lv_iload_n hx hb dX5_weights_18 rfl (lv_at hl 1 rfl) ?_
    refine lv_aload_n hx hb dX5_weights_19 rfl (lv_at hl 2 rfl) ?_
    refine lv_iload_n hx hb dX5_weights_20 rfl (lv_at hl 3 rfl) ?_
    refine lv_iload hx hb dX5_weights_21 (lv_at hl 0 rfl) ?_
    have hPc := hP.sub (ws' := [(g0, .inr (5, [.ref ra, .ref wa, .ref ta, .int kpt, .ref ma, .int mkd, .ref pa, .int tpd, .int at0, .int wel, .ref ba, .ref ka, .int srt, .ref fa, .ref qa, .ref ea, .ref za, .ref ya, .int wks])), (wa, .inl (cI, 70, .inl nw))]) [0, 1] rfl
    refine vp_callSi (va_Run.run (va_runV (As := [.int (nI a0), .int (nI (t0 + k))]) (rest := [.int (xAc2 (xWt (fun i => nw (20 + 16 * a0 + i)) 12) (xWt (fun i => nw (20 + 16 * a0 + i))) t0 k)]) ⟨hx, hb, hml, hown, hts⟩ (g_X5_weight l D cI cL cZ cC g0 ra wa ta ma pa ba ka fa qa ea za ya kpt mkd tpd at0 wel srt wks st nw a0 (t0 + k) (by first | assumption | decide +kernel) (by first | assumption | decide +kernel) (by first | assumption | decide +kernel) (by first | assumption | decide +kernel) (by have w := (nI_ltI (a := t0 + k) (b := 12) (by omega) (by omega)).mp (Int32.not_le.mp c_2); omega)) (cwV 2 hts gX5_weights_X5_weight rfl rfl rfl (by decide +kernel) ⟨Nat.le_of_ble_eq_true rfl, Nat.le_of_ble_eq_true rfl⟩) ⟨xPc_bl, va_recv hK hPc (ci := 5) (q0 := 0) rfl rfl, xPc_use hPc hK⟩ rfl rfl hl.1 rfl (lv_room (Nat.le_of_ble_eq_true rfl)) dX5_weights_23 ⟨Nat.le_of_ble_eq_true rfl, Nat.le_of_ble_eq_true rfl⟩)) (fun r_3 er_3 => ?_)
    obtain rfl : (xWt (fun i => nw (20 + 16 * a0 + i)) (t0 + k) : Int32) = r_3 := Eq.symm er_3
    refine lv_iadd hx hb dX5_weights_26 ?_
    refine xv_int (y := xAc2 (xWt (fun i => nw (20 + 16 * a0 + i)) 12) (xWt (fun i => nw (20 + 16 * a0 + i))) t0 (k + 1)) (rfl) ?_
    refine lv_istore_n (lv' := [(3, .int (xAc2 (xWt (fun i => nw (20 + 16 * a0 + i)) 12) (xWt (fun i => nw (20 + 16 * a0 + i))) t0 (k + 1))), (4, .int (nI (t0 + k))), (0, .ref g0), (1, .int (nI a0)), (2, .int (nI t0))]) hx hb dX5_weights_27 rfl hl (by decide) rfl (fun ls hl => ?_)
    refine lv_iinc (v := nI (t0 + (k + 1))) (lv' := [(4, .int (nI (t0 + (k + 1)))), (3, .int (xAc2 (xWt (fun i => nw (20 + 16 * a0 + i)) 12) (xWt (fun i => nw (20 + 16 * a0 + i))) t0 (k + 1))), (0, .ref g0), (1, .int (nI a0)), (2, .int (nI t0))]) hx hb dX5_weights_28 hl (k := 1) rfl (nI_1 (t0 + k)) (by decide) rfl (fun ls hl => ?_)
    refine lv_goto (tgt := 11) hx hb dX5_weights_31 (by decide) ?_
    have w := (nI_ltI (a := t0 + k) (b := 12) (by omega) (by omega)).mp (Int32.not_le.mp c_2)
    exact ih_11 (k + 1) _ ⟨lv_sub hl [0, 1, 2, 3, 4] rfl, by (try dsimp only); exact ⟨by omega, by omega⟩⟩
