set_option maxHeartbeats 4000000 in
set_option maxRecDepth 100000 in
theorem g_X5_stop (l : Launch) (D : va_G) (cI cL cZ cC : ClassId) (sz : Nat) (g0 : Nat) (ra : Nat) (wa : Nat) (ta : Nat) (ma : Nat) (pa : Nat) (ba : Nat) (ka : Nat) (fa : Nat) (qa : Nat) (ea : Nat) (za : Nat) (ya : Nat) (kpt : Int32) (mkd : Int32) (tpd : Int32) (at0 : Int32) (wel : Int32) (srt : Int32) (wks : Int32) (st : Nat) (nw : Nat → Int32) (ln : Nat) (rf : Nat → Int32) (a1 : Int32) (a2 : Int32) (hn0 : nw 0 = nI st) (hs1 : 1 ≤ st) (hs7 : st ≤ 7) (hn3 : nw 3 = nI ln) (hln : ln ≤ 3) (hq2 : ¬ nw 2 = 0) : Met l yX5_stop wsX5_stop ({ frames := 3, cells := 0, slots := 0, locals := 66 } : Room) (wPc D [.ref g0, .int a1, .int a2] [(g0, .inr (5, [.ref ra, .ref wa, .ref ta, .int kpt, .ref ma, .int mkd, .ref pa, .int tpd, .int at0, .int wel, .ref ba, .ref ka, .int srt, .ref fa, .ref qa, .ref ea, .ref za, .ref ya, .int wks])), (wa, .inl (cI, 70, .inl nw)), (ra, .inl (cI, 7, .inl rf))] (xTy cI cL cZ cC) sz) (va_Qi (fun (r : Int32) (_ : Unit) => r = if q5S st a1 a2 = 0 then v5S st nw a1 a2 else q5S st a1 a2) (fun (_ : Unit) t => va_P D vwCl [(g0, .inr (5, [.ref ra, .ref wa, .ref ta, .int kpt, .ref ma, .int mkd, .ref pa, .int tpd, .int at0, .int wel, .ref ba, .ref ka, .int srt, .ref fa, .ref qa, .ref ea, .ref za, .ref ya, .int wks])), (wa, .inl (cI, 70, .inl nw)), (ra, .inl (cI, 7, .inl (xRq rf (q5S st a1 a2))))] t.heap ∧ va_D (va_A [(g0, .inr (5, [.ref ra, .ref wa, .ref ta, .int kpt, .ref ma, .int mkd, .ref pa, .int tpd, .int at0, .int wel, .ref ba, .ref ka, .int srt, .ref fa, .ref qa, .ref ea, .ref za, .ref ya, .int wks])), (wa, .inl (cI, 70, .inl nw)), (ra, .inl (cI, 7, .inl rf))] sz) [(g0, .inr (5, [.ref ra, .ref wa, .ref ta, .int kpt, .ref ma, .int mkd, .ref pa, .int tpd, .int at0, .int wel, .ref ba, .ref ka, .int srt, .ref fa, .ref qa, .ref ea, .ref za, .ref ya, .int wks])), (wa, .inl (cI, 70, .inl nw)), (ra, .inl (cI, 7, .inl (xRq rf (q5S st a1 a2))))]) (va_A [(g0, .inr (5, [.ref ra, .ref wa, .ref ta, .int kpt, .ref ma, .int mkd, .ref pa, .int tpd, .int at0, .int wel, .ref ba, .ref ka, .int srt, .ref fa, .ref qa, .ref ea, .ref za, .ref ya, .int wks])), (wa, .inl (cI, 70, .inl nw)), (ra, .inl (cI, 7, .inl rf))] sz)) 0 0 (va_A [(g0, .inr (5, [.ref ra, .ref wa, .ref ta, .int kpt, .ref ma, .int mkd, .ref pa, .int tpd, .int at0, .int wel, .ref ba, .ref ka, .int srt, .ref fa, .ref qa, .ref ea, .ref za, .ref ya, .int wks])), (wa, .inl (cI, 70, .inl nw)), (ra, .inl (cI, 7, .inl rf))] sz) := by
  refine Met.ofW (cc := cX5_stop) (maxL := 3) (ret := (some .int)) (by decide) rfl ?_
  intro p e s m args below meth c s₁ B hml hv
  obtain ⟨rfl, hsz, hP, hK, hD0⟩ := hv
  have hx := B.exec
  have hb := B.bytes
  have hr := B.returns
  have hts := atoms_spec (ws := wsX5_stop) B.pre
  have hown : s.vm.findClass RX5 = some m.cls := findClass_of_methodNamed B.named
  have hlocks := B.notSynchronized
  have hwX5 : ∀ w ∈ u_ws RX5 TX5 19, w ∈ wsX5_stop := fun _ h => List.mem_cons_of_mem _ (List.mem_append_right _ h)
  subst hsz
  have hD := hD0.self (sz := s.heap.size)
  generalize hAe : va_A [(g0, .inr (5, [.ref ra, .ref wa, .ref ta, .int kpt, .ref ma, .int mkd, .ref pa, .int tpd, .int at0, .int wel, .ref ba, .ref ka, .int srt, .ref fa, .ref qa, .ref ea, .ref za, .ref ya, .int wks])), (wa, .inl (cI, 70, .inl nw)), (ra, .inl (cI, 7, .inl rf))] s.heap.size = A at hD ⊢
  have hA : ∀ q : Nat, s.heap.size ≤ q → A q := fun q h => by rw [← hAe]; exact Or.inr h
  have hS : va_S A s.heap s.heap [] := va_S.rf
  have hP : va_P D vwCl [(g0, .inr (5, [.ref ra, .ref wa, .ref ta, .int kpt, .ref ma, .int mkd, .ref pa, .int tpd, .int at0, .int wel, .ref ba, .ref ka, .int srt, .ref fa, .ref qa, .ref ea, .ref za, .ref ya, .int wks])), (wa, .inl (cI, 70, .inl nw)), (ra, .inl (cI, 7, .inl rf))] s.heap := hP
  have hl := lv_entry ([.ref g0, .int a1, .int a2]) (n := 3) (Nat.le_of_ble_eq_true rfl)
  rw [lg_entry_eq]
  generalize (lg_sl ([.ref g0, .int a1, .int a2]) ++ List.replicate (3 - (lg_sl ([.ref g0, .int a1, .int a2])).length) Slot.unset).toArray = ls at hl ⊢
  have hl : lv_has ls 3 [(0, .ref g0), (1, .int a1), (2, .int a2)] := hl
  by_cases h_1 : ¬ sNL st a1 = 0
  · refine lv_aload_n hx hb dX5_stop_0 rfl (lv_at hl 0 rfl) ?_
    refine lv_iload_n hx hb dX5_stop_1 rfl (lv_at hl 1 rfl) ?_
    have hPc := hP.sub (ws' := [(g0, .inr (5, [.ref ra, .ref wa, .ref ta, .int kpt, .ref ma, .int mkd, .ref pa, .int tpd, .int at0, .int wel, .ref ba, .ref ka, .int srt, .ref fa, .ref qa, .ref ea, .ref za, .ref ya, .int wks])), (wa, .inl (cI, 70, .inl nw))]) [0, 1] rfl
    refine vp_callSi (va_Run.run (va_runV (As := [.int a1]) (rest := []) ⟨hx, hb, hml, hown, hts⟩ (g_X5_isNoStop l D cI cL cZ cC g0 ra wa ta ma pa ba ka fa qa ea za ya kpt mkd tpd at0 wel srt wks st nw a1 (by first | assumption | decide +kernel) (by first | assumption | decide +kernel) (by first | assumption | decide +kernel)) (cwV 1 hts gX5_stop_X5_isNoStop rfl rfl rfl (by decide +kernel) ⟨Nat.le_of_ble_eq_true rfl, Nat.le_of_ble_eq_true rfl⟩) ⟨xPc_bl, va_recv hK hPc (ci := 5) (q0 := 0) rfl rfl, xPc_use hPc hK⟩ rfl rfl hl.1 rfl (lv_room (Nat.le_of_ble_eq_true rfl)) dX5_stop_2 ⟨Nat.le_of_ble_eq_true rfl, Nat.le_of_ble_eq_true rfl⟩)) (fun r_1 er_1 => ?_)
    obtain rfl : (sNL st a1 : Int32) = r_1 := Eq.symm er_1
    refine xv_int (y := 1) (sNL_bad h_1) ?_
    refine lv_if_eq (tgt := 14) hx hb dX5_stop_5 (by decide) (fun c_2 => absurd c_2 (by decide +kernel)) (fun c_2 => ?_)
    refine lv_aload_n hx hb dX5_stop_8 rfl (lv_at hl 0 rfl) ?_
    refine lv_iconst (v := -1) hx hb dX5_stop_9 (by decide) ?_
    have hPc := hP.sub (ws' := [(g0, .inr (5, [.ref ra, .ref wa, .ref ta, .int kpt, .ref ma, .int mkd, .ref pa, .int tpd, .int at0, .int wel, .ref ba, .ref ka, .int srt, .ref fa, .ref qa, .ref ea, .ref za, .ref ya, .int wks])), (ra, .inl (cI, 7, .inl rf))]) [0, 2] rfl
    have hDc := hD.sub (ws' := [(g0, .inr (5, [.ref ra, .ref wa, .ref ta, .int kpt, .ref ma, .int mkd, .ref pa, .int tpd, .int at0, .int wel, .ref ba, .ref ka, .int srt, .ref fa, .ref qa, .ref ea, .ref za, .ref ya, .int wks])), (ra, .inl (cI, 7, .inl rf))]) [0, 2] (by decide) rfl
    have hFc := va_free (wc := [(g0, .inr (5, [.ref ra, .ref wa, .ref ta, .int kpt, .ref ma, .int mkd, .ref pa, .int tpd, .int at0, .int wel, .ref ba, .ref ka, .int srt, .ref fa, .ref qa, .ref ea, .ref za, .ref ya, .int wks])), (ra, .inl (cI, 7, .inl rf))]) hD hS hA [0, 2] rfl
    refine va_calli (va_runV (As := [.int (-1)]) (rest := []) ⟨hx, hb, hml, hown, hts⟩ (g_X5_no l D cI cL cZ cC _ g0 ra wa ta ma pa ba ka fa qa ea za ya kpt mkd tpd at0 wel srt wks rf (-1) (by first | assumption | decide +kernel) (by first | assumption | decide +kernel)) (cwV 1 hts gX5_stop_X5_no rfl rfl rfl (by decide +kernel) ⟨Nat.le_of_ble_eq_true rfl, Nat.le_of_ble_eq_true rfl⟩) ⟨wPc_bl, va_recv hK hPc (ci := 5) (q0 := 0) rfl rfl, wPc_use hPc hK hDc⟩ rfl rfl hl.1 rfl (lv_room (Nat.le_of_ble_eq_true rfl)) dX5_stop_10 ⟨Nat.le_of_ble_eq_true rfl, Nat.le_of_ble_eq_true rfl⟩) hS (fun q _ h => hFc q h) hFc (fun r_3 u_3 t H1 locs ht hvm hw hB hz1 hk1 hS => ?_)
    obtain ⟨hP1, hD1⟩ := hB
    rw [ht] at hP1
    obtain ⟨hP, hD⟩ := va_join (wr := [(wa, .inl (cI, 70, .inl nw))]) (w1 := [(g0, .inr (5, [.ref ra, .ref wa, .ref ta, .int kpt, .ref ma, .int mkd, .ref pa, .int tpd, .int at0, .int wel, .ref ba, .ref ka, .int srt, .ref fa, .ref qa, .ref ea, .ref za, .ref ya, .int wks])), (ra, .inl (cI, 7, .inl (xRf rf (-1))))]) hP hD [0, 2] [1] rfl rfl (by decide) (by decide) hk1 hFc hP1 hD1
    generalize H1 = H at hP hS ⊢
    have hP : va_P D vwCl [(wa, .inl (cI, 70, .inl nw)), (g0, .inr (5, [.ref ra, .ref wa, .ref ta, .int kpt, .ref ma, .int mkd, .ref pa, .int tpd, .int at0, .int wel, .ref ba, .ref ka, .int srt, .ref fa, .ref qa, .ref ea, .ref za, .ref ya, .int wks])), (ra, .inl (cI, 7, .inl (xRf rf (-1))))] H := hP
    have hD : va_D A [(wa, .inl (cI, 70, .inl nw)), (g0, .inr (5, [.ref ra, .ref wa, .ref ta, .int kpt, .ref ma, .int mkd, .ref pa, .int tpd, .int at0, .int wel, .ref ba, .ref ka, .int srt, .ref fa, .ref qa, .ref ea, .ref za, .ref ya, .int wks])), (ra, .inl (cI, 7, .inl (xRf rf (-1))))] := hD
    obtain rfl : ((-1) : Int32) = r_3 := Eq.symm hw
    have hP9 := hP.sub (ws' := [(g0, .inr (5, [.ref ra, .ref wa, .ref ta, .int kpt, .ref ma, .int mkd, .ref pa, .int tpd, .int at0, .int wel, .ref ba, .ref ka, .int srt, .ref fa, .ref qa, .ref ea, .ref za, .ref ya, .int wks])), (wa, .inl (cI, 70, .inl nw)), (ra, .inl (cI, 7, .inl (xRf rf (-1))))]) [1, 0, 2] rfl
    have hD9 := hD.sub (ws' := [(g0, .inr (5, [.ref ra, .ref wa, .ref ta, .int kpt, .ref ma, .int mkd, .ref pa, .int tpd, .int at0, .int wel, .ref ba, .ref ka, .int srt, .ref fa, .ref qa, .ref ea, .ref za, .ref ya, .int wks])), (wa, .inl (cI, 70, .inl nw)), (ra, .inl (cI, 7, .inl (xRf rf (-1))))]) [1, 0, 2] (by decide) rfl
    have hE9 : ([(g0, .inr (5, [.ref ra, .ref wa, .ref ta, .int kpt, .ref ma, .int mkd, .ref pa, .int tpd, .int at0, .int wel, .ref ba, .ref ka, .int srt, .ref fa, .ref qa, .ref ea, .ref za, .ref ya, .int wks])), (wa, .inl (cI, 70, .inl nw)), (ra, .inl (cI, 7, .inl (xRf rf (-1))))] : va_W) = [(g0, .inr (5, [.ref ra, .ref wa, .ref ta, .int kpt, .ref ma, .int mkd, .ref pa, .int tpd, .int at0, .int wel, .ref ba, .ref ka, .int srt, .ref fa, .ref qa, .ref ea, .ref za, .ref ya, .int wks])), (wa, .inl (cI, 70, .inl nw)), (ra, .inl (cI, 7, .inl (xRq rf (q5S st a1 a2))))] := by simp [xRq, q5S, v5S, h_1, c_2]
    exact W.iret (v := -1) hx hb hr (fun t ht hW => ⟨⟨_, (), rfl, by simp [q5S, v5S, h_1, c_2], by rw [ht]; exact hE9 ▸ hP9, hE9 ▸ hD9⟩, hS.F ht⟩) hS.2.2 dX5_stop_13
  obtain ⟨j0, rfl, hj0⟩ := sNL_ok (by omega) h_1
  have h_0 := Classical.not_not.mp h_1
  refine lv_aload_n hx hb dX5_stop_0 rfl (lv_at hl 0 rfl) ?_
  refine lv_iload_n hx hb dX5_stop_1 rfl (lv_at hl 1 rfl) ?_
  have hPc := hP.sub (ws' := [(g0, .inr (5, [.ref ra, .ref wa, .ref ta, .int kpt, .ref ma, .int mkd, .ref pa, .int tpd, .int at0, .int wel, .ref ba, .ref ka, .int srt, .ref fa, .ref qa, .ref ea, .ref za, .ref ya, .int wks])), (wa, .inl (cI, 70, .inl nw))]) [0, 1] rfl
  refine vp_callSi (va_Run.run (va_runV (As := [.int (nI j0)]) (rest := []) ⟨hx, hb, hml, hown, hts⟩ (g_X5_isNoStop l D cI cL cZ cC g0 ra wa ta ma pa ba ka fa qa ea za ya kpt mkd tpd at0 wel srt wks st nw (nI j0) (by first | assumption | decide +kernel) (by first | assumption | decide +kernel) (by first | assumption | decide +kernel)) (cwV 1 hts gX5_stop_X5_isNoStop rfl rfl rfl (by decide +kernel) ⟨Nat.le_of_ble_eq_true rfl, Nat.le_of_ble_eq_true rfl⟩) ⟨xPc_bl, va_recv hK hPc (ci := 5) (q0 := 0) rfl rfl, xPc_use hPc hK⟩ rfl rfl hl.1 rfl (lv_room (Nat.le_of_ble_eq_true rfl)) dX5_stop_2 ⟨Nat.le_of_ble_eq_true rfl, Nat.le_of_ble_eq_true rfl⟩)) (fun r_4 er_4 => ?_)
  obtain rfl : (sNL st (nI j0) : Int32) = r_4 := Eq.symm er_4
  refine xv_int (y := 0) (h_0) ?_
  refine lv_if_eq (tgt := 14) hx hb dX5_stop_5 (by decide) (fun c_5 => ?_) (fun c_5 => absurd c_5 (by decide +kernel))
  refine lv_iload_n hx hb dX5_stop_14 rfl (lv_at hl 2 rfl) ?_
  refine lv_if_lt (tgt := 23) hx hb dX5_stop_15 (by decide) (fun c_6 => ?_) (fun c_6 => ?_)
  · refine lv_aload_n hx hb dX5_stop_23 rfl (lv_at hl 0 rfl) ?_
    refine lv_bipush (v := -2) hx hb dX5_stop_24 (by decide) ?_
    have hPc := hP.sub (ws' := [(g0, .inr (5, [.ref ra, .ref wa, .ref ta, .int kpt, .ref ma, .int mkd, .ref pa, .int tpd, .int at0, .int wel, .ref ba, .ref ka, .int srt, .ref fa, .ref qa, .ref ea, .ref za, .ref ya, .int wks])), (ra, .inl (cI, 7, .inl rf))]) [0, 2] rfl
    have hDc := hD.sub (ws' := [(g0, .inr (5, [.ref ra, .ref wa, .ref ta, .int kpt, .ref ma, .int mkd, .ref pa, .int tpd, .int at0, .int wel, .ref ba, .ref ka, .int srt, .ref fa, .ref qa, .ref ea, .ref za, .ref ya, .int wks])), (ra, .inl (cI, 7, .inl rf))]) [0, 2] (by decide) rfl
    have hFc := va_free (wc := [(g0, .inr (5, [.ref ra, .ref wa, .ref ta, .int kpt, .ref ma, .int mkd, .ref pa, .int tpd, .int at0, .int wel, .ref ba, .ref ka, .int srt, .ref fa, .ref qa, .ref ea, .ref za, .ref ya, .int wks])), (ra, .inl (cI, 7, .inl rf))]) hD hS hA [0, 2] rfl
    refine va_calli (va_runV (As := [.int (-2)]) (rest := []) ⟨hx, hb, hml, hown, hts⟩ (g_X5_no l D cI cL cZ cC _ g0 ra wa ta ma pa ba ka fa qa ea za ya kpt mkd tpd at0 wel srt wks rf (-2) (by first | assumption | decide +kernel) (by first | assumption | decide +kernel)) (cwV 1 hts gX5_stop_X5_no rfl rfl rfl (by decide +kernel) ⟨Nat.le_of_ble_eq_true rfl, Nat.le_of_ble_eq_true rfl⟩) ⟨wPc_bl, va_recv hK hPc (ci := 5) (q0 := 0) rfl rfl, wPc_use hPc hK hDc⟩ rfl rfl hl.1 rfl (lv_room (Nat.le_of_ble_eq_true rfl)) dX5_stop_26 ⟨Nat.le_of_ble_eq_true rfl, Nat.le_of_ble_eq_true rfl⟩) hS (fun q _ h => hFc q h) hFc (fun r_7 u_7 t H1 locs ht hvm hw hB hz1 hk1 hS => ?_)
    obtain ⟨hP1, hD1⟩ := hB
    rw [ht] at hP1
    obtain ⟨hP, hD⟩ := va_join (wr := [(wa, .inl (cI, 70, .inl nw))]) (w1 := [(g0, .inr (5, [.ref ra, .ref wa, .ref ta, .int kpt, .ref ma, .int mkd, .ref pa, .int tpd, .int at0, .int wel, .ref ba, .ref ka, .int srt, .ref fa, .ref qa, .ref ea, .ref za, .ref ya, .int wks])), (ra, .inl (cI, 7, .inl (xRf rf (-2))))]) hP hD [0, 2] [1] rfl rfl (by decide) (by decide) hk1 hFc hP1 hD1
    generalize H1 = H at hP hS ⊢
    have hP : va_P D vwCl [(wa, .inl (cI, 70, .inl nw)), (g0, .inr (5, [.ref ra, .ref wa, .ref ta, .int kpt, .ref ma, .int mkd, .ref pa, .int tpd, .int at0, .int wel, .ref ba, .ref ka, .int srt, .ref fa, .ref qa, .ref ea, .ref za, .ref ya, .int wks])), (ra, .inl (cI, 7, .inl (xRf rf (-2))))] H := hP
    have hD : va_D A [(wa, .inl (cI, 70, .inl nw)), (g0, .inr (5, [.ref ra, .ref wa, .ref ta, .int kpt, .ref ma, .int mkd, .ref pa, .int tpd, .int at0, .int wel, .ref ba, .ref ka, .int srt, .ref fa, .ref qa, .ref ea, .ref za, .ref ya, .int wks])), (ra, .inl (cI, 7, .inl (xRf rf (-2))))] := hD
    obtain rfl : ((-2) : Int32) = r_7 := Eq.symm hw
    have hP9 := hP.sub (ws' := [(g0, .inr (5, [.ref ra, .ref wa, .ref ta, .int kpt, .ref ma, .int mkd, .ref pa, .int tpd, .int at0, .int wel, .ref ba, .ref ka, .int srt, .ref fa, .ref qa, .ref ea, .ref za, .ref ya, .int wks])), (wa, .inl (cI, 70, .inl nw)), (ra, .inl (cI, 7, .inl (xRf rf (-2))))]) [1, 0, 2] rfl
    have hD9 := hD.sub (ws' := [(g0, .inr (5, [.ref ra, .ref wa, .ref ta, .int kpt, .ref ma, .int mkd, .ref pa, .int tpd, .int at0, .int wel, .ref ba, .ref ka, .int srt, .ref fa, .ref qa, .ref ea, .ref za, .ref ya, .int wks])), (wa, .inl (cI, 70, .inl nw)), (ra, .inl (cI, 7, .inl (xRf rf (-2))))]) [1, 0, 2] (by decide) rfl
    have hE9 : ([(g0, .inr (5, [.ref ra, .ref wa, .ref ta, .int kpt, .ref ma, .int mkd, .ref pa, .int tpd, .int at0, .int wel, .ref ba, .ref ka, .int srt, .ref fa, .ref qa, .ref ea, .ref za, .ref ya, .int wks])), (wa, .inl (cI, 70, .inl nw)), (ra, .inl (cI, 7, .inl (xRf rf (-2))))] : va_W) = [(g0, .inr (5, [.ref ra, .ref wa, .ref ta, .int kpt, .ref ma, .int mkd, .ref pa, .int tpd, .int at0, .int wel, .ref ba, .ref ka, .int srt, .ref fa, .ref qa, .ref ea, .ref za, .ref ya, .int wks])), (wa, .inl (cI, 70, .inl nw)), (ra, .inl (cI, 7, .inl (xRq rf (q5S st (nI j0) a2))))] := by simp [xRq, q5S, v5S, h_0, c_5, c_6]
    exact W.iret (v := -2) hx hb hr (fun t ht hW => ⟨⟨_, (), rfl, by simp [q5S, v5S, h_0, c_5, c_6, nI_clamp (show j0 < 2 ^ 31 by omega)], by rw [ht]; exact hE9 ▸ hP9, hE9 ▸ hD9⟩, hS.F ht⟩) hS.2.2 dX5_stop_29
  · refine lv_iload_n hx hb dX5_stop_18 rfl (lv_at hl 2 rfl) ?_
    refine lv_iconst (v := 2) hx hb dX5_stop_19 (by decide) ?_
    refine lv_icmp_le (tgt := 30) hx hb dX5_stop_20 (by decide) (fun c_8 => ?_) (fun c_8 => ?_)
    · refine lv_iload_n hx hb dX5_stop_30 rfl (lv_at hl 2 rfl) ?_
      refine lv_if_ne (tgt := 46) hx hb dX5_stop_31 (by decide) (fun c_9 => ?_) (fun c_9 => ?_)
      · refine lv_iload_n hx hb dX5_stop_46 rfl (lv_at hl 2 rfl) ?_
        refine lv_iconst (v := 1) hx hb dX5_stop_47 (by decide) ?_
        refine lv_icmp_ne (tgt := 65) hx hb dX5_stop_48 (by decide) (fun c_10 => ?_) (fun c_10 => ?_)
        · refine lv_aload_n hx hb dX5_stop_65 rfl (lv_at hl 0 rfl) ?_
          refine lv_iload_n hx hb dX5_stop_66 rfl (lv_at hl 1 rfl) ?_
          have hPc := hP.sub (ws' := [(g0, .inr (5, [.ref ra, .ref wa, .ref ta, .int kpt, .ref ma, .int mkd, .ref pa, .int tpd, .int at0, .int wel, .ref ba, .ref ka, .int srt, .ref fa, .ref qa, .ref ea, .ref za, .ref ya, .int wks])), (wa, .inl (cI, 70, .inl nw))]) [0, 1] rfl
          refine vp_callSi (va_Run.run (va_runV (As := [.int (nI j0)]) (rest := []) ⟨hx, hb, hml, hown, hts⟩ (g_X5_rest l D cI cL cZ cC g0 ra wa ta ma pa ba ka fa qa ea za ya kpt mkd tpd at0 wel srt wks st nw j0 (by first | assumption | decide +kernel) (by first | assumption | decide +kernel) (by first | assumption | decide +kernel) (by omega) (hq2)) (cwV 1 hts gX5_stop_X5_rest rfl rfl rfl (by decide +kernel) ⟨Nat.le_of_ble_eq_true rfl, Nat.le_of_ble_eq_true rfl⟩) ⟨xPc_bl, va_recv hK hPc (ci := 5) (q0 := 0) rfl rfl, xPc_use hPc hK⟩ rfl rfl hl.1 rfl (lv_room (Nat.le_of_ble_eq_true rfl)) dX5_stop_67 ⟨Nat.le_of_ble_eq_true rfl, Nat.le_of_ble_eq_true rfl⟩)) (fun r_11 er_11 => ?_)
          obtain rfl : (xRs nw st j0 : Int32) = r_11 := Eq.symm er_11
          have hP9 := hP.sub (ws' := [(g0, .inr (5, [.ref ra, .ref wa, .ref ta, .int kpt, .ref ma, .int mkd, .ref pa, .int tpd, .int at0, .int wel, .ref ba, .ref ka, .int srt, .ref fa, .ref qa, .ref ea, .ref za, .ref ya, .int wks])), (wa, .inl (cI, 70, .inl nw)), (ra, .inl (cI, 7, .inl rf))]) [0, 1, 2] rfl
          have hD9 := hD.sub (ws' := [(g0, .inr (5, [.ref ra, .ref wa, .ref ta, .int kpt, .ref ma, .int mkd, .ref pa, .int tpd, .int at0, .int wel, .ref ba, .ref ka, .int srt, .ref fa, .ref qa, .ref ea, .ref za, .ref ya, .int wks])), (wa, .inl (cI, 70, .inl nw)), (ra, .inl (cI, 7, .inl rf))]) [0, 1, 2] (by decide) rfl
          have hE9 : ([(g0, .inr (5, [.ref ra, .ref wa, .ref ta, .int kpt, .ref ma, .int mkd, .ref pa, .int tpd, .int at0, .int wel, .ref ba, .ref ka, .int srt, .ref fa, .ref qa, .ref ea, .ref za, .ref ya, .int wks])), (wa, .inl (cI, 70, .inl nw)), (ra, .inl (cI, 7, .inl rf))] : va_W) = [(g0, .inr (5, [.ref ra, .ref wa, .ref ta, .int kpt, .ref ma, .int mkd, .ref pa, .int tpd, .int at0, .int wel, .ref ba, .ref ka, .int srt, .ref fa, .ref qa, .ref ea, .ref za, .ref ya, .int wks])), (wa, .inl (cI, 70, .inl nw)), (ra, .inl (cI, 7, .inl (xRq rf (q5S st (nI j0) a2))))] := by simp [xRq, q5S, v5S, h_0, c_5, c_6, (Int32.not_lt.mpr c_8), c_9, c_10]
          exact W.iret (v := xRs nw st j0) hx hb hr (fun t ht hW => ⟨⟨_, (), rfl, by simp [q5S, v5S, h_0, c_5, c_6, (Int32.not_lt.mpr c_8), c_9, c_10, nI_clamp (show j0 < 2 ^ 31 by omega)], by rw [ht]; exact hE9 ▸ hP9, hE9 ▸ hD9⟩, hS.F ht⟩) hS.2.2 dX5_stop_70
        · refine lv_aload_n hx hb dX5_stop_51 rfl (lv_at hl 0 rfl) ?_
          refine lv_iconst (v := 0) hx hb dX5_stop_52 (by decide) ?_
          have hPc := hP.sub (ws' := [(g0, .inr (5, [.ref ra, .ref wa, .ref ta, .int kpt, .ref ma, .int mkd, .ref pa, .int tpd, .int at0, .int wel, .ref ba, .ref ka, .int srt, .ref fa, .ref qa, .ref ea, .ref za, .ref ya, .int wks])), (wa, .inl (cI, 70, .inl nw))]) [0, 1] rfl
          refine vp_callSi (va_Run.run (va_runV (As := [.int 0]) (rest := []) ⟨hx, hb, hml, hown, hts⟩ (g_X5_rest l D cI cL cZ cC g0 ra wa ta ma pa ba ka fa qa ea za ya kpt mkd tpd at0 wel srt wks st nw 0 (by first | assumption | decide +kernel) (by first | assumption | decide +kernel) (by first | assumption | decide +kernel) (by omega) (hq2)) (cwV 1 hts gX5_stop_X5_rest rfl rfl rfl (by decide +kernel) ⟨Nat.le_of_ble_eq_true rfl, Nat.le_of_ble_eq_true rfl⟩) ⟨xPc_bl, va_recv hK hPc (ci := 5) (q0 := 0) rfl rfl, xPc_use hPc hK⟩ rfl rfl hl.1 rfl (lv_room (Nat.le_of_ble_eq_true rfl)) dX5_stop_53 ⟨Nat.le_of_ble_eq_true rfl, Nat.le_of_ble_eq_true rfl⟩)) (fun r_12 er_12 => ?_)
          obtain rfl : (xRs nw st 0 : Int32) = r_12 := Eq.symm er_12
          refine lv_aload_n hx hb dX5_stop_56 rfl (lv_at hl 0 rfl) ?_
          refine lv_iload_n hx hb dX5_stop_57 rfl (lv_at hl 1 rfl) ?_
          have hPc := hP.sub (ws' := [(g0, .inr (5, [.ref ra, .ref wa, .ref ta, .int kpt, .ref ma, .int mkd, .ref pa, .int tpd, .int at0, .int wel, .ref ba, .ref ka, .int srt, .ref fa, .ref qa, .ref ea, .ref za, .ref ya, .int wks])), (wa, .inl (cI, 70, .inl nw))]) [0, 1] rfl
          refine vp_callSi (va_Run.run (va_runV (As := [.int (nI j0)]) (rest := [.int (xRs nw st 0)]) ⟨hx, hb, hml, hown, hts⟩ (g_X5_rest l D cI cL cZ cC g0 ra wa ta ma pa ba ka fa qa ea za ya kpt mkd tpd at0 wel srt wks st nw j0 (by first | assumption | decide +kernel) (by first | assumption | decide +kernel) (by first | assumption | decide +kernel) (by omega) (hq2)) (cwV 1 hts gX5_stop_X5_rest rfl rfl rfl (by decide +kernel) ⟨Nat.le_of_ble_eq_true rfl, Nat.le_of_ble_eq_true rfl⟩) ⟨xPc_bl, va_recv hK hPc (ci := 5) (q0 := 0) rfl rfl, xPc_use hPc hK⟩ rfl rfl hl.1 rfl (lv_room (Nat.le_of_ble_eq_true rfl)) dX5_stop_58 ⟨Nat.le_of_ble_eq_true rfl, Nat.le_of_ble_eq_true rfl⟩)) (fun r_13 er_13 => ?_)
          obtain rfl : (xRs nw st j0 : Int32) = r_13 := Eq.symm er_13
          refine lv_isub hx hb dX5_stop_61 ?_
          refine lv_goto (tgt := 70) hx hb dX5_stop_62 (by decide) ?_
          have hP9 := hP.sub (ws' := [(g0, .inr (5, [.ref ra, .ref wa, .ref ta, .int kpt, .ref ma, .int mkd, .ref pa, .int tpd, .int at0, .int wel, .ref ba, .ref ka, .int srt, .ref fa, .ref qa, .ref ea, .ref za, .ref ya, .int wks])), (wa, .inl (cI, 70, .inl nw)), (ra, .inl (cI, 7, .inl rf))]) [0, 1, 2] rfl
          have hD9 := hD.sub (ws' := [(g0, .inr (5, [.ref ra, .ref wa, .ref ta, .int kpt, .ref ma, .int mkd, .ref pa, .int tpd, .int at0, .int wel, .ref ba, .ref ka, .int srt, .ref fa, .ref qa, .ref ea, .ref za, .ref ya, .int wks])), (wa, .inl (cI, 70, .inl nw)), (ra, .inl (cI, 7, .inl rf))]) [0, 1, 2] (by decide) rfl
          have hE9 : ([(g0, .inr (5, [.ref ra, .ref wa, .ref ta, .int kpt, .ref ma, .int mkd, .ref pa, .int tpd, .int at0, .int wel, .ref ba, .ref ka, .int srt, .ref fa, .ref qa, .ref ea, .ref za, .ref ya, .int wks])), (wa, .inl (cI, 70, .inl nw)), (ra, .inl (cI, 7, .inl rf))] : va_W) = [(g0, .inr (5, [.ref ra, .ref wa, .ref ta, .int kpt, .ref ma, .int mkd, .ref pa, .int tpd, .int at0, .int wel, .ref ba, .ref ka, .int srt, .ref fa, .ref qa, .ref ea, .ref za, .ref ya, .int wks])), (wa, .inl (cI, 70, .inl nw)), (ra, .inl (cI, 7, .inl (xRq rf (q5S st (nI j0) a2))))] := by simp [xRq, q5S, v5S, h_0, c_5, c_6, (Int32.not_lt.mpr c_8), c_9, c_10]
          exact W.iret (v := (xRs nw st 0) - (xRs nw st j0)) hx hb hr (fun t ht hW => ⟨⟨_, (), rfl, by simp [q5S, v5S, h_0, c_5, c_6, (Int32.not_lt.mpr c_8), c_9, c_10, nI_clamp (show j0 < 2 ^ 31 by omega)], by rw [ht]; exact hE9 ▸ hP9, hE9 ▸ hD9⟩, hS.F ht⟩) hS.2.2 dX5_stop_70
      · refine lv_aload_n hx hb dX5_stop_34 rfl (lv_at hl 0 rfl) ?_
        refine va_get (D := D) (ci := 5) (v := .ref wa) (C := RX5) (T := TX5) (N := 19) hx hb hts hwX5 hown hK hP 0 rfl rfl 1 (by decide) (hts (.fieldLink RX5 19 "WaitOrWalkOnModel" "now" "[I") (by decide +kernel)) (fun _ h9 => h9) rfl dX5_stop_35 ?_
        refine lv_bipush (v := 10) hx hb dX5_stop_38 (by decide) ?_
        refine lv_iload_n hx hb dX5_stop_40 rfl (lv_at hl 1 rfl) ?_
        refine lv_iadd hx hb dX5_stop_41 ?_
        refine xv_int (y := nI (10 + j0)) (nI_add 10 j0) ?_
        refine va_iald (D := D) hx hb hK hP 1 0 rfl rfl (vp_in_nI (by omega) (by decide)) dX5_stop_42 ?_
        refine xv_int (y := nw (10 + j0)) (congrArg nw (nI_clamp (by omega))) ?_
        refine lv_goto (tgt := 70) hx hb dX5_stop_43 (by decide) ?_
        have hP9 := hP.sub (ws' := [(g0, .inr (5, [.ref ra, .ref wa, .ref ta, .int kpt, .ref ma, .int mkd, .ref pa, .int tpd, .int at0, .int wel, .ref ba, .ref ka, .int srt, .ref fa, .ref qa, .ref ea, .ref za, .ref ya, .int wks])), (wa, .inl (cI, 70, .inl nw)), (ra, .inl (cI, 7, .inl rf))]) [0, 1, 2] rfl
        have hD9 := hD.sub (ws' := [(g0, .inr (5, [.ref ra, .ref wa, .ref ta, .int kpt, .ref ma, .int mkd, .ref pa, .int tpd, .int at0, .int wel, .ref ba, .ref ka, .int srt, .ref fa, .ref qa, .ref ea, .ref za, .ref ya, .int wks])), (wa, .inl (cI, 70, .inl nw)), (ra, .inl (cI, 7, .inl rf))]) [0, 1, 2] (by decide) rfl
        have hE9 : ([(g0, .inr (5, [.ref ra, .ref wa, .ref ta, .int kpt, .ref ma, .int mkd, .ref pa, .int tpd, .int at0, .int wel, .ref ba, .ref ka, .int srt, .ref fa, .ref qa, .ref ea, .ref za, .ref ya, .int wks])), (wa, .inl (cI, 70, .inl nw)), (ra, .inl (cI, 7, .inl rf))] : va_W) = [(g0, .inr (5, [.ref ra, .ref wa, .ref ta, .int kpt, .ref ma, .int mkd, .ref pa, .int tpd, .int at0, .int wel, .ref ba, .ref ka, .int srt, .ref fa, .ref qa, .ref ea, .ref za, .ref ya, .int wks])), (wa, .inl (cI, 70, .inl nw)), (ra, .inl (cI, 7, .inl (xRq rf (q5S st (nI j0) a2))))] := by simp [xRq, q5S, v5S, h_0, c_5, c_6, (Int32.not_lt.mpr c_8), c_9]
        exact W.iret (v := nw (10 + j0)) hx hb hr (fun t ht hW => ⟨⟨_, (), rfl, by simp [q5S, v5S, h_0, c_5, c_6, (Int32.not_lt.mpr c_8), c_9, nI_clamp (show j0 < 2 ^ 31 by omega)], by rw [ht]; exact hE9 ▸ hP9, hE9 ▸ hD9⟩, hS.F ht⟩) hS.2.2 dX5_stop_70
    · refine lv_aload_n hx hb dX5_stop_23 rfl (lv_at hl 0 rfl) ?_
      refine lv_bipush (v := -2) hx hb dX5_stop_24 (by decide) ?_
      have hPc := hP.sub (ws' := [(g0, .inr (5, [.ref ra, .ref wa, .ref ta, .int kpt, .ref ma, .int mkd, .ref pa, .int tpd, .int at0, .int wel, .ref ba, .ref ka, .int srt, .ref fa, .ref qa, .ref ea, .ref za, .ref ya, .int wks])), (ra, .inl (cI, 7, .inl rf))]) [0, 2] rfl
      have hDc := hD.sub (ws' := [(g0, .inr (5, [.ref ra, .ref wa, .ref ta, .int kpt, .ref ma, .int mkd, .ref pa, .int tpd, .int at0, .int wel, .ref ba, .ref ka, .int srt, .ref fa, .ref qa, .ref ea, .ref za, .ref ya, .int wks])), (ra, .inl (cI, 7, .inl rf))]) [0, 2] (by decide) rfl
      have hFc := va_free (wc := [(g0, .inr (5, [.ref ra, .ref wa, .ref ta, .int kpt, .ref ma, .int mkd, .ref pa, .int tpd, .int at0, .int wel, .ref ba, .ref ka, .int srt, .ref fa, .ref qa, .ref ea, .ref za, .ref ya, .int wks])), (ra, .inl (cI, 7, .inl rf))]) hD hS hA [0, 2] rfl
      refine va_calli (va_runV (As := [.int (-2)]) (rest := []) ⟨hx, hb, hml, hown, hts⟩ (g_X5_no l D cI cL cZ cC _ g0 ra wa ta ma pa ba ka fa qa ea za ya kpt mkd tpd at0 wel srt wks rf (-2) (by first | assumption | decide +kernel) (by first | assumption | decide +kernel)) (cwV 1 hts gX5_stop_X5_no rfl rfl rfl (by decide +kernel) ⟨Nat.le_of_ble_eq_true rfl, Nat.le_of_ble_eq_true rfl⟩) ⟨wPc_bl, va_recv hK hPc (ci := 5) (q0 := 0) rfl rfl, wPc_use hPc hK hDc⟩ rfl rfl hl.1 rfl (lv_room (Nat.le_of_ble_eq_true rfl)) dX5_stop_26 ⟨Nat.le_of_ble_eq_true rfl, Nat.le_of_ble_eq_true rfl⟩) hS (fun q _ h => hFc q h) hFc (fun r_14 u_14 t H1 locs ht hvm hw hB hz1 hk1 hS => ?_)
      obtain ⟨hP1, hD1⟩ := hB
      rw [ht] at hP1
      obtain ⟨hP, hD⟩ := va_join (wr := [(wa, .inl (cI, 70, .inl nw))]) (w1 := [(g0, .inr (5, [.ref ra, .ref wa, .ref ta, .int kpt, .ref ma, .int mkd, .ref pa, .int tpd, .int at0, .int wel, .ref ba, .ref ka, .int srt, .ref fa, .ref qa, .ref ea, .ref za, .ref ya, .int wks])), (ra, .inl (cI, 7, .inl (xRf rf (-2))))]) hP hD [0, 2] [1] rfl rfl (by decide) (by decide) hk1 hFc hP1 hD1
      generalize H1 = H at hP hS ⊢
      have hP : va_P D vwCl [(wa, .inl (cI, 70, .inl nw)), (g0, .inr (5, [.ref ra, .ref wa, .ref ta, .int kpt, .ref ma, .int mkd, .ref pa, .int tpd, .int at0, .int wel, .ref ba, .ref ka, .int srt, .ref fa, .ref qa, .ref ea, .ref za, .ref ya, .int wks])), (ra, .inl (cI, 7, .inl (xRf rf (-2))))] H := hP
      have hD : va_D A [(wa, .inl (cI, 70, .inl nw)), (g0, .inr (5, [.ref ra, .ref wa, .ref ta, .int kpt, .ref ma, .int mkd, .ref pa, .int tpd, .int at0, .int wel, .ref ba, .ref ka, .int srt, .ref fa, .ref qa, .ref ea, .ref za, .ref ya, .int wks])), (ra, .inl (cI, 7, .inl (xRf rf (-2))))] := hD
      obtain rfl : ((-2) : Int32) = r_14 := Eq.symm hw
      have hP9 := hP.sub (ws' := [(g0, .inr (5, [.ref ra, .ref wa, .ref ta, .int kpt, .ref ma, .int mkd, .ref pa, .int tpd, .int at0, .int wel, .ref ba, .ref ka, .int srt, .ref fa, .ref qa, .ref ea, .ref za, .ref ya, .int wks])), (wa, .inl (cI, 70, .inl nw)), (ra, .inl (cI, 7, .inl (xRf rf (-2))))]) [1, 0, 2] rfl
      have hD9 := hD.sub (ws' := [(g0, .inr (5, [.ref ra, .ref wa, .ref ta, .int kpt, .ref ma, .int mkd, .ref pa, .int tpd, .int at0, .int wel, .ref ba, .ref ka, .int srt, .ref fa, .ref qa, .ref ea, .ref za, .ref ya, .int wks])), (wa, .inl (cI, 70, .inl nw)), (ra, .inl (cI, 7, .inl (xRf rf (-2))))]) [1, 0, 2] (by decide) rfl
      have hE9 : ([(g0, .inr (5, [.ref ra, .ref wa, .ref ta, .int kpt, .ref ma, .int mkd, .ref pa, .int tpd, .int at0, .int wel, .ref ba, .ref ka, .int srt, .ref fa, .ref qa, .ref ea, .ref za, .ref ya, .int wks])), (wa, .inl (cI, 70, .inl nw)), (ra, .inl (cI, 7, .inl (xRf rf (-2))))] : va_W) = [(g0, .inr (5, [.ref ra, .ref wa, .ref ta, .int kpt, .ref ma, .int mkd, .ref pa, .int tpd, .int at0, .int wel, .ref ba, .ref ka, .int srt, .ref fa, .ref qa, .ref ea, .ref za, .ref ya, .int wks])), (wa, .inl (cI, 70, .inl nw)), (ra, .inl (cI, 7, .inl (xRq rf (q5S st (nI j0) a2))))] := by simp [xRq, q5S, v5S, h_0, c_5, c_6, (Int32.not_le.mp c_8)]
      exact W.iret (v := -2) hx hb hr (fun t ht hW => ⟨⟨_, (), rfl, by simp [q5S, v5S, h_0, c_5, c_6, (Int32.not_le.mp c_8), nI_clamp (show j0 < 2 ^ 31 by omega)], by rw [ht]; exact hE9 ▸ hP9, hE9 ▸ hD9⟩, hS.F ht⟩) hS.2.2 dX5_stop_29

set_option maxHeartbeats 4000000 in
set_option maxRecDepth 100000 in
theorem g_X5_chance (l : Launch) (D : va_G) (cI cL cZ cC : ClassId) (sz : Nat) (g0 : Nat) (ra : Nat) (wa : Nat) (ta : Nat) (ma : Nat) (pa : Nat) (ba : Nat) (ka : Nat) (fa : Nat) (qa : Nat) (ea : Nat) (za : Nat) (ya : Nat) (kpt : Int32) (mkd : Int32) (tpd : Int32) (at0 : Int32) (wel : Int32) (srt : Int32) (wks : Int32) (st : Nat) (nw : Nat → Int32) (ln : Nat) (rf : Nat → Int32) (a1 : Int32) (a2 : Int32) (hn0 : nw 0 = nI st) (hs1 : 1 ≤ st) (hs7 : st ≤ 7) (hn3 : nw 3 = nI ln) (hln : ln ≤ 3) (hq2 : ¬ nw 2 = 0) : Met l yX5_chance wsX5_chance ({ frames := 1, cells := 0, slots := 0, locals := 22 } : Room) (wPc D [.ref g0, .int a1, .int a2] [(g0, .inr (5, [.ref ra, .ref wa, .ref ta, .int kpt, .ref ma, .int mkd, .ref pa, .int tpd, .int at0, .int wel, .ref ba, .ref ka, .int srt, .ref fa, .ref qa, .ref ea, .ref za, .ref ya, .int wks])), (wa, .inl (cI, 70, .inl nw)), (ra, .inl (cI, 7, .inl rf))] (xTy cI cL cZ cC) sz) (va_Qi (fun (r : Int32) (_ : Unit) => r = if q5C ln a1 a2 = 0 then v5C nw a1 a2 else q5C ln a1 a2) (fun (_ : Unit) t => va_P D vwCl [(g0, .inr (5, [.ref ra, .ref wa, .ref ta, .int kpt, .ref ma, .int mkd, .ref pa, .int tpd, .int at0, .int wel, .ref ba, .ref ka, .int srt, .ref fa, .ref qa, .ref ea, .ref za, .ref ya, .int wks])), (wa, .inl (cI, 70, .inl nw)), (ra, .inl (cI, 7, .inl (xRq rf (q5C ln a1 a2))))] t.heap ∧ va_D (va_A [(g0, .inr (5, [.ref ra, .ref wa, .ref ta, .int kpt, .ref ma, .int mkd, .ref pa, .int tpd, .int at0, .int wel, .ref ba, .ref ka, .int srt, .ref fa, .ref qa, .ref ea, .ref za, .ref ya, .int wks])), (wa, .inl (cI, 70, .inl nw)), (ra, .inl (cI, 7, .inl rf))] sz) [(g0, .inr (5, [.ref ra, .ref wa, .ref ta, .int kpt, .ref ma, .int mkd, .ref pa, .int tpd, .int at0, .int wel, .ref ba, .ref ka, .int srt, .ref fa, .ref qa, .ref ea, .ref za, .ref ya, .int wks])), (wa, .inl (cI, 70, .inl nw)), (ra, .inl (cI, 7, .inl (xRq rf (q5C ln a1 a2))))]) (va_A [(g0, .inr (5, [.ref ra, .ref wa, .ref ta, .int kpt, .ref ma, .int mkd, .ref pa, .int tpd, .int at0, .int wel, .ref ba, .ref ka, .int srt, .ref fa, .ref qa, .ref ea, .ref za, .ref ya, .int wks])), (wa, .inl (cI, 70, .inl nw)), (ra, .inl (cI, 7, .inl rf))] sz)) 0 0 (va_A [(g0, .inr (5, [.ref ra, .ref wa, .ref ta, .int kpt, .ref ma, .int mkd, .ref pa, .int tpd, .int at0, .int wel, .ref ba, .ref ka, .int srt, .ref fa, .ref qa, .ref ea, .ref za, .ref ya, .int wks])), (wa, .inl (cI, 70, .inl nw)), (ra, .inl (cI, 7, .inl rf))] sz) := by
  refine Met.ofW (cc := cX5_chance) (maxL := 3) (ret := (some .int)) (by decide) rfl ?_
  intro p e s m args below meth c s₁ B hml hv
  obtain ⟨rfl, hsz, hP, hK, hD0⟩ := hv
  have hx := B.exec
  have hb := B.bytes
  have hr := B.returns
  have hts := atoms_spec (ws := wsX5_chance) B.pre
  have hown : s.vm.findClass RX5 = some m.cls := findClass_of_methodNamed B.named
  have hlocks := B.notSynchronized
  subst hsz
  have hD := hD0.self (sz := s.heap.size)
  generalize hAe : va_A [(g0, .inr (5, [.ref ra, .ref wa, .ref ta, .int kpt, .ref ma, .int mkd, .ref pa, .int tpd, .int at0, .int wel, .ref ba, .ref ka, .int srt, .ref fa, .ref qa, .ref ea, .ref za, .ref ya, .int wks])), (wa, .inl (cI, 70, .inl nw)), (ra, .inl (cI, 7, .inl rf))] s.heap.size = A at hD ⊢
  have hA : ∀ q : Nat, s.heap.size ≤ q → A q := fun q h => by rw [← hAe]; exact Or.inr h
  have hS : va_S A s.heap s.heap [] := va_S.rf
  have hP : va_P D vwCl [(g0, .inr (5, [.ref ra, .ref wa, .ref ta, .int kpt, .ref ma, .int mkd, .ref pa, .int tpd, .int at0, .int wel, .ref ba, .ref ka, .int srt, .ref fa, .ref qa, .ref ea, .ref za, .ref ya, .int wks])), (wa, .inl (cI, 70, .inl nw)), (ra, .inl (cI, 7, .inl rf))] s.heap := hP
  have hl := lv_entry ([.ref g0, .int a1, .int a2]) (n := 3) (Nat.le_of_ble_eq_true rfl)
  rw [lg_entry_eq]
  generalize (lg_sl ([.ref g0, .int a1, .int a2]) ++ List.replicate (3 - (lg_sl ([.ref g0, .int a1, .int a2])).length) Slot.unset).toArray = ls at hl ⊢
  have hl : lv_has ls 3 [(0, .ref g0), (1, .int a1), (2, .int a2)] := hl
  by_cases h_1 : ¬ sNL ln a1 = 0
  · refine lv_aload_n hx hb dX5_chance_0 rfl (lv_at hl 0 rfl) ?_
    refine lv_iload_n hx hb dX5_chance_1 rfl (lv_at hl 1 rfl) ?_
    have hPc := hP.sub (ws' := [(g0, .inr (5, [.ref ra, .ref wa, .ref ta, .int kpt, .ref ma, .int mkd, .ref pa, .int tpd, .int at0, .int wel, .ref ba, .ref ka, .int srt, .ref fa, .ref qa, .ref ea, .ref za, .ref ya, .int wks])), (wa, .inl (cI, 70, .inl nw))]) [0, 1] rfl
    refine vp_callSi (va_Run.run (va_runV (As := [.int a1]) (rest := []) ⟨hx, hb, hml, hown, hts⟩ (g_X5_isNoLine l D cI cL cZ cC g0 ra wa ta ma pa ba ka fa qa ea za ya kpt mkd tpd at0 wel srt wks st nw ln a1 (by first | assumption | decide +kernel) (by first | assumption | decide +kernel) (by first | assumption | decide +kernel) (by first | assumption | decide +kernel) (by first | assumption | decide +kernel)) (cwV 1 hts gX5_chance_X5_isNoLine rfl rfl rfl (by decide +kernel) ⟨Nat.le_of_ble_eq_true rfl, Nat.le_of_ble_eq_true rfl⟩) ⟨xPc_bl, va_recv hK hPc (ci := 5) (q0 := 0) rfl rfl, xPc_use hPc hK⟩ rfl rfl hl.1 rfl (lv_room (Nat.le_of_ble_eq_true rfl)) dX5_chance_2 ⟨Nat.le_of_ble_eq_true rfl, Nat.le_of_ble_eq_true rfl⟩)) (fun r_1 er_1 => ?_)
    obtain rfl : (sNL ln a1 : Int32) = r_1 := Eq.symm er_1
    refine xv_int (y := 1) (sNL_bad h_1) ?_
    refine lv_if_eq (tgt := 14) hx hb dX5_chance_5 (by decide) (fun c_2 => absurd c_2 (by decide +kernel)) (fun c_2 => ?_)
    refine lv_aload_n hx hb dX5_chance_8 rfl (lv_at hl 0 rfl) ?_
    refine lv_iconst (v := -1) hx hb dX5_chance_9 (by decide) ?_
    have hPc := hP.sub (ws' := [(g0, .inr (5, [.ref ra, .ref wa, .ref ta, .int kpt, .ref ma, .int mkd, .ref pa, .int tpd, .int at0, .int wel, .ref ba, .ref ka, .int srt, .ref fa, .ref qa, .ref ea, .ref za, .ref ya, .int wks])), (ra, .inl (cI, 7, .inl rf))]) [0, 2] rfl
    have hDc := hD.sub (ws' := [(g0, .inr (5, [.ref ra, .ref wa, .ref ta, .int kpt, .ref ma, .int mkd, .ref pa, .int tpd, .int at0, .int wel, .ref ba, .ref ka, .int srt, .ref fa, .ref qa, .ref ea, .ref za, .ref ya, .int wks])), (ra, .inl (cI, 7, .inl rf))]) [0, 2] (by decide) rfl
    have hFc := va_free (wc := [(g0, .inr (5, [.ref ra, .ref wa, .ref ta, .int kpt, .ref ma, .int mkd, .ref pa, .int tpd, .int at0, .int wel, .ref ba, .ref ka, .int srt, .ref fa, .ref qa, .ref ea, .ref za, .ref ya, .int wks])), (ra, .inl (cI, 7, .inl rf))]) hD hS hA [0, 2] rfl
    refine va_calli (va_runV (As := [.int (-1)]) (rest := []) ⟨hx, hb, hml, hown, hts⟩ (g_X5_no l D cI cL cZ cC _ g0 ra wa ta ma pa ba ka fa qa ea za ya kpt mkd tpd at0 wel srt wks rf (-1) (by first | assumption | decide +kernel) (by first | assumption | decide +kernel)) (cwV 1 hts gX5_chance_X5_no rfl rfl rfl (by decide +kernel) ⟨Nat.le_of_ble_eq_true rfl, Nat.le_of_ble_eq_true rfl⟩) ⟨wPc_bl, va_recv hK hPc (ci := 5) (q0 := 0) rfl rfl, wPc_use hPc hK hDc⟩ rfl rfl hl.1 rfl (lv_room (Nat.le_of_ble_eq_true rfl)) dX5_chance_10 ⟨Nat.le_of_ble_eq_true rfl, Nat.le_of_ble_eq_true rfl⟩) hS (fun q _ h => hFc q h) hFc (fun r_3 u_3 t H1 locs ht hvm hw hB hz1 hk1 hS => ?_)
    obtain ⟨hP1, hD1⟩ := hB
    rw [ht] at hP1
    obtain ⟨hP, hD⟩ := va_join (wr := [(wa, .inl (cI, 70, .inl nw))]) (w1 := [(g0, .inr (5, [.ref ra, .ref wa, .ref ta, .int kpt, .ref ma, .int mkd, .ref pa, .int tpd, .int at0, .int wel, .ref ba, .ref ka, .int srt, .ref fa, .ref qa, .ref ea, .ref za, .ref ya, .int wks])), (ra, .inl (cI, 7, .inl (xRf rf (-1))))]) hP hD [0, 2] [1] rfl rfl (by decide) (by decide) hk1 hFc hP1 hD1
    generalize H1 = H at hP hS ⊢
    have hP : va_P D vwCl [(wa, .inl (cI, 70, .inl nw)), (g0, .inr (5, [.ref ra, .ref wa, .ref ta, .int kpt, .ref ma, .int mkd, .ref pa, .int tpd, .int at0, .int wel, .ref ba, .ref ka, .int srt, .ref fa, .ref qa, .ref ea, .ref za, .ref ya, .int wks])), (ra, .inl (cI, 7, .inl (xRf rf (-1))))] H := hP
    have hD : va_D A [(wa, .inl (cI, 70, .inl nw)), (g0, .inr (5, [.ref ra, .ref wa, .ref ta, .int kpt, .ref ma, .int mkd, .ref pa, .int tpd, .int at0, .int wel, .ref ba, .ref ka, .int srt, .ref fa, .ref qa, .ref ea, .ref za, .ref ya, .int wks])), (ra, .inl (cI, 7, .inl (xRf rf (-1))))] := hD
    obtain rfl : ((-1) : Int32) = r_3 := Eq.symm hw
    have hP9 := hP.sub (ws' := [(g0, .inr (5, [.ref ra, .ref wa, .ref ta, .int kpt, .ref ma, .int mkd, .ref pa, .int tpd, .int at0, .int wel, .ref ba, .ref ka, .int srt, .ref fa, .ref qa, .ref ea, .ref za, .ref ya, .int wks])), (wa, .inl (cI, 70, .inl nw)), (ra, .inl (cI, 7, .inl (xRf rf (-1))))]) [1, 0, 2] rfl
    have hD9 := hD.sub (ws' := [(g0, .inr (5, [.ref ra, .ref wa, .ref ta, .int kpt, .ref ma, .int mkd, .ref pa, .int tpd, .int at0, .int wel, .ref ba, .ref ka, .int srt, .ref fa, .ref qa, .ref ea, .ref za, .ref ya, .int wks])), (wa, .inl (cI, 70, .inl nw)), (ra, .inl (cI, 7, .inl (xRf rf (-1))))]) [1, 0, 2] (by decide) rfl
    have hE9 : ([(g0, .inr (5, [.ref ra, .ref wa, .ref ta, .int kpt, .ref ma, .int mkd, .ref pa, .int tpd, .int at0, .int wel, .ref ba, .ref ka, .int srt, .ref fa, .ref qa, .ref ea, .ref za, .ref ya, .int wks])), (wa, .inl (cI, 70, .inl nw)), (ra, .inl (cI, 7, .inl (xRf rf (-1))))] : va_W) = [(g0, .inr (5, [.ref ra, .ref wa, .ref ta, .int kpt, .ref ma, .int mkd, .ref pa, .int tpd, .int at0, .int wel, .ref ba, .ref ka, .int srt, .ref fa, .ref qa, .ref ea, .ref za, .ref ya, .int wks])), (wa, .inl (cI, 70, .inl nw)), (ra, .inl (cI, 7, .inl (xRq rf (q5C ln a1 a2))))] := by simp [xRq, q5C, v5C, h_1, c_2]
    exact W.iret (v := -1) hx hb hr (fun t ht hW => ⟨⟨_, (), rfl, by simp [q5C, v5C, h_1, c_2], by rw [ht]; exact hE9 ▸ hP9, hE9 ▸ hD9⟩, hS.F ht⟩) hS.2.2 dX5_chance_13
  obtain ⟨j0, rfl, hj0⟩ := sNL_ok (by omega) h_1
  have h_0 := Classical.not_not.mp h_1
  have ha0 : j0 ≤ 2 := by omega
  refine lv_aload_n hx hb dX5_chance_0 rfl (lv_at hl 0 rfl) ?_
  refine lv_iload_n hx hb dX5_chance_1 rfl (lv_at hl 1 rfl) ?_
  have hPc := hP.sub (ws' := [(g0, .inr (5, [.ref ra, .ref wa, .ref ta, .int kpt, .ref ma, .int mkd, .ref pa, .int tpd, .int at0, .int wel, .ref ba, .ref ka, .int srt, .ref fa, .ref qa, .ref ea, .ref za, .ref ya, .int wks])), (wa, .inl (cI, 70, .inl nw))]) [0, 1] rfl
  refine vp_callSi (va_Run.run (va_runV (As := [.int (nI j0)]) (rest := []) ⟨hx, hb, hml, hown, hts⟩ (g_X5_isNoLine l D cI cL cZ cC g0 ra wa ta ma pa ba ka fa qa ea za ya kpt mkd tpd at0 wel srt wks st nw ln (nI j0) (by first | assumption | decide +kernel) (by first | assumption | decide +kernel) (by first | assumption | decide +kernel) (by first | assumption | decide +kernel) (by first | assumption | decide +kernel)) (cwV 1 hts gX5_chance_X5_isNoLine rfl rfl rfl (by decide +kernel) ⟨Nat.le_of_ble_eq_true rfl, Nat.le_of_ble_eq_true rfl⟩) ⟨xPc_bl, va_recv hK hPc (ci := 5) (q0 := 0) rfl rfl, xPc_use hPc hK⟩ rfl rfl hl.1 rfl (lv_room (Nat.le_of_ble_eq_true rfl)) dX5_chance_2 ⟨Nat.le_of_ble_eq_true rfl, Nat.le_of_ble_eq_true rfl⟩)) (fun r_4 er_4 => ?_)
  obtain rfl : (sNL ln (nI j0) : Int32) = r_4 := Eq.symm er_4
  refine xv_int (y := 0) (h_0) ?_
  refine lv_if_eq (tgt := 14) hx hb dX5_chance_5 (by decide) (fun c_5 => ?_) (fun c_5 => absurd c_5 (by decide +kernel))
  refine lv_iload_n hx hb dX5_chance_14 rfl (lv_at hl 2 rfl) ?_
  refine lv_if_ge (tgt := 25) hx hb dX5_chance_15 (by decide) (fun c_6 => ?_) (fun c_6 => ?_)
  · refine lv_iload_n hx hb dX5_chance_25 rfl (lv_at hl 2 rfl) ?_
    refine lv_bipush (v := 11) hx hb dX5_chance_26 (by decide) ?_
    refine lv_icmp_le (tgt := 40) hx hb dX5_chance_28 (by decide) (fun c_7 => ?_) (fun c_7 => ?_)
    · obtain ⟨t0, rfl, ht0⟩ := xInN (n := 11) (by decide) (Int32.not_lt.mpr c_6) (Int32.not_lt.mpr c_7)
      refine lv_aload_n hx hb dX5_chance_40 rfl (lv_at hl 0 rfl) ?_
      refine lv_iload_n hx hb dX5_chance_41 rfl (lv_at hl 1 rfl) ?_
      refine lv_iload_n hx hb dX5_chance_42 rfl (lv_at hl 2 rfl) ?_
      have hPc := hP.sub (ws' := [(g0, .inr (5, [.ref ra, .ref wa, .ref ta, .int kpt, .ref ma, .int mkd, .ref pa, .int tpd, .int at0, .int wel, .ref ba, .ref ka, .int srt, .ref fa, .ref qa, .ref ea, .ref za, .ref ya, .int wks])), (wa, .inl (cI, 70, .inl nw))]) [0, 1] rfl
      refine vp_callSi (va_Run.run (va_runV (As := [.int (nI j0), .int (nI t0)]) (rest := []) ⟨hx, hb, hml, hown, hts⟩ (g_X5_weight l D cI cL cZ cC g0 ra wa ta ma pa ba ka fa qa ea za ya kpt mkd tpd at0 wel srt wks st nw j0 t0 (by first | assumption | decide +kernel) (by first | assumption | decide +kernel) (by first | assumption | decide +kernel) (by omega) (by omega)) (cwV 2 hts gX5_chance_X5_weight rfl rfl rfl (by decide +kernel) ⟨Nat.le_of_ble_eq_true rfl, Nat.le_of_ble_eq_true rfl⟩) ⟨xPc_bl, va_recv hK hPc (ci := 5) (q0 := 0) rfl rfl, xPc_use hPc hK⟩ rfl rfl hl.1 rfl (lv_room (Nat.le_of_ble_eq_true rfl)) dX5_chance_43 ⟨Nat.le_of_ble_eq_true rfl, Nat.le_of_ble_eq_true rfl⟩)) (fun r_8 er_8 => ?_)
      obtain rfl : (xWt (fun i => nw (20 + 16 * j0 + i)) t0 : Int32) = r_8 := Eq.symm er_8
      have hP9 := hP.sub (ws' := [(g0, .inr (5, [.ref ra, .ref wa, .ref ta, .int kpt, .ref ma, .int mkd, .ref pa, .int tpd, .int at0, .int wel, .ref ba, .ref ka, .int srt, .ref fa, .ref qa, .ref ea, .ref za, .ref ya, .int wks])), (wa, .inl (cI, 70, .inl nw)), (ra, .inl (cI, 7, .inl rf))]) [0, 1, 2] rfl
      have hD9 := hD.sub (ws' := [(g0, .inr (5, [.ref ra, .ref wa, .ref ta, .int kpt, .ref ma, .int mkd, .ref pa, .int tpd, .int at0, .int wel, .ref ba, .ref ka, .int srt, .ref fa, .ref qa, .ref ea, .ref za, .ref ya, .int wks])), (wa, .inl (cI, 70, .inl nw)), (ra, .inl (cI, 7, .inl rf))]) [0, 1, 2] (by decide) rfl
      have hE9 : ([(g0, .inr (5, [.ref ra, .ref wa, .ref ta, .int kpt, .ref ma, .int mkd, .ref pa, .int tpd, .int at0, .int wel, .ref ba, .ref ka, .int srt, .ref fa, .ref qa, .ref ea, .ref za, .ref ya, .int wks])), (wa, .inl (cI, 70, .inl nw)), (ra, .inl (cI, 7, .inl rf))] : va_W) = [(g0, .inr (5, [.ref ra, .ref wa, .ref ta, .int kpt, .ref ma, .int mkd, .ref pa, .int tpd, .int at0, .int wel, .ref ba, .ref ka, .int srt, .ref fa, .ref qa, .ref ea, .ref za, .ref ya, .int wks])), (wa, .inl (cI, 70, .inl nw)), (ra, .inl (cI, 7, .inl (xRq rf (q5C ln (nI j0) (nI t0)))))] := by simp [xRq, q5C, v5C, h_0, c_5, (Int32.not_lt.mpr c_6), (Int32.not_lt.mpr c_7)]
      exact W.iret (v := xWt (fun i => nw (20 + 16 * j0 + i)) t0) hx hb hr (fun t ht hW => ⟨⟨_, (), rfl, by simp [q5C, v5C, h_0, c_5, (Int32.not_lt.mpr c_6), (Int32.not_lt.mpr c_7), nI_clamp (show j0 < 2 ^ 31 by omega), nI_clamp (show t0 < 2 ^ 31 by omega)], by rw [ht]; exact hE9 ▸ hP9, hE9 ▸ hD9⟩, hS.F ht⟩) hS.2.2 dX5_chance_46
    · refine lv_aload_n hx hb dX5_chance_31 rfl (lv_at hl 0 rfl) ?_
      refine lv_bipush (v := -6) hx hb dX5_chance_32 (by decide) ?_
      have hPc := hP.sub (ws' := [(g0, .inr (5, [.ref ra, .ref wa, .ref ta, .int kpt, .ref ma, .int mkd, .ref pa, .int tpd, .int at0, .int wel, .ref ba, .ref ka, .int srt, .ref fa, .ref qa, .ref ea, .ref za, .ref ya, .int wks])), (ra, .inl (cI, 7, .inl rf))]) [0, 2] rfl
      have hDc := hD.sub (ws' := [(g0, .inr (5, [.ref ra, .ref wa, .ref ta, .int kpt, .ref ma, .int mkd, .ref pa, .int tpd, .int at0, .int wel, .ref ba, .ref ka, .int srt, .ref fa, .ref qa, .ref ea, .ref za, .ref ya, .int wks])), (ra, .inl (cI, 7, .inl rf))]) [0, 2] (by decide) rfl
      have hFc := va_free (wc := [(g0, .inr (5, [.ref ra, .ref wa, .ref ta, .int kpt, .ref ma, .int mkd, .ref pa, .int tpd, .int at0, .int wel, .ref ba, .ref ka, .int srt, .ref fa, .ref qa, .ref ea, .ref za, .ref ya, .int wks])), (ra, .inl (cI, 7, .inl rf))]) hD hS hA [0, 2] rfl
      refine va_calli (va_runV (As := [.int (-6)]) (rest := []) ⟨hx, hb, hml, hown, hts⟩ (g_X5_no l D cI cL cZ cC _ g0 ra wa ta ma pa ba ka fa qa ea za ya kpt mkd tpd at0 wel srt wks rf (-6) (by first | assumption | decide +kernel) (by first | assumption | decide +kernel)) (cwV 1 hts gX5_chance_X5_no rfl rfl rfl (by decide +kernel) ⟨Nat.le_of_ble_eq_true rfl, Nat.le_of_ble_eq_true rfl⟩) ⟨wPc_bl, va_recv hK hPc (ci := 5) (q0 := 0) rfl rfl, wPc_use hPc hK hDc⟩ rfl rfl hl.1 rfl (lv_room (Nat.le_of_ble_eq_true rfl)) dX5_chance_34 ⟨Nat.le_of_ble_eq_true rfl, Nat.le_of_ble_eq_true rfl⟩) hS (fun q _ h => hFc q h) hFc (fun r_9 u_9 t H1 locs ht hvm hw hB hz1 hk1 hS => ?_)
      obtain ⟨hP1, hD1⟩ := hB
      rw [ht] at hP1
      obtain ⟨hP, hD⟩ := va_join (wr := [(wa, .inl (cI, 70, .inl nw))]) (w1 := [(g0, .inr (5, [.ref ra, .ref wa, .ref ta, .int kpt, .ref ma, .int mkd, .ref pa, .int tpd, .int at0, .int wel, .ref ba, .ref ka, .int srt, .ref fa, .ref qa, .ref ea, .ref za, .ref ya, .int wks])), (ra, .inl (cI, 7, .inl (xRf rf (-6))))]) hP hD [0, 2] [1] rfl rfl (by decide) (by decide) hk1 hFc hP1 hD1
      generalize H1 = H at hP hS ⊢
      have hP : va_P D vwCl [(wa, .inl (cI, 70, .inl nw)), (g0, .inr (5, [.ref ra, .ref wa, .ref ta, .int kpt, .ref ma, .int mkd, .ref pa, .int tpd, .int at0, .int wel, .ref ba, .ref ka, .int srt, .ref fa, .ref qa, .ref ea, .ref za, .ref ya, .int wks])), (ra, .inl (cI, 7, .inl (xRf rf (-6))))] H := hP
      have hD : va_D A [(wa, .inl (cI, 70, .inl nw)), (g0, .inr (5, [.ref ra, .ref wa, .ref ta, .int kpt, .ref ma, .int mkd, .ref pa, .int tpd, .int at0, .int wel, .ref ba, .ref ka, .int srt, .ref fa, .ref qa, .ref ea, .ref za, .ref ya, .int wks])), (ra, .inl (cI, 7, .inl (xRf rf (-6))))] := hD
      obtain rfl : ((-6) : Int32) = r_9 := Eq.symm hw
      refine lv_goto (tgt := 46) hx hb dX5_chance_37 (by decide) ?_
      have hP9 := hP.sub (ws' := [(g0, .inr (5, [.ref ra, .ref wa, .ref ta, .int kpt, .ref ma, .int mkd, .ref pa, .int tpd, .int at0, .int wel, .ref ba, .ref ka, .int srt, .ref fa, .ref qa, .ref ea, .ref za, .ref ya, .int wks])), (wa, .inl (cI, 70, .inl nw)), (ra, .inl (cI, 7, .inl (xRf rf (-6))))]) [1, 0, 2] rfl
      have hD9 := hD.sub (ws' := [(g0, .inr (5, [.ref ra, .ref wa, .ref ta, .int kpt, .ref ma, .int mkd, .ref pa, .int tpd, .int at0, .int wel, .ref ba, .ref ka, .int srt, .ref fa, .ref qa, .ref ea, .ref za, .ref ya, .int wks])), (wa, .inl (cI, 70, .inl nw)), (ra, .inl (cI, 7, .inl (xRf rf (-6))))]) [1, 0, 2] (by decide) rfl
      have hE9 : ([(g0, .inr (5, [.ref ra, .ref wa, .ref ta, .int kpt, .ref ma, .int mkd, .ref pa, .int tpd, .int at0, .int wel, .ref ba, .ref ka, .int srt, .ref fa, .ref qa, .ref ea, .ref za, .ref ya, .int wks])), (wa, .inl (cI, 70, .inl nw)), (ra, .inl (cI, 7, .inl (xRf rf (-6))))] : va_W) = [(g0, .inr (5, [.ref ra, .ref wa, .ref ta, .int kpt, .ref ma, .int mkd, .ref pa, .int tpd, .int at0, .int wel, .ref ba, .ref ka, .int srt, .ref fa, .ref qa, .ref ea, .ref za, .ref ya, .int wks])), (wa, .inl (cI, 70, .inl nw)), (ra, .inl (cI, 7, .inl (xRq rf (q5C ln (nI j0) a2))))] := by simp [xRq, q5C, v5C, h_0, c_5, (Int32.not_lt.mpr c_6), (Int32.not_le.mp c_7)]
      exact W.iret (v := -6) hx hb hr (fun t ht hW => ⟨⟨_, (), rfl, by simp [q5C, v5C, h_0, c_5, (Int32.not_lt.mpr c_6), (Int32.not_le.mp c_7), nI_clamp (show j0 < 2 ^ 31 by omega)], by rw [ht]; exact hE9 ▸ hP9, hE9 ▸ hD9⟩, hS.F ht⟩) hS.2.2 dX5_chance_46
  · refine lv_aload_n hx hb dX5_chance_18 rfl (lv_at hl 0 rfl) ?_
    refine lv_bipush (v := -4) hx hb dX5_chance_19 (by decide) ?_
    have hPc := hP.sub (ws' := [(g0, .inr (5, [.ref ra, .ref wa, .ref ta, .int kpt, .ref ma, .int mkd, .ref pa, .int tpd, .int at0, .int wel, .ref ba, .ref ka, .int srt, .ref fa, .ref qa, .ref ea, .ref za, .ref ya, .int wks])), (ra, .inl (cI, 7, .inl rf))]) [0, 2] rfl
    have hDc := hD.sub (ws' := [(g0, .inr (5, [.ref ra, .ref wa, .ref ta, .int kpt, .ref ma, .int mkd, .ref pa, .int tpd, .int at0, .int wel, .ref ba, .ref ka, .int srt, .ref fa, .ref qa, .ref ea, .ref za, .ref ya, .int wks])), (ra, .inl (cI, 7, .inl rf))]) [0, 2] (by decide) rfl
    have hFc := va_free (wc := [(g0, .inr (5, [.ref ra, .ref wa, .ref ta, .int kpt, .ref ma, .int mkd, .ref pa, .int tpd, .int at0, .int wel, .ref ba, .ref ka, .int srt, .ref fa, .ref qa, .ref ea, .ref za, .ref ya, .int wks])), (ra, .inl (cI, 7, .inl rf))]) hD hS hA [0, 2] rfl
    refine va_calli (va_runV (As := [.int (-4)]) (rest := []) ⟨hx, hb, hml, hown, hts⟩ (g_X5_no l D cI cL cZ cC _ g0 ra wa ta ma pa ba ka fa qa ea za ya kpt mkd tpd at0 wel srt wks rf (-4) (by first | assumption | decide +kernel) (by first | assumption | decide +kernel)) (cwV 1 hts gX5_chance_X5_no rfl rfl rfl (by decide +kernel) ⟨Nat.le_of_ble_eq_true rfl, Nat.le_of_ble_eq_true rfl⟩) ⟨wPc_bl, va_recv hK hPc (ci := 5) (q0 := 0) rfl rfl, wPc_use hPc hK hDc⟩ rfl rfl hl.1 rfl (lv_room (Nat.le_of_ble_eq_true rfl)) dX5_chance_21 ⟨Nat.le_of_ble_eq_true rfl, Nat.le_of_ble_eq_true rfl⟩) hS (fun q _ h => hFc q h) hFc (fun r_10 u_10 t H1 locs ht hvm hw hB hz1 hk1 hS => ?_)
    obtain ⟨hP1, hD1⟩ := hB
    rw [ht] at hP1
    obtain ⟨hP, hD⟩ := va_join (wr := [(wa, .inl (cI, 70, .inl nw))]) (w1 := [(g0, .inr (5, [.ref ra, .ref wa, .ref ta, .int kpt, .ref ma, .int mkd, .ref pa, .int tpd, .int at0, .int wel, .ref ba, .ref ka, .int srt, .ref fa, .ref qa, .ref ea, .ref za, .ref ya, .int wks])), (ra, .inl (cI, 7, .inl (xRf rf (-4))))]) hP hD [0, 2] [1] rfl rfl (by decide) (by decide) hk1 hFc hP1 hD1
    generalize H1 = H at hP hS ⊢
    have hP : va_P D vwCl [(wa, .inl (cI, 70, .inl nw)), (g0, .inr (5, [.ref ra, .ref wa, .ref ta, .int kpt, .ref ma, .int mkd, .ref pa, .int tpd, .int at0, .int wel, .ref ba, .ref ka, .int srt, .ref fa, .ref qa, .ref ea, .ref za, .ref ya, .int wks])), (ra, .inl (cI, 7, .inl (xRf rf (-4))))] H := hP
    have hD : va_D A [(wa, .inl (cI, 70, .inl nw)), (g0, .inr (5, [.ref ra, .ref wa, .ref ta, .int kpt, .ref ma, .int mkd, .ref pa, .int tpd, .int at0, .int wel, .ref ba, .ref ka, .int srt, .ref fa, .ref qa, .ref ea, .ref za, .ref ya, .int wks])), (ra, .inl (cI, 7, .inl (xRf rf (-4))))] := hD
    obtain rfl : ((-4) : Int32) = r_10 := Eq.symm hw
    have hP9 := hP.sub (ws' := [(g0, .inr (5, [.ref ra, .ref wa, .ref ta, .int kpt, .ref ma, .int mkd, .ref pa, .int tpd, .int at0, .int wel, .ref ba, .ref ka, .int srt, .ref fa, .ref qa, .ref ea, .ref za, .ref ya, .int wks])), (wa, .inl (cI, 70, .inl nw)), (ra, .inl (cI, 7, .inl (xRf rf (-4))))]) [1, 0, 2] rfl
    have hD9 := hD.sub (ws' := [(g0, .inr (5, [.ref ra, .ref wa, .ref ta, .int kpt, .ref ma, .int mkd, .ref pa, .int tpd, .int at0, .int wel, .ref ba, .ref ka, .int srt, .ref fa, .ref qa, .ref ea, .ref za, .ref ya, .int wks])), (wa, .inl (cI, 70, .inl nw)), (ra, .inl (cI, 7, .inl (xRf rf (-4))))]) [1, 0, 2] (by decide) rfl
    have hE9 : ([(g0, .inr (5, [.ref ra, .ref wa, .ref ta, .int kpt, .ref ma, .int mkd, .ref pa, .int tpd, .int at0, .int wel, .ref ba, .ref ka, .int srt, .ref fa, .ref qa, .ref ea, .ref za, .ref ya, .int wks])), (wa, .inl (cI, 70, .inl nw)), (ra, .inl (cI, 7, .inl (xRf rf (-4))))] : va_W) = [(g0, .inr (5, [.ref ra, .ref wa, .ref ta, .int kpt, .ref ma, .int mkd, .ref pa, .int tpd, .int at0, .int wel, .ref ba, .ref ka, .int srt, .ref fa, .ref qa, .ref ea, .ref za, .ref ya, .int wks])), (wa, .inl (cI, 70, .inl nw)), (ra, .inl (cI, 7, .inl (xRq rf (q5C ln (nI j0) a2))))] := by simp [xRq, q5C, v5C, h_0, c_5, (Int32.not_le.mp c_6)]
    exact W.iret (v := -4) hx hb hr (fun t ht hW => ⟨⟨_, (), rfl, by simp [q5C, v5C, h_0, c_5, (Int32.not_le.mp c_6), nI_clamp (show j0 < 2 ^ 31 by omega)], by rw [ht]; exact hE9 ▸ hP9, hE9 ▸ hD9⟩, hS.F ht⟩) hS.2.2 dX5_chance_24

/-! the reference: line, there -/
def q5L (ln : Nat) (a1 a2 : Int32) : Int32 := if sNL ln a1 = 0 then (if a2 < 0 then -2 else if 4 < a2 then -2 else 0) else -1
def v5L (st : Nat) (nw : Nat → Int32) (a1 a2 : Int32) : Int32 := if a2 = 3 then xWs (fun i => nw (20 + 16 * a1.toNatClampNeg + i)) 0 else if a2 = 4 then xSm (fun i => sRd (nw (20 + 16 * a1.toNatClampNeg)) (nw (20 + 16 * a1.toNatClampNeg + 1)) (nI i)) (st - 1) else nw (20 + 16 * a1.toNatClampNeg + a2.toNatClampNeg)
def q5T (ln st : Nat) (a1 a2 : Int32) : Int32 := if sNL ln a1 = 0 then (if sNL st a2 = 0 then 0 else -1) else -1
def v5T (st : Nat) (nw : Nat → Int32) (a1 a2 : Int32) : Int32 := if sHalt (nw (20 + 16 * a1.toNatClampNeg)) a2 (nI (st - 1)) = 0 then -9 else xSm (fun i => sRd (nw (20 + 16 * a1.toNatClampNeg)) (nw (20 + 16 * a1.toNatClampNeg + 1)) (nI i)) a2.toNatClampNeg

set_option maxHeartbeats 4000000 in
set_option maxRecDepth 100000 in
theorem g_X5_line (l : Launch) (D : va_G) (cI cL cZ cC : ClassId) (sz : Nat) (g0 : Nat) (ra : Nat) (wa : Nat) (ta : Nat) (ma : Nat) (pa : Nat) (ba : Nat) (ka : Nat) (fa : Nat) (qa : Nat) (ea : Nat) (za : Nat) (ya : Nat) (kpt : Int32) (mkd : Int32) (tpd : Int32) (at0 : Int32) (wel : Int32) (srt : Int32) (wks : Int32) (st : Nat) (nw : Nat → Int32) (ln : Nat) (rf : Nat → Int32) (a1 : Int32) (a2 : Int32) (hn0 : nw 0 = nI st) (hs1 : 1 ≤ st) (hs7 : st ≤ 7) (hn3 : nw 3 = nI ln) (hln : ln ≤ 3) (hq2 : ¬ nw 2 = 0) : Met l yX5_line wsX5_line ({ frames := 3, cells := 0, slots := 0, locals := 69 } : Room) (wPc D [.ref g0, .int a1, .int a2] [(g0, .inr (5, [.ref ra, .ref wa, .ref ta, .int kpt, .ref ma, .int mkd, .ref pa, .int tpd, .int at0, .int wel, .ref ba, .ref ka, .int srt, .ref fa, .ref qa, .ref ea, .ref za, .ref ya, .int wks])), (wa, .inl (cI, 70, .inl nw)), (ra, .inl (cI, 7, .inl rf))] (xTy cI cL cZ cC) sz) (va_Qi (fun (r : Int32) (_ : Unit) => r = if q5L ln a1 a2 = 0 then v5L st nw a1 a2 else q5L ln a1 a2) (fun (_ : Unit) t => va_P D vwCl [(g0, .inr (5, [.ref ra, .ref wa, .ref ta, .int kpt, .ref ma, .int mkd, .ref pa, .int tpd, .int at0, .int wel, .ref ba, .ref ka, .int srt, .ref fa, .ref qa, .ref ea, .ref za, .ref ya, .int wks])), (wa, .inl (cI, 70, .inl nw)), (ra, .inl (cI, 7, .inl (xRq rf (q5L ln a1 a2))))] t.heap ∧ va_D (va_A [(g0, .inr (5, [.ref ra, .ref wa, .ref ta, .int kpt, .ref ma, .int mkd, .ref pa, .int tpd, .int at0, .int wel, .ref ba, .ref ka, .int srt, .ref fa, .ref qa, .ref ea, .ref za, .ref ya, .int wks])), (wa, .inl (cI, 70, .inl nw)), (ra, .inl (cI, 7, .inl rf))] sz) [(g0, .inr (5, [.ref ra, .ref wa, .ref ta, .int kpt, .ref ma, .int mkd, .ref pa, .int tpd, .int at0, .int wel, .ref ba, .ref ka, .int srt, .ref fa, .ref qa, .ref ea, .ref za, .ref ya, .int wks])), (wa, .inl (cI, 70, .inl nw)), (ra, .inl (cI, 7, .inl (xRq rf (q5L ln a1 a2))))]) (va_A [(g0, .inr (5, [.ref ra, .ref wa, .ref ta, .int kpt, .ref ma, .int mkd, .ref pa, .int tpd, .int at0, .int wel, .ref ba, .ref ka, .int srt, .ref fa, .ref qa, .ref ea, .ref za, .ref ya, .int wks])), (wa, .inl (cI, 70, .inl nw)), (ra, .inl (cI, 7, .inl rf))] sz)) 0 0 (va_A [(g0, .inr (5, [.ref ra, .ref wa, .ref ta, .int kpt, .ref ma, .int mkd, .ref pa, .int tpd, .int at0, .int wel, .ref ba, .ref ka, .int srt, .ref fa, .ref qa, .ref ea, .ref za, .ref ya, .int wks])), (wa, .inl (cI, 70, .inl nw)), (ra, .inl (cI, 7, .inl rf))] sz) := by
  refine Met.ofW (cc := cX5_line) (maxL := 3) (ret := (some .int)) (by decide) rfl ?_
  intro p e s m args below meth c s₁ B hml hv
  obtain ⟨rfl, hsz, hP, hK, hD0⟩ := hv
  have hx := B.exec
  have hb := B.bytes
  have hr := B.returns
  have hts := atoms_spec (ws := wsX5_line) B.pre
  have hown : s.vm.findClass RX5 = some m.cls := findClass_of_methodNamed B.named
  have hlocks := B.notSynchronized
  have hwX5 : ∀ w ∈ u_ws RX5 TX5 19, w ∈ wsX5_line := fun _ h => List.mem_cons_of_mem _ (List.mem_append_right _ h)
  subst hsz
  have hD := hD0.self (sz := s.heap.size)
  generalize hAe : va_A [(g0, .inr (5, [.ref ra, .ref wa, .ref ta, .int kpt, .ref ma, .int mkd, .ref pa, .int tpd, .int at0, .int wel, .ref ba, .ref ka, .int srt, .ref fa, .ref qa, .ref ea, .ref za, .ref ya, .int wks])), (wa, .inl (cI, 70, .inl nw)), (ra, .inl (cI, 7, .inl rf))] s.heap.size = A at hD ⊢
  have hA : ∀ q : Nat, s.heap.size ≤ q → A q := fun q h => by rw [← hAe]; exact Or.inr h
  have hS : va_S A s.heap s.heap [] := va_S.rf
  have hP : va_P D vwCl [(g0, .inr (5, [.ref ra, .ref wa, .ref ta, .int kpt, .ref ma, .int mkd, .ref pa, .int tpd, .int at0, .int wel, .ref ba, .ref ka, .int srt, .ref fa, .ref qa, .ref ea, .ref za, .ref ya, .int wks])), (wa, .inl (cI, 70, .inl nw)), (ra, .inl (cI, 7, .inl rf))] s.heap := hP
  have hl := lv_entry ([.ref g0, .int a1, .int a2]) (n := 3) (Nat.le_of_ble_eq_true rfl)
  rw [lg_entry_eq]
  generalize (lg_sl ([.ref g0, .int a1, .int a2]) ++ List.replicate (3 - (lg_sl ([.ref g0, .int a1, .int a2])).length) Slot.unset).toArray = ls at hl ⊢
  have hl : lv_has ls 3 [(0, .ref g0), (1, .int a1), (2, .int a2)] := hl
  by_cases h_1 : ¬ sNL ln a1 = 0
  · refine lv_aload_n hx hb dX5_line_0 rfl (lv_at hl 0 rfl) ?_
    refine lv_iload_n hx hb dX5_line_1 rfl (lv_at hl 1 rfl) ?_
    have hPc := hP.sub (ws' := [(g0, .inr (5, [.ref ra, .ref wa, .ref ta, .int kpt, .ref ma, .int mkd, .ref pa, .int tpd, .int at0, .int wel, .ref ba, .ref ka, .int srt, .ref fa, .ref qa, .ref ea, .ref za, .ref ya, .int wks])), (wa, .inl (cI, 70, .inl nw))]) [0, 1] rfl
    refine vp_callSi (va_Run.run (va_runV (As := [.int a1]) (rest := []) ⟨hx, hb, hml, hown, hts⟩ (g_X5_isNoLine l D cI cL cZ cC g0 ra wa ta ma pa ba ka fa qa ea za ya kpt mkd tpd at0 wel srt wks st nw ln a1 (by first | assumption | decide +kernel) (by first | assumption | decide +kernel) (by first | assumption | decide +kernel) (by first | assumption | decide +kernel) (by first | assumption | decide +kernel)) (cwV 1 hts gX5_line_X5_isNoLine rfl rfl rfl (by decide +kernel) ⟨Nat.le_of_ble_eq_true rfl, Nat.le_of_ble_eq_true rfl⟩) ⟨xPc_bl, va_recv hK hPc (ci := 5) (q0 := 0) rfl rfl, xPc_use hPc hK⟩ rfl rfl hl.1 rfl (lv_room (Nat.le_of_ble_eq_true rfl)) dX5_line_2 ⟨Nat.le_of_ble_eq_true rfl, Nat.le_of_ble_eq_true rfl⟩)) (fun r_1 er_1 => ?_)
    obtain rfl : (sNL ln a1 : Int32) = r_1 := Eq.symm er_1
    refine xv_int (y := 1) (sNL_bad h_1) ?_
    refine lv_if_eq (tgt := 14) hx hb dX5_line_5 (by decide) (fun c_2 => absurd c_2 (by decide +kernel)) (fun c_2 => ?_)
    refine lv_aload_n hx hb dX5_line_8 rfl (lv_at hl 0 rfl) ?_
    refine lv_iconst (v := -1) hx hb dX5_line_9 (by decide) ?_
    have hPc := hP.sub (ws' := [(g0, .inr (5, [.ref ra, .ref wa, .ref ta, .int kpt, .ref ma, .int mkd, .ref pa, .int tpd, .int at0, .int wel, .ref ba, .ref ka, .int srt, .ref fa, .ref qa, .ref ea, .ref za, .ref ya, .int wks])), (ra, .inl (cI, 7, .inl rf))]) [0, 2] rfl
    have hDc := hD.sub (ws' := [(g0, .inr (5, [.ref ra, .ref wa, .ref ta, .int kpt, .ref ma, .int mkd, .ref pa, .int tpd, .int at0, .int wel, .ref ba, .ref ka, .int srt, .ref fa, .ref qa, .ref ea, .ref za, .ref ya, .int wks])), (ra, .inl (cI, 7, .inl rf))]) [0, 2] (by decide) rfl
    have hFc := va_free (wc := [(g0, .inr (5, [.ref ra, .ref wa, .ref ta, .int kpt, .ref ma, .int mkd, .ref pa, .int tpd, .int at0, .int wel, .ref ba, .ref ka, .int srt, .ref fa, .ref qa, .ref ea, .ref za, .ref ya, .int wks])), (ra, .inl (cI, 7, .inl rf))]) hD hS hA [0, 2] rfl
    refine va_calli (va_runV (As := [.int (-1)]) (rest := []) ⟨hx, hb, hml, hown, hts⟩ (g_X5_no l D cI cL cZ cC _ g0 ra wa ta ma pa ba ka fa qa ea za ya kpt mkd tpd at0 wel srt wks rf (-1) (by first | assumption | decide +kernel) (by first | assumption | decide +kernel)) (cwV 1 hts gX5_line_X5_no rfl rfl rfl (by decide +kernel) ⟨Nat.le_of_ble_eq_true rfl, Nat.le_of_ble_eq_true rfl⟩) ⟨wPc_bl, va_recv hK hPc (ci := 5) (q0 := 0) rfl rfl, wPc_use hPc hK hDc⟩ rfl rfl hl.1 rfl (lv_room (Nat.le_of_ble_eq_true rfl)) dX5_line_10 ⟨Nat.le_of_ble_eq_true rfl, Nat.le_of_ble_eq_true rfl⟩) hS (fun q _ h => hFc q h) hFc (fun r_3 u_3 t H1 locs ht hvm hw hB hz1 hk1 hS => ?_)
    obtain ⟨hP1, hD1⟩ := hB
    rw [ht] at hP1
    obtain ⟨hP, hD⟩ := va_join (wr := [(wa, .inl (cI, 70, .inl nw))]) (w1 := [(g0, .inr (5, [.ref ra, .ref wa, .ref ta, .int kpt, .ref ma, .int mkd, .ref pa, .int tpd, .int at0, .int wel, .ref ba, .ref ka, .int srt, .ref fa, .ref qa, .ref ea, .ref za, .ref ya, .int wks])), (ra, .inl (cI, 7, .inl (xRf rf (-1))))]) hP hD [0, 2] [1] rfl rfl (by decide) (by decide) hk1 hFc hP1 hD1
    generalize H1 = H at hP hS ⊢
    have hP : va_P D vwCl [(wa, .inl (cI, 70, .inl nw)), (g0, .inr (5, [.ref ra, .ref wa, .ref ta, .int kpt, .ref ma, .int mkd, .ref pa, .int tpd, .int at0, .int wel, .ref ba, .ref ka, .int srt, .ref fa, .ref qa, .ref ea, .ref za, .ref ya, .int wks])), (ra, .inl (cI, 7, .inl (xRf rf (-1))))] H := hP
    have hD : va_D A [(wa, .inl (cI, 70, .inl nw)), (g0, .inr (5, [.ref ra, .ref wa, .ref ta, .int kpt, .ref ma, .int mkd, .ref pa, .int tpd, .int at0, .int wel, .ref ba, .ref ka, .int srt, .ref fa, .ref qa, .ref ea, .ref za, .ref ya, .int wks])), (ra, .inl (cI, 7, .inl (xRf rf (-1))))] := hD
    obtain rfl : ((-1) : Int32) = r_3 := Eq.symm hw
    have hP9 := hP.sub (ws' := [(g0, .inr (5, [.ref ra, .ref wa, .ref ta, .int kpt, .ref ma, .int mkd, .ref pa, .int tpd, .int at0, .int wel, .ref ba, .ref ka, .int srt, .ref fa, .ref qa, .ref ea, .ref za, .ref ya, .int wks])), (wa, .inl (cI, 70, .inl nw)), (ra, .inl (cI, 7, .inl (xRf rf (-1))))]) [1, 0, 2] rfl
    have hD9 := hD.sub (ws' := [(g0, .inr (5, [.ref ra, .ref wa, .ref ta, .int kpt, .ref ma, .int mkd, .ref pa, .int tpd, .int at0, .int wel, .ref ba, .ref ka, .int srt, .ref fa, .ref qa, .ref ea, .ref za, .ref ya, .int wks])), (wa, .inl (cI, 70, .inl nw)), (ra, .inl (cI, 7, .inl (xRf rf (-1))))]) [1, 0, 2] (by decide) rfl
    have hE9 : ([(g0, .inr (5, [.ref ra, .ref wa, .ref ta, .int kpt, .ref ma, .int mkd, .ref pa, .int tpd, .int at0, .int wel, .ref ba, .ref ka, .int srt, .ref fa, .ref qa, .ref ea, .ref za, .ref ya, .int wks])), (wa, .inl (cI, 70, .inl nw)), (ra, .inl (cI, 7, .inl (xRf rf (-1))))] : va_W) = [(g0, .inr (5, [.ref ra, .ref wa, .ref ta, .int kpt, .ref ma, .int mkd, .ref pa, .int tpd, .int at0, .int wel, .ref ba, .ref ka, .int srt, .ref fa, .ref qa, .ref ea, .ref za, .ref ya, .int wks])), (wa, .inl (cI, 70, .inl nw)), (ra, .inl (cI, 7, .inl (xRq rf (q5L ln a1 a2))))] := by simp [xRq, q5L, v5L, h_1, c_2]
    exact W.iret (v := -1) hx hb hr (fun t ht hW => ⟨⟨_, (), rfl, by simp [q5L, v5L, h_1, c_2], by rw [ht]; exact hE9 ▸ hP9, hE9 ▸ hD9⟩, hS.F ht⟩) hS.2.2 dX5_line_13
  obtain ⟨j0, rfl, hj0⟩ := sNL_ok (by omega) h_1
  have h_0 := Classical.not_not.mp h_1
  have ha0 : j0 ≤ 2 := by omega
  refine lv_aload_n hx hb dX5_line_0 rfl (lv_at hl 0 rfl) ?_
  refine lv_iload_n hx hb dX5_line_1 rfl (lv_at hl 1 rfl) ?_
  have hPc := hP.sub (ws' := [(g0, .inr (5, [.ref ra, .ref wa, .ref ta, .int kpt, .ref ma, .int mkd, .ref pa, .int tpd, .int at0, .int wel, .ref ba, .ref ka, .int srt, .ref fa, .ref qa, .ref ea, .ref za, .ref ya, .int wks])), (wa, .inl (cI, 70, .inl nw))]) [0, 1] rfl
  refine vp_callSi (va_Run.run (va_runV (As := [.int (nI j0)]) (rest := []) ⟨hx, hb, hml, hown, hts⟩ (g_X5_isNoLine l D cI cL cZ cC g0 ra wa ta ma pa ba ka fa qa ea za ya kpt mkd tpd at0 wel srt wks st nw ln (nI j0) (by first | assumption | decide +kernel) (by first | assumption | decide +kernel) (by first | assumption | decide +kernel) (by first | assumption | decide +kernel) (by first | assumption | decide +kernel)) (cwV 1 hts gX5_line_X5_isNoLine rfl rfl rfl (by decide +kernel) ⟨Nat.le_of_ble_eq_true rfl, Nat.le_of_ble_eq_true rfl⟩) ⟨xPc_bl, va_recv hK hPc (ci := 5) (q0 := 0) rfl rfl, xPc_use hPc hK⟩ rfl rfl hl.1 rfl (lv_room (Nat.le_of_ble_eq_true rfl)) dX5_line_2 ⟨Nat.le_of_ble_eq_true rfl, Nat.le_of_ble_eq_true rfl⟩)) (fun r_4 er_4 => ?_)
  obtain rfl : (sNL ln (nI j0) : Int32) = r_4 := Eq.symm er_4
  refine xv_int (y := 0) (h_0) ?_
  refine lv_if_eq (tgt := 14) hx hb dX5_line_5 (by decide) (fun c_5 => ?_) (fun c_5 => absurd c_5 (by decide +kernel))
  refine lv_iload_n hx hb dX5_line_14 rfl (lv_at hl 2 rfl) ?_
  refine lv_if_lt (tgt := 23) hx hb dX5_line_15 (by decide) (fun c_6 => ?_) (fun c_6 => ?_)
  · refine lv_aload_n hx hb dX5_line_23 rfl (lv_at hl 0 rfl) ?_
    refine lv_bipush (v := -2) hx hb dX5_line_24 (by decide) ?_
    have hPc := hP.sub (ws' := [(g0, .inr (5, [.ref ra, .ref wa, .ref ta, .int kpt, .ref ma, .int mkd, .ref pa, .int tpd, .int at0, .int wel, .ref ba, .ref ka, .int srt, .ref fa, .ref qa, .ref ea, .ref za, .ref ya, .int wks])), (ra, .inl (cI, 7, .inl rf))]) [0, 2] rfl
    have hDc := hD.sub (ws' := [(g0, .inr (5, [.ref ra, .ref wa, .ref ta, .int kpt, .ref ma, .int mkd, .ref pa, .int tpd, .int at0, .int wel, .ref ba, .ref ka, .int srt, .ref fa, .ref qa, .ref ea, .ref za, .ref ya, .int wks])), (ra, .inl (cI, 7, .inl rf))]) [0, 2] (by decide) rfl
    have hFc := va_free (wc := [(g0, .inr (5, [.ref ra, .ref wa, .ref ta, .int kpt, .ref ma, .int mkd, .ref pa, .int tpd, .int at0, .int wel, .ref ba, .ref ka, .int srt, .ref fa, .ref qa, .ref ea, .ref za, .ref ya, .int wks])), (ra, .inl (cI, 7, .inl rf))]) hD hS hA [0, 2] rfl
    refine va_calli (va_runV (As := [.int (-2)]) (rest := []) ⟨hx, hb, hml, hown, hts⟩ (g_X5_no l D cI cL cZ cC _ g0 ra wa ta ma pa ba ka fa qa ea za ya kpt mkd tpd at0 wel srt wks rf (-2) (by first | assumption | decide +kernel) (by first | assumption | decide +kernel)) (cwV 1 hts gX5_line_X5_no rfl rfl rfl (by decide +kernel) ⟨Nat.le_of_ble_eq_true rfl, Nat.le_of_ble_eq_true rfl⟩) ⟨wPc_bl, va_recv hK hPc (ci := 5) (q0 := 0) rfl rfl, wPc_use hPc hK hDc⟩ rfl rfl hl.1 rfl (lv_room (Nat.le_of_ble_eq_true rfl)) dX5_line_26 ⟨Nat.le_of_ble_eq_true rfl, Nat.le_of_ble_eq_true rfl⟩) hS (fun q _ h => hFc q h) hFc (fun r_7 u_7 t H1 locs ht hvm hw hB hz1 hk1 hS => ?_)
    obtain ⟨hP1, hD1⟩ := hB
    rw [ht] at hP1
    obtain ⟨hP, hD⟩ := va_join (wr := [(wa, .inl (cI, 70, .inl nw))]) (w1 := [(g0, .inr (5, [.ref ra, .ref wa, .ref ta, .int kpt, .ref ma, .int mkd, .ref pa, .int tpd, .int at0, .int wel, .ref ba, .ref ka, .int srt, .ref fa, .ref qa, .ref ea, .ref za, .ref ya, .int wks])), (ra, .inl (cI, 7, .inl (xRf rf (-2))))]) hP hD [0, 2] [1] rfl rfl (by decide) (by decide) hk1 hFc hP1 hD1
    generalize H1 = H at hP hS ⊢
    have hP : va_P D vwCl [(wa, .inl (cI, 70, .inl nw)), (g0, .inr (5, [.ref ra, .ref wa, .ref ta, .int kpt, .ref ma, .int mkd, .ref pa, .int tpd, .int at0, .int wel, .ref ba, .ref ka, .int srt, .ref fa, .ref qa, .ref ea, .ref za, .ref ya, .int wks])), (ra, .inl (cI, 7, .inl (xRf rf (-2))))] H := hP
    have hD : va_D A [(wa, .inl (cI, 70, .inl nw)), (g0, .inr (5, [.ref ra, .ref wa, .ref ta, .int kpt, .ref ma, .int mkd, .ref pa, .int tpd, .int at0, .int wel, .ref ba, .ref ka, .int srt, .ref fa, .ref qa, .ref ea, .ref za, .ref ya, .int wks])), (ra, .inl (cI, 7, .inl (xRf rf (-2))))] := hD
    obtain rfl : ((-2) : Int32) = r_7 := Eq.symm hw
    have hP9 := hP.sub (ws' := [(g0, .inr (5, [.ref ra, .ref wa, .ref ta, .int kpt, .ref ma, .int mkd, .ref pa, .int tpd, .int at0, .int wel, .ref ba, .ref ka, .int srt, .ref fa, .ref qa, .ref ea, .ref za, .ref ya, .int wks])), (wa, .inl (cI, 70, .inl nw)), (ra, .inl (cI, 7, .inl (xRf rf (-2))))]) [1, 0, 2] rfl
    have hD9 := hD.sub (ws' := [(g0, .inr (5, [.ref ra, .ref wa, .ref ta, .int kpt, .ref ma, .int mkd, .ref pa, .int tpd, .int at0, .int wel, .ref ba, .ref ka, .int srt, .ref fa, .ref qa, .ref ea, .ref za, .ref ya, .int wks])), (wa, .inl (cI, 70, .inl nw)), (ra, .inl (cI, 7, .inl (xRf rf (-2))))]) [1, 0, 2] (by decide) rfl
    have hE9 : ([(g0, .inr (5, [.ref ra, .ref wa, .ref ta, .int kpt, .ref ma, .int mkd, .ref pa, .int tpd, .int at0, .int wel, .ref ba, .ref ka, .int srt, .ref fa, .ref qa, .ref ea, .ref za, .ref ya, .int wks])), (wa, .inl (cI, 70, .inl nw)), (ra, .inl (cI, 7, .inl (xRf rf (-2))))] : va_W) = [(g0, .inr (5, [.ref ra, .ref wa, .ref ta, .int kpt, .ref ma, .int mkd, .ref pa, .int tpd, .int at0, .int wel, .ref ba, .ref ka, .int srt, .ref fa, .ref qa, .ref ea, .ref za, .ref ya, .int wks])), (wa, .inl (cI, 70, .inl nw)), (ra, .inl (cI, 7, .inl (xRq rf (q5L ln (nI j0) a2))))] := by simp [xRq, q5L, v5L, h_0, c_5, c_6]
    exact W.iret (v := -2) hx hb hr (fun t ht hW => ⟨⟨_, (), rfl, by simp [q5L, v5L, h_0, c_5, c_6, nI_clamp (show j0 < 2 ^ 31 by omega)], by rw [ht]; exact hE9 ▸ hP9, hE9 ▸ hD9⟩, hS.F ht⟩) hS.2.2 dX5_line_29
  · refine lv_iload_n hx hb dX5_line_18 rfl (lv_at hl 2 rfl) ?_
    refine lv_iconst (v := 4) hx hb dX5_line_19 (by decide) ?_
    refine lv_icmp_le (tgt := 30) hx hb dX5_line_20 (by decide) (fun c_8 => ?_) (fun c_8 => ?_)
    · refine lv_iload_n hx hb dX5_line_30 rfl (lv_at hl 2 rfl) ?_
      refine lv_iconst (v := 3) hx hb dX5_line_31 (by decide) ?_
      refine lv_icmp_ne (tgt := 44) hx hb dX5_line_32 (by decide) (fun c_9 => ?_) (fun c_9 => ?_)
      · refine lv_iload_n hx hb dX5_line_44 rfl (lv_at hl 2 rfl) ?_
        refine lv_iconst (v := 4) hx hb dX5_line_45 (by decide) ?_
        refine lv_icmp_ne (tgt := 57) hx hb dX5_line_46 (by decide) (fun c_10 => ?_) (fun c_10 => ?_)
        · obtain ⟨t0, rfl, ht0⟩ := xInN (n := 4) (by decide) c_6 (Int32.not_lt.mpr c_8)
          refine lv_aload_n hx hb dX5_line_57 rfl (lv_at hl 0 rfl) ?_
          refine va_get (D := D) (ci := 5) (v := .ref wa) (C := RX5) (T := TX5) (N := 19) hx hb hts hwX5 hown hK hP 0 rfl rfl 1 (by decide) (hts (.fieldLink RX5 19 "WaitOrWalkOnModel" "now" "[I") (by decide +kernel)) (fun _ h9 => h9) rfl dX5_line_58 ?_
          refine lv_bipush (v := 20) hx hb dX5_line_61 (by decide) ?_
          refine lv_bipush (v := 16) hx hb dX5_line_63 (by decide) ?_
          refine lv_iload_n hx hb dX5_line_65 rfl (lv_at hl 1 rfl) ?_
          refine lv_imul hx hb dX5_line_66 ?_
          refine xv_int (y := nI (16 * j0)) (pk_mul 16 j0) ?_
          refine lv_iadd hx hb dX5_line_67 ?_
          refine xv_int (y := nI (20 + 16 * j0)) (nI_add 20 (16 * j0)) ?_
          refine lv_iload_n hx hb dX5_line_68 rfl (lv_at hl 2 rfl) ?_
          refine lv_iadd hx hb dX5_line_69 ?_
          refine xv_int (y := nI (20 + 16 * j0 + t0)) (nI_add (20 + 16 * j0) t0) ?_
          refine va_iald (D := D) hx hb hK hP 1 0 rfl rfl (vp_in_nI (by omega) (by decide)) dX5_line_70 ?_
          refine xv_int (y := nw (20 + 16 * j0 + t0)) (congrArg nw (nI_clamp (by omega))) ?_
          have hP9 := hP.sub (ws' := [(g0, .inr (5, [.ref ra, .ref wa, .ref ta, .int kpt, .ref ma, .int mkd, .ref pa, .int tpd, .int at0, .int wel, .ref ba, .ref ka, .int srt, .ref fa, .ref qa, .ref ea, .ref za, .ref ya, .int wks])), (wa, .inl (cI, 70, .inl nw)), (ra, .inl (cI, 7, .inl rf))]) [0, 1, 2] rfl
          have hD9 := hD.sub (ws' := [(g0, .inr (5, [.ref ra, .ref wa, .ref ta, .int kpt, .ref ma, .int mkd, .ref pa, .int tpd, .int at0, .int wel, .ref ba, .ref ka, .int srt, .ref fa, .ref qa, .ref ea, .ref za, .ref ya, .int wks])), (wa, .inl (cI, 70, .inl nw)), (ra, .inl (cI, 7, .inl rf))]) [0, 1, 2] (by decide) rfl
          have hE9 : ([(g0, .inr (5, [.ref ra, .ref wa, .ref ta, .int kpt, .ref ma, .int mkd, .ref pa, .int tpd, .int at0, .int wel, .ref ba, .ref ka, .int srt, .ref fa, .ref qa, .ref ea, .ref za, .ref ya, .int wks])), (wa, .inl (cI, 70, .inl nw)), (ra, .inl (cI, 7, .inl rf))] : va_W) = [(g0, .inr (5, [.ref ra, .ref wa, .ref ta, .int kpt, .ref ma, .int mkd, .ref pa, .int tpd, .int at0, .int wel, .ref ba, .ref ka, .int srt, .ref fa, .ref qa, .ref ea, .ref za, .ref ya, .int wks])), (wa, .inl (cI, 70, .inl nw)), (ra, .inl (cI, 7, .inl (xRq rf (q5L ln (nI j0) (nI t0)))))] := by simp [xRq, q5L, v5L, h_0, c_5, c_6, (Int32.not_lt.mpr c_8), c_9, c_10]
          exact W.iret (v := nw (20 + 16 * j0 + t0)) hx hb hr (fun t ht hW => ⟨⟨_, (), rfl, by simp [q5L, v5L, h_0, c_5, c_6, (Int32.not_lt.mpr c_8), c_9, c_10, nI_clamp (show j0 < 2 ^ 31 by omega), nI_clamp (show t0 < 2 ^ 31 by omega)], by rw [ht]; exact hE9 ▸ hP9, hE9 ▸ hD9⟩, hS.F ht⟩) hS.2.2 dX5_line_71
        · refine lv_aload_n hx hb dX5_line_49 rfl (lv_at hl 0 rfl) ?_
          refine lv_iload_n hx hb dX5_line_50 rfl (lv_at hl 1 rfl) ?_
          have hPc := hP.sub (ws' := [(g0, .inr (5, [.ref ra, .ref wa, .ref ta, .int kpt, .ref ma, .int mkd, .ref pa, .int tpd, .int at0, .int wel, .ref ba, .ref ka, .int srt, .ref fa, .ref qa, .ref ea, .ref za, .ref ya, .int wks])), (wa, .inl (cI, 70, .inl nw))]) [0, 1] rfl
          refine vp_callSi (va_Run.run (va_runV (As := [.int (nI j0)]) (rest := []) ⟨hx, hb, hml, hown, hts⟩ (g_X5_toLast l D cI cL cZ cC g0 ra wa ta ma pa ba ka fa qa ea za ya kpt mkd tpd at0 wel srt wks st nw j0 (by first | assumption | decide +kernel) (by first | assumption | decide +kernel) (by first | assumption | decide +kernel) (by omega)) (cwV 1 hts gX5_line_X5_toLast rfl rfl rfl (by decide +kernel) ⟨Nat.le_of_ble_eq_true rfl, Nat.le_of_ble_eq_true rfl⟩) ⟨xPc_bl, va_recv hK hPc (ci := 5) (q0 := 0) rfl rfl, xPc_use hPc hK⟩ rfl rfl hl.1 rfl (lv_room (Nat.le_of_ble_eq_true rfl)) dX5_line_51 ⟨Nat.le_of_ble_eq_true rfl, Nat.le_of_ble_eq_true rfl⟩)) (fun r_11 er_11 => ?_)
          obtain rfl : (xSm (fun i => sRd (nw (20 + 16 * j0)) (nw (20 + 16 * j0 + 1)) (nI i)) (st - 1) : Int32) = r_11 := Eq.symm er_11
          refine lv_goto (tgt := 71) hx hb dX5_line_54 (by decide) ?_
          have hP9 := hP.sub (ws' := [(g0, .inr (5, [.ref ra, .ref wa, .ref ta, .int kpt, .ref ma, .int mkd, .ref pa, .int tpd, .int at0, .int wel, .ref ba, .ref ka, .int srt, .ref fa, .ref qa, .ref ea, .ref za, .ref ya, .int wks])), (wa, .inl (cI, 70, .inl nw)), (ra, .inl (cI, 7, .inl rf))]) [0, 1, 2] rfl
          have hD9 := hD.sub (ws' := [(g0, .inr (5, [.ref ra, .ref wa, .ref ta, .int kpt, .ref ma, .int mkd, .ref pa, .int tpd, .int at0, .int wel, .ref ba, .ref ka, .int srt, .ref fa, .ref qa, .ref ea, .ref za, .ref ya, .int wks])), (wa, .inl (cI, 70, .inl nw)), (ra, .inl (cI, 7, .inl rf))]) [0, 1, 2] (by decide) rfl
          have hE9 : ([(g0, .inr (5, [.ref ra, .ref wa, .ref ta, .int kpt, .ref ma, .int mkd, .ref pa, .int tpd, .int at0, .int wel, .ref ba, .ref ka, .int srt, .ref fa, .ref qa, .ref ea, .ref za, .ref ya, .int wks])), (wa, .inl (cI, 70, .inl nw)), (ra, .inl (cI, 7, .inl rf))] : va_W) = [(g0, .inr (5, [.ref ra, .ref wa, .ref ta, .int kpt, .ref ma, .int mkd, .ref pa, .int tpd, .int at0, .int wel, .ref ba, .ref ka, .int srt, .ref fa, .ref qa, .ref ea, .ref za, .ref ya, .int wks])), (wa, .inl (cI, 70, .inl nw)), (ra, .inl (cI, 7, .inl (xRq rf (q5L ln (nI j0) a2))))] := by simp [xRq, q5L, v5L, h_0, c_5, c_6, (Int32.not_lt.mpr c_8), c_9, c_10]
          exact W.iret (v := xSm (fun i => sRd (nw (20 + 16 * j0)) (nw (20 + 16 * j0 + 1)) (nI i)) (st - 1)) hx hb hr (fun t ht hW => ⟨⟨_, (), rfl, by simp [q5L, v5L, h_0, c_5, c_6, (Int32.not_lt.mpr c_8), c_9, c_10, nI_clamp (show j0 < 2 ^ 31 by omega)], by rw [ht]; exact hE9 ▸ hP9, hE9 ▸ hD9⟩, hS.F ht⟩) hS.2.2 dX5_line_71
      · refine lv_aload_n hx hb dX5_line_35 rfl (lv_at hl 0 rfl) ?_
        refine lv_iload_n hx hb dX5_line_36 rfl (lv_at hl 1 rfl) ?_
        refine lv_iconst (v := 0) hx hb dX5_line_37 (by decide) ?_
        have hPc := hP.sub (ws' := [(g0, .inr (5, [.ref ra, .ref wa, .ref ta, .int kpt, .ref ma, .int mkd, .ref pa, .int tpd, .int at0, .int wel, .ref ba, .ref ka, .int srt, .ref fa, .ref qa, .ref ea, .ref za, .ref ya, .int wks])), (wa, .inl (cI, 70, .inl nw))]) [0, 1] rfl
        refine vp_callSi (va_Run.run (va_runV (As := [.int (nI j0), .int 0]) (rest := []) ⟨hx, hb, hml, hown, hts⟩ (g_X5_weights l D cI cL cZ cC g0 ra wa ta ma pa ba ka fa qa ea za ya kpt mkd tpd at0 wel srt wks st nw j0 0 (by first | assumption | decide +kernel) (by first | assumption | decide +kernel) (by first | assumption | decide +kernel) (by omega) (by omega)) (cwV 2 hts gX5_line_X5_weights rfl rfl rfl (by decide +kernel) ⟨Nat.le_of_ble_eq_true rfl, Nat.le_of_ble_eq_true rfl⟩) ⟨xPc_bl, va_recv hK hPc (ci := 5) (q0 := 0) rfl rfl, xPc_use hPc hK⟩ rfl rfl hl.1 rfl (lv_room (Nat.le_of_ble_eq_true rfl)) dX5_line_38 ⟨Nat.le_of_ble_eq_true rfl, Nat.le_of_ble_eq_true rfl⟩)) (fun r_12 er_12 => ?_)
        obtain rfl : (xWs (fun i => nw (20 + 16 * j0 + i)) 0 : Int32) = r_12 := Eq.symm er_12
        refine lv_goto (tgt := 71) hx hb dX5_line_41 (by decide) ?_
        have hP9 := hP.sub (ws' := [(g0, .inr (5, [.ref ra, .ref wa, .ref ta, .int kpt, .ref ma, .int mkd, .ref pa, .int tpd, .int at0, .int wel, .ref ba, .ref ka, .int srt, .ref fa, .ref qa, .ref ea, .ref za, .ref ya, .int wks])), (wa, .inl (cI, 70, .inl nw)), (ra, .inl (cI, 7, .inl rf))]) [0, 1, 2] rfl
        have hD9 := hD.sub (ws' := [(g0, .inr (5, [.ref ra, .ref wa, .ref ta, .int kpt, .ref ma, .int mkd, .ref pa, .int tpd, .int at0, .int wel, .ref ba, .ref ka, .int srt, .ref fa, .ref qa, .ref ea, .ref za, .ref ya, .int wks])), (wa, .inl (cI, 70, .inl nw)), (ra, .inl (cI, 7, .inl rf))]) [0, 1, 2] (by decide) rfl
        have hE9 : ([(g0, .inr (5, [.ref ra, .ref wa, .ref ta, .int kpt, .ref ma, .int mkd, .ref pa, .int tpd, .int at0, .int wel, .ref ba, .ref ka, .int srt, .ref fa, .ref qa, .ref ea, .ref za, .ref ya, .int wks])), (wa, .inl (cI, 70, .inl nw)), (ra, .inl (cI, 7, .inl rf))] : va_W) = [(g0, .inr (5, [.ref ra, .ref wa, .ref ta, .int kpt, .ref ma, .int mkd, .ref pa, .int tpd, .int at0, .int wel, .ref ba, .ref ka, .int srt, .ref fa, .ref qa, .ref ea, .ref za, .ref ya, .int wks])), (wa, .inl (cI, 70, .inl nw)), (ra, .inl (cI, 7, .inl (xRq rf (q5L ln (nI j0) a2))))] := by simp [xRq, q5L, v5L, h_0, c_5, c_6, (Int32.not_lt.mpr c_8), c_9]
        exact W.iret (v := xWs (fun i => nw (20 + 16 * j0 + i)) 0) hx hb hr (fun t ht hW => ⟨⟨_, (), rfl, by simp [q5L, v5L, h_0, c_5, c_6, (Int32.not_lt.mpr c_8), c_9, nI_clamp (show j0 < 2 ^ 31 by omega)], by rw [ht]; exact hE9 ▸ hP9, hE9 ▸ hD9⟩, hS.F ht⟩) hS.2.2 dX5_line_71
    · refine lv_aload_n hx hb dX5_line_23 rfl (lv_at hl 0 rfl) ?_
      refine lv_bipush (v := -2) hx hb dX5_line_24 (by decide) ?_
      have hPc := hP.sub (ws' := [(g0, .inr (5, [.ref ra, .ref wa, .ref ta, .int kpt, .ref ma, .int mkd, .ref pa, .int tpd, .int at0, .int wel, .ref ba, .ref ka, .int srt, .ref fa, .ref qa, .ref ea, .ref za, .ref ya, .int wks])), (ra, .inl (cI, 7, .inl rf))]) [0, 2] rfl
      have hDc := hD.sub (ws' := [(g0, .inr (5, [.ref ra, .ref wa, .ref ta, .int kpt, .ref ma, .int mkd, .ref pa, .int tpd, .int at0, .int wel, .ref ba, .ref ka, .int srt, .ref fa, .ref qa, .ref ea, .ref za, .ref ya, .int wks])), (ra, .inl (cI, 7, .inl rf))]) [0, 2] (by decide) rfl
      have hFc := va_free (wc := [(g0, .inr (5, [.ref ra, .ref wa, .ref ta, .int kpt, .ref ma, .int mkd, .ref pa, .int tpd, .int at0, .int wel, .ref ba, .ref ka, .int srt, .ref fa, .ref qa, .ref ea, .ref za, .ref ya, .int wks])), (ra, .inl (cI, 7, .inl rf))]) hD hS hA [0, 2] rfl
      refine va_calli (va_runV (As := [.int (-2)]) (rest := []) ⟨hx, hb, hml, hown, hts⟩ (g_X5_no l D cI cL cZ cC _ g0 ra wa ta ma pa ba ka fa qa ea za ya kpt mkd tpd at0 wel srt wks rf (-2) (by first | assumption | decide +kernel) (by first | assumption | decide +kernel)) (cwV 1 hts gX5_line_X5_no rfl rfl rfl (by decide +kernel) ⟨Nat.le_of_ble_eq_true rfl, Nat.le_of_ble_eq_true rfl⟩) ⟨wPc_bl, va_recv hK hPc (ci := 5) (q0 := 0) rfl rfl, wPc_use hPc hK hDc⟩ rfl rfl hl.1 rfl (lv_room (Nat.le_of_ble_eq_true rfl)) dX5_line_26 ⟨Nat.le_of_ble_eq_true rfl, Nat.le_of_ble_eq_true rfl⟩) hS (fun q _ h => hFc q h) hFc (fun r_13 u_13 t H1 locs ht hvm hw hB hz1 hk1 hS => ?_)
      obtain ⟨hP1, hD1⟩ := hB
      rw [ht] at hP1
      obtain ⟨hP, hD⟩ := va_join (wr := [(wa, .inl (cI, 70, .inl nw))]) (w1 := [(g0, .inr (5, [.ref ra, .ref wa, .ref ta, .int kpt, .ref ma, .int mkd, .ref pa, .int tpd, .int at0, .int wel, .ref ba, .ref ka, .int srt, .ref fa, .ref qa, .ref ea, .ref za, .ref ya, .int wks])), (ra, .inl (cI, 7, .inl (xRf rf (-2))))]) hP hD [0, 2] [1] rfl rfl (by decide) (by decide) hk1 hFc hP1 hD1
      generalize H1 = H at hP hS ⊢
      have hP : va_P D vwCl [(wa, .inl (cI, 70, .inl nw)), (g0, .inr (5, [.ref ra, .ref wa, .ref ta, .int kpt, .ref ma, .int mkd, .ref pa, .int tpd, .int at0, .int wel, .ref ba, .ref ka, .int srt, .ref fa, .ref qa, .ref ea, .ref za, .ref ya, .int wks])), (ra, .inl (cI, 7, .inl (xRf rf (-2))))] H := hP
      have hD : va_D A [(wa, .inl (cI, 70, .inl nw)), (g0, .inr (5, [.ref ra, .ref wa, .ref ta, .int kpt, .ref ma, .int mkd, .ref pa, .int tpd, .int at0, .int wel, .ref ba, .ref ka, .int srt, .ref fa, .ref qa, .ref ea, .ref za, .ref ya, .int wks])), (ra, .inl (cI, 7, .inl (xRf rf (-2))))] := hD
      obtain rfl : ((-2) : Int32) = r_13 := Eq.symm hw
      have hP9 := hP.sub (ws' := [(g0, .inr (5, [.ref ra, .ref wa, .ref ta, .int kpt, .ref ma, .int mkd, .ref pa, .int tpd, .int at0, .int wel, .ref ba, .ref ka, .int srt, .ref fa, .ref qa, .ref ea, .ref za, .ref ya, .int wks])), (wa, .inl (cI, 70, .inl nw)), (ra, .inl (cI, 7, .inl (xRf rf (-2))))]) [1, 0, 2] rfl
      have hD9 := hD.sub (ws' := [(g0, .inr (5, [.ref ra, .ref wa, .ref ta, .int kpt, .ref ma, .int mkd, .ref pa, .int tpd, .int at0, .int wel, .ref ba, .ref ka, .int srt, .ref fa, .ref qa, .ref ea, .ref za, .ref ya, .int wks])), (wa, .inl (cI, 70, .inl nw)), (ra, .inl (cI, 7, .inl (xRf rf (-2))))]) [1, 0, 2] (by decide) rfl
      have hE9 : ([(g0, .inr (5, [.ref ra, .ref wa, .ref ta, .int kpt, .ref ma, .int mkd, .ref pa, .int tpd, .int at0, .int wel, .ref ba, .ref ka, .int srt, .ref fa, .ref qa, .ref ea, .ref za, .ref ya, .int wks])), (wa, .inl (cI, 70, .inl nw)), (ra, .inl (cI, 7, .inl (xRf rf (-2))))] : va_W) = [(g0, .inr (5, [.ref ra, .ref wa, .ref ta, .int kpt, .ref ma, .int mkd, .ref pa, .int tpd, .int at0, .int wel, .ref ba, .ref ka, .int srt, .ref fa, .ref qa, .ref ea, .ref za, .ref ya, .int wks])), (wa, .inl (cI, 70, .inl nw)), (ra, .inl (cI, 7, .inl (xRq rf (q5L ln (nI j0) a2))))] := by simp [xRq, q5L, v5L, h_0, c_5, c_6, (Int32.not_le.mp c_8)]
      exact W.iret (v := -2) hx hb hr (fun t ht hW => ⟨⟨_, (), rfl, by simp [q5L, v5L, h_0, c_5, c_6, (Int32.not_le.mp c_8), nI_clamp (show j0 < 2 ^ 31 by omega)], by rw [ht]; exact hE9 ▸ hP9, hE9 ▸ hD9⟩, hS.F ht⟩) hS.2.2 dX5_line_29

set_option maxHeartbeats 4000000 in
set_option maxRecDepth 100000 in
theorem g_X5_there (l : Launch) (D : va_G) (cI cL cZ cC : ClassId) (sz : Nat) (g0 : Nat) (ra : Nat) (wa : Nat) (ta : Nat) (ma : Nat) (pa : Nat) (ba : Nat) (ka : Nat) (fa : Nat) (qa : Nat) (ea : Nat) (za : Nat) (ya : Nat) (kpt : Int32) (mkd : Int32) (tpd : Int32) (at0 : Int32) (wel : Int32) (srt : Int32) (wks : Int32) (st : Nat) (nw : Nat → Int32) (ln : Nat) (rf : Nat → Int32) (a1 : Int32) (a2 : Int32) (hn0 : nw 0 = nI st) (hs1 : 1 ≤ st) (hs7 : st ≤ 7) (hn3 : nw 3 = nI ln) (hln : ln ≤ 3) (hq2 : ¬ nw 2 = 0) : Met l yX5_there wsX5_there ({ frames := 2, cells := 0, slots := 0, locals := 48 } : Room) (wPc D [.ref g0, .int a1, .int a2] [(g0, .inr (5, [.ref ra, .ref wa, .ref ta, .int kpt, .ref ma, .int mkd, .ref pa, .int tpd, .int at0, .int wel, .ref ba, .ref ka, .int srt, .ref fa, .ref qa, .ref ea, .ref za, .ref ya, .int wks])), (wa, .inl (cI, 70, .inl nw)), (ra, .inl (cI, 7, .inl rf))] (xTy cI cL cZ cC) sz) (va_Qi (fun (r : Int32) (_ : Unit) => r = if q5T ln st a1 a2 = 0 then v5T st nw a1 a2 else q5T ln st a1 a2) (fun (_ : Unit) t => va_P D vwCl [(g0, .inr (5, [.ref ra, .ref wa, .ref ta, .int kpt, .ref ma, .int mkd, .ref pa, .int tpd, .int at0, .int wel, .ref ba, .ref ka, .int srt, .ref fa, .ref qa, .ref ea, .ref za, .ref ya, .int wks])), (wa, .inl (cI, 70, .inl nw)), (ra, .inl (cI, 7, .inl (xRq rf (q5T ln st a1 a2))))] t.heap ∧ va_D (va_A [(g0, .inr (5, [.ref ra, .ref wa, .ref ta, .int kpt, .ref ma, .int mkd, .ref pa, .int tpd, .int at0, .int wel, .ref ba, .ref ka, .int srt, .ref fa, .ref qa, .ref ea, .ref za, .ref ya, .int wks])), (wa, .inl (cI, 70, .inl nw)), (ra, .inl (cI, 7, .inl rf))] sz) [(g0, .inr (5, [.ref ra, .ref wa, .ref ta, .int kpt, .ref ma, .int mkd, .ref pa, .int tpd, .int at0, .int wel, .ref ba, .ref ka, .int srt, .ref fa, .ref qa, .ref ea, .ref za, .ref ya, .int wks])), (wa, .inl (cI, 70, .inl nw)), (ra, .inl (cI, 7, .inl (xRq rf (q5T ln st a1 a2))))]) (va_A [(g0, .inr (5, [.ref ra, .ref wa, .ref ta, .int kpt, .ref ma, .int mkd, .ref pa, .int tpd, .int at0, .int wel, .ref ba, .ref ka, .int srt, .ref fa, .ref qa, .ref ea, .ref za, .ref ya, .int wks])), (wa, .inl (cI, 70, .inl nw)), (ra, .inl (cI, 7, .inl rf))] sz)) 0 0 (va_A [(g0, .inr (5, [.ref ra, .ref wa, .ref ta, .int kpt, .ref ma, .int mkd, .ref pa, .int tpd, .int at0, .int wel, .ref ba, .ref ka, .int srt, .ref fa, .ref qa, .ref ea, .ref za, .ref ya, .int wks])), (wa, .inl (cI, 70, .inl nw)), (ra, .inl (cI, 7, .inl rf))] sz) := by
  refine Met.ofW (cc := cX5_there) (maxL := 3) (ret := (some .int)) (by decide) rfl ?_
  intro p e s m args below meth c s₁ B hml hv
  obtain ⟨rfl, hsz, hP, hK, hD0⟩ := hv
  have hx := B.exec
  have hb := B.bytes
  have hr := B.returns
  have hts := atoms_spec (ws := wsX5_there) B.pre
  have hown : s.vm.findClass RX5 = some m.cls := findClass_of_methodNamed B.named
  have hlocks := B.notSynchronized
  subst hsz
  have hD := hD0.self (sz := s.heap.size)
  generalize hAe : va_A [(g0, .inr (5, [.ref ra, .ref wa, .ref ta, .int kpt, .ref ma, .int mkd, .ref pa, .int tpd, .int at0, .int wel, .ref ba, .ref ka, .int srt, .ref fa, .ref qa, .ref ea, .ref za, .ref ya, .int wks])), (wa, .inl (cI, 70, .inl nw)), (ra, .inl (cI, 7, .inl rf))] s.heap.size = A at hD ⊢
  have hA : ∀ q : Nat, s.heap.size ≤ q → A q := fun q h => by rw [← hAe]; exact Or.inr h
  have hS : va_S A s.heap s.heap [] := va_S.rf
  have hP : va_P D vwCl [(g0, .inr (5, [.ref ra, .ref wa, .ref ta, .int kpt, .ref ma, .int mkd, .ref pa, .int tpd, .int at0, .int wel, .ref ba, .ref ka, .int srt, .ref fa, .ref qa, .ref ea, .ref za, .ref ya, .int wks])), (wa, .inl (cI, 70, .inl nw)), (ra, .inl (cI, 7, .inl rf))] s.heap := hP
  have hl := lv_entry ([.ref g0, .int a1, .int a2]) (n := 3) (Nat.le_of_ble_eq_true rfl)
  rw [lg_entry_eq]
  generalize (lg_sl ([.ref g0, .int a1, .int a2]) ++ List.replicate (3 - (lg_sl ([.ref g0, .int a1, .int a2])).length) Slot.unset).toArray = ls at hl ⊢
  have hl : lv_has ls 3 [(0, .ref g0), (1, .int a1), (2, .int a2)] := hl
  by_cases h_1 : ¬ sNL ln a1 = 0
  · refine lv_aload_n hx hb dX5_there_0 rfl (lv_at hl 0 rfl) ?_
    refine lv_iload_n hx hb dX5_there_1 rfl (lv_at hl 1 rfl) ?_
    have hPc := hP.sub (ws' := [(g0, .inr (5, [.ref ra, .ref wa, .ref ta, .int kpt, .ref ma, .int mkd, .ref pa, .int tpd, .int at0, .int wel, .ref ba, .ref ka, .int srt, .ref fa, .ref qa, .ref ea, .ref za, .ref ya, .int wks])), (wa, .inl (cI, 70, .inl nw))]) [0, 1] rfl
    refine vp_callSi (va_Run.run (va_runV (As := [.int a1]) (rest := []) ⟨hx, hb, hml, hown, hts⟩ (g_X5_isNoLine l D cI cL cZ cC g0 ra wa ta ma pa ba ka fa qa ea za ya kpt mkd tpd at0 wel srt wks st nw ln a1 (by first | assumption | decide +kernel) (by first | assumption | decide +kernel) (by first | assumption | decide +kernel) (by first | assumption | decide +kernel) (by first | assumption | decide +kernel)) (cwV 1 hts gX5_there_X5_isNoLine rfl rfl rfl (by decide +kernel) ⟨Nat.le_of_ble_eq_true rfl, Nat.le_of_ble_eq_true rfl⟩) ⟨xPc_bl, va_recv hK hPc (ci := 5) (q0 := 0) rfl rfl, xPc_use hPc hK⟩ rfl rfl hl.1 rfl (lv_room (Nat.le_of_ble_eq_true rfl)) dX5_there_2 ⟨Nat.le_of_ble_eq_true rfl, Nat.le_of_ble_eq_true rfl⟩)) (fun r_1 er_1 => ?_)
    obtain rfl : (sNL ln a1 : Int32) = r_1 := Eq.symm er_1
    refine xv_int (y := 1) (sNL_bad h_1) ?_
    refine lv_if_ne (tgt := 16) hx hb dX5_there_5 (by decide) (fun c_2 => ?_) (fun c_2 => absurd c_2 (by decide +kernel))
    refine lv_aload_n hx hb dX5_there_16 rfl (lv_at hl 0 rfl) ?_
    refine lv_iconst (v := -1) hx hb dX5_there_17 (by decide) ?_
    have hPc := hP.sub (ws' := [(g0, .inr (5, [.ref ra, .ref wa, .ref ta, .int kpt, .ref ma, .int mkd, .ref pa, .int tpd, .int at0, .int wel, .ref ba, .ref ka, .int srt, .ref fa, .ref qa, .ref ea, .ref za, .ref ya, .int wks])), (ra, .inl (cI, 7, .inl rf))]) [0, 2] rfl
    have hDc := hD.sub (ws' := [(g0, .inr (5, [.ref ra, .ref wa, .ref ta, .int kpt, .ref ma, .int mkd, .ref pa, .int tpd, .int at0, .int wel, .ref ba, .ref ka, .int srt, .ref fa, .ref qa, .ref ea, .ref za, .ref ya, .int wks])), (ra, .inl (cI, 7, .inl rf))]) [0, 2] (by decide) rfl
    have hFc := va_free (wc := [(g0, .inr (5, [.ref ra, .ref wa, .ref ta, .int kpt, .ref ma, .int mkd, .ref pa, .int tpd, .int at0, .int wel, .ref ba, .ref ka, .int srt, .ref fa, .ref qa, .ref ea, .ref za, .ref ya, .int wks])), (ra, .inl (cI, 7, .inl rf))]) hD hS hA [0, 2] rfl
    refine va_calli (va_runV (As := [.int (-1)]) (rest := []) ⟨hx, hb, hml, hown, hts⟩ (g_X5_no l D cI cL cZ cC _ g0 ra wa ta ma pa ba ka fa qa ea za ya kpt mkd tpd at0 wel srt wks rf (-1) (by first | assumption | decide +kernel) (by first | assumption | decide +kernel)) (cwV 1 hts gX5_there_X5_no rfl rfl rfl (by decide +kernel) ⟨Nat.le_of_ble_eq_true rfl, Nat.le_of_ble_eq_true rfl⟩) ⟨wPc_bl, va_recv hK hPc (ci := 5) (q0 := 0) rfl rfl, wPc_use hPc hK hDc⟩ rfl rfl hl.1 rfl (lv_room (Nat.le_of_ble_eq_true rfl)) dX5_there_18 ⟨Nat.le_of_ble_eq_true rfl, Nat.le_of_ble_eq_true rfl⟩) hS (fun q _ h => hFc q h) hFc (fun r_3 u_3 t H1 locs ht hvm hw hB hz1 hk1 hS => ?_)
    obtain ⟨hP1, hD1⟩ := hB
    rw [ht] at hP1
    obtain ⟨hP, hD⟩ := va_join (wr := [(wa, .inl (cI, 70, .inl nw))]) (w1 := [(g0, .inr (5, [.ref ra, .ref wa, .ref ta, .int kpt, .ref ma, .int mkd, .ref pa, .int tpd, .int at0, .int wel, .ref ba, .ref ka, .int srt, .ref fa, .ref qa, .ref ea, .ref za, .ref ya, .int wks])), (ra, .inl (cI, 7, .inl (xRf rf (-1))))]) hP hD [0, 2] [1] rfl rfl (by decide) (by decide) hk1 hFc hP1 hD1
    generalize H1 = H at hP hS ⊢
    have hP : va_P D vwCl [(wa, .inl (cI, 70, .inl nw)), (g0, .inr (5, [.ref ra, .ref wa, .ref ta, .int kpt, .ref ma, .int mkd, .ref pa, .int tpd, .int at0, .int wel, .ref ba, .ref ka, .int srt, .ref fa, .ref qa, .ref ea, .ref za, .ref ya, .int wks])), (ra, .inl (cI, 7, .inl (xRf rf (-1))))] H := hP
    have hD : va_D A [(wa, .inl (cI, 70, .inl nw)), (g0, .inr (5, [.ref ra, .ref wa, .ref ta, .int kpt, .ref ma, .int mkd, .ref pa, .int tpd, .int at0, .int wel, .ref ba, .ref ka, .int srt, .ref fa, .ref qa, .ref ea, .ref za, .ref ya, .int wks])), (ra, .inl (cI, 7, .inl (xRf rf (-1))))] := hD
    obtain rfl : ((-1) : Int32) = r_3 := Eq.symm hw
    have hP9 := hP.sub (ws' := [(g0, .inr (5, [.ref ra, .ref wa, .ref ta, .int kpt, .ref ma, .int mkd, .ref pa, .int tpd, .int at0, .int wel, .ref ba, .ref ka, .int srt, .ref fa, .ref qa, .ref ea, .ref za, .ref ya, .int wks])), (wa, .inl (cI, 70, .inl nw)), (ra, .inl (cI, 7, .inl (xRf rf (-1))))]) [1, 0, 2] rfl
    have hD9 := hD.sub (ws' := [(g0, .inr (5, [.ref ra, .ref wa, .ref ta, .int kpt, .ref ma, .int mkd, .ref pa, .int tpd, .int at0, .int wel, .ref ba, .ref ka, .int srt, .ref fa, .ref qa, .ref ea, .ref za, .ref ya, .int wks])), (wa, .inl (cI, 70, .inl nw)), (ra, .inl (cI, 7, .inl (xRf rf (-1))))]) [1, 0, 2] (by decide) rfl
    have hE9 : ([(g0, .inr (5, [.ref ra, .ref wa, .ref ta, .int kpt, .ref ma, .int mkd, .ref pa, .int tpd, .int at0, .int wel, .ref ba, .ref ka, .int srt, .ref fa, .ref qa, .ref ea, .ref za, .ref ya, .int wks])), (wa, .inl (cI, 70, .inl nw)), (ra, .inl (cI, 7, .inl (xRf rf (-1))))] : va_W) = [(g0, .inr (5, [.ref ra, .ref wa, .ref ta, .int kpt, .ref ma, .int mkd, .ref pa, .int tpd, .int at0, .int wel, .ref ba, .ref ka, .int srt, .ref fa, .ref qa, .ref ea, .ref za, .ref ya, .int wks])), (wa, .inl (cI, 70, .inl nw)), (ra, .inl (cI, 7, .inl (xRq rf (q5T ln st a1 a2))))] := by simp [xRq, q5T, v5T, h_1, c_2]
    exact W.iret (v := -1) hx hb hr (fun t ht hW => ⟨⟨_, (), rfl, by simp [q5T, v5T, h_1, c_2], by rw [ht]; exact hE9 ▸ hP9, hE9 ▸ hD9⟩, hS.F ht⟩) hS.2.2 dX5_there_21
  obtain ⟨j0, rfl, hj0⟩ := sNL_ok (by omega) h_1
  have h_0 := Classical.not_not.mp h_1
  have ha0 : j0 ≤ 2 := by omega
  refine lv_aload_n hx hb dX5_there_0 rfl (lv_at hl 0 rfl) ?_
  refine lv_iload_n hx hb dX5_there_1 rfl (lv_at hl 1 rfl) ?_
  have hPc := hP.sub (ws' := [(g0, .inr (5, [.ref ra, .ref wa, .ref ta, .int kpt, .ref ma, .int mkd, .ref pa, .int tpd, .int at0, .int wel, .ref ba, .ref ka, .int srt, .ref fa, .ref qa, .ref ea, .ref za, .ref ya, .int wks])), (wa, .inl (cI, 70, .inl nw))]) [0, 1] rfl
  refine vp_callSi (va_Run.run (va_runV (As := [.int (nI j0)]) (rest := []) ⟨hx, hb, hml, hown, hts⟩ (g_X5_isNoLine l D cI cL cZ cC g0 ra wa ta ma pa ba ka fa qa ea za ya kpt mkd tpd at0 wel srt wks st nw ln (nI j0) (by first | assumption | decide +kernel) (by first | assumption | decide +kernel) (by first | assumption | decide +kernel) (by first | assumption | decide +kernel) (by first | assumption | decide +kernel)) (cwV 1 hts gX5_there_X5_isNoLine rfl rfl rfl (by decide +kernel) ⟨Nat.le_of_ble_eq_true rfl, Nat.le_of_ble_eq_true rfl⟩) ⟨xPc_bl, va_recv hK hPc (ci := 5) (q0 := 0) rfl rfl, xPc_use hPc hK⟩ rfl rfl hl.1 rfl (lv_room (Nat.le_of_ble_eq_true rfl)) dX5_there_2 ⟨Nat.le_of_ble_eq_true rfl, Nat.le_of_ble_eq_true rfl⟩)) (fun r_4 er_4 => ?_)
  obtain rfl : (sNL ln (nI j0) : Int32) = r_4 := Eq.symm er_4
  refine xv_int (y := 0) (h_0) ?_
  refine lv_if_ne (tgt := 16) hx hb dX5_there_5 (by decide) (fun c_5 => absurd c_5 (by decide +kernel)) (fun c_5 => ?_)
  refine lv_aload_n hx hb dX5_there_8 rfl (lv_at hl 0 rfl) ?_
  refine lv_iload_n hx hb dX5_there_9 rfl (lv_at hl 2 rfl) ?_
  have hPc := hP.sub (ws' := [(g0, .inr (5, [.ref ra, .ref wa, .ref ta, .int kpt, .ref ma, .int mkd, .ref pa, .int tpd, .int at0, .int wel, .ref ba, .ref ka, .int srt, .ref fa, .ref qa, .ref ea, .ref za, .ref ya, .int wks])), (wa, .inl (cI, 70, .inl nw))]) [0, 1] rfl
  refine vp_callSi (va_Run.run (va_runV (As := [.int a2]) (rest := []) ⟨hx, hb, hml, hown, hts⟩ (g_X5_isNoStop l D cI cL cZ cC g0 ra wa ta ma pa ba ka fa qa ea za ya kpt mkd tpd at0 wel srt wks st nw a2 (by first | assumption | decide +kernel) (by first | assumption | decide +kernel) (by first | assumption | decide +kernel)) (cwV 1 hts gX5_there_X5_isNoStop rfl rfl rfl (by decide +kernel) ⟨Nat.le_of_ble_eq_true rfl, Nat.le_of_ble_eq_true rfl⟩) ⟨xPc_bl, va_recv hK hPc (ci := 5) (q0 := 0) rfl rfl, xPc_use hPc hK⟩ rfl rfl hl.1 rfl (lv_room (Nat.le_of_ble_eq_true rfl)) dX5_there_10 ⟨Nat.le_of_ble_eq_true rfl, Nat.le_of_ble_eq_true rfl⟩)) (fun r_6 er_6 => ?_)
  obtain rfl : (sNL st a2 : Int32) = r_6 := Eq.symm er_6
  refine lv_if_eq (tgt := 22) hx hb dX5_there_13 (by decide) (fun c_7 => ?_) (fun c_7 => ?_)
  · obtain ⟨t0, rfl, ht0⟩ := sNL_ok (by omega) (not_not_intro c_7)
    refine lv_aload_n hx hb dX5_there_22 rfl (lv_at hl 0 rfl) ?_
    refine lv_iload_n hx hb dX5_there_23 rfl (lv_at hl 1 rfl) ?_
    refine lv_iload_n hx hb dX5_there_24 rfl (lv_at hl 2 rfl) ?_
    have hPc := hP.sub (ws' := [(g0, .inr (5, [.ref ra, .ref wa, .ref ta, .int kpt, .ref ma, .int mkd, .ref pa, .int tpd, .int at0, .int wel, .ref ba, .ref ka, .int srt, .ref fa, .ref qa, .ref ea, .ref za, .ref ya, .int wks])), (wa, .inl (cI, 70, .inl nw))]) [0, 1] rfl
    refine vp_callSi (va_Run.run (va_runV (As := [.int (nI j0), .int (nI t0)]) (rest := []) ⟨hx, hb, hml, hown, hts⟩ (g_X5_halts l D cI cL cZ cC g0 ra wa ta ma pa ba ka fa qa ea za ya kpt mkd tpd at0 wel srt wks st nw j0 (nI t0) (by first | assumption | decide +kernel) (by first | assumption | decide +kernel) (by first | assumption | decide +kernel) (by omega)) (cwV 2 hts gX5_there_X5_halts rfl rfl rfl (by decide +kernel) ⟨Nat.le_of_ble_eq_true rfl, Nat.le_of_ble_eq_true rfl⟩) ⟨xPc_bl, va_recv hK hPc (ci := 5) (q0 := 0) rfl rfl, xPc_use hPc hK⟩ rfl rfl hl.1 rfl (lv_room (Nat.le_of_ble_eq_true rfl)) dX5_there_25 ⟨Nat.le_of_ble_eq_true rfl, Nat.le_of_ble_eq_true rfl⟩)) (fun r_8 er_8 => ?_)
    obtain rfl : (sHalt (nw (20 + 16 * j0)) (nI t0) (nI (st - 1)) : Int32) = r_8 := Eq.symm er_8
    refine lv_if_eq (tgt := 40) hx hb dX5_there_28 (by decide) (fun c_9 => ?_) (fun c_9 => ?_)
    · refine lv_bipush (v := -9) hx hb dX5_there_40 (by decide) ?_
      have hP9 := hP.sub (ws' := [(g0, .inr (5, [.ref ra, .ref wa, .ref ta, .int kpt, .ref ma, .int mkd, .ref pa, .int tpd, .int at0, .int wel, .ref ba, .ref ka, .int srt, .ref fa, .ref qa, .ref ea, .ref za, .ref ya, .int wks])), (wa, .inl (cI, 70, .inl nw)), (ra, .inl (cI, 7, .inl rf))]) [0, 1, 2] rfl
      have hD9 := hD.sub (ws' := [(g0, .inr (5, [.ref ra, .ref wa, .ref ta, .int kpt, .ref ma, .int mkd, .ref pa, .int tpd, .int at0, .int wel, .ref ba, .ref ka, .int srt, .ref fa, .ref qa, .ref ea, .ref za, .ref ya, .int wks])), (wa, .inl (cI, 70, .inl nw)), (ra, .inl (cI, 7, .inl rf))]) [0, 1, 2] (by decide) rfl
      have hE9 : ([(g0, .inr (5, [.ref ra, .ref wa, .ref ta, .int kpt, .ref ma, .int mkd, .ref pa, .int tpd, .int at0, .int wel, .ref ba, .ref ka, .int srt, .ref fa, .ref qa, .ref ea, .ref za, .ref ya, .int wks])), (wa, .inl (cI, 70, .inl nw)), (ra, .inl (cI, 7, .inl rf))] : va_W) = [(g0, .inr (5, [.ref ra, .ref wa, .ref ta, .int kpt, .ref ma, .int mkd, .ref pa, .int tpd, .int at0, .int wel, .ref ba, .ref ka, .int srt, .ref fa, .ref qa, .ref ea, .ref za, .ref ya, .int wks])), (wa, .inl (cI, 70, .inl nw)), (ra, .inl (cI, 7, .inl (xRq rf (q5T ln st (nI j0) (nI t0)))))] := by simp [xRq, q5T, v5T, h_0, c_5, c_7, c_9]
      exact W.iret (v := -9) hx hb hr (fun t ht hW => ⟨⟨_, (), rfl, by simp [q5T, v5T, h_0, c_5, c_7, c_9, nI_clamp (show j0 < 2 ^ 31 by omega), nI_clamp (show t0 < 2 ^ 31 by omega)], by rw [ht]; exact hE9 ▸ hP9, hE9 ▸ hD9⟩, hS.F ht⟩) hS.2.2 dX5_there_42
    · refine lv_aload_n hx hb dX5_there_31 rfl (lv_at hl 0 rfl) ?_
      refine lv_iload_n hx hb dX5_there_32 rfl (lv_at hl 1 rfl) ?_
      refine lv_iload_n hx hb dX5_there_33 rfl (lv_at hl 2 rfl) ?_
      have hPc := hP.sub (ws' := [(g0, .inr (5, [.ref ra, .ref wa, .ref ta, .int kpt, .ref ma, .int mkd, .ref pa, .int tpd, .int at0, .int wel, .ref ba, .ref ka, .int srt, .ref fa, .ref qa, .ref ea, .ref za, .ref ya, .int wks])), (wa, .inl (cI, 70, .inl nw))]) [0, 1] rfl
      refine vp_callSi (va_Run.run (va_runV (As := [.int (nI j0), .int (nI t0)]) (rest := []) ⟨hx, hb, hml, hown, hts⟩ (g_X5_to l D cI cL cZ cC g0 ra wa ta ma pa ba ka fa qa ea za ya kpt mkd tpd at0 wel srt wks st nw j0 t0 (by first | assumption | decide +kernel) (by first | assumption | decide +kernel) (by first | assumption | decide +kernel) (by omega) (by omega)) (cwV 2 hts gX5_there_X5_to rfl rfl rfl (by decide +kernel) ⟨Nat.le_of_ble_eq_true rfl, Nat.le_of_ble_eq_true rfl⟩) ⟨xPc_bl, va_recv hK hPc (ci := 5) (q0 := 0) rfl rfl, xPc_use hPc hK⟩ rfl rfl hl.1 rfl (lv_room (Nat.le_of_ble_eq_true rfl)) dX5_there_34 ⟨Nat.le_of_ble_eq_true rfl, Nat.le_of_ble_eq_true rfl⟩)) (fun r_10 er_10 => ?_)
      obtain rfl : (xSm (fun i => sRd (nw (20 + 16 * j0)) (nw (20 + 16 * j0 + 1)) (nI i)) t0 : Int32) = r_10 := Eq.symm er_10
      refine lv_goto (tgt := 42) hx hb dX5_there_37 (by decide) ?_
      have hP9 := hP.sub (ws' := [(g0, .inr (5, [.ref ra, .ref wa, .ref ta, .int kpt, .ref ma, .int mkd, .ref pa, .int tpd, .int at0, .int wel, .ref ba, .ref ka, .int srt, .ref fa, .ref qa, .ref ea, .ref za, .ref ya, .int wks])), (wa, .inl (cI, 70, .inl nw)), (ra, .inl (cI, 7, .inl rf))]) [0, 1, 2] rfl
      have hD9 := hD.sub (ws' := [(g0, .inr (5, [.ref ra, .ref wa, .ref ta, .int kpt, .ref ma, .int mkd, .ref pa, .int tpd, .int at0, .int wel, .ref ba, .ref ka, .int srt, .ref fa, .ref qa, .ref ea, .ref za, .ref ya, .int wks])), (wa, .inl (cI, 70, .inl nw)), (ra, .inl (cI, 7, .inl rf))]) [0, 1, 2] (by decide) rfl
      have hE9 : ([(g0, .inr (5, [.ref ra, .ref wa, .ref ta, .int kpt, .ref ma, .int mkd, .ref pa, .int tpd, .int at0, .int wel, .ref ba, .ref ka, .int srt, .ref fa, .ref qa, .ref ea, .ref za, .ref ya, .int wks])), (wa, .inl (cI, 70, .inl nw)), (ra, .inl (cI, 7, .inl rf))] : va_W) = [(g0, .inr (5, [.ref ra, .ref wa, .ref ta, .int kpt, .ref ma, .int mkd, .ref pa, .int tpd, .int at0, .int wel, .ref ba, .ref ka, .int srt, .ref fa, .ref qa, .ref ea, .ref za, .ref ya, .int wks])), (wa, .inl (cI, 70, .inl nw)), (ra, .inl (cI, 7, .inl (xRq rf (q5T ln st (nI j0) (nI t0)))))] := by simp [xRq, q5T, v5T, h_0, c_5, c_7, c_9]
      exact W.iret (v := xSm (fun i => sRd (nw (20 + 16 * j0)) (nw (20 + 16 * j0 + 1)) (nI i)) t0) hx hb hr (fun t ht hW => ⟨⟨_, (), rfl, by simp [q5T, v5T, h_0, c_5, c_7, c_9, nI_clamp (show j0 < 2 ^ 31 by omega), nI_clamp (show t0 < 2 ^ 31 by omega)], by rw [ht]; exact hE9 ▸ hP9, hE9 ▸ hD9⟩, hS.F ht⟩) hS.2.2 dX5_there_42
  · refine lv_aload_n hx hb dX5_there_16 rfl (lv_at hl 0 rfl) ?_
    refine lv_iconst (v := -1) hx hb dX5_there_17 (by decide) ?_
    have hPc := hP.sub (ws' := [(g0, .inr (5, [.ref ra, .ref wa, .ref ta, .int kpt, .ref ma, .int mkd, .ref pa, .int tpd, .int at0, .int wel, .ref ba, .ref ka, .int srt, .ref fa, .ref qa, .ref ea, .ref za, .ref ya, .int wks])), (ra, .inl (cI, 7, .inl rf))]) [0, 2] rfl
    have hDc := hD.sub (ws' := [(g0, .inr (5, [.ref ra, .ref wa, .ref ta, .int kpt, .ref ma, .int mkd, .ref pa, .int tpd, .int at0, .int wel, .ref ba, .ref ka, .int srt, .ref fa, .ref qa, .ref ea, .ref za, .ref ya, .int wks])), (ra, .inl (cI, 7, .inl rf))]) [0, 2] (by decide) rfl
    have hFc := va_free (wc := [(g0, .inr (5, [.ref ra, .ref wa, .ref ta, .int kpt, .ref ma, .int mkd, .ref pa, .int tpd, .int at0, .int wel, .ref ba, .ref ka, .int srt, .ref fa, .ref qa, .ref ea, .ref za, .ref ya, .int wks])), (ra, .inl (cI, 7, .inl rf))]) hD hS hA [0, 2] rfl
    refine va_calli (va_runV (As := [.int (-1)]) (rest := []) ⟨hx, hb, hml, hown, hts⟩ (g_X5_no l D cI cL cZ cC _ g0 ra wa ta ma pa ba ka fa qa ea za ya kpt mkd tpd at0 wel srt wks rf (-1) (by first | assumption | decide +kernel) (by first | assumption | decide +kernel)) (cwV 1 hts gX5_there_X5_no rfl rfl rfl (by decide +kernel) ⟨Nat.le_of_ble_eq_true rfl, Nat.le_of_ble_eq_true rfl⟩) ⟨wPc_bl, va_recv hK hPc (ci := 5) (q0 := 0) rfl rfl, wPc_use hPc hK hDc⟩ rfl rfl hl.1 rfl (lv_room (Nat.le_of_ble_eq_true rfl)) dX5_there_18 ⟨Nat.le_of_ble_eq_true rfl, Nat.le_of_ble_eq_true rfl⟩) hS (fun q _ h => hFc q h) hFc (fun r_11 u_11 t H1 locs ht hvm hw hB hz1 hk1 hS => ?_)
    obtain ⟨hP1, hD1⟩ := hB
    rw [ht] at hP1
    obtain ⟨hP, hD⟩ := va_join (wr := [(wa, .inl (cI, 70, .inl nw))]) (w1 := [(g0, .inr (5, [.ref ra, .ref wa, .ref ta, .int kpt, .ref ma, .int mkd, .ref pa, .int tpd, .int at0, .int wel, .ref ba, .ref ka, .int srt, .ref fa, .ref qa, .ref ea, .ref za, .ref ya, .int wks])), (ra, .inl (cI, 7, .inl (xRf rf (-1))))]) hP hD [0, 2] [1] rfl rfl (by decide) (by decide) hk1 hFc hP1 hD1
    generalize H1 = H at hP hS ⊢
    have hP : va_P D vwCl [(wa, .inl (cI, 70, .inl nw)), (g0, .inr (5, [.ref ra, .ref wa, .ref ta, .int kpt, .ref ma, .int mkd, .ref pa, .int tpd, .int at0, .int wel, .ref ba, .ref ka, .int srt, .ref fa, .ref qa, .ref ea, .ref za, .ref ya, .int wks])), (ra, .inl (cI, 7, .inl (xRf rf (-1))))] H := hP
    have hD : va_D A [(wa, .inl (cI, 70, .inl nw)), (g0, .inr (5, [.ref ra, .ref wa, .ref ta, .int kpt, .ref ma, .int mkd, .ref pa, .int tpd, .int at0, .int wel, .ref ba, .ref ka, .int srt, .ref fa, .ref qa, .ref ea, .ref za, .ref ya, .int wks])), (ra, .inl (cI, 7, .inl (xRf rf (-1))))] := hD
    obtain rfl : ((-1) : Int32) = r_11 := Eq.symm hw
    have hP9 := hP.sub (ws' := [(g0, .inr (5, [.ref ra, .ref wa, .ref ta, .int kpt, .ref ma, .int mkd, .ref pa, .int tpd, .int at0, .int wel, .ref ba, .ref ka, .int srt, .ref fa, .ref qa, .ref ea, .ref za, .ref ya, .int wks])), (wa, .inl (cI, 70, .inl nw)), (ra, .inl (cI, 7, .inl (xRf rf (-1))))]) [1, 0, 2] rfl
    have hD9 := hD.sub (ws' := [(g0, .inr (5, [.ref ra, .ref wa, .ref ta, .int kpt, .ref ma, .int mkd, .ref pa, .int tpd, .int at0, .int wel, .ref ba, .ref ka, .int srt, .ref fa, .ref qa, .ref ea, .ref za, .ref ya, .int wks])), (wa, .inl (cI, 70, .inl nw)), (ra, .inl (cI, 7, .inl (xRf rf (-1))))]) [1, 0, 2] (by decide) rfl
    have hE9 : ([(g0, .inr (5, [.ref ra, .ref wa, .ref ta, .int kpt, .ref ma, .int mkd, .ref pa, .int tpd, .int at0, .int wel, .ref ba, .ref ka, .int srt, .ref fa, .ref qa, .ref ea, .ref za, .ref ya, .int wks])), (wa, .inl (cI, 70, .inl nw)), (ra, .inl (cI, 7, .inl (xRf rf (-1))))] : va_W) = [(g0, .inr (5, [.ref ra, .ref wa, .ref ta, .int kpt, .ref ma, .int mkd, .ref pa, .int tpd, .int at0, .int wel, .ref ba, .ref ka, .int srt, .ref fa, .ref qa, .ref ea, .ref za, .ref ya, .int wks])), (wa, .inl (cI, 70, .inl nw)), (ra, .inl (cI, 7, .inl (xRq rf (q5T ln st (nI j0) a2))))] := by simp [xRq, q5T, v5T, h_0, c_5, c_7]
    exact W.iret (v := -1) hx hb hr (fun t ht hW => ⟨⟨_, (), rfl, by simp [q5T, v5T, h_0, c_5, c_7, nI_clamp (show j0 < 2 ^ 31 by omega)], by rw [ht]; exact hE9 ▸ hP9, hE9 ▸ hD9⟩, hS.F ht⟩) hS.2.2 dX5_there_21

set_option maxHeartbeats 4000000 in
set_option maxRecDepth 100000 in
theorem g_X5_walked (l : Launch) (D : va_G) (cI cL cZ cC : ClassId) (g0 : Nat) (ra : Nat) (wa : Nat) (ta : Nat) (ma : Nat) (pa : Nat) (ba : Nat) (ka : Nat) (fa : Nat) (qa : Nat) (ea : Nat) (za : Nat) (ya : Nat) (kpt : Int32) (mkd : Int32) (tpd : Int32) (at0 : Int32) (wel : Int32) (srt : Int32) (wks : Int32) (st : Nat) (nw : Nat → Int32) (hn0 : nw 0 = nI st) (hs1 : 1 ≤ st) (hs7 : st ≤ 7) (hq2 : ¬ nw 2 = 0) : Met l yX5_walked wsX5_walked ({ frames := 3, cells := 0, slots := 0, locals := 66 } : Room) (xPc D [.ref g0] [(g0, .inr (5, [.ref ra, .ref wa, .ref ta, .int kpt, .ref ma, .int mkd, .ref pa, .int tpd, .int at0, .int wel, .ref ba, .ref ka, .int srt, .ref fa, .ref qa, .ref ea, .ref za, .ref ya, .int wks])), (wa, .inl (cI, 70, .inl nw))] (xTy cI cL cZ cC)) (vp_Si (fun r : Int32 => r = xRs nw st 0)) 0 0 (fun _ => False) := by
  refine Met.ofW (cc := cX5_walked) (maxL := 1) (ret := (some .int)) (by decide) rfl ?_
  intro p e s m args below meth c s₁ B hml hv
  obtain ⟨rfl, hP, hK⟩ := hv
  have hx := B.exec
  have hb := B.bytes
  have hr := B.returns
  have hts := atoms_spec (ws := wsX5_walked) B.pre
  have hown : s.vm.findClass RX5 = some m.cls := findClass_of_methodNamed B.named
  have hlocks := B.notSynchronized
  have hl := lv_entry ([.ref g0]) (n := 1) (Nat.le_of_ble_eq_true rfl)
  rw [lg_entry_eq]
  generalize (lg_sl ([.ref g0]) ++ List.replicate (1 - (lg_sl ([.ref g0])).length) Slot.unset).toArray = ls at hl ⊢
  have hl : lv_has ls 1 [(0, .ref g0)] := hl
  refine lv_aload_n hx hb dX5_walked_0 rfl (lv_at hl 0 rfl) ?_
  refine lv_iconst (v := 0) hx hb dX5_walked_1 (by decide) ?_
  have hPc := hP.sub (ws' := [(g0, .inr (5, [.ref ra, .ref wa, .ref ta, .int kpt, .ref ma, .int mkd, .ref pa, .int tpd, .int at0, .int wel, .ref ba, .ref ka, .int srt, .ref fa, .ref qa, .ref ea, .ref za, .ref ya, .int wks])), (wa, .inl (cI, 70, .inl nw))]) [0, 1] rfl
  refine vp_callSi (va_Run.run (va_runV (As := [.int 0]) (rest := []) ⟨hx, hb, hml, hown, hts⟩ (g_X5_rest l D cI cL cZ cC g0 ra wa ta ma pa ba ka fa qa ea za ya kpt mkd tpd at0 wel srt wks st nw 0 (by first | assumption | decide +kernel) (by first | assumption | decide +kernel) (by first | assumption | decide +kernel) (by omega) (hq2)) (cwV 1 hts gX5_walked_X5_rest rfl rfl rfl (by decide +kernel) ⟨Nat.le_of_ble_eq_true rfl, Nat.le_of_ble_eq_true rfl⟩) ⟨xPc_bl, va_recv hK hPc (ci := 5) (q0 := 0) rfl rfl, xPc_use hPc hK⟩ rfl rfl hl.1 rfl (lv_room (Nat.le_of_ble_eq_true rfl)) dX5_walked_2 ⟨Nat.le_of_ble_eq_true rfl, Nat.le_of_ble_eq_true rfl⟩)) (fun r_1 er_1 => ?_)
  obtain rfl : (xRs nw st 0 : Int32) = r_1 := Eq.symm er_1
  exact W.iret (v := xRs nw st 0) hx hb hr (fun t ht hW => ⟨_, rfl, rfl, ht⟩) (fun _ h => absurd h List.not_mem_nil) dX5_walked_5

/-! the reference: back -/
def v5B (st : Nat) (nw : Nat → Int32) (a1 a2 : Int32) : Int32 := if (if nI a1.toNatClampNeg = nI (st - 1) then nw 1 else nw (10 + a1.toNatClampNeg + 1)) < a2 * nw 2 then (if nI a1.toNatClampNeg = nI (st - 1) then nw 1 else nw (10 + a1.toNatClampNeg + 1)) else a2 * nw 2

set_option maxHeartbeats 4000000 in
set_option maxRecDepth 100000 in
theorem g_X5_back (l : Launch) (D : va_G) (cI cL cZ cC : ClassId) (sz : Nat) (g0 : Nat) (ra : Nat) (wa : Nat) (ta : Nat) (ma : Nat) (pa : Nat) (ba : Nat) (ka : Nat) (fa : Nat) (qa : Nat) (ea : Nat) (za : Nat) (ya : Nat) (kpt : Int32) (mkd : Int32) (tpd : Int32) (at0 : Int32) (wel : Int32) (srt : Int32) (wks : Int32) (st : Nat) (nw : Nat → Int32) (ln : Nat) (rf : Nat → Int32) (a1 : Int32) (a2 : Int32) (hn0 : nw 0 = nI st) (hs1 : 1 ≤ st) (hs7 : st ≤ 7) (hn3 : nw 3 = nI ln) (hln : ln ≤ 3) (hq2 : ¬ nw 2 = 0) : Met l yX5_back wsX5_back ({ frames := 1, cells := 0, slots := 0, locals := 21 } : Room) (wPc D [.ref g0, .int a1, .int a2] [(g0, .inr (5, [.ref ra, .ref wa, .ref ta, .int kpt, .ref ma, .int mkd, .ref pa, .int tpd, .int at0, .int wel, .ref ba, .ref ka, .int srt, .ref fa, .ref qa, .ref ea, .ref za, .ref ya, .int wks])), (wa, .inl (cI, 70, .inl nw)), (ra, .inl (cI, 7, .inl rf))] (xTy cI cL cZ cC) sz) (va_Qi (fun (r : Int32) (_ : Unit) => r = if qBa st a1 a2 = 0 then v5B st nw a1 a2 else qBa st a1 a2) (fun (_ : Unit) t => va_P D vwCl [(g0, .inr (5, [.ref ra, .ref wa, .ref ta, .int kpt, .ref ma, .int mkd, .ref pa, .int tpd, .int at0, .int wel, .ref ba, .ref ka, .int srt, .ref fa, .ref qa, .ref ea, .ref za, .ref ya, .int wks])), (wa, .inl (cI, 70, .inl nw)), (ra, .inl (cI, 7, .inl (xRq rf (qBa st a1 a2))))] t.heap ∧ va_D (va_A [(g0, .inr (5, [.ref ra, .ref wa, .ref ta, .int kpt, .ref ma, .int mkd, .ref pa, .int tpd, .int at0, .int wel, .ref ba, .ref ka, .int srt, .ref fa, .ref qa, .ref ea, .ref za, .ref ya, .int wks])), (wa, .inl (cI, 70, .inl nw)), (ra, .inl (cI, 7, .inl rf))] sz) [(g0, .inr (5, [.ref ra, .ref wa, .ref ta, .int kpt, .ref ma, .int mkd, .ref pa, .int tpd, .int at0, .int wel, .ref ba, .ref ka, .int srt, .ref fa, .ref qa, .ref ea, .ref za, .ref ya, .int wks])), (wa, .inl (cI, 70, .inl nw)), (ra, .inl (cI, 7, .inl (xRq rf (qBa st a1 a2))))]) (va_A [(g0, .inr (5, [.ref ra, .ref wa, .ref ta, .int kpt, .ref ma, .int mkd, .ref pa, .int tpd, .int at0, .int wel, .ref ba, .ref ka, .int srt, .ref fa, .ref qa, .ref ea, .ref za, .ref ya, .int wks])), (wa, .inl (cI, 70, .inl nw)), (ra, .inl (cI, 7, .inl rf))] sz)) 0 0 (va_A [(g0, .inr (5, [.ref ra, .ref wa, .ref ta, .int kpt, .ref ma, .int mkd, .ref pa, .int tpd, .int at0, .int wel, .ref ba, .ref ka, .int srt, .ref fa, .ref qa, .ref ea, .ref za, .ref ya, .int wks])), (wa, .inl (cI, 70, .inl nw)), (ra, .inl (cI, 7, .inl rf))] sz) := by
  refine Met.ofW (cc := cX5_back) (maxL := 3) (ret := (some .int)) (by decide) rfl ?_
  intro p e s m args below meth c s₁ B hml hv
  obtain ⟨rfl, hsz, hP, hK, hD0⟩ := hv
  have hx := B.exec
  have hb := B.bytes
  have hr := B.returns
  have hts := atoms_spec (ws := wsX5_back) B.pre
  have hown : s.vm.findClass RX5 = some m.cls := findClass_of_methodNamed B.named
  have hlocks := B.notSynchronized
  have hwX5 : ∀ w ∈ u_ws RX5 TX5 19, w ∈ wsX5_back := fun _ h => List.mem_cons_of_mem _ (List.mem_append_right _ h)
  subst hsz
  have hD := hD0.self (sz := s.heap.size)
  generalize hAe : va_A [(g0, .inr (5, [.ref ra, .ref wa, .ref ta, .int kpt, .ref ma, .int mkd, .ref pa, .int tpd, .int at0, .int wel, .ref ba, .ref ka, .int srt, .ref fa, .ref qa, .ref ea, .ref za, .ref ya, .int wks])), (wa, .inl (cI, 70, .inl nw)), (ra, .inl (cI, 7, .inl rf))] s.heap.size = A at hD ⊢
  have hA : ∀ q : Nat, s.heap.size ≤ q → A q := fun q h => by rw [← hAe]; exact Or.inr h
  have hS : va_S A s.heap s.heap [] := va_S.rf
  have hP : va_P D vwCl [(g0, .inr (5, [.ref ra, .ref wa, .ref ta, .int kpt, .ref ma, .int mkd, .ref pa, .int tpd, .int at0, .int wel, .ref ba, .ref ka, .int srt, .ref fa, .ref qa, .ref ea, .ref za, .ref ya, .int wks])), (wa, .inl (cI, 70, .inl nw)), (ra, .inl (cI, 7, .inl rf))] s.heap := hP
  have hl := lv_entry ([.ref g0, .int a1, .int a2]) (n := 3) (Nat.le_of_ble_eq_true rfl)
  rw [lg_entry_eq]
  generalize (lg_sl ([.ref g0, .int a1, .int a2]) ++ List.replicate (3 - (lg_sl ([.ref g0, .int a1, .int a2])).length) Slot.unset).toArray = ls at hl ⊢
  have hl : lv_has ls 3 [(0, .ref g0), (1, .int a1), (2, .int a2)] := hl
  by_cases h_1 : ¬ sNL st a1 = 0
  · refine lv_aload_n hx hb dX5_back_0 rfl (lv_at hl 0 rfl) ?_
    refine lv_iload_n hx hb dX5_back_1 rfl (lv_at hl 1 rfl) ?_
    have hPc := hP.sub (ws' := [(g0, .inr (5, [.ref ra, .ref wa, .ref ta, .int kpt, .ref ma, .int mkd, .ref pa, .int tpd, .int at0, .int wel, .ref ba, .ref ka, .int srt, .ref fa, .ref qa, .ref ea, .ref za, .ref ya, .int wks])), (wa, .inl (cI, 70, .inl nw))]) [0, 1] rfl
    refine vp_callSi (va_Run.run (va_runV (As := [.int a1]) (rest := []) ⟨hx, hb, hml, hown, hts⟩ (g_X5_isNoStop l D cI cL cZ cC g0 ra wa ta ma pa ba ka fa qa ea za ya kpt mkd tpd at0 wel srt wks st nw a1 (by first | assumption | decide +kernel) (by first | assumption | decide +kernel) (by first | assumption | decide +kernel)) (cwV 1 hts gX5_back_X5_isNoStop rfl rfl rfl (by decide +kernel) ⟨Nat.le_of_ble_eq_true rfl, Nat.le_of_ble_eq_true rfl⟩) ⟨xPc_bl, va_recv hK hPc (ci := 5) (q0 := 0) rfl rfl, xPc_use hPc hK⟩ rfl rfl hl.1 rfl (lv_room (Nat.le_of_ble_eq_true rfl)) dX5_back_2 ⟨Nat.le_of_ble_eq_true rfl, Nat.le_of_ble_eq_true rfl⟩)) (fun r_1 er_1 => ?_)
    obtain rfl : (sNL st a1 : Int32) = r_1 := Eq.symm er_1
    refine xv_int (y := 1) (sNL_bad h_1) ?_
    refine lv_if_eq (tgt := 14) hx hb dX5_back_5 (by decide) (fun c_2 => absurd c_2 (by decide +kernel)) (fun c_2 => ?_)
    refine lv_aload_n hx hb dX5_back_8 rfl (lv_at hl 0 rfl) ?_
    refine lv_iconst (v := -1) hx hb dX5_back_9 (by decide) ?_
    have hPc := hP.sub (ws' := [(g0, .inr (5, [.ref ra, .ref wa, .ref ta, .int kpt, .ref ma, .int mkd, .ref pa, .int tpd, .int at0, .int wel, .ref ba, .ref ka, .int srt, .ref fa, .ref qa, .ref ea, .ref za, .ref ya, .int wks])), (ra, .inl (cI, 7, .inl rf))]) [0, 2] rfl
    have hDc := hD.sub (ws' := [(g0, .inr (5, [.ref ra, .ref wa, .ref ta, .int kpt, .ref ma, .int mkd, .ref pa, .int tpd, .int at0, .int wel, .ref ba, .ref ka, .int srt, .ref fa, .ref qa, .ref ea, .ref za, .ref ya, .int wks])), (ra, .inl (cI, 7, .inl rf))]) [0, 2] (by decide) rfl
    have hFc := va_free (wc := [(g0, .inr (5, [.ref ra, .ref wa, .ref ta, .int kpt, .ref ma, .int mkd, .ref pa, .int tpd, .int at0, .int wel, .ref ba, .ref ka, .int srt, .ref fa, .ref qa, .ref ea, .ref za, .ref ya, .int wks])), (ra, .inl (cI, 7, .inl rf))]) hD hS hA [0, 2] rfl
    refine va_calli (va_runV (As := [.int (-1)]) (rest := []) ⟨hx, hb, hml, hown, hts⟩ (g_X5_no l D cI cL cZ cC _ g0 ra wa ta ma pa ba ka fa qa ea za ya kpt mkd tpd at0 wel srt wks rf (-1) (by first | assumption | decide +kernel) (by first | assumption | decide +kernel)) (cwV 1 hts gX5_back_X5_no rfl rfl rfl (by decide +kernel) ⟨Nat.le_of_ble_eq_true rfl, Nat.le_of_ble_eq_true rfl⟩) ⟨wPc_bl, va_recv hK hPc (ci := 5) (q0 := 0) rfl rfl, wPc_use hPc hK hDc⟩ rfl rfl hl.1 rfl (lv_room (Nat.le_of_ble_eq_true rfl)) dX5_back_10 ⟨Nat.le_of_ble_eq_true rfl, Nat.le_of_ble_eq_true rfl⟩) hS (fun q _ h => hFc q h) hFc (fun r_3 u_3 t H1 locs ht hvm hw hB hz1 hk1 hS => ?_)
    obtain ⟨hP1, hD1⟩ := hB
    rw [ht] at hP1
    obtain ⟨hP, hD⟩ := va_join (wr := [(wa, .inl (cI, 70, .inl nw))]) (w1 := [(g0, .inr (5, [.ref ra, .ref wa, .ref ta, .int kpt, .ref ma, .int mkd, .ref pa, .int tpd, .int at0, .int wel, .ref ba, .ref ka, .int srt, .ref fa, .ref qa, .ref ea, .ref za, .ref ya, .int wks])), (ra, .inl (cI, 7, .inl (xRf rf (-1))))]) hP hD [0, 2] [1] rfl rfl (by decide) (by decide) hk1 hFc hP1 hD1
    generalize H1 = H at hP hS ⊢
    have hP : va_P D vwCl [(wa, .inl (cI, 70, .inl nw)), (g0, .inr (5, [.ref ra, .ref wa, .ref ta, .int kpt, .ref ma, .int mkd, .ref pa, .int tpd, .int at0, .int wel, .ref ba, .ref ka, .int srt, .ref fa, .ref qa, .ref ea, .ref za, .ref ya, .int wks])), (ra, .inl (cI, 7, .inl (xRf rf (-1))))] H := hP
    have hD : va_D A [(wa, .inl (cI, 70, .inl nw)), (g0, .inr (5, [.ref ra, .ref wa, .ref ta, .int kpt, .ref ma, .int mkd, .ref pa, .int tpd, .int at0, .int wel, .ref ba, .ref ka, .int srt, .ref fa, .ref qa, .ref ea, .ref za, .ref ya, .int wks])), (ra, .inl (cI, 7, .inl (xRf rf (-1))))] := hD
    obtain rfl : ((-1) : Int32) = r_3 := Eq.symm hw
    have hP9 := hP.sub (ws' := [(g0, .inr (5, [.ref ra, .ref wa, .ref ta, .int kpt, .ref ma, .int mkd, .ref pa, .int tpd, .int at0, .int wel, .ref ba, .ref ka, .int srt, .ref fa, .ref qa, .ref ea, .ref za, .ref ya, .int wks])), (wa, .inl (cI, 70, .inl nw)), (ra, .inl (cI, 7, .inl (xRf rf (-1))))]) [1, 0, 2] rfl
    have hD9 := hD.sub (ws' := [(g0, .inr (5, [.ref ra, .ref wa, .ref ta, .int kpt, .ref ma, .int mkd, .ref pa, .int tpd, .int at0, .int wel, .ref ba, .ref ka, .int srt, .ref fa, .ref qa, .ref ea, .ref za, .ref ya, .int wks])), (wa, .inl (cI, 70, .inl nw)), (ra, .inl (cI, 7, .inl (xRf rf (-1))))]) [1, 0, 2] (by decide) rfl
    have hE9 : ([(g0, .inr (5, [.ref ra, .ref wa, .ref ta, .int kpt, .ref ma, .int mkd, .ref pa, .int tpd, .int at0, .int wel, .ref ba, .ref ka, .int srt, .ref fa, .ref qa, .ref ea, .ref za, .ref ya, .int wks])), (wa, .inl (cI, 70, .inl nw)), (ra, .inl (cI, 7, .inl (xRf rf (-1))))] : va_W) = [(g0, .inr (5, [.ref ra, .ref wa, .ref ta, .int kpt, .ref ma, .int mkd, .ref pa, .int tpd, .int at0, .int wel, .ref ba, .ref ka, .int srt, .ref fa, .ref qa, .ref ea, .ref za, .ref ya, .int wks])), (wa, .inl (cI, 70, .inl nw)), (ra, .inl (cI, 7, .inl (xRq rf (qBa st a1 a2))))] := by simp [xRq, qBa, h_1, c_2]
    exact W.iret (v := -1) hx hb hr (fun t ht hW => ⟨⟨_, (), rfl, by simp [qBa, v5B, h_1, c_2], by rw [ht]; exact hE9 ▸ hP9, hE9 ▸ hD9⟩, hS.F ht⟩) hS.2.2 dX5_back_13
  obtain ⟨j0, rfl, hj0⟩ := sNL_ok (by omega) h_1
  have h_0 := Classical.not_not.mp h_1
  refine lv_aload_n hx hb dX5_back_0 rfl (lv_at hl 0 rfl) ?_
  refine lv_iload_n hx hb dX5_back_1 rfl (lv_at hl 1 rfl) ?_
  have hPc := hP.sub (ws' := [(g0, .inr (5, [.ref ra, .ref wa, .ref ta, .int kpt, .ref ma, .int mkd, .ref pa, .int tpd, .int at0, .int wel, .ref ba, .ref ka, .int srt, .ref fa, .ref qa, .ref ea, .ref za, .ref ya, .int wks])), (wa, .inl (cI, 70, .inl nw))]) [0, 1] rfl
  refine vp_callSi (va_Run.run (va_runV (As := [.int (nI j0)]) (rest := []) ⟨hx, hb, hml, hown, hts⟩ (g_X5_isNoStop l D cI cL cZ cC g0 ra wa ta ma pa ba ka fa qa ea za ya kpt mkd tpd at0 wel srt wks st nw (nI j0) (by first | assumption | decide +kernel) (by first | assumption | decide +kernel) (by first | assumption | decide +kernel)) (cwV 1 hts gX5_back_X5_isNoStop rfl rfl rfl (by decide +kernel) ⟨Nat.le_of_ble_eq_true rfl, Nat.le_of_ble_eq_true rfl⟩) ⟨xPc_bl, va_recv hK hPc (ci := 5) (q0 := 0) rfl rfl, xPc_use hPc hK⟩ rfl rfl hl.1 rfl (lv_room (Nat.le_of_ble_eq_true rfl)) dX5_back_2 ⟨Nat.le_of_ble_eq_true rfl, Nat.le_of_ble_eq_true rfl⟩)) (fun r_4 er_4 => ?_)
  obtain rfl : (sNL st (nI j0) : Int32) = r_4 := Eq.symm er_4
  refine xv_int (y := 0) (h_0) ?_
  refine lv_if_eq (tgt := 14) hx hb dX5_back_5 (by decide) (fun c_5 => ?_) (fun c_5 => absurd c_5 (by decide +kernel))
  refine lv_iload_n hx hb dX5_back_14 rfl (lv_at hl 2 rfl) ?_
  refine lv_if_ge (tgt := 25) hx hb dX5_back_15 (by decide) (fun c_6 => ?_) (fun c_6 => ?_)
  · refine lv_iload_n hx hb dX5_back_25 rfl (lv_at hl 2 rfl) ?_
    refine lv_bipush (v := 30) hx hb dX5_back_26 (by decide) ?_
    refine lv_icmp_le (tgt := 38) hx hb dX5_back_28 (by decide) (fun c_7 => ?_) (fun c_7 => ?_)
    · refine lv_iload_n hx hb dX5_back_38 rfl (lv_at hl 2 rfl) ?_
      refine lv_aload_n hx hb dX5_back_39 rfl (lv_at hl 0 rfl) ?_
      refine va_get (D := D) (ci := 5) (v := .ref wa) (C := RX5) (T := TX5) (N := 19) hx hb hts hwX5 hown hK hP 0 rfl rfl 1 (by decide) (hts (.fieldLink RX5 19 "WaitOrWalkOnModel" "now" "[I") (by decide +kernel)) (fun _ h9 => h9) rfl dX5_back_40 ?_
      refine lv_iconst (v := 2) hx hb dX5_back_43 (by decide) ?_
      refine va_iald (D := D) hx hb hK hP 1 0 rfl rfl (by unfold vp_in; decide +kernel) dX5_back_44 ?_
      refine xv_int (y := nw 2) rfl ?_
      refine lv_imul hx hb dX5_back_45 ?_
      refine lv_iload_n hx hb dX5_back_46 rfl (lv_at hl 1 rfl) ?_
      refine lv_aload_n hx hb dX5_back_47 rfl (lv_at hl 0 rfl) ?_
      refine va_get (D := D) (ci := 5) (v := .ref wa) (C := RX5) (T := TX5) (N := 19) hx hb hts hwX5 hown hK hP 0 rfl rfl 1 (by decide) (hts (.fieldLink RX5 19 "WaitOrWalkOnModel" "now" "[I") (by decide +kernel)) (fun _ h9 => h9) rfl dX5_back_48 ?_
      refine lv_iconst (v := 0) hx hb dX5_back_51 (by decide) ?_
      refine va_iald (D := D) hx hb hK hP 1 0 rfl rfl (by unfold vp_in; decide +kernel) dX5_back_52 ?_
      refine xv_int (y := nw 0) rfl ?_
      refine xv_int (y := nI st) (hn0) ?_
      refine lv_iconst (v := 1) hx hb dX5_back_53 (by decide) ?_
      refine lv_isub hx hb dX5_back_54 ?_
      refine xv_int (y := nI (st - 1)) (pk_sub hs1) ?_
      refine lv_icmp_ne (tgt := 67) hx hb dX5_back_55 (by decide) (fun c_8 => ?_) (fun c_8 => ?_)
      · refine lv_aload_n hx hb dX5_back_67 rfl (lv_at hl 0 rfl) ?_
        refine va_get (D := D) (ci := 5) (v := .ref wa) (C := RX5) (T := TX5) (N := 19) hx hb hts hwX5 hown hK hP 0 rfl rfl 1 (by decide) (hts (.fieldLink RX5 19 "WaitOrWalkOnModel" "now" "[I") (by decide +kernel)) (fun _ h9 => h9) rfl dX5_back_68 ?_
        refine lv_bipush (v := 10) hx hb dX5_back_71 (by decide) ?_
        refine lv_iload_n hx hb dX5_back_73 rfl (lv_at hl 1 rfl) ?_
        refine lv_iadd hx hb dX5_back_74 ?_
        refine xv_int (y := nI (10 + j0)) (nI_add 10 j0) ?_
        refine lv_iconst (v := 1) hx hb dX5_back_75 (by decide) ?_
        refine lv_iadd hx hb dX5_back_76 ?_
        refine xv_int (y := nI (10 + j0 + 1)) (nI_1 (10 + j0)) ?_
        refine va_iald (D := D) hx hb hK hP 1 0 rfl rfl (vp_in_nI (by omega) (by decide)) dX5_back_77 ?_
        refine xv_int (y := nw (10 + j0 + 1)) (congrArg nw (nI_clamp (by omega))) ?_
        refine va_mmin hx hb (hml.trans hl.1.symm) hown (hts (.methodLink RX5 157 Lib.Math.min.name) (by decide +kernel)) (hts (.static Lib.Math.min.name) (by decide +kernel)) (hts (.initialized "java/lang/Math") (by decide +kernel)) (hts (.code Lib.Math.min.name Lib.Math.min.code 2 (some .int)) (by decide +kernel)) (Nat.le_of_ble_eq_true rfl) (Nat.le_of_ble_eq_true rfl) (Nat.le_of_ble_eq_true rfl) (Nat.le_of_ble_eq_true rfl) dX5_back_78 ?_
        have hP9 := hP.sub (ws' := [(g0, .inr (5, [.ref ra, .ref wa, .ref ta, .int kpt, .ref ma, .int mkd, .ref pa, .int tpd, .int at0, .int wel, .ref ba, .ref ka, .int srt, .ref fa, .ref qa, .ref ea, .ref za, .ref ya, .int wks])), (wa, .inl (cI, 70, .inl nw)), (ra, .inl (cI, 7, .inl rf))]) [0, 1, 2] rfl
        have hD9 := hD.sub (ws' := [(g0, .inr (5, [.ref ra, .ref wa, .ref ta, .int kpt, .ref ma, .int mkd, .ref pa, .int tpd, .int at0, .int wel, .ref ba, .ref ka, .int srt, .ref fa, .ref qa, .ref ea, .ref za, .ref ya, .int wks])), (wa, .inl (cI, 70, .inl nw)), (ra, .inl (cI, 7, .inl rf))]) [0, 1, 2] (by decide) rfl
        have hE9 : ([(g0, .inr (5, [.ref ra, .ref wa, .ref ta, .int kpt, .ref ma, .int mkd, .ref pa, .int tpd, .int at0, .int wel, .ref ba, .ref ka, .int srt, .ref fa, .ref qa, .ref ea, .ref za, .ref ya, .int wks])), (wa, .inl (cI, 70, .inl nw)), (ra, .inl (cI, 7, .inl rf))] : va_W) = [(g0, .inr (5, [.ref ra, .ref wa, .ref ta, .int kpt, .ref ma, .int mkd, .ref pa, .int tpd, .int at0, .int wel, .ref ba, .ref ka, .int srt, .ref fa, .ref qa, .ref ea, .ref za, .ref ya, .int wks])), (wa, .inl (cI, 70, .inl nw)), (ra, .inl (cI, 7, .inl (xRq rf (qBa st (nI j0) a2))))] := by simp [xRq, qBa, h_0, c_5, (Int32.not_lt.mpr c_6), (Int32.not_lt.mpr c_7)]
        exact W.iret (v := if nw (10 + j0 + 1) < a2 * (nw 2) then nw (10 + j0 + 1) else a2 * (nw 2)) hx hb hr (fun t ht hW => ⟨⟨_, (), rfl, (by show _ = (if qBa st (nI j0) a2 = 0 then v5B st nw (nI j0) a2 else qBa st (nI j0) a2); rw [if_pos (show qBa st (nI j0) a2 = 0 by simp [qBa, h_0, c_5, (Int32.not_lt.mpr c_6), (Int32.not_lt.mpr c_7)])]; simp only [v5B, nI_clamp (show j0 < 2 ^ 31 by omega), if_neg c_8]), by rw [ht]; exact hE9 ▸ hP9, hE9 ▸ hD9⟩, hS.F ht⟩) hS.2.2 dX5_back_81
      · refine lv_aload_n hx hb dX5_back_58 rfl (lv_at hl 0 rfl) ?_
        refine va_get (D := D) (ci := 5) (v := .ref wa) (C := RX5) (T := TX5) (N := 19) hx hb hts hwX5 hown hK hP 0 rfl rfl 1 (by decide) (hts (.fieldLink RX5 19 "WaitOrWalkOnModel" "now" "[I") (by decide +kernel)) (fun _ h9 => h9) rfl dX5_back_59 ?_
        refine lv_iconst (v := 1) hx hb dX5_back_62 (by decide) ?_
        refine va_iald (D := D) hx hb hK hP 1 0 rfl rfl (by unfold vp_in; decide +kernel) dX5_back_63 ?_
        refine xv_int (y := nw 1) rfl ?_
        refine lv_goto (tgt := 78) hx hb dX5_back_64 (by decide) ?_
        refine va_mmin hx hb (hml.trans hl.1.symm) hown (hts (.methodLink RX5 157 Lib.Math.min.name) (by decide +kernel)) (hts (.static Lib.Math.min.name) (by decide +kernel)) (hts (.initialized "java/lang/Math") (by decide +kernel)) (hts (.code Lib.Math.min.name Lib.Math.min.code 2 (some .int)) (by decide +kernel)) (Nat.le_of_ble_eq_true rfl) (Nat.le_of_ble_eq_true rfl) (Nat.le_of_ble_eq_true rfl) (Nat.le_of_ble_eq_true rfl) dX5_back_78 ?_
        have hP9 := hP.sub (ws' := [(g0, .inr (5, [.ref ra, .ref wa, .ref ta, .int kpt, .ref ma, .int mkd, .ref pa, .int tpd, .int at0, .int wel, .ref ba, .ref ka, .int srt, .ref fa, .ref qa, .ref ea, .ref za, .ref ya, .int wks])), (wa, .inl (cI, 70, .inl nw)), (ra, .inl (cI, 7, .inl rf))]) [0, 1, 2] rfl
        have hD9 := hD.sub (ws' := [(g0, .inr (5, [.ref ra, .ref wa, .ref ta, .int kpt, .ref ma, .int mkd, .ref pa, .int tpd, .int at0, .int wel, .ref ba, .ref ka, .int srt, .ref fa, .ref qa, .ref ea, .ref za, .ref ya, .int wks])), (wa, .inl (cI, 70, .inl nw)), (ra, .inl (cI, 7, .inl rf))]) [0, 1, 2] (by decide) rfl
        have hE9 : ([(g0, .inr (5, [.ref ra, .ref wa, .ref ta, .int kpt, .ref ma, .int mkd, .ref pa, .int tpd, .int at0, .int wel, .ref ba, .ref ka, .int srt, .ref fa, .ref qa, .ref ea, .ref za, .ref ya, .int wks])), (wa, .inl (cI, 70, .inl nw)), (ra, .inl (cI, 7, .inl rf))] : va_W) = [(g0, .inr (5, [.ref ra, .ref wa, .ref ta, .int kpt, .ref ma, .int mkd, .ref pa, .int tpd, .int at0, .int wel, .ref ba, .ref ka, .int srt, .ref fa, .ref qa, .ref ea, .ref za, .ref ya, .int wks])), (wa, .inl (cI, 70, .inl nw)), (ra, .inl (cI, 7, .inl (xRq rf (qBa st (nI j0) a2))))] := by simp [xRq, qBa, h_0, c_5, (Int32.not_lt.mpr c_6), (Int32.not_lt.mpr c_7)]
        exact W.iret (v := if nw 1 < a2 * (nw 2) then nw 1 else a2 * (nw 2)) hx hb hr (fun t ht hW => ⟨⟨_, (), rfl, (by show _ = (if qBa st (nI j0) a2 = 0 then v5B st nw (nI j0) a2 else qBa st (nI j0) a2); rw [if_pos (show qBa st (nI j0) a2 = 0 by simp [qBa, h_0, c_5, (Int32.not_lt.mpr c_6), (Int32.not_lt.mpr c_7)])]; simp only [v5B, nI_clamp (show j0 < 2 ^ 31 by omega), if_pos c_8]), by rw [ht]; exact hE9 ▸ hP9, hE9 ▸ hD9⟩, hS.F ht⟩) hS.2.2 dX5_back_81
    · refine lv_aload_n hx hb dX5_back_31 rfl (lv_at hl 0 rfl) ?_
      refine lv_bipush (v := -6) hx hb dX5_back_32 (by decide) ?_
      have hPc := hP.sub (ws' := [(g0, .inr (5, [.ref ra, .ref wa, .ref ta, .int kpt, .ref ma, .int mkd, .ref pa, .int tpd, .int at0, .int wel, .ref ba, .ref ka, .int srt, .ref fa, .ref qa, .ref ea, .ref za, .ref ya, .int wks])), (ra, .inl (cI, 7, .inl rf))]) [0, 2] rfl
      have hDc := hD.sub (ws' := [(g0, .inr (5, [.ref ra, .ref wa, .ref ta, .int kpt, .ref ma, .int mkd, .ref pa, .int tpd, .int at0, .int wel, .ref ba, .ref ka, .int srt, .ref fa, .ref qa, .ref ea, .ref za, .ref ya, .int wks])), (ra, .inl (cI, 7, .inl rf))]) [0, 2] (by decide) rfl
      have hFc := va_free (wc := [(g0, .inr (5, [.ref ra, .ref wa, .ref ta, .int kpt, .ref ma, .int mkd, .ref pa, .int tpd, .int at0, .int wel, .ref ba, .ref ka, .int srt, .ref fa, .ref qa, .ref ea, .ref za, .ref ya, .int wks])), (ra, .inl (cI, 7, .inl rf))]) hD hS hA [0, 2] rfl
      refine va_calli (va_runV (As := [.int (-6)]) (rest := []) ⟨hx, hb, hml, hown, hts⟩ (g_X5_no l D cI cL cZ cC _ g0 ra wa ta ma pa ba ka fa qa ea za ya kpt mkd tpd at0 wel srt wks rf (-6) (by first | assumption | decide +kernel) (by first | assumption | decide +kernel)) (cwV 1 hts gX5_back_X5_no rfl rfl rfl (by decide +kernel) ⟨Nat.le_of_ble_eq_true rfl, Nat.le_of_ble_eq_true rfl⟩) ⟨wPc_bl, va_recv hK hPc (ci := 5) (q0 := 0) rfl rfl, wPc_use hPc hK hDc⟩ rfl rfl hl.1 rfl (lv_room (Nat.le_of_ble_eq_true rfl)) dX5_back_34 ⟨Nat.le_of_ble_eq_true rfl, Nat.le_of_ble_eq_true rfl⟩) hS (fun q _ h => hFc q h) hFc (fun r_9 u_9 t H1 locs ht hvm hw hB hz1 hk1 hS => ?_)
      obtain ⟨hP1, hD1⟩ := hB
      rw [ht] at hP1
      obtain ⟨hP, hD⟩ := va_join (wr := [(wa, .inl (cI, 70, .inl nw))]) (w1 := [(g0, .inr (5, [.ref ra, .ref wa, .ref ta, .int kpt, .ref ma, .int mkd, .ref pa, .int tpd, .int at0, .int wel, .ref ba, .ref ka, .int srt, .ref fa, .ref qa, .ref ea, .ref za, .ref ya, .int wks])), (ra, .inl (cI, 7, .inl (xRf rf (-6))))]) hP hD [0, 2] [1] rfl rfl (by decide) (by decide) hk1 hFc hP1 hD1
      generalize H1 = H at hP hS ⊢
      have hP : va_P D vwCl [(wa, .inl (cI, 70, .inl nw)), (g0, .inr (5, [.ref ra, .ref wa, .ref ta, .int kpt, .ref ma, .int mkd, .ref pa, .int tpd, .int at0, .int wel, .ref ba, .ref ka, .int srt, .ref fa, .ref qa, .ref ea, .ref za, .ref ya, .int wks])), (ra, .inl (cI, 7, .inl (xRf rf (-6))))] H := hP
      have hD : va_D A [(wa, .inl (cI, 70, .inl nw)), (g0, .inr (5, [.ref ra, .ref wa, .ref ta, .int kpt, .ref ma, .int mkd, .ref pa, .int tpd, .int at0, .int wel, .ref ba, .ref ka, .int srt, .ref fa, .ref qa, .ref ea, .ref za, .ref ya, .int wks])), (ra, .inl (cI, 7, .inl (xRf rf (-6))))] := hD
      obtain rfl : ((-6) : Int32) = r_9 := Eq.symm hw
      have hP9 := hP.sub (ws' := [(g0, .inr (5, [.ref ra, .ref wa, .ref ta, .int kpt, .ref ma, .int mkd, .ref pa, .int tpd, .int at0, .int wel, .ref ba, .ref ka, .int srt, .ref fa, .ref qa, .ref ea, .ref za, .ref ya, .int wks])), (wa, .inl (cI, 70, .inl nw)), (ra, .inl (cI, 7, .inl (xRf rf (-6))))]) [1, 0, 2] rfl
      have hD9 := hD.sub (ws' := [(g0, .inr (5, [.ref ra, .ref wa, .ref ta, .int kpt, .ref ma, .int mkd, .ref pa, .int tpd, .int at0, .int wel, .ref ba, .ref ka, .int srt, .ref fa, .ref qa, .ref ea, .ref za, .ref ya, .int wks])), (wa, .inl (cI, 70, .inl nw)), (ra, .inl (cI, 7, .inl (xRf rf (-6))))]) [1, 0, 2] (by decide) rfl
      have hE9 : ([(g0, .inr (5, [.ref ra, .ref wa, .ref ta, .int kpt, .ref ma, .int mkd, .ref pa, .int tpd, .int at0, .int wel, .ref ba, .ref ka, .int srt, .ref fa, .ref qa, .ref ea, .ref za, .ref ya, .int wks])), (wa, .inl (cI, 70, .inl nw)), (ra, .inl (cI, 7, .inl (xRf rf (-6))))] : va_W) = [(g0, .inr (5, [.ref ra, .ref wa, .ref ta, .int kpt, .ref ma, .int mkd, .ref pa, .int tpd, .int at0, .int wel, .ref ba, .ref ka, .int srt, .ref fa, .ref qa, .ref ea, .ref za, .ref ya, .int wks])), (wa, .inl (cI, 70, .inl nw)), (ra, .inl (cI, 7, .inl (xRq rf (qBa st (nI j0) a2))))] := by simp [xRq, qBa, h_0, c_5, (Int32.not_lt.mpr c_6), (Int32.not_le.mp c_7)]
      exact W.iret (v := -6) hx hb hr (fun t ht hW => ⟨⟨_, (), rfl, by simp [qBa, v5B, h_0, c_5, (Int32.not_lt.mpr c_6), (Int32.not_le.mp c_7)], by rw [ht]; exact hE9 ▸ hP9, hE9 ▸ hD9⟩, hS.F ht⟩) hS.2.2 dX5_back_37
  · refine lv_aload_n hx hb dX5_back_18 rfl (lv_at hl 0 rfl) ?_
    refine lv_bipush (v := -4) hx hb dX5_back_19 (by decide) ?_
    have hPc := hP.sub (ws' := [(g0, .inr (5, [.ref ra, .ref wa, .ref ta, .int kpt, .ref ma, .int mkd, .ref pa, .int tpd, .int at0, .int wel, .ref ba, .ref ka, .int srt, .ref fa, .ref qa, .ref ea, .ref za, .ref ya, .int wks])), (ra, .inl (cI, 7, .inl rf))]) [0, 2] rfl
    have hDc := hD.sub (ws' := [(g0, .inr (5, [.ref ra, .ref wa, .ref ta, .int kpt, .ref ma, .int mkd, .ref pa, .int tpd, .int at0, .int wel, .ref ba, .ref ka, .int srt, .ref fa, .ref qa, .ref ea, .ref za, .ref ya, .int wks])), (ra, .inl (cI, 7, .inl rf))]) [0, 2] (by decide) rfl
    have hFc := va_free (wc := [(g0, .inr (5, [.ref ra, .ref wa, .ref ta, .int kpt, .ref ma, .int mkd, .ref pa, .int tpd, .int at0, .int wel, .ref ba, .ref ka, .int srt, .ref fa, .ref qa, .ref ea, .ref za, .ref ya, .int wks])), (ra, .inl (cI, 7, .inl rf))]) hD hS hA [0, 2] rfl
    refine va_calli (va_runV (As := [.int (-4)]) (rest := []) ⟨hx, hb, hml, hown, hts⟩ (g_X5_no l D cI cL cZ cC _ g0 ra wa ta ma pa ba ka fa qa ea za ya kpt mkd tpd at0 wel srt wks rf (-4) (by first | assumption | decide +kernel) (by first | assumption | decide +kernel)) (cwV 1 hts gX5_back_X5_no rfl rfl rfl (by decide +kernel) ⟨Nat.le_of_ble_eq_true rfl, Nat.le_of_ble_eq_true rfl⟩) ⟨wPc_bl, va_recv hK hPc (ci := 5) (q0 := 0) rfl rfl, wPc_use hPc hK hDc⟩ rfl rfl hl.1 rfl (lv_room (Nat.le_of_ble_eq_true rfl)) dX5_back_21 ⟨Nat.le_of_ble_eq_true rfl, Nat.le_of_ble_eq_true rfl⟩) hS (fun q _ h => hFc q h) hFc (fun r_10 u_10 t H1 locs ht hvm hw hB hz1 hk1 hS => ?_)
    obtain ⟨hP1, hD1⟩ := hB
    rw [ht] at hP1
    obtain ⟨hP, hD⟩ := va_join (wr := [(wa, .inl (cI, 70, .inl nw))]) (w1 := [(g0, .inr (5, [.ref ra, .ref wa, .ref ta, .int kpt, .ref ma, .int mkd, .ref pa, .int tpd, .int at0, .int wel, .ref ba, .ref ka, .int srt, .ref fa, .ref qa, .ref ea, .ref za, .ref ya, .int wks])), (ra, .inl (cI, 7, .inl (xRf rf (-4))))]) hP hD [0, 2] [1] rfl rfl (by decide) (by decide) hk1 hFc hP1 hD1
    generalize H1 = H at hP hS ⊢
    have hP : va_P D vwCl [(wa, .inl (cI, 70, .inl nw)), (g0, .inr (5, [.ref ra, .ref wa, .ref ta, .int kpt, .ref ma, .int mkd, .ref pa, .int tpd, .int at0, .int wel, .ref ba, .ref ka, .int srt, .ref fa, .ref qa, .ref ea, .ref za, .ref ya, .int wks])), (ra, .inl (cI, 7, .inl (xRf rf (-4))))] H := hP
    have hD : va_D A [(wa, .inl (cI, 70, .inl nw)), (g0, .inr (5, [.ref ra, .ref wa, .ref ta, .int kpt, .ref ma, .int mkd, .ref pa, .int tpd, .int at0, .int wel, .ref ba, .ref ka, .int srt, .ref fa, .ref qa, .ref ea, .ref za, .ref ya, .int wks])), (ra, .inl (cI, 7, .inl (xRf rf (-4))))] := hD
    obtain rfl : ((-4) : Int32) = r_10 := Eq.symm hw
    have hP9 := hP.sub (ws' := [(g0, .inr (5, [.ref ra, .ref wa, .ref ta, .int kpt, .ref ma, .int mkd, .ref pa, .int tpd, .int at0, .int wel, .ref ba, .ref ka, .int srt, .ref fa, .ref qa, .ref ea, .ref za, .ref ya, .int wks])), (wa, .inl (cI, 70, .inl nw)), (ra, .inl (cI, 7, .inl (xRf rf (-4))))]) [1, 0, 2] rfl
    have hD9 := hD.sub (ws' := [(g0, .inr (5, [.ref ra, .ref wa, .ref ta, .int kpt, .ref ma, .int mkd, .ref pa, .int tpd, .int at0, .int wel, .ref ba, .ref ka, .int srt, .ref fa, .ref qa, .ref ea, .ref za, .ref ya, .int wks])), (wa, .inl (cI, 70, .inl nw)), (ra, .inl (cI, 7, .inl (xRf rf (-4))))]) [1, 0, 2] (by decide) rfl
    have hE9 : ([(g0, .inr (5, [.ref ra, .ref wa, .ref ta, .int kpt, .ref ma, .int mkd, .ref pa, .int tpd, .int at0, .int wel, .ref ba, .ref ka, .int srt, .ref fa, .ref qa, .ref ea, .ref za, .ref ya, .int wks])), (wa, .inl (cI, 70, .inl nw)), (ra, .inl (cI, 7, .inl (xRf rf (-4))))] : va_W) = [(g0, .inr (5, [.ref ra, .ref wa, .ref ta, .int kpt, .ref ma, .int mkd, .ref pa, .int tpd, .int at0, .int wel, .ref ba, .ref ka, .int srt, .ref fa, .ref qa, .ref ea, .ref za, .ref ya, .int wks])), (wa, .inl (cI, 70, .inl nw)), (ra, .inl (cI, 7, .inl (xRq rf (qBa st (nI j0) a2))))] := by simp [xRq, qBa, h_0, c_5, (Int32.not_le.mp c_6)]
    exact W.iret (v := -4) hx hb hr (fun t ht hW => ⟨⟨_, (), rfl, by simp [qBa, v5B, h_0, c_5, (Int32.not_le.mp c_6)], by rw [ht]; exact hE9 ▸ hP9, hE9 ▸ hD9⟩, hS.F ht⟩) hS.2.2 dX5_back_24

/-! the reference: rows copied -/
def xCp (f g : Nat → Int32) (n : Nat) : Nat → Int32 := fun i => if i < n then f i else g i
theorem xCp_0 (f g : Nat → Int32) : xCp f g 0 = g := funext fun i => if_neg (Nat.not_lt_zero i)
theorem xCp_s (f g : Nat → Int32) (n : Nat) : upd (xCp f g n) n (f n) = xCp f g (n + 1) := by
  funext i
  by_cases h : i = n
  · subst h; simp [upd, xCp]
  · by_cases q : i < n
    · simp [upd, xCp, h, q, show i < n + 1 by omega]
    · simp [upd, xCp, h, q, show ¬ i < n + 1 by omega]

set_option maxHeartbeats 4000000 in
set_option maxRecDepth 100000 in
theorem g_X5_image (l : Launch) (D : va_G) (cI cL cZ cC : ClassId) (sz : Nat) (g0 : Nat) (ra : Nat) (wa : Nat) (ta : Nat) (ma : Nat) (pa : Nat) (ba : Nat) (ka : Nat) (fa : Nat) (qa : Nat) (ea : Nat) (za : Nat) (ya : Nat) (kpt : Int32) (mkd : Int32) (tpd : Int32) (at0 : Int32) (wel : Int32) (srt : Int32) (wks : Int32) (nw : Nat → Int32) (th : Nat → Int32)  : Met l yX5_image wsX5_image ({ frames := 0, cells := 0, slots := 0, locals := 0 } : Room) (wPc D [.ref g0] [(g0, .inr (5, [.ref ra, .ref wa, .ref ta, .int kpt, .ref ma, .int mkd, .ref pa, .int tpd, .int at0, .int wel, .ref ba, .ref ka, .int srt, .ref fa, .ref qa, .ref ea, .ref za, .ref ya, .int wks])), (wa, .inl (cI, 70, .inl nw)), (ta, .inl (cI, 70, .inl th))] (xTy cI cL cZ cC) sz) (va_Qi (fun (r : Int32) (_ : Unit) => r = nw 0) (fun (_ : Unit) t => va_P D vwCl [(g0, .inr (5, [.ref ra, .ref wa, .ref ta, .int 1, .ref ma, .int mkd, .ref pa, .int tpd, .int at0, .int wel, .ref ba, .ref ka, .int srt, .ref fa, .ref qa, .ref ea, .ref za, .ref ya, .int wks])), (wa, .inl (cI, 70, .inl nw)), (ta, .inl (cI, 70, .inl (xCp nw th 70)))] t.heap ∧ va_D (va_A [(g0, .inr (5, [.ref ra, .ref wa, .ref ta, .int kpt, .ref ma, .int mkd, .ref pa, .int tpd, .int at0, .int wel, .ref ba, .ref ka, .int srt, .ref fa, .ref qa, .ref ea, .ref za, .ref ya, .int wks])), (wa, .inl (cI, 70, .inl nw)), (ta, .inl (cI, 70, .inl th))] sz) [(g0, .inr (5, [.ref ra, .ref wa, .ref ta, .int 1, .ref ma, .int mkd, .ref pa, .int tpd, .int at0, .int wel, .ref ba, .ref ka, .int srt, .ref fa, .ref qa, .ref ea, .ref za, .ref ya, .int wks])), (wa, .inl (cI, 70, .inl nw)), (ta, .inl (cI, 70, .inl (xCp nw th 70)))]) (va_A [(g0, .inr (5, [.ref ra, .ref wa, .ref ta, .int kpt, .ref ma, .int mkd, .ref pa, .int tpd, .int at0, .int wel, .ref ba, .ref ka, .int srt, .ref fa, .ref qa, .ref ea, .ref za, .ref ya, .int wks])), (wa, .inl (cI, 70, .inl nw)), (ta, .inl (cI, 70, .inl th))] sz)) 0 0 (va_A [(g0, .inr (5, [.ref ra, .ref wa, .ref ta, .int kpt, .ref ma, .int mkd, .ref pa, .int tpd, .int at0, .int wel, .ref ba, .ref ka, .int srt, .ref fa, .ref qa, .ref ea, .ref za, .ref ya, .int wks])), (wa, .inl (cI, 70, .inl nw)), (ta, .inl (cI, 70, .inl th))] sz) := by
  refine Met.ofW (cc := cX5_image) (maxL := 2) (ret := (some .int)) (by decide) rfl ?_
  intro p e s m args below meth c s₁ B hml hv
  obtain ⟨rfl, hsz, hP, hK, hD0⟩ := hv
  have hx := B.exec
  have hb := B.bytes
  have hr := B.returns
  have hts := atoms_spec (ws := wsX5_image) B.pre
  have hown : s.vm.findClass RX5 = some m.cls := findClass_of_methodNamed B.named
  have hlocks := B.notSynchronized
  have hwX5 : ∀ w ∈ u_ws RX5 TX5 19, w ∈ wsX5_image := fun _ h => List.mem_cons_of_mem _ (List.mem_append_right _ h)
  subst hsz
  have hD := hD0.self (sz := s.heap.size)
  generalize hAe : va_A [(g0, .inr (5, [.ref ra, .ref wa, .ref ta, .int kpt, .ref ma, .int mkd, .ref pa, .int tpd, .int at0, .int wel, .ref ba, .ref ka, .int srt, .ref fa, .ref qa, .ref ea, .ref za, .ref ya, .int wks])), (wa, .inl (cI, 70, .inl nw)), (ta, .inl (cI, 70, .inl th))] s.heap.size = A at hD ⊢
  have hA : ∀ q : Nat, s.heap.size ≤ q → A q := fun q h => by rw [← hAe]; exact Or.inr h
  have hS : va_S A s.heap s.heap [] := va_S.rf
  have hP : va_P D vwCl [(g0, .inr (5, [.ref ra, .ref wa, .ref ta, .int kpt, .ref ma, .int mkd, .ref pa, .int tpd, .int at0, .int wel, .ref ba, .ref ka, .int srt, .ref fa, .ref qa, .ref ea, .ref za, .ref ya, .int wks])), (wa, .inl (cI, 70, .inl nw)), (ta, .inl (cI, 70, .inl th))] s.heap := hP
  have hl := lv_entry ([.ref g0]) (n := 2) (Nat.le_of_ble_eq_true rfl)
  rw [lg_entry_eq]
  generalize (lg_sl ([.ref g0]) ++ List.replicate (2 - (lg_sl ([.ref g0])).length) Slot.unset).toArray = ls at hl ⊢
  have hl : lv_has ls 2 [(0, .ref g0)] := hl
  refine lv_aload_n hx hb dX5_image_0 rfl (lv_at hl 0 rfl) ?_
  refine lv_iconst (v := 1) hx hb dX5_image_1 (by decide) ?_
  refine va_put (D := D) (ci := 5) (v := .int 1) (ty := .boolean) (C := RX5) (T := TX5) (N := 19) hx hb hts hwX5 tyX5 tyX5_ok nmX5 hown hK hP hD hS 0 rfl rfl 3 (by decide) (hts (.fieldLink RX5 53 "WaitOrWalkOnModel" "kept" "Z") (by decide +kernel)) (fun _ h9 => h9) rfl (by decide +kernel) (by decide +kernel) rfl (Nat.le_of_ble_eq_true rfl) dX5_image_2 (fun H locs hP hD hS => ?_)
  have hP : va_P D vwCl [(g0, .inr (5, [.ref ra, .ref wa, .ref ta, .int 1, .ref ma, .int mkd, .ref pa, .int tpd, .int at0, .int wel, .ref ba, .ref ka, .int srt, .ref fa, .ref qa, .ref ea, .ref za, .ref ya, .int wks])), (wa, .inl (cI, 70, .inl nw)), (ta, .inl (cI, 70, .inl th))] H := hP
  have hD : va_D A [(g0, .inr (5, [.ref ra, .ref wa, .ref ta, .int 1, .ref ma, .int mkd, .ref pa, .int tpd, .int at0, .int wel, .ref ba, .ref ka, .int srt, .ref fa, .ref qa, .ref ea, .ref za, .ref ya, .int wks])), (wa, .inl (cI, 70, .inl nw)), (ta, .inl (cI, 70, .inl th))] := hD
  refine lv_iconst (v := 0) hx hb dX5_image_5 (by decide) ?_
  refine lv_istore_n (lv' := [(1, .int 0), (0, .ref g0)]) hx hb dX5_image_6 rfl hl (by decide) rfl (fun ls hl => ?_)
  refine xl_loopH (σ := Nat × (Nat → Int32)) (fun n q H locs ls => lv_has ls 2 [(1, .int (nI q.1)), (0, .ref g0)] ∧ va_P D vwCl [(g0, .inr (5, [.ref ra, .ref wa, .ref ta, .int 1, .ref ma, .int mkd, .ref pa, .int tpd, .int at0, .int wel, .ref ba, .ref ka, .int srt, .ref fa, .ref qa, .ref ea, .ref za, .ref ya, .int wks])), (wa, .inl (cI, 70, .inl nw)), (ta, .inl (cI, 70, .inl q.2))] H ∧ va_D A [(g0, .inr (5, [.ref ra, .ref wa, .ref ta, .int 1, .ref ma, .int mkd, .ref pa, .int tpd, .int at0, .int wel, .ref ba, .ref ka, .int srt, .ref fa, .ref qa, .ref ea, .ref za, .ref ya, .int wks])), (wa, .inl (cI, 70, .inl nw)), (ta, .inl (cI, 70, .inl q.2))] ∧ va_S A s.heap H locs ∧ (70 - q.1 < n) ∧ (q.1 ≤ 70) ∧ (q.2 = xCp nw th q.1)) (71) (0, th) ⟨lv_sub hl [0, 1] rfl, hP.sub [0, 1, 2] rfl, hD.sub [0, 1, 2] (by decide) rfl, hS, by (try dsimp only); exact ⟨by omega, by omega, (xCp_0 nw th).symm⟩⟩ (fun q H lc ls h => absurd h.2.2.2.2.1 (Nat.not_lt_zero _)) ?_
  intro n_7 q_7 H locs ls ih_7 hI_7
  obtain ⟨hl, hP, hD, hS, hI_7⟩ := hI_7
  obtain ⟨k, f⟩ := q_7
  obtain ⟨h1, h2, h3⟩ := hI_7
  try dsimp only at hl hP hD h1 h2 h3
  refine lv_iload_n hx hb dX5_image_7 rfl (lv_at hl 0 rfl) ?_
  refine lv_bipush (v := 70) hx hb dX5_image_8 (by decide) ?_
  refine lv_icmp_ge (tgt := 31) hx hb dX5_image_10 (by decide) (fun c_1 => ?_) (fun c_1 => ?_)
  · refine lv_aload_n hx hb dX5_image_31 rfl (lv_at hl 1 rfl) ?_
    refine va_get (D := D) (ci := 5) (v := .ref wa) (C := RX5) (T := TX5) (N := 19) hx hb hts hwX5 hown hK hP 0 rfl rfl 1 (by decide) (hts (.fieldLink RX5 19 "WaitOrWalkOnModel" "now" "[I") (by decide +kernel)) (fun _ h9 => h9) rfl dX5_image_32 ?_
    refine lv_iconst (v := 0) hx hb dX5_image_35 (by decide) ?_
    refine va_iald (D := D) hx hb hK hP 1 0 rfl rfl (by unfold vp_in; decide +kernel) dX5_image_36 ?_
    refine xv_int (y := nw 0) rfl ?_
    have hP9 := hP.sub (ws' := [(g0, .inr (5, [.ref ra, .ref wa, .ref ta, .int 1, .ref ma, .int mkd, .ref pa, .int tpd, .int at0, .int wel, .ref ba, .ref ka, .int srt, .ref fa, .ref qa, .ref ea, .ref za, .ref ya, .int wks])), (wa, .inl (cI, 70, .inl nw)), (ta, .inl (cI, 70, .inl f))]) [0, 1, 2] rfl
    have hD9 := hD.sub (ws' := [(g0, .inr (5, [.ref ra, .ref wa, .ref ta, .int 1, .ref ma, .int mkd, .ref pa, .int tpd, .int at0, .int wel, .ref ba, .ref ka, .int srt, .ref fa, .ref qa, .ref ea, .ref za, .ref ya, .int wks])), (wa, .inl (cI, 70, .inl nw)), (ta, .inl (cI, 70, .inl f))]) [0, 1, 2] (by decide) rfl
    have hE9 : ([(g0, .inr (5, [.ref ra, .ref wa, .ref ta, .int 1, .ref ma, .int mkd, .ref pa, .int tpd, .int at0, .int wel, .ref ba, .ref ka, .int srt, .ref fa, .ref qa, .ref ea, .ref za, .ref ya, .int wks])), (wa, .inl (cI, 70, .inl nw)), (ta, .inl (cI, 70, .inl f))] : va_W) = [(g0, .inr (5, [.ref ra, .ref wa, .ref ta, .int 1, .ref ma, .int mkd, .ref pa, .int tpd, .int at0, .int wel, .ref ba, .ref ka, .int srt, .ref fa, .ref qa, .ref ea, .ref za, .ref ya, .int wks])), (wa, .inl (cI, 70, .inl nw)), (ta, .inl (cI, 70, .inl (xCp nw th 70)))] := by have w := mt (nI_ltI (a := k) (b := 70) (by omega) (by decide)).mpr (Int32.not_lt.mpr c_1); obtain rfl : k = 70 := (by omega); rw [h3]
    exact W.iret (v := nw 0) hx hb hr (fun t ht hW => ⟨⟨_, (), rfl, rfl, by rw [ht]; exact hE9 ▸ hP9, hE9 ▸ hD9⟩, hS.F ht⟩) hS.2.2 dX5_image_37
  · refine lv_aload_n hx hb dX5_image_13 rfl (lv_at hl 1 rfl) ?_
    refine va_get (D := D) (ci := 5) (v := .ref ta) (C := RX5) (T := TX5) (N := 19) hx hb hts hwX5 hown hK hP 0 rfl rfl 2 (by decide) (hts (.fieldLink RX5 22 "WaitOrWalkOnModel" "then" "[I") (by decide +kernel)) (fun _ h9 => h9) rfl dX5_image_14 ?_
    refine lv_iload_n hx hb dX5_image_17 rfl (lv_at hl 0 rfl) ?_
    refine lv_aload_n hx hb dX5_image_18 rfl (lv_at hl 1 rfl) ?_
    refine va_get (D := D) (ci := 5) (v := .ref wa) (C := RX5) (T := TX5) (N := 19) hx hb hts hwX5 hown hK hP 0 rfl rfl 1 (by decide) (hts (.fieldLink RX5 19 "WaitOrWalkOnModel" "now" "[I") (by decide +kernel)) (fun _ h9 => h9) rfl dX5_image_19 ?_
    refine lv_iload_n hx hb dX5_image_22 rfl (lv_at hl 0 rfl) ?_
    refine va_iald (D := D) hx hb hK hP 1 0 rfl rfl (vp_in_nI (by have w := (nI_ltI (a := k) (b := 70) (by omega) (by decide)).mp (Int32.not_le.mp c_1); exact w) (by decide)) dX5_image_23 ?_
    refine xv_int (y := nw k) (congrArg nw (nI_clamp (by omega))) ?_
    refine va_iast (D := D) hx hb hK hP hD hS 2 0 rfl rfl (vp_in_nI (by have w := (nI_ltI (a := k) (b := 70) (by omega) (by decide)).mp (Int32.not_le.mp c_1); exact w) (by decide)) dX5_image_24 (fun H locs hP hD hS => ?_)
    rw [nI_clamp (by omega)] at hP hD
    have hP : va_P D vwCl [(g0, .inr (5, [.ref ra, .ref wa, .ref ta, .int 1, .ref ma, .int mkd, .ref pa, .int tpd, .int at0, .int wel, .ref ba, .ref ka, .int srt, .ref fa, .ref qa, .ref ea, .ref za, .ref ya, .int wks])), (wa, .inl (cI, 70, .inl nw)), (ta, .inl (cI, 70, .inl (upd f k (nw k))))] H := hP
    have hD : va_D A [(g0, .inr (5, [.ref ra, .ref wa, .ref ta, .int 1, .ref ma, .int mkd, .ref pa, .int tpd, .int at0, .int wel, .ref ba, .ref ka, .int srt, .ref fa, .ref qa, .ref ea, .ref za, .ref ya, .int wks])), (wa, .inl (cI, 70, .inl nw)), (ta, .inl (cI, 70, .inl (upd f k (nw k))))] := hD
    refine lv_iinc (v := nI (k + 1)) (lv' := [(1, .int (nI (k + 1))), (0, .ref g0)]) hx hb dX5_image_25 hl (k := 0) rfl (nI_1 k) (by decide) rfl (fun ls hl => ?_)
    refine lv_goto (tgt := 7) hx hb dX5_image_28 (by decide) ?_
    have w := (nI_ltI (a := k) (b := 70) (by omega) (by decide)).mp (Int32.not_le.mp c_1)
    exact ih_7 (k + 1, upd f k (nw k)) _ _ _ ⟨lv_sub hl [0, 1] rfl, hP.sub [0, 1, 2] rfl, hD.sub [0, 1, 2] (by decide) rfl, hS, by (try dsimp only); exact ⟨by omega, by omega, by rw [h3]; exact xCp_s nw th k⟩⟩

set_option maxHeartbeats 4000000 in
set_option maxRecDepth 100000 in
theorem g_X5_on0 (l : Launch) (D : va_G) (cI cL cZ cC : ClassId) (sz : Nat) (g0 : Nat) (ra : Nat) (wa : Nat) (ta : Nat) (ma : Nat) (pa : Nat) (ba : Nat) (ka : Nat) (fa : Nat) (qa : Nat) (ea : Nat) (za : Nat) (ya : Nat) (mkd : Int32) (tpd : Int32) (at0 : Int32) (wel : Int32) (srt : Int32) (wks : Int32) (rf : Nat → Int32)  : Met l yX5_on wsX5_on ({ frames := 1, cells := 0, slots := 0, locals := 21 } : Room) (wPc D [.ref g0] [(g0, .inr (5, [.ref ra, .ref wa, .ref ta, .int 0, .ref ma, .int mkd, .ref pa, .int tpd, .int at0, .int wel, .ref ba, .ref ka, .int srt, .ref fa, .ref qa, .ref ea, .ref za, .ref ya, .int wks])), (ra, .inl (cI, 7, .inl rf))] (xTy cI cL cZ cC) sz) (va_Qi (fun (r : Int32) (_ : Unit) => r = -3) (fun (_ : Unit) t => va_P D vwCl [(g0, .inr (5, [.ref ra, .ref wa, .ref ta, .int 0, .ref ma, .int mkd, .ref pa, .int tpd, .int at0, .int wel, .ref ba, .ref ka, .int srt, .ref fa, .ref qa, .ref ea, .ref za, .ref ya, .int wks])), (ra, .inl (cI, 7, .inl (xRf rf (-3))))] t.heap ∧ va_D (va_A [(g0, .inr (5, [.ref ra, .ref wa, .ref ta, .int 0, .ref ma, .int mkd, .ref pa, .int tpd, .int at0, .int wel, .ref ba, .ref ka, .int srt, .ref fa, .ref qa, .ref ea, .ref za, .ref ya, .int wks])), (ra, .inl (cI, 7, .inl rf))] sz) [(g0, .inr (5, [.ref ra, .ref wa, .ref ta, .int 0, .ref ma, .int mkd, .ref pa, .int tpd, .int at0, .int wel, .ref ba, .ref ka, .int srt, .ref fa, .ref qa, .ref ea, .ref za, .ref ya, .int wks])), (ra, .inl (cI, 7, .inl (xRf rf (-3))))]) (va_A [(g0, .inr (5, [.ref ra, .ref wa, .ref ta, .int 0, .ref ma, .int mkd, .ref pa, .int tpd, .int at0, .int wel, .ref ba, .ref ka, .int srt, .ref fa, .ref qa, .ref ea, .ref za, .ref ya, .int wks])), (ra, .inl (cI, 7, .inl rf))] sz)) 0 0 (va_A [(g0, .inr (5, [.ref ra, .ref wa, .ref ta, .int 0, .ref ma, .int mkd, .ref pa, .int tpd, .int at0, .int wel, .ref ba, .ref ka, .int srt, .ref fa, .ref qa, .ref ea, .ref za, .ref ya, .int wks])), (ra, .inl (cI, 7, .inl rf))] sz) := by
  refine Met.ofW (cc := cX5_on) (maxL := 2) (ret := (some .int)) (by decide) rfl ?_
  intro p e s m args below meth c s₁ B hml hv
  obtain ⟨rfl, hsz, hP, hK, hD0⟩ := hv
  have hx := B.exec
  have hb := B.bytes
  have hr := B.returns
  have hts := atoms_spec (ws := wsX5_on) B.pre
  have hown : s.vm.findClass RX5 = some m.cls := findClass_of_methodNamed B.named
  have hlocks := B.notSynchronized
  have hwX5 : ∀ w ∈ u_ws RX5 TX5 19, w ∈ wsX5_on := fun _ h => List.mem_cons_of_mem _ (List.mem_append_right _ h)
  subst hsz
  have hD := hD0.self (sz := s.heap.size)
  generalize hAe : va_A [(g0, .inr (5, [.ref ra, .ref wa, .ref ta, .int 0, .ref ma, .int mkd, .ref pa, .int tpd, .int at0, .int wel, .ref ba, .ref ka, .int srt, .ref fa, .ref qa, .ref ea, .ref za, .ref ya, .int wks])), (ra, .inl (cI, 7, .inl rf))] s.heap.size = A at hD ⊢
  have hA : ∀ q : Nat, s.heap.size ≤ q → A q := fun q h => by rw [← hAe]; exact Or.inr h
  have hS : va_S A s.heap s.heap [] := va_S.rf
  have hP : va_P D vwCl [(g0, .inr (5, [.ref ra, .ref wa, .ref ta, .int 0, .ref ma, .int mkd, .ref pa, .int tpd, .int at0, .int wel, .ref ba, .ref ka, .int srt, .ref fa, .ref qa, .ref ea, .ref za, .ref ya, .int wks])), (ra, .inl (cI, 7, .inl rf))] s.heap := hP
  have hl := lv_entry ([.ref g0]) (n := 2) (Nat.le_of_ble_eq_true rfl)
  rw [lg_entry_eq]
  generalize (lg_sl ([.ref g0]) ++ List.replicate (2 - (lg_sl ([.ref g0])).length) Slot.unset).toArray = ls at hl ⊢
  have hl : lv_has ls 2 [(0, .ref g0)] := hl
  refine lv_aload_n hx hb dX5_on_0 rfl (lv_at hl 0 rfl) ?_
  refine va_get (D := D) (ci := 5) (v := .int 0) (C := RX5) (T := TX5) (N := 19) hx hb hts hwX5 hown hK hP 0 rfl rfl 3 (by decide) (hts (.fieldLink RX5 53 "WaitOrWalkOnModel" "kept" "Z") (by decide +kernel)) (fun _ h9 => h9) rfl dX5_on_1 ?_
  refine lv_if_ne (tgt := 14) hx hb dX5_on_4 (by decide) (fun c_1 => absurd c_1 (by decide +kernel)) (fun c_1 => ?_)
  refine lv_aload_n hx hb dX5_on_7 rfl (lv_at hl 0 rfl) ?_
  refine lv_bipush (v := -3) hx hb dX5_on_8 (by decide) ?_
  have hPc := hP.sub (ws' := [(g0, .inr (5, [.ref ra, .ref wa, .ref ta, .int 0, .ref ma, .int mkd, .ref pa, .int tpd, .int at0, .int wel, .ref ba, .ref ka, .int srt, .ref fa, .ref qa, .ref ea, .ref za, .ref ya, .int wks])), (ra, .inl (cI, 7, .inl rf))]) [0, 1] rfl
  have hDc := hD.sub (ws' := [(g0, .inr (5, [.ref ra, .ref wa, .ref ta, .int 0, .ref ma, .int mkd, .ref pa, .int tpd, .int at0, .int wel, .ref ba, .ref ka, .int srt, .ref fa, .ref qa, .ref ea, .ref za, .ref ya, .int wks])), (ra, .inl (cI, 7, .inl rf))]) [0, 1] (by decide) rfl
  have hFc := va_free (wc := [(g0, .inr (5, [.ref ra, .ref wa, .ref ta, .int 0, .ref ma, .int mkd, .ref pa, .int tpd, .int at0, .int wel, .ref ba, .ref ka, .int srt, .ref fa, .ref qa, .ref ea, .ref za, .ref ya, .int wks])), (ra, .inl (cI, 7, .inl rf))]) hD hS hA [0, 1] rfl
  refine va_calli (va_runV (As := [.int (-3)]) (rest := []) ⟨hx, hb, hml, hown, hts⟩ (g_X5_no l D cI cL cZ cC _ g0 ra wa ta ma pa ba ka fa qa ea za ya 0 mkd tpd at0 wel srt wks rf (-3) (by first | assumption | decide +kernel) (by first | assumption | decide +kernel)) (cwV 1 hts gX5_on_X5_no rfl rfl rfl (by decide +kernel) ⟨Nat.le_of_ble_eq_true rfl, Nat.le_of_ble_eq_true rfl⟩) ⟨wPc_bl, va_recv hK hPc (ci := 5) (q0 := 0) rfl rfl, wPc_use hPc hK hDc⟩ rfl rfl hl.1 rfl (lv_room (Nat.le_of_ble_eq_true rfl)) dX5_on_10 ⟨Nat.le_of_ble_eq_true rfl, Nat.le_of_ble_eq_true rfl⟩) hS (fun q _ h => hFc q h) hFc (fun r_2 u_2 t H1 locs ht hvm hw hB hz1 hk1 hS => ?_)
  obtain ⟨hP1, hD1⟩ := hB
  rw [ht] at hP1
  obtain ⟨hP, hD⟩ := va_join (wr := []) (w1 := [(g0, .inr (5, [.ref ra, .ref wa, .ref ta, .int 0, .ref ma, .int mkd, .ref pa, .int tpd, .int at0, .int wel, .ref ba, .ref ka, .int srt, .ref fa, .ref qa, .ref ea, .ref za, .ref ya, .int wks])), (ra, .inl (cI, 7, .inl (xRf rf (-3))))]) hP hD [0, 1] [] rfl rfl (by decide) (by decide) hk1 hFc hP1 hD1
  generalize H1 = H at hP hS ⊢
  have hP : va_P D vwCl [(g0, .inr (5, [.ref ra, .ref wa, .ref ta, .int 0, .ref ma, .int mkd, .ref pa, .int tpd, .int at0, .int wel, .ref ba, .ref ka, .int srt, .ref fa, .ref qa, .ref ea, .ref za, .ref ya, .int wks])), (ra, .inl (cI, 7, .inl (xRf rf (-3))))] H := hP
  have hD : va_D A [(g0, .inr (5, [.ref ra, .ref wa, .ref ta, .int 0, .ref ma, .int mkd, .ref pa, .int tpd, .int at0, .int wel, .ref ba, .ref ka, .int srt, .ref fa, .ref qa, .ref ea, .ref za, .ref ya, .int wks])), (ra, .inl (cI, 7, .inl (xRf rf (-3))))] := hD
  obtain rfl : ((-3) : Int32) = r_2 := Eq.symm hw
  have hP9 := hP.sub (ws' := [(g0, .inr (5, [.ref ra, .ref wa, .ref ta, .int 0, .ref ma, .int mkd, .ref pa, .int tpd, .int at0, .int wel, .ref ba, .ref ka, .int srt, .ref fa, .ref qa, .ref ea, .ref za, .ref ya, .int wks])), (ra, .inl (cI, 7, .inl (xRf rf (-3))))]) [0, 1] rfl
  have hD9 := hD.sub (ws' := [(g0, .inr (5, [.ref ra, .ref wa, .ref ta, .int 0, .ref ma, .int mkd, .ref pa, .int tpd, .int at0, .int wel, .ref ba, .ref ka, .int srt, .ref fa, .ref qa, .ref ea, .ref za, .ref ya, .int wks])), (ra, .inl (cI, 7, .inl (xRf rf (-3))))]) [0, 1] (by decide) rfl
  exact W.iret (v := -3) hx hb hr (fun t ht hW => ⟨⟨_, (), rfl, rfl, by rw [ht]; exact hP9, hD9⟩, hS.F ht⟩) hS.2.2 dX5_on_13

set_option maxHeartbeats 4000000 in
set_option maxRecDepth 100000 in
theorem g_X5_on1 (l : Launch) (D : va_G) (cI cL cZ cC : ClassId) (sz : Nat) (g0 : Nat) (ra : Nat) (wa : Nat) (ta : Nat) (ma : Nat) (pa : Nat) (ba : Nat) (ka : Nat) (fa : Nat) (qa : Nat) (ea : Nat) (za : Nat) (ya : Nat) (mkd : Int32) (tpd : Int32) (at0 : Int32) (wel : Int32) (srt : Int32) (wks : Int32) (nw : Nat → Int32) (th : Nat → Int32)  : Met l yX5_on wsX5_on ({ frames := 0, cells := 0, slots := 0, locals := 0 } : Room) (wPc D [.ref g0] [(g0, .inr (5, [.ref ra, .ref wa, .ref ta, .int 1, .ref ma, .int mkd, .ref pa, .int tpd, .int at0, .int wel, .ref ba, .ref ka, .int srt, .ref fa, .ref qa, .ref ea, .ref za, .ref ya, .int wks])), (wa, .inl (cI, 70, .inl nw)), (ta, .inl (cI, 70, .inl th))] (xTy cI cL cZ cC) sz) (va_Qi (fun (r : Int32) (_ : Unit) => r = xCp th nw 70 0) (fun (_ : Unit) t => va_P D vwCl [(g0, .inr (5, [.ref ra, .ref wa, .ref ta, .int 1, .ref ma, .int mkd, .ref pa, .int tpd, .int at0, .int wel, .ref ba, .ref ka, .int srt, .ref fa, .ref qa, .ref ea, .ref za, .ref ya, .int wks])), (wa, .inl (cI, 70, .inl (xCp th nw 70))), (ta, .inl (cI, 70, .inl th))] t.heap ∧ va_D (va_A [(g0, .inr (5, [.ref ra, .ref wa, .ref ta, .int 1, .ref ma, .int mkd, .ref pa, .int tpd, .int at0, .int wel, .ref ba, .ref ka, .int srt, .ref fa, .ref qa, .ref ea, .ref za, .ref ya, .int wks])), (wa, .inl (cI, 70, .inl nw)), (ta, .inl (cI, 70, .inl th))] sz) [(g0, .inr (5, [.ref ra, .ref wa, .ref ta, .int 1, .ref ma, .int mkd, .ref pa, .int tpd, .int at0, .int wel, .ref ba, .ref ka, .int srt, .ref fa, .ref qa, .ref ea, .ref za, .ref ya, .int wks])), (wa, .inl (cI, 70, .inl (xCp th nw 70))), (ta, .inl (cI, 70, .inl th))]) (va_A [(g0, .inr (5, [.ref ra, .ref wa, .ref ta, .int 1, .ref ma, .int mkd, .ref pa, .int tpd, .int at0, .int wel, .ref ba, .ref ka, .int srt, .ref fa, .ref qa, .ref ea, .ref za, .ref ya, .int wks])), (wa, .inl (cI, 70, .inl nw)), (ta, .inl (cI, 70, .inl th))] sz)) 0 0 (va_A [(g0, .inr (5, [.ref ra, .ref wa, .ref ta, .int 1, .ref ma, .int mkd, .ref pa, .int tpd, .int at0, .int wel, .ref ba, .ref ka, .int srt, .ref fa, .ref qa, .ref ea, .ref za, .ref ya, .int wks])), (wa, .inl (cI, 70, .inl nw)), (ta, .inl (cI, 70, .inl th))] sz) := by
  refine Met.ofW (cc := cX5_on) (maxL := 2) (ret := (some .int)) (by decide) rfl ?_
  intro p e s m args below meth c s₁ B hml hv
  obtain ⟨rfl, hsz, hP, hK, hD0⟩ := hv
  have hx := B.exec
  have hb := B.bytes
  have hr := B.returns
  have hts := atoms_spec (ws := wsX5_on) B.pre
  have hown : s.vm.findClass RX5 = some m.cls := findClass_of_methodNamed B.named
  have hlocks := B.notSynchronized
  have hwX5 : ∀ w ∈ u_ws RX5 TX5 19, w ∈ wsX5_on := fun _ h => List.mem_cons_of_mem _ (List.mem_append_right _ h)
  subst hsz
  have hD := hD0.self (sz := s.heap.size)
  generalize hAe : va_A [(g0, .inr (5, [.ref ra, .ref wa, .ref ta, .int 1, .ref ma, .int mkd, .ref pa, .int tpd, .int at0, .int wel, .ref ba, .ref ka, .int srt, .ref fa, .ref qa, .ref ea, .ref za, .ref ya, .int wks])), (wa, .inl (cI, 70, .inl nw)), (ta, .inl (cI, 70, .inl th))] s.heap.size = A at hD ⊢
  have hA : ∀ q : Nat, s.heap.size ≤ q → A q := fun q h => by rw [← hAe]; exact Or.inr h
  have hS : va_S A s.heap s.heap [] := va_S.rf
  have hP : va_P D vwCl [(g0, .inr (5, [.ref ra, .ref wa, .ref ta, .int 1, .ref ma, .int mkd, .ref pa, .int tpd, .int at0, .int wel, .ref ba, .ref ka, .int srt, .ref fa, .ref qa, .ref ea, .ref za, .ref ya, .int wks])), (wa, .inl (cI, 70, .inl nw)), (ta, .inl (cI, 70, .inl th))] s.heap := hP
  have hl := lv_entry ([.ref g0]) (n := 2) (Nat.le_of_ble_eq_true rfl)
  rw [lg_entry_eq]
  generalize (lg_sl ([.ref g0]) ++ List.replicate (2 - (lg_sl ([.ref g0])).length) Slot.unset).toArray = ls at hl ⊢
  have hl : lv_has ls 2 [(0, .ref g0)] := hl
  refine lv_aload_n hx hb dX5_on_0 rfl (lv_at hl 0 rfl) ?_
  refine va_get (D := D) (ci := 5) (v := .int 1) (C := RX5) (T := TX5) (N := 19) hx hb hts hwX5 hown hK hP 0 rfl rfl 3 (by decide) (hts (.fieldLink RX5 53 "WaitOrWalkOnModel" "kept" "Z") (by decide +kernel)) (fun _ h9 => h9) rfl dX5_on_1 ?_
  refine lv_if_ne (tgt := 14) hx hb dX5_on_4 (by decide) (fun c_1 => ?_) (fun c_1 => absurd c_1 (by decide +kernel))
  refine lv_iconst (v := 0) hx hb dX5_on_14 (by decide) ?_
  refine lv_istore_n (lv' := [(1, .int 0), (0, .ref g0)]) hx hb dX5_on_15 rfl hl (by decide) rfl (fun ls hl => ?_)
  refine xl_loopH (σ := Nat × (Nat → Int32)) (fun n q H locs ls => lv_has ls 2 [(1, .int (nI q.1)), (0, .ref g0)] ∧ va_P D vwCl [(g0, .inr (5, [.ref ra, .ref wa, .ref ta, .int 1, .ref ma, .int mkd, .ref pa, .int tpd, .int at0, .int wel, .ref ba, .ref ka, .int srt, .ref fa, .ref qa, .ref ea, .ref za, .ref ya, .int wks])), (wa, .inl (cI, 70, .inl q.2)), (ta, .inl (cI, 70, .inl th))] H ∧ va_D A [(g0, .inr (5, [.ref ra, .ref wa, .ref ta, .int 1, .ref ma, .int mkd, .ref pa, .int tpd, .int at0, .int wel, .ref ba, .ref ka, .int srt, .ref fa, .ref qa, .ref ea, .ref za, .ref ya, .int wks])), (wa, .inl (cI, 70, .inl q.2)), (ta, .inl (cI, 70, .inl th))] ∧ va_S A s.heap H locs ∧ (70 - q.1 < n) ∧ (q.1 ≤ 70) ∧ (q.2 = xCp th nw q.1)) (71) (0, nw) ⟨lv_sub hl [0, 1] rfl, hP.sub [0, 1, 2] rfl, hD.sub [0, 1, 2] (by decide) rfl, hS, by (try dsimp only); exact ⟨by omega, by omega, (xCp_0 th nw).symm⟩⟩ (fun q H lc ls h => absurd h.2.2.2.2.1 (Nat.not_lt_zero _)) ?_
  intro n_16 q_16 H locs ls ih_16 hI_16
  obtain ⟨hl, hP, hD, hS, hI_16⟩ := hI_16
  obtain ⟨k, f⟩ := q_16
  obtain ⟨h1, h2, h3⟩ := hI_16
  try dsimp only at hl hP hD h1 h2 h3
  refine lv_iload_n hx hb dX5_on_16 rfl (lv_at hl 0 rfl) ?_
  refine lv_bipush (v := 70) hx hb dX5_on_17 (by decide) ?_
  refine lv_icmp_ge (tgt := 40) hx hb dX5_on_19 (by decide) (fun c_2 => ?_) (fun c_2 => ?_)
  · refine lv_aload_n hx hb dX5_on_40 rfl (lv_at hl 1 rfl) ?_
    refine va_get (D := D) (ci := 5) (v := .ref wa) (C := RX5) (T := TX5) (N := 19) hx hb hts hwX5 hown hK hP 0 rfl rfl 1 (by decide) (hts (.fieldLink RX5 19 "WaitOrWalkOnModel" "now" "[I") (by decide +kernel)) (fun _ h9 => h9) rfl dX5_on_41 ?_
    refine lv_iconst (v := 0) hx hb dX5_on_44 (by decide) ?_
    refine va_iald (D := D) hx hb hK hP 1 0 rfl rfl (by unfold vp_in; decide +kernel) dX5_on_45 ?_
    refine xv_int (y := f 0) rfl ?_
    have hP9 := hP.sub (ws' := [(g0, .inr (5, [.ref ra, .ref wa, .ref ta, .int 1, .ref ma, .int mkd, .ref pa, .int tpd, .int at0, .int wel, .ref ba, .ref ka, .int srt, .ref fa, .ref qa, .ref ea, .ref za, .ref ya, .int wks])), (wa, .inl (cI, 70, .inl f)), (ta, .inl (cI, 70, .inl th))]) [0, 1, 2] rfl
    have hD9 := hD.sub (ws' := [(g0, .inr (5, [.ref ra, .ref wa, .ref ta, .int 1, .ref ma, .int mkd, .ref pa, .int tpd, .int at0, .int wel, .ref ba, .ref ka, .int srt, .ref fa, .ref qa, .ref ea, .ref za, .ref ya, .int wks])), (wa, .inl (cI, 70, .inl f)), (ta, .inl (cI, 70, .inl th))]) [0, 1, 2] (by decide) rfl
    have hE9 : ([(g0, .inr (5, [.ref ra, .ref wa, .ref ta, .int 1, .ref ma, .int mkd, .ref pa, .int tpd, .int at0, .int wel, .ref ba, .ref ka, .int srt, .ref fa, .ref qa, .ref ea, .ref za, .ref ya, .int wks])), (wa, .inl (cI, 70, .inl f)), (ta, .inl (cI, 70, .inl th))] : va_W) = [(g0, .inr (5, [.ref ra, .ref wa, .ref ta, .int 1, .ref ma, .int mkd, .ref pa, .int tpd, .int at0, .int wel, .ref ba, .ref ka, .int srt, .ref fa, .ref qa, .ref ea, .ref za, .ref ya, .int wks])), (wa, .inl (cI, 70, .inl (xCp th nw 70))), (ta, .inl (cI, 70, .inl th))] := by have w := mt (nI_ltI (a := k) (b := 70) (by omega) (by decide)).mpr (Int32.not_lt.mpr c_2); obtain rfl : k = 70 := (by omega); rw [h3]
    exact W.iret (v := f 0) hx hb hr (fun t ht hW => ⟨⟨_, (), rfl, by have w := mt (nI_ltI (a := k) (b := 70) (by omega) (by decide)).mpr (Int32.not_lt.mpr c_2); obtain rfl : k = 70 := (by omega); rw [h3], by rw [ht]; exact hE9 ▸ hP9, hE9 ▸ hD9⟩, hS.F ht⟩) hS.2.2 dX5_on_46
  · refine lv_aload_n hx hb dX5_on_22 rfl (lv_at hl 1 rfl) ?_
    refine va_get (D := D) (ci := 5) (v := .ref wa) (C := RX5) (T := TX5) (N := 19) hx hb hts hwX5 hown hK hP 0 rfl rfl 1 (by decide) (hts (.fieldLink RX5 19 "WaitOrWalkOnModel" "now" "[I") (by decide +kernel)) (fun _ h9 => h9) rfl dX5_on_23 ?_
    refine lv_iload_n hx hb dX5_on_26 rfl (lv_at hl 0 rfl) ?_
    refine lv_aload_n hx hb dX5_on_27 rfl (lv_at hl 1 rfl) ?_
    refine va_get (D := D) (ci := 5) (v := .ref ta) (C := RX5) (T := TX5) (N := 19) hx hb hts hwX5 hown hK hP 0 rfl rfl 2 (by decide) (hts (.fieldLink RX5 22 "WaitOrWalkOnModel" "then" "[I") (by decide +kernel)) (fun _ h9 => h9) rfl dX5_on_28 ?_
    refine lv_iload_n hx hb dX5_on_31 rfl (lv_at hl 0 rfl) ?_
    refine va_iald (D := D) hx hb hK hP 2 0 rfl rfl (vp_in_nI (by have w := (nI_ltI (a := k) (b := 70) (by omega) (by decide)).mp (Int32.not_le.mp c_2); exact w) (by decide)) dX5_on_32 ?_
    refine xv_int (y := th k) (congrArg th (nI_clamp (by omega))) ?_
    refine va_iast (D := D) hx hb hK hP hD hS 1 0 rfl rfl (vp_in_nI (by have w := (nI_ltI (a := k) (b := 70) (by omega) (by decide)).mp (Int32.not_le.mp c_2); exact w) (by decide)) dX5_on_33 (fun H locs hP hD hS => ?_)
    rw [nI_clamp (by omega)] at hP hD
    have hP : va_P D vwCl [(g0, .inr (5, [.ref ra, .ref wa, .ref ta, .int 1, .ref ma, .int mkd, .ref pa, .int tpd, .int at0, .int wel, .ref ba, .ref ka, .int srt, .ref fa, .ref qa, .ref ea, .ref za, .ref ya, .int wks])), (wa, .inl (cI, 70, .inl (upd f k (th k)))), (ta, .inl (cI, 70, .inl th))] H := hP
    have hD : va_D A [(g0, .inr (5, [.ref ra, .ref wa, .ref ta, .int 1, .ref ma, .int mkd, .ref pa, .int tpd, .int at0, .int wel, .ref ba, .ref ka, .int srt, .ref fa, .ref qa, .ref ea, .ref za, .ref ya, .int wks])), (wa, .inl (cI, 70, .inl (upd f k (th k)))), (ta, .inl (cI, 70, .inl th))] := hD
    refine lv_iinc (v := nI (k + 1)) (lv' := [(1, .int (nI (k + 1))), (0, .ref g0)]) hx hb dX5_on_34 hl (k := 0) rfl (nI_1 k) (by decide) rfl (fun ls hl => ?_)
    refine lv_goto (tgt := 16) hx hb dX5_on_37 (by decide) ?_
    have w := (nI_ltI (a := k) (b := 70) (by omega) (by decide)).mp (Int32.not_le.mp c_2)
    exact ih_16 (k + 1, upd f k (th k)) _ _ _ ⟨lv_sub hl [0, 1] rfl, hP.sub [0, 1, 2] rfl, hD.sub [0, 1, 2] (by decide) rfl, hS, by (try dsimp only); exact ⟨by omega, by omega, by rw [h3]; exact xCp_s th nw k⟩⟩

/-! the reference: fractions of longs, goers, sums -/
theorem xcmp {x y : Int64} : lg_cmp x y = 0 ↔ x = y := by
  unfold lg_cmp
  by_cases h : y < x
  · simp only [if_pos h]
    exact ⟨fun w => absurd w (by decide), fun w => absurd (w ▸ h) (by rw [Int64.lt_iff_toInt_lt]; omega)⟩
  · simp only [if_neg h]
    by_cases q : x = y
    · simp [q]
    · simp [q]
def xGL : Nat → Int64 → Int64 → Int64
  | 0, a, _ => a
  | n + 1, a, b => if b = 0 then a else xGL n b (a - a / b * b)
theorem xL_rem (x y : Int64) : (x - x / y * y).toInt = x.toInt.tmod y.toInt := by
  have hb : ∀ z : Int64, -9223372036854775808 ≤ z.toInt ∧ z.toInt < 9223372036854775808 := fun z => ⟨Int64.le_toInt z, Int64.toInt_lt z⟩
  have h0 := hb x
  have hm : (x.toInt.tmod y.toInt).natAbs ≤ x.toInt.natAbs := by rw [Int.natAbs_tmod]; exact Nat.mod_le _ _
  have e : (x - x / y * y).toInt = (x.toInt - x.toInt.tdiv y.toInt * y.toInt).bmod (2 ^ 64) := by
    rw [Int64.toInt_sub, Int64.toInt_mul, Int64.toInt_div, Int.bmod_mul_bmod, Int.sub_bmod_bmod]
  rw [e, show x.toInt - x.toInt.tdiv y.toInt * y.toInt = x.toInt.tmod y.toInt by rw [Int.tmod_def, Int.mul_comm]]
  by_cases q : (x.toInt.tmod y.toInt) = 9223372036854775808
  · have w : (x.toInt.tmod y.toInt).natAbs = 9223372036854775808 := by rw [q]; rfl
    have s : x.toInt < 0 := by omega
    have t : x.toInt.tmod y.toInt ≤ 0 := by
      have u : x.toInt.tmod y.toInt = -((-x.toInt).tmod y.toInt) := by rw [Int.neg_tmod, Int.neg_neg]
      have v := Int.tmod_nonneg y.toInt (a := -x.toInt) (by omega)
      omega
    omega
  · exact Int.bmod_eq_of_le (by omega) (by omega)
theorem xL_less {a b : Int64} (h : ¬ b = 0) : (a - a / b * b).toInt.natAbs < b.toInt.natAbs := by
  rw [xL_rem, Int.natAbs_tmod]
  apply Nat.mod_lt
  have e0 : (0 : Int64).toInt = 0 := by decide
  have w : ¬ b.toInt = 0 := fun w => h (Int64.toInt_inj.mp (by rw [w, e0]))
  omega
theorem xGL_fuel : ∀ (n k : Nat) (a b : Int64), b.toInt.natAbs < n → b.toInt.natAbs < k → xGL n a b = xGL k a b
  | 0, _, _, _, h, _ => absurd h (Nat.not_lt_zero _)
  | _ + 1, 0, _, _, _, h => absurd h (Nat.not_lt_zero _)
  | n + 1, k + 1, a, b, h1, h2 => by
    simp only [xGL]
    by_cases q : b = 0
    · rw [if_pos q, if_pos q]
    · rw [if_neg q, if_neg q]
      have w := xL_less (a := a) q
      exact xGL_fuel n k b _ (by omega) (by omega)
theorem xGL_s {a b : Int64} (h : ¬ b = 0) : xGL ((a - a / b * b).toInt.natAbs + 1) b (a - a / b * b) = xGL (b.toInt.natAbs + 1) a b := by
  have w := xL_less (a := a) h
  rw [show xGL (b.toInt.natAbs + 1) a b = xGL b.toInt.natAbs b (a - a / b * b) by simp only [xGL]; rw [if_neg h]]
  exact xGL_fuel _ _ _ _ (by omega) (by omega)
theorem xGL_z {a b : Int64} (h : b = 0) : xGL (b.toInt.natAbs + 1) a b = a := by simp only [xGL]; rw [if_pos h]
def xPt (a b : Int64) (q : Int32) : Int64 := if a = 0 then q.toInt64 else if b = 0 then q.toInt64 else (if q = 0 then a else b) / xGL (b.toInt.natAbs + 1) a b
def sSy (li a1 a2 a3 : Int32) : Int32 := if 0 < a3 then (if a1 = 5 then a2 else 0) else if a1 = 0 then li else if a1 = 3 then a2 else if a1 = 5 then 2 * a2 else 0
def xBl (a2 : Int32) : Int32 := if a2 = 2 then 1 else if a2 = 3 then 1 else if a2 = 5 then 1 else 0
theorem xBl_0 {si a2 : Int32} (h : xBl a2 = 0) : (0 : Int32) = xLk si a2 := by
  unfold xBl at h; unfold xLk
  by_cases h1 : a2 = 2
  · rw [if_pos h1] at h; exact absurd h (by decide)
  rw [if_neg h1] at h ⊢
  by_cases h2 : a2 = 3
  · rw [if_pos h2] at h; exact absurd h (by decide)
  rw [if_neg h2] at h ⊢
  by_cases h3 : a2 = 5
  · rw [if_pos h3] at h; exact absurd h (by decide)
  rw [if_neg h3]
theorem xBl_1 {si a2 : Int32} (h : ¬ xBl a2 = 0) : si = xLk si a2 := by
  unfold xBl at h; unfold xLk
  by_cases h1 : a2 = 2
  · rw [if_pos h1]
  rw [if_neg h1] at h ⊢
  by_cases h2 : a2 = 3
  · rw [if_pos h2]
  rw [if_neg h2] at h ⊢
  by_cases h3 : a2 = 5
  · rw [if_pos h3]
  rw [if_neg h3] at h; exact absurd rfl h
/-- a goer of the reference: its line's place in the row -/
def xHo (st : Nat) (nw : Nat → Int32) (lb : Nat) (a2 a3 t : Int32) : Int32 :=
  xGo t (fun i => xSm (fun j => sRd (nw lb) (nw (lb + 1)) (nI j)) i) (fun i => sSy (nw 5) a2 a3 (nI i)) (fun i => (xLm nw st (i + 1) + xPc2 (nw 2) a2 - 1) / xPc2 (nw 2) a2) (fun i => sHalt (nw lb) (nI i) (nI (st - 1))) (xLk (nw 4) a2) (t + xSm (fun j => sRd (nw lb) (nw (lb + 1)) (nI j)) (st - 1) + (xLm nw st st + xPc2 (nw 2) a2 - 1) / xPc2 (nw 2) a2) ((xLm nw st st + xPc2 (nw 2) a2 - 1) / xPc2 (nw 2) a2) (st - 1) 0 0
theorem xHo_spec (st : Nat) (nw : Nat → Int32) (lb : Nat) (a2 a3 t : Int32) : ∃ GO : Nat → Nat → Int32 → Int32, xHo st nw lb a2 a3 t = GO (st - 1) 0 0 ∧ (∀ k mi, GO 0 k mi = mi + (xLm nw st st + xPc2 (nw 2) a2 - 1) / xPc2 (nw 2) a2) ∧
    (∀ n k mi, t < 12 ∧ ¬ sHalt (nw lb) (nI k) (nI (st - 1)) = 0 ∧ ¬ t + xSm (fun j => sRd (nw lb) (nw (lb + 1)) (nI j)) k < mi ∧ ¬ mi + sSy (nw 5) a2 a3 (nI k) + xLk (nw 4) a2 < t + xSm (fun j => sRd (nw lb) (nw (lb + 1)) (nI j)) k → GO (n + 1) k mi = t + xSm (fun j => sRd (nw lb) (nw (lb + 1)) (nI j)) (st - 1) + (xLm nw st st + xPc2 (nw 2) a2 - 1) / xPc2 (nw 2) a2) ∧
    (∀ n k mi, ¬ (t < 12 ∧ ¬ sHalt (nw lb) (nI k) (nI (st - 1)) = 0 ∧ ¬ t + xSm (fun j => sRd (nw lb) (nw (lb + 1)) (nI j)) k < mi ∧ ¬ mi + sSy (nw 5) a2 a3 (nI k) + xLk (nw 4) a2 < t + xSm (fun j => sRd (nw lb) (nw (lb + 1)) (nI j)) k) → GO (n + 1) k mi = GO n (k + 1) (mi + sSy (nw 5) a2 a3 (nI k) + (xLm nw st (k + 1) + xPc2 (nw 2) a2 - 1) / xPc2 (nw 2) a2)) :=
  ⟨_, rfl, fun _ _ => rfl, fun _ _ _ h => xGo_in h, fun _ _ _ h => xGo_on h⟩
theorem xPc2_ne {pa a2 : Int32} (h1 : ¬ pa = 0) (h2 : ¬ 2 * pa = 0) : ¬ xPc2 pa a2 = 0 := by unfold xPc2; split <;> assumption
def v5H (st : Nat) (nw : Nat → Int32) (a1 a2 a3 a4 : Int32) : Int32 := xHo st nw (20 + 16 * a1.toNatClampNeg) a2 a3 a4
def x5S (st : Nat) (nw : Nat → Int32) (lb : Nat) (a2 a3 : Int32) : Int32 := xSm (fun i => xWt (fun j => nw (lb + j)) i * xHo st nw lb a2 a3 (nI i)) 13
def v5Co (nw : Nat → Int32) (a1 a2 a3 a4 : Int32) : Int64 := xPt (if a2 < a3 then 0 else (xWt (fun i => nw (20 + 16 * a1.toNatClampNeg + i)) a2.toNatClampNeg).toInt64) (xWs (fun i => nw (20 + 16 * a1.toNatClampNeg + i)) a3.toNatClampNeg).toInt64 a4
def v5M (st : Nat) (nw : Nat → Int32) (a1 a2 a3 a4 : Int32) : Int64 := xPt (x5S st nw (20 + 16 * a1.toNatClampNeg) a2 a3).toInt64 (xWs (fun i => nw (20 + 16 * a1.toNatClampNeg + i)) 0).toInt64 a4
def q5Co (ln : Nat) (a1 a2 a3 a4 : Int32) : Int32 := if sNL ln a1 = 0 then (if a2 < 0 then -4 else if a3 < 0 then -4 else if 12 < a2 then -6 else if 11 < a3 then -6 else if sNP a4 = 0 then 0 else -2) else -1
def x5So (st : Nat) (nw : Nat → Int32) (lb : Nat) (a2 a3 a4 : Int32) : Nat → Int32 := fun i => if a4 < xHo st nw lb a2 a3 (nI i) then 0 else xWt (fun j => nw (lb + j)) i
theorem x5So_t {st : Nat} {nw : Nat → Int32} {lb : Nat} {a2 a3 a4 : Int32} {i : Nat} (h : a4 < xHo st nw lb a2 a3 (nI i)) : (0 : Int32) = x5So st nw lb a2 a3 a4 i := (if_pos h).symm
theorem x5So_f {st : Nat} {nw : Nat → Int32} {lb : Nat} {a2 a3 a4 : Int32} {i : Nat} (h : ¬ a4 < xHo st nw lb a2 a3 (nI i)) : xWt (fun j => nw (lb + j)) i = x5So st nw lb a2 a3 a4 i := (if_neg h).symm
def v5So (st : Nat) (nw : Nat → Int32) (a1 a2 a3 a4 a5 : Int32) : Int64 := xPt (xSm (x5So st nw (20 + 16 * a1.toNatClampNeg) a2 a3 a4) 13).toInt64 (xWs (fun i => nw (20 + 16 * a1.toNatClampNeg + i)) 0).toInt64 a5
def x5Pl (a1 : Int32) : Nat := if a1 = 0 then 1 else if a1 = 1 then 2 else if a1 = 2 then 4 else 5
def x5Se (nw : Nat → Int32) (a1 a2 : Int32) : Nat → Int32 := if qSe a1 a2 = 0 then upd nw (x5Pl a1) a2 else nw
