set_option maxHeartbeats 4000000 in
set_option maxRecDepth 100000 in
theorem p1_X5_stop (l : Launch) (D : va_G) (cI cL cZ cC : ClassId) (sz : Nat) (g0 : Nat) (ra : Nat) (wa : Nat) (ta : Nat) (ma : Nat) (pa : Nat) (ba : Nat) (ka : Nat) (fa : Nat) (qa : Nat) (ea : Nat) (za : Nat) (ya : Nat) (a1 : Int32) (a2 : Int32)  : Met l yX5_stop wsX5_stop ({ frames := 3, cells := 0, slots := 0, locals := 66 } : Room) (wPc D [.ref g0, .int a1, .int a2] [(g0, .inr (5, [.ref ra, .ref wa, .ref ta, .int 0, .ref ma, .int 0, .ref pa, .int 0, .int 0, .int 0, .ref ba, .ref ka, .int 0, .ref fa, .ref qa, .ref ea, .ref za, .ref ya, .int 0])), (wa, .inl (cI, 70, .inl (upd (upd (upd (upd (upd (fun _ => 0) 0 1) 1 400) 2 80) 4 2) 5 30))), (ra, .inl (cI, 7, .inl (fun _ => 0)))] (xTy cI cL cZ cC) sz) (va_Qi (fun (r : Int32) (_ : Unit) => r = sStop0 a1 a2) (fun (_ : Unit) t => va_P D vwCl [] t.heap ∧ va_D (va_A [(g0, .inr (5, [.ref ra, .ref wa, .ref ta, .int 0, .ref ma, .int 0, .ref pa, .int 0, .int 0, .int 0, .ref ba, .ref ka, .int 0, .ref fa, .ref qa, .ref ea, .ref za, .ref ya, .int 0])), (wa, .inl (cI, 70, .inl (upd (upd (upd (upd (upd (fun _ => 0) 0 1) 1 400) 2 80) 4 2) 5 30))), (ra, .inl (cI, 7, .inl (fun _ => 0)))] sz) []) (va_A [(g0, .inr (5, [.ref ra, .ref wa, .ref ta, .int 0, .ref ma, .int 0, .ref pa, .int 0, .int 0, .int 0, .ref ba, .ref ka, .int 0, .ref fa, .ref qa, .ref ea, .ref za, .ref ya, .int 0])), (wa, .inl (cI, 70, .inl (upd (upd (upd (upd (upd (fun _ => 0) 0 1) 1 400) 2 80) 4 2) 5 30))), (ra, .inl (cI, 7, .inl (fun _ => 0)))] sz)) 0 0 (va_A [(g0, .inr (5, [.ref ra, .ref wa, .ref ta, .int 0, .ref ma, .int 0, .ref pa, .int 0, .int 0, .int 0, .ref ba, .ref ka, .int 0, .ref fa, .ref qa, .ref ea, .ref za, .ref ya, .int 0])), (wa, .inl (cI, 70, .inl (upd (upd (upd (upd (upd (fun _ => 0) 0 1) 1 400) 2 80) 4 2) 5 30))), (ra, .inl (cI, 7, .inl (fun _ => 0)))] sz) := by
  refine Met.ofW (cc := cX5_stop) (maxL := 3) (ret := (some .int)) (by decide) rfl ?_
  intro p e s m args below meth c s₁ B hml hv
  obtain ⟨rfl, hsz, hP, hK, hD0⟩ := hv
  have hx := B.exec
  have hb := B.bytes
  have hr := B.returns
  have hts := atoms_spec (ws := wsX5_stop) B.pre
  have hown : s.vm.findClass RX5 = some m.cls := findClass_of_methodNamed B.named
  have hlocks := B.notSynchronized
  have hwX5 : ∀ w ∈ u_ws RX5 TX5 19, w ∈ wsX5_stop := fun _ h => List.mem_cons_of_mem _ (List.mem_append_right _ h)
  subst hsz
  have hD := hD0.self (sz := s.heap.size)
  generalize hAe : va_A [(g0, .inr (5, [.ref ra, .ref wa, .ref ta, .int 0, .ref ma, .int 0, .ref pa, .int 0, .int 0, .int 0, .ref ba, .ref ka, .int 0, .ref fa, .ref qa, .ref ea, .ref za, .ref ya, .int 0])), (wa, .inl (cI, 70, .inl (upd (upd (upd (upd (upd (fun _ => 0) 0 1) 1 400) 2 80) 4 2) 5 30))), (ra, .inl (cI, 7, .inl (fun _ => 0)))] s.heap.size = A at hD ⊢
  have hA : ∀ q : Nat, s.heap.size ≤ q → A q := fun q h => by rw [← hAe]; exact Or.inr h
  have hS : va_S A s.heap s.heap [] := va_S.rf
  have hP : va_P D vwCl [(g0, .inr (5, [.ref ra, .ref wa, .ref ta, .int 0, .ref ma, .int 0, .ref pa, .int 0, .int 0, .int 0, .ref ba, .ref ka, .int 0, .ref fa, .ref qa, .ref ea, .ref za, .ref ya, .int 0])), (wa, .inl (cI, 70, .inl (upd (upd (upd (upd (upd (fun _ => 0) 0 1) 1 400) 2 80) 4 2) 5 30))), (ra, .inl (cI, 7, .inl (fun _ => 0)))] s.heap := hP
  have hl := lv_entry ([.ref g0, .int a1, .int a2]) (n := 3) (Nat.le_of_ble_eq_true rfl)
  rw [lg_entry_eq]
  generalize (lg_sl ([.ref g0, .int a1, .int a2]) ++ List.replicate (3 - (lg_sl ([.ref g0, .int a1, .int a2])).length) Slot.unset).toArray = ls at hl ⊢
  have hl : lv_has ls 3 [(0, .ref g0), (1, .int a1), (2, .int a2)] := hl
  by_cases h_1 : a1 < 0
  · refine lv_aload_n hx hb dX5_stop_0 rfl (lv_at hl 0 rfl) ?_
    refine lv_iload_n hx hb dX5_stop_1 rfl (lv_at hl 1 rfl) ?_
    have hPc := hP.sub (ws' := [(g0, .inr (5, [.ref ra, .ref wa, .ref ta, .int 0, .ref ma, .int 0, .ref pa, .int 0, .int 0, .int 0, .ref ba, .ref ka, .int 0, .ref fa, .ref qa, .ref ea, .ref za, .ref ya, .int 0])), (wa, .inl (cI, 70, .inl (upd (upd (upd (upd (upd (fun _ => 0) 0 1) 1 400) 2 80) 4 2) 5 30)))]) [0, 1] rfl
    refine vp_callSi (va_Run.run (va_runV (As := [.int a1]) (rest := []) ⟨hx, hb, hml, hown, hts⟩ (c_X5_isNoStop l D cI cL cZ cC g0 ra wa ta ma pa ba ka fa qa ea za ya a1 ) (cwV 1 hts gX5_stop_X5_isNoStop rfl rfl rfl (by decide +kernel) ⟨Nat.le_of_ble_eq_true rfl, Nat.le_of_ble_eq_true rfl⟩) ⟨xPc_bl, va_recv hK hPc (ci := 5) (q0 := 0) rfl rfl, xPc_use hPc hK⟩ rfl rfl hl.1 rfl (lv_room (Nat.le_of_ble_eq_true rfl)) dX5_stop_2 ⟨Nat.le_of_ble_eq_true rfl, Nat.le_of_ble_eq_true rfl⟩)) (fun r_1 er_1 => ?_)
    obtain rfl : (if a1 < 0 then 1 else if a1 < 1 then 0 else 1 : Int32) = r_1 := Eq.symm er_1
    refine xv_int (y := 1) (if_pos h_1) ?_
    refine lv_if_eq (tgt := 14) hx hb dX5_stop_5 (by decide) (fun c_2 => absurd c_2 (by decide +kernel)) (fun c_2 => ?_)
    refine lv_aload_n hx hb dX5_stop_8 rfl (lv_at hl 0 rfl) ?_
    refine lv_iconst (v := -1) hx hb dX5_stop_9 (by decide) ?_
    have hPc := hP.sub (ws' := [(g0, .inr (5, [.ref ra, .ref wa, .ref ta, .int 0, .ref ma, .int 0, .ref pa, .int 0, .int 0, .int 0, .ref ba, .ref ka, .int 0, .ref fa, .ref qa, .ref ea, .ref za, .ref ya, .int 0])), (ra, .inl (cI, 7, .inl (fun _ => 0)))]) [0, 2] rfl
    have hDc := hD.sub (ws' := [(g0, .inr (5, [.ref ra, .ref wa, .ref ta, .int 0, .ref ma, .int 0, .ref pa, .int 0, .int 0, .int 0, .ref ba, .ref ka, .int 0, .ref fa, .ref qa, .ref ea, .ref za, .ref ya, .int 0])), (ra, .inl (cI, 7, .inl (fun _ => 0)))]) [0, 2] (by decide) rfl
    have hFc := va_free (wc := [(g0, .inr (5, [.ref ra, .ref wa, .ref ta, .int 0, .ref ma, .int 0, .ref pa, .int 0, .int 0, .int 0, .ref ba, .ref ka, .int 0, .ref fa, .ref qa, .ref ea, .ref za, .ref ya, .int 0])), (ra, .inl (cI, 7, .inl (fun _ => 0)))]) hD hS hA [0, 2] rfl
    refine va_calli (va_runV (As := [.int (-1)]) (rest := []) ⟨hx, hb, hml, hown, hts⟩ (c_X5_no l D cI cL cZ cC _ g0 ra wa ta ma pa ba ka fa qa ea za ya (fun _ => 0) (-1) (by first | assumption | decide +kernel) (by first | assumption | decide +kernel)) (cwV 1 hts gX5_stop_X5_no rfl rfl rfl (by decide +kernel) ⟨Nat.le_of_ble_eq_true rfl, Nat.le_of_ble_eq_true rfl⟩) ⟨wPc_bl, va_recv hK hPc (ci := 5) (q0 := 0) rfl rfl, wPc_use hPc hK hDc⟩ rfl rfl hl.1 rfl (lv_room (Nat.le_of_ble_eq_true rfl)) dX5_stop_10 ⟨Nat.le_of_ble_eq_true rfl, Nat.le_of_ble_eq_true rfl⟩) hS (fun q _ h => hFc q h) hFc (fun r_3 u_3 t H1 locs ht hvm hw hB hz1 hk1 hS => ?_)
    obtain ⟨hP1, hD1⟩ := hB
    rw [ht] at hP1
    obtain ⟨hP, hD⟩ := va_join (wr := [(wa, .inl (cI, 70, .inl (upd (upd (upd (upd (upd (fun _ => 0) 0 1) 1 400) 2 80) 4 2) 5 30)))]) (w1 := [(g0, .inr (5, [.ref ra, .ref wa, .ref ta, .int 0, .ref ma, .int 0, .ref pa, .int 0, .int 0, .int 0, .ref ba, .ref ka, .int 0, .ref fa, .ref qa, .ref ea, .ref za, .ref ya, .int 0])), (ra, .inl (cI, 7, .inl (xRf (fun _ => 0) (-1))))]) hP hD [0, 2] [1] rfl rfl (by decide) (by decide) hk1 hFc hP1 hD1
    generalize H1 = H at hP hS ⊢
    have hP : va_P D vwCl [(wa, .inl (cI, 70, .inl (upd (upd (upd (upd (upd (fun _ => 0) 0 1) 1 400) 2 80) 4 2) 5 30))), (g0, .inr (5, [.ref ra, .ref wa, .ref ta, .int 0, .ref ma, .int 0, .ref pa, .int 0, .int 0, .int 0, .ref ba, .ref ka, .int 0, .ref fa, .ref qa, .ref ea, .ref za, .ref ya, .int 0])), (ra, .inl (cI, 7, .inl (xRf (fun _ => 0) (-1))))] H := hP
    have hD : va_D A [(wa, .inl (cI, 70, .inl (upd (upd (upd (upd (upd (fun _ => 0) 0 1) 1 400) 2 80) 4 2) 5 30))), (g0, .inr (5, [.ref ra, .ref wa, .ref ta, .int 0, .ref ma, .int 0, .ref pa, .int 0, .int 0, .int 0, .ref ba, .ref ka, .int 0, .ref fa, .ref qa, .ref ea, .ref za, .ref ya, .int 0])), (ra, .inl (cI, 7, .inl (xRf (fun _ => 0) (-1))))] := hD
    obtain rfl : ((-1) : Int32) = r_3 := Eq.symm hw
    have hP9 := hP.sub (ws' := []) [] rfl
    have hD9 := hD.sub (ws' := []) [] (by decide) rfl
    exact W.iret (v := -1) hx hb hr (fun t ht hW => ⟨⟨_, (), rfl, by simp [sStop0, h_1, c_2], by rw [ht]; exact hP9, hD9⟩, hS.F ht⟩) hS.2.2 dX5_stop_13
  by_cases h_2 : 1 ≤ a1
  · refine lv_aload_n hx hb dX5_stop_0 rfl (lv_at hl 0 rfl) ?_
    refine lv_iload_n hx hb dX5_stop_1 rfl (lv_at hl 1 rfl) ?_
    have hPc := hP.sub (ws' := [(g0, .inr (5, [.ref ra, .ref wa, .ref ta, .int 0, .ref ma, .int 0, .ref pa, .int 0, .int 0, .int 0, .ref ba, .ref ka, .int 0, .ref fa, .ref qa, .ref ea, .ref za, .ref ya, .int 0])), (wa, .inl (cI, 70, .inl (upd (upd (upd (upd (upd (fun _ => 0) 0 1) 1 400) 2 80) 4 2) 5 30)))]) [0, 1] rfl
    refine vp_callSi (va_Run.run (va_runV (As := [.int a1]) (rest := []) ⟨hx, hb, hml, hown, hts⟩ (c_X5_isNoStop l D cI cL cZ cC g0 ra wa ta ma pa ba ka fa qa ea za ya a1 ) (cwV 1 hts gX5_stop_X5_isNoStop rfl rfl rfl (by decide +kernel) ⟨Nat.le_of_ble_eq_true rfl, Nat.le_of_ble_eq_true rfl⟩) ⟨xPc_bl, va_recv hK hPc (ci := 5) (q0 := 0) rfl rfl, xPc_use hPc hK⟩ rfl rfl hl.1 rfl (lv_room (Nat.le_of_ble_eq_true rfl)) dX5_stop_2 ⟨Nat.le_of_ble_eq_true rfl, Nat.le_of_ble_eq_true rfl⟩)) (fun r_4 er_4 => ?_)
    obtain rfl : (if a1 < 0 then 1 else if a1 < 1 then 0 else 1 : Int32) = r_4 := Eq.symm er_4
    refine xv_int (y := 1) (by rw [if_neg h_1, if_neg (Int32.not_lt.mpr h_2)]) ?_
    refine lv_if_eq (tgt := 14) hx hb dX5_stop_5 (by decide) (fun c_5 => absurd c_5 (by decide +kernel)) (fun c_5 => ?_)
    refine lv_aload_n hx hb dX5_stop_8 rfl (lv_at hl 0 rfl) ?_
    refine lv_iconst (v := -1) hx hb dX5_stop_9 (by decide) ?_
    have hPc := hP.sub (ws' := [(g0, .inr (5, [.ref ra, .ref wa, .ref ta, .int 0, .ref ma, .int 0, .ref pa, .int 0, .int 0, .int 0, .ref ba, .ref ka, .int 0, .ref fa, .ref qa, .ref ea, .ref za, .ref ya, .int 0])), (ra, .inl (cI, 7, .inl (fun _ => 0)))]) [0, 2] rfl
    have hDc := hD.sub (ws' := [(g0, .inr (5, [.ref ra, .ref wa, .ref ta, .int 0, .ref ma, .int 0, .ref pa, .int 0, .int 0, .int 0, .ref ba, .ref ka, .int 0, .ref fa, .ref qa, .ref ea, .ref za, .ref ya, .int 0])), (ra, .inl (cI, 7, .inl (fun _ => 0)))]) [0, 2] (by decide) rfl
    have hFc := va_free (wc := [(g0, .inr (5, [.ref ra, .ref wa, .ref ta, .int 0, .ref ma, .int 0, .ref pa, .int 0, .int 0, .int 0, .ref ba, .ref ka, .int 0, .ref fa, .ref qa, .ref ea, .ref za, .ref ya, .int 0])), (ra, .inl (cI, 7, .inl (fun _ => 0)))]) hD hS hA [0, 2] rfl
    refine va_calli (va_runV (As := [.int (-1)]) (rest := []) ⟨hx, hb, hml, hown, hts⟩ (c_X5_no l D cI cL cZ cC _ g0 ra wa ta ma pa ba ka fa qa ea za ya (fun _ => 0) (-1) (by first | assumption | decide +kernel) (by first | assumption | decide +kernel)) (cwV 1 hts gX5_stop_X5_no rfl rfl rfl (by decide +kernel) ⟨Nat.le_of_ble_eq_true rfl, Nat.le_of_ble_eq_true rfl⟩) ⟨wPc_bl, va_recv hK hPc (ci := 5) (q0 := 0) rfl rfl, wPc_use hPc hK hDc⟩ rfl rfl hl.1 rfl (lv_room (Nat.le_of_ble_eq_true rfl)) dX5_stop_10 ⟨Nat.le_of_ble_eq_true rfl, Nat.le_of_ble_eq_true rfl⟩) hS (fun q _ h => hFc q h) hFc (fun r_6 u_6 t H1 locs ht hvm hw hB hz1 hk1 hS => ?_)
    obtain ⟨hP1, hD1⟩ := hB
    rw [ht] at hP1
    obtain ⟨hP, hD⟩ := va_join (wr := [(wa, .inl (cI, 70, .inl (upd (upd (upd (upd (upd (fun _ => 0) 0 1) 1 400) 2 80) 4 2) 5 30)))]) (w1 := [(g0, .inr (5, [.ref ra, .ref wa, .ref ta, .int 0, .ref ma, .int 0, .ref pa, .int 0, .int 0, .int 0, .ref ba, .ref ka, .int 0, .ref fa, .ref qa, .ref ea, .ref za, .ref ya, .int 0])), (ra, .inl (cI, 7, .inl (xRf (fun _ => 0) (-1))))]) hP hD [0, 2] [1] rfl rfl (by decide) (by decide) hk1 hFc hP1 hD1
    generalize H1 = H at hP hS ⊢
    have hP : va_P D vwCl [(wa, .inl (cI, 70, .inl (upd (upd (upd (upd (upd (fun _ => 0) 0 1) 1 400) 2 80) 4 2) 5 30))), (g0, .inr (5, [.ref ra, .ref wa, .ref ta, .int 0, .ref ma, .int 0, .ref pa, .int 0, .int 0, .int 0, .ref ba, .ref ka, .int 0, .ref fa, .ref qa, .ref ea, .ref za, .ref ya, .int 0])), (ra, .inl (cI, 7, .inl (xRf (fun _ => 0) (-1))))] H := hP
    have hD : va_D A [(wa, .inl (cI, 70, .inl (upd (upd (upd (upd (upd (fun _ => 0) 0 1) 1 400) 2 80) 4 2) 5 30))), (g0, .inr (5, [.ref ra, .ref wa, .ref ta, .int 0, .ref ma, .int 0, .ref pa, .int 0, .int 0, .int 0, .ref ba, .ref ka, .int 0, .ref fa, .ref qa, .ref ea, .ref za, .ref ya, .int 0])), (ra, .inl (cI, 7, .inl (xRf (fun _ => 0) (-1))))] := hD
    obtain rfl : ((-1) : Int32) = r_6 := Eq.symm hw
    have hP9 := hP.sub (ws' := []) [] rfl
    have hD9 := hD.sub (ws' := []) [] (by decide) rfl
    exact W.iret (v := -1) hx hb hr (fun t ht hW => ⟨⟨_, (), rfl, by simp [sStop0, h_1, h_2, c_5], by rw [ht]; exact hP9, hD9⟩, hS.F ht⟩) hS.2.2 dX5_stop_13
  obtain rfl : a1 = 0 := xz1 h_1 h_2
  by_cases h_3 : a2 < 0
  · refine lv_aload_n hx hb dX5_stop_0 rfl (lv_at hl 0 rfl) ?_
    refine lv_iload_n hx hb dX5_stop_1 rfl (lv_at hl 1 rfl) ?_
    have hPc := hP.sub (ws' := [(g0, .inr (5, [.ref ra, .ref wa, .ref ta, .int 0, .ref ma, .int 0, .ref pa, .int 0, .int 0, .int 0, .ref ba, .ref ka, .int 0, .ref fa, .ref qa, .ref ea, .ref za, .ref ya, .int 0])), (wa, .inl (cI, 70, .inl (upd (upd (upd (upd (upd (fun _ => 0) 0 1) 1 400) 2 80) 4 2) 5 30)))]) [0, 1] rfl
    refine vp_callSi (va_Run.run (va_runV (As := [.int 0]) (rest := []) ⟨hx, hb, hml, hown, hts⟩ (c_X5_isNoStop l D cI cL cZ cC g0 ra wa ta ma pa ba ka fa qa ea za ya 0 ) (cwV 1 hts gX5_stop_X5_isNoStop rfl rfl rfl (by decide +kernel) ⟨Nat.le_of_ble_eq_true rfl, Nat.le_of_ble_eq_true rfl⟩) ⟨xPc_bl, va_recv hK hPc (ci := 5) (q0 := 0) rfl rfl, xPc_use hPc hK⟩ rfl rfl hl.1 rfl (lv_room (Nat.le_of_ble_eq_true rfl)) dX5_stop_2 ⟨Nat.le_of_ble_eq_true rfl, Nat.le_of_ble_eq_true rfl⟩)) (fun r_7 er_7 => ?_)
    obtain rfl : (if (0 : Int32) < 0 then 1 else if (0 : Int32) < 1 then 0 else 1 : Int32) = r_7 := Eq.symm er_7
    refine xv_int (y := 0) (by decide +kernel) ?_
    refine lv_if_eq (tgt := 14) hx hb dX5_stop_5 (by decide) (fun c_8 => ?_) (fun c_8 => absurd c_8 (by decide +kernel))
    refine lv_iload_n hx hb dX5_stop_14 rfl (lv_at hl 2 rfl) ?_
    refine lv_if_lt (tgt := 23) hx hb dX5_stop_15 (by decide) (fun c_9 => ?_) (fun c_9 => absurd h_3 c_9)
    refine lv_aload_n hx hb dX5_stop_23 rfl (lv_at hl 0 rfl) ?_
    refine lv_bipush (v := -2) hx hb dX5_stop_24 (by decide) ?_
    have hPc := hP.sub (ws' := [(g0, .inr (5, [.ref ra, .ref wa, .ref ta, .int 0, .ref ma, .int 0, .ref pa, .int 0, .int 0, .int 0, .ref ba, .ref ka, .int 0, .ref fa, .ref qa, .ref ea, .ref za, .ref ya, .int 0])), (ra, .inl (cI, 7, .inl (fun _ => 0)))]) [0, 2] rfl
    have hDc := hD.sub (ws' := [(g0, .inr (5, [.ref ra, .ref wa, .ref ta, .int 0, .ref ma, .int 0, .ref pa, .int 0, .int 0, .int 0, .ref ba, .ref ka, .int 0, .ref fa, .ref qa, .ref ea, .ref za, .ref ya, .int 0])), (ra, .inl (cI, 7, .inl (fun _ => 0)))]) [0, 2] (by decide) rfl
    have hFc := va_free (wc := [(g0, .inr (5, [.ref ra, .ref wa, .ref ta, .int 0, .ref ma, .int 0, .ref pa, .int 0, .int 0, .int 0, .ref ba, .ref ka, .int 0, .ref fa, .ref qa, .ref ea, .ref za, .ref ya, .int 0])), (ra, .inl (cI, 7, .inl (fun _ => 0)))]) hD hS hA [0, 2] rfl
    refine va_calli (va_runV (As := [.int (-2)]) (rest := []) ⟨hx, hb, hml, hown, hts⟩ (c_X5_no l D cI cL cZ cC _ g0 ra wa ta ma pa ba ka fa qa ea za ya (fun _ => 0) (-2) (by first | assumption | decide +kernel) (by first | assumption | decide +kernel)) (cwV 1 hts gX5_stop_X5_no rfl rfl rfl (by decide +kernel) ⟨Nat.le_of_ble_eq_true rfl, Nat.le_of_ble_eq_true rfl⟩) ⟨wPc_bl, va_recv hK hPc (ci := 5) (q0 := 0) rfl rfl, wPc_use hPc hK hDc⟩ rfl rfl hl.1 rfl (lv_room (Nat.le_of_ble_eq_true rfl)) dX5_stop_26 ⟨Nat.le_of_ble_eq_true rfl, Nat.le_of_ble_eq_true rfl⟩) hS (fun q _ h => hFc q h) hFc (fun r_10 u_10 t H1 locs ht hvm hw hB hz1 hk1 hS => ?_)
    obtain ⟨hP1, hD1⟩ := hB
    rw [ht] at hP1
    obtain ⟨hP, hD⟩ := va_join (wr := [(wa, .inl (cI, 70, .inl (upd (upd (upd (upd (upd (fun _ => 0) 0 1) 1 400) 2 80) 4 2) 5 30)))]) (w1 := [(g0, .inr (5, [.ref ra, .ref wa, .ref ta, .int 0, .ref ma, .int 0, .ref pa, .int 0, .int 0, .int 0, .ref ba, .ref ka, .int 0, .ref fa, .ref qa, .ref ea, .ref za, .ref ya, .int 0])), (ra, .inl (cI, 7, .inl (xRf (fun _ => 0) (-2))))]) hP hD [0, 2] [1] rfl rfl (by decide) (by decide) hk1 hFc hP1 hD1
    generalize H1 = H at hP hS ⊢
    have hP : va_P D vwCl [(wa, .inl (cI, 70, .inl (upd (upd (upd (upd (upd (fun _ => 0) 0 1) 1 400) 2 80) 4 2) 5 30))), (g0, .inr (5, [.ref ra, .ref wa, .ref ta, .int 0, .ref ma, .int 0, .ref pa, .int 0, .int 0, .int 0, .ref ba, .ref ka, .int 0, .ref fa, .ref qa, .ref ea, .ref za, .ref ya, .int 0])), (ra, .inl (cI, 7, .inl (xRf (fun _ => 0) (-2))))] H := hP
    have hD : va_D A [(wa, .inl (cI, 70, .inl (upd (upd (upd (upd (upd (fun _ => 0) 0 1) 1 400) 2 80) 4 2) 5 30))), (g0, .inr (5, [.ref ra, .ref wa, .ref ta, .int 0, .ref ma, .int 0, .ref pa, .int 0, .int 0, .int 0, .ref ba, .ref ka, .int 0, .ref fa, .ref qa, .ref ea, .ref za, .ref ya, .int 0])), (ra, .inl (cI, 7, .inl (xRf (fun _ => 0) (-2))))] := hD
    obtain rfl : ((-2) : Int32) = r_10 := Eq.symm hw
    have hP9 := hP.sub (ws' := []) [] rfl
    have hD9 := hD.sub (ws' := []) [] (by decide) rfl
    exact W.iret (v := -2) hx hb hr (fun t ht hW => ⟨⟨_, (), rfl, by simp [sStop0, h_3, c_8, c_9], by rw [ht]; exact hP9, hD9⟩, hS.F ht⟩) hS.2.2 dX5_stop_29
  by_cases h_4 : 2 < a2
  · refine lv_aload_n hx hb dX5_stop_0 rfl (lv_at hl 0 rfl) ?_
    refine lv_iload_n hx hb dX5_stop_1 rfl (lv_at hl 1 rfl) ?_
    have hPc := hP.sub (ws' := [(g0, .inr (5, [.ref ra, .ref wa, .ref ta, .int 0, .ref ma, .int 0, .ref pa, .int 0, .int 0, .int 0, .ref ba, .ref ka, .int 0, .ref fa, .ref qa, .ref ea, .ref za, .ref ya, .int 0])), (wa, .inl (cI, 70, .inl (upd (upd (upd (upd (upd (fun _ => 0) 0 1) 1 400) 2 80) 4 2) 5 30)))]) [0, 1] rfl
    refine vp_callSi (va_Run.run (va_runV (As := [.int 0]) (rest := []) ⟨hx, hb, hml, hown, hts⟩ (c_X5_isNoStop l D cI cL cZ cC g0 ra wa ta ma pa ba ka fa qa ea za ya 0 ) (cwV 1 hts gX5_stop_X5_isNoStop rfl rfl rfl (by decide +kernel) ⟨Nat.le_of_ble_eq_true rfl, Nat.le_of_ble_eq_true rfl⟩) ⟨xPc_bl, va_recv hK hPc (ci := 5) (q0 := 0) rfl rfl, xPc_use hPc hK⟩ rfl rfl hl.1 rfl (lv_room (Nat.le_of_ble_eq_true rfl)) dX5_stop_2 ⟨Nat.le_of_ble_eq_true rfl, Nat.le_of_ble_eq_true rfl⟩)) (fun r_11 er_11 => ?_)
    obtain rfl : (if (0 : Int32) < 0 then 1 else if (0 : Int32) < 1 then 0 else 1 : Int32) = r_11 := Eq.symm er_11
    refine xv_int (y := 0) (by decide +kernel) ?_
    refine lv_if_eq (tgt := 14) hx hb dX5_stop_5 (by decide) (fun c_12 => ?_) (fun c_12 => absurd c_12 (by decide +kernel))
    refine lv_iload_n hx hb dX5_stop_14 rfl (lv_at hl 2 rfl) ?_
    refine lv_if_lt (tgt := 23) hx hb dX5_stop_15 (by decide) (fun c_13 => absurd c_13 h_3) (fun c_13 => ?_)
    refine lv_iload_n hx hb dX5_stop_18 rfl (lv_at hl 2 rfl) ?_
    refine lv_iconst (v := 2) hx hb dX5_stop_19 (by decide) ?_
    refine lv_icmp_le (tgt := 30) hx hb dX5_stop_20 (by decide) (fun c_14 => absurd h_4 (Int32.not_lt.mpr c_14)) (fun c_14 => ?_)
    refine lv_aload_n hx hb dX5_stop_23 rfl (lv_at hl 0 rfl) ?_
    refine lv_bipush (v := -2) hx hb dX5_stop_24 (by decide) ?_
    have hPc := hP.sub (ws' := [(g0, .inr (5, [.ref ra, .ref wa, .ref ta, .int 0, .ref ma, .int 0, .ref pa, .int 0, .int 0, .int 0, .ref ba, .ref ka, .int 0, .ref fa, .ref qa, .ref ea, .ref za, .ref ya, .int 0])), (ra, .inl (cI, 7, .inl (fun _ => 0)))]) [0, 2] rfl
    have hDc := hD.sub (ws' := [(g0, .inr (5, [.ref ra, .ref wa, .ref ta, .int 0, .ref ma, .int 0, .ref pa, .int 0, .int 0, .int 0, .ref ba, .ref ka, .int 0, .ref fa, .ref qa, .ref ea, .ref za, .ref ya, .int 0])), (ra, .inl (cI, 7, .inl (fun _ => 0)))]) [0, 2] (by decide) rfl
    have hFc := va_free (wc := [(g0, .inr (5, [.ref ra, .ref wa, .ref ta, .int 0, .ref ma, .int 0, .ref pa, .int 0, .int 0, .int 0, .ref ba, .ref ka, .int 0, .ref fa, .ref qa, .ref ea, .ref za, .ref ya, .int 0])), (ra, .inl (cI, 7, .inl (fun _ => 0)))]) hD hS hA [0, 2] rfl
    refine va_calli (va_runV (As := [.int (-2)]) (rest := []) ⟨hx, hb, hml, hown, hts⟩ (c_X5_no l D cI cL cZ cC _ g0 ra wa ta ma pa ba ka fa qa ea za ya (fun _ => 0) (-2) (by first | assumption | decide +kernel) (by first | assumption | decide +kernel)) (cwV 1 hts gX5_stop_X5_no rfl rfl rfl (by decide +kernel) ⟨Nat.le_of_ble_eq_true rfl, Nat.le_of_ble_eq_true rfl⟩) ⟨wPc_bl, va_recv hK hPc (ci := 5) (q0 := 0) rfl rfl, wPc_use hPc hK hDc⟩ rfl rfl hl.1 rfl (lv_room (Nat.le_of_ble_eq_true rfl)) dX5_stop_26 ⟨Nat.le_of_ble_eq_true rfl, Nat.le_of_ble_eq_true rfl⟩) hS (fun q _ h => hFc q h) hFc (fun r_15 u_15 t H1 locs ht hvm hw hB hz1 hk1 hS => ?_)
    obtain ⟨hP1, hD1⟩ := hB
    rw [ht] at hP1
    obtain ⟨hP, hD⟩ := va_join (wr := [(wa, .inl (cI, 70, .inl (upd (upd (upd (upd (upd (fun _ => 0) 0 1) 1 400) 2 80) 4 2) 5 30)))]) (w1 := [(g0, .inr (5, [.ref ra, .ref wa, .ref ta, .int 0, .ref ma, .int 0, .ref pa, .int 0, .int 0, .int 0, .ref ba, .ref ka, .int 0, .ref fa, .ref qa, .ref ea, .ref za, .ref ya, .int 0])), (ra, .inl (cI, 7, .inl (xRf (fun _ => 0) (-2))))]) hP hD [0, 2] [1] rfl rfl (by decide) (by decide) hk1 hFc hP1 hD1
    generalize H1 = H at hP hS ⊢
    have hP : va_P D vwCl [(wa, .inl (cI, 70, .inl (upd (upd (upd (upd (upd (fun _ => 0) 0 1) 1 400) 2 80) 4 2) 5 30))), (g0, .inr (5, [.ref ra, .ref wa, .ref ta, .int 0, .ref ma, .int 0, .ref pa, .int 0, .int 0, .int 0, .ref ba, .ref ka, .int 0, .ref fa, .ref qa, .ref ea, .ref za, .ref ya, .int 0])), (ra, .inl (cI, 7, .inl (xRf (fun _ => 0) (-2))))] H := hP
    have hD : va_D A [(wa, .inl (cI, 70, .inl (upd (upd (upd (upd (upd (fun _ => 0) 0 1) 1 400) 2 80) 4 2) 5 30))), (g0, .inr (5, [.ref ra, .ref wa, .ref ta, .int 0, .ref ma, .int 0, .ref pa, .int 0, .int 0, .int 0, .ref ba, .ref ka, .int 0, .ref fa, .ref qa, .ref ea, .ref za, .ref ya, .int 0])), (ra, .inl (cI, 7, .inl (xRf (fun _ => 0) (-2))))] := hD
    obtain rfl : ((-2) : Int32) = r_15 := Eq.symm hw
    have hP9 := hP.sub (ws' := []) [] rfl
    have hD9 := hD.sub (ws' := []) [] (by decide) rfl
    exact W.iret (v := -2) hx hb hr (fun t ht hW => ⟨⟨_, (), rfl, by simp [sStop0, h_3, h_4, c_12, c_13, (Int32.not_le.mp c_14)], by rw [ht]; exact hP9, hD9⟩, hS.F ht⟩) hS.2.2 dX5_stop_29
  rcases xz3 h_3 h_4 with rfl | rfl | rfl
  · refine lv_aload_n hx hb dX5_stop_0 rfl (lv_at hl 0 rfl) ?_
    refine lv_iload_n hx hb dX5_stop_1 rfl (lv_at hl 1 rfl) ?_
    have hPc := hP.sub (ws' := [(g0, .inr (5, [.ref ra, .ref wa, .ref ta, .int 0, .ref ma, .int 0, .ref pa, .int 0, .int 0, .int 0, .ref ba, .ref ka, .int 0, .ref fa, .ref qa, .ref ea, .ref za, .ref ya, .int 0])), (wa, .inl (cI, 70, .inl (upd (upd (upd (upd (upd (fun _ => 0) 0 1) 1 400) 2 80) 4 2) 5 30)))]) [0, 1] rfl
    refine vp_callSi (va_Run.run (va_runV (As := [.int 0]) (rest := []) ⟨hx, hb, hml, hown, hts⟩ (c_X5_isNoStop l D cI cL cZ cC g0 ra wa ta ma pa ba ka fa qa ea za ya 0 ) (cwV 1 hts gX5_stop_X5_isNoStop rfl rfl rfl (by decide +kernel) ⟨Nat.le_of_ble_eq_true rfl, Nat.le_of_ble_eq_true rfl⟩) ⟨xPc_bl, va_recv hK hPc (ci := 5) (q0 := 0) rfl rfl, xPc_use hPc hK⟩ rfl rfl hl.1 rfl (lv_room (Nat.le_of_ble_eq_true rfl)) dX5_stop_2 ⟨Nat.le_of_ble_eq_true rfl, Nat.le_of_ble_eq_true rfl⟩)) (fun r_16 er_16 => ?_)
    obtain rfl : (if (0 : Int32) < 0 then 1 else if (0 : Int32) < 1 then 0 else 1 : Int32) = r_16 := Eq.symm er_16
    refine xv_int (y := 0) (by decide +kernel) ?_
    refine lv_if_eq (tgt := 14) hx hb dX5_stop_5 (by decide) (fun c_17 => ?_) (fun c_17 => absurd c_17 (by decide +kernel))
    refine lv_iload_n hx hb dX5_stop_14 rfl (lv_at hl 2 rfl) ?_
    refine lv_if_lt (tgt := 23) hx hb dX5_stop_15 (by decide) (fun c_18 => absurd c_18 (by decide +kernel)) (fun c_18 => ?_)
    refine lv_iload_n hx hb dX5_stop_18 rfl (lv_at hl 2 rfl) ?_
    refine lv_iconst (v := 2) hx hb dX5_stop_19 (by decide) ?_
    refine lv_icmp_le (tgt := 30) hx hb dX5_stop_20 (by decide) (fun c_19 => ?_) (fun c_19 => absurd c_19 (by decide +kernel))
    refine lv_iload_n hx hb dX5_stop_30 rfl (lv_at hl 2 rfl) ?_
    refine lv_if_ne (tgt := 46) hx hb dX5_stop_31 (by decide) (fun c_20 => absurd c_20 (by decide +kernel)) (fun c_20 => ?_)
    refine lv_aload_n hx hb dX5_stop_34 rfl (lv_at hl 0 rfl) ?_
    refine va_get (D := D) (ci := 5) (v := .ref wa) (C := RX5) (T := TX5) (N := 19) hx hb hts hwX5 hown hK hP 0 rfl rfl 1 (by decide) (hts (.fieldLink RX5 19 "WaitOrWalkOnModel" "now" "[I") (by decide +kernel)) (fun _ h9 => h9) rfl dX5_stop_35 ?_
    refine lv_bipush (v := 10) hx hb dX5_stop_38 (by decide) ?_
    refine lv_iload_n hx hb dX5_stop_40 rfl (lv_at hl 1 rfl) ?_
    refine lv_iadd hx hb dX5_stop_41 ?_
    refine xv_int (y := 10) (by decide +kernel) ?_
    refine va_iald (D := D) hx hb hK hP 1 0 rfl rfl (by unfold vp_in; decide +kernel) dX5_stop_42 ?_
    refine xv_int (y := 0) rfl ?_
    refine lv_goto (tgt := 70) hx hb dX5_stop_43 (by decide) ?_
    have hP9 := hP.sub (ws' := []) [] rfl
    have hD9 := hD.sub (ws' := []) [] (by decide) rfl
    exact W.iret (v := 0) hx hb hr (fun t ht hW => ⟨⟨_, (), rfl, by simp [sStop0, c_17, c_18, (Int32.not_lt.mpr c_19), c_20], by rw [ht]; exact hP9, hD9⟩, hS.F ht⟩) hS.2.2 dX5_stop_70
  · refine lv_aload_n hx hb dX5_stop_0 rfl (lv_at hl 0 rfl) ?_
    refine lv_iload_n hx hb dX5_stop_1 rfl (lv_at hl 1 rfl) ?_
    have hPc := hP.sub (ws' := [(g0, .inr (5, [.ref ra, .ref wa, .ref ta, .int 0, .ref ma, .int 0, .ref pa, .int 0, .int 0, .int 0, .ref ba, .ref ka, .int 0, .ref fa, .ref qa, .ref ea, .ref za, .ref ya, .int 0])), (wa, .inl (cI, 70, .inl (upd (upd (upd (upd (upd (fun _ => 0) 0 1) 1 400) 2 80) 4 2) 5 30)))]) [0, 1] rfl
    refine vp_callSi (va_Run.run (va_runV (As := [.int 0]) (rest := []) ⟨hx, hb, hml, hown, hts⟩ (c_X5_isNoStop l D cI cL cZ cC g0 ra wa ta ma pa ba ka fa qa ea za ya 0 ) (cwV 1 hts gX5_stop_X5_isNoStop rfl rfl rfl (by decide +kernel) ⟨Nat.le_of_ble_eq_true rfl, Nat.le_of_ble_eq_true rfl⟩) ⟨xPc_bl, va_recv hK hPc (ci := 5) (q0 := 0) rfl rfl, xPc_use hPc hK⟩ rfl rfl hl.1 rfl (lv_room (Nat.le_of_ble_eq_true rfl)) dX5_stop_2 ⟨Nat.le_of_ble_eq_true rfl, Nat.le_of_ble_eq_true rfl⟩)) (fun r_21 er_21 => ?_)
    obtain rfl : (if (0 : Int32) < 0 then 1 else if (0 : Int32) < 1 then 0 else 1 : Int32) = r_21 := Eq.symm er_21
    refine xv_int (y := 0) (by decide +kernel) ?_
    refine lv_if_eq (tgt := 14) hx hb dX5_stop_5 (by decide) (fun c_22 => ?_) (fun c_22 => absurd c_22 (by decide +kernel))
    refine lv_iload_n hx hb dX5_stop_14 rfl (lv_at hl 2 rfl) ?_
    refine lv_if_lt (tgt := 23) hx hb dX5_stop_15 (by decide) (fun c_23 => absurd c_23 (by decide +kernel)) (fun c_23 => ?_)
    refine lv_iload_n hx hb dX5_stop_18 rfl (lv_at hl 2 rfl) ?_
    refine lv_iconst (v := 2) hx hb dX5_stop_19 (by decide) ?_
    refine lv_icmp_le (tgt := 30) hx hb dX5_stop_20 (by decide) (fun c_24 => ?_) (fun c_24 => absurd c_24 (by decide +kernel))
    refine lv_iload_n hx hb dX5_stop_30 rfl (lv_at hl 2 rfl) ?_
    refine lv_if_ne (tgt := 46) hx hb dX5_stop_31 (by decide) (fun c_25 => ?_) (fun c_25 => absurd c_25 (by decide +kernel))
    refine lv_iload_n hx hb dX5_stop_46 rfl (lv_at hl 2 rfl) ?_
    refine lv_iconst (v := 1) hx hb dX5_stop_47 (by decide) ?_
    refine lv_icmp_ne (tgt := 65) hx hb dX5_stop_48 (by decide) (fun c_26 => absurd c_26 (by decide +kernel)) (fun c_26 => ?_)
    refine lv_aload_n hx hb dX5_stop_51 rfl (lv_at hl 0 rfl) ?_
    refine lv_iconst (v := 0) hx hb dX5_stop_52 (by decide) ?_
    have hPc := hP.sub (ws' := [(g0, .inr (5, [.ref ra, .ref wa, .ref ta, .int 0, .ref ma, .int 0, .ref pa, .int 0, .int 0, .int 0, .ref ba, .ref ka, .int 0, .ref fa, .ref qa, .ref ea, .ref za, .ref ya, .int 0])), (wa, .inl (cI, 70, .inl (upd (upd (upd (upd (upd (fun _ => 0) 0 1) 1 400) 2 80) 4 2) 5 30)))]) [0, 1] rfl
    refine vp_callSi (va_Run.run (va_runV (As := [.int 0]) (rest := []) ⟨hx, hb, hml, hown, hts⟩ (c_X5_rest l D cI cL cZ cC g0 ra wa ta ma pa ba ka fa qa ea za ya ) (cwV 1 hts gX5_stop_X5_rest rfl rfl rfl (by decide +kernel) ⟨Nat.le_of_ble_eq_true rfl, Nat.le_of_ble_eq_true rfl⟩) ⟨xPc_bl, va_recv hK hPc (ci := 5) (q0 := 0) rfl rfl, xPc_use hPc hK⟩ rfl rfl hl.1 rfl (lv_room (Nat.le_of_ble_eq_true rfl)) dX5_stop_53 ⟨Nat.le_of_ble_eq_true rfl, Nat.le_of_ble_eq_true rfl⟩)) (fun r_27 er_27 => ?_)
    obtain rfl : (5 : Int32) = r_27 := Eq.symm er_27
    refine lv_aload_n hx hb dX5_stop_56 rfl (lv_at hl 0 rfl) ?_
    refine lv_iload_n hx hb dX5_stop_57 rfl (lv_at hl 1 rfl) ?_
    have hPc := hP.sub (ws' := [(g0, .inr (5, [.ref ra, .ref wa, .ref ta, .int 0, .ref ma, .int 0, .ref pa, .int 0, .int 0, .int 0, .ref ba, .ref ka, .int 0, .ref fa, .ref qa, .ref ea, .ref za, .ref ya, .int 0])), (wa, .inl (cI, 70, .inl (upd (upd (upd (upd (upd (fun _ => 0) 0 1) 1 400) 2 80) 4 2) 5 30)))]) [0, 1] rfl
    refine vp_callSi (va_Run.run (va_runV (As := [.int 0]) (rest := [.int 5]) ⟨hx, hb, hml, hown, hts⟩ (c_X5_rest l D cI cL cZ cC g0 ra wa ta ma pa ba ka fa qa ea za ya ) (cwV 1 hts gX5_stop_X5_rest rfl rfl rfl (by decide +kernel) ⟨Nat.le_of_ble_eq_true rfl, Nat.le_of_ble_eq_true rfl⟩) ⟨xPc_bl, va_recv hK hPc (ci := 5) (q0 := 0) rfl rfl, xPc_use hPc hK⟩ rfl rfl hl.1 rfl (lv_room (Nat.le_of_ble_eq_true rfl)) dX5_stop_58 ⟨Nat.le_of_ble_eq_true rfl, Nat.le_of_ble_eq_true rfl⟩)) (fun r_28 er_28 => ?_)
    obtain rfl : (5 : Int32) = r_28 := Eq.symm er_28
    refine lv_isub hx hb dX5_stop_61 ?_
    refine xv_int (y := 0) (by decide +kernel) ?_
    refine lv_goto (tgt := 70) hx hb dX5_stop_62 (by decide) ?_
    have hP9 := hP.sub (ws' := []) [] rfl
    have hD9 := hD.sub (ws' := []) [] (by decide) rfl
    exact W.iret (v := 0) hx hb hr (fun t ht hW => ⟨⟨_, (), rfl, by simp [sStop0, c_22, c_23, (Int32.not_lt.mpr c_24), c_25, c_26], by rw [ht]; exact hP9, hD9⟩, hS.F ht⟩) hS.2.2 dX5_stop_70
  · refine lv_aload_n hx hb dX5_stop_0 rfl (lv_at hl 0 rfl) ?_
    refine lv_iload_n hx hb dX5_stop_1 rfl (lv_at hl 1 rfl) ?_
    have hPc := hP.sub (ws' := [(g0, .inr (5, [.ref ra, .ref wa, .ref ta, .int 0, .ref ma, .int 0, .ref pa, .int 0, .int 0, .int 0, .ref ba, .ref ka, .int 0, .ref fa, .ref qa, .ref ea, .ref za, .ref ya, .int 0])), (wa, .inl (cI, 70, .inl (upd (upd (upd (upd (upd (fun _ => 0) 0 1) 1 400) 2 80) 4 2) 5 30)))]) [0, 1] rfl
    refine vp_callSi (va_Run.run (va_runV (As := [.int 0]) (rest := []) ⟨hx, hb, hml, hown, hts⟩ (c_X5_isNoStop l D cI cL cZ cC g0 ra wa ta ma pa ba ka fa qa ea za ya 0 ) (cwV 1 hts gX5_stop_X5_isNoStop rfl rfl rfl (by decide +kernel) ⟨Nat.le_of_ble_eq_true rfl, Nat.le_of_ble_eq_true rfl⟩) ⟨xPc_bl, va_recv hK hPc (ci := 5) (q0 := 0) rfl rfl, xPc_use hPc hK⟩ rfl rfl hl.1 rfl (lv_room (Nat.le_of_ble_eq_true rfl)) dX5_stop_2 ⟨Nat.le_of_ble_eq_true rfl, Nat.le_of_ble_eq_true rfl⟩)) (fun r_29 er_29 => ?_)
    obtain rfl : (if (0 : Int32) < 0 then 1 else if (0 : Int32) < 1 then 0 else 1 : Int32) = r_29 := Eq.symm er_29
    refine xv_int (y := 0) (by decide +kernel) ?_
    refine lv_if_eq (tgt := 14) hx hb dX5_stop_5 (by decide) (fun c_30 => ?_) (fun c_30 => absurd c_30 (by decide +kernel))
    refine lv_iload_n hx hb dX5_stop_14 rfl (lv_at hl 2 rfl) ?_
    refine lv_if_lt (tgt := 23) hx hb dX5_stop_15 (by decide) (fun c_31 => absurd c_31 (by decide +kernel)) (fun c_31 => ?_)
    refine lv_iload_n hx hb dX5_stop_18 rfl (lv_at hl 2 rfl) ?_
    refine lv_iconst (v := 2) hx hb dX5_stop_19 (by decide) ?_
    refine lv_icmp_le (tgt := 30) hx hb dX5_stop_20 (by decide) (fun c_32 => ?_) (fun c_32 => absurd c_32 (by decide +kernel))
    refine lv_iload_n hx hb dX5_stop_30 rfl (lv_at hl 2 rfl) ?_
    refine lv_if_ne (tgt := 46) hx hb dX5_stop_31 (by decide) (fun c_33 => ?_) (fun c_33 => absurd c_33 (by decide +kernel))
    refine lv_iload_n hx hb dX5_stop_46 rfl (lv_at hl 2 rfl) ?_
    refine lv_iconst (v := 1) hx hb dX5_stop_47 (by decide) ?_
    refine lv_icmp_ne (tgt := 65) hx hb dX5_stop_48 (by decide) (fun c_34 => ?_) (fun c_34 => absurd c_34 (by decide +kernel))
    refine lv_aload_n hx hb dX5_stop_65 rfl (lv_at hl 0 rfl) ?_
    refine lv_iload_n hx hb dX5_stop_66 rfl (lv_at hl 1 rfl) ?_
    have hPc := hP.sub (ws' := [(g0, .inr (5, [.ref ra, .ref wa, .ref ta, .int 0, .ref ma, .int 0, .ref pa, .int 0, .int 0, .int 0, .ref ba, .ref ka, .int 0, .ref fa, .ref qa, .ref ea, .ref za, .ref ya, .int 0])), (wa, .inl (cI, 70, .inl (upd (upd (upd (upd (upd (fun _ => 0) 0 1) 1 400) 2 80) 4 2) 5 30)))]) [0, 1] rfl
    refine vp_callSi (va_Run.run (va_runV (As := [.int 0]) (rest := []) ⟨hx, hb, hml, hown, hts⟩ (c_X5_rest l D cI cL cZ cC g0 ra wa ta ma pa ba ka fa qa ea za ya ) (cwV 1 hts gX5_stop_X5_rest rfl rfl rfl (by decide +kernel) ⟨Nat.le_of_ble_eq_true rfl, Nat.le_of_ble_eq_true rfl⟩) ⟨xPc_bl, va_recv hK hPc (ci := 5) (q0 := 0) rfl rfl, xPc_use hPc hK⟩ rfl rfl hl.1 rfl (lv_room (Nat.le_of_ble_eq_true rfl)) dX5_stop_67 ⟨Nat.le_of_ble_eq_true rfl, Nat.le_of_ble_eq_true rfl⟩)) (fun r_35 er_35 => ?_)
    obtain rfl : (5 : Int32) = r_35 := Eq.symm er_35
    have hP9 := hP.sub (ws' := []) [] rfl
    have hD9 := hD.sub (ws' := []) [] (by decide) rfl
    exact W.iret (v := 5) hx hb hr (fun t ht hW => ⟨⟨_, (), rfl, by simp [sStop0, c_30, c_31, (Int32.not_lt.mpr c_32), c_33, c_34], by rw [ht]; exact hP9, hD9⟩, hS.F ht⟩) hS.2.2 dX5_stop_70

set_option maxHeartbeats 4000000 in
set_option maxRecDepth 100000 in
theorem p1_X5_back (l : Launch) (D : va_G) (cI cL cZ cC : ClassId) (sz : Nat) (g0 : Nat) (ra : Nat) (wa : Nat) (ta : Nat) (ma : Nat) (pa : Nat) (ba : Nat) (ka : Nat) (fa : Nat) (qa : Nat) (ea : Nat) (za : Nat) (ya : Nat) (a1 : Int32) (a2 : Int32)  : Met l yX5_back wsX5_back ({ frames := 1, cells := 0, slots := 0, locals := 21 } : Room) (wPc D [.ref g0, .int a1, .int a2] [(g0, .inr (5, [.ref ra, .ref wa, .ref ta, .int 0, .ref ma, .int 0, .ref pa, .int 0, .int 0, .int 0, .ref ba, .ref ka, .int 0, .ref fa, .ref qa, .ref ea, .ref za, .ref ya, .int 0])), (wa, .inl (cI, 70, .inl (upd (upd (upd (upd (upd (fun _ => 0) 0 1) 1 400) 2 80) 4 2) 5 30))), (ra, .inl (cI, 7, .inl (fun _ => 0)))] (xTy cI cL cZ cC) sz) (va_Qi (fun (r : Int32) (_ : Unit) => r = sBack0 a1 a2) (fun (_ : Unit) t => va_P D vwCl [] t.heap ∧ va_D (va_A [(g0, .inr (5, [.ref ra, .ref wa, .ref ta, .int 0, .ref ma, .int 0, .ref pa, .int 0, .int 0, .int 0, .ref ba, .ref ka, .int 0, .ref fa, .ref qa, .ref ea, .ref za, .ref ya, .int 0])), (wa, .inl (cI, 70, .inl (upd (upd (upd (upd (upd (fun _ => 0) 0 1) 1 400) 2 80) 4 2) 5 30))), (ra, .inl (cI, 7, .inl (fun _ => 0)))] sz) []) (va_A [(g0, .inr (5, [.ref ra, .ref wa, .ref ta, .int 0, .ref ma, .int 0, .ref pa, .int 0, .int 0, .int 0, .ref ba, .ref ka, .int 0, .ref fa, .ref qa, .ref ea, .ref za, .ref ya, .int 0])), (wa, .inl (cI, 70, .inl (upd (upd (upd (upd (upd (fun _ => 0) 0 1) 1 400) 2 80) 4 2) 5 30))), (ra, .inl (cI, 7, .inl (fun _ => 0)))] sz)) 0 0 (va_A [(g0, .inr (5, [.ref ra, .ref wa, .ref ta, .int 0, .ref ma, .int 0, .ref pa, .int 0, .int 0, .int 0, .ref ba, .ref ka, .int 0, .ref fa, .ref qa, .ref ea, .ref za, .ref ya, .int 0])), (wa, .inl (cI, 70, .inl (upd (upd (upd (upd (upd (fun _ => 0) 0 1) 1 400) 2 80) 4 2) 5 30))), (ra, .inl (cI, 7, .inl (fun _ => 0)))] sz) := by
  refine Met.ofW (cc := cX5_back) (maxL := 3) (ret := (some .int)) (by decide) rfl ?_
  intro p e s m args below meth c s₁ B hml hv
  obtain ⟨rfl, hsz, hP, hK, hD0⟩ := hv
  have hx := B.exec
  have hb := B.bytes
  have hr := B.returns
  have hts := atoms_spec (ws := wsX5_back) B.pre
  have hown : s.vm.findClass RX5 = some m.cls := findClass_of_methodNamed B.named
  have hlocks := B.notSynchronized
  have hwX5 : ∀ w ∈ u_ws RX5 TX5 19, w ∈ wsX5_back := fun _ h => List.mem_cons_of_mem _ (List.mem_append_right _ h)
  subst hsz
  have hD := hD0.self (sz := s.heap.size)
  generalize hAe : va_A [(g0, .inr (5, [.ref ra, .ref wa, .ref ta, .int 0, .ref ma, .int 0, .ref pa, .int 0, .int 0, .int 0, .ref ba, .ref ka, .int 0, .ref fa, .ref qa, .ref ea, .ref za, .ref ya, .int 0])), (wa, .inl (cI, 70, .inl (upd (upd (upd (upd (upd (fun _ => 0) 0 1) 1 400) 2 80) 4 2) 5 30))), (ra, .inl (cI, 7, .inl (fun _ => 0)))] s.heap.size = A at hD ⊢
  have hA : ∀ q : Nat, s.heap.size ≤ q → A q := fun q h => by rw [← hAe]; exact Or.inr h
  have hS : va_S A s.heap s.heap [] := va_S.rf
  have hP : va_P D vwCl [(g0, .inr (5, [.ref ra, .ref wa, .ref ta, .int 0, .ref ma, .int 0, .ref pa, .int 0, .int 0, .int 0, .ref ba, .ref ka, .int 0, .ref fa, .ref qa, .ref ea, .ref za, .ref ya, .int 0])), (wa, .inl (cI, 70, .inl (upd (upd (upd (upd (upd (fun _ => 0) 0 1) 1 400) 2 80) 4 2) 5 30))), (ra, .inl (cI, 7, .inl (fun _ => 0)))] s.heap := hP
  have hl := lv_entry ([.ref g0, .int a1, .int a2]) (n := 3) (Nat.le_of_ble_eq_true rfl)
  rw [lg_entry_eq]
  generalize (lg_sl ([.ref g0, .int a1, .int a2]) ++ List.replicate (3 - (lg_sl ([.ref g0, .int a1, .int a2])).length) Slot.unset).toArray = ls at hl ⊢
  have hl : lv_has ls 3 [(0, .ref g0), (1, .int a1), (2, .int a2)] := hl
  by_cases h_1 : a1 < 0
  · refine lv_aload_n hx hb dX5_back_0 rfl (lv_at hl 0 rfl) ?_
    refine lv_iload_n hx hb dX5_back_1 rfl (lv_at hl 1 rfl) ?_
    have hPc := hP.sub (ws' := [(g0, .inr (5, [.ref ra, .ref wa, .ref ta, .int 0, .ref ma, .int 0, .ref pa, .int 0, .int 0, .int 0, .ref ba, .ref ka, .int 0, .ref fa, .ref qa, .ref ea, .ref za, .ref ya, .int 0])), (wa, .inl (cI, 70, .inl (upd (upd (upd (upd (upd (fun _ => 0) 0 1) 1 400) 2 80) 4 2) 5 30)))]) [0, 1] rfl
    refine vp_callSi (va_Run.run (va_runV (As := [.int a1]) (rest := []) ⟨hx, hb, hml, hown, hts⟩ (c_X5_isNoStop l D cI cL cZ cC g0 ra wa ta ma pa ba ka fa qa ea za ya a1 ) (cwV 1 hts gX5_back_X5_isNoStop rfl rfl rfl (by decide +kernel) ⟨Nat.le_of_ble_eq_true rfl, Nat.le_of_ble_eq_true rfl⟩) ⟨xPc_bl, va_recv hK hPc (ci := 5) (q0 := 0) rfl rfl, xPc_use hPc hK⟩ rfl rfl hl.1 rfl (lv_room (Nat.le_of_ble_eq_true rfl)) dX5_back_2 ⟨Nat.le_of_ble_eq_true rfl, Nat.le_of_ble_eq_true rfl⟩)) (fun r_1 er_1 => ?_)
    obtain rfl : (if a1 < 0 then 1 else if a1 < 1 then 0 else 1 : Int32) = r_1 := Eq.symm er_1
    refine xv_int (y := 1) (if_pos h_1) ?_
    refine lv_if_eq (tgt := 14) hx hb dX5_back_5 (by decide) (fun c_2 => absurd c_2 (by decide +kernel)) (fun c_2 => ?_)
    refine lv_aload_n hx hb dX5_back_8 rfl (lv_at hl 0 rfl) ?_
    refine lv_iconst (v := -1) hx hb dX5_back_9 (by decide) ?_
    have hPc := hP.sub (ws' := [(g0, .inr (5, [.ref ra, .ref wa, .ref ta, .int 0, .ref ma, .int 0, .ref pa, .int 0, .int 0, .int 0, .ref ba, .ref ka, .int 0, .ref fa, .ref qa, .ref ea, .ref za, .ref ya, .int 0])), (ra, .inl (cI, 7, .inl (fun _ => 0)))]) [0, 2] rfl
    have hDc := hD.sub (ws' := [(g0, .inr (5, [.ref ra, .ref wa, .ref ta, .int 0, .ref ma, .int 0, .ref pa, .int 0, .int 0, .int 0, .ref ba, .ref ka, .int 0, .ref fa, .ref qa, .ref ea, .ref za, .ref ya, .int 0])), (ra, .inl (cI, 7, .inl (fun _ => 0)))]) [0, 2] (by decide) rfl
    have hFc := va_free (wc := [(g0, .inr (5, [.ref ra, .ref wa, .ref ta, .int 0, .ref ma, .int 0, .ref pa, .int 0, .int 0, .int 0, .ref ba, .ref ka, .int 0, .ref fa, .ref qa, .ref ea, .ref za, .ref ya, .int 0])), (ra, .inl (cI, 7, .inl (fun _ => 0)))]) hD hS hA [0, 2] rfl
    refine va_calli (va_runV (As := [.int (-1)]) (rest := []) ⟨hx, hb, hml, hown, hts⟩ (c_X5_no l D cI cL cZ cC _ g0 ra wa ta ma pa ba ka fa qa ea za ya (fun _ => 0) (-1) (by first | assumption | decide +kernel) (by first | assumption | decide +kernel)) (cwV 1 hts gX5_back_X5_no rfl rfl rfl (by decide +kernel) ⟨Nat.le_of_ble_eq_true rfl, Nat.le_of_ble_eq_true rfl⟩) ⟨wPc_bl, va_recv hK hPc (ci := 5) (q0 := 0) rfl rfl, wPc_use hPc hK hDc⟩ rfl rfl hl.1 rfl (lv_room (Nat.le_of_ble_eq_true rfl)) dX5_back_10 ⟨Nat.le_of_ble_eq_true rfl, Nat.le_of_ble_eq_true rfl⟩) hS (fun q _ h => hFc q h) hFc (fun r_3 u_3 t H1 locs ht hvm hw hB hz1 hk1 hS => ?_)
    obtain ⟨hP1, hD1⟩ := hB
    rw [ht] at hP1
    obtain ⟨hP, hD⟩ := va_join (wr := [(wa, .inl (cI, 70, .inl (upd (upd (upd (upd (upd (fun _ => 0) 0 1) 1 400) 2 80) 4 2) 5 30)))]) (w1 := [(g0, .inr (5, [.ref ra, .ref wa, .ref ta, .int 0, .ref ma, .int 0, .ref pa, .int 0, .int 0, .int 0, .ref ba, .ref ka, .int 0, .ref fa, .ref qa, .ref ea, .ref za, .ref ya, .int 0])), (ra, .inl (cI, 7, .inl (xRf (fun _ => 0) (-1))))]) hP hD [0, 2] [1] rfl rfl (by decide) (by decide) hk1 hFc hP1 hD1
    generalize H1 = H at hP hS ⊢
    have hP : va_P D vwCl [(wa, .inl (cI, 70, .inl (upd (upd (upd (upd (upd (fun _ => 0) 0 1) 1 400) 2 80) 4 2) 5 30))), (g0, .inr (5, [.ref ra, .ref wa, .ref ta, .int 0, .ref ma, .int 0, .ref pa, .int 0, .int 0, .int 0, .ref ba, .ref ka, .int 0, .ref fa, .ref qa, .ref ea, .ref za, .ref ya, .int 0])), (ra, .inl (cI, 7, .inl (xRf (fun _ => 0) (-1))))] H := hP
    have hD : va_D A [(wa, .inl (cI, 70, .inl (upd (upd (upd (upd (upd (fun _ => 0) 0 1) 1 400) 2 80) 4 2) 5 30))), (g0, .inr (5, [.ref ra, .ref wa, .ref ta, .int 0, .ref ma, .int 0, .ref pa, .int 0, .int 0, .int 0, .ref ba, .ref ka, .int 0, .ref fa, .ref qa, .ref ea, .ref za, .ref ya, .int 0])), (ra, .inl (cI, 7, .inl (xRf (fun _ => 0) (-1))))] := hD
    obtain rfl : ((-1) : Int32) = r_3 := Eq.symm hw
    have hP9 := hP.sub (ws' := []) [] rfl
    have hD9 := hD.sub (ws' := []) [] (by decide) rfl
    exact W.iret (v := -1) hx hb hr (fun t ht hW => ⟨⟨_, (), rfl, by simp [sBack0, h_1, c_2], by rw [ht]; exact hP9, hD9⟩, hS.F ht⟩) hS.2.2 dX5_back_13
  by_cases h_2 : 1 ≤ a1
  · refine lv_aload_n hx hb dX5_back_0 rfl (lv_at hl 0 rfl) ?_
    refine lv_iload_n hx hb dX5_back_1 rfl (lv_at hl 1 rfl) ?_
    have hPc := hP.sub (ws' := [(g0, .inr (5, [.ref ra, .ref wa, .ref ta, .int 0, .ref ma, .int 0, .ref pa, .int 0, .int 0, .int 0, .ref ba, .ref ka, .int 0, .ref fa, .ref qa, .ref ea, .ref za, .ref ya, .int 0])), (wa, .inl (cI, 70, .inl (upd (upd (upd (upd (upd (fun _ => 0) 0 1) 1 400) 2 80) 4 2) 5 30)))]) [0, 1] rfl
    refine vp_callSi (va_Run.run (va_runV (As := [.int a1]) (rest := []) ⟨hx, hb, hml, hown, hts⟩ (c_X5_isNoStop l D cI cL cZ cC g0 ra wa ta ma pa ba ka fa qa ea za ya a1 ) (cwV 1 hts gX5_back_X5_isNoStop rfl rfl rfl (by decide +kernel) ⟨Nat.le_of_ble_eq_true rfl, Nat.le_of_ble_eq_true rfl⟩) ⟨xPc_bl, va_recv hK hPc (ci := 5) (q0 := 0) rfl rfl, xPc_use hPc hK⟩ rfl rfl hl.1 rfl (lv_room (Nat.le_of_ble_eq_true rfl)) dX5_back_2 ⟨Nat.le_of_ble_eq_true rfl, Nat.le_of_ble_eq_true rfl⟩)) (fun r_4 er_4 => ?_)
    obtain rfl : (if a1 < 0 then 1 else if a1 < 1 then 0 else 1 : Int32) = r_4 := Eq.symm er_4
    refine xv_int (y := 1) (by rw [if_neg h_1, if_neg (Int32.not_lt.mpr h_2)]) ?_
    refine lv_if_eq (tgt := 14) hx hb dX5_back_5 (by decide) (fun c_5 => absurd c_5 (by decide +kernel)) (fun c_5 => ?_)
    refine lv_aload_n hx hb dX5_back_8 rfl (lv_at hl 0 rfl) ?_
    refine lv_iconst (v := -1) hx hb dX5_back_9 (by decide) ?_
    have hPc := hP.sub (ws' := [(g0, .inr (5, [.ref ra, .ref wa, .ref ta, .int 0, .ref ma, .int 0, .ref pa, .int 0, .int 0, .int 0, .ref ba, .ref ka, .int 0, .ref fa, .ref qa, .ref ea, .ref za, .ref ya, .int 0])), (ra, .inl (cI, 7, .inl (fun _ => 0)))]) [0, 2] rfl
    have hDc := hD.sub (ws' := [(g0, .inr (5, [.ref ra, .ref wa, .ref ta, .int 0, .ref ma, .int 0, .ref pa, .int 0, .int 0, .int 0, .ref ba, .ref ka, .int 0, .ref fa, .ref qa, .ref ea, .ref za, .ref ya, .int 0])), (ra, .inl (cI, 7, .inl (fun _ => 0)))]) [0, 2] (by decide) rfl
    have hFc := va_free (wc := [(g0, .inr (5, [.ref ra, .ref wa, .ref ta, .int 0, .ref ma, .int 0, .ref pa, .int 0, .int 0, .int 0, .ref ba, .ref ka, .int 0, .ref fa, .ref qa, .ref ea, .ref za, .ref ya, .int 0])), (ra, .inl (cI, 7, .inl (fun _ => 0)))]) hD hS hA [0, 2] rfl
    refine va_calli (va_runV (As := [.int (-1)]) (rest := []) ⟨hx, hb, hml, hown, hts⟩ (c_X5_no l D cI cL cZ cC _ g0 ra wa ta ma pa ba ka fa qa ea za ya (fun _ => 0) (-1) (by first | assumption | decide +kernel) (by first | assumption | decide +kernel)) (cwV 1 hts gX5_back_X5_no rfl rfl rfl (by decide +kernel) ⟨Nat.le_of_ble_eq_true rfl, Nat.le_of_ble_eq_true rfl⟩) ⟨wPc_bl, va_recv hK hPc (ci := 5) (q0 := 0) rfl rfl, wPc_use hPc hK hDc⟩ rfl rfl hl.1 rfl (lv_room (Nat.le_of_ble_eq_true rfl)) dX5_back_10 ⟨Nat.le_of_ble_eq_true rfl, Nat.le_of_ble_eq_true rfl⟩) hS (fun q _ h => hFc q h) hFc (fun r_6 u_6 t H1 locs ht hvm hw hB hz1 hk1 hS => ?_)
    obtain ⟨hP1, hD1⟩ := hB
    rw [ht] at hP1
    obtain ⟨hP, hD⟩ := va_join (wr := [(wa, .inl (cI, 70, .inl (upd (upd (upd (upd (upd (fun _ => 0) 0 1) 1 400) 2 80) 4 2) 5 30)))]) (w1 := [(g0, .inr (5, [.ref ra, .ref wa, .ref ta, .int 0, .ref ma, .int 0, .ref pa, .int 0, .int 0, .int 0, .ref ba, .ref ka, .int 0, .ref fa, .ref qa, .ref ea, .ref za, .ref ya, .int 0])), (ra, .inl (cI, 7, .inl (xRf (fun _ => 0) (-1))))]) hP hD [0, 2] [1] rfl rfl (by decide) (by decide) hk1 hFc hP1 hD1
    generalize H1 = H at hP hS ⊢
    have hP : va_P D vwCl [(wa, .inl (cI, 70, .inl (upd (upd (upd (upd (upd (fun _ => 0) 0 1) 1 400) 2 80) 4 2) 5 30))), (g0, .inr (5, [.ref ra, .ref wa, .ref ta, .int 0, .ref ma, .int 0, .ref pa, .int 0, .int 0, .int 0, .ref ba, .ref ka, .int 0, .ref fa, .ref qa, .ref ea, .ref za, .ref ya, .int 0])), (ra, .inl (cI, 7, .inl (xRf (fun _ => 0) (-1))))] H := hP
    have hD : va_D A [(wa, .inl (cI, 70, .inl (upd (upd (upd (upd (upd (fun _ => 0) 0 1) 1 400) 2 80) 4 2) 5 30))), (g0, .inr (5, [.ref ra, .ref wa, .ref ta, .int 0, .ref ma, .int 0, .ref pa, .int 0, .int 0, .int 0, .ref ba, .ref ka, .int 0, .ref fa, .ref qa, .ref ea, .ref za, .ref ya, .int 0])), (ra, .inl (cI, 7, .inl (xRf (fun _ => 0) (-1))))] := hD
    obtain rfl : ((-1) : Int32) = r_6 := Eq.symm hw
    have hP9 := hP.sub (ws' := []) [] rfl
    have hD9 := hD.sub (ws' := []) [] (by decide) rfl
    exact W.iret (v := -1) hx hb hr (fun t ht hW => ⟨⟨_, (), rfl, by simp [sBack0, h_1, h_2, c_5], by rw [ht]; exact hP9, hD9⟩, hS.F ht⟩) hS.2.2 dX5_back_13
  obtain rfl : a1 = 0 := xz1 h_1 h_2
  refine lv_aload_n hx hb dX5_back_0 rfl (lv_at hl 0 rfl) ?_
  refine lv_iload_n hx hb dX5_back_1 rfl (lv_at hl 1 rfl) ?_
  have hPc := hP.sub (ws' := [(g0, .inr (5, [.ref ra, .ref wa, .ref ta, .int 0, .ref ma, .int 0, .ref pa, .int 0, .int 0, .int 0, .ref ba, .ref ka, .int 0, .ref fa, .ref qa, .ref ea, .ref za, .ref ya, .int 0])), (wa, .inl (cI, 70, .inl (upd (upd (upd (upd (upd (fun _ => 0) 0 1) 1 400) 2 80) 4 2) 5 30)))]) [0, 1] rfl
  refine vp_callSi (va_Run.run (va_runV (As := [.int 0]) (rest := []) ⟨hx, hb, hml, hown, hts⟩ (c_X5_isNoStop l D cI cL cZ cC g0 ra wa ta ma pa ba ka fa qa ea za ya 0 ) (cwV 1 hts gX5_back_X5_isNoStop rfl rfl rfl (by decide +kernel) ⟨Nat.le_of_ble_eq_true rfl, Nat.le_of_ble_eq_true rfl⟩) ⟨xPc_bl, va_recv hK hPc (ci := 5) (q0 := 0) rfl rfl, xPc_use hPc hK⟩ rfl rfl hl.1 rfl (lv_room (Nat.le_of_ble_eq_true rfl)) dX5_back_2 ⟨Nat.le_of_ble_eq_true rfl, Nat.le_of_ble_eq_true rfl⟩)) (fun r_7 er_7 => ?_)
  obtain rfl : (if (0 : Int32) < 0 then 1 else if (0 : Int32) < 1 then 0 else 1 : Int32) = r_7 := Eq.symm er_7
  refine xv_int (y := 0) (by decide +kernel) ?_
  refine lv_if_eq (tgt := 14) hx hb dX5_back_5 (by decide) (fun c_8 => ?_) (fun c_8 => absurd c_8 (by decide +kernel))
  refine lv_iload_n hx hb dX5_back_14 rfl (lv_at hl 2 rfl) ?_
  refine lv_if_ge (tgt := 25) hx hb dX5_back_15 (by decide) (fun c_9 => ?_) (fun c_9 => ?_)
  · refine lv_iload_n hx hb dX5_back_25 rfl (lv_at hl 2 rfl) ?_
    refine lv_bipush (v := 30) hx hb dX5_back_26 (by decide) ?_
    refine lv_icmp_le (tgt := 38) hx hb dX5_back_28 (by decide) (fun c_10 => ?_) (fun c_10 => ?_)
    · refine lv_iload_n hx hb dX5_back_38 rfl (lv_at hl 2 rfl) ?_
      refine lv_aload_n hx hb dX5_back_39 rfl (lv_at hl 0 rfl) ?_
      refine va_get (D := D) (ci := 5) (v := .ref wa) (C := RX5) (T := TX5) (N := 19) hx hb hts hwX5 hown hK hP 0 rfl rfl 1 (by decide) (hts (.fieldLink RX5 19 "WaitOrWalkOnModel" "now" "[I") (by decide +kernel)) (fun _ h9 => h9) rfl dX5_back_40 ?_
      refine lv_iconst (v := 2) hx hb dX5_back_43 (by decide) ?_
      refine va_iald (D := D) hx hb hK hP 1 0 rfl rfl (by unfold vp_in; decide +kernel) dX5_back_44 ?_
      refine xv_int (y := 80) rfl ?_
      refine lv_imul hx hb dX5_back_45 ?_
      refine lv_iload_n hx hb dX5_back_46 rfl (lv_at hl 1 rfl) ?_
      refine lv_aload_n hx hb dX5_back_47 rfl (lv_at hl 0 rfl) ?_
      refine va_get (D := D) (ci := 5) (v := .ref wa) (C := RX5) (T := TX5) (N := 19) hx hb hts hwX5 hown hK hP 0 rfl rfl 1 (by decide) (hts (.fieldLink RX5 19 "WaitOrWalkOnModel" "now" "[I") (by decide +kernel)) (fun _ h9 => h9) rfl dX5_back_48 ?_
      refine lv_iconst (v := 0) hx hb dX5_back_51 (by decide) ?_
      refine va_iald (D := D) hx hb hK hP 1 0 rfl rfl (by unfold vp_in; decide +kernel) dX5_back_52 ?_
      refine xv_int (y := 1) rfl ?_
      refine lv_iconst (v := 1) hx hb dX5_back_53 (by decide) ?_
      refine lv_isub hx hb dX5_back_54 ?_
      refine xv_int (y := 0) (by decide +kernel) ?_
      refine lv_icmp_ne (tgt := 67) hx hb dX5_back_55 (by decide) (fun c_11 => absurd c_11 (by decide +kernel)) (fun c_11 => ?_)
      refine lv_aload_n hx hb dX5_back_58 rfl (lv_at hl 0 rfl) ?_
      refine va_get (D := D) (ci := 5) (v := .ref wa) (C := RX5) (T := TX5) (N := 19) hx hb hts hwX5 hown hK hP 0 rfl rfl 1 (by decide) (hts (.fieldLink RX5 19 "WaitOrWalkOnModel" "now" "[I") (by decide +kernel)) (fun _ h9 => h9) rfl dX5_back_59 ?_
      refine lv_iconst (v := 1) hx hb dX5_back_62 (by decide) ?_
      refine va_iald (D := D) hx hb hK hP 1 0 rfl rfl (by unfold vp_in; decide +kernel) dX5_back_63 ?_
      refine xv_int (y := 400) rfl ?_
      refine lv_goto (tgt := 78) hx hb dX5_back_64 (by decide) ?_
      refine va_mmin hx hb (hml.trans hl.1.symm) hown (hts (.methodLink RX5 157 Lib.Math.min.name) (by decide +kernel)) (hts (.static Lib.Math.min.name) (by decide +kernel)) (hts (.initialized "java/lang/Math") (by decide +kernel)) (hts (.code Lib.Math.min.name Lib.Math.min.code 2 (some .int)) (by decide +kernel)) (Nat.le_of_ble_eq_true rfl) (Nat.le_of_ble_eq_true rfl) (Nat.le_of_ble_eq_true rfl) (Nat.le_of_ble_eq_true rfl) dX5_back_78 ?_
      have hP9 := hP.sub (ws' := []) [] rfl
      have hD9 := hD.sub (ws' := []) [] (by decide) rfl
      exact W.iret (v := if 400 < a2 * 80 then 400 else a2 * 80) hx hb hr (fun t ht hW => ⟨⟨_, (), rfl, by simp [sBack0, c_8, (Int32.not_lt.mpr c_9), (Int32.not_lt.mpr c_10), c_11], by rw [ht]; exact hP9, hD9⟩, hS.F ht⟩) hS.2.2 dX5_back_81
    · refine lv_aload_n hx hb dX5_back_31 rfl (lv_at hl 0 rfl) ?_
      refine lv_bipush (v := -6) hx hb dX5_back_32 (by decide) ?_
      have hPc := hP.sub (ws' := [(g0, .inr (5, [.ref ra, .ref wa, .ref ta, .int 0, .ref ma, .int 0, .ref pa, .int 0, .int 0, .int 0, .ref ba, .ref ka, .int 0, .ref fa, .ref qa, .ref ea, .ref za, .ref ya, .int 0])), (ra, .inl (cI, 7, .inl (fun _ => 0)))]) [0, 2] rfl
      have hDc := hD.sub (ws' := [(g0, .inr (5, [.ref ra, .ref wa, .ref ta, .int 0, .ref ma, .int 0, .ref pa, .int 0, .int 0, .int 0, .ref ba, .ref ka, .int 0, .ref fa, .ref qa, .ref ea, .ref za, .ref ya, .int 0])), (ra, .inl (cI, 7, .inl (fun _ => 0)))]) [0, 2] (by decide) rfl
      have hFc := va_free (wc := [(g0, .inr (5, [.ref ra, .ref wa, .ref ta, .int 0, .ref ma, .int 0, .ref pa, .int 0, .int 0, .int 0, .ref ba, .ref ka, .int 0, .ref fa, .ref qa, .ref ea, .ref za, .ref ya, .int 0])), (ra, .inl (cI, 7, .inl (fun _ => 0)))]) hD hS hA [0, 2] rfl
      refine va_calli (va_runV (As := [.int (-6)]) (rest := []) ⟨hx, hb, hml, hown, hts⟩ (c_X5_no l D cI cL cZ cC _ g0 ra wa ta ma pa ba ka fa qa ea za ya (fun _ => 0) (-6) (by first | assumption | decide +kernel) (by first | assumption | decide +kernel)) (cwV 1 hts gX5_back_X5_no rfl rfl rfl (by decide +kernel) ⟨Nat.le_of_ble_eq_true rfl, Nat.le_of_ble_eq_true rfl⟩) ⟨wPc_bl, va_recv hK hPc (ci := 5) (q0 := 0) rfl rfl, wPc_use hPc hK hDc⟩ rfl rfl hl.1 rfl (lv_room (Nat.le_of_ble_eq_true rfl)) dX5_back_34 ⟨Nat.le_of_ble_eq_true rfl, Nat.le_of_ble_eq_true rfl⟩) hS (fun q _ h => hFc q h) hFc (fun r_12 u_12 t H1 locs ht hvm hw hB hz1 hk1 hS => ?_)
      obtain ⟨hP1, hD1⟩ := hB
      rw [ht] at hP1
      obtain ⟨hP, hD⟩ := va_join (wr := [(wa, .inl (cI, 70, .inl (upd (upd (upd (upd (upd (fun _ => 0) 0 1) 1 400) 2 80) 4 2) 5 30)))]) (w1 := [(g0, .inr (5, [.ref ra, .ref wa, .ref ta, .int 0, .ref ma, .int 0, .ref pa, .int 0, .int 0, .int 0, .ref ba, .ref ka, .int 0, .ref fa, .ref qa, .ref ea, .ref za, .ref ya, .int 0])), (ra, .inl (cI, 7, .inl (xRf (fun _ => 0) (-6))))]) hP hD [0, 2] [1] rfl rfl (by decide) (by decide) hk1 hFc hP1 hD1
      generalize H1 = H at hP hS ⊢
      have hP : va_P D vwCl [(wa, .inl (cI, 70, .inl (upd (upd (upd (upd (upd (fun _ => 0) 0 1) 1 400) 2 80) 4 2) 5 30))), (g0, .inr (5, [.ref ra, .ref wa, .ref ta, .int 0, .ref ma, .int 0, .ref pa, .int 0, .int 0, .int 0, .ref ba, .ref ka, .int 0, .ref fa, .ref qa, .ref ea, .ref za, .ref ya, .int 0])), (ra, .inl (cI, 7, .inl (xRf (fun _ => 0) (-6))))] H := hP
      have hD : va_D A [(wa, .inl (cI, 70, .inl (upd (upd (upd (upd (upd (fun _ => 0) 0 1) 1 400) 2 80) 4 2) 5 30))), (g0, .inr (5, [.ref ra, .ref wa, .ref ta, .int 0, .ref ma, .int 0, .ref pa, .int 0, .int 0, .int 0, .ref ba, .ref ka, .int 0, .ref fa, .ref qa, .ref ea, .ref za, .ref ya, .int 0])), (ra, .inl (cI, 7, .inl (xRf (fun _ => 0) (-6))))] := hD
      obtain rfl : ((-6) : Int32) = r_12 := Eq.symm hw
      have hP9 := hP.sub (ws' := []) [] rfl
      have hD9 := hD.sub (ws' := []) [] (by decide) rfl
      exact W.iret (v := -6) hx hb hr (fun t ht hW => ⟨⟨_, (), rfl, by simp [sBack0, c_8, (Int32.not_lt.mpr c_9), (Int32.not_le.mp c_10)], by rw [ht]; exact hP9, hD9⟩, hS.F ht⟩) hS.2.2 dX5_back_37
  · refine lv_aload_n hx hb dX5_back_18 rfl (lv_at hl 0 rfl) ?_
    refine lv_bipush (v := -4) hx hb dX5_back_19 (by decide) ?_
    have hPc := hP.sub (ws' := [(g0, .inr (5, [.ref ra, .ref wa, .ref ta, .int 0, .ref ma, .int 0, .ref pa, .int 0, .int 0, .int 0, .ref ba, .ref ka, .int 0, .ref fa, .ref qa, .ref ea, .ref za, .ref ya, .int 0])), (ra, .inl (cI, 7, .inl (fun _ => 0)))]) [0, 2] rfl
    have hDc := hD.sub (ws' := [(g0, .inr (5, [.ref ra, .ref wa, .ref ta, .int 0, .ref ma, .int 0, .ref pa, .int 0, .int 0, .int 0, .ref ba, .ref ka, .int 0, .ref fa, .ref qa, .ref ea, .ref za, .ref ya, .int 0])), (ra, .inl (cI, 7, .inl (fun _ => 0)))]) [0, 2] (by decide) rfl
    have hFc := va_free (wc := [(g0, .inr (5, [.ref ra, .ref wa, .ref ta, .int 0, .ref ma, .int 0, .ref pa, .int 0, .int 0, .int 0, .ref ba, .ref ka, .int 0, .ref fa, .ref qa, .ref ea, .ref za, .ref ya, .int 0])), (ra, .inl (cI, 7, .inl (fun _ => 0)))]) hD hS hA [0, 2] rfl
    refine va_calli (va_runV (As := [.int (-4)]) (rest := []) ⟨hx, hb, hml, hown, hts⟩ (c_X5_no l D cI cL cZ cC _ g0 ra wa ta ma pa ba ka fa qa ea za ya (fun _ => 0) (-4) (by first | assumption | decide +kernel) (by first | assumption | decide +kernel)) (cwV 1 hts gX5_back_X5_no rfl rfl rfl (by decide +kernel) ⟨Nat.le_of_ble_eq_true rfl, Nat.le_of_ble_eq_true rfl⟩) ⟨wPc_bl, va_recv hK hPc (ci := 5) (q0 := 0) rfl rfl, wPc_use hPc hK hDc⟩ rfl rfl hl.1 rfl (lv_room (Nat.le_of_ble_eq_true rfl)) dX5_back_21 ⟨Nat.le_of_ble_eq_true rfl, Nat.le_of_ble_eq_true rfl⟩) hS (fun q _ h => hFc q h) hFc (fun r_13 u_13 t H1 locs ht hvm hw hB hz1 hk1 hS => ?_)
    obtain ⟨hP1, hD1⟩ := hB
    rw [ht] at hP1
    obtain ⟨hP, hD⟩ := va_join (wr := [(wa, .inl (cI, 70, .inl (upd (upd (upd (upd (upd (fun _ => 0) 0 1) 1 400) 2 80) 4 2) 5 30)))]) (w1 := [(g0, .inr (5, [.ref ra, .ref wa, .ref ta, .int 0, .ref ma, .int 0, .ref pa, .int 0, .int 0, .int 0, .ref ba, .ref ka, .int 0, .ref fa, .ref qa, .ref ea, .ref za, .ref ya, .int 0])), (ra, .inl (cI, 7, .inl (xRf (fun _ => 0) (-4))))]) hP hD [0, 2] [1] rfl rfl (by decide) (by decide) hk1 hFc hP1 hD1
    generalize H1 = H at hP hS ⊢
    have hP : va_P D vwCl [(wa, .inl (cI, 70, .inl (upd (upd (upd (upd (upd (fun _ => 0) 0 1) 1 400) 2 80) 4 2) 5 30))), (g0, .inr (5, [.ref ra, .ref wa, .ref ta, .int 0, .ref ma, .int 0, .ref pa, .int 0, .int 0, .int 0, .ref ba, .ref ka, .int 0, .ref fa, .ref qa, .ref ea, .ref za, .ref ya, .int 0])), (ra, .inl (cI, 7, .inl (xRf (fun _ => 0) (-4))))] H := hP
    have hD : va_D A [(wa, .inl (cI, 70, .inl (upd (upd (upd (upd (upd (fun _ => 0) 0 1) 1 400) 2 80) 4 2) 5 30))), (g0, .inr (5, [.ref ra, .ref wa, .ref ta, .int 0, .ref ma, .int 0, .ref pa, .int 0, .int 0, .int 0, .ref ba, .ref ka, .int 0, .ref fa, .ref qa, .ref ea, .ref za, .ref ya, .int 0])), (ra, .inl (cI, 7, .inl (xRf (fun _ => 0) (-4))))] := hD
    obtain rfl : ((-4) : Int32) = r_13 := Eq.symm hw
    have hP9 := hP.sub (ws' := []) [] rfl
    have hD9 := hD.sub (ws' := []) [] (by decide) rfl
    exact W.iret (v := -4) hx hb hr (fun t ht hW => ⟨⟨_, (), rfl, by simp [sBack0, c_8, (Int32.not_le.mp c_9)], by rw [ht]; exact hP9, hD9⟩, hS.F ht⟩) hS.2.2 dX5_back_24

set_option maxHeartbeats 4000000 in
set_option maxRecDepth 100000 in
theorem p1_X5_set (l : Launch) (D : va_G) (cI cL cZ cC : ClassId) (sz : Nat) (g0 : Nat) (ra : Nat) (wa : Nat) (ta : Nat) (ma : Nat) (pa : Nat) (ba : Nat) (ka : Nat) (fa : Nat) (qa : Nat) (ea : Nat) (za : Nat) (ya : Nat) (a1 : Int32) (a2 : Int32)  : Met l yX5_set wsX5_set ({ frames := 1, cells := 0, slots := 0, locals := 21 } : Room) (wPc D [.ref g0, .int a1, .int a2] [(g0, .inr (5, [.ref ra, .ref wa, .ref ta, .int 0, .ref ma, .int 0, .ref pa, .int 0, .int 0, .int 0, .ref ba, .ref ka, .int 0, .ref fa, .ref qa, .ref ea, .ref za, .ref ya, .int 0])), (wa, .inl (cI, 70, .inl (upd (upd (upd (upd (upd (fun _ => 0) 0 1) 1 400) 2 80) 4 2) 5 30))), (ra, .inl (cI, 7, .inl (fun _ => 0))), (qa, .inl (cI, 4, .inl (upd (upd (upd (upd (fun _ => 0) 0 1) 1 2) 2 4) 3 5))), (ea, .inl (cI, 4, .inl (upd (upd (upd (upd (fun _ => 0) 0 0) 1 20) 2 0) 3 1))), (za, .inl (cI, 4, .inl (upd (upd (upd (upd (fun _ => 0) 0 999) 1 200) 2 9) 3 60)))] (xTy cI cL cZ cC) sz) (va_Qi (fun (r : Int32) (_ : Unit) => r = sSet0 a1 a2) (fun (_ : Unit) t => va_P D vwCl [] t.heap ∧ va_D (va_A [(g0, .inr (5, [.ref ra, .ref wa, .ref ta, .int 0, .ref ma, .int 0, .ref pa, .int 0, .int 0, .int 0, .ref ba, .ref ka, .int 0, .ref fa, .ref qa, .ref ea, .ref za, .ref ya, .int 0])), (wa, .inl (cI, 70, .inl (upd (upd (upd (upd (upd (fun _ => 0) 0 1) 1 400) 2 80) 4 2) 5 30))), (ra, .inl (cI, 7, .inl (fun _ => 0))), (qa, .inl (cI, 4, .inl (upd (upd (upd (upd (fun _ => 0) 0 1) 1 2) 2 4) 3 5))), (ea, .inl (cI, 4, .inl (upd (upd (upd (upd (fun _ => 0) 0 0) 1 20) 2 0) 3 1))), (za, .inl (cI, 4, .inl (upd (upd (upd (upd (fun _ => 0) 0 999) 1 200) 2 9) 3 60)))] sz) []) (va_A [(g0, .inr (5, [.ref ra, .ref wa, .ref ta, .int 0, .ref ma, .int 0, .ref pa, .int 0, .int 0, .int 0, .ref ba, .ref ka, .int 0, .ref fa, .ref qa, .ref ea, .ref za, .ref ya, .int 0])), (wa, .inl (cI, 70, .inl (upd (upd (upd (upd (upd (fun _ => 0) 0 1) 1 400) 2 80) 4 2) 5 30))), (ra, .inl (cI, 7, .inl (fun _ => 0))), (qa, .inl (cI, 4, .inl (upd (upd (upd (upd (fun _ => 0) 0 1) 1 2) 2 4) 3 5))), (ea, .inl (cI, 4, .inl (upd (upd (upd (upd (fun _ => 0) 0 0) 1 20) 2 0) 3 1))), (za, .inl (cI, 4, .inl (upd (upd (upd (upd (fun _ => 0) 0 999) 1 200) 2 9) 3 60)))] sz)) 0 0 (va_A [(g0, .inr (5, [.ref ra, .ref wa, .ref ta, .int 0, .ref ma, .int 0, .ref pa, .int 0, .int 0, .int 0, .ref ba, .ref ka, .int 0, .ref fa, .ref qa, .ref ea, .ref za, .ref ya, .int 0])), (wa, .inl (cI, 70, .inl (upd (upd (upd (upd (upd (fun _ => 0) 0 1) 1 400) 2 80) 4 2) 5 30))), (ra, .inl (cI, 7, .inl (fun _ => 0))), (qa, .inl (cI, 4, .inl (upd (upd (upd (upd (fun _ => 0) 0 1) 1 2) 2 4) 3 5))), (ea, .inl (cI, 4, .inl (upd (upd (upd (upd (fun _ => 0) 0 0) 1 20) 2 0) 3 1))), (za, .inl (cI, 4, .inl (upd (upd (upd (upd (fun _ => 0) 0 999) 1 200) 2 9) 3 60)))] sz) := by
  refine Met.ofW (cc := cX5_set) (maxL := 4) (ret := (some .int)) (by decide) rfl ?_
  intro p e s m args below meth c s₁ B hml hv
  obtain ⟨rfl, hsz, hP, hK, hD0⟩ := hv
  have hx := B.exec
  have hb := B.bytes
  have hr := B.returns
  have hts := atoms_spec (ws := wsX5_set) B.pre
  have hown : s.vm.findClass RX5 = some m.cls := findClass_of_methodNamed B.named
  have hlocks := B.notSynchronized
  have hwX5 : ∀ w ∈ u_ws RX5 TX5 19, w ∈ wsX5_set := fun _ h => List.mem_cons_of_mem _ (List.mem_append_right _ h)
  subst hsz
  have hD := hD0.self (sz := s.heap.size)
  generalize hAe : va_A [(g0, .inr (5, [.ref ra, .ref wa, .ref ta, .int 0, .ref ma, .int 0, .ref pa, .int 0, .int 0, .int 0, .ref ba, .ref ka, .int 0, .ref fa, .ref qa, .ref ea, .ref za, .ref ya, .int 0])), (wa, .inl (cI, 70, .inl (upd (upd (upd (upd (upd (fun _ => 0) 0 1) 1 400) 2 80) 4 2) 5 30))), (ra, .inl (cI, 7, .inl (fun _ => 0))), (qa, .inl (cI, 4, .inl (upd (upd (upd (upd (fun _ => 0) 0 1) 1 2) 2 4) 3 5))), (ea, .inl (cI, 4, .inl (upd (upd (upd (upd (fun _ => 0) 0 0) 1 20) 2 0) 3 1))), (za, .inl (cI, 4, .inl (upd (upd (upd (upd (fun _ => 0) 0 999) 1 200) 2 9) 3 60)))] s.heap.size = A at hD ⊢
  have hA : ∀ q : Nat, s.heap.size ≤ q → A q := fun q h => by rw [← hAe]; exact Or.inr h
  have hS : va_S A s.heap s.heap [] := va_S.rf
  have hP : va_P D vwCl [(g0, .inr (5, [.ref ra, .ref wa, .ref ta, .int 0, .ref ma, .int 0, .ref pa, .int 0, .int 0, .int 0, .ref ba, .ref ka, .int 0, .ref fa, .ref qa, .ref ea, .ref za, .ref ya, .int 0])), (wa, .inl (cI, 70, .inl (upd (upd (upd (upd (upd (fun _ => 0) 0 1) 1 400) 2 80) 4 2) 5 30))), (ra, .inl (cI, 7, .inl (fun _ => 0))), (qa, .inl (cI, 4, .inl (upd (upd (upd (upd (fun _ => 0) 0 1) 1 2) 2 4) 3 5))), (ea, .inl (cI, 4, .inl (upd (upd (upd (upd (fun _ => 0) 0 0) 1 20) 2 0) 3 1))), (za, .inl (cI, 4, .inl (upd (upd (upd (upd (fun _ => 0) 0 999) 1 200) 2 9) 3 60)))] s.heap := hP
  have hl := lv_entry ([.ref g0, .int a1, .int a2]) (n := 4) (Nat.le_of_ble_eq_true rfl)
  rw [lg_entry_eq]
  generalize (lg_sl ([.ref g0, .int a1, .int a2]) ++ List.replicate (4 - (lg_sl ([.ref g0, .int a1, .int a2])).length) Slot.unset).toArray = ls at hl ⊢
  have hl : lv_has ls 4 [(0, .ref g0), (1, .int a1), (2, .int a2)] := hl
  by_cases h_1 : a1 < 0
  · refine lv_iload_n hx hb dX5_set_0 rfl (lv_at hl 1 rfl) ?_
    refine lv_if_lt (tgt := 9) hx hb dX5_set_1 (by decide) (fun c_1 => ?_) (fun c_1 => absurd h_1 c_1)
    refine lv_aload_n hx hb dX5_set_9 rfl (lv_at hl 0 rfl) ?_
    refine lv_bipush (v := -2) hx hb dX5_set_10 (by decide) ?_
    have hPc := hP.sub (ws' := [(g0, .inr (5, [.ref ra, .ref wa, .ref ta, .int 0, .ref ma, .int 0, .ref pa, .int 0, .int 0, .int 0, .ref ba, .ref ka, .int 0, .ref fa, .ref qa, .ref ea, .ref za, .ref ya, .int 0])), (ra, .inl (cI, 7, .inl (fun _ => 0)))]) [0, 2] rfl
    have hDc := hD.sub (ws' := [(g0, .inr (5, [.ref ra, .ref wa, .ref ta, .int 0, .ref ma, .int 0, .ref pa, .int 0, .int 0, .int 0, .ref ba, .ref ka, .int 0, .ref fa, .ref qa, .ref ea, .ref za, .ref ya, .int 0])), (ra, .inl (cI, 7, .inl (fun _ => 0)))]) [0, 2] (by decide) rfl
    have hFc := va_free (wc := [(g0, .inr (5, [.ref ra, .ref wa, .ref ta, .int 0, .ref ma, .int 0, .ref pa, .int 0, .int 0, .int 0, .ref ba, .ref ka, .int 0, .ref fa, .ref qa, .ref ea, .ref za, .ref ya, .int 0])), (ra, .inl (cI, 7, .inl (fun _ => 0)))]) hD hS hA [0, 2] rfl
    refine va_calli (va_runV (As := [.int (-2)]) (rest := []) ⟨hx, hb, hml, hown, hts⟩ (c_X5_no l D cI cL cZ cC _ g0 ra wa ta ma pa ba ka fa qa ea za ya (fun _ => 0) (-2) (by first | assumption | decide +kernel) (by first | assumption | decide +kernel)) (cwV 1 hts gX5_set_X5_no rfl rfl rfl (by decide +kernel) ⟨Nat.le_of_ble_eq_true rfl, Nat.le_of_ble_eq_true rfl⟩) ⟨wPc_bl, va_recv hK hPc (ci := 5) (q0 := 0) rfl rfl, wPc_use hPc hK hDc⟩ rfl rfl hl.1 rfl (lv_room (Nat.le_of_ble_eq_true rfl)) dX5_set_12 ⟨Nat.le_of_ble_eq_true rfl, Nat.le_of_ble_eq_true rfl⟩) hS (fun q _ h => hFc q h) hFc (fun r_2 u_2 t H1 locs ht hvm hw hB hz1 hk1 hS => ?_)
    obtain ⟨hP1, hD1⟩ := hB
    rw [ht] at hP1
    obtain ⟨hP, hD⟩ := va_join (wr := [(wa, .inl (cI, 70, .inl (upd (upd (upd (upd (upd (fun _ => 0) 0 1) 1 400) 2 80) 4 2) 5 30))), (qa, .inl (cI, 4, .inl (upd (upd (upd (upd (fun _ => 0) 0 1) 1 2) 2 4) 3 5))), (ea, .inl (cI, 4, .inl (upd (upd (upd (upd (fun _ => 0) 0 0) 1 20) 2 0) 3 1))), (za, .inl (cI, 4, .inl (upd (upd (upd (upd (fun _ => 0) 0 999) 1 200) 2 9) 3 60)))]) (w1 := [(g0, .inr (5, [.ref ra, .ref wa, .ref ta, .int 0, .ref ma, .int 0, .ref pa, .int 0, .int 0, .int 0, .ref ba, .ref ka, .int 0, .ref fa, .ref qa, .ref ea, .ref za, .ref ya, .int 0])), (ra, .inl (cI, 7, .inl (xRf (fun _ => 0) (-2))))]) hP hD [0, 2] [1, 3, 4, 5] rfl rfl (by decide) (by decide) hk1 hFc hP1 hD1
    generalize H1 = H at hP hS ⊢
    have hP : va_P D vwCl [(wa, .inl (cI, 70, .inl (upd (upd (upd (upd (upd (fun _ => 0) 0 1) 1 400) 2 80) 4 2) 5 30))), (qa, .inl (cI, 4, .inl (upd (upd (upd (upd (fun _ => 0) 0 1) 1 2) 2 4) 3 5))), (ea, .inl (cI, 4, .inl (upd (upd (upd (upd (fun _ => 0) 0 0) 1 20) 2 0) 3 1))), (za, .inl (cI, 4, .inl (upd (upd (upd (upd (fun _ => 0) 0 999) 1 200) 2 9) 3 60))), (g0, .inr (5, [.ref ra, .ref wa, .ref ta, .int 0, .ref ma, .int 0, .ref pa, .int 0, .int 0, .int 0, .ref ba, .ref ka, .int 0, .ref fa, .ref qa, .ref ea, .ref za, .ref ya, .int 0])), (ra, .inl (cI, 7, .inl (xRf (fun _ => 0) (-2))))] H := hP
    have hD : va_D A [(wa, .inl (cI, 70, .inl (upd (upd (upd (upd (upd (fun _ => 0) 0 1) 1 400) 2 80) 4 2) 5 30))), (qa, .inl (cI, 4, .inl (upd (upd (upd (upd (fun _ => 0) 0 1) 1 2) 2 4) 3 5))), (ea, .inl (cI, 4, .inl (upd (upd (upd (upd (fun _ => 0) 0 0) 1 20) 2 0) 3 1))), (za, .inl (cI, 4, .inl (upd (upd (upd (upd (fun _ => 0) 0 999) 1 200) 2 9) 3 60))), (g0, .inr (5, [.ref ra, .ref wa, .ref ta, .int 0, .ref ma, .int 0, .ref pa, .int 0, .int 0, .int 0, .ref ba, .ref ka, .int 0, .ref fa, .ref qa, .ref ea, .ref za, .ref ya, .int 0])), (ra, .inl (cI, 7, .inl (xRf (fun _ => 0) (-2))))] := hD
    obtain rfl : ((-2) : Int32) = r_2 := Eq.symm hw
    have hP9 := hP.sub (ws' := []) [] rfl
    have hD9 := hD.sub (ws' := []) [] (by decide) rfl
    exact W.iret (v := -2) hx hb hr (fun t ht hW => ⟨⟨_, (), rfl, by simp [sSet0, h_1, c_1], by rw [ht]; exact hP9, hD9⟩, hS.F ht⟩) hS.2.2 dX5_set_15
  by_cases h_2 : 3 < a1
  · refine lv_iload_n hx hb dX5_set_0 rfl (lv_at hl 1 rfl) ?_
    refine lv_if_lt (tgt := 9) hx hb dX5_set_1 (by decide) (fun c_3 => absurd c_3 h_1) (fun c_3 => ?_)
    refine lv_iload_n hx hb dX5_set_4 rfl (lv_at hl 1 rfl) ?_
    refine lv_iconst (v := 3) hx hb dX5_set_5 (by decide) ?_
    refine lv_icmp_le (tgt := 16) hx hb dX5_set_6 (by decide) (fun c_4 => absurd h_2 (Int32.not_lt.mpr c_4)) (fun c_4 => ?_)
    refine lv_aload_n hx hb dX5_set_9 rfl (lv_at hl 0 rfl) ?_
    refine lv_bipush (v := -2) hx hb dX5_set_10 (by decide) ?_
    have hPc := hP.sub (ws' := [(g0, .inr (5, [.ref ra, .ref wa, .ref ta, .int 0, .ref ma, .int 0, .ref pa, .int 0, .int 0, .int 0, .ref ba, .ref ka, .int 0, .ref fa, .ref qa, .ref ea, .ref za, .ref ya, .int 0])), (ra, .inl (cI, 7, .inl (fun _ => 0)))]) [0, 2] rfl
    have hDc := hD.sub (ws' := [(g0, .inr (5, [.ref ra, .ref wa, .ref ta, .int 0, .ref ma, .int 0, .ref pa, .int 0, .int 0, .int 0, .ref ba, .ref ka, .int 0, .ref fa, .ref qa, .ref ea, .ref za, .ref ya, .int 0])), (ra, .inl (cI, 7, .inl (fun _ => 0)))]) [0, 2] (by decide) rfl
    have hFc := va_free (wc := [(g0, .inr (5, [.ref ra, .ref wa, .ref ta, .int 0, .ref ma, .int 0, .ref pa, .int 0, .int 0, .int 0, .ref ba, .ref ka, .int 0, .ref fa, .ref qa, .ref ea, .ref za, .ref ya, .int 0])), (ra, .inl (cI, 7, .inl (fun _ => 0)))]) hD hS hA [0, 2] rfl
    refine va_calli (va_runV (As := [.int (-2)]) (rest := []) ⟨hx, hb, hml, hown, hts⟩ (c_X5_no l D cI cL cZ cC _ g0 ra wa ta ma pa ba ka fa qa ea za ya (fun _ => 0) (-2) (by first | assumption | decide +kernel) (by first | assumption | decide +kernel)) (cwV 1 hts gX5_set_X5_no rfl rfl rfl (by decide +kernel) ⟨Nat.le_of_ble_eq_true rfl, Nat.le_of_ble_eq_true rfl⟩) ⟨wPc_bl, va_recv hK hPc (ci := 5) (q0 := 0) rfl rfl, wPc_use hPc hK hDc⟩ rfl rfl hl.1 rfl (lv_room (Nat.le_of_ble_eq_true rfl)) dX5_set_12 ⟨Nat.le_of_ble_eq_true rfl, Nat.le_of_ble_eq_true rfl⟩) hS (fun q _ h => hFc q h) hFc (fun r_5 u_5 t H1 locs ht hvm hw hB hz1 hk1 hS => ?_)
    obtain ⟨hP1, hD1⟩ := hB
    rw [ht] at hP1
    obtain ⟨hP, hD⟩ := va_join (wr := [(wa, .inl (cI, 70, .inl (upd (upd (upd (upd (upd (fun _ => 0) 0 1) 1 400) 2 80) 4 2) 5 30))), (qa, .inl (cI, 4, .inl (upd (upd (upd (upd (fun _ => 0) 0 1) 1 2) 2 4) 3 5))), (ea, .inl (cI, 4, .inl (upd (upd (upd (upd (fun _ => 0) 0 0) 1 20) 2 0) 3 1))), (za, .inl (cI, 4, .inl (upd (upd (upd (upd (fun _ => 0) 0 999) 1 200) 2 9) 3 60)))]) (w1 := [(g0, .inr (5, [.ref ra, .ref wa, .ref ta, .int 0, .ref ma, .int 0, .ref pa, .int 0, .int 0, .int 0, .ref ba, .ref ka, .int 0, .ref fa, .ref qa, .ref ea, .ref za, .ref ya, .int 0])), (ra, .inl (cI, 7, .inl (xRf (fun _ => 0) (-2))))]) hP hD [0, 2] [1, 3, 4, 5] rfl rfl (by decide) (by decide) hk1 hFc hP1 hD1
    generalize H1 = H at hP hS ⊢
    have hP : va_P D vwCl [(wa, .inl (cI, 70, .inl (upd (upd (upd (upd (upd (fun _ => 0) 0 1) 1 400) 2 80) 4 2) 5 30))), (qa, .inl (cI, 4, .inl (upd (upd (upd (upd (fun _ => 0) 0 1) 1 2) 2 4) 3 5))), (ea, .inl (cI, 4, .inl (upd (upd (upd (upd (fun _ => 0) 0 0) 1 20) 2 0) 3 1))), (za, .inl (cI, 4, .inl (upd (upd (upd (upd (fun _ => 0) 0 999) 1 200) 2 9) 3 60))), (g0, .inr (5, [.ref ra, .ref wa, .ref ta, .int 0, .ref ma, .int 0, .ref pa, .int 0, .int 0, .int 0, .ref ba, .ref ka, .int 0, .ref fa, .ref qa, .ref ea, .ref za, .ref ya, .int 0])), (ra, .inl (cI, 7, .inl (xRf (fun _ => 0) (-2))))] H := hP
    have hD : va_D A [(wa, .inl (cI, 70, .inl (upd (upd (upd (upd (upd (fun _ => 0) 0 1) 1 400) 2 80) 4 2) 5 30))), (qa, .inl (cI, 4, .inl (upd (upd (upd (upd (fun _ => 0) 0 1) 1 2) 2 4) 3 5))), (ea, .inl (cI, 4, .inl (upd (upd (upd (upd (fun _ => 0) 0 0) 1 20) 2 0) 3 1))), (za, .inl (cI, 4, .inl (upd (upd (upd (upd (fun _ => 0) 0 999) 1 200) 2 9) 3 60))), (g0, .inr (5, [.ref ra, .ref wa, .ref ta, .int 0, .ref ma, .int 0, .ref pa, .int 0, .int 0, .int 0, .ref ba, .ref ka, .int 0, .ref fa, .ref qa, .ref ea, .ref za, .ref ya, .int 0])), (ra, .inl (cI, 7, .inl (xRf (fun _ => 0) (-2))))] := hD
    obtain rfl : ((-2) : Int32) = r_5 := Eq.symm hw
    have hP9 := hP.sub (ws' := []) [] rfl
    have hD9 := hD.sub (ws' := []) [] (by decide) rfl
    exact W.iret (v := -2) hx hb hr (fun t ht hW => ⟨⟨_, (), rfl, by simp [sSet0, h_1, h_2, c_3, (Int32.not_le.mp c_4)], by rw [ht]; exact hP9, hD9⟩, hS.F ht⟩) hS.2.2 dX5_set_15
  rcases xz4 h_1 h_2 with rfl | rfl | rfl | rfl
  · refine lv_iload_n hx hb dX5_set_0 rfl (lv_at hl 1 rfl) ?_
    refine lv_if_lt (tgt := 9) hx hb dX5_set_1 (by decide) (fun c_6 => absurd c_6 (by decide +kernel)) (fun c_6 => ?_)
    refine lv_iload_n hx hb dX5_set_4 rfl (lv_at hl 1 rfl) ?_
    refine lv_iconst (v := 3) hx hb dX5_set_5 (by decide) ?_
    refine lv_icmp_le (tgt := 16) hx hb dX5_set_6 (by decide) (fun c_7 => ?_) (fun c_7 => absurd c_7 (by decide +kernel))
    refine lv_iload_n hx hb dX5_set_16 rfl (lv_at hl 2 rfl) ?_
    refine lv_aload_n hx hb dX5_set_17 rfl (lv_at hl 0 rfl) ?_
    refine va_get (D := D) (ci := 5) (v := .ref ea) (C := RX5) (T := TX5) (N := 19) hx hb hts hwX5 hown hK hP 0 rfl rfl 15 (by decide) (hts (.fieldLink RX5 44 "WaitOrWalkOnModel" "least" "[I") (by decide +kernel)) (fun _ h9 => h9) rfl dX5_set_18 ?_
    refine lv_iload_n hx hb dX5_set_21 rfl (lv_at hl 1 rfl) ?_
    refine va_iald (D := D) hx hb hK hP 4 0 rfl rfl (by unfold vp_in; decide +kernel) dX5_set_22 ?_
    refine xv_int (y := 0) rfl ?_
    refine lv_icmp_ge (tgt := 33) hx hb dX5_set_23 (by decide) (fun c_8 => ?_) (fun c_8 => ?_)
    · refine lv_iload_n hx hb dX5_set_33 rfl (lv_at hl 2 rfl) ?_
      refine lv_aload_n hx hb dX5_set_34 rfl (lv_at hl 0 rfl) ?_
      refine va_get (D := D) (ci := 5) (v := .ref za) (C := RX5) (T := TX5) (N := 19) hx hb hts hwX5 hown hK hP 0 rfl rfl 16 (by decide) (hts (.fieldLink RX5 47 "WaitOrWalkOnModel" "greatest" "[I") (by decide +kernel)) (fun _ h9 => h9) rfl dX5_set_35 ?_
      refine lv_iload_n hx hb dX5_set_38 rfl (lv_at hl 1 rfl) ?_
      refine va_iald (D := D) hx hb hK hP 5 0 rfl rfl (by unfold vp_in; decide +kernel) dX5_set_39 ?_
      refine xv_int (y := 999) rfl ?_
      refine lv_icmp_le (tgt := 50) hx hb dX5_set_40 (by decide) (fun c_9 => ?_) (fun c_9 => ?_)
      · refine lv_aload_n hx hb dX5_set_50 rfl (lv_at hl 0 rfl) ?_
        refine va_get (D := D) (ci := 5) (v := .ref wa) (C := RX5) (T := TX5) (N := 19) hx hb hts hwX5 hown hK hP 0 rfl rfl 1 (by decide) (hts (.fieldLink RX5 19 "WaitOrWalkOnModel" "now" "[I") (by decide +kernel)) (fun _ h9 => h9) rfl dX5_set_51 ?_
        refine lv_aload_n hx hb dX5_set_54 rfl (lv_at hl 0 rfl) ?_
        refine va_get (D := D) (ci := 5) (v := .ref qa) (C := RX5) (T := TX5) (N := 19) hx hb hts hwX5 hown hK hP 0 rfl rfl 14 (by decide) (hts (.fieldLink RX5 41 "WaitOrWalkOnModel" "place" "[I") (by decide +kernel)) (fun _ h9 => h9) rfl dX5_set_55 ?_
        refine lv_iload_n hx hb dX5_set_58 rfl (lv_at hl 1 rfl) ?_
        refine va_iald (D := D) hx hb hK hP 3 0 rfl rfl (by unfold vp_in; decide +kernel) dX5_set_59 ?_
        refine xv_int (y := 1) rfl ?_
        refine va_iald (D := D) hx hb hK hP 1 0 rfl rfl (by unfold vp_in; decide +kernel) dX5_set_60 ?_
        refine xv_int (y := 400) rfl ?_
        refine lv_istore_n (lv' := [(3, .int 400), (0, .ref g0), (1, .int 0), (2, .int a2)]) hx hb dX5_set_61 rfl hl (by decide) rfl (fun ls hl => ?_)
        refine lv_aload_n hx hb dX5_set_62 rfl (lv_at hl 1 rfl) ?_
        refine va_get (D := D) (ci := 5) (v := .ref wa) (C := RX5) (T := TX5) (N := 19) hx hb hts hwX5 hown hK hP 0 rfl rfl 1 (by decide) (hts (.fieldLink RX5 19 "WaitOrWalkOnModel" "now" "[I") (by decide +kernel)) (fun _ h9 => h9) rfl dX5_set_63 ?_
        refine lv_aload_n hx hb dX5_set_66 rfl (lv_at hl 1 rfl) ?_
        refine va_get (D := D) (ci := 5) (v := .ref qa) (C := RX5) (T := TX5) (N := 19) hx hb hts hwX5 hown hK hP 0 rfl rfl 14 (by decide) (hts (.fieldLink RX5 41 "WaitOrWalkOnModel" "place" "[I") (by decide +kernel)) (fun _ h9 => h9) rfl dX5_set_67 ?_
        refine lv_iload_n hx hb dX5_set_70 rfl (lv_at hl 2 rfl) ?_
        refine va_iald (D := D) hx hb hK hP 3 0 rfl rfl (by unfold vp_in; decide +kernel) dX5_set_71 ?_
        refine xv_int (y := 1) rfl ?_
        refine lv_iload_n hx hb dX5_set_72 rfl (lv_at hl 3 rfl) ?_
        refine va_iast (D := D) hx hb hK hP hD hS 1 0 rfl rfl (by unfold vp_in; decide +kernel) dX5_set_73 (fun H locs hP hD hS => ?_)
        have hP : va_P D vwCl [(g0, .inr (5, [.ref ra, .ref wa, .ref ta, .int 0, .ref ma, .int 0, .ref pa, .int 0, .int 0, .int 0, .ref ba, .ref ka, .int 0, .ref fa, .ref qa, .ref ea, .ref za, .ref ya, .int 0])), (wa, .inl (cI, 70, .inl (upd (upd (upd (upd (upd (upd (fun _ => 0) 0 1) 1 400) 2 80) 4 2) 5 30) 1 a2))), (ra, .inl (cI, 7, .inl (fun _ => 0))), (qa, .inl (cI, 4, .inl (upd (upd (upd (upd (fun _ => 0) 0 1) 1 2) 2 4) 3 5))), (ea, .inl (cI, 4, .inl (upd (upd (upd (upd (fun _ => 0) 0 0) 1 20) 2 0) 3 1))), (za, .inl (cI, 4, .inl (upd (upd (upd (upd (fun _ => 0) 0 999) 1 200) 2 9) 3 60)))] H := hP
        have hD : va_D A [(g0, .inr (5, [.ref ra, .ref wa, .ref ta, .int 0, .ref ma, .int 0, .ref pa, .int 0, .int 0, .int 0, .ref ba, .ref ka, .int 0, .ref fa, .ref qa, .ref ea, .ref za, .ref ya, .int 0])), (wa, .inl (cI, 70, .inl (upd (upd (upd (upd (upd (upd (fun _ => 0) 0 1) 1 400) 2 80) 4 2) 5 30) 1 a2))), (ra, .inl (cI, 7, .inl (fun _ => 0))), (qa, .inl (cI, 4, .inl (upd (upd (upd (upd (fun _ => 0) 0 1) 1 2) 2 4) 3 5))), (ea, .inl (cI, 4, .inl (upd (upd (upd (upd (fun _ => 0) 0 0) 1 20) 2 0) 3 1))), (za, .inl (cI, 4, .inl (upd (upd (upd (upd (fun _ => 0) 0 999) 1 200) 2 9) 3 60)))] := hD
        refine lv_iload_n hx hb dX5_set_74 rfl (lv_at hl 0 rfl) ?_
        have hP9 := hP.sub (ws' := []) [] rfl
        have hD9 := hD.sub (ws' := []) [] (by decide) rfl
        exact W.iret (v := 400) hx hb hr (fun t ht hW => ⟨⟨_, (), rfl, by simp [sSet0, c_6, (Int32.not_lt.mpr c_7), (Int32.not_lt.mpr c_8), (Int32.not_lt.mpr c_9)], by rw [ht]; exact hP9, hD9⟩, hS.F ht⟩) hS.2.2 dX5_set_75
      · refine lv_aload_n hx hb dX5_set_43 rfl (lv_at hl 0 rfl) ?_
        refine lv_bipush (v := -6) hx hb dX5_set_44 (by decide) ?_
        have hPc := hP.sub (ws' := [(g0, .inr (5, [.ref ra, .ref wa, .ref ta, .int 0, .ref ma, .int 0, .ref pa, .int 0, .int 0, .int 0, .ref ba, .ref ka, .int 0, .ref fa, .ref qa, .ref ea, .ref za, .ref ya, .int 0])), (ra, .inl (cI, 7, .inl (fun _ => 0)))]) [0, 2] rfl
        have hDc := hD.sub (ws' := [(g0, .inr (5, [.ref ra, .ref wa, .ref ta, .int 0, .ref ma, .int 0, .ref pa, .int 0, .int 0, .int 0, .ref ba, .ref ka, .int 0, .ref fa, .ref qa, .ref ea, .ref za, .ref ya, .int 0])), (ra, .inl (cI, 7, .inl (fun _ => 0)))]) [0, 2] (by decide) rfl
        have hFc := va_free (wc := [(g0, .inr (5, [.ref ra, .ref wa, .ref ta, .int 0, .ref ma, .int 0, .ref pa, .int 0, .int 0, .int 0, .ref ba, .ref ka, .int 0, .ref fa, .ref qa, .ref ea, .ref za, .ref ya, .int 0])), (ra, .inl (cI, 7, .inl (fun _ => 0)))]) hD hS hA [0, 2] rfl
        refine va_calli (va_runV (As := [.int (-6)]) (rest := []) ⟨hx, hb, hml, hown, hts⟩ (c_X5_no l D cI cL cZ cC _ g0 ra wa ta ma pa ba ka fa qa ea za ya (fun _ => 0) (-6) (by first | assumption | decide +kernel) (by first | assumption | decide +kernel)) (cwV 1 hts gX5_set_X5_no rfl rfl rfl (by decide +kernel) ⟨Nat.le_of_ble_eq_true rfl, Nat.le_of_ble_eq_true rfl⟩) ⟨wPc_bl, va_recv hK hPc (ci := 5) (q0 := 0) rfl rfl, wPc_use hPc hK hDc⟩ rfl rfl hl.1 rfl (lv_room (Nat.le_of_ble_eq_true rfl)) dX5_set_46 ⟨Nat.le_of_ble_eq_true rfl, Nat.le_of_ble_eq_true rfl⟩) hS (fun q _ h => hFc q h) hFc (fun r_10 u_10 t H1 locs ht hvm hw hB hz1 hk1 hS => ?_)
        obtain ⟨hP1, hD1⟩ := hB
        rw [ht] at hP1
        obtain ⟨hP, hD⟩ := va_join (wr := [(wa, .inl (cI, 70, .inl (upd (upd (upd (upd (upd (fun _ => 0) 0 1) 1 400) 2 80) 4 2) 5 30))), (qa, .inl (cI, 4, .inl (upd (upd (upd (upd (fun _ => 0) 0 1) 1 2) 2 4) 3 5))), (ea, .inl (cI, 4, .inl (upd (upd (upd (upd (fun _ => 0) 0 0) 1 20) 2 0) 3 1))), (za, .inl (cI, 4, .inl (upd (upd (upd (upd (fun _ => 0) 0 999) 1 200) 2 9) 3 60)))]) (w1 := [(g0, .inr (5, [.ref ra, .ref wa, .ref ta, .int 0, .ref ma, .int 0, .ref pa, .int 0, .int 0, .int 0, .ref ba, .ref ka, .int 0, .ref fa, .ref qa, .ref ea, .ref za, .ref ya, .int 0])), (ra, .inl (cI, 7, .inl (xRf (fun _ => 0) (-6))))]) hP hD [0, 2] [1, 3, 4, 5] rfl rfl (by decide) (by decide) hk1 hFc hP1 hD1
        generalize H1 = H at hP hS ⊢
        have hP : va_P D vwCl [(wa, .inl (cI, 70, .inl (upd (upd (upd (upd (upd (fun _ => 0) 0 1) 1 400) 2 80) 4 2) 5 30))), (qa, .inl (cI, 4, .inl (upd (upd (upd (upd (fun _ => 0) 0 1) 1 2) 2 4) 3 5))), (ea, .inl (cI, 4, .inl (upd (upd (upd (upd (fun _ => 0) 0 0) 1 20) 2 0) 3 1))), (za, .inl (cI, 4, .inl (upd (upd (upd (upd (fun _ => 0) 0 999) 1 200) 2 9) 3 60))), (g0, .inr (5, [.ref ra, .ref wa, .ref ta, .int 0, .ref ma, .int 0, .ref pa, .int 0, .int 0, .int 0, .ref ba, .ref ka, .int 0, .ref fa, .ref qa, .ref ea, .ref za, .ref ya, .int 0])), (ra, .inl (cI, 7, .inl (xRf (fun _ => 0) (-6))))] H := hP
        have hD : va_D A [(wa, .inl (cI, 70, .inl (upd (upd (upd (upd (upd (fun _ => 0) 0 1) 1 400) 2 80) 4 2) 5 30))), (qa, .inl (cI, 4, .inl (upd (upd (upd (upd (fun _ => 0) 0 1) 1 2) 2 4) 3 5))), (ea, .inl (cI, 4, .inl (upd (upd (upd (upd (fun _ => 0) 0 0) 1 20) 2 0) 3 1))), (za, .inl (cI, 4, .inl (upd (upd (upd (upd (fun _ => 0) 0 999) 1 200) 2 9) 3 60))), (g0, .inr (5, [.ref ra, .ref wa, .ref ta, .int 0, .ref ma, .int 0, .ref pa, .int 0, .int 0, .int 0, .ref ba, .ref ka, .int 0, .ref fa, .ref qa, .ref ea, .ref za, .ref ya, .int 0])), (ra, .inl (cI, 7, .inl (xRf (fun _ => 0) (-6))))] := hD
        obtain rfl : ((-6) : Int32) = r_10 := Eq.symm hw
        have hP9 := hP.sub (ws' := []) [] rfl
        have hD9 := hD.sub (ws' := []) [] (by decide) rfl
        exact W.iret (v := -6) hx hb hr (fun t ht hW => ⟨⟨_, (), rfl, by simp [sSet0, c_6, (Int32.not_lt.mpr c_7), (Int32.not_lt.mpr c_8), (Int32.not_le.mp c_9)], by rw [ht]; exact hP9, hD9⟩, hS.F ht⟩) hS.2.2 dX5_set_49
    · refine lv_aload_n hx hb dX5_set_26 rfl (lv_at hl 0 rfl) ?_
      refine lv_bipush (v := -4) hx hb dX5_set_27 (by decide) ?_
      have hPc := hP.sub (ws' := [(g0, .inr (5, [.ref ra, .ref wa, .ref ta, .int 0, .ref ma, .int 0, .ref pa, .int 0, .int 0, .int 0, .ref ba, .ref ka, .int 0, .ref fa, .ref qa, .ref ea, .ref za, .ref ya, .int 0])), (ra, .inl (cI, 7, .inl (fun _ => 0)))]) [0, 2] rfl
      have hDc := hD.sub (ws' := [(g0, .inr (5, [.ref ra, .ref wa, .ref ta, .int 0, .ref ma, .int 0, .ref pa, .int 0, .int 0, .int 0, .ref ba, .ref ka, .int 0, .ref fa, .ref qa, .ref ea, .ref za, .ref ya, .int 0])), (ra, .inl (cI, 7, .inl (fun _ => 0)))]) [0, 2] (by decide) rfl
      have hFc := va_free (wc := [(g0, .inr (5, [.ref ra, .ref wa, .ref ta, .int 0, .ref ma, .int 0, .ref pa, .int 0, .int 0, .int 0, .ref ba, .ref ka, .int 0, .ref fa, .ref qa, .ref ea, .ref za, .ref ya, .int 0])), (ra, .inl (cI, 7, .inl (fun _ => 0)))]) hD hS hA [0, 2] rfl
      refine va_calli (va_runV (As := [.int (-4)]) (rest := []) ⟨hx, hb, hml, hown, hts⟩ (c_X5_no l D cI cL cZ cC _ g0 ra wa ta ma pa ba ka fa qa ea za ya (fun _ => 0) (-4) (by first | assumption | decide +kernel) (by first | assumption | decide +kernel)) (cwV 1 hts gX5_set_X5_no rfl rfl rfl (by decide +kernel) ⟨Nat.le_of_ble_eq_true rfl, Nat.le_of_ble_eq_true rfl⟩) ⟨wPc_bl, va_recv hK hPc (ci := 5) (q0 := 0) rfl rfl, wPc_use hPc hK hDc⟩ rfl rfl hl.1 rfl (lv_room (Nat.le_of_ble_eq_true rfl)) dX5_set_29 ⟨Nat.le_of_ble_eq_true rfl, Nat.le_of_ble_eq_true rfl⟩) hS (fun q _ h => hFc q h) hFc (fun r_11 u_11 t H1 locs ht hvm hw hB hz1 hk1 hS => ?_)
      obtain ⟨hP1, hD1⟩ := hB
      rw [ht] at hP1
      obtain ⟨hP, hD⟩ := va_join (wr := [(wa, .inl (cI, 70, .inl (upd (upd (upd (upd (upd (fun _ => 0) 0 1) 1 400) 2 80) 4 2) 5 30))), (qa, .inl (cI, 4, .inl (upd (upd (upd (upd (fun _ => 0) 0 1) 1 2) 2 4) 3 5))), (ea, .inl (cI, 4, .inl (upd (upd (upd (upd (fun _ => 0) 0 0) 1 20) 2 0) 3 1))), (za, .inl (cI, 4, .inl (upd (upd (upd (upd (fun _ => 0) 0 999) 1 200) 2 9) 3 60)))]) (w1 := [(g0, .inr (5, [.ref ra, .ref wa, .ref ta, .int 0, .ref ma, .int 0, .ref pa, .int 0, .int 0, .int 0, .ref ba, .ref ka, .int 0, .ref fa, .ref qa, .ref ea, .ref za, .ref ya, .int 0])), (ra, .inl (cI, 7, .inl (xRf (fun _ => 0) (-4))))]) hP hD [0, 2] [1, 3, 4, 5] rfl rfl (by decide) (by decide) hk1 hFc hP1 hD1
      generalize H1 = H at hP hS ⊢
      have hP : va_P D vwCl [(wa, .inl (cI, 70, .inl (upd (upd (upd (upd (upd (fun _ => 0) 0 1) 1 400) 2 80) 4 2) 5 30))), (qa, .inl (cI, 4, .inl (upd (upd (upd (upd (fun _ => 0) 0 1) 1 2) 2 4) 3 5))), (ea, .inl (cI, 4, .inl (upd (upd (upd (upd (fun _ => 0) 0 0) 1 20) 2 0) 3 1))), (za, .inl (cI, 4, .inl (upd (upd (upd (upd (fun _ => 0) 0 999) 1 200) 2 9) 3 60))), (g0, .inr (5, [.ref ra, .ref wa, .ref ta, .int 0, .ref ma, .int 0, .ref pa, .int 0, .int 0, .int 0, .ref ba, .ref ka, .int 0, .ref fa, .ref qa, .ref ea, .ref za, .ref ya, .int 0])), (ra, .inl (cI, 7, .inl (xRf (fun _ => 0) (-4))))] H := hP
      have hD : va_D A [(wa, .inl (cI, 70, .inl (upd (upd (upd (upd (upd (fun _ => 0) 0 1) 1 400) 2 80) 4 2) 5 30))), (qa, .inl (cI, 4, .inl (upd (upd (upd (upd (fun _ => 0) 0 1) 1 2) 2 4) 3 5))), (ea, .inl (cI, 4, .inl (upd (upd (upd (upd (fun _ => 0) 0 0) 1 20) 2 0) 3 1))), (za, .inl (cI, 4, .inl (upd (upd (upd (upd (fun _ => 0) 0 999) 1 200) 2 9) 3 60))), (g0, .inr (5, [.ref ra, .ref wa, .ref ta, .int 0, .ref ma, .int 0, .ref pa, .int 0, .int 0, .int 0, .ref ba, .ref ka, .int 0, .ref fa, .ref qa, .ref ea, .ref za, .ref ya, .int 0])), (ra, .inl (cI, 7, .inl (xRf (fun _ => 0) (-4))))] := hD
      obtain rfl : ((-4) : Int32) = r_11 := Eq.symm hw
      have hP9 := hP.sub (ws' := []) [] rfl
      have hD9 := hD.sub (ws' := []) [] (by decide) rfl
      exact W.iret (v := -4) hx hb hr (fun t ht hW => ⟨⟨_, (), rfl, by simp [sSet0, c_6, (Int32.not_lt.mpr c_7), (Int32.not_le.mp c_8)], by rw [ht]; exact hP9, hD9⟩, hS.F ht⟩) hS.2.2 dX5_set_32
  · refine lv_iload_n hx hb dX5_set_0 rfl (lv_at hl 1 rfl) ?_
    refine lv_if_lt (tgt := 9) hx hb dX5_set_1 (by decide) (fun c_12 => absurd c_12 (by decide +kernel)) (fun c_12 => ?_)
    refine lv_iload_n hx hb dX5_set_4 rfl (lv_at hl 1 rfl) ?_
    refine lv_iconst (v := 3) hx hb dX5_set_5 (by decide) ?_
    refine lv_icmp_le (tgt := 16) hx hb dX5_set_6 (by decide) (fun c_13 => ?_) (fun c_13 => absurd c_13 (by decide +kernel))
    refine lv_iload_n hx hb dX5_set_16 rfl (lv_at hl 2 rfl) ?_
    refine lv_aload_n hx hb dX5_set_17 rfl (lv_at hl 0 rfl) ?_
    refine va_get (D := D) (ci := 5) (v := .ref ea) (C := RX5) (T := TX5) (N := 19) hx hb hts hwX5 hown hK hP 0 rfl rfl 15 (by decide) (hts (.fieldLink RX5 44 "WaitOrWalkOnModel" "least" "[I") (by decide +kernel)) (fun _ h9 => h9) rfl dX5_set_18 ?_
    refine lv_iload_n hx hb dX5_set_21 rfl (lv_at hl 1 rfl) ?_
    refine va_iald (D := D) hx hb hK hP 4 0 rfl rfl (by unfold vp_in; decide +kernel) dX5_set_22 ?_
    refine xv_int (y := 20) rfl ?_
    refine lv_icmp_ge (tgt := 33) hx hb dX5_set_23 (by decide) (fun c_14 => ?_) (fun c_14 => ?_)
    · refine lv_iload_n hx hb dX5_set_33 rfl (lv_at hl 2 rfl) ?_
      refine lv_aload_n hx hb dX5_set_34 rfl (lv_at hl 0 rfl) ?_
      refine va_get (D := D) (ci := 5) (v := .ref za) (C := RX5) (T := TX5) (N := 19) hx hb hts hwX5 hown hK hP 0 rfl rfl 16 (by decide) (hts (.fieldLink RX5 47 "WaitOrWalkOnModel" "greatest" "[I") (by decide +kernel)) (fun _ h9 => h9) rfl dX5_set_35 ?_
      refine lv_iload_n hx hb dX5_set_38 rfl (lv_at hl 1 rfl) ?_
      refine va_iald (D := D) hx hb hK hP 5 0 rfl rfl (by unfold vp_in; decide +kernel) dX5_set_39 ?_
      refine xv_int (y := 200) rfl ?_
      refine lv_icmp_le (tgt := 50) hx hb dX5_set_40 (by decide) (fun c_15 => ?_) (fun c_15 => ?_)
      · refine lv_aload_n hx hb dX5_set_50 rfl (lv_at hl 0 rfl) ?_
        refine va_get (D := D) (ci := 5) (v := .ref wa) (C := RX5) (T := TX5) (N := 19) hx hb hts hwX5 hown hK hP 0 rfl rfl 1 (by decide) (hts (.fieldLink RX5 19 "WaitOrWalkOnModel" "now" "[I") (by decide +kernel)) (fun _ h9 => h9) rfl dX5_set_51 ?_
        refine lv_aload_n hx hb dX5_set_54 rfl (lv_at hl 0 rfl) ?_
        refine va_get (D := D) (ci := 5) (v := .ref qa) (C := RX5) (T := TX5) (N := 19) hx hb hts hwX5 hown hK hP 0 rfl rfl 14 (by decide) (hts (.fieldLink RX5 41 "WaitOrWalkOnModel" "place" "[I") (by decide +kernel)) (fun _ h9 => h9) rfl dX5_set_55 ?_
        refine lv_iload_n hx hb dX5_set_58 rfl (lv_at hl 1 rfl) ?_
        refine va_iald (D := D) hx hb hK hP 3 0 rfl rfl (by unfold vp_in; decide +kernel) dX5_set_59 ?_
        refine xv_int (y := 2) rfl ?_
        refine va_iald (D := D) hx hb hK hP 1 0 rfl rfl (by unfold vp_in; decide +kernel) dX5_set_60 ?_
        refine xv_int (y := 80) rfl ?_
        refine lv_istore_n (lv' := [(3, .int 80), (0, .ref g0), (1, .int 1), (2, .int a2)]) hx hb dX5_set_61 rfl hl (by decide) rfl (fun ls hl => ?_)
        refine lv_aload_n hx hb dX5_set_62 rfl (lv_at hl 1 rfl) ?_
        refine va_get (D := D) (ci := 5) (v := .ref wa) (C := RX5) (T := TX5) (N := 19) hx hb hts hwX5 hown hK hP 0 rfl rfl 1 (by decide) (hts (.fieldLink RX5 19 "WaitOrWalkOnModel" "now" "[I") (by decide +kernel)) (fun _ h9 => h9) rfl dX5_set_63 ?_
        refine lv_aload_n hx hb dX5_set_66 rfl (lv_at hl 1 rfl) ?_
        refine va_get (D := D) (ci := 5) (v := .ref qa) (C := RX5) (T := TX5) (N := 19) hx hb hts hwX5 hown hK hP 0 rfl rfl 14 (by decide) (hts (.fieldLink RX5 41 "WaitOrWalkOnModel" "place" "[I") (by decide +kernel)) (fun _ h9 => h9) rfl dX5_set_67 ?_
        refine lv_iload_n hx hb dX5_set_70 rfl (lv_at hl 2 rfl) ?_
        refine va_iald (D := D) hx hb hK hP 3 0 rfl rfl (by unfold vp_in; decide +kernel) dX5_set_71 ?_
        refine xv_int (y := 2) rfl ?_
        refine lv_iload_n hx hb dX5_set_72 rfl (lv_at hl 3 rfl) ?_
        refine va_iast (D := D) hx hb hK hP hD hS 1 0 rfl rfl (by unfold vp_in; decide +kernel) dX5_set_73 (fun H locs hP hD hS => ?_)
        have hP : va_P D vwCl [(g0, .inr (5, [.ref ra, .ref wa, .ref ta, .int 0, .ref ma, .int 0, .ref pa, .int 0, .int 0, .int 0, .ref ba, .ref ka, .int 0, .ref fa, .ref qa, .ref ea, .ref za, .ref ya, .int 0])), (wa, .inl (cI, 70, .inl (upd (upd (upd (upd (upd (upd (fun _ => 0) 0 1) 1 400) 2 80) 4 2) 5 30) 2 a2))), (ra, .inl (cI, 7, .inl (fun _ => 0))), (qa, .inl (cI, 4, .inl (upd (upd (upd (upd (fun _ => 0) 0 1) 1 2) 2 4) 3 5))), (ea, .inl (cI, 4, .inl (upd (upd (upd (upd (fun _ => 0) 0 0) 1 20) 2 0) 3 1))), (za, .inl (cI, 4, .inl (upd (upd (upd (upd (fun _ => 0) 0 999) 1 200) 2 9) 3 60)))] H := hP
        have hD : va_D A [(g0, .inr (5, [.ref ra, .ref wa, .ref ta, .int 0, .ref ma, .int 0, .ref pa, .int 0, .int 0, .int 0, .ref ba, .ref ka, .int 0, .ref fa, .ref qa, .ref ea, .ref za, .ref ya, .int 0])), (wa, .inl (cI, 70, .inl (upd (upd (upd (upd (upd (upd (fun _ => 0) 0 1) 1 400) 2 80) 4 2) 5 30) 2 a2))), (ra, .inl (cI, 7, .inl (fun _ => 0))), (qa, .inl (cI, 4, .inl (upd (upd (upd (upd (fun _ => 0) 0 1) 1 2) 2 4) 3 5))), (ea, .inl (cI, 4, .inl (upd (upd (upd (upd (fun _ => 0) 0 0) 1 20) 2 0) 3 1))), (za, .inl (cI, 4, .inl (upd (upd (upd (upd (fun _ => 0) 0 999) 1 200) 2 9) 3 60)))] := hD
        refine lv_iload_n hx hb dX5_set_74 rfl (lv_at hl 0 rfl) ?_
        have hP9 := hP.sub (ws' := []) [] rfl
        have hD9 := hD.sub (ws' := []) [] (by decide) rfl
        exact W.iret (v := 80) hx hb hr (fun t ht hW => ⟨⟨_, (), rfl, by simp [sSet0, c_12, (Int32.not_lt.mpr c_13), (Int32.not_lt.mpr c_14), (Int32.not_lt.mpr c_15)], by rw [ht]; exact hP9, hD9⟩, hS.F ht⟩) hS.2.2 dX5_set_75
      · refine lv_aload_n hx hb dX5_set_43 rfl (lv_at hl 0 rfl) ?_
        refine lv_bipush (v := -6) hx hb dX5_set_44 (by decide) ?_
        have hPc := hP.sub (ws' := [(g0, .inr (5, [.ref ra, .ref wa, .ref ta, .int 0, .ref ma, .int 0, .ref pa, .int 0, .int 0, .int 0, .ref ba, .ref ka, .int 0, .ref fa, .ref qa, .ref ea, .ref za, .ref ya, .int 0])), (ra, .inl (cI, 7, .inl (fun _ => 0)))]) [0, 2] rfl
        have hDc := hD.sub (ws' := [(g0, .inr (5, [.ref ra, .ref wa, .ref ta, .int 0, .ref ma, .int 0, .ref pa, .int 0, .int 0, .int 0, .ref ba, .ref ka, .int 0, .ref fa, .ref qa, .ref ea, .ref za, .ref ya, .int 0])), (ra, .inl (cI, 7, .inl (fun _ => 0)))]) [0, 2] (by decide) rfl
        have hFc := va_free (wc := [(g0, .inr (5, [.ref ra, .ref wa, .ref ta, .int 0, .ref ma, .int 0, .ref pa, .int 0, .int 0, .int 0, .ref ba, .ref ka, .int 0, .ref fa, .ref qa, .ref ea, .ref za, .ref ya, .int 0])), (ra, .inl (cI, 7, .inl (fun _ => 0)))]) hD hS hA [0, 2] rfl
        refine va_calli (va_runV (As := [.int (-6)]) (rest := []) ⟨hx, hb, hml, hown, hts⟩ (c_X5_no l D cI cL cZ cC _ g0 ra wa ta ma pa ba ka fa qa ea za ya (fun _ => 0) (-6) (by first | assumption | decide +kernel) (by first | assumption | decide +kernel)) (cwV 1 hts gX5_set_X5_no rfl rfl rfl (by decide +kernel) ⟨Nat.le_of_ble_eq_true rfl, Nat.le_of_ble_eq_true rfl⟩) ⟨wPc_bl, va_recv hK hPc (ci := 5) (q0 := 0) rfl rfl, wPc_use hPc hK hDc⟩ rfl rfl hl.1 rfl (lv_room (Nat.le_of_ble_eq_true rfl)) dX5_set_46 ⟨Nat.le_of_ble_eq_true rfl, Nat.le_of_ble_eq_true rfl⟩) hS (fun q _ h => hFc q h) hFc (fun r_16 u_16 t H1 locs ht hvm hw hB hz1 hk1 hS => ?_)
        obtain ⟨hP1, hD1⟩ := hB
        rw [ht] at hP1
        obtain ⟨hP, hD⟩ := va_join (wr := [(wa, .inl (cI, 70, .inl (upd (upd (upd (upd (upd (fun _ => 0) 0 1) 1 400) 2 80) 4 2) 5 30))), (qa, .inl (cI, 4, .inl (upd (upd (upd (upd (fun _ => 0) 0 1) 1 2) 2 4) 3 5))), (ea, .inl (cI, 4, .inl (upd (upd (upd (upd (fun _ => 0) 0 0) 1 20) 2 0) 3 1))), (za, .inl (cI, 4, .inl (upd (upd (upd (upd (fun _ => 0) 0 999) 1 200) 2 9) 3 60)))]) (w1 := [(g0, .inr (5, [.ref ra, .ref wa, .ref ta, .int 0, .ref ma, .int 0, .ref pa, .int 0, .int 0, .int 0, .ref ba, .ref ka, .int 0, .ref fa, .ref qa, .ref ea, .ref za, .ref ya, .int 0])), (ra, .inl (cI, 7, .inl (xRf (fun _ => 0) (-6))))]) hP hD [0, 2] [1, 3, 4, 5] rfl rfl (by decide) (by decide) hk1 hFc hP1 hD1
        generalize H1 = H at hP hS ⊢
        have hP : va_P D vwCl [(wa, .inl (cI, 70, .inl (upd (upd (upd (upd (upd (fun _ => 0) 0 1) 1 400) 2 80) 4 2) 5 30))), (qa, .inl (cI, 4, .inl (upd (upd (upd (upd (fun _ => 0) 0 1) 1 2) 2 4) 3 5))), (ea, .inl (cI, 4, .inl (upd (upd (upd (upd (fun _ => 0) 0 0) 1 20) 2 0) 3 1))), (za, .inl (cI, 4, .inl (upd (upd (upd (upd (fun _ => 0) 0 999) 1 200) 2 9) 3 60))), (g0, .inr (5, [.ref ra, .ref wa, .ref ta, .int 0, .ref ma, .int 0, .ref pa, .int 0, .int 0, .int 0, .ref ba, .ref ka, .int 0, .ref fa, .ref qa, .ref ea, .ref za, .ref ya, .int 0])), (ra, .inl (cI, 7, .inl (xRf (fun _ => 0) (-6))))] H := hP
        have hD : va_D A [(wa, .inl (cI, 70, .inl (upd (upd (upd (upd (upd (fun _ => 0) 0 1) 1 400) 2 80) 4 2) 5 30))), (qa, .inl (cI, 4, .inl (upd (upd (upd (upd (fun _ => 0) 0 1) 1 2) 2 4) 3 5))), (ea, .inl (cI, 4, .inl (upd (upd (upd (upd (fun _ => 0) 0 0) 1 20) 2 0) 3 1))), (za, .inl (cI, 4, .inl (upd (upd (upd (upd (fun _ => 0) 0 999) 1 200) 2 9) 3 60))), (g0, .inr (5, [.ref ra, .ref wa, .ref ta, .int 0, .ref ma, .int 0, .ref pa, .int 0, .int 0, .int 0, .ref ba, .ref ka, .int 0, .ref fa, .ref qa, .ref ea, .ref za, .ref ya, .int 0])), (ra, .inl (cI, 7, .inl (xRf (fun _ => 0) (-6))))] := hD
        obtain rfl : ((-6) : Int32) = r_16 := Eq.symm hw
        have hP9 := hP.sub (ws' := []) [] rfl
        have hD9 := hD.sub (ws' := []) [] (by decide) rfl
        exact W.iret (v := -6) hx hb hr (fun t ht hW => ⟨⟨_, (), rfl, by simp [sSet0, c_12, (Int32.not_lt.mpr c_13), (Int32.not_lt.mpr c_14), (Int32.not_le.mp c_15)], by rw [ht]; exact hP9, hD9⟩, hS.F ht⟩) hS.2.2 dX5_set_49
    · refine lv_aload_n hx hb dX5_set_26 rfl (lv_at hl 0 rfl) ?_
      refine lv_bipush (v := -4) hx hb dX5_set_27 (by decide) ?_
      have hPc := hP.sub (ws' := [(g0, .inr (5, [.ref ra, .ref wa, .ref ta, .int 0, .ref ma, .int 0, .ref pa, .int 0, .int 0, .int 0, .ref ba, .ref ka, .int 0, .ref fa, .ref qa, .ref ea, .ref za, .ref ya, .int 0])), (ra, .inl (cI, 7, .inl (fun _ => 0)))]) [0, 2] rfl
      have hDc := hD.sub (ws' := [(g0, .inr (5, [.ref ra, .ref wa, .ref ta, .int 0, .ref ma, .int 0, .ref pa, .int 0, .int 0, .int 0, .ref ba, .ref ka, .int 0, .ref fa, .ref qa, .ref ea, .ref za, .ref ya, .int 0])), (ra, .inl (cI, 7, .inl (fun _ => 0)))]) [0, 2] (by decide) rfl
      have hFc := va_free (wc := [(g0, .inr (5, [.ref ra, .ref wa, .ref ta, .int 0, .ref ma, .int 0, .ref pa, .int 0, .int 0, .int 0, .ref ba, .ref ka, .int 0, .ref fa, .ref qa, .ref ea, .ref za, .ref ya, .int 0])), (ra, .inl (cI, 7, .inl (fun _ => 0)))]) hD hS hA [0, 2] rfl
      refine va_calli (va_runV (As := [.int (-4)]) (rest := []) ⟨hx, hb, hml, hown, hts⟩ (c_X5_no l D cI cL cZ cC _ g0 ra wa ta ma pa ba ka fa qa ea za ya (fun _ => 0) (-4) (by first | assumption | decide +kernel) (by first | assumption | decide +kernel)) (cwV 1 hts gX5_set_X5_no rfl rfl rfl (by decide +kernel) ⟨Nat.le_of_ble_eq_true rfl, Nat.le_of_ble_eq_true rfl⟩) ⟨wPc_bl, va_recv hK hPc (ci := 5) (q0 := 0) rfl rfl, wPc_use hPc hK hDc⟩ rfl rfl hl.1 rfl (lv_room (Nat.le_of_ble_eq_true rfl)) dX5_set_29 ⟨Nat.le_of_ble_eq_true rfl, Nat.le_of_ble_eq_true rfl⟩) hS (fun q _ h => hFc q h) hFc (fun r_17 u_17 t H1 locs ht hvm hw hB hz1 hk1 hS => ?_)
      obtain ⟨hP1, hD1⟩ := hB
      rw [ht] at hP1
      obtain ⟨hP, hD⟩ := va_join (wr := [(wa, .inl (cI, 70, .inl (upd (upd (upd (upd (upd (fun _ => 0) 0 1) 1 400) 2 80) 4 2) 5 30))), (qa, .inl (cI, 4, .inl (upd (upd (upd (upd (fun _ => 0) 0 1) 1 2) 2 4) 3 5))), (ea, .inl (cI, 4, .inl (upd (upd (upd (upd (fun _ => 0) 0 0) 1 20) 2 0) 3 1))), (za, .inl (cI, 4, .inl (upd (upd (upd (upd (fun _ => 0) 0 999) 1 200) 2 9) 3 60)))]) (w1 := [(g0, .inr (5, [.ref ra, .ref wa, .ref ta, .int 0, .ref ma, .int 0, .ref pa, .int 0, .int 0, .int 0, .ref ba, .ref ka, .int 0, .ref fa, .ref qa, .ref ea, .ref za, .ref ya, .int 0])), (ra, .inl (cI, 7, .inl (xRf (fun _ => 0) (-4))))]) hP hD [0, 2] [1, 3, 4, 5] rfl rfl (by decide) (by decide) hk1 hFc hP1 hD1
      generalize H1 = H at hP hS ⊢
      have hP : va_P D vwCl [(wa, .inl (cI, 70, .inl (upd (upd (upd (upd (upd (fun _ => 0) 0 1) 1 400) 2 80) 4 2) 5 30))), (qa, .inl (cI, 4, .inl (upd (upd (upd (upd (fun _ => 0) 0 1) 1 2) 2 4) 3 5))), (ea, .inl (cI, 4, .inl (upd (upd (upd (upd (fun _ => 0) 0 0) 1 20) 2 0) 3 1))), (za, .inl (cI, 4, .inl (upd (upd (upd (upd (fun _ => 0) 0 999) 1 200) 2 9) 3 60))), (g0, .inr (5, [.ref ra, .ref wa, .ref ta, .int 0, .ref ma, .int 0, .ref pa, .int 0, .int 0, .int 0, .ref ba, .ref ka, .int 0, .ref fa, .ref qa, .ref ea, .ref za, .ref ya, .int 0])), (ra, .inl (cI, 7, .inl (xRf (fun _ => 0) (-4))))] H := hP
      have hD : va_D A [(wa, .inl (cI, 70, .inl (upd (upd (upd (upd (upd (fun _ => 0) 0 1) 1 400) 2 80) 4 2) 5 30))), (qa, .inl (cI, 4, .inl (upd (upd (upd (upd (fun _ => 0) 0 1) 1 2) 2 4) 3 5))), (ea, .inl (cI, 4, .inl (upd (upd (upd (upd (fun _ => 0) 0 0) 1 20) 2 0) 3 1))), (za, .inl (cI, 4, .inl (upd (upd (upd (upd (fun _ => 0) 0 999) 1 200) 2 9) 3 60))), (g0, .inr (5, [.ref ra, .ref wa, .ref ta, .int 0, .ref ma, .int 0, .ref pa, .int 0, .int 0, .int 0, .ref ba, .ref ka, .int 0, .ref fa, .ref qa, .ref ea, .ref za, .ref ya, .int 0])), (ra, .inl (cI, 7, .inl (xRf (fun _ => 0) (-4))))] := hD
      obtain rfl : ((-4) : Int32) = r_17 := Eq.symm hw
      have hP9 := hP.sub (ws' := []) [] rfl
      have hD9 := hD.sub (ws' := []) [] (by decide) rfl
      exact W.iret (v := -4) hx hb hr (fun t ht hW => ⟨⟨_, (), rfl, by simp [sSet0, c_12, (Int32.not_lt.mpr c_13), (Int32.not_le.mp c_14)], by rw [ht]; exact hP9, hD9⟩, hS.F ht⟩) hS.2.2 dX5_set_32
  · refine lv_iload_n hx hb dX5_set_0 rfl (lv_at hl 1 rfl) ?_
    refine lv_if_lt (tgt := 9) hx hb dX5_set_1 (by decide) (fun c_18 => absurd c_18 (by decide +kernel)) (fun c_18 => ?_)
    refine lv_iload_n hx hb dX5_set_4 rfl (lv_at hl 1 rfl) ?_
    refine lv_iconst (v := 3) hx hb dX5_set_5 (by decide) ?_
    refine lv_icmp_le (tgt := 16) hx hb dX5_set_6 (by decide) (fun c_19 => ?_) (fun c_19 => absurd c_19 (by decide +kernel))
    refine lv_iload_n hx hb dX5_set_16 rfl (lv_at hl 2 rfl) ?_
    refine lv_aload_n hx hb dX5_set_17 rfl (lv_at hl 0 rfl) ?_
    refine va_get (D := D) (ci := 5) (v := .ref ea) (C := RX5) (T := TX5) (N := 19) hx hb hts hwX5 hown hK hP 0 rfl rfl 15 (by decide) (hts (.fieldLink RX5 44 "WaitOrWalkOnModel" "least" "[I") (by decide +kernel)) (fun _ h9 => h9) rfl dX5_set_18 ?_
    refine lv_iload_n hx hb dX5_set_21 rfl (lv_at hl 1 rfl) ?_
    refine va_iald (D := D) hx hb hK hP 4 0 rfl rfl (by unfold vp_in; decide +kernel) dX5_set_22 ?_
    refine xv_int (y := 0) rfl ?_
    refine lv_icmp_ge (tgt := 33) hx hb dX5_set_23 (by decide) (fun c_20 => ?_) (fun c_20 => ?_)
    · refine lv_iload_n hx hb dX5_set_33 rfl (lv_at hl 2 rfl) ?_
      refine lv_aload_n hx hb dX5_set_34 rfl (lv_at hl 0 rfl) ?_
      refine va_get (D := D) (ci := 5) (v := .ref za) (C := RX5) (T := TX5) (N := 19) hx hb hts hwX5 hown hK hP 0 rfl rfl 16 (by decide) (hts (.fieldLink RX5 47 "WaitOrWalkOnModel" "greatest" "[I") (by decide +kernel)) (fun _ h9 => h9) rfl dX5_set_35 ?_
      refine lv_iload_n hx hb dX5_set_38 rfl (lv_at hl 1 rfl) ?_
      refine va_iald (D := D) hx hb hK hP 5 0 rfl rfl (by unfold vp_in; decide +kernel) dX5_set_39 ?_
      refine xv_int (y := 9) rfl ?_
      refine lv_icmp_le (tgt := 50) hx hb dX5_set_40 (by decide) (fun c_21 => ?_) (fun c_21 => ?_)
      · refine lv_aload_n hx hb dX5_set_50 rfl (lv_at hl 0 rfl) ?_
        refine va_get (D := D) (ci := 5) (v := .ref wa) (C := RX5) (T := TX5) (N := 19) hx hb hts hwX5 hown hK hP 0 rfl rfl 1 (by decide) (hts (.fieldLink RX5 19 "WaitOrWalkOnModel" "now" "[I") (by decide +kernel)) (fun _ h9 => h9) rfl dX5_set_51 ?_
        refine lv_aload_n hx hb dX5_set_54 rfl (lv_at hl 0 rfl) ?_
        refine va_get (D := D) (ci := 5) (v := .ref qa) (C := RX5) (T := TX5) (N := 19) hx hb hts hwX5 hown hK hP 0 rfl rfl 14 (by decide) (hts (.fieldLink RX5 41 "WaitOrWalkOnModel" "place" "[I") (by decide +kernel)) (fun _ h9 => h9) rfl dX5_set_55 ?_
        refine lv_iload_n hx hb dX5_set_58 rfl (lv_at hl 1 rfl) ?_
        refine va_iald (D := D) hx hb hK hP 3 0 rfl rfl (by unfold vp_in; decide +kernel) dX5_set_59 ?_
        refine xv_int (y := 4) rfl ?_
        refine va_iald (D := D) hx hb hK hP 1 0 rfl rfl (by unfold vp_in; decide +kernel) dX5_set_60 ?_
        refine xv_int (y := 2) rfl ?_
        refine lv_istore_n (lv' := [(3, .int 2), (0, .ref g0), (1, .int 2), (2, .int a2)]) hx hb dX5_set_61 rfl hl (by decide) rfl (fun ls hl => ?_)
        refine lv_aload_n hx hb dX5_set_62 rfl (lv_at hl 1 rfl) ?_
        refine va_get (D := D) (ci := 5) (v := .ref wa) (C := RX5) (T := TX5) (N := 19) hx hb hts hwX5 hown hK hP 0 rfl rfl 1 (by decide) (hts (.fieldLink RX5 19 "WaitOrWalkOnModel" "now" "[I") (by decide +kernel)) (fun _ h9 => h9) rfl dX5_set_63 ?_
        refine lv_aload_n hx hb dX5_set_66 rfl (lv_at hl 1 rfl) ?_
        refine va_get (D := D) (ci := 5) (v := .ref qa) (C := RX5) (T := TX5) (N := 19) hx hb hts hwX5 hown hK hP 0 rfl rfl 14 (by decide) (hts (.fieldLink RX5 41 "WaitOrWalkOnModel" "place" "[I") (by decide +kernel)) (fun _ h9 => h9) rfl dX5_set_67 ?_
        refine lv_iload_n hx hb dX5_set_70 rfl (lv_at hl 2 rfl) ?_
        refine va_iald (D := D) hx hb hK hP 3 0 rfl rfl (by unfold vp_in; decide +kernel) dX5_set_71 ?_
        refine xv_int (y := 4) rfl ?_
        refine lv_iload_n hx hb dX5_set_72 rfl (lv_at hl 3 rfl) ?_
        refine va_iast (D := D) hx hb hK hP hD hS 1 0 rfl rfl (by unfold vp_in; decide +kernel) dX5_set_73 (fun H locs hP hD hS => ?_)
        have hP : va_P D vwCl [(g0, .inr (5, [.ref ra, .ref wa, .ref ta, .int 0, .ref ma, .int 0, .ref pa, .int 0, .int 0, .int 0, .ref ba, .ref ka, .int 0, .ref fa, .ref qa, .ref ea, .ref za, .ref ya, .int 0])), (wa, .inl (cI, 70, .inl (upd (upd (upd (upd (upd (upd (fun _ => 0) 0 1) 1 400) 2 80) 4 2) 5 30) 4 a2))), (ra, .inl (cI, 7, .inl (fun _ => 0))), (qa, .inl (cI, 4, .inl (upd (upd (upd (upd (fun _ => 0) 0 1) 1 2) 2 4) 3 5))), (ea, .inl (cI, 4, .inl (upd (upd (upd (upd (fun _ => 0) 0 0) 1 20) 2 0) 3 1))), (za, .inl (cI, 4, .inl (upd (upd (upd (upd (fun _ => 0) 0 999) 1 200) 2 9) 3 60)))] H := hP
        have hD : va_D A [(g0, .inr (5, [.ref ra, .ref wa, .ref ta, .int 0, .ref ma, .int 0, .ref pa, .int 0, .int 0, .int 0, .ref ba, .ref ka, .int 0, .ref fa, .ref qa, .ref ea, .ref za, .ref ya, .int 0])), (wa, .inl (cI, 70, .inl (upd (upd (upd (upd (upd (upd (fun _ => 0) 0 1) 1 400) 2 80) 4 2) 5 30) 4 a2))), (ra, .inl (cI, 7, .inl (fun _ => 0))), (qa, .inl (cI, 4, .inl (upd (upd (upd (upd (fun _ => 0) 0 1) 1 2) 2 4) 3 5))), (ea, .inl (cI, 4, .inl (upd (upd (upd (upd (fun _ => 0) 0 0) 1 20) 2 0) 3 1))), (za, .inl (cI, 4, .inl (upd (upd (upd (upd (fun _ => 0) 0 999) 1 200) 2 9) 3 60)))] := hD
        refine lv_iload_n hx hb dX5_set_74 rfl (lv_at hl 0 rfl) ?_
        have hP9 := hP.sub (ws' := []) [] rfl
        have hD9 := hD.sub (ws' := []) [] (by decide) rfl
        exact W.iret (v := 2) hx hb hr (fun t ht hW => ⟨⟨_, (), rfl, by simp [sSet0, c_18, (Int32.not_lt.mpr c_19), (Int32.not_lt.mpr c_20), (Int32.not_lt.mpr c_21)], by rw [ht]; exact hP9, hD9⟩, hS.F ht⟩) hS.2.2 dX5_set_75
      · refine lv_aload_n hx hb dX5_set_43 rfl (lv_at hl 0 rfl) ?_
        refine lv_bipush (v := -6) hx hb dX5_set_44 (by decide) ?_
        have hPc := hP.sub (ws' := [(g0, .inr (5, [.ref ra, .ref wa, .ref ta, .int 0, .ref ma, .int 0, .ref pa, .int 0, .int 0, .int 0, .ref ba, .ref ka, .int 0, .ref fa, .ref qa, .ref ea, .ref za, .ref ya, .int 0])), (ra, .inl (cI, 7, .inl (fun _ => 0)))]) [0, 2] rfl
        have hDc := hD.sub (ws' := [(g0, .inr (5, [.ref ra, .ref wa, .ref ta, .int 0, .ref ma, .int 0, .ref pa, .int 0, .int 0, .int 0, .ref ba, .ref ka, .int 0, .ref fa, .ref qa, .ref ea, .ref za, .ref ya, .int 0])), (ra, .inl (cI, 7, .inl (fun _ => 0)))]) [0, 2] (by decide) rfl
        have hFc := va_free (wc := [(g0, .inr (5, [.ref ra, .ref wa, .ref ta, .int 0, .ref ma, .int 0, .ref pa, .int 0, .int 0, .int 0, .ref ba, .ref ka, .int 0, .ref fa, .ref qa, .ref ea, .ref za, .ref ya, .int 0])), (ra, .inl (cI, 7, .inl (fun _ => 0)))]) hD hS hA [0, 2] rfl
        refine va_calli (va_runV (As := [.int (-6)]) (rest := []) ⟨hx, hb, hml, hown, hts⟩ (c_X5_no l D cI cL cZ cC _ g0 ra wa ta ma pa ba ka fa qa ea za ya (fun _ => 0) (-6) (by first | assumption | decide +kernel) (by first | assumption | decide +kernel)) (cwV 1 hts gX5_set_X5_no rfl rfl rfl (by decide +kernel) ⟨Nat.le_of_ble_eq_true rfl, Nat.le_of_ble_eq_true rfl⟩) ⟨wPc_bl, va_recv hK hPc (ci := 5) (q0 := 0) rfl rfl, wPc_use hPc hK hDc⟩ rfl rfl hl.1 rfl (lv_room (Nat.le_of_ble_eq_true rfl)) dX5_set_46 ⟨Nat.le_of_ble_eq_true rfl, Nat.le_of_ble_eq_true rfl⟩) hS (fun q _ h => hFc q h) hFc (fun r_22 u_22 t H1 locs ht hvm hw hB hz1 hk1 hS => ?_)
        obtain ⟨hP1, hD1⟩ := hB
        rw [ht] at hP1
        obtain ⟨hP, hD⟩ := va_join (wr := [(wa, .inl (cI, 70, .inl (upd (upd (upd (upd (upd (fun _ => 0) 0 1) 1 400) 2 80) 4 2) 5 30))), (qa, .inl (cI, 4, .inl (upd (upd (upd (upd (fun _ => 0) 0 1) 1 2) 2 4) 3 5))), (ea, .inl (cI, 4, .inl (upd (upd (upd (upd (fun _ => 0) 0 0) 1 20) 2 0) 3 1))), (za, .inl (cI, 4, .inl (upd (upd (upd (upd (fun _ => 0) 0 999) 1 200) 2 9) 3 60)))]) (w1 := [(g0, .inr (5, [.ref ra, .ref wa, .ref ta, .int 0, .ref ma, .int 0, .ref pa, .int 0, .int 0, .int 0, .ref ba, .ref ka, .int 0, .ref fa, .ref qa, .ref ea, .ref za, .ref ya, .int 0])), (ra, .inl (cI, 7, .inl (xRf (fun _ => 0) (-6))))]) hP hD [0, 2] [1, 3, 4, 5] rfl rfl (by decide) (by decide) hk1 hFc hP1 hD1
        generalize H1 = H at hP hS ⊢
        have hP : va_P D vwCl [(wa, .inl (cI, 70, .inl (upd (upd (upd (upd (upd (fun _ => 0) 0 1) 1 400) 2 80) 4 2) 5 30))), (qa, .inl (cI, 4, .inl (upd (upd (upd (upd (fun _ => 0) 0 1) 1 2) 2 4) 3 5))), (ea, .inl (cI, 4, .inl (upd (upd (upd (upd (fun _ => 0) 0 0) 1 20) 2 0) 3 1))), (za, .inl (cI, 4, .inl (upd (upd (upd (upd (fun _ => 0) 0 999) 1 200) 2 9) 3 60))), (g0, .inr (5, [.ref ra, .ref wa, .ref ta, .int 0, .ref ma, .int 0, .ref pa, .int 0, .int 0, .int 0, .ref ba, .ref ka, .int 0, .ref fa, .ref qa, .ref ea, .ref za, .ref ya, .int 0])), (ra, .inl (cI, 7, .inl (xRf (fun _ => 0) (-6))))] H := hP
        have hD : va_D A [(wa, .inl (cI, 70, .inl (upd (upd (upd (upd (upd (fun _ => 0) 0 1) 1 400) 2 80) 4 2) 5 30))), (qa, .inl (cI, 4, .inl (upd (upd (upd (upd (fun _ => 0) 0 1) 1 2) 2 4) 3 5))), (ea, .inl (cI, 4, .inl (upd (upd (upd (upd (fun _ => 0) 0 0) 1 20) 2 0) 3 1))), (za, .inl (cI, 4, .inl (upd (upd (upd (upd (fun _ => 0) 0 999) 1 200) 2 9) 3 60))), (g0, .inr (5, [.ref ra, .ref wa, .ref ta, .int 0, .ref ma, .int 0, .ref pa, .int 0, .int 0, .int 0, .ref ba, .ref ka, .int 0, .ref fa, .ref qa, .ref ea, .ref za, .ref ya, .int 0])), (ra, .inl (cI, 7, .inl (xRf (fun _ => 0) (-6))))] := hD
        obtain rfl : ((-6) : Int32) = r_22 := Eq.symm hw
        have hP9 := hP.sub (ws' := []) [] rfl
        have hD9 := hD.sub (ws' := []) [] (by decide) rfl
        exact W.iret (v := -6) hx hb hr (fun t ht hW => ⟨⟨_, (), rfl, by simp [sSet0, c_18, (Int32.not_lt.mpr c_19), (Int32.not_lt.mpr c_20), (Int32.not_le.mp c_21)], by rw [ht]; exact hP9, hD9⟩, hS.F ht⟩) hS.2.2 dX5_set_49
    · refine lv_aload_n hx hb dX5_set_26 rfl (lv_at hl 0 rfl) ?_
      refine lv_bipush (v := -4) hx hb dX5_set_27 (by decide) ?_
      have hPc := hP.sub (ws' := [(g0, .inr (5, [.ref ra, .ref wa, .ref ta, .int 0, .ref ma, .int 0, .ref pa, .int 0, .int 0, .int 0, .ref ba, .ref ka, .int 0, .ref fa, .ref qa, .ref ea, .ref za, .ref ya, .int 0])), (ra, .inl (cI, 7, .inl (fun _ => 0)))]) [0, 2] rfl
      have hDc := hD.sub (ws' := [(g0, .inr (5, [.ref ra, .ref wa, .ref ta, .int 0, .ref ma, .int 0, .ref pa, .int 0, .int 0, .int 0, .ref ba, .ref ka, .int 0, .ref fa, .ref qa, .ref ea, .ref za, .ref ya, .int 0])), (ra, .inl (cI, 7, .inl (fun _ => 0)))]) [0, 2] (by decide) rfl
      have hFc := va_free (wc := [(g0, .inr (5, [.ref ra, .ref wa, .ref ta, .int 0, .ref ma, .int 0, .ref pa, .int 0, .int 0, .int 0, .ref ba, .ref ka, .int 0, .ref fa, .ref qa, .ref ea, .ref za, .ref ya, .int 0])), (ra, .inl (cI, 7, .inl (fun _ => 0)))]) hD hS hA [0, 2] rfl
      refine va_calli (va_runV (As := [.int (-4)]) (rest := []) ⟨hx, hb, hml, hown, hts⟩ (c_X5_no l D cI cL cZ cC _ g0 ra wa ta ma pa ba ka fa qa ea za ya (fun _ => 0) (-4) (by first | assumption | decide +kernel) (by first | assumption | decide +kernel)) (cwV 1 hts gX5_set_X5_no rfl rfl rfl (by decide +kernel) ⟨Nat.le_of_ble_eq_true rfl, Nat.le_of_ble_eq_true rfl⟩) ⟨wPc_bl, va_recv hK hPc (ci := 5) (q0 := 0) rfl rfl, wPc_use hPc hK hDc⟩ rfl rfl hl.1 rfl (lv_room (Nat.le_of_ble_eq_true rfl)) dX5_set_29 ⟨Nat.le_of_ble_eq_true rfl, Nat.le_of_ble_eq_true rfl⟩) hS (fun q _ h => hFc q h) hFc (fun r_23 u_23 t H1 locs ht hvm hw hB hz1 hk1 hS => ?_)
      obtain ⟨hP1, hD1⟩ := hB
      rw [ht] at hP1
      obtain ⟨hP, hD⟩ := va_join (wr := [(wa, .inl (cI, 70, .inl (upd (upd (upd (upd (upd (fun _ => 0) 0 1) 1 400) 2 80) 4 2) 5 30))), (qa, .inl (cI, 4, .inl (upd (upd (upd (upd (fun _ => 0) 0 1) 1 2) 2 4) 3 5))), (ea, .inl (cI, 4, .inl (upd (upd (upd (upd (fun _ => 0) 0 0) 1 20) 2 0) 3 1))), (za, .inl (cI, 4, .inl (upd (upd (upd (upd (fun _ => 0) 0 999) 1 200) 2 9) 3 60)))]) (w1 := [(g0, .inr (5, [.ref ra, .ref wa, .ref ta, .int 0, .ref ma, .int 0, .ref pa, .int 0, .int 0, .int 0, .ref ba, .ref ka, .int 0, .ref fa, .ref qa, .ref ea, .ref za, .ref ya, .int 0])), (ra, .inl (cI, 7, .inl (xRf (fun _ => 0) (-4))))]) hP hD [0, 2] [1, 3, 4, 5] rfl rfl (by decide) (by decide) hk1 hFc hP1 hD1
      generalize H1 = H at hP hS ⊢
      have hP : va_P D vwCl [(wa, .inl (cI, 70, .inl (upd (upd (upd (upd (upd (fun _ => 0) 0 1) 1 400) 2 80) 4 2) 5 30))), (qa, .inl (cI, 4, .inl (upd (upd (upd (upd (fun _ => 0) 0 1) 1 2) 2 4) 3 5))), (ea, .inl (cI, 4, .inl (upd (upd (upd (upd (fun _ => 0) 0 0) 1 20) 2 0) 3 1))), (za, .inl (cI, 4, .inl (upd (upd (upd (upd (fun _ => 0) 0 999) 1 200) 2 9) 3 60))), (g0, .inr (5, [.ref ra, .ref wa, .ref ta, .int 0, .ref ma, .int 0, .ref pa, .int 0, .int 0, .int 0, .ref ba, .ref ka, .int 0, .ref fa, .ref qa, .ref ea, .ref za, .ref ya, .int 0])), (ra, .inl (cI, 7, .inl (xRf (fun _ => 0) (-4))))] H := hP
      have hD : va_D A [(wa, .inl (cI, 70, .inl (upd (upd (upd (upd (upd (fun _ => 0) 0 1) 1 400) 2 80) 4 2) 5 30))), (qa, .inl (cI, 4, .inl (upd (upd (upd (upd (fun _ => 0) 0 1) 1 2) 2 4) 3 5))), (ea, .inl (cI, 4, .inl (upd (upd (upd (upd (fun _ => 0) 0 0) 1 20) 2 0) 3 1))), (za, .inl (cI, 4, .inl (upd (upd (upd (upd (fun _ => 0) 0 999) 1 200) 2 9) 3 60))), (g0, .inr (5, [.ref ra, .ref wa, .ref ta, .int 0, .ref ma, .int 0, .ref pa, .int 0, .int 0, .int 0, .ref ba, .ref ka, .int 0, .ref fa, .ref qa, .ref ea, .ref za, .ref ya, .int 0])), (ra, .inl (cI, 7, .inl (xRf (fun _ => 0) (-4))))] := hD
      obtain rfl : ((-4) : Int32) = r_23 := Eq.symm hw
      have hP9 := hP.sub (ws' := []) [] rfl
      have hD9 := hD.sub (ws' := []) [] (by decide) rfl
      exact W.iret (v := -4) hx hb hr (fun t ht hW => ⟨⟨_, (), rfl, by simp [sSet0, c_18, (Int32.not_lt.mpr c_19), (Int32.not_le.mp c_20)], by rw [ht]; exact hP9, hD9⟩, hS.F ht⟩) hS.2.2 dX5_set_32
  · refine lv_iload_n hx hb dX5_set_0 rfl (lv_at hl 1 rfl) ?_
    refine lv_if_lt (tgt := 9) hx hb dX5_set_1 (by decide) (fun c_24 => absurd c_24 (by decide +kernel)) (fun c_24 => ?_)
    refine lv_iload_n hx hb dX5_set_4 rfl (lv_at hl 1 rfl) ?_
    refine lv_iconst (v := 3) hx hb dX5_set_5 (by decide) ?_
    refine lv_icmp_le (tgt := 16) hx hb dX5_set_6 (by decide) (fun c_25 => ?_) (fun c_25 => absurd c_25 (by decide +kernel))
    refine lv_iload_n hx hb dX5_set_16 rfl (lv_at hl 2 rfl) ?_
    refine lv_aload_n hx hb dX5_set_17 rfl (lv_at hl 0 rfl) ?_
    refine va_get (D := D) (ci := 5) (v := .ref ea) (C := RX5) (T := TX5) (N := 19) hx hb hts hwX5 hown hK hP 0 rfl rfl 15 (by decide) (hts (.fieldLink RX5 44 "WaitOrWalkOnModel" "least" "[I") (by decide +kernel)) (fun _ h9 => h9) rfl dX5_set_18 ?_
    refine lv_iload_n hx hb dX5_set_21 rfl (lv_at hl 1 rfl) ?_
    refine va_iald (D := D) hx hb hK hP 4 0 rfl rfl (by unfold vp_in; decide +kernel) dX5_set_22 ?_
    refine xv_int (y := 1) rfl ?_
    refine lv_icmp_ge (tgt := 33) hx hb dX5_set_23 (by decide) (fun c_26 => ?_) (fun c_26 => ?_)
    · refine lv_iload_n hx hb dX5_set_33 rfl (lv_at hl 2 rfl) ?_
      refine lv_aload_n hx hb dX5_set_34 rfl (lv_at hl 0 rfl) ?_
      refine va_get (D := D) (ci := 5) (v := .ref za) (C := RX5) (T := TX5) (N := 19) hx hb hts hwX5 hown hK hP 0 rfl rfl 16 (by decide) (hts (.fieldLink RX5 47 "WaitOrWalkOnModel" "greatest" "[I") (by decide +kernel)) (fun _ h9 => h9) rfl dX5_set_35 ?_
      refine lv_iload_n hx hb dX5_set_38 rfl (lv_at hl 1 rfl) ?_
      refine va_iald (D := D) hx hb hK hP 5 0 rfl rfl (by unfold vp_in; decide +kernel) dX5_set_39 ?_
      refine xv_int (y := 60) rfl ?_
      refine lv_icmp_le (tgt := 50) hx hb dX5_set_40 (by decide) (fun c_27 => ?_) (fun c_27 => ?_)
      · refine lv_aload_n hx hb dX5_set_50 rfl (lv_at hl 0 rfl) ?_
        refine va_get (D := D) (ci := 5) (v := .ref wa) (C := RX5) (T := TX5) (N := 19) hx hb hts hwX5 hown hK hP 0 rfl rfl 1 (by decide) (hts (.fieldLink RX5 19 "WaitOrWalkOnModel" "now" "[I") (by decide +kernel)) (fun _ h9 => h9) rfl dX5_set_51 ?_
        refine lv_aload_n hx hb dX5_set_54 rfl (lv_at hl 0 rfl) ?_
        refine va_get (D := D) (ci := 5) (v := .ref qa) (C := RX5) (T := TX5) (N := 19) hx hb hts hwX5 hown hK hP 0 rfl rfl 14 (by decide) (hts (.fieldLink RX5 41 "WaitOrWalkOnModel" "place" "[I") (by decide +kernel)) (fun _ h9 => h9) rfl dX5_set_55 ?_
        refine lv_iload_n hx hb dX5_set_58 rfl (lv_at hl 1 rfl) ?_
        refine va_iald (D := D) hx hb hK hP 3 0 rfl rfl (by unfold vp_in; decide +kernel) dX5_set_59 ?_
        refine xv_int (y := 5) rfl ?_
        refine va_iald (D := D) hx hb hK hP 1 0 rfl rfl (by unfold vp_in; decide +kernel) dX5_set_60 ?_
        refine xv_int (y := 30) rfl ?_
        refine lv_istore_n (lv' := [(3, .int 30), (0, .ref g0), (1, .int 3), (2, .int a2)]) hx hb dX5_set_61 rfl hl (by decide) rfl (fun ls hl => ?_)
        refine lv_aload_n hx hb dX5_set_62 rfl (lv_at hl 1 rfl) ?_
        refine va_get (D := D) (ci := 5) (v := .ref wa) (C := RX5) (T := TX5) (N := 19) hx hb hts hwX5 hown hK hP 0 rfl rfl 1 (by decide) (hts (.fieldLink RX5 19 "WaitOrWalkOnModel" "now" "[I") (by decide +kernel)) (fun _ h9 => h9) rfl dX5_set_63 ?_
        refine lv_aload_n hx hb dX5_set_66 rfl (lv_at hl 1 rfl) ?_
        refine va_get (D := D) (ci := 5) (v := .ref qa) (C := RX5) (T := TX5) (N := 19) hx hb hts hwX5 hown hK hP 0 rfl rfl 14 (by decide) (hts (.fieldLink RX5 41 "WaitOrWalkOnModel" "place" "[I") (by decide +kernel)) (fun _ h9 => h9) rfl dX5_set_67 ?_
        refine lv_iload_n hx hb dX5_set_70 rfl (lv_at hl 2 rfl) ?_
        refine va_iald (D := D) hx hb hK hP 3 0 rfl rfl (by unfold vp_in; decide +kernel) dX5_set_71 ?_
        refine xv_int (y := 5) rfl ?_
        refine lv_iload_n hx hb dX5_set_72 rfl (lv_at hl 3 rfl) ?_
        refine va_iast (D := D) hx hb hK hP hD hS 1 0 rfl rfl (by unfold vp_in; decide +kernel) dX5_set_73 (fun H locs hP hD hS => ?_)
        have hP : va_P D vwCl [(g0, .inr (5, [.ref ra, .ref wa, .ref ta, .int 0, .ref ma, .int 0, .ref pa, .int 0, .int 0, .int 0, .ref ba, .ref ka, .int 0, .ref fa, .ref qa, .ref ea, .ref za, .ref ya, .int 0])), (wa, .inl (cI, 70, .inl (upd (upd (upd (upd (upd (upd (fun _ => 0) 0 1) 1 400) 2 80) 4 2) 5 30) 5 a2))), (ra, .inl (cI, 7, .inl (fun _ => 0))), (qa, .inl (cI, 4, .inl (upd (upd (upd (upd (fun _ => 0) 0 1) 1 2) 2 4) 3 5))), (ea, .inl (cI, 4, .inl (upd (upd (upd (upd (fun _ => 0) 0 0) 1 20) 2 0) 3 1))), (za, .inl (cI, 4, .inl (upd (upd (upd (upd (fun _ => 0) 0 999) 1 200) 2 9) 3 60)))] H := hP
        have hD : va_D A [(g0, .inr (5, [.ref ra, .ref wa, .ref ta, .int 0, .ref ma, .int 0, .ref pa, .int 0, .int 0, .int 0, .ref ba, .ref ka, .int 0, .ref fa, .ref qa, .ref ea, .ref za, .ref ya, .int 0])), (wa, .inl (cI, 70, .inl (upd (upd (upd (upd (upd (upd (fun _ => 0) 0 1) 1 400) 2 80) 4 2) 5 30) 5 a2))), (ra, .inl (cI, 7, .inl (fun _ => 0))), (qa, .inl (cI, 4, .inl (upd (upd (upd (upd (fun _ => 0) 0 1) 1 2) 2 4) 3 5))), (ea, .inl (cI, 4, .inl (upd (upd (upd (upd (fun _ => 0) 0 0) 1 20) 2 0) 3 1))), (za, .inl (cI, 4, .inl (upd (upd (upd (upd (fun _ => 0) 0 999) 1 200) 2 9) 3 60)))] := hD
        refine lv_iload_n hx hb dX5_set_74 rfl (lv_at hl 0 rfl) ?_
        have hP9 := hP.sub (ws' := []) [] rfl
        have hD9 := hD.sub (ws' := []) [] (by decide) rfl
        exact W.iret (v := 30) hx hb hr (fun t ht hW => ⟨⟨_, (), rfl, by simp [sSet0, c_24, (Int32.not_lt.mpr c_25), (Int32.not_lt.mpr c_26), (Int32.not_lt.mpr c_27)], by rw [ht]; exact hP9, hD9⟩, hS.F ht⟩) hS.2.2 dX5_set_75
      · refine lv_aload_n hx hb dX5_set_43 rfl (lv_at hl 0 rfl) ?_
        refine lv_bipush (v := -6) hx hb dX5_set_44 (by decide) ?_
        have hPc := hP.sub (ws' := [(g0, .inr (5, [.ref ra, .ref wa, .ref ta, .int 0, .ref ma, .int 0, .ref pa, .int 0, .int 0, .int 0, .ref ba, .ref ka, .int 0, .ref fa, .ref qa, .ref ea, .ref za, .ref ya, .int 0])), (ra, .inl (cI, 7, .inl (fun _ => 0)))]) [0, 2] rfl
        have hDc := hD.sub (ws' := [(g0, .inr (5, [.ref ra, .ref wa, .ref ta, .int 0, .ref ma, .int 0, .ref pa, .int 0, .int 0, .int 0, .ref ba, .ref ka, .int 0, .ref fa, .ref qa, .ref ea, .ref za, .ref ya, .int 0])), (ra, .inl (cI, 7, .inl (fun _ => 0)))]) [0, 2] (by decide) rfl
        have hFc := va_free (wc := [(g0, .inr (5, [.ref ra, .ref wa, .ref ta, .int 0, .ref ma, .int 0, .ref pa, .int 0, .int 0, .int 0, .ref ba, .ref ka, .int 0, .ref fa, .ref qa, .ref ea, .ref za, .ref ya, .int 0])), (ra, .inl (cI, 7, .inl (fun _ => 0)))]) hD hS hA [0, 2] rfl
        refine va_calli (va_runV (As := [.int (-6)]) (rest := []) ⟨hx, hb, hml, hown, hts⟩ (c_X5_no l D cI cL cZ cC _ g0 ra wa ta ma pa ba ka fa qa ea za ya (fun _ => 0) (-6) (by first | assumption | decide +kernel) (by first | assumption | decide +kernel)) (cwV 1 hts gX5_set_X5_no rfl rfl rfl (by decide +kernel) ⟨Nat.le_of_ble_eq_true rfl, Nat.le_of_ble_eq_true rfl⟩) ⟨wPc_bl, va_recv hK hPc (ci := 5) (q0 := 0) rfl rfl, wPc_use hPc hK hDc⟩ rfl rfl hl.1 rfl (lv_room (Nat.le_of_ble_eq_true rfl)) dX5_set_46 ⟨Nat.le_of_ble_eq_true rfl, Nat.le_of_ble_eq_true rfl⟩) hS (fun q _ h => hFc q h) hFc (fun r_28 u_28 t H1 locs ht hvm hw hB hz1 hk1 hS => ?_)
        obtain ⟨hP1, hD1⟩ := hB
        rw [ht] at hP1
        obtain ⟨hP, hD⟩ := va_join (wr := [(wa, .inl (cI, 70, .inl (upd (upd (upd (upd (upd (fun _ => 0) 0 1) 1 400) 2 80) 4 2) 5 30))), (qa, .inl (cI, 4, .inl (upd (upd (upd (upd (fun _ => 0) 0 1) 1 2) 2 4) 3 5))), (ea, .inl (cI, 4, .inl (upd (upd (upd (upd (fun _ => 0) 0 0) 1 20) 2 0) 3 1))), (za, .inl (cI, 4, .inl (upd (upd (upd (upd (fun _ => 0) 0 999) 1 200) 2 9) 3 60)))]) (w1 := [(g0, .inr (5, [.ref ra, .ref wa, .ref ta, .int 0, .ref ma, .int 0, .ref pa, .int 0, .int 0, .int 0, .ref ba, .ref ka, .int 0, .ref fa, .ref qa, .ref ea, .ref za, .ref ya, .int 0])), (ra, .inl (cI, 7, .inl (xRf (fun _ => 0) (-6))))]) hP hD [0, 2] [1, 3, 4, 5] rfl rfl (by decide) (by decide) hk1 hFc hP1 hD1
        generalize H1 = H at hP hS ⊢
        have hP : va_P D vwCl [(wa, .inl (cI, 70, .inl (upd (upd (upd (upd (upd (fun _ => 0) 0 1) 1 400) 2 80) 4 2) 5 30))), (qa, .inl (cI, 4, .inl (upd (upd (upd (upd (fun _ => 0) 0 1) 1 2) 2 4) 3 5))), (ea, .inl (cI, 4, .inl (upd (upd (upd (upd (fun _ => 0) 0 0) 1 20) 2 0) 3 1))), (za, .inl (cI, 4, .inl (upd (upd (upd (upd (fun _ => 0) 0 999) 1 200) 2 9) 3 60))), (g0, .inr (5, [.ref ra, .ref wa, .ref ta, .int 0, .ref ma, .int 0, .ref pa, .int 0, .int 0, .int 0, .ref ba, .ref ka, .int 0, .ref fa, .ref qa, .ref ea, .ref za, .ref ya, .int 0])), (ra, .inl (cI, 7, .inl (xRf (fun _ => 0) (-6))))] H := hP
        have hD : va_D A [(wa, .inl (cI, 70, .inl (upd (upd (upd (upd (upd (fun _ => 0) 0 1) 1 400) 2 80) 4 2) 5 30))), (qa, .inl (cI, 4, .inl (upd (upd (upd (upd (fun _ => 0) 0 1) 1 2) 2 4) 3 5))), (ea, .inl (cI, 4, .inl (upd (upd (upd (upd (fun _ => 0) 0 0) 1 20) 2 0) 3 1))), (za, .inl (cI, 4, .inl (upd (upd (upd (upd (fun _ => 0) 0 999) 1 200) 2 9) 3 60))), (g0, .inr (5, [.ref ra, .ref wa, .ref ta, .int 0, .ref ma, .int 0, .ref pa, .int 0, .int 0, .int 0, .ref ba, .ref ka, .int 0, .ref fa, .ref qa, .ref ea, .ref za, .ref ya, .int 0])), (ra, .inl (cI, 7, .inl (xRf (fun _ => 0) (-6))))] := hD
        obtain rfl : ((-6) : Int32) = r_28 := Eq.symm hw
        have hP9 := hP.sub (ws' := []) [] rfl
        have hD9 := hD.sub (ws' := []) [] (by decide) rfl
        exact W.iret (v := -6) hx hb hr (fun t ht hW => ⟨⟨_, (), rfl, by simp [sSet0, c_24, (Int32.not_lt.mpr c_25), (Int32.not_lt.mpr c_26), (Int32.not_le.mp c_27)], by rw [ht]; exact hP9, hD9⟩, hS.F ht⟩) hS.2.2 dX5_set_49
    · refine lv_aload_n hx hb dX5_set_26 rfl (lv_at hl 0 rfl) ?_
      refine lv_bipush (v := -4) hx hb dX5_set_27 (by decide) ?_
      have hPc := hP.sub (ws' := [(g0, .inr (5, [.ref ra, .ref wa, .ref ta, .int 0, .ref ma, .int 0, .ref pa, .int 0, .int 0, .int 0, .ref ba, .ref ka, .int 0, .ref fa, .ref qa, .ref ea, .ref za, .ref ya, .int 0])), (ra, .inl (cI, 7, .inl (fun _ => 0)))]) [0, 2] rfl
      have hDc := hD.sub (ws' := [(g0, .inr (5, [.ref ra, .ref wa, .ref ta, .int 0, .ref ma, .int 0, .ref pa, .int 0, .int 0, .int 0, .ref ba, .ref ka, .int 0, .ref fa, .ref qa, .ref ea, .ref za, .ref ya, .int 0])), (ra, .inl (cI, 7, .inl (fun _ => 0)))]) [0, 2] (by decide) rfl
      have hFc := va_free (wc := [(g0, .inr (5, [.ref ra, .ref wa, .ref ta, .int 0, .ref ma, .int 0, .ref pa, .int 0, .int 0, .int 0, .ref ba, .ref ka, .int 0, .ref fa, .ref qa, .ref ea, .ref za, .ref ya, .int 0])), (ra, .inl (cI, 7, .inl (fun _ => 0)))]) hD hS hA [0, 2] rfl
      refine va_calli (va_runV (As := [.int (-4)]) (rest := []) ⟨hx, hb, hml, hown, hts⟩ (c_X5_no l D cI cL cZ cC _ g0 ra wa ta ma pa ba ka fa qa ea za ya (fun _ => 0) (-4) (by first | assumption | decide +kernel) (by first | assumption | decide +kernel)) (cwV 1 hts gX5_set_X5_no rfl rfl rfl (by decide +kernel) ⟨Nat.le_of_ble_eq_true rfl, Nat.le_of_ble_eq_true rfl⟩) ⟨wPc_bl, va_recv hK hPc (ci := 5) (q0 := 0) rfl rfl, wPc_use hPc hK hDc⟩ rfl rfl hl.1 rfl (lv_room (Nat.le_of_ble_eq_true rfl)) dX5_set_29 ⟨Nat.le_of_ble_eq_true rfl, Nat.le_of_ble_eq_true rfl⟩) hS (fun q _ h => hFc q h) hFc (fun r_29 u_29 t H1 locs ht hvm hw hB hz1 hk1 hS => ?_)
      obtain ⟨hP1, hD1⟩ := hB
      rw [ht] at hP1
      obtain ⟨hP, hD⟩ := va_join (wr := [(wa, .inl (cI, 70, .inl (upd (upd (upd (upd (upd (fun _ => 0) 0 1) 1 400) 2 80) 4 2) 5 30))), (qa, .inl (cI, 4, .inl (upd (upd (upd (upd (fun _ => 0) 0 1) 1 2) 2 4) 3 5))), (ea, .inl (cI, 4, .inl (upd (upd (upd (upd (fun _ => 0) 0 0) 1 20) 2 0) 3 1))), (za, .inl (cI, 4, .inl (upd (upd (upd (upd (fun _ => 0) 0 999) 1 200) 2 9) 3 60)))]) (w1 := [(g0, .inr (5, [.ref ra, .ref wa, .ref ta, .int 0, .ref ma, .int 0, .ref pa, .int 0, .int 0, .int 0, .ref ba, .ref ka, .int 0, .ref fa, .ref qa, .ref ea, .ref za, .ref ya, .int 0])), (ra, .inl (cI, 7, .inl (xRf (fun _ => 0) (-4))))]) hP hD [0, 2] [1, 3, 4, 5] rfl rfl (by decide) (by decide) hk1 hFc hP1 hD1
      generalize H1 = H at hP hS ⊢
      have hP : va_P D vwCl [(wa, .inl (cI, 70, .inl (upd (upd (upd (upd (upd (fun _ => 0) 0 1) 1 400) 2 80) 4 2) 5 30))), (qa, .inl (cI, 4, .inl (upd (upd (upd (upd (fun _ => 0) 0 1) 1 2) 2 4) 3 5))), (ea, .inl (cI, 4, .inl (upd (upd (upd (upd (fun _ => 0) 0 0) 1 20) 2 0) 3 1))), (za, .inl (cI, 4, .inl (upd (upd (upd (upd (fun _ => 0) 0 999) 1 200) 2 9) 3 60))), (g0, .inr (5, [.ref ra, .ref wa, .ref ta, .int 0, .ref ma, .int 0, .ref pa, .int 0, .int 0, .int 0, .ref ba, .ref ka, .int 0, .ref fa, .ref qa, .ref ea, .ref za, .ref ya, .int 0])), (ra, .inl (cI, 7, .inl (xRf (fun _ => 0) (-4))))] H := hP
      have hD : va_D A [(wa, .inl (cI, 70, .inl (upd (upd (upd (upd (upd (fun _ => 0) 0 1) 1 400) 2 80) 4 2) 5 30))), (qa, .inl (cI, 4, .inl (upd (upd (upd (upd (fun _ => 0) 0 1) 1 2) 2 4) 3 5))), (ea, .inl (cI, 4, .inl (upd (upd (upd (upd (fun _ => 0) 0 0) 1 20) 2 0) 3 1))), (za, .inl (cI, 4, .inl (upd (upd (upd (upd (fun _ => 0) 0 999) 1 200) 2 9) 3 60))), (g0, .inr (5, [.ref ra, .ref wa, .ref ta, .int 0, .ref ma, .int 0, .ref pa, .int 0, .int 0, .int 0, .ref ba, .ref ka, .int 0, .ref fa, .ref qa, .ref ea, .ref za, .ref ya, .int 0])), (ra, .inl (cI, 7, .inl (xRf (fun _ => 0) (-4))))] := hD
      obtain rfl : ((-4) : Int32) = r_29 := Eq.symm hw
      have hP9 := hP.sub (ws' := []) [] rfl
      have hD9 := hD.sub (ws' := []) [] (by decide) rfl
      exact W.iret (v := -4) hx hb hr (fun t ht hW => ⟨⟨_, (), rfl, by simp [sSet0, c_24, (Int32.not_lt.mpr c_25), (Int32.not_le.mp c_26)], by rw [ht]; exact hP9, hD9⟩, hS.F ht⟩) hS.2.2 dX5_set_32

set_option maxHeartbeats 4000000 in
set_option maxRecDepth 100000 in
theorem p1_X5_count (l : Launch) (D : va_G) (cI cL cZ cC : ClassId) (g0 : Nat) (ra : Nat) (wa : Nat) (ta : Nat) (ma : Nat) (pa : Nat) (ba : Nat) (ka : Nat) (fa : Nat) (qa : Nat) (ea : Nat) (za : Nat) (ya : Nat) (a1 : Int32)  : Met l yX5_count wsX5_count ({ frames := 0, cells := 0, slots := 0, locals := 0 } : Room) (xPc D [.ref g0, .int a1] [(g0, .inr (5, [.ref ra, .ref wa, .ref ta, .int 0, .ref ma, .int 0, .ref pa, .int 0, .int 0, .int 0, .ref ba, .ref ka, .int 0, .ref fa, .ref qa, .ref ea, .ref za, .ref ya, .int 0])), (wa, .inl (cI, 70, .inl (upd (upd (upd (upd (upd (fun _ => 0) 0 1) 1 400) 2 80) 4 2) 5 30))), (ra, .inl (cI, 7, .inl (fun _ => 0)))] (xTy cI cL cZ cC)) (vp_Si (fun r : Int32 => r = sCount0 a1)) 0 0 (fun _ => False) := by
  refine Met.ofW (cc := cX5_count) (maxL := 4) (ret := (some .int)) (by decide) rfl ?_
  intro p e s m args below meth c s₁ B hml hv
  obtain ⟨rfl, hP, hK⟩ := hv
  have hx := B.exec
  have hb := B.bytes
  have hr := B.returns
  have hts := atoms_spec (ws := wsX5_count) B.pre
  have hown : s.vm.findClass RX5 = some m.cls := findClass_of_methodNamed B.named
  have hlocks := B.notSynchronized
  have hwX5 : ∀ w ∈ u_ws RX5 TX5 19, w ∈ wsX5_count := fun _ h => List.mem_cons_of_mem _ (List.mem_append_right _ h)
  have hl := lv_entry ([.ref g0, .int a1]) (n := 4) (Nat.le_of_ble_eq_true rfl)
  rw [lg_entry_eq]
  generalize (lg_sl ([.ref g0, .int a1]) ++ List.replicate (4 - (lg_sl ([.ref g0, .int a1])).length) Slot.unset).toArray = ls at hl ⊢
  have hl : lv_has ls 4 [(0, .ref g0), (1, .int a1)] := hl
  by_cases h_1 : a1 < 0
  · refine lv_iload_n hx hb dX5_count_0 rfl (lv_at hl 1 rfl) ?_
    refine lv_tableOut (tgt := 132) hx hb dX5_count_1 (Or.inl ((xi_lt _ _).mp h_1)) (by decide) ?_
    refine lv_iload_n hx hb dX5_count_132 rfl (lv_at hl 1 rfl) ?_
    refine lv_bipush (v := 11) hx hb dX5_count_133 (by decide) ?_
    refine lv_icmp_lt (tgt := 156) hx hb dX5_count_135 (by decide) (fun c_1 => ?_) (fun c_1 => absurd (xlt h_1 (by decide)) c_1)
    refine lv_bipush (v := -9) hx hb dX5_count_156 (by decide) ?_
    exact W.iret (v := -9) hx hb hr (fun t ht hW => ⟨_, rfl, by simp [sCount0, h_1, c_1], ht⟩) (fun _ h => absurd h List.not_mem_nil) dX5_count_158
  by_cases h_2 : 16 < a1
  · refine lv_iload_n hx hb dX5_count_0 rfl (lv_at hl 1 rfl) ?_
    refine lv_tableOut (tgt := 132) hx hb dX5_count_1 (Or.inr ((xi_lt _ _).mp (xlt2 (a := 7) (b := 16) (by decide) h_2))) (by decide) ?_
    refine lv_iload_n hx hb dX5_count_132 rfl (lv_at hl 1 rfl) ?_
    refine lv_bipush (v := 11) hx hb dX5_count_133 (by decide) ?_
    refine lv_icmp_lt (tgt := 156) hx hb dX5_count_135 (by decide) (fun c_2 => (xno c_2 (by decide) h_2).elim) (fun c_2 => ?_)
    refine lv_iload_n hx hb dX5_count_138 rfl (lv_at hl 1 rfl) ?_
    refine lv_bipush (v := 16) hx hb dX5_count_139 (by decide) ?_
    refine lv_icmp_gt (tgt := 156) hx hb dX5_count_141 (by decide) (fun c_3 => ?_) (fun c_3 => absurd h_2 c_3)
    refine lv_bipush (v := -9) hx hb dX5_count_156 (by decide) ?_
    exact W.iret (v := -9) hx hb hr (fun t ht hW => ⟨_, rfl, by simp [sCount0, h_1, h_2, c_2, c_3], ht⟩) (fun _ h => absurd h List.not_mem_nil) dX5_count_158
  rcases xz17 h_1 h_2 with rfl | rfl | rfl | rfl | rfl | rfl | rfl | rfl | rfl | rfl | rfl | rfl | rfl | rfl | rfl | rfl | rfl
  · refine lv_iload_n hx hb dX5_count_0 rfl (lv_at hl 1 rfl) ?_
    refine lv_tableIn (off := 47) (tgt := 48) hx hb dX5_count_1 (by decide +kernel) (by decide +kernel) (by decide +kernel) (by decide) ?_
    refine lv_aload_n hx hb dX5_count_48 rfl (lv_at hl 0 rfl) ?_
    refine va_get (D := D) (ci := 5) (v := .ref wa) (C := RX5) (T := TX5) (N := 19) hx hb hts hwX5 hown hK hP 0 rfl rfl 1 (by decide) (hts (.fieldLink RX5 19 "WaitOrWalkOnModel" "now" "[I") (by decide +kernel)) (fun _ h9 => h9) rfl dX5_count_49 ?_
    refine lv_iconst (v := 0) hx hb dX5_count_52 (by decide) ?_
    refine va_iald (D := D) hx hb hK hP 1 0 rfl rfl (by unfold vp_in; decide +kernel) dX5_count_53 ?_
    refine xv_int (y := 1) rfl ?_
    exact W.iret (v := 1) hx hb hr (fun t ht hW => ⟨_, rfl, by decide +kernel, ht⟩) (fun _ h => absurd h List.not_mem_nil) dX5_count_54
  · refine lv_iload_n hx hb dX5_count_0 rfl (lv_at hl 1 rfl) ?_
    refine lv_tableIn (off := 54) (tgt := 55) hx hb dX5_count_1 (by decide +kernel) (by decide +kernel) (by decide +kernel) (by decide) ?_
    refine lv_aload_n hx hb dX5_count_55 rfl (lv_at hl 0 rfl) ?_
    refine va_get (D := D) (ci := 5) (v := .ref wa) (C := RX5) (T := TX5) (N := 19) hx hb hts hwX5 hown hK hP 0 rfl rfl 1 (by decide) (hts (.fieldLink RX5 19 "WaitOrWalkOnModel" "now" "[I") (by decide +kernel)) (fun _ h9 => h9) rfl dX5_count_56 ?_
    refine lv_iconst (v := 3) hx hb dX5_count_59 (by decide) ?_
    refine va_iald (D := D) hx hb hK hP 1 0 rfl rfl (by unfold vp_in; decide +kernel) dX5_count_60 ?_
    refine xv_int (y := 0) rfl ?_
    exact W.iret (v := 0) hx hb hr (fun t ht hW => ⟨_, rfl, by decide +kernel, ht⟩) (fun _ h => absurd h List.not_mem_nil) dX5_count_61
  · refine lv_iload_n hx hb dX5_count_0 rfl (lv_at hl 1 rfl) ?_
    refine lv_tableIn (off := 61) (tgt := 62) hx hb dX5_count_1 (by decide +kernel) (by decide +kernel) (by decide +kernel) (by decide) ?_
    refine lv_aload_n hx hb dX5_count_62 rfl (lv_at hl 0 rfl) ?_
    refine va_get (D := D) (ci := 5) (v := .ref wa) (C := RX5) (T := TX5) (N := 19) hx hb hts hwX5 hown hK hP 0 rfl rfl 1 (by decide) (hts (.fieldLink RX5 19 "WaitOrWalkOnModel" "now" "[I") (by decide +kernel)) (fun _ h9 => h9) rfl dX5_count_63 ?_
    refine lv_iconst (v := 1) hx hb dX5_count_66 (by decide) ?_
    refine va_iald (D := D) hx hb hK hP 1 0 rfl rfl (by unfold vp_in; decide +kernel) dX5_count_67 ?_
    refine xv_int (y := 400) rfl ?_
    refine lv_istore_n (lv' := [(2, .int 400), (0, .ref g0), (1, .int 2)]) hx hb dX5_count_68 rfl hl (by decide) rfl (fun ls hl => ?_)
    refine lv_iconst (v := 1) hx hb dX5_count_69 (by decide) ?_
    refine lv_istore_n (lv' := [(3, .int 1), (2, .int 400), (0, .ref g0), (1, .int 2)]) hx hb dX5_count_70 rfl hl (by decide) rfl (fun ls hl => ?_)
    refine lv_iload_n hx hb dX5_count_71 rfl (lv_at hl 0 rfl) ?_
    refine lv_aload_n hx hb dX5_count_72 rfl (lv_at hl 2 rfl) ?_
    refine va_get (D := D) (ci := 5) (v := .ref wa) (C := RX5) (T := TX5) (N := 19) hx hb hts hwX5 hown hK hP 0 rfl rfl 1 (by decide) (hts (.fieldLink RX5 19 "WaitOrWalkOnModel" "now" "[I") (by decide +kernel)) (fun _ h9 => h9) rfl dX5_count_73 ?_
    refine lv_iconst (v := 0) hx hb dX5_count_76 (by decide) ?_
    refine va_iald (D := D) hx hb hK hP 1 0 rfl rfl (by unfold vp_in; decide +kernel) dX5_count_77 ?_
    refine xv_int (y := 1) rfl ?_
    refine lv_icmp_ge (tgt := 99) hx hb dX5_count_78 (by decide) (fun c_4 => ?_) (fun c_4 => absurd c_4 (by decide +kernel))
    refine lv_iload_n hx hb dX5_count_99 rfl (lv_at hl 1 rfl) ?_
    exact W.iret (v := 400) hx hb hr (fun t ht hW => ⟨_, rfl, by decide +kernel, ht⟩) (fun _ h => absurd h List.not_mem_nil) dX5_count_100
  · refine lv_iload_n hx hb dX5_count_0 rfl (lv_at hl 1 rfl) ?_
    refine lv_tableIn (off := 100) (tgt := 101) hx hb dX5_count_1 (by decide +kernel) (by decide +kernel) (by decide +kernel) (by decide) ?_
    refine lv_aload_n hx hb dX5_count_101 rfl (lv_at hl 0 rfl) ?_
    refine va_get (D := D) (ci := 5) (v := .ref wa) (C := RX5) (T := TX5) (N := 19) hx hb hts hwX5 hown hK hP 0 rfl rfl 1 (by decide) (hts (.fieldLink RX5 19 "WaitOrWalkOnModel" "now" "[I") (by decide +kernel)) (fun _ h9 => h9) rfl dX5_count_102 ?_
    refine lv_iconst (v := 2) hx hb dX5_count_105 (by decide) ?_
    refine va_iald (D := D) hx hb hK hP 1 0 rfl rfl (by unfold vp_in; decide +kernel) dX5_count_106 ?_
    refine xv_int (y := 80) rfl ?_
    exact W.iret (v := 80) hx hb hr (fun t ht hW => ⟨_, rfl, by decide +kernel, ht⟩) (fun _ h => absurd h List.not_mem_nil) dX5_count_107
  · refine lv_iload_n hx hb dX5_count_0 rfl (lv_at hl 1 rfl) ?_
    refine lv_tableIn (off := 107) (tgt := 108) hx hb dX5_count_1 (by decide +kernel) (by decide +kernel) (by decide +kernel) (by decide) ?_
    refine lv_aload_n hx hb dX5_count_108 rfl (lv_at hl 0 rfl) ?_
    refine va_get (D := D) (ci := 5) (v := .ref wa) (C := RX5) (T := TX5) (N := 19) hx hb hts hwX5 hown hK hP 0 rfl rfl 1 (by decide) (hts (.fieldLink RX5 19 "WaitOrWalkOnModel" "now" "[I") (by decide +kernel)) (fun _ h9 => h9) rfl dX5_count_109 ?_
    refine lv_iconst (v := 4) hx hb dX5_count_112 (by decide) ?_
    refine va_iald (D := D) hx hb hK hP 1 0 rfl rfl (by unfold vp_in; decide +kernel) dX5_count_113 ?_
    refine xv_int (y := 2) rfl ?_
    exact W.iret (v := 2) hx hb hr (fun t ht hW => ⟨_, rfl, by decide +kernel, ht⟩) (fun _ h => absurd h List.not_mem_nil) dX5_count_114
  · refine lv_iload_n hx hb dX5_count_0 rfl (lv_at hl 1 rfl) ?_
    refine lv_tableIn (off := 114) (tgt := 115) hx hb dX5_count_1 (by decide +kernel) (by decide +kernel) (by decide +kernel) (by decide) ?_
    refine lv_aload_n hx hb dX5_count_115 rfl (lv_at hl 0 rfl) ?_
    refine va_get (D := D) (ci := 5) (v := .ref wa) (C := RX5) (T := TX5) (N := 19) hx hb hts hwX5 hown hK hP 0 rfl rfl 1 (by decide) (hts (.fieldLink RX5 19 "WaitOrWalkOnModel" "now" "[I") (by decide +kernel)) (fun _ h9 => h9) rfl dX5_count_116 ?_
    refine lv_iconst (v := 5) hx hb dX5_count_119 (by decide) ?_
    refine va_iald (D := D) hx hb hK hP 1 0 rfl rfl (by unfold vp_in; decide +kernel) dX5_count_120 ?_
    refine xv_int (y := 30) rfl ?_
    exact W.iret (v := 30) hx hb hr (fun t ht hW => ⟨_, rfl, by decide +kernel, ht⟩) (fun _ h => absurd h List.not_mem_nil) dX5_count_121
  · refine lv_iload_n hx hb dX5_count_0 rfl (lv_at hl 1 rfl) ?_
    refine lv_tableIn (off := 121) (tgt := 122) hx hb dX5_count_1 (by decide +kernel) (by decide +kernel) (by decide +kernel) (by decide) ?_
    refine lv_aload_n hx hb dX5_count_122 rfl (lv_at hl 0 rfl) ?_
    refine va_get (D := D) (ci := 5) (v := .int 0) (C := RX5) (T := TX5) (N := 19) hx hb hts hwX5 hown hK hP 0 rfl rfl 5 (by decide) (hts (.fieldLink RX5 188 "WaitOrWalkOnModel" "marked" "I") (by decide +kernel)) (fun _ h9 => h9) rfl dX5_count_123 ?_
    exact W.iret (v := 0) hx hb hr (fun t ht hW => ⟨_, rfl, by decide +kernel, ht⟩) (fun _ h => absurd h List.not_mem_nil) dX5_count_126
  · refine lv_iload_n hx hb dX5_count_0 rfl (lv_at hl 1 rfl) ?_
    refine lv_tableIn (off := 126) (tgt := 127) hx hb dX5_count_1 (by decide +kernel) (by decide +kernel) (by decide +kernel) (by decide) ?_
    refine lv_aload_n hx hb dX5_count_127 rfl (lv_at hl 0 rfl) ?_
    refine va_get (D := D) (ci := 5) (v := .int 0) (C := RX5) (T := TX5) (N := 19) hx hb hts hwX5 hown hK hP 0 rfl rfl 7 (by decide) (hts (.fieldLink RX5 57 "WaitOrWalkOnModel" "taped" "I") (by decide +kernel)) (fun _ h9 => h9) rfl dX5_count_128 ?_
    exact W.iret (v := 0) hx hb hr (fun t ht hW => ⟨_, rfl, by decide +kernel, ht⟩) (fun _ h => absurd h List.not_mem_nil) dX5_count_131
  · refine lv_iload_n hx hb dX5_count_0 rfl (lv_at hl 1 rfl) ?_
    refine lv_tableOut (tgt := 132) hx hb dX5_count_1 (by decide +kernel) (by decide) ?_
    refine lv_iload_n hx hb dX5_count_132 rfl (lv_at hl 1 rfl) ?_
    refine lv_bipush (v := 11) hx hb dX5_count_133 (by decide) ?_
    refine lv_icmp_lt (tgt := 156) hx hb dX5_count_135 (by decide) (fun c_5 => ?_) (fun c_5 => absurd c_5 (by decide +kernel))
    refine lv_bipush (v := -9) hx hb dX5_count_156 (by decide) ?_
    exact W.iret (v := -9) hx hb hr (fun t ht hW => ⟨_, rfl, by decide +kernel, ht⟩) (fun _ h => absurd h List.not_mem_nil) dX5_count_158
  · refine lv_iload_n hx hb dX5_count_0 rfl (lv_at hl 1 rfl) ?_
    refine lv_tableOut (tgt := 132) hx hb dX5_count_1 (by decide +kernel) (by decide) ?_
    refine lv_iload_n hx hb dX5_count_132 rfl (lv_at hl 1 rfl) ?_
    refine lv_bipush (v := 11) hx hb dX5_count_133 (by decide) ?_
    refine lv_icmp_lt (tgt := 156) hx hb dX5_count_135 (by decide) (fun c_6 => ?_) (fun c_6 => absurd c_6 (by decide +kernel))
    refine lv_bipush (v := -9) hx hb dX5_count_156 (by decide) ?_
    exact W.iret (v := -9) hx hb hr (fun t ht hW => ⟨_, rfl, by decide +kernel, ht⟩) (fun _ h => absurd h List.not_mem_nil) dX5_count_158
  · refine lv_iload_n hx hb dX5_count_0 rfl (lv_at hl 1 rfl) ?_
    refine lv_tableOut (tgt := 132) hx hb dX5_count_1 (by decide +kernel) (by decide) ?_
    refine lv_iload_n hx hb dX5_count_132 rfl (lv_at hl 1 rfl) ?_
    refine lv_bipush (v := 11) hx hb dX5_count_133 (by decide) ?_
    refine lv_icmp_lt (tgt := 156) hx hb dX5_count_135 (by decide) (fun c_7 => ?_) (fun c_7 => absurd c_7 (by decide +kernel))
    refine lv_bipush (v := -9) hx hb dX5_count_156 (by decide) ?_
    exact W.iret (v := -9) hx hb hr (fun t ht hW => ⟨_, rfl, by decide +kernel, ht⟩) (fun _ h => absurd h List.not_mem_nil) dX5_count_158
  · refine lv_iload_n hx hb dX5_count_0 rfl (lv_at hl 1 rfl) ?_
    refine lv_tableOut (tgt := 132) hx hb dX5_count_1 (by decide +kernel) (by decide) ?_
    refine lv_iload_n hx hb dX5_count_132 rfl (lv_at hl 1 rfl) ?_
    refine lv_bipush (v := 11) hx hb dX5_count_133 (by decide) ?_
    refine lv_icmp_lt (tgt := 156) hx hb dX5_count_135 (by decide) (fun c_8 => absurd c_8 (by decide +kernel)) (fun c_8 => ?_)
    refine lv_iload_n hx hb dX5_count_138 rfl (lv_at hl 1 rfl) ?_
    refine lv_bipush (v := 16) hx hb dX5_count_139 (by decide) ?_
    refine lv_icmp_gt (tgt := 156) hx hb dX5_count_141 (by decide) (fun c_9 => absurd c_9 (by decide +kernel)) (fun c_9 => ?_)
    refine lv_aload_n hx hb dX5_count_144 rfl (lv_at hl 0 rfl) ?_
    refine va_get (D := D) (ci := 5) (v := .ref ra) (C := RX5) (T := TX5) (N := 19) hx hb hts hwX5 hown hK hP 0 rfl rfl 0 (by decide) (hts (.fieldLink RX5 1 "WaitOrWalkOnModel" "refused" "[I") (by decide +kernel)) (fun _ h9 => h9) rfl dX5_count_145 ?_
    refine lv_iload_n hx hb dX5_count_148 rfl (lv_at hl 1 rfl) ?_
    refine lv_bipush (v := 10) hx hb dX5_count_149 (by decide) ?_
    refine lv_isub hx hb dX5_count_151 ?_
    refine xv_int (y := 1) (by decide +kernel) ?_
    refine va_iald (D := D) hx hb hK hP 2 0 rfl rfl (by unfold vp_in; decide +kernel) dX5_count_152 ?_
    refine xv_int (y := 0) rfl ?_
    refine lv_goto (tgt := 158) hx hb dX5_count_153 (by decide) ?_
    exact W.iret (v := 0) hx hb hr (fun t ht hW => ⟨_, rfl, by decide +kernel, ht⟩) (fun _ h => absurd h List.not_mem_nil) dX5_count_158
  · refine lv_iload_n hx hb dX5_count_0 rfl (lv_at hl 1 rfl) ?_
    refine lv_tableOut (tgt := 132) hx hb dX5_count_1 (by decide +kernel) (by decide) ?_
    refine lv_iload_n hx hb dX5_count_132 rfl (lv_at hl 1 rfl) ?_
    refine lv_bipush (v := 11) hx hb dX5_count_133 (by decide) ?_
    refine lv_icmp_lt (tgt := 156) hx hb dX5_count_135 (by decide) (fun c_10 => absurd c_10 (by decide +kernel)) (fun c_10 => ?_)
    refine lv_iload_n hx hb dX5_count_138 rfl (lv_at hl 1 rfl) ?_
    refine lv_bipush (v := 16) hx hb dX5_count_139 (by decide) ?_
    refine lv_icmp_gt (tgt := 156) hx hb dX5_count_141 (by decide) (fun c_11 => absurd c_11 (by decide +kernel)) (fun c_11 => ?_)
    refine lv_aload_n hx hb dX5_count_144 rfl (lv_at hl 0 rfl) ?_
    refine va_get (D := D) (ci := 5) (v := .ref ra) (C := RX5) (T := TX5) (N := 19) hx hb hts hwX5 hown hK hP 0 rfl rfl 0 (by decide) (hts (.fieldLink RX5 1 "WaitOrWalkOnModel" "refused" "[I") (by decide +kernel)) (fun _ h9 => h9) rfl dX5_count_145 ?_
    refine lv_iload_n hx hb dX5_count_148 rfl (lv_at hl 1 rfl) ?_
    refine lv_bipush (v := 10) hx hb dX5_count_149 (by decide) ?_
    refine lv_isub hx hb dX5_count_151 ?_
    refine xv_int (y := 2) (by decide +kernel) ?_
    refine va_iald (D := D) hx hb hK hP 2 0 rfl rfl (by unfold vp_in; decide +kernel) dX5_count_152 ?_
    refine xv_int (y := 0) rfl ?_
    refine lv_goto (tgt := 158) hx hb dX5_count_153 (by decide) ?_
    exact W.iret (v := 0) hx hb hr (fun t ht hW => ⟨_, rfl, by decide +kernel, ht⟩) (fun _ h => absurd h List.not_mem_nil) dX5_count_158
  · refine lv_iload_n hx hb dX5_count_0 rfl (lv_at hl 1 rfl) ?_
    refine lv_tableOut (tgt := 132) hx hb dX5_count_1 (by decide +kernel) (by decide) ?_
    refine lv_iload_n hx hb dX5_count_132 rfl (lv_at hl 1 rfl) ?_
    refine lv_bipush (v := 11) hx hb dX5_count_133 (by decide) ?_
    refine lv_icmp_lt (tgt := 156) hx hb dX5_count_135 (by decide) (fun c_12 => absurd c_12 (by decide +kernel)) (fun c_12 => ?_)
    refine lv_iload_n hx hb dX5_count_138 rfl (lv_at hl 1 rfl) ?_
    refine lv_bipush (v := 16) hx hb dX5_count_139 (by decide) ?_
    refine lv_icmp_gt (tgt := 156) hx hb dX5_count_141 (by decide) (fun c_13 => absurd c_13 (by decide +kernel)) (fun c_13 => ?_)
    refine lv_aload_n hx hb dX5_count_144 rfl (lv_at hl 0 rfl) ?_
    refine va_get (D := D) (ci := 5) (v := .ref ra) (C := RX5) (T := TX5) (N := 19) hx hb hts hwX5 hown hK hP 0 rfl rfl 0 (by decide) (hts (.fieldLink RX5 1 "WaitOrWalkOnModel" "refused" "[I") (by decide +kernel)) (fun _ h9 => h9) rfl dX5_count_145 ?_
    refine lv_iload_n hx hb dX5_count_148 rfl (lv_at hl 1 rfl) ?_
    refine lv_bipush (v := 10) hx hb dX5_count_149 (by decide) ?_
    refine lv_isub hx hb dX5_count_151 ?_
    refine xv_int (y := 3) (by decide +kernel) ?_
    refine va_iald (D := D) hx hb hK hP 2 0 rfl rfl (by unfold vp_in; decide +kernel) dX5_count_152 ?_
    refine xv_int (y := 0) rfl ?_
    refine lv_goto (tgt := 158) hx hb dX5_count_153 (by decide) ?_
    exact W.iret (v := 0) hx hb hr (fun t ht hW => ⟨_, rfl, by decide +kernel, ht⟩) (fun _ h => absurd h List.not_mem_nil) dX5_count_158
  · refine lv_iload_n hx hb dX5_count_0 rfl (lv_at hl 1 rfl) ?_
    refine lv_tableOut (tgt := 132) hx hb dX5_count_1 (by decide +kernel) (by decide) ?_
    refine lv_iload_n hx hb dX5_count_132 rfl (lv_at hl 1 rfl) ?_
    refine lv_bipush (v := 11) hx hb dX5_count_133 (by decide) ?_
    refine lv_icmp_lt (tgt := 156) hx hb dX5_count_135 (by decide) (fun c_14 => absurd c_14 (by decide +kernel)) (fun c_14 => ?_)
    refine lv_iload_n hx hb dX5_count_138 rfl (lv_at hl 1 rfl) ?_
    refine lv_bipush (v := 16) hx hb dX5_count_139 (by decide) ?_
    refine lv_icmp_gt (tgt := 156) hx hb dX5_count_141 (by decide) (fun c_15 => absurd c_15 (by decide +kernel)) (fun c_15 => ?_)
    refine lv_aload_n hx hb dX5_count_144 rfl (lv_at hl 0 rfl) ?_
    refine va_get (D := D) (ci := 5) (v := .ref ra) (C := RX5) (T := TX5) (N := 19) hx hb hts hwX5 hown hK hP 0 rfl rfl 0 (by decide) (hts (.fieldLink RX5 1 "WaitOrWalkOnModel" "refused" "[I") (by decide +kernel)) (fun _ h9 => h9) rfl dX5_count_145 ?_
    refine lv_iload_n hx hb dX5_count_148 rfl (lv_at hl 1 rfl) ?_
    refine lv_bipush (v := 10) hx hb dX5_count_149 (by decide) ?_
    refine lv_isub hx hb dX5_count_151 ?_
    refine xv_int (y := 4) (by decide +kernel) ?_
    refine va_iald (D := D) hx hb hK hP 2 0 rfl rfl (by unfold vp_in; decide +kernel) dX5_count_152 ?_
    refine xv_int (y := 0) rfl ?_
    refine lv_goto (tgt := 158) hx hb dX5_count_153 (by decide) ?_
    exact W.iret (v := 0) hx hb hr (fun t ht hW => ⟨_, rfl, by decide +kernel, ht⟩) (fun _ h => absurd h List.not_mem_nil) dX5_count_158
  · refine lv_iload_n hx hb dX5_count_0 rfl (lv_at hl 1 rfl) ?_
    refine lv_tableOut (tgt := 132) hx hb dX5_count_1 (by decide +kernel) (by decide) ?_
    refine lv_iload_n hx hb dX5_count_132 rfl (lv_at hl 1 rfl) ?_
    refine lv_bipush (v := 11) hx hb dX5_count_133 (by decide) ?_
    refine lv_icmp_lt (tgt := 156) hx hb dX5_count_135 (by decide) (fun c_16 => absurd c_16 (by decide +kernel)) (fun c_16 => ?_)
    refine lv_iload_n hx hb dX5_count_138 rfl (lv_at hl 1 rfl) ?_
    refine lv_bipush (v := 16) hx hb dX5_count_139 (by decide) ?_
    refine lv_icmp_gt (tgt := 156) hx hb dX5_count_141 (by decide) (fun c_17 => absurd c_17 (by decide +kernel)) (fun c_17 => ?_)
    refine lv_aload_n hx hb dX5_count_144 rfl (lv_at hl 0 rfl) ?_
    refine va_get (D := D) (ci := 5) (v := .ref ra) (C := RX5) (T := TX5) (N := 19) hx hb hts hwX5 hown hK hP 0 rfl rfl 0 (by decide) (hts (.fieldLink RX5 1 "WaitOrWalkOnModel" "refused" "[I") (by decide +kernel)) (fun _ h9 => h9) rfl dX5_count_145 ?_
    refine lv_iload_n hx hb dX5_count_148 rfl (lv_at hl 1 rfl) ?_
    refine lv_bipush (v := 10) hx hb dX5_count_149 (by decide) ?_
    refine lv_isub hx hb dX5_count_151 ?_
    refine xv_int (y := 5) (by decide +kernel) ?_
    refine va_iald (D := D) hx hb hK hP 2 0 rfl rfl (by unfold vp_in; decide +kernel) dX5_count_152 ?_
    refine xv_int (y := 0) rfl ?_
    refine lv_goto (tgt := 158) hx hb dX5_count_153 (by decide) ?_
    exact W.iret (v := 0) hx hb hr (fun t ht hW => ⟨_, rfl, by decide +kernel, ht⟩) (fun _ h => absurd h List.not_mem_nil) dX5_count_158
  · refine lv_iload_n hx hb dX5_count_0 rfl (lv_at hl 1 rfl) ?_
    refine lv_tableOut (tgt := 132) hx hb dX5_count_1 (by decide +kernel) (by decide) ?_
    refine lv_iload_n hx hb dX5_count_132 rfl (lv_at hl 1 rfl) ?_
    refine lv_bipush (v := 11) hx hb dX5_count_133 (by decide) ?_
    refine lv_icmp_lt (tgt := 156) hx hb dX5_count_135 (by decide) (fun c_18 => absurd c_18 (by decide +kernel)) (fun c_18 => ?_)
    refine lv_iload_n hx hb dX5_count_138 rfl (lv_at hl 1 rfl) ?_
    refine lv_bipush (v := 16) hx hb dX5_count_139 (by decide) ?_
    refine lv_icmp_gt (tgt := 156) hx hb dX5_count_141 (by decide) (fun c_19 => absurd c_19 (by decide +kernel)) (fun c_19 => ?_)
    refine lv_aload_n hx hb dX5_count_144 rfl (lv_at hl 0 rfl) ?_
    refine va_get (D := D) (ci := 5) (v := .ref ra) (C := RX5) (T := TX5) (N := 19) hx hb hts hwX5 hown hK hP 0 rfl rfl 0 (by decide) (hts (.fieldLink RX5 1 "WaitOrWalkOnModel" "refused" "[I") (by decide +kernel)) (fun _ h9 => h9) rfl dX5_count_145 ?_
    refine lv_iload_n hx hb dX5_count_148 rfl (lv_at hl 1 rfl) ?_
    refine lv_bipush (v := 10) hx hb dX5_count_149 (by decide) ?_
    refine lv_isub hx hb dX5_count_151 ?_
    refine xv_int (y := 6) (by decide +kernel) ?_
    refine va_iald (D := D) hx hb hK hP 2 0 rfl rfl (by unfold vp_in; decide +kernel) dX5_count_152 ?_
    refine xv_int (y := 0) rfl ?_
    refine lv_goto (tgt := 158) hx hb dX5_count_153 (by decide) ?_
    exact W.iret (v := 0) hx hb hr (fun t ht hW => ⟨_, rfl, by decide +kernel, ht⟩) (fun _ h => absurd h List.not_mem_nil) dX5_count_158

set_option maxHeartbeats 4000000 in
set_option maxRecDepth 100000 in
theorem p1_X5_image (l : Launch) (D : va_G) (cI cL cZ cC : ClassId) (sz : Nat) (g0 : Nat) (ra : Nat) (wa : Nat) (ta : Nat) (ma : Nat) (pa : Nat) (ba : Nat) (ka : Nat) (fa : Nat) (qa : Nat) (ea : Nat) (za : Nat) (ya : Nat)  : Met l yX5_image wsX5_image ({ frames := 0, cells := 0, slots := 0, locals := 0 } : Room) (wPc D [.ref g0] [(g0, .inr (5, [.ref ra, .ref wa, .ref ta, .int 0, .ref ma, .int 0, .ref pa, .int 0, .int 0, .int 0, .ref ba, .ref ka, .int 0, .ref fa, .ref qa, .ref ea, .ref za, .ref ya, .int 0])), (wa, .inl (cI, 70, .inl (upd (upd (upd (upd (upd (fun _ => 0) 0 1) 1 400) 2 80) 4 2) 5 30))), (ta, .inl (cI, 70, .inl (fun _ => 0)))] (xTy cI cL cZ cC) sz) (va_Qi (fun (r : Int32) (_ : Unit) => r = 1) (fun (_ : Unit) t => va_P D vwCl [] t.heap ∧ va_D (va_A [(g0, .inr (5, [.ref ra, .ref wa, .ref ta, .int 0, .ref ma, .int 0, .ref pa, .int 0, .int 0, .int 0, .ref ba, .ref ka, .int 0, .ref fa, .ref qa, .ref ea, .ref za, .ref ya, .int 0])), (wa, .inl (cI, 70, .inl (upd (upd (upd (upd (upd (fun _ => 0) 0 1) 1 400) 2 80) 4 2) 5 30))), (ta, .inl (cI, 70, .inl (fun _ => 0)))] sz) []) (va_A [(g0, .inr (5, [.ref ra, .ref wa, .ref ta, .int 0, .ref ma, .int 0, .ref pa, .int 0, .int 0, .int 0, .ref ba, .ref ka, .int 0, .ref fa, .ref qa, .ref ea, .ref za, .ref ya, .int 0])), (wa, .inl (cI, 70, .inl (upd (upd (upd (upd (upd (fun _ => 0) 0 1) 1 400) 2 80) 4 2) 5 30))), (ta, .inl (cI, 70, .inl (fun _ => 0)))] sz)) 0 0 (va_A [(g0, .inr (5, [.ref ra, .ref wa, .ref ta, .int 0, .ref ma, .int 0, .ref pa, .int 0, .int 0, .int 0, .ref ba, .ref ka, .int 0, .ref fa, .ref qa, .ref ea, .ref za, .ref ya, .int 0])), (wa, .inl (cI, 70, .inl (upd (upd (upd (upd (upd (fun _ => 0) 0 1) 1 400) 2 80) 4 2) 5 30))), (ta, .inl (cI, 70, .inl (fun _ => 0)))] sz) := by
  refine Met.ofW (cc := cX5_image) (maxL := 2) (ret := (some .int)) (by decide) rfl ?_
  intro p e s m args below meth c s₁ B hml hv
  obtain ⟨rfl, hsz, hP, hK, hD0⟩ := hv
  have hx := B.exec
  have hb := B.bytes
  have hr := B.returns
  have hts := atoms_spec (ws := wsX5_image) B.pre
  have hown : s.vm.findClass RX5 = some m.cls := findClass_of_methodNamed B.named
  have hlocks := B.notSynchronized
  have hwX5 : ∀ w ∈ u_ws RX5 TX5 19, w ∈ wsX5_image := fun _ h => List.mem_cons_of_mem _ (List.mem_append_right _ h)
  subst hsz
  have hD := hD0.self (sz := s.heap.size)
  generalize hAe : va_A [(g0, .inr (5, [.ref ra, .ref wa, .ref ta, .int 0, .ref ma, .int 0, .ref pa, .int 0, .int 0, .int 0, .ref ba, .ref ka, .int 0, .ref fa, .ref qa, .ref ea, .ref za, .ref ya, .int 0])), (wa, .inl (cI, 70, .inl (upd (upd (upd (upd (upd (fun _ => 0) 0 1) 1 400) 2 80) 4 2) 5 30))), (ta, .inl (cI, 70, .inl (fun _ => 0)))] s.heap.size = A at hD ⊢
  have hA : ∀ q : Nat, s.heap.size ≤ q → A q := fun q h => by rw [← hAe]; exact Or.inr h
  have hS : va_S A s.heap s.heap [] := va_S.rf
  have hP : va_P D vwCl [(g0, .inr (5, [.ref ra, .ref wa, .ref ta, .int 0, .ref ma, .int 0, .ref pa, .int 0, .int 0, .int 0, .ref ba, .ref ka, .int 0, .ref fa, .ref qa, .ref ea, .ref za, .ref ya, .int 0])), (wa, .inl (cI, 70, .inl (upd (upd (upd (upd (upd (fun _ => 0) 0 1) 1 400) 2 80) 4 2) 5 30))), (ta, .inl (cI, 70, .inl (fun _ => 0)))] s.heap := hP
  have hl := lv_entry ([.ref g0]) (n := 2) (Nat.le_of_ble_eq_true rfl)
  rw [lg_entry_eq]
  generalize (lg_sl ([.ref g0]) ++ List.replicate (2 - (lg_sl ([.ref g0])).length) Slot.unset).toArray = ls at hl ⊢
  have hl : lv_has ls 2 [(0, .ref g0)] := hl
  refine lv_aload_n hx hb dX5_image_0 rfl (lv_at hl 0 rfl) ?_
  refine lv_iconst (v := 1) hx hb dX5_image_1 (by decide) ?_
  refine va_put (D := D) (ci := 5) (v := .int 1) (ty := .boolean) (C := RX5) (T := TX5) (N := 19) hx hb hts hwX5 tyX5 tyX5_ok nmX5 hown hK hP hD hS 0 rfl rfl 3 (by decide) (hts (.fieldLink RX5 53 "WaitOrWalkOnModel" "kept" "Z") (by decide +kernel)) (fun _ h9 => h9) rfl (by decide +kernel) (by decide +kernel) rfl (Nat.le_of_ble_eq_true rfl) dX5_image_2 (fun H locs hP hD hS => ?_)
  have hP : va_P D vwCl [(g0, .inr (5, [.ref ra, .ref wa, .ref ta, .int 1, .ref ma, .int 0, .ref pa, .int 0, .int 0, .int 0, .ref ba, .ref ka, .int 0, .ref fa, .ref qa, .ref ea, .ref za, .ref ya, .int 0])), (wa, .inl (cI, 70, .inl (upd (upd (upd (upd (upd (fun _ => 0) 0 1) 1 400) 2 80) 4 2) 5 30))), (ta, .inl (cI, 70, .inl (fun _ => 0)))] H := hP
  have hD : va_D A [(g0, .inr (5, [.ref ra, .ref wa, .ref ta, .int 1, .ref ma, .int 0, .ref pa, .int 0, .int 0, .int 0, .ref ba, .ref ka, .int 0, .ref fa, .ref qa, .ref ea, .ref za, .ref ya, .int 0])), (wa, .inl (cI, 70, .inl (upd (upd (upd (upd (upd (fun _ => 0) 0 1) 1 400) 2 80) 4 2) 5 30))), (ta, .inl (cI, 70, .inl (fun _ => 0)))] := hD
  refine lv_iconst (v := 0) hx hb dX5_image_5 (by decide) ?_
  refine lv_istore_n (lv' := [(1, .int 0), (0, .ref g0)]) hx hb dX5_image_6 rfl hl (by decide) rfl (fun ls hl => ?_)
  refine xl_loopH (σ := Nat × (Nat → Int32)) (fun n q H locs ls => lv_has ls 2 [(1, .int (nI q.1)), (0, .ref g0)] ∧ va_P D vwCl [(g0, .inr (5, [.ref ra, .ref wa, .ref ta, .int 1, .ref ma, .int 0, .ref pa, .int 0, .int 0, .int 0, .ref ba, .ref ka, .int 0, .ref fa, .ref qa, .ref ea, .ref za, .ref ya, .int 0])), (wa, .inl (cI, 70, .inl (upd (upd (upd (upd (upd (fun _ => 0) 0 1) 1 400) 2 80) 4 2) 5 30))), (ta, .inl (cI, 70, .inl q.2))] H ∧ va_D A [(g0, .inr (5, [.ref ra, .ref wa, .ref ta, .int 1, .ref ma, .int 0, .ref pa, .int 0, .int 0, .int 0, .ref ba, .ref ka, .int 0, .ref fa, .ref qa, .ref ea, .ref za, .ref ya, .int 0])), (wa, .inl (cI, 70, .inl (upd (upd (upd (upd (upd (fun _ => 0) 0 1) 1 400) 2 80) 4 2) 5 30))), (ta, .inl (cI, 70, .inl q.2))] ∧ va_S A s.heap H locs ∧ (70 - q.1 < n) ∧ (q.1 ≤ 70)) (71) (0, fun _ => 0) ⟨lv_sub hl [0, 1] rfl, hP.sub [0, 1, 2] rfl, hD.sub [0, 1, 2] (by decide) rfl, hS, ⟨by decide, by decide⟩⟩ (fun q H lc ls h => absurd h.2.2.2.2.1 (Nat.not_lt_zero _)) ?_
  intro n_7 q_7 H locs ls ih_7 hI_7
  obtain ⟨hl, hP, hD, hS, hI_7⟩ := hI_7
  obtain ⟨k, f⟩ := q_7
  obtain ⟨h1, h2⟩ := hI_7
  dsimp only at hl hP hD h1 h2
  refine lv_iload_n hx hb dX5_image_7 rfl (lv_at hl 0 rfl) ?_
  refine lv_bipush (v := 70) hx hb dX5_image_8 (by decide) ?_
  refine lv_icmp_ge (tgt := 31) hx hb dX5_image_10 (by decide) (fun c_1 => ?_) (fun c_1 => ?_)
  · refine lv_aload_n hx hb dX5_image_31 rfl (lv_at hl 1 rfl) ?_
    refine va_get (D := D) (ci := 5) (v := .ref wa) (C := RX5) (T := TX5) (N := 19) hx hb hts hwX5 hown hK hP 0 rfl rfl 1 (by decide) (hts (.fieldLink RX5 19 "WaitOrWalkOnModel" "now" "[I") (by decide +kernel)) (fun _ h9 => h9) rfl dX5_image_32 ?_
    refine lv_iconst (v := 0) hx hb dX5_image_35 (by decide) ?_
    refine va_iald (D := D) hx hb hK hP 1 0 rfl rfl (by unfold vp_in; decide +kernel) dX5_image_36 ?_
    refine xv_int (y := 1) rfl ?_
    have hP9 := hP.sub (ws' := []) [] rfl
    have hD9 := hD.sub (ws' := []) [] (by decide) rfl
    exact W.iret (v := 1) hx hb hr (fun t ht hW => ⟨⟨_, (), rfl, rfl, by rw [ht]; exact hP9, hD9⟩, hS.F ht⟩) hS.2.2 dX5_image_37
  · refine lv_aload_n hx hb dX5_image_13 rfl (lv_at hl 1 rfl) ?_
    refine va_get (D := D) (ci := 5) (v := .ref ta) (C := RX5) (T := TX5) (N := 19) hx hb hts hwX5 hown hK hP 0 rfl rfl 2 (by decide) (hts (.fieldLink RX5 22 "WaitOrWalkOnModel" "then" "[I") (by decide +kernel)) (fun _ h9 => h9) rfl dX5_image_14 ?_
    refine lv_iload_n hx hb dX5_image_17 rfl (lv_at hl 0 rfl) ?_
    refine lv_aload_n hx hb dX5_image_18 rfl (lv_at hl 1 rfl) ?_
    refine va_get (D := D) (ci := 5) (v := .ref wa) (C := RX5) (T := TX5) (N := 19) hx hb hts hwX5 hown hK hP 0 rfl rfl 1 (by decide) (hts (.fieldLink RX5 19 "WaitOrWalkOnModel" "now" "[I") (by decide +kernel)) (fun _ h9 => h9) rfl dX5_image_19 ?_
    refine lv_iload_n hx hb dX5_image_22 rfl (lv_at hl 0 rfl) ?_
    refine va_iald (D := D) hx hb hK hP 1 0 rfl rfl (vp_in_nI (by have q := (nI_ltI (a := k) (b := 70) (by omega) (by decide)).mp (Int32.not_le.mp c_1); omega) (by decide)) dX5_image_23 ?_
    refine va_iast (D := D) hx hb hK hP hD hS 2 0 rfl rfl (vp_in_nI (by have q := (nI_ltI (a := k) (b := 70) (by omega) (by decide)).mp (Int32.not_le.mp c_1); omega) (by decide)) dX5_image_24 (fun H locs hP hD hS => ?_)
    have hP : va_P D vwCl [(g0, .inr (5, [.ref ra, .ref wa, .ref ta, .int 1, .ref ma, .int 0, .ref pa, .int 0, .int 0, .int 0, .ref ba, .ref ka, .int 0, .ref fa, .ref qa, .ref ea, .ref za, .ref ya, .int 0])), (wa, .inl (cI, 70, .inl (upd (upd (upd (upd (upd (fun _ => 0) 0 1) 1 400) 2 80) 4 2) 5 30))), (ta, .inl (cI, 70, .inl (upd f ((nI k).toNatClampNeg) ((upd (upd (upd (upd (upd (fun _ => 0) 0 1) 1 400) 2 80) 4 2) 5 30) (nI k).toNatClampNeg))))] H := hP
    have hD : va_D A [(g0, .inr (5, [.ref ra, .ref wa, .ref ta, .int 1, .ref ma, .int 0, .ref pa, .int 0, .int 0, .int 0, .ref ba, .ref ka, .int 0, .ref fa, .ref qa, .ref ea, .ref za, .ref ya, .int 0])), (wa, .inl (cI, 70, .inl (upd (upd (upd (upd (upd (fun _ => 0) 0 1) 1 400) 2 80) 4 2) 5 30))), (ta, .inl (cI, 70, .inl (upd f ((nI k).toNatClampNeg) ((upd (upd (upd (upd (upd (fun _ => 0) 0 1) 1 400) 2 80) 4 2) 5 30) (nI k).toNatClampNeg))))] := hD
    refine lv_iinc (v := nI (k + 1)) (lv' := [(1, .int (nI (k + 1))), (0, .ref g0)]) hx hb dX5_image_25 hl (k := 0) rfl (nI_1 k) (by decide) rfl (fun ls hl => ?_)
    refine lv_goto (tgt := 7) hx hb dX5_image_28 (by decide) ?_
    exact ih_7 (k + 1, upd f ((nI k).toNatClampNeg) ((upd (upd (upd (upd (upd (fun _ => 0) 0 1) 1 400) 2 80) 4 2) 5 30) (nI k).toNatClampNeg)) _ _ _ ⟨lv_sub hl [0, 1] rfl, hP.sub [0, 1, 2] rfl, hD.sub [0, 1, 2] (by decide) rfl, hS, (by have q := (nI_ltI (a := k) (b := 70) (by omega) (by decide)).mp (Int32.not_le.mp c_1); exact ⟨by omega, by omega⟩)⟩
