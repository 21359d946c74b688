set_option maxHeartbeats 4000000 in
set_option maxRecDepth 100000 in
theorem p1_X4_stop (l : Launch) (D : va_G) (cI cL cZ cC : ClassId) (sz : Nat) (h0 : Nat) (rd : Nat) (dr : Nat) (kp : Nat) (pl : Nat) (tx : Nat) (nu : Nat) (rf_a : Nat) (r0 : Nat) (r1 : Nat) (a1 : Int32) (a2 : Int32)  : Met l yX4_stop wsX4_stop ({ frames := 3, cells := 0, slots := 0, locals := 66 } : Room) (wPc D [.ref h0, .int a1, .int a2] [(h0, .inr (4, [.ref rd, .ref dr, .ref kp, .ref pl, .ref tx, .ref nu, .ref rf_a, .int 0, .int 0, .int (-1)])), (rd, .inr (2, [.int 1, .int 400, .int 80, .int 2, .int 30, .int 0, .ref r0, .ref r1])), (r0, .inl (cI, 7, .inl (fun _ => 0))), (rf_a, .inl (cI, 7, .inl (fun _ => 0)))] (xTy cI cL cZ cC) sz) (va_Qi (fun (r : Int32) (_ : Unit) => r = sStop0 a1 a2) (fun (_ : Unit) t => va_P D vwCl [] t.heap ∧ va_D (va_A [(h0, .inr (4, [.ref rd, .ref dr, .ref kp, .ref pl, .ref tx, .ref nu, .ref rf_a, .int 0, .int 0, .int (-1)])), (rd, .inr (2, [.int 1, .int 400, .int 80, .int 2, .int 30, .int 0, .ref r0, .ref r1])), (r0, .inl (cI, 7, .inl (fun _ => 0))), (rf_a, .inl (cI, 7, .inl (fun _ => 0)))] sz) []) (va_A [(h0, .inr (4, [.ref rd, .ref dr, .ref kp, .ref pl, .ref tx, .ref nu, .ref rf_a, .int 0, .int 0, .int (-1)])), (rd, .inr (2, [.int 1, .int 400, .int 80, .int 2, .int 30, .int 0, .ref r0, .ref r1])), (r0, .inl (cI, 7, .inl (fun _ => 0))), (rf_a, .inl (cI, 7, .inl (fun _ => 0)))] sz)) 0 0 (va_A [(h0, .inr (4, [.ref rd, .ref dr, .ref kp, .ref pl, .ref tx, .ref nu, .ref rf_a, .int 0, .int 0, .int (-1)])), (rd, .inr (2, [.int 1, .int 400, .int 80, .int 2, .int 30, .int 0, .ref r0, .ref r1])), (r0, .inl (cI, 7, .inl (fun _ => 0))), (rf_a, .inl (cI, 7, .inl (fun _ => 0)))] sz) := by
  refine Met.ofW (cc := cX4_stop) (maxL := 3) (ret := (some .int)) (by decide) rfl ?_
  intro p e s m args below meth c s₁ B hml hv
  obtain ⟨rfl, hsz, hP, hK, hD0⟩ := hv
  have hx := B.exec
  have hb := B.bytes
  have hr := B.returns
  have hts := atoms_spec (ws := wsX4_stop) B.pre
  have hown : s.vm.findClass RX4 = some m.cls := findClass_of_methodNamed B.named
  have hlocks := B.notSynchronized
  have hwX2 : ∀ w ∈ u_ws RX2 TX2 8, w ∈ wsX4_stop := fun _ h => List.mem_cons_of_mem _ (List.mem_append_right _ h)
  have hwX4 : ∀ w ∈ u_ws RX4 TX4 10, w ∈ wsX4_stop := fun _ h => List.mem_cons_of_mem _ (List.mem_append_left _ (List.mem_append_right _ h))
  subst hsz
  have hD := hD0.self (sz := s.heap.size)
  generalize hAe : va_A [(h0, .inr (4, [.ref rd, .ref dr, .ref kp, .ref pl, .ref tx, .ref nu, .ref rf_a, .int 0, .int 0, .int (-1)])), (rd, .inr (2, [.int 1, .int 400, .int 80, .int 2, .int 30, .int 0, .ref r0, .ref r1])), (r0, .inl (cI, 7, .inl (fun _ => 0))), (rf_a, .inl (cI, 7, .inl (fun _ => 0)))] s.heap.size = A at hD ⊢
  have hA : ∀ q : Nat, s.heap.size ≤ q → A q := fun q h => by rw [← hAe]; exact Or.inr h
  have hS : va_S A s.heap s.heap [] := va_S.rf
  have hP : va_P D vwCl [(h0, .inr (4, [.ref rd, .ref dr, .ref kp, .ref pl, .ref tx, .ref nu, .ref rf_a, .int 0, .int 0, .int (-1)])), (rd, .inr (2, [.int 1, .int 400, .int 80, .int 2, .int 30, .int 0, .ref r0, .ref r1])), (r0, .inl (cI, 7, .inl (fun _ => 0))), (rf_a, .inl (cI, 7, .inl (fun _ => 0)))] s.heap := hP
  have hl := lv_entry ([.ref h0, .int a1, .int a2]) (n := 3) (Nat.le_of_ble_eq_true rfl)
  rw [lg_entry_eq]
  generalize (lg_sl ([.ref h0, .int a1, .int a2]) ++ List.replicate (3 - (lg_sl ([.ref h0, .int a1, .int a2])).length) Slot.unset).toArray = ls at hl ⊢
  have hl : lv_has ls 3 [(0, .ref h0), (1, .int a1), (2, .int a2)] := hl
  by_cases h_1 : a1 < 0
  · refine lv_aload_n hx hb dX4_stop_0 rfl (lv_at hl 0 rfl) ?_
    refine lv_iload_n hx hb dX4_stop_1 rfl (lv_at hl 1 rfl) ?_
    have hPc := hP.sub (ws' := [(h0, .inr (4, [.ref rd, .ref dr, .ref kp, .ref pl, .ref tx, .ref nu, .ref rf_a, .int 0, .int 0, .int (-1)])), (rd, .inr (2, [.int 1, .int 400, .int 80, .int 2, .int 30, .int 0, .ref r0, .ref r1]))]) [0, 1] rfl
    refine vp_callSi (va_Run.run (va_runV (As := [.int a1]) (rest := []) ⟨hx, hb, hml, hown, hts⟩ (c_X4_noStop l D cI cL cZ cC h0 rd dr kp pl tx nu rf_a r0 r1 a1 ) (cwV 1 hts gX4_stop_X4_noStop rfl rfl rfl (by decide +kernel) ⟨Nat.le_of_ble_eq_true rfl, Nat.le_of_ble_eq_true rfl⟩) ⟨xPc_bl, va_recv hK hPc (ci := 4) (q0 := 0) rfl rfl, xPc_use hPc hK⟩ rfl rfl hl.1 rfl (lv_room (Nat.le_of_ble_eq_true rfl)) dX4_stop_2 ⟨Nat.le_of_ble_eq_true rfl, Nat.le_of_ble_eq_true rfl⟩)) (fun r_1 er_1 => ?_)
    obtain rfl : (if a1 < 0 then 1 else if a1 < 1 then 0 else 1 : Int32) = r_1 := Eq.symm er_1
    refine xv_int (y := 1) (if_pos h_1) ?_
    refine lv_if_eq (tgt := 14) hx hb dX4_stop_5 (by decide) (fun c_2 => absurd c_2 (by decide +kernel)) (fun c_2 => ?_)
    refine lv_aload_n hx hb dX4_stop_8 rfl (lv_at hl 0 rfl) ?_
    refine lv_iconst (v := -1) hx hb dX4_stop_9 (by decide) ?_
    have hPc := hP.sub (ws' := [(h0, .inr (4, [.ref rd, .ref dr, .ref kp, .ref pl, .ref tx, .ref nu, .ref rf_a, .int 0, .int 0, .int (-1)])), (rf_a, .inl (cI, 7, .inl (fun _ => 0)))]) [0, 3] rfl
    have hDc := hD.sub (ws' := [(h0, .inr (4, [.ref rd, .ref dr, .ref kp, .ref pl, .ref tx, .ref nu, .ref rf_a, .int 0, .int 0, .int (-1)])), (rf_a, .inl (cI, 7, .inl (fun _ => 0)))]) [0, 3] (by decide) rfl
    have hFc := va_free (wc := [(h0, .inr (4, [.ref rd, .ref dr, .ref kp, .ref pl, .ref tx, .ref nu, .ref rf_a, .int 0, .int 0, .int (-1)])), (rf_a, .inl (cI, 7, .inl (fun _ => 0)))]) hD hS hA [0, 3] rfl
    refine va_calli (va_runV (As := [.int (-1)]) (rest := []) ⟨hx, hb, hml, hown, hts⟩ (c_X4_refuse l D cI cL cZ cC _ h0 rd dr kp pl tx nu rf_a 0 0 (-1) (fun _ => 0) (-1) (by first | assumption | decide +kernel) (by first | assumption | decide +kernel)) (cwV 1 hts gX4_stop_X4_refuse rfl rfl rfl (by decide +kernel) ⟨Nat.le_of_ble_eq_true rfl, Nat.le_of_ble_eq_true rfl⟩) ⟨wPc_bl, va_recv hK hPc (ci := 4) (q0 := 0) rfl rfl, wPc_use hPc hK hDc⟩ rfl rfl hl.1 rfl (lv_room (Nat.le_of_ble_eq_true rfl)) dX4_stop_10 ⟨Nat.le_of_ble_eq_true rfl, Nat.le_of_ble_eq_true rfl⟩) hS (fun q _ h => hFc q h) hFc (fun r_3 u_3 t H1 locs ht hvm hw hB hz1 hk1 hS => ?_)
    obtain ⟨hP1, hD1⟩ := hB
    rw [ht] at hP1
    obtain ⟨hP, hD⟩ := va_join (wr := [(rd, .inr (2, [.int 1, .int 400, .int 80, .int 2, .int 30, .int 0, .ref r0, .ref r1])), (r0, .inl (cI, 7, .inl (fun _ => 0)))]) (w1 := [(h0, .inr (4, [.ref rd, .ref dr, .ref kp, .ref pl, .ref tx, .ref nu, .ref rf_a, .int 0, .int 0, .int (-1)])), (rf_a, .inl (cI, 7, .inl (xRf (fun _ => 0) (-1))))]) hP hD [0, 3] [1, 2] rfl rfl (by decide) (by decide) hk1 hFc hP1 hD1
    generalize H1 = H at hP hS ⊢
    have hP : va_P D vwCl [(rd, .inr (2, [.int 1, .int 400, .int 80, .int 2, .int 30, .int 0, .ref r0, .ref r1])), (r0, .inl (cI, 7, .inl (fun _ => 0))), (h0, .inr (4, [.ref rd, .ref dr, .ref kp, .ref pl, .ref tx, .ref nu, .ref rf_a, .int 0, .int 0, .int (-1)])), (rf_a, .inl (cI, 7, .inl (xRf (fun _ => 0) (-1))))] H := hP
    have hD : va_D A [(rd, .inr (2, [.int 1, .int 400, .int 80, .int 2, .int 30, .int 0, .ref r0, .ref r1])), (r0, .inl (cI, 7, .inl (fun _ => 0))), (h0, .inr (4, [.ref rd, .ref dr, .ref kp, .ref pl, .ref tx, .ref nu, .ref rf_a, .int 0, .int 0, .int (-1)])), (rf_a, .inl (cI, 7, .inl (xRf (fun _ => 0) (-1))))] := hD
    obtain rfl : ((-1) : Int32) = r_3 := Eq.symm hw
    have hP9 := hP.sub (ws' := []) [] rfl
    have hD9 := hD.sub (ws' := []) [] (by decide) rfl
    exact W.iret (v := -1) hx hb hr (fun t ht hW => ⟨⟨_, (), rfl, by simp [sStop0, h_1, c_2], by rw [ht]; exact hP9, hD9⟩, hS.F ht⟩) hS.2.2 dX4_stop_13
  by_cases h_2 : 1 ≤ a1
  · refine lv_aload_n hx hb dX4_stop_0 rfl (lv_at hl 0 rfl) ?_
    refine lv_iload_n hx hb dX4_stop_1 rfl (lv_at hl 1 rfl) ?_
    have hPc := hP.sub (ws' := [(h0, .inr (4, [.ref rd, .ref dr, .ref kp, .ref pl, .ref tx, .ref nu, .ref rf_a, .int 0, .int 0, .int (-1)])), (rd, .inr (2, [.int 1, .int 400, .int 80, .int 2, .int 30, .int 0, .ref r0, .ref r1]))]) [0, 1] rfl
    refine vp_callSi (va_Run.run (va_runV (As := [.int a1]) (rest := []) ⟨hx, hb, hml, hown, hts⟩ (c_X4_noStop l D cI cL cZ cC h0 rd dr kp pl tx nu rf_a r0 r1 a1 ) (cwV 1 hts gX4_stop_X4_noStop rfl rfl rfl (by decide +kernel) ⟨Nat.le_of_ble_eq_true rfl, Nat.le_of_ble_eq_true rfl⟩) ⟨xPc_bl, va_recv hK hPc (ci := 4) (q0 := 0) rfl rfl, xPc_use hPc hK⟩ rfl rfl hl.1 rfl (lv_room (Nat.le_of_ble_eq_true rfl)) dX4_stop_2 ⟨Nat.le_of_ble_eq_true rfl, Nat.le_of_ble_eq_true rfl⟩)) (fun r_4 er_4 => ?_)
    obtain rfl : (if a1 < 0 then 1 else if a1 < 1 then 0 else 1 : Int32) = r_4 := Eq.symm er_4
    refine xv_int (y := 1) (by rw [if_neg h_1, if_neg (Int32.not_lt.mpr h_2)]) ?_
    refine lv_if_eq (tgt := 14) hx hb dX4_stop_5 (by decide) (fun c_5 => absurd c_5 (by decide +kernel)) (fun c_5 => ?_)
    refine lv_aload_n hx hb dX4_stop_8 rfl (lv_at hl 0 rfl) ?_
    refine lv_iconst (v := -1) hx hb dX4_stop_9 (by decide) ?_
    have hPc := hP.sub (ws' := [(h0, .inr (4, [.ref rd, .ref dr, .ref kp, .ref pl, .ref tx, .ref nu, .ref rf_a, .int 0, .int 0, .int (-1)])), (rf_a, .inl (cI, 7, .inl (fun _ => 0)))]) [0, 3] rfl
    have hDc := hD.sub (ws' := [(h0, .inr (4, [.ref rd, .ref dr, .ref kp, .ref pl, .ref tx, .ref nu, .ref rf_a, .int 0, .int 0, .int (-1)])), (rf_a, .inl (cI, 7, .inl (fun _ => 0)))]) [0, 3] (by decide) rfl
    have hFc := va_free (wc := [(h0, .inr (4, [.ref rd, .ref dr, .ref kp, .ref pl, .ref tx, .ref nu, .ref rf_a, .int 0, .int 0, .int (-1)])), (rf_a, .inl (cI, 7, .inl (fun _ => 0)))]) hD hS hA [0, 3] rfl
    refine va_calli (va_runV (As := [.int (-1)]) (rest := []) ⟨hx, hb, hml, hown, hts⟩ (c_X4_refuse l D cI cL cZ cC _ h0 rd dr kp pl tx nu rf_a 0 0 (-1) (fun _ => 0) (-1) (by first | assumption | decide +kernel) (by first | assumption | decide +kernel)) (cwV 1 hts gX4_stop_X4_refuse rfl rfl rfl (by decide +kernel) ⟨Nat.le_of_ble_eq_true rfl, Nat.le_of_ble_eq_true rfl⟩) ⟨wPc_bl, va_recv hK hPc (ci := 4) (q0 := 0) rfl rfl, wPc_use hPc hK hDc⟩ rfl rfl hl.1 rfl (lv_room (Nat.le_of_ble_eq_true rfl)) dX4_stop_10 ⟨Nat.le_of_ble_eq_true rfl, Nat.le_of_ble_eq_true rfl⟩) hS (fun q _ h => hFc q h) hFc (fun r_6 u_6 t H1 locs ht hvm hw hB hz1 hk1 hS => ?_)
    obtain ⟨hP1, hD1⟩ := hB
    rw [ht] at hP1
    obtain ⟨hP, hD⟩ := va_join (wr := [(rd, .inr (2, [.int 1, .int 400, .int 80, .int 2, .int 30, .int 0, .ref r0, .ref r1])), (r0, .inl (cI, 7, .inl (fun _ => 0)))]) (w1 := [(h0, .inr (4, [.ref rd, .ref dr, .ref kp, .ref pl, .ref tx, .ref nu, .ref rf_a, .int 0, .int 0, .int (-1)])), (rf_a, .inl (cI, 7, .inl (xRf (fun _ => 0) (-1))))]) hP hD [0, 3] [1, 2] rfl rfl (by decide) (by decide) hk1 hFc hP1 hD1
    generalize H1 = H at hP hS ⊢
    have hP : va_P D vwCl [(rd, .inr (2, [.int 1, .int 400, .int 80, .int 2, .int 30, .int 0, .ref r0, .ref r1])), (r0, .inl (cI, 7, .inl (fun _ => 0))), (h0, .inr (4, [.ref rd, .ref dr, .ref kp, .ref pl, .ref tx, .ref nu, .ref rf_a, .int 0, .int 0, .int (-1)])), (rf_a, .inl (cI, 7, .inl (xRf (fun _ => 0) (-1))))] H := hP
    have hD : va_D A [(rd, .inr (2, [.int 1, .int 400, .int 80, .int 2, .int 30, .int 0, .ref r0, .ref r1])), (r0, .inl (cI, 7, .inl (fun _ => 0))), (h0, .inr (4, [.ref rd, .ref dr, .ref kp, .ref pl, .ref tx, .ref nu, .ref rf_a, .int 0, .int 0, .int (-1)])), (rf_a, .inl (cI, 7, .inl (xRf (fun _ => 0) (-1))))] := hD
    obtain rfl : ((-1) : Int32) = r_6 := Eq.symm hw
    have hP9 := hP.sub (ws' := []) [] rfl
    have hD9 := hD.sub (ws' := []) [] (by decide) rfl
    exact W.iret (v := -1) hx hb hr (fun t ht hW => ⟨⟨_, (), rfl, by simp [sStop0, h_1, h_2, c_5], by rw [ht]; exact hP9, hD9⟩, hS.F ht⟩) hS.2.2 dX4_stop_13
  obtain rfl : a1 = 0 := xz1 h_1 h_2
  by_cases h_3 : a2 < 0
  · refine lv_aload_n hx hb dX4_stop_0 rfl (lv_at hl 0 rfl) ?_
    refine lv_iload_n hx hb dX4_stop_1 rfl (lv_at hl 1 rfl) ?_
    have hPc := hP.sub (ws' := [(h0, .inr (4, [.ref rd, .ref dr, .ref kp, .ref pl, .ref tx, .ref nu, .ref rf_a, .int 0, .int 0, .int (-1)])), (rd, .inr (2, [.int 1, .int 400, .int 80, .int 2, .int 30, .int 0, .ref r0, .ref r1]))]) [0, 1] rfl
    refine vp_callSi (va_Run.run (va_runV (As := [.int 0]) (rest := []) ⟨hx, hb, hml, hown, hts⟩ (c_X4_noStop l D cI cL cZ cC h0 rd dr kp pl tx nu rf_a r0 r1 0 ) (cwV 1 hts gX4_stop_X4_noStop rfl rfl rfl (by decide +kernel) ⟨Nat.le_of_ble_eq_true rfl, Nat.le_of_ble_eq_true rfl⟩) ⟨xPc_bl, va_recv hK hPc (ci := 4) (q0 := 0) rfl rfl, xPc_use hPc hK⟩ rfl rfl hl.1 rfl (lv_room (Nat.le_of_ble_eq_true rfl)) dX4_stop_2 ⟨Nat.le_of_ble_eq_true rfl, Nat.le_of_ble_eq_true rfl⟩)) (fun r_7 er_7 => ?_)
    obtain rfl : (if (0 : Int32) < 0 then 1 else if (0 : Int32) < 1 then 0 else 1 : Int32) = r_7 := Eq.symm er_7
    refine xv_int (y := 0) (by decide +kernel) ?_
    refine lv_if_eq (tgt := 14) hx hb dX4_stop_5 (by decide) (fun c_8 => ?_) (fun c_8 => absurd c_8 (by decide +kernel))
    refine lv_iload_n hx hb dX4_stop_14 rfl (lv_at hl 2 rfl) ?_
    refine lv_tableOut (tgt := 77) hx hb dX4_stop_15 (Or.inl ((xi_lt _ _).mp h_3)) (by decide) ?_
    refine lv_aload_n hx hb dX4_stop_77 rfl (lv_at hl 0 rfl) ?_
    refine lv_bipush (v := -2) hx hb dX4_stop_78 (by decide) ?_
    have hPc := hP.sub (ws' := [(h0, .inr (4, [.ref rd, .ref dr, .ref kp, .ref pl, .ref tx, .ref nu, .ref rf_a, .int 0, .int 0, .int (-1)])), (rf_a, .inl (cI, 7, .inl (fun _ => 0)))]) [0, 3] rfl
    have hDc := hD.sub (ws' := [(h0, .inr (4, [.ref rd, .ref dr, .ref kp, .ref pl, .ref tx, .ref nu, .ref rf_a, .int 0, .int 0, .int (-1)])), (rf_a, .inl (cI, 7, .inl (fun _ => 0)))]) [0, 3] (by decide) rfl
    have hFc := va_free (wc := [(h0, .inr (4, [.ref rd, .ref dr, .ref kp, .ref pl, .ref tx, .ref nu, .ref rf_a, .int 0, .int 0, .int (-1)])), (rf_a, .inl (cI, 7, .inl (fun _ => 0)))]) hD hS hA [0, 3] rfl
    refine va_calli (va_runV (As := [.int (-2)]) (rest := []) ⟨hx, hb, hml, hown, hts⟩ (c_X4_refuse l D cI cL cZ cC _ h0 rd dr kp pl tx nu rf_a 0 0 (-1) (fun _ => 0) (-2) (by first | assumption | decide +kernel) (by first | assumption | decide +kernel)) (cwV 1 hts gX4_stop_X4_refuse rfl rfl rfl (by decide +kernel) ⟨Nat.le_of_ble_eq_true rfl, Nat.le_of_ble_eq_true rfl⟩) ⟨wPc_bl, va_recv hK hPc (ci := 4) (q0 := 0) rfl rfl, wPc_use hPc hK hDc⟩ rfl rfl hl.1 rfl (lv_room (Nat.le_of_ble_eq_true rfl)) dX4_stop_80 ⟨Nat.le_of_ble_eq_true rfl, Nat.le_of_ble_eq_true rfl⟩) hS (fun q _ h => hFc q h) hFc (fun r_9 u_9 t H1 locs ht hvm hw hB hz1 hk1 hS => ?_)
    obtain ⟨hP1, hD1⟩ := hB
    rw [ht] at hP1
    obtain ⟨hP, hD⟩ := va_join (wr := [(rd, .inr (2, [.int 1, .int 400, .int 80, .int 2, .int 30, .int 0, .ref r0, .ref r1])), (r0, .inl (cI, 7, .inl (fun _ => 0)))]) (w1 := [(h0, .inr (4, [.ref rd, .ref dr, .ref kp, .ref pl, .ref tx, .ref nu, .ref rf_a, .int 0, .int 0, .int (-1)])), (rf_a, .inl (cI, 7, .inl (xRf (fun _ => 0) (-2))))]) hP hD [0, 3] [1, 2] rfl rfl (by decide) (by decide) hk1 hFc hP1 hD1
    generalize H1 = H at hP hS ⊢
    have hP : va_P D vwCl [(rd, .inr (2, [.int 1, .int 400, .int 80, .int 2, .int 30, .int 0, .ref r0, .ref r1])), (r0, .inl (cI, 7, .inl (fun _ => 0))), (h0, .inr (4, [.ref rd, .ref dr, .ref kp, .ref pl, .ref tx, .ref nu, .ref rf_a, .int 0, .int 0, .int (-1)])), (rf_a, .inl (cI, 7, .inl (xRf (fun _ => 0) (-2))))] H := hP
    have hD : va_D A [(rd, .inr (2, [.int 1, .int 400, .int 80, .int 2, .int 30, .int 0, .ref r0, .ref r1])), (r0, .inl (cI, 7, .inl (fun _ => 0))), (h0, .inr (4, [.ref rd, .ref dr, .ref kp, .ref pl, .ref tx, .ref nu, .ref rf_a, .int 0, .int 0, .int (-1)])), (rf_a, .inl (cI, 7, .inl (xRf (fun _ => 0) (-2))))] := hD
    obtain rfl : ((-2) : Int32) = r_9 := Eq.symm hw
    have hP9 := hP.sub (ws' := []) [] rfl
    have hD9 := hD.sub (ws' := []) [] (by decide) rfl
    exact W.iret (v := -2) hx hb hr (fun t ht hW => ⟨⟨_, (), rfl, by simp [sStop0, h_3, c_8], by rw [ht]; exact hP9, hD9⟩, hS.F ht⟩) hS.2.2 dX4_stop_83
  by_cases h_4 : 2 < a2
  · refine lv_aload_n hx hb dX4_stop_0 rfl (lv_at hl 0 rfl) ?_
    refine lv_iload_n hx hb dX4_stop_1 rfl (lv_at hl 1 rfl) ?_
    have hPc := hP.sub (ws' := [(h0, .inr (4, [.ref rd, .ref dr, .ref kp, .ref pl, .ref tx, .ref nu, .ref rf_a, .int 0, .int 0, .int (-1)])), (rd, .inr (2, [.int 1, .int 400, .int 80, .int 2, .int 30, .int 0, .ref r0, .ref r1]))]) [0, 1] rfl
    refine vp_callSi (va_Run.run (va_runV (As := [.int 0]) (rest := []) ⟨hx, hb, hml, hown, hts⟩ (c_X4_noStop l D cI cL cZ cC h0 rd dr kp pl tx nu rf_a r0 r1 0 ) (cwV 1 hts gX4_stop_X4_noStop rfl rfl rfl (by decide +kernel) ⟨Nat.le_of_ble_eq_true rfl, Nat.le_of_ble_eq_true rfl⟩) ⟨xPc_bl, va_recv hK hPc (ci := 4) (q0 := 0) rfl rfl, xPc_use hPc hK⟩ rfl rfl hl.1 rfl (lv_room (Nat.le_of_ble_eq_true rfl)) dX4_stop_2 ⟨Nat.le_of_ble_eq_true rfl, Nat.le_of_ble_eq_true rfl⟩)) (fun r_10 er_10 => ?_)
    obtain rfl : (if (0 : Int32) < 0 then 1 else if (0 : Int32) < 1 then 0 else 1 : Int32) = r_10 := Eq.symm er_10
    refine xv_int (y := 0) (by decide +kernel) ?_
    refine lv_if_eq (tgt := 14) hx hb dX4_stop_5 (by decide) (fun c_11 => ?_) (fun c_11 => absurd c_11 (by decide +kernel))
    refine lv_iload_n hx hb dX4_stop_14 rfl (lv_at hl 2 rfl) ?_
    refine lv_tableOut (tgt := 77) hx hb dX4_stop_15 (Or.inr ((xi_lt _ _).mp h_4)) (by decide) ?_
    refine lv_aload_n hx hb dX4_stop_77 rfl (lv_at hl 0 rfl) ?_
    refine lv_bipush (v := -2) hx hb dX4_stop_78 (by decide) ?_
    have hPc := hP.sub (ws' := [(h0, .inr (4, [.ref rd, .ref dr, .ref kp, .ref pl, .ref tx, .ref nu, .ref rf_a, .int 0, .int 0, .int (-1)])), (rf_a, .inl (cI, 7, .inl (fun _ => 0)))]) [0, 3] rfl
    have hDc := hD.sub (ws' := [(h0, .inr (4, [.ref rd, .ref dr, .ref kp, .ref pl, .ref tx, .ref nu, .ref rf_a, .int 0, .int 0, .int (-1)])), (rf_a, .inl (cI, 7, .inl (fun _ => 0)))]) [0, 3] (by decide) rfl
    have hFc := va_free (wc := [(h0, .inr (4, [.ref rd, .ref dr, .ref kp, .ref pl, .ref tx, .ref nu, .ref rf_a, .int 0, .int 0, .int (-1)])), (rf_a, .inl (cI, 7, .inl (fun _ => 0)))]) hD hS hA [0, 3] rfl
    refine va_calli (va_runV (As := [.int (-2)]) (rest := []) ⟨hx, hb, hml, hown, hts⟩ (c_X4_refuse l D cI cL cZ cC _ h0 rd dr kp pl tx nu rf_a 0 0 (-1) (fun _ => 0) (-2) (by first | assumption | decide +kernel) (by first | assumption | decide +kernel)) (cwV 1 hts gX4_stop_X4_refuse rfl rfl rfl (by decide +kernel) ⟨Nat.le_of_ble_eq_true rfl, Nat.le_of_ble_eq_true rfl⟩) ⟨wPc_bl, va_recv hK hPc (ci := 4) (q0 := 0) rfl rfl, wPc_use hPc hK hDc⟩ rfl rfl hl.1 rfl (lv_room (Nat.le_of_ble_eq_true rfl)) dX4_stop_80 ⟨Nat.le_of_ble_eq_true rfl, Nat.le_of_ble_eq_true rfl⟩) hS (fun q _ h => hFc q h) hFc (fun r_12 u_12 t H1 locs ht hvm hw hB hz1 hk1 hS => ?_)
    obtain ⟨hP1, hD1⟩ := hB
    rw [ht] at hP1
    obtain ⟨hP, hD⟩ := va_join (wr := [(rd, .inr (2, [.int 1, .int 400, .int 80, .int 2, .int 30, .int 0, .ref r0, .ref r1])), (r0, .inl (cI, 7, .inl (fun _ => 0)))]) (w1 := [(h0, .inr (4, [.ref rd, .ref dr, .ref kp, .ref pl, .ref tx, .ref nu, .ref rf_a, .int 0, .int 0, .int (-1)])), (rf_a, .inl (cI, 7, .inl (xRf (fun _ => 0) (-2))))]) hP hD [0, 3] [1, 2] rfl rfl (by decide) (by decide) hk1 hFc hP1 hD1
    generalize H1 = H at hP hS ⊢
    have hP : va_P D vwCl [(rd, .inr (2, [.int 1, .int 400, .int 80, .int 2, .int 30, .int 0, .ref r0, .ref r1])), (r0, .inl (cI, 7, .inl (fun _ => 0))), (h0, .inr (4, [.ref rd, .ref dr, .ref kp, .ref pl, .ref tx, .ref nu, .ref rf_a, .int 0, .int 0, .int (-1)])), (rf_a, .inl (cI, 7, .inl (xRf (fun _ => 0) (-2))))] H := hP
    have hD : va_D A [(rd, .inr (2, [.int 1, .int 400, .int 80, .int 2, .int 30, .int 0, .ref r0, .ref r1])), (r0, .inl (cI, 7, .inl (fun _ => 0))), (h0, .inr (4, [.ref rd, .ref dr, .ref kp, .ref pl, .ref tx, .ref nu, .ref rf_a, .int 0, .int 0, .int (-1)])), (rf_a, .inl (cI, 7, .inl (xRf (fun _ => 0) (-2))))] := hD
    obtain rfl : ((-2) : Int32) = r_12 := Eq.symm hw
    have hP9 := hP.sub (ws' := []) [] rfl
    have hD9 := hD.sub (ws' := []) [] (by decide) rfl
    exact W.iret (v := -2) hx hb hr (fun t ht hW => ⟨⟨_, (), rfl, by simp [sStop0, h_3, h_4, c_11], by rw [ht]; exact hP9, hD9⟩, hS.F ht⟩) hS.2.2 dX4_stop_83
  rcases xz3 h_3 h_4 with rfl | rfl | rfl
  · refine lv_aload_n hx hb dX4_stop_0 rfl (lv_at hl 0 rfl) ?_
    refine lv_iload_n hx hb dX4_stop_1 rfl (lv_at hl 1 rfl) ?_
    have hPc := hP.sub (ws' := [(h0, .inr (4, [.ref rd, .ref dr, .ref kp, .ref pl, .ref tx, .ref nu, .ref rf_a, .int 0, .int 0, .int (-1)])), (rd, .inr (2, [.int 1, .int 400, .int 80, .int 2, .int 30, .int 0, .ref r0, .ref r1]))]) [0, 1] rfl
    refine vp_callSi (va_Run.run (va_runV (As := [.int 0]) (rest := []) ⟨hx, hb, hml, hown, hts⟩ (c_X4_noStop l D cI cL cZ cC h0 rd dr kp pl tx nu rf_a r0 r1 0 ) (cwV 1 hts gX4_stop_X4_noStop rfl rfl rfl (by decide +kernel) ⟨Nat.le_of_ble_eq_true rfl, Nat.le_of_ble_eq_true rfl⟩) ⟨xPc_bl, va_recv hK hPc (ci := 4) (q0 := 0) rfl rfl, xPc_use hPc hK⟩ rfl rfl hl.1 rfl (lv_room (Nat.le_of_ble_eq_true rfl)) dX4_stop_2 ⟨Nat.le_of_ble_eq_true rfl, Nat.le_of_ble_eq_true rfl⟩)) (fun r_13 er_13 => ?_)
    obtain rfl : (if (0 : Int32) < 0 then 1 else if (0 : Int32) < 1 then 0 else 1 : Int32) = r_13 := Eq.symm er_13
    refine xv_int (y := 0) (by decide +kernel) ?_
    refine lv_if_eq (tgt := 14) hx hb dX4_stop_5 (by decide) (fun c_14 => ?_) (fun c_14 => absurd c_14 (by decide +kernel))
    refine lv_iload_n hx hb dX4_stop_14 rfl (lv_at hl 2 rfl) ?_
    refine lv_tableIn (off := 25) (tgt := 40) hx hb dX4_stop_15 (by decide +kernel) (by decide +kernel) (by decide +kernel) (by decide) ?_
    refine lv_aload_n hx hb dX4_stop_40 rfl (lv_at hl 0 rfl) ?_
    refine va_get (D := D) (ci := 4) (v := .ref rd) (C := RX4) (T := TX4) (N := 10) hx hb hts hwX4 hown hK hP 0 rfl rfl 0 (by decide) (hts (.fieldLink RX4 10 "WaitOrWalkOn" "road" "LWaitOrWalkOn$Road;") (by decide +kernel)) (fun _ h9 => h9) rfl dX4_stop_41 ?_
    refine va_get (D := D) (ci := 2) (v := .ref r0) (C := RX2) (T := TX2) (N := 8) hx hb hts hwX2 hown hK hP 1 rfl rfl 6 (by decide) (hts (.fieldLink RX4 70 "WaitOrWalkOn$Road" "legs" "[I") (by decide +kernel)) (fun _ h9 => h9) rfl dX4_stop_44 ?_
    refine lv_iload_n hx hb dX4_stop_47 rfl (lv_at hl 1 rfl) ?_
    refine va_iald (D := D) hx hb hK hP 2 0 rfl rfl (by unfold vp_in; decide +kernel) dX4_stop_48 ?_
    refine xv_int (y := 0) rfl ?_
    have hP9 := hP.sub (ws' := []) [] rfl
    have hD9 := hD.sub (ws' := []) [] (by decide) rfl
    exact W.iret (v := 0) hx hb hr (fun t ht hW => ⟨⟨_, (), rfl, by simp [sStop0, c_14], by rw [ht]; exact hP9, hD9⟩, hS.F ht⟩) hS.2.2 dX4_stop_49
  · refine lv_aload_n hx hb dX4_stop_0 rfl (lv_at hl 0 rfl) ?_
    refine lv_iload_n hx hb dX4_stop_1 rfl (lv_at hl 1 rfl) ?_
    have hPc := hP.sub (ws' := [(h0, .inr (4, [.ref rd, .ref dr, .ref kp, .ref pl, .ref tx, .ref nu, .ref rf_a, .int 0, .int 0, .int (-1)])), (rd, .inr (2, [.int 1, .int 400, .int 80, .int 2, .int 30, .int 0, .ref r0, .ref r1]))]) [0, 1] rfl
    refine vp_callSi (va_Run.run (va_runV (As := [.int 0]) (rest := []) ⟨hx, hb, hml, hown, hts⟩ (c_X4_noStop l D cI cL cZ cC h0 rd dr kp pl tx nu rf_a r0 r1 0 ) (cwV 1 hts gX4_stop_X4_noStop rfl rfl rfl (by decide +kernel) ⟨Nat.le_of_ble_eq_true rfl, Nat.le_of_ble_eq_true rfl⟩) ⟨xPc_bl, va_recv hK hPc (ci := 4) (q0 := 0) rfl rfl, xPc_use hPc hK⟩ rfl rfl hl.1 rfl (lv_room (Nat.le_of_ble_eq_true rfl)) dX4_stop_2 ⟨Nat.le_of_ble_eq_true rfl, Nat.le_of_ble_eq_true rfl⟩)) (fun r_15 er_15 => ?_)
    obtain rfl : (if (0 : Int32) < 0 then 1 else if (0 : Int32) < 1 then 0 else 1 : Int32) = r_15 := Eq.symm er_15
    refine xv_int (y := 0) (by decide +kernel) ?_
    refine lv_if_eq (tgt := 14) hx hb dX4_stop_5 (by decide) (fun c_16 => ?_) (fun c_16 => absurd c_16 (by decide +kernel))
    refine lv_iload_n hx hb dX4_stop_14 rfl (lv_at hl 2 rfl) ?_
    refine lv_tableIn (off := 35) (tgt := 50) hx hb dX4_stop_15 (by decide +kernel) (by decide +kernel) (by decide +kernel) (by decide) ?_
    refine lv_aload_n hx hb dX4_stop_50 rfl (lv_at hl 0 rfl) ?_
    refine va_get (D := D) (ci := 4) (v := .ref rd) (C := RX4) (T := TX4) (N := 10) hx hb hts hwX4 hown hK hP 0 rfl rfl 0 (by decide) (hts (.fieldLink RX4 10 "WaitOrWalkOn" "road" "LWaitOrWalkOn$Road;") (by decide +kernel)) (fun _ h9 => h9) rfl dX4_stop_51 ?_
    refine lv_iconst (v := 0) hx hb dX4_stop_54 (by decide) ?_
    have hPc := hP.sub (ws' := [(rd, .inr (2, [.int 1, .int 400, .int 80, .int 2, .int 30, .int 0, .ref r0, .ref r1]))]) [1] rfl
    refine vp_callSi (va_Run.run (va_runV (As := [.int 0]) (rest := []) ⟨hx, hb, hml, hown, hts⟩ (c_X2_walkHome l D cI cL cZ cC rd r0 r1 ) (cwV 1 hts gX4_stop_X2_walkHome rfl rfl rfl (by decide +kernel) ⟨Nat.le_of_ble_eq_true rfl, Nat.le_of_ble_eq_true rfl⟩) ⟨xPc_bl, va_recv hK hPc (ci := 2) (q0 := 0) rfl rfl, xPc_use hPc hK⟩ rfl rfl hl.1 rfl (lv_room (Nat.le_of_ble_eq_true rfl)) dX4_stop_55 ⟨Nat.le_of_ble_eq_true rfl, Nat.le_of_ble_eq_true rfl⟩)) (fun r_17 er_17 => ?_)
    obtain rfl : (5 : Int32) = r_17 := Eq.symm er_17
    refine lv_aload_n hx hb dX4_stop_58 rfl (lv_at hl 0 rfl) ?_
    refine va_get (D := D) (ci := 4) (v := .ref rd) (C := RX4) (T := TX4) (N := 10) hx hb hts hwX4 hown hK hP 0 rfl rfl 0 (by decide) (hts (.fieldLink RX4 10 "WaitOrWalkOn" "road" "LWaitOrWalkOn$Road;") (by decide +kernel)) (fun _ h9 => h9) rfl dX4_stop_59 ?_
    refine lv_iload_n hx hb dX4_stop_62 rfl (lv_at hl 1 rfl) ?_
    have hPc := hP.sub (ws' := [(rd, .inr (2, [.int 1, .int 400, .int 80, .int 2, .int 30, .int 0, .ref r0, .ref r1]))]) [1] rfl
    refine vp_callSi (va_Run.run (va_runV (As := [.int 0]) (rest := [.int 5]) ⟨hx, hb, hml, hown, hts⟩ (c_X2_walkHome l D cI cL cZ cC rd r0 r1 ) (cwV 1 hts gX4_stop_X2_walkHome rfl rfl rfl (by decide +kernel) ⟨Nat.le_of_ble_eq_true rfl, Nat.le_of_ble_eq_true rfl⟩) ⟨xPc_bl, va_recv hK hPc (ci := 2) (q0 := 0) rfl rfl, xPc_use hPc hK⟩ rfl rfl hl.1 rfl (lv_room (Nat.le_of_ble_eq_true rfl)) dX4_stop_63 ⟨Nat.le_of_ble_eq_true rfl, Nat.le_of_ble_eq_true rfl⟩)) (fun r_18 er_18 => ?_)
    obtain rfl : (5 : Int32) = r_18 := Eq.symm er_18
    refine lv_isub hx hb dX4_stop_66 ?_
    refine xv_int (y := 0) (by decide +kernel) ?_
    have hP9 := hP.sub (ws' := []) [] rfl
    have hD9 := hD.sub (ws' := []) [] (by decide) rfl
    exact W.iret (v := 0) hx hb hr (fun t ht hW => ⟨⟨_, (), rfl, by simp [sStop0, c_16], by rw [ht]; exact hP9, hD9⟩, hS.F ht⟩) hS.2.2 dX4_stop_67
  · refine lv_aload_n hx hb dX4_stop_0 rfl (lv_at hl 0 rfl) ?_
    refine lv_iload_n hx hb dX4_stop_1 rfl (lv_at hl 1 rfl) ?_
    have hPc := hP.sub (ws' := [(h0, .inr (4, [.ref rd, .ref dr, .ref kp, .ref pl, .ref tx, .ref nu, .ref rf_a, .int 0, .int 0, .int (-1)])), (rd, .inr (2, [.int 1, .int 400, .int 80, .int 2, .int 30, .int 0, .ref r0, .ref r1]))]) [0, 1] rfl
    refine vp_callSi (va_Run.run (va_runV (As := [.int 0]) (rest := []) ⟨hx, hb, hml, hown, hts⟩ (c_X4_noStop l D cI cL cZ cC h0 rd dr kp pl tx nu rf_a r0 r1 0 ) (cwV 1 hts gX4_stop_X4_noStop rfl rfl rfl (by decide +kernel) ⟨Nat.le_of_ble_eq_true rfl, Nat.le_of_ble_eq_true rfl⟩) ⟨xPc_bl, va_recv hK hPc (ci := 4) (q0 := 0) rfl rfl, xPc_use hPc hK⟩ rfl rfl hl.1 rfl (lv_room (Nat.le_of_ble_eq_true rfl)) dX4_stop_2 ⟨Nat.le_of_ble_eq_true rfl, Nat.le_of_ble_eq_true rfl⟩)) (fun r_19 er_19 => ?_)
    obtain rfl : (if (0 : Int32) < 0 then 1 else if (0 : Int32) < 1 then 0 else 1 : Int32) = r_19 := Eq.symm er_19
    refine xv_int (y := 0) (by decide +kernel) ?_
    refine lv_if_eq (tgt := 14) hx hb dX4_stop_5 (by decide) (fun c_20 => ?_) (fun c_20 => absurd c_20 (by decide +kernel))
    refine lv_iload_n hx hb dX4_stop_14 rfl (lv_at hl 2 rfl) ?_
    refine lv_tableIn (off := 53) (tgt := 68) hx hb dX4_stop_15 (by decide +kernel) (by decide +kernel) (by decide +kernel) (by decide) ?_
    refine lv_aload_n hx hb dX4_stop_68 rfl (lv_at hl 0 rfl) ?_
    refine va_get (D := D) (ci := 4) (v := .ref rd) (C := RX4) (T := TX4) (N := 10) hx hb hts hwX4 hown hK hP 0 rfl rfl 0 (by decide) (hts (.fieldLink RX4 10 "WaitOrWalkOn" "road" "LWaitOrWalkOn$Road;") (by decide +kernel)) (fun _ h9 => h9) rfl dX4_stop_69 ?_
    refine lv_iload_n hx hb dX4_stop_72 rfl (lv_at hl 1 rfl) ?_
    have hPc := hP.sub (ws' := [(rd, .inr (2, [.int 1, .int 400, .int 80, .int 2, .int 30, .int 0, .ref r0, .ref r1]))]) [1] rfl
    refine vp_callSi (va_Run.run (va_runV (As := [.int 0]) (rest := []) ⟨hx, hb, hml, hown, hts⟩ (c_X2_walkHome l D cI cL cZ cC rd r0 r1 ) (cwV 1 hts gX4_stop_X2_walkHome rfl rfl rfl (by decide +kernel) ⟨Nat.le_of_ble_eq_true rfl, Nat.le_of_ble_eq_true rfl⟩) ⟨xPc_bl, va_recv hK hPc (ci := 2) (q0 := 0) rfl rfl, xPc_use hPc hK⟩ rfl rfl hl.1 rfl (lv_room (Nat.le_of_ble_eq_true rfl)) dX4_stop_73 ⟨Nat.le_of_ble_eq_true rfl, Nat.le_of_ble_eq_true rfl⟩)) (fun r_21 er_21 => ?_)
    obtain rfl : (5 : Int32) = r_21 := Eq.symm er_21
    have hP9 := hP.sub (ws' := []) [] rfl
    have hD9 := hD.sub (ws' := []) [] (by decide) rfl
    exact W.iret (v := 5) hx hb hr (fun t ht hW => ⟨⟨_, (), rfl, by simp [sStop0, c_20], by rw [ht]; exact hP9, hD9⟩, hS.F ht⟩) hS.2.2 dX4_stop_76

set_option maxHeartbeats 4000000 in
set_option maxRecDepth 100000 in
theorem p1_X4_back (l : Launch) (D : va_G) (cI cL cZ cC : ClassId) (sz : Nat) (h0 : Nat) (rd : Nat) (dr : Nat) (kp : Nat) (pl : Nat) (tx : Nat) (nu : Nat) (rf_a : Nat) (r0 : Nat) (r1 : Nat) (a1 : Int32) (a2 : Int32)  : Met l yX4_back wsX4_back ({ frames := 1, cells := 0, slots := 0, locals := 22 } : Room) (wPc D [.ref h0, .int a1, .int a2] [(h0, .inr (4, [.ref rd, .ref dr, .ref kp, .ref pl, .ref tx, .ref nu, .ref rf_a, .int 0, .int 0, .int (-1)])), (rd, .inr (2, [.int 1, .int 400, .int 80, .int 2, .int 30, .int 0, .ref r0, .ref r1])), (r0, .inl (cI, 7, .inl (fun _ => 0))), (rf_a, .inl (cI, 7, .inl (fun _ => 0)))] (xTy cI cL cZ cC) sz) (va_Qi (fun (r : Int32) (_ : Unit) => r = sBack0 a1 a2) (fun (_ : Unit) t => va_P D vwCl [] t.heap ∧ va_D (va_A [(h0, .inr (4, [.ref rd, .ref dr, .ref kp, .ref pl, .ref tx, .ref nu, .ref rf_a, .int 0, .int 0, .int (-1)])), (rd, .inr (2, [.int 1, .int 400, .int 80, .int 2, .int 30, .int 0, .ref r0, .ref r1])), (r0, .inl (cI, 7, .inl (fun _ => 0))), (rf_a, .inl (cI, 7, .inl (fun _ => 0)))] sz) []) (va_A [(h0, .inr (4, [.ref rd, .ref dr, .ref kp, .ref pl, .ref tx, .ref nu, .ref rf_a, .int 0, .int 0, .int (-1)])), (rd, .inr (2, [.int 1, .int 400, .int 80, .int 2, .int 30, .int 0, .ref r0, .ref r1])), (r0, .inl (cI, 7, .inl (fun _ => 0))), (rf_a, .inl (cI, 7, .inl (fun _ => 0)))] sz)) 0 0 (va_A [(h0, .inr (4, [.ref rd, .ref dr, .ref kp, .ref pl, .ref tx, .ref nu, .ref rf_a, .int 0, .int 0, .int (-1)])), (rd, .inr (2, [.int 1, .int 400, .int 80, .int 2, .int 30, .int 0, .ref r0, .ref r1])), (r0, .inl (cI, 7, .inl (fun _ => 0))), (rf_a, .inl (cI, 7, .inl (fun _ => 0)))] sz) := by
  refine Met.ofW (cc := cX4_back) (maxL := 3) (ret := (some .int)) (by decide) rfl ?_
  intro p e s m args below meth c s₁ B hml hv
  obtain ⟨rfl, hsz, hP, hK, hD0⟩ := hv
  have hx := B.exec
  have hb := B.bytes
  have hr := B.returns
  have hts := atoms_spec (ws := wsX4_back) B.pre
  have hown : s.vm.findClass RX4 = some m.cls := findClass_of_methodNamed B.named
  have hlocks := B.notSynchronized
  have hwX2 : ∀ w ∈ u_ws RX2 TX2 8, w ∈ wsX4_back := fun _ h => List.mem_cons_of_mem _ (List.mem_append_right _ h)
  have hwX4 : ∀ w ∈ u_ws RX4 TX4 10, w ∈ wsX4_back := fun _ h => List.mem_cons_of_mem _ (List.mem_append_left _ (List.mem_append_right _ h))
  subst hsz
  have hD := hD0.self (sz := s.heap.size)
  generalize hAe : va_A [(h0, .inr (4, [.ref rd, .ref dr, .ref kp, .ref pl, .ref tx, .ref nu, .ref rf_a, .int 0, .int 0, .int (-1)])), (rd, .inr (2, [.int 1, .int 400, .int 80, .int 2, .int 30, .int 0, .ref r0, .ref r1])), (r0, .inl (cI, 7, .inl (fun _ => 0))), (rf_a, .inl (cI, 7, .inl (fun _ => 0)))] s.heap.size = A at hD ⊢
  have hA : ∀ q : Nat, s.heap.size ≤ q → A q := fun q h => by rw [← hAe]; exact Or.inr h
  have hS : va_S A s.heap s.heap [] := va_S.rf
  have hP : va_P D vwCl [(h0, .inr (4, [.ref rd, .ref dr, .ref kp, .ref pl, .ref tx, .ref nu, .ref rf_a, .int 0, .int 0, .int (-1)])), (rd, .inr (2, [.int 1, .int 400, .int 80, .int 2, .int 30, .int 0, .ref r0, .ref r1])), (r0, .inl (cI, 7, .inl (fun _ => 0))), (rf_a, .inl (cI, 7, .inl (fun _ => 0)))] s.heap := hP
  have hl := lv_entry ([.ref h0, .int a1, .int a2]) (n := 3) (Nat.le_of_ble_eq_true rfl)
  rw [lg_entry_eq]
  generalize (lg_sl ([.ref h0, .int a1, .int a2]) ++ List.replicate (3 - (lg_sl ([.ref h0, .int a1, .int a2])).length) Slot.unset).toArray = ls at hl ⊢
  have hl : lv_has ls 3 [(0, .ref h0), (1, .int a1), (2, .int a2)] := hl
  by_cases h_1 : a1 < 0
  · refine lv_aload_n hx hb dX4_back_0 rfl (lv_at hl 0 rfl) ?_
    refine lv_iload_n hx hb dX4_back_1 rfl (lv_at hl 1 rfl) ?_
    have hPc := hP.sub (ws' := [(h0, .inr (4, [.ref rd, .ref dr, .ref kp, .ref pl, .ref tx, .ref nu, .ref rf_a, .int 0, .int 0, .int (-1)])), (rd, .inr (2, [.int 1, .int 400, .int 80, .int 2, .int 30, .int 0, .ref r0, .ref r1]))]) [0, 1] rfl
    refine vp_callSi (va_Run.run (va_runV (As := [.int a1]) (rest := []) ⟨hx, hb, hml, hown, hts⟩ (c_X4_noStop l D cI cL cZ cC h0 rd dr kp pl tx nu rf_a r0 r1 a1 ) (cwV 1 hts gX4_back_X4_noStop rfl rfl rfl (by decide +kernel) ⟨Nat.le_of_ble_eq_true rfl, Nat.le_of_ble_eq_true rfl⟩) ⟨xPc_bl, va_recv hK hPc (ci := 4) (q0 := 0) rfl rfl, xPc_use hPc hK⟩ rfl rfl hl.1 rfl (lv_room (Nat.le_of_ble_eq_true rfl)) dX4_back_2 ⟨Nat.le_of_ble_eq_true rfl, Nat.le_of_ble_eq_true rfl⟩)) (fun r_1 er_1 => ?_)
    obtain rfl : (if a1 < 0 then 1 else if a1 < 1 then 0 else 1 : Int32) = r_1 := Eq.symm er_1
    refine xv_int (y := 1) (if_pos h_1) ?_
    refine lv_if_eq (tgt := 14) hx hb dX4_back_5 (by decide) (fun c_2 => absurd c_2 (by decide +kernel)) (fun c_2 => ?_)
    refine lv_aload_n hx hb dX4_back_8 rfl (lv_at hl 0 rfl) ?_
    refine lv_iconst (v := -1) hx hb dX4_back_9 (by decide) ?_
    have hPc := hP.sub (ws' := [(h0, .inr (4, [.ref rd, .ref dr, .ref kp, .ref pl, .ref tx, .ref nu, .ref rf_a, .int 0, .int 0, .int (-1)])), (rf_a, .inl (cI, 7, .inl (fun _ => 0)))]) [0, 3] rfl
    have hDc := hD.sub (ws' := [(h0, .inr (4, [.ref rd, .ref dr, .ref kp, .ref pl, .ref tx, .ref nu, .ref rf_a, .int 0, .int 0, .int (-1)])), (rf_a, .inl (cI, 7, .inl (fun _ => 0)))]) [0, 3] (by decide) rfl
    have hFc := va_free (wc := [(h0, .inr (4, [.ref rd, .ref dr, .ref kp, .ref pl, .ref tx, .ref nu, .ref rf_a, .int 0, .int 0, .int (-1)])), (rf_a, .inl (cI, 7, .inl (fun _ => 0)))]) hD hS hA [0, 3] rfl
    refine va_calli (va_runV (As := [.int (-1)]) (rest := []) ⟨hx, hb, hml, hown, hts⟩ (c_X4_refuse l D cI cL cZ cC _ h0 rd dr kp pl tx nu rf_a 0 0 (-1) (fun _ => 0) (-1) (by first | assumption | decide +kernel) (by first | assumption | decide +kernel)) (cwV 1 hts gX4_back_X4_refuse rfl rfl rfl (by decide +kernel) ⟨Nat.le_of_ble_eq_true rfl, Nat.le_of_ble_eq_true rfl⟩) ⟨wPc_bl, va_recv hK hPc (ci := 4) (q0 := 0) rfl rfl, wPc_use hPc hK hDc⟩ rfl rfl hl.1 rfl (lv_room (Nat.le_of_ble_eq_true rfl)) dX4_back_10 ⟨Nat.le_of_ble_eq_true rfl, Nat.le_of_ble_eq_true rfl⟩) hS (fun q _ h => hFc q h) hFc (fun r_3 u_3 t H1 locs ht hvm hw hB hz1 hk1 hS => ?_)
    obtain ⟨hP1, hD1⟩ := hB
    rw [ht] at hP1
    obtain ⟨hP, hD⟩ := va_join (wr := [(rd, .inr (2, [.int 1, .int 400, .int 80, .int 2, .int 30, .int 0, .ref r0, .ref r1])), (r0, .inl (cI, 7, .inl (fun _ => 0)))]) (w1 := [(h0, .inr (4, [.ref rd, .ref dr, .ref kp, .ref pl, .ref tx, .ref nu, .ref rf_a, .int 0, .int 0, .int (-1)])), (rf_a, .inl (cI, 7, .inl (xRf (fun _ => 0) (-1))))]) hP hD [0, 3] [1, 2] rfl rfl (by decide) (by decide) hk1 hFc hP1 hD1
    generalize H1 = H at hP hS ⊢
    have hP : va_P D vwCl [(rd, .inr (2, [.int 1, .int 400, .int 80, .int 2, .int 30, .int 0, .ref r0, .ref r1])), (r0, .inl (cI, 7, .inl (fun _ => 0))), (h0, .inr (4, [.ref rd, .ref dr, .ref kp, .ref pl, .ref tx, .ref nu, .ref rf_a, .int 0, .int 0, .int (-1)])), (rf_a, .inl (cI, 7, .inl (xRf (fun _ => 0) (-1))))] H := hP
    have hD : va_D A [(rd, .inr (2, [.int 1, .int 400, .int 80, .int 2, .int 30, .int 0, .ref r0, .ref r1])), (r0, .inl (cI, 7, .inl (fun _ => 0))), (h0, .inr (4, [.ref rd, .ref dr, .ref kp, .ref pl, .ref tx, .ref nu, .ref rf_a, .int 0, .int 0, .int (-1)])), (rf_a, .inl (cI, 7, .inl (xRf (fun _ => 0) (-1))))] := hD
    obtain rfl : ((-1) : Int32) = r_3 := Eq.symm hw
    have hP9 := hP.sub (ws' := []) [] rfl
    have hD9 := hD.sub (ws' := []) [] (by decide) rfl
    exact W.iret (v := -1) hx hb hr (fun t ht hW => ⟨⟨_, (), rfl, by simp [sBack0, h_1, c_2], by rw [ht]; exact hP9, hD9⟩, hS.F ht⟩) hS.2.2 dX4_back_13
  by_cases h_2 : 1 ≤ a1
  · refine lv_aload_n hx hb dX4_back_0 rfl (lv_at hl 0 rfl) ?_
    refine lv_iload_n hx hb dX4_back_1 rfl (lv_at hl 1 rfl) ?_
    have hPc := hP.sub (ws' := [(h0, .inr (4, [.ref rd, .ref dr, .ref kp, .ref pl, .ref tx, .ref nu, .ref rf_a, .int 0, .int 0, .int (-1)])), (rd, .inr (2, [.int 1, .int 400, .int 80, .int 2, .int 30, .int 0, .ref r0, .ref r1]))]) [0, 1] rfl
    refine vp_callSi (va_Run.run (va_runV (As := [.int a1]) (rest := []) ⟨hx, hb, hml, hown, hts⟩ (c_X4_noStop l D cI cL cZ cC h0 rd dr kp pl tx nu rf_a r0 r1 a1 ) (cwV 1 hts gX4_back_X4_noStop rfl rfl rfl (by decide +kernel) ⟨Nat.le_of_ble_eq_true rfl, Nat.le_of_ble_eq_true rfl⟩) ⟨xPc_bl, va_recv hK hPc (ci := 4) (q0 := 0) rfl rfl, xPc_use hPc hK⟩ rfl rfl hl.1 rfl (lv_room (Nat.le_of_ble_eq_true rfl)) dX4_back_2 ⟨Nat.le_of_ble_eq_true rfl, Nat.le_of_ble_eq_true rfl⟩)) (fun r_4 er_4 => ?_)
    obtain rfl : (if a1 < 0 then 1 else if a1 < 1 then 0 else 1 : Int32) = r_4 := Eq.symm er_4
    refine xv_int (y := 1) (by rw [if_neg h_1, if_neg (Int32.not_lt.mpr h_2)]) ?_
    refine lv_if_eq (tgt := 14) hx hb dX4_back_5 (by decide) (fun c_5 => absurd c_5 (by decide +kernel)) (fun c_5 => ?_)
    refine lv_aload_n hx hb dX4_back_8 rfl (lv_at hl 0 rfl) ?_
    refine lv_iconst (v := -1) hx hb dX4_back_9 (by decide) ?_
    have hPc := hP.sub (ws' := [(h0, .inr (4, [.ref rd, .ref dr, .ref kp, .ref pl, .ref tx, .ref nu, .ref rf_a, .int 0, .int 0, .int (-1)])), (rf_a, .inl (cI, 7, .inl (fun _ => 0)))]) [0, 3] rfl
    have hDc := hD.sub (ws' := [(h0, .inr (4, [.ref rd, .ref dr, .ref kp, .ref pl, .ref tx, .ref nu, .ref rf_a, .int 0, .int 0, .int (-1)])), (rf_a, .inl (cI, 7, .inl (fun _ => 0)))]) [0, 3] (by decide) rfl
    have hFc := va_free (wc := [(h0, .inr (4, [.ref rd, .ref dr, .ref kp, .ref pl, .ref tx, .ref nu, .ref rf_a, .int 0, .int 0, .int (-1)])), (rf_a, .inl (cI, 7, .inl (fun _ => 0)))]) hD hS hA [0, 3] rfl
    refine va_calli (va_runV (As := [.int (-1)]) (rest := []) ⟨hx, hb, hml, hown, hts⟩ (c_X4_refuse l D cI cL cZ cC _ h0 rd dr kp pl tx nu rf_a 0 0 (-1) (fun _ => 0) (-1) (by first | assumption | decide +kernel) (by first | assumption | decide +kernel)) (cwV 1 hts gX4_back_X4_refuse rfl rfl rfl (by decide +kernel) ⟨Nat.le_of_ble_eq_true rfl, Nat.le_of_ble_eq_true rfl⟩) ⟨wPc_bl, va_recv hK hPc (ci := 4) (q0 := 0) rfl rfl, wPc_use hPc hK hDc⟩ rfl rfl hl.1 rfl (lv_room (Nat.le_of_ble_eq_true rfl)) dX4_back_10 ⟨Nat.le_of_ble_eq_true rfl, Nat.le_of_ble_eq_true rfl⟩) hS (fun q _ h => hFc q h) hFc (fun r_6 u_6 t H1 locs ht hvm hw hB hz1 hk1 hS => ?_)
    obtain ⟨hP1, hD1⟩ := hB
    rw [ht] at hP1
    obtain ⟨hP, hD⟩ := va_join (wr := [(rd, .inr (2, [.int 1, .int 400, .int 80, .int 2, .int 30, .int 0, .ref r0, .ref r1])), (r0, .inl (cI, 7, .inl (fun _ => 0)))]) (w1 := [(h0, .inr (4, [.ref rd, .ref dr, .ref kp, .ref pl, .ref tx, .ref nu, .ref rf_a, .int 0, .int 0, .int (-1)])), (rf_a, .inl (cI, 7, .inl (xRf (fun _ => 0) (-1))))]) hP hD [0, 3] [1, 2] rfl rfl (by decide) (by decide) hk1 hFc hP1 hD1
    generalize H1 = H at hP hS ⊢
    have hP : va_P D vwCl [(rd, .inr (2, [.int 1, .int 400, .int 80, .int 2, .int 30, .int 0, .ref r0, .ref r1])), (r0, .inl (cI, 7, .inl (fun _ => 0))), (h0, .inr (4, [.ref rd, .ref dr, .ref kp, .ref pl, .ref tx, .ref nu, .ref rf_a, .int 0, .int 0, .int (-1)])), (rf_a, .inl (cI, 7, .inl (xRf (fun _ => 0) (-1))))] H := hP
    have hD : va_D A [(rd, .inr (2, [.int 1, .int 400, .int 80, .int 2, .int 30, .int 0, .ref r0, .ref r1])), (r0, .inl (cI, 7, .inl (fun _ => 0))), (h0, .inr (4, [.ref rd, .ref dr, .ref kp, .ref pl, .ref tx, .ref nu, .ref rf_a, .int 0, .int 0, .int (-1)])), (rf_a, .inl (cI, 7, .inl (xRf (fun _ => 0) (-1))))] := hD
    obtain rfl : ((-1) : Int32) = r_6 := Eq.symm hw
    have hP9 := hP.sub (ws' := []) [] rfl
    have hD9 := hD.sub (ws' := []) [] (by decide) rfl
    exact W.iret (v := -1) hx hb hr (fun t ht hW => ⟨⟨_, (), rfl, by simp [sBack0, h_1, h_2, c_5], by rw [ht]; exact hP9, hD9⟩, hS.F ht⟩) hS.2.2 dX4_back_13
  obtain rfl : a1 = 0 := xz1 h_1 h_2
  refine lv_aload_n hx hb dX4_back_0 rfl (lv_at hl 0 rfl) ?_
  refine lv_iload_n hx hb dX4_back_1 rfl (lv_at hl 1 rfl) ?_
  have hPc := hP.sub (ws' := [(h0, .inr (4, [.ref rd, .ref dr, .ref kp, .ref pl, .ref tx, .ref nu, .ref rf_a, .int 0, .int 0, .int (-1)])), (rd, .inr (2, [.int 1, .int 400, .int 80, .int 2, .int 30, .int 0, .ref r0, .ref r1]))]) [0, 1] rfl
  refine vp_callSi (va_Run.run (va_runV (As := [.int 0]) (rest := []) ⟨hx, hb, hml, hown, hts⟩ (c_X4_noStop l D cI cL cZ cC h0 rd dr kp pl tx nu rf_a r0 r1 0 ) (cwV 1 hts gX4_back_X4_noStop rfl rfl rfl (by decide +kernel) ⟨Nat.le_of_ble_eq_true rfl, Nat.le_of_ble_eq_true rfl⟩) ⟨xPc_bl, va_recv hK hPc (ci := 4) (q0 := 0) rfl rfl, xPc_use hPc hK⟩ rfl rfl hl.1 rfl (lv_room (Nat.le_of_ble_eq_true rfl)) dX4_back_2 ⟨Nat.le_of_ble_eq_true rfl, Nat.le_of_ble_eq_true rfl⟩)) (fun r_7 er_7 => ?_)
  obtain rfl : (if (0 : Int32) < 0 then 1 else if (0 : Int32) < 1 then 0 else 1 : Int32) = r_7 := Eq.symm er_7
  refine xv_int (y := 0) (by decide +kernel) ?_
  refine lv_if_eq (tgt := 14) hx hb dX4_back_5 (by decide) (fun c_8 => ?_) (fun c_8 => absurd c_8 (by decide +kernel))
  refine lv_iload_n hx hb dX4_back_14 rfl (lv_at hl 2 rfl) ?_
  refine lv_if_ge (tgt := 25) hx hb dX4_back_15 (by decide) (fun c_9 => ?_) (fun c_9 => ?_)
  · refine lv_iload_n hx hb dX4_back_25 rfl (lv_at hl 2 rfl) ?_
    refine lv_bipush (v := 30) hx hb dX4_back_26 (by decide) ?_
    refine lv_icmp_le (tgt := 38) hx hb dX4_back_28 (by decide) (fun c_10 => ?_) (fun c_10 => ?_)
    · refine lv_iload_n hx hb dX4_back_38 rfl (lv_at hl 2 rfl) ?_
      refine lv_aload_n hx hb dX4_back_39 rfl (lv_at hl 0 rfl) ?_
      refine va_get (D := D) (ci := 4) (v := .ref rd) (C := RX4) (T := TX4) (N := 10) hx hb hts hwX4 hown hK hP 0 rfl rfl 0 (by decide) (hts (.fieldLink RX4 10 "WaitOrWalkOn" "road" "LWaitOrWalkOn$Road;") (by decide +kernel)) (fun _ h9 => h9) rfl dX4_back_40 ?_
      refine va_get (D := D) (ci := 2) (v := .int 80) (C := RX2) (T := TX2) (N := 8) hx hb hts hwX2 hown hK hP 1 rfl rfl 2 (by decide) (hts (.fieldLink RX4 182 "WaitOrWalkOn$Road" "pace" "I") (by decide +kernel)) (fun _ h9 => h9) rfl dX4_back_43 ?_
      refine lv_imul hx hb dX4_back_46 ?_
      refine lv_aload_n hx hb dX4_back_47 rfl (lv_at hl 0 rfl) ?_
      refine va_get (D := D) (ci := 4) (v := .ref rd) (C := RX4) (T := TX4) (N := 10) hx hb hts hwX4 hown hK hP 0 rfl rfl 0 (by decide) (hts (.fieldLink RX4 10 "WaitOrWalkOn" "road" "LWaitOrWalkOn$Road;") (by decide +kernel)) (fun _ h9 => h9) rfl dX4_back_48 ?_
      refine lv_iload_n hx hb dX4_back_51 rfl (lv_at hl 1 rfl) ?_
      have hPc := hP.sub (ws' := [(rd, .inr (2, [.int 1, .int 400, .int 80, .int 2, .int 30, .int 0, .ref r0, .ref r1]))]) [1] rfl
      refine vp_callSi (va_Run.run (va_runV (As := [.int 0]) (rest := [.int (a2 * 80)]) ⟨hx, hb, hml, hown, hts⟩ (c_X2_yardsFrom l D cI cL cZ cC rd r0 r1 ) (cwV 1 hts gX4_back_X2_yardsFrom rfl rfl rfl (by decide +kernel) ⟨Nat.le_of_ble_eq_true rfl, Nat.le_of_ble_eq_true rfl⟩) ⟨xPc_bl, va_recv hK hPc (ci := 2) (q0 := 0) rfl rfl, xPc_use hPc hK⟩ rfl rfl hl.1 rfl (lv_room (Nat.le_of_ble_eq_true rfl)) dX4_back_52 ⟨Nat.le_of_ble_eq_true rfl, Nat.le_of_ble_eq_true rfl⟩)) (fun r_11 er_11 => ?_)
      obtain rfl : (400 : Int32) = r_11 := Eq.symm er_11
      refine va_mmin hx hb (hml.trans hl.1.symm) hown (hts (.methodLink RX4 188 Lib.Math.min.name) (by decide +kernel)) (hts (.static Lib.Math.min.name) (by decide +kernel)) (hts (.initialized "java/lang/Math") (by decide +kernel)) (hts (.code Lib.Math.min.name Lib.Math.min.code 2 (some .int)) (by decide +kernel)) (Nat.le_of_ble_eq_true rfl) (Nat.le_of_ble_eq_true rfl) (Nat.le_of_ble_eq_true rfl) (Nat.le_of_ble_eq_true rfl) dX4_back_55 ?_
      have hP9 := hP.sub (ws' := []) [] rfl
      have hD9 := hD.sub (ws' := []) [] (by decide) rfl
      exact W.iret (v := if 400 < a2 * 80 then 400 else a2 * 80) hx hb hr (fun t ht hW => ⟨⟨_, (), rfl, by simp [sBack0, c_8, (Int32.not_lt.mpr c_9), (Int32.not_lt.mpr c_10)], by rw [ht]; exact hP9, hD9⟩, hS.F ht⟩) hS.2.2 dX4_back_58
    · refine lv_aload_n hx hb dX4_back_31 rfl (lv_at hl 0 rfl) ?_
      refine lv_bipush (v := -6) hx hb dX4_back_32 (by decide) ?_
      have hPc := hP.sub (ws' := [(h0, .inr (4, [.ref rd, .ref dr, .ref kp, .ref pl, .ref tx, .ref nu, .ref rf_a, .int 0, .int 0, .int (-1)])), (rf_a, .inl (cI, 7, .inl (fun _ => 0)))]) [0, 3] rfl
      have hDc := hD.sub (ws' := [(h0, .inr (4, [.ref rd, .ref dr, .ref kp, .ref pl, .ref tx, .ref nu, .ref rf_a, .int 0, .int 0, .int (-1)])), (rf_a, .inl (cI, 7, .inl (fun _ => 0)))]) [0, 3] (by decide) rfl
      have hFc := va_free (wc := [(h0, .inr (4, [.ref rd, .ref dr, .ref kp, .ref pl, .ref tx, .ref nu, .ref rf_a, .int 0, .int 0, .int (-1)])), (rf_a, .inl (cI, 7, .inl (fun _ => 0)))]) hD hS hA [0, 3] rfl
      refine va_calli (va_runV (As := [.int (-6)]) (rest := []) ⟨hx, hb, hml, hown, hts⟩ (c_X4_refuse l D cI cL cZ cC _ h0 rd dr kp pl tx nu rf_a 0 0 (-1) (fun _ => 0) (-6) (by first | assumption | decide +kernel) (by first | assumption | decide +kernel)) (cwV 1 hts gX4_back_X4_refuse rfl rfl rfl (by decide +kernel) ⟨Nat.le_of_ble_eq_true rfl, Nat.le_of_ble_eq_true rfl⟩) ⟨wPc_bl, va_recv hK hPc (ci := 4) (q0 := 0) rfl rfl, wPc_use hPc hK hDc⟩ rfl rfl hl.1 rfl (lv_room (Nat.le_of_ble_eq_true rfl)) dX4_back_34 ⟨Nat.le_of_ble_eq_true rfl, Nat.le_of_ble_eq_true rfl⟩) hS (fun q _ h => hFc q h) hFc (fun r_12 u_12 t H1 locs ht hvm hw hB hz1 hk1 hS => ?_)
      obtain ⟨hP1, hD1⟩ := hB
      rw [ht] at hP1
      obtain ⟨hP, hD⟩ := va_join (wr := [(rd, .inr (2, [.int 1, .int 400, .int 80, .int 2, .int 30, .int 0, .ref r0, .ref r1])), (r0, .inl (cI, 7, .inl (fun _ => 0)))]) (w1 := [(h0, .inr (4, [.ref rd, .ref dr, .ref kp, .ref pl, .ref tx, .ref nu, .ref rf_a, .int 0, .int 0, .int (-1)])), (rf_a, .inl (cI, 7, .inl (xRf (fun _ => 0) (-6))))]) hP hD [0, 3] [1, 2] rfl rfl (by decide) (by decide) hk1 hFc hP1 hD1
      generalize H1 = H at hP hS ⊢
      have hP : va_P D vwCl [(rd, .inr (2, [.int 1, .int 400, .int 80, .int 2, .int 30, .int 0, .ref r0, .ref r1])), (r0, .inl (cI, 7, .inl (fun _ => 0))), (h0, .inr (4, [.ref rd, .ref dr, .ref kp, .ref pl, .ref tx, .ref nu, .ref rf_a, .int 0, .int 0, .int (-1)])), (rf_a, .inl (cI, 7, .inl (xRf (fun _ => 0) (-6))))] H := hP
      have hD : va_D A [(rd, .inr (2, [.int 1, .int 400, .int 80, .int 2, .int 30, .int 0, .ref r0, .ref r1])), (r0, .inl (cI, 7, .inl (fun _ => 0))), (h0, .inr (4, [.ref rd, .ref dr, .ref kp, .ref pl, .ref tx, .ref nu, .ref rf_a, .int 0, .int 0, .int (-1)])), (rf_a, .inl (cI, 7, .inl (xRf (fun _ => 0) (-6))))] := hD
      obtain rfl : ((-6) : Int32) = r_12 := Eq.symm hw
      have hP9 := hP.sub (ws' := []) [] rfl
      have hD9 := hD.sub (ws' := []) [] (by decide) rfl
      exact W.iret (v := -6) hx hb hr (fun t ht hW => ⟨⟨_, (), rfl, by simp [sBack0, c_8, (Int32.not_lt.mpr c_9), (Int32.not_le.mp c_10)], by rw [ht]; exact hP9, hD9⟩, hS.F ht⟩) hS.2.2 dX4_back_37
  · refine lv_aload_n hx hb dX4_back_18 rfl (lv_at hl 0 rfl) ?_
    refine lv_bipush (v := -4) hx hb dX4_back_19 (by decide) ?_
    have hPc := hP.sub (ws' := [(h0, .inr (4, [.ref rd, .ref dr, .ref kp, .ref pl, .ref tx, .ref nu, .ref rf_a, .int 0, .int 0, .int (-1)])), (rf_a, .inl (cI, 7, .inl (fun _ => 0)))]) [0, 3] rfl
    have hDc := hD.sub (ws' := [(h0, .inr (4, [.ref rd, .ref dr, .ref kp, .ref pl, .ref tx, .ref nu, .ref rf_a, .int 0, .int 0, .int (-1)])), (rf_a, .inl (cI, 7, .inl (fun _ => 0)))]) [0, 3] (by decide) rfl
    have hFc := va_free (wc := [(h0, .inr (4, [.ref rd, .ref dr, .ref kp, .ref pl, .ref tx, .ref nu, .ref rf_a, .int 0, .int 0, .int (-1)])), (rf_a, .inl (cI, 7, .inl (fun _ => 0)))]) hD hS hA [0, 3] rfl
    refine va_calli (va_runV (As := [.int (-4)]) (rest := []) ⟨hx, hb, hml, hown, hts⟩ (c_X4_refuse l D cI cL cZ cC _ h0 rd dr kp pl tx nu rf_a 0 0 (-1) (fun _ => 0) (-4) (by first | assumption | decide +kernel) (by first | assumption | decide +kernel)) (cwV 1 hts gX4_back_X4_refuse rfl rfl rfl (by decide +kernel) ⟨Nat.le_of_ble_eq_true rfl, Nat.le_of_ble_eq_true rfl⟩) ⟨wPc_bl, va_recv hK hPc (ci := 4) (q0 := 0) rfl rfl, wPc_use hPc hK hDc⟩ rfl rfl hl.1 rfl (lv_room (Nat.le_of_ble_eq_true rfl)) dX4_back_21 ⟨Nat.le_of_ble_eq_true rfl, Nat.le_of_ble_eq_true rfl⟩) hS (fun q _ h => hFc q h) hFc (fun r_13 u_13 t H1 locs ht hvm hw hB hz1 hk1 hS => ?_)
    obtain ⟨hP1, hD1⟩ := hB
    rw [ht] at hP1
    obtain ⟨hP, hD⟩ := va_join (wr := [(rd, .inr (2, [.int 1, .int 400, .int 80, .int 2, .int 30, .int 0, .ref r0, .ref r1])), (r0, .inl (cI, 7, .inl (fun _ => 0)))]) (w1 := [(h0, .inr (4, [.ref rd, .ref dr, .ref kp, .ref pl, .ref tx, .ref nu, .ref rf_a, .int 0, .int 0, .int (-1)])), (rf_a, .inl (cI, 7, .inl (xRf (fun _ => 0) (-4))))]) hP hD [0, 3] [1, 2] rfl rfl (by decide) (by decide) hk1 hFc hP1 hD1
    generalize H1 = H at hP hS ⊢
    have hP : va_P D vwCl [(rd, .inr (2, [.int 1, .int 400, .int 80, .int 2, .int 30, .int 0, .ref r0, .ref r1])), (r0, .inl (cI, 7, .inl (fun _ => 0))), (h0, .inr (4, [.ref rd, .ref dr, .ref kp, .ref pl, .ref tx, .ref nu, .ref rf_a, .int 0, .int 0, .int (-1)])), (rf_a, .inl (cI, 7, .inl (xRf (fun _ => 0) (-4))))] H := hP
    have hD : va_D A [(rd, .inr (2, [.int 1, .int 400, .int 80, .int 2, .int 30, .int 0, .ref r0, .ref r1])), (r0, .inl (cI, 7, .inl (fun _ => 0))), (h0, .inr (4, [.ref rd, .ref dr, .ref kp, .ref pl, .ref tx, .ref nu, .ref rf_a, .int 0, .int 0, .int (-1)])), (rf_a, .inl (cI, 7, .inl (xRf (fun _ => 0) (-4))))] := hD
    obtain rfl : ((-4) : Int32) = r_13 := Eq.symm hw
    have hP9 := hP.sub (ws' := []) [] rfl
    have hD9 := hD.sub (ws' := []) [] (by decide) rfl
    exact W.iret (v := -4) hx hb hr (fun t ht hW => ⟨⟨_, (), rfl, by simp [sBack0, c_8, (Int32.not_le.mp c_9)], by rw [ht]; exact hP9, hD9⟩, hS.F ht⟩) hS.2.2 dX4_back_24

set_option maxHeartbeats 4000000 in
set_option maxRecDepth 100000 in
theorem c_X2_least0 (l : Launch) (D : va_G) (cI cL cZ cC : ClassId)   : Met l yX2_least wsX2_least ({ frames := 0, cells := 0, slots := 0, locals := 0 } : Room) (xPc D [.int 0] [] (xTy cI cL cZ cC)) (vp_Si (fun r : Int32 => r = 0)) 0 0 (fun _ => False) := by
  refine Met.ofW (cc := cX2_least) (maxL := 1) (ret := (some .int)) (by decide) rfl ?_
  intro p e s m args below meth c s₁ B hml hv
  obtain ⟨rfl, hP, hK⟩ := hv
  have hx := B.exec
  have hb := B.bytes
  have hr := B.returns
  have hts := atoms_spec (ws := wsX2_least) B.pre
  have hown : s.vm.findClass RX2 = some m.cls := findClass_of_methodNamed B.named
  have hlocks := B.notSynchronized
  have hl := lv_entry ([.int 0]) (n := 1) (Nat.le_of_ble_eq_true rfl)
  rw [lg_entry_eq]
  generalize (lg_sl ([.int 0]) ++ List.replicate (1 - (lg_sl ([.int 0])).length) Slot.unset).toArray = ls at hl ⊢
  have hl : lv_has ls 1 [(0, .int 0)] := hl
  refine lv_iload_n hx hb dX2_least_0 rfl (lv_at hl 0 rfl) ?_
  refine lv_lookup (off := 32) (tgt := 33) hx hb dX2_least_1 (by decide +kernel) (by decide +kernel) (by decide) ?_
  refine lv_iconst (v := 0) hx hb dX2_least_33 (by decide) ?_
  exact W.iret (v := 0) hx hb hr (fun t ht hW => ⟨_, rfl, rfl, ht⟩) (fun _ h => absurd h List.not_mem_nil) dX2_least_34

set_option maxHeartbeats 4000000 in
set_option maxRecDepth 100000 in
theorem c_X2_most0 (l : Launch) (D : va_G) (cI cL cZ cC : ClassId)   : Met l yX2_most wsX2_most ({ frames := 0, cells := 0, slots := 0, locals := 0 } : Room) (xPc D [.int 0] [] (xTy cI cL cZ cC)) (vp_Si (fun r : Int32 => r = 999)) 0 0 (fun _ => False) := by
  refine Met.ofW (cc := cX2_most) (maxL := 1) (ret := (some .int)) (by decide) rfl ?_
  intro p e s m args below meth c s₁ B hml hv
  obtain ⟨rfl, hP, hK⟩ := hv
  have hx := B.exec
  have hb := B.bytes
  have hr := B.returns
  have hts := atoms_spec (ws := wsX2_most) B.pre
  have hown : s.vm.findClass RX2 = some m.cls := findClass_of_methodNamed B.named
  have hlocks := B.notSynchronized
  have hl := lv_entry ([.int 0]) (n := 1) (Nat.le_of_ble_eq_true rfl)
  rw [lg_entry_eq]
  generalize (lg_sl ([.int 0]) ++ List.replicate (1 - (lg_sl ([.int 0])).length) Slot.unset).toArray = ls at hl ⊢
  have hl : lv_has ls 1 [(0, .int 0)] := hl
  refine lv_iload_n hx hb dX2_most_0 rfl (lv_at hl 0 rfl) ?_
  refine lv_tableIn (off := 27) (tgt := 28) hx hb dX2_most_1 (by decide +kernel) (by decide +kernel) (by decide +kernel) (by decide) ?_
  refine lv_sipush (v := 999) hx hb dX2_most_28 (by decide) ?_
  exact W.iret (v := 999) hx hb hr (fun t ht hW => ⟨_, rfl, rfl, ht⟩) (fun _ h => absurd h List.not_mem_nil) dX2_most_31

set_option maxHeartbeats 4000000 in
set_option maxRecDepth 100000 in
theorem c_X2_setting0 (l : Launch) (D : va_G) (cI cL cZ cC : ClassId) (rd : Nat) (r0 : Nat) (r1 : Nat)  : Met l yX2_setting wsX2_setting ({ frames := 0, cells := 0, slots := 0, locals := 0 } : Room) (xPc D [.ref rd, .int 0] [(rd, .inr (2, [.int 1, .int 400, .int 80, .int 2, .int 30, .int 0, .ref r0, .ref r1]))] (xTy cI cL cZ cC)) (vp_Si (fun r : Int32 => r = 400)) 0 0 (fun _ => False) := by
  refine Met.ofW (cc := cX2_setting) (maxL := 2) (ret := (some .int)) (by decide) rfl ?_
  intro p e s m args below meth c s₁ B hml hv
  obtain ⟨rfl, hP, hK⟩ := hv
  have hx := B.exec
  have hb := B.bytes
  have hr := B.returns
  have hts := atoms_spec (ws := wsX2_setting) B.pre
  have hown : s.vm.findClass RX2 = some m.cls := findClass_of_methodNamed B.named
  have hlocks := B.notSynchronized
  have hwX2 : ∀ w ∈ u_ws RX2 TX2 8, w ∈ wsX2_setting := fun _ h => List.mem_cons_of_mem _ (List.mem_append_right _ h)
  have hl := lv_entry ([.ref rd, .int 0]) (n := 2) (Nat.le_of_ble_eq_true rfl)
  rw [lg_entry_eq]
  generalize (lg_sl ([.ref rd, .int 0]) ++ List.replicate (2 - (lg_sl ([.ref rd, .int 0])).length) Slot.unset).toArray = ls at hl ⊢
  have hl : lv_has ls 2 [(0, .ref rd), (1, .int 0)] := hl
  refine lv_iload_n hx hb dX2_setting_0 rfl (lv_at hl 1 rfl) ?_
  refine lv_tableIn (off := 27) (tgt := 28) hx hb dX2_setting_1 (by decide +kernel) (by decide +kernel) (by decide +kernel) (by decide) ?_
  refine lv_aload_n hx hb dX2_setting_28 rfl (lv_at hl 0 rfl) ?_
  refine va_get (D := D) (ci := 2) (v := .int 400) (C := RX2) (T := TX2) (N := 8) hx hb hts hwX2 hown hK hP 0 rfl rfl 1 (by decide) (hts (.fieldLink RX2 15 "WaitOrWalkOn$Road" "home" "I") (by decide +kernel)) (fun _ h9 => h9) rfl dX2_setting_29 ?_
  exact W.iret (v := 400) hx hb hr (fun t ht hW => ⟨_, rfl, rfl, ht⟩) (fun _ h => absurd h List.not_mem_nil) dX2_setting_32

set_option maxHeartbeats 4000000 in
set_option maxRecDepth 100000 in
theorem c_X2_least1 (l : Launch) (D : va_G) (cI cL cZ cC : ClassId)   : Met l yX2_least wsX2_least ({ frames := 0, cells := 0, slots := 0, locals := 0 } : Room) (xPc D [.int 1] [] (xTy cI cL cZ cC)) (vp_Si (fun r : Int32 => r = 20)) 0 0 (fun _ => False) := by
  refine Met.ofW (cc := cX2_least) (maxL := 1) (ret := (some .int)) (by decide) rfl ?_
  intro p e s m args below meth c s₁ B hml hv
  obtain ⟨rfl, hP, hK⟩ := hv
  have hx := B.exec
  have hb := B.bytes
  have hr := B.returns
  have hts := atoms_spec (ws := wsX2_least) B.pre
  have hown : s.vm.findClass RX2 = some m.cls := findClass_of_methodNamed B.named
  have hlocks := B.notSynchronized
  have hl := lv_entry ([.int 1]) (n := 1) (Nat.le_of_ble_eq_true rfl)
  rw [lg_entry_eq]
  generalize (lg_sl ([.int 1]) ++ List.replicate (1 - (lg_sl ([.int 1])).length) Slot.unset).toArray = ls at hl ⊢
  have hl : lv_has ls 1 [(0, .int 1)] := hl
  refine lv_iload_n hx hb dX2_least_0 rfl (lv_at hl 0 rfl) ?_
  refine lv_lookup (off := 27) (tgt := 28) hx hb dX2_least_1 (by decide +kernel) (by decide +kernel) (by decide) ?_
  refine lv_bipush (v := 20) hx hb dX2_least_28 (by decide) ?_
  exact W.iret (v := 20) hx hb hr (fun t ht hW => ⟨_, rfl, rfl, ht⟩) (fun _ h => absurd h List.not_mem_nil) dX2_least_30

set_option maxHeartbeats 4000000 in
set_option maxRecDepth 100000 in
theorem c_X2_most1 (l : Launch) (D : va_G) (cI cL cZ cC : ClassId)   : Met l yX2_most wsX2_most ({ frames := 0, cells := 0, slots := 0, locals := 0 } : Room) (xPc D [.int 1] [] (xTy cI cL cZ cC)) (vp_Si (fun r : Int32 => r = 200)) 0 0 (fun _ => False) := by
  refine Met.ofW (cc := cX2_most) (maxL := 1) (ret := (some .int)) (by decide) rfl ?_
  intro p e s m args below meth c s₁ B hml hv
  obtain ⟨rfl, hP, hK⟩ := hv
  have hx := B.exec
  have hb := B.bytes
  have hr := B.returns
  have hts := atoms_spec (ws := wsX2_most) B.pre
  have hown : s.vm.findClass RX2 = some m.cls := findClass_of_methodNamed B.named
  have hlocks := B.notSynchronized
  have hl := lv_entry ([.int 1]) (n := 1) (Nat.le_of_ble_eq_true rfl)
  rw [lg_entry_eq]
  generalize (lg_sl ([.int 1]) ++ List.replicate (1 - (lg_sl ([.int 1])).length) Slot.unset).toArray = ls at hl ⊢
  have hl : lv_has ls 1 [(0, .int 1)] := hl
  refine lv_iload_n hx hb dX2_most_0 rfl (lv_at hl 0 rfl) ?_
  refine lv_tableIn (off := 31) (tgt := 32) hx hb dX2_most_1 (by decide +kernel) (by decide +kernel) (by decide +kernel) (by decide) ?_
  refine lv_sipush (v := 200) hx hb dX2_most_32 (by decide) ?_
  exact W.iret (v := 200) hx hb hr (fun t ht hW => ⟨_, rfl, rfl, ht⟩) (fun _ h => absurd h List.not_mem_nil) dX2_most_35

set_option maxHeartbeats 4000000 in
set_option maxRecDepth 100000 in
theorem c_X2_setting1 (l : Launch) (D : va_G) (cI cL cZ cC : ClassId) (rd : Nat) (r0 : Nat) (r1 : Nat)  : Met l yX2_setting wsX2_setting ({ frames := 0, cells := 0, slots := 0, locals := 0 } : Room) (xPc D [.ref rd, .int 1] [(rd, .inr (2, [.int 1, .int 400, .int 80, .int 2, .int 30, .int 0, .ref r0, .ref r1]))] (xTy cI cL cZ cC)) (vp_Si (fun r : Int32 => r = 80)) 0 0 (fun _ => False) := by
  refine Met.ofW (cc := cX2_setting) (maxL := 2) (ret := (some .int)) (by decide) rfl ?_
  intro p e s m args below meth c s₁ B hml hv
  obtain ⟨rfl, hP, hK⟩ := hv
  have hx := B.exec
  have hb := B.bytes
  have hr := B.returns
  have hts := atoms_spec (ws := wsX2_setting) B.pre
  have hown : s.vm.findClass RX2 = some m.cls := findClass_of_methodNamed B.named
  have hlocks := B.notSynchronized
  have hwX2 : ∀ w ∈ u_ws RX2 TX2 8, w ∈ wsX2_setting := fun _ h => List.mem_cons_of_mem _ (List.mem_append_right _ h)
  have hl := lv_entry ([.ref rd, .int 1]) (n := 2) (Nat.le_of_ble_eq_true rfl)
  rw [lg_entry_eq]
  generalize (lg_sl ([.ref rd, .int 1]) ++ List.replicate (2 - (lg_sl ([.ref rd, .int 1])).length) Slot.unset).toArray = ls at hl ⊢
  have hl : lv_has ls 2 [(0, .ref rd), (1, .int 1)] := hl
  refine lv_iload_n hx hb dX2_setting_0 rfl (lv_at hl 1 rfl) ?_
  refine lv_tableIn (off := 32) (tgt := 33) hx hb dX2_setting_1 (by decide +kernel) (by decide +kernel) (by decide +kernel) (by decide) ?_
  refine lv_aload_n hx hb dX2_setting_33 rfl (lv_at hl 0 rfl) ?_
  refine va_get (D := D) (ci := 2) (v := .int 80) (C := RX2) (T := TX2) (N := 8) hx hb hts hwX2 hown hK hP 0 rfl rfl 2 (by decide) (hts (.fieldLink RX2 18 "WaitOrWalkOn$Road" "pace" "I") (by decide +kernel)) (fun _ h9 => h9) rfl dX2_setting_34 ?_
  exact W.iret (v := 80) hx hb hr (fun t ht hW => ⟨_, rfl, rfl, ht⟩) (fun _ h => absurd h List.not_mem_nil) dX2_setting_37

set_option maxHeartbeats 4000000 in
set_option maxRecDepth 100000 in
theorem c_X2_least2 (l : Launch) (D : va_G) (cI cL cZ cC : ClassId)   : Met l yX2_least wsX2_least ({ frames := 0, cells := 0, slots := 0, locals := 0 } : Room) (xPc D [.int 2] [] (xTy cI cL cZ cC)) (vp_Si (fun r : Int32 => r = 0)) 0 0 (fun _ => False) := by
  refine Met.ofW (cc := cX2_least) (maxL := 1) (ret := (some .int)) (by decide) rfl ?_
  intro p e s m args below meth c s₁ B hml hv
  obtain ⟨rfl, hP, hK⟩ := hv
  have hx := B.exec
  have hb := B.bytes
  have hr := B.returns
  have hts := atoms_spec (ws := wsX2_least) B.pre
  have hown : s.vm.findClass RX2 = some m.cls := findClass_of_methodNamed B.named
  have hlocks := B.notSynchronized
  have hl := lv_entry ([.int 2]) (n := 1) (Nat.le_of_ble_eq_true rfl)
  rw [lg_entry_eq]
  generalize (lg_sl ([.int 2]) ++ List.replicate (1 - (lg_sl ([.int 2])).length) Slot.unset).toArray = ls at hl ⊢
  have hl : lv_has ls 1 [(0, .int 2)] := hl
  refine lv_iload_n hx hb dX2_least_0 rfl (lv_at hl 0 rfl) ?_
  refine lv_lookup (off := 32) (tgt := 33) hx hb dX2_least_1 (by decide +kernel) (by decide +kernel) (by decide) ?_
  refine lv_iconst (v := 0) hx hb dX2_least_33 (by decide) ?_
  exact W.iret (v := 0) hx hb hr (fun t ht hW => ⟨_, rfl, rfl, ht⟩) (fun _ h => absurd h List.not_mem_nil) dX2_least_34

set_option maxHeartbeats 4000000 in
set_option maxRecDepth 100000 in
theorem c_X2_most2 (l : Launch) (D : va_G) (cI cL cZ cC : ClassId)   : Met l yX2_most wsX2_most ({ frames := 0, cells := 0, slots := 0, locals := 0 } : Room) (xPc D [.int 2] [] (xTy cI cL cZ cC)) (vp_Si (fun r : Int32 => r = 9)) 0 0 (fun _ => False) := by
  refine Met.ofW (cc := cX2_most) (maxL := 1) (ret := (some .int)) (by decide) rfl ?_
  intro p e s m args below meth c s₁ B hml hv
  obtain ⟨rfl, hP, hK⟩ := hv
  have hx := B.exec
  have hb := B.bytes
  have hr := B.returns
  have hts := atoms_spec (ws := wsX2_most) B.pre
  have hown : s.vm.findClass RX2 = some m.cls := findClass_of_methodNamed B.named
  have hlocks := B.notSynchronized
  have hl := lv_entry ([.int 2]) (n := 1) (Nat.le_of_ble_eq_true rfl)
  rw [lg_entry_eq]
  generalize (lg_sl ([.int 2]) ++ List.replicate (1 - (lg_sl ([.int 2])).length) Slot.unset).toArray = ls at hl ⊢
  have hl : lv_has ls 1 [(0, .int 2)] := hl
  refine lv_iload_n hx hb dX2_most_0 rfl (lv_at hl 0 rfl) ?_
  refine lv_tableIn (off := 35) (tgt := 36) hx hb dX2_most_1 (by decide +kernel) (by decide +kernel) (by decide +kernel) (by decide) ?_
  refine lv_bipush (v := 9) hx hb dX2_most_36 (by decide) ?_
  exact W.iret (v := 9) hx hb hr (fun t ht hW => ⟨_, rfl, rfl, ht⟩) (fun _ h => absurd h List.not_mem_nil) dX2_most_38

set_option maxHeartbeats 4000000 in
set_option maxRecDepth 100000 in
theorem c_X2_setting2 (l : Launch) (D : va_G) (cI cL cZ cC : ClassId) (rd : Nat) (r0 : Nat) (r1 : Nat)  : Met l yX2_setting wsX2_setting ({ frames := 0, cells := 0, slots := 0, locals := 0 } : Room) (xPc D [.ref rd, .int 2] [(rd, .inr (2, [.int 1, .int 400, .int 80, .int 2, .int 30, .int 0, .ref r0, .ref r1]))] (xTy cI cL cZ cC)) (vp_Si (fun r : Int32 => r = 2)) 0 0 (fun _ => False) := by
  refine Met.ofW (cc := cX2_setting) (maxL := 2) (ret := (some .int)) (by decide) rfl ?_
  intro p e s m args below meth c s₁ B hml hv
  obtain ⟨rfl, hP, hK⟩ := hv
  have hx := B.exec
  have hb := B.bytes
  have hr := B.returns
  have hts := atoms_spec (ws := wsX2_setting) B.pre
  have hown : s.vm.findClass RX2 = some m.cls := findClass_of_methodNamed B.named
  have hlocks := B.notSynchronized
  have hwX2 : ∀ w ∈ u_ws RX2 TX2 8, w ∈ wsX2_setting := fun _ h => List.mem_cons_of_mem _ (List.mem_append_right _ h)
  have hl := lv_entry ([.ref rd, .int 2]) (n := 2) (Nat.le_of_ble_eq_true rfl)
  rw [lg_entry_eq]
  generalize (lg_sl ([.ref rd, .int 2]) ++ List.replicate (2 - (lg_sl ([.ref rd, .int 2])).length) Slot.unset).toArray = ls at hl ⊢
  have hl : lv_has ls 2 [(0, .ref rd), (1, .int 2)] := hl
  refine lv_iload_n hx hb dX2_setting_0 rfl (lv_at hl 1 rfl) ?_
  refine lv_tableIn (off := 37) (tgt := 38) hx hb dX2_setting_1 (by decide +kernel) (by decide +kernel) (by decide +kernel) (by decide) ?_
  refine lv_aload_n hx hb dX2_setting_38 rfl (lv_at hl 0 rfl) ?_
  refine va_get (D := D) (ci := 2) (v := .int 2) (C := RX2) (T := TX2) (N := 8) hx hb hts hwX2 hown hK hP 0 rfl rfl 3 (by decide) (hts (.fieldLink RX2 21 "WaitOrWalkOn$Road" "sight" "I") (by decide +kernel)) (fun _ h9 => h9) rfl dX2_setting_39 ?_
  exact W.iret (v := 2) hx hb hr (fun t ht hW => ⟨_, rfl, rfl, ht⟩) (fun _ h => absurd h List.not_mem_nil) dX2_setting_42

set_option maxHeartbeats 4000000 in
set_option maxRecDepth 100000 in
theorem c_X2_least3 (l : Launch) (D : va_G) (cI cL cZ cC : ClassId)   : Met l yX2_least wsX2_least ({ frames := 0, cells := 0, slots := 0, locals := 0 } : Room) (xPc D [.int 3] [] (xTy cI cL cZ cC)) (vp_Si (fun r : Int32 => r = 1)) 0 0 (fun _ => False) := by
  refine Met.ofW (cc := cX2_least) (maxL := 1) (ret := (some .int)) (by decide) rfl ?_
  intro p e s m args below meth c s₁ B hml hv
  obtain ⟨rfl, hP, hK⟩ := hv
  have hx := B.exec
  have hb := B.bytes
  have hr := B.returns
  have hts := atoms_spec (ws := wsX2_least) B.pre
  have hown : s.vm.findClass RX2 = some m.cls := findClass_of_methodNamed B.named
  have hlocks := B.notSynchronized
  have hl := lv_entry ([.int 3]) (n := 1) (Nat.le_of_ble_eq_true rfl)
  rw [lg_entry_eq]
  generalize (lg_sl ([.int 3]) ++ List.replicate (1 - (lg_sl ([.int 3])).length) Slot.unset).toArray = ls at hl ⊢
  have hl : lv_has ls 1 [(0, .int 3)] := hl
  refine lv_iload_n hx hb dX2_least_0 rfl (lv_at hl 0 rfl) ?_
  refine lv_lookup (off := 30) (tgt := 31) hx hb dX2_least_1 (by decide +kernel) (by decide +kernel) (by decide) ?_
  refine lv_iconst (v := 1) hx hb dX2_least_31 (by decide) ?_
  exact W.iret (v := 1) hx hb hr (fun t ht hW => ⟨_, rfl, rfl, ht⟩) (fun _ h => absurd h List.not_mem_nil) dX2_least_32

set_option maxHeartbeats 4000000 in
set_option maxRecDepth 100000 in
theorem c_X2_most3 (l : Launch) (D : va_G) (cI cL cZ cC : ClassId)   : Met l yX2_most wsX2_most ({ frames := 0, cells := 0, slots := 0, locals := 0 } : Room) (xPc D [.int 3] [] (xTy cI cL cZ cC)) (vp_Si (fun r : Int32 => r = 60)) 0 0 (fun _ => False) := by
  refine Met.ofW (cc := cX2_most) (maxL := 1) (ret := (some .int)) (by decide) rfl ?_
  intro p e s m args below meth c s₁ B hml hv
  obtain ⟨rfl, hP, hK⟩ := hv
  have hx := B.exec
  have hb := B.bytes
  have hr := B.returns
  have hts := atoms_spec (ws := wsX2_most) B.pre
  have hown : s.vm.findClass RX2 = some m.cls := findClass_of_methodNamed B.named
  have hlocks := B.notSynchronized
  have hl := lv_entry ([.int 3]) (n := 1) (Nat.le_of_ble_eq_true rfl)
  rw [lg_entry_eq]
  generalize (lg_sl ([.int 3]) ++ List.replicate (1 - (lg_sl ([.int 3])).length) Slot.unset).toArray = ls at hl ⊢
  have hl : lv_has ls 1 [(0, .int 3)] := hl
  refine lv_iload_n hx hb dX2_most_0 rfl (lv_at hl 0 rfl) ?_
  refine lv_tableOut (tgt := 39) hx hb dX2_most_1 (by decide +kernel) (by decide) ?_
  refine lv_bipush (v := 60) hx hb dX2_most_39 (by decide) ?_
  exact W.iret (v := 60) hx hb hr (fun t ht hW => ⟨_, rfl, rfl, ht⟩) (fun _ h => absurd h List.not_mem_nil) dX2_most_41

set_option maxHeartbeats 4000000 in
set_option maxRecDepth 100000 in
theorem c_X2_setting3 (l : Launch) (D : va_G) (cI cL cZ cC : ClassId) (rd : Nat) (r0 : Nat) (r1 : Nat)  : Met l yX2_setting wsX2_setting ({ frames := 0, cells := 0, slots := 0, locals := 0 } : Room) (xPc D [.ref rd, .int 3] [(rd, .inr (2, [.int 1, .int 400, .int 80, .int 2, .int 30, .int 0, .ref r0, .ref r1]))] (xTy cI cL cZ cC)) (vp_Si (fun r : Int32 => r = 30)) 0 0 (fun _ => False) := by
  refine Met.ofW (cc := cX2_setting) (maxL := 2) (ret := (some .int)) (by decide) rfl ?_
  intro p e s m args below meth c s₁ B hml hv
  obtain ⟨rfl, hP, hK⟩ := hv
  have hx := B.exec
  have hb := B.bytes
  have hr := B.returns
  have hts := atoms_spec (ws := wsX2_setting) B.pre
  have hown : s.vm.findClass RX2 = some m.cls := findClass_of_methodNamed B.named
  have hlocks := B.notSynchronized
  have hwX2 : ∀ w ∈ u_ws RX2 TX2 8, w ∈ wsX2_setting := fun _ h => List.mem_cons_of_mem _ (List.mem_append_right _ h)
  have hl := lv_entry ([.ref rd, .int 3]) (n := 2) (Nat.le_of_ble_eq_true rfl)
  rw [lg_entry_eq]
  generalize (lg_sl ([.ref rd, .int 3]) ++ List.replicate (2 - (lg_sl ([.ref rd, .int 3])).length) Slot.unset).toArray = ls at hl ⊢
  have hl : lv_has ls 2 [(0, .ref rd), (1, .int 3)] := hl
  refine lv_iload_n hx hb dX2_setting_0 rfl (lv_at hl 1 rfl) ?_
  refine lv_tableOut (tgt := 43) hx hb dX2_setting_1 (by decide +kernel) (by decide) ?_
  refine lv_aload_n hx hb dX2_setting_43 rfl (lv_at hl 0 rfl) ?_
  refine va_get (D := D) (ci := 2) (v := .int 30) (C := RX2) (T := TX2) (N := 8) hx hb hts hwX2 hown hK hP 0 rfl rfl 4 (by decide) (hts (.fieldLink RX2 24 "WaitOrWalkOn$Road" "limit" "I") (by decide +kernel)) (fun _ h9 => h9) rfl dX2_setting_44 ?_
  exact W.iret (v := 30) hx hb hr (fun t ht hW => ⟨_, rfl, rfl, ht⟩) (fun _ h => absurd h List.not_mem_nil) dX2_setting_47

set_option maxHeartbeats 4000000 in
set_option maxRecDepth 100000 in
theorem c_X2_change0 (l : Launch) (D : va_G) (cI cL cZ cC : ClassId) (sz : Nat) (rd : Nat) (r0 : Nat) (r1 : Nat) (v : Int32) (h1 : ¬ v < 0) (h2 : ¬ 999 < v) : Met l yX2_change wsX2_change ({ frames := 1, cells := 0, slots := 0, locals := 20 } : Room) (wPc D [.ref rd, .int 0, .int v] [(rd, .inr (2, [.int 1, .int 400, .int 80, .int 2, .int 30, .int 0, .ref r0, .ref r1]))] (xTy cI cL cZ cC) sz) (va_Qi (fun (r : Int32) (_ : Unit) => r = 1) (fun (_ : Unit) t => va_P D vwCl [] t.heap ∧ va_D (va_A [(rd, .inr (2, [.int 1, .int 400, .int 80, .int 2, .int 30, .int 0, .ref r0, .ref r1]))] sz) []) (va_A [(rd, .inr (2, [.int 1, .int 400, .int 80, .int 2, .int 30, .int 0, .ref r0, .ref r1]))] sz)) 0 0 (va_A [(rd, .inr (2, [.int 1, .int 400, .int 80, .int 2, .int 30, .int 0, .ref r0, .ref r1]))] sz) := by
  refine Met.ofW (cc := cX2_change) (maxL := 3) (ret := (some .boolean)) (by decide) rfl ?_
  intro p e s m args below meth c s₁ B hml hv
  obtain ⟨rfl, hsz, hP, hK, hD0⟩ := hv
  have hx := B.exec
  have hb := B.bytes
  have hr := B.returns
  have hts := atoms_spec (ws := wsX2_change) B.pre
  have hown : s.vm.findClass RX2 = some m.cls := findClass_of_methodNamed B.named
  have hlocks := B.notSynchronized
  have hwX2 : ∀ w ∈ u_ws RX2 TX2 8, w ∈ wsX2_change := fun _ h => List.mem_cons_of_mem _ (List.mem_append_right _ h)
  subst hsz
  have hD := hD0.self (sz := s.heap.size)
  generalize hAe : va_A [(rd, .inr (2, [.int 1, .int 400, .int 80, .int 2, .int 30, .int 0, .ref r0, .ref r1]))] s.heap.size = A at hD ⊢
  have hA : ∀ q : Nat, s.heap.size ≤ q → A q := fun q h => by rw [← hAe]; exact Or.inr h
  have hS : va_S A s.heap s.heap [] := va_S.rf
  have hP : va_P D vwCl [(rd, .inr (2, [.int 1, .int 400, .int 80, .int 2, .int 30, .int 0, .ref r0, .ref r1]))] s.heap := hP
  have hl := lv_entry ([.ref rd, .int 0, .int v]) (n := 3) (Nat.le_of_ble_eq_true rfl)
  rw [lg_entry_eq]
  generalize (lg_sl ([.ref rd, .int 0, .int v]) ++ List.replicate (3 - (lg_sl ([.ref rd, .int 0, .int v])).length) Slot.unset).toArray = ls at hl ⊢
  have hl : lv_has ls 3 [(0, .ref rd), (1, .int 0), (2, .int v)] := hl
  refine lv_iload_n hx hb dX2_change_0 rfl (lv_at hl 2 rfl) ?_
  refine lv_iload_n hx hb dX2_change_1 rfl (lv_at hl 1 rfl) ?_
  have hPc := hP.sub (ws' := []) [] rfl
  refine vp_callSi (va_Run.run (va_runS (As := [.int 0]) (rest := [.int v]) ⟨hx, hb, hml, hown, hts⟩ (c_X2_least0 l D cI cL cZ cC  ) (va_cwS 1 hts gX2_change_X2_least rfl rfl rfl (by decide +kernel) ⟨Nat.le_of_ble_eq_true rfl, Nat.le_of_ble_eq_true rfl⟩) ⟨xPc_bl, xPc_use hPc hK⟩ rfl rfl hl.1 rfl (lv_room (Nat.le_of_ble_eq_true rfl)) dX2_change_2 ⟨Nat.le_of_ble_eq_true rfl, Nat.le_of_ble_eq_true rfl⟩)) (fun r_1 er_1 => ?_)
  obtain rfl : (0 : Int32) = r_1 := Eq.symm er_1
  refine lv_icmp_lt (tgt := 16) hx hb dX2_change_5 (by decide) (fun c_2 => absurd c_2 h1) (fun c_2 => ?_)
  refine lv_iload_n hx hb dX2_change_8 rfl (lv_at hl 2 rfl) ?_
  refine lv_iload_n hx hb dX2_change_9 rfl (lv_at hl 1 rfl) ?_
  have hPc := hP.sub (ws' := []) [] rfl
  refine vp_callSi (va_Run.run (va_runS (As := [.int 0]) (rest := [.int v]) ⟨hx, hb, hml, hown, hts⟩ (c_X2_most0 l D cI cL cZ cC  ) (va_cwS 1 hts gX2_change_X2_most rfl rfl rfl (by decide +kernel) ⟨Nat.le_of_ble_eq_true rfl, Nat.le_of_ble_eq_true rfl⟩) ⟨xPc_bl, xPc_use hPc hK⟩ rfl rfl hl.1 rfl (lv_room (Nat.le_of_ble_eq_true rfl)) dX2_change_10 ⟨Nat.le_of_ble_eq_true rfl, Nat.le_of_ble_eq_true rfl⟩)) (fun r_3 er_3 => ?_)
  obtain rfl : (999 : Int32) = r_3 := Eq.symm er_3
  refine lv_icmp_le (tgt := 18) hx hb dX2_change_13 (by decide) (fun c_4 => ?_) (fun c_4 => absurd (Int32.not_le.mp c_4) h2)
  refine lv_iload_n hx hb dX2_change_18 rfl (lv_at hl 1 rfl) ?_
  refine lv_tableIn (off := 25) (tgt := 44) hx hb dX2_change_19 (by decide +kernel) (by decide +kernel) (by decide +kernel) (by decide) ?_
  refine lv_aload_n hx hb dX2_change_44 rfl (lv_at hl 0 rfl) ?_
  refine lv_iload_n hx hb dX2_change_45 rfl (lv_at hl 2 rfl) ?_
  refine va_put (D := D) (ci := 2) (v := .int v) (ty := .int) (C := RX2) (T := TX2) (N := 8) hx hb hts hwX2 tyX2 tyX2_ok nmX2 hown hK hP hD hS 0 rfl rfl 1 (by decide) (hts (.fieldLink RX2 15 "WaitOrWalkOn$Road" "home" "I") (by decide +kernel)) (fun _ h9 => h9) rfl (by decide +kernel) rfl rfl (Nat.le_of_ble_eq_true rfl) dX2_change_46 (fun H locs hP hD hS => ?_)
  have hP : va_P D vwCl [(rd, .inr (2, [.int 1, .int v, .int 80, .int 2, .int 30, .int 0, .ref r0, .ref r1]))] H := hP
  have hD : va_D A [(rd, .inr (2, [.int 1, .int v, .int 80, .int 2, .int 30, .int 0, .ref r0, .ref r1]))] := hD
  refine lv_goto (tgt := 73) hx hb dX2_change_49 (by decide) ?_
  refine lv_iconst (v := 1) hx hb dX2_change_73 (by decide) ?_
  have hP9 := hP.sub (ws' := []) [] rfl
  have hD9 := hD.sub (ws' := []) [] (by decide) rfl
  exact W.zret (v := 1) (ty := .boolean) hx hb hr (by decide +kernel) (fun t ht hW => ⟨⟨_, (), rfl, rfl, by rw [ht]; exact hP9, hD9⟩, hS.F ht⟩) hS.2.2 dX2_change_74

set_option maxHeartbeats 4000000 in
set_option maxRecDepth 100000 in
theorem c_X2_change1 (l : Launch) (D : va_G) (cI cL cZ cC : ClassId) (sz : Nat) (rd : Nat) (r0 : Nat) (r1 : Nat) (v : Int32) (h1 : ¬ v < 20) (h2 : ¬ 200 < v) : Met l yX2_change wsX2_change ({ frames := 1, cells := 0, slots := 0, locals := 20 } : Room) (wPc D [.ref rd, .int 1, .int v] [(rd, .inr (2, [.int 1, .int 400, .int 80, .int 2, .int 30, .int 0, .ref r0, .ref r1]))] (xTy cI cL cZ cC) sz) (va_Qi (fun (r : Int32) (_ : Unit) => r = 1) (fun (_ : Unit) t => va_P D vwCl [] t.heap ∧ va_D (va_A [(rd, .inr (2, [.int 1, .int 400, .int 80, .int 2, .int 30, .int 0, .ref r0, .ref r1]))] sz) []) (va_A [(rd, .inr (2, [.int 1, .int 400, .int 80, .int 2, .int 30, .int 0, .ref r0, .ref r1]))] sz)) 0 0 (va_A [(rd, .inr (2, [.int 1, .int 400, .int 80, .int 2, .int 30, .int 0, .ref r0, .ref r1]))] sz) := by
  refine Met.ofW (cc := cX2_change) (maxL := 3) (ret := (some .boolean)) (by decide) rfl ?_
  intro p e s m args below meth c s₁ B hml hv
  obtain ⟨rfl, hsz, hP, hK, hD0⟩ := hv
  have hx := B.exec
  have hb := B.bytes
  have hr := B.returns
  have hts := atoms_spec (ws := wsX2_change) B.pre
  have hown : s.vm.findClass RX2 = some m.cls := findClass_of_methodNamed B.named
  have hlocks := B.notSynchronized
  have hwX2 : ∀ w ∈ u_ws RX2 TX2 8, w ∈ wsX2_change := fun _ h => List.mem_cons_of_mem _ (List.mem_append_right _ h)
  subst hsz
  have hD := hD0.self (sz := s.heap.size)
  generalize hAe : va_A [(rd, .inr (2, [.int 1, .int 400, .int 80, .int 2, .int 30, .int 0, .ref r0, .ref r1]))] s.heap.size = A at hD ⊢
  have hA : ∀ q : Nat, s.heap.size ≤ q → A q := fun q h => by rw [← hAe]; exact Or.inr h
  have hS : va_S A s.heap s.heap [] := va_S.rf
  have hP : va_P D vwCl [(rd, .inr (2, [.int 1, .int 400, .int 80, .int 2, .int 30, .int 0, .ref r0, .ref r1]))] s.heap := hP
  have hl := lv_entry ([.ref rd, .int 1, .int v]) (n := 3) (Nat.le_of_ble_eq_true rfl)
  rw [lg_entry_eq]
  generalize (lg_sl ([.ref rd, .int 1, .int v]) ++ List.replicate (3 - (lg_sl ([.ref rd, .int 1, .int v])).length) Slot.unset).toArray = ls at hl ⊢
  have hl : lv_has ls 3 [(0, .ref rd), (1, .int 1), (2, .int v)] := hl
  refine lv_iload_n hx hb dX2_change_0 rfl (lv_at hl 2 rfl) ?_
  refine lv_iload_n hx hb dX2_change_1 rfl (lv_at hl 1 rfl) ?_
  have hPc := hP.sub (ws' := []) [] rfl
  refine vp_callSi (va_Run.run (va_runS (As := [.int 1]) (rest := [.int v]) ⟨hx, hb, hml, hown, hts⟩ (c_X2_least1 l D cI cL cZ cC  ) (va_cwS 1 hts gX2_change_X2_least rfl rfl rfl (by decide +kernel) ⟨Nat.le_of_ble_eq_true rfl, Nat.le_of_ble_eq_true rfl⟩) ⟨xPc_bl, xPc_use hPc hK⟩ rfl rfl hl.1 rfl (lv_room (Nat.le_of_ble_eq_true rfl)) dX2_change_2 ⟨Nat.le_of_ble_eq_true rfl, Nat.le_of_ble_eq_true rfl⟩)) (fun r_1 er_1 => ?_)
  obtain rfl : (20 : Int32) = r_1 := Eq.symm er_1
  refine lv_icmp_lt (tgt := 16) hx hb dX2_change_5 (by decide) (fun c_2 => absurd c_2 h1) (fun c_2 => ?_)
  refine lv_iload_n hx hb dX2_change_8 rfl (lv_at hl 2 rfl) ?_
  refine lv_iload_n hx hb dX2_change_9 rfl (lv_at hl 1 rfl) ?_
  have hPc := hP.sub (ws' := []) [] rfl
  refine vp_callSi (va_Run.run (va_runS (As := [.int 1]) (rest := [.int v]) ⟨hx, hb, hml, hown, hts⟩ (c_X2_most1 l D cI cL cZ cC  ) (va_cwS 1 hts gX2_change_X2_most rfl rfl rfl (by decide +kernel) ⟨Nat.le_of_ble_eq_true rfl, Nat.le_of_ble_eq_true rfl⟩) ⟨xPc_bl, xPc_use hPc hK⟩ rfl rfl hl.1 rfl (lv_room (Nat.le_of_ble_eq_true rfl)) dX2_change_10 ⟨Nat.le_of_ble_eq_true rfl, Nat.le_of_ble_eq_true rfl⟩)) (fun r_3 er_3 => ?_)
  obtain rfl : (200 : Int32) = r_3 := Eq.symm er_3
  refine lv_icmp_le (tgt := 18) hx hb dX2_change_13 (by decide) (fun c_4 => ?_) (fun c_4 => absurd (Int32.not_le.mp c_4) h2)
  refine lv_iload_n hx hb dX2_change_18 rfl (lv_at hl 1 rfl) ?_
  refine lv_tableIn (off := 33) (tgt := 52) hx hb dX2_change_19 (by decide +kernel) (by decide +kernel) (by decide +kernel) (by decide) ?_
  refine lv_aload_n hx hb dX2_change_52 rfl (lv_at hl 0 rfl) ?_
  refine lv_iload_n hx hb dX2_change_53 rfl (lv_at hl 2 rfl) ?_
  refine va_put (D := D) (ci := 2) (v := .int v) (ty := .int) (C := RX2) (T := TX2) (N := 8) hx hb hts hwX2 tyX2 tyX2_ok nmX2 hown hK hP hD hS 0 rfl rfl 2 (by decide) (hts (.fieldLink RX2 18 "WaitOrWalkOn$Road" "pace" "I") (by decide +kernel)) (fun _ h9 => h9) rfl (by decide +kernel) rfl rfl (Nat.le_of_ble_eq_true rfl) dX2_change_54 (fun H locs hP hD hS => ?_)
  have hP : va_P D vwCl [(rd, .inr (2, [.int 1, .int 400, .int v, .int 2, .int 30, .int 0, .ref r0, .ref r1]))] H := hP
  have hD : va_D A [(rd, .inr (2, [.int 1, .int 400, .int v, .int 2, .int 30, .int 0, .ref r0, .ref r1]))] := hD
  refine lv_goto (tgt := 73) hx hb dX2_change_57 (by decide) ?_
  refine lv_iconst (v := 1) hx hb dX2_change_73 (by decide) ?_
  have hP9 := hP.sub (ws' := []) [] rfl
  have hD9 := hD.sub (ws' := []) [] (by decide) rfl
  exact W.zret (v := 1) (ty := .boolean) hx hb hr (by decide +kernel) (fun t ht hW => ⟨⟨_, (), rfl, rfl, by rw [ht]; exact hP9, hD9⟩, hS.F ht⟩) hS.2.2 dX2_change_74

set_option maxHeartbeats 4000000 in
set_option maxRecDepth 100000 in
theorem c_X2_change2 (l : Launch) (D : va_G) (cI cL cZ cC : ClassId) (sz : Nat) (rd : Nat) (r0 : Nat) (r1 : Nat) (v : Int32) (h1 : ¬ v < 0) (h2 : ¬ 9 < v) : Met l yX2_change wsX2_change ({ frames := 1, cells := 0, slots := 0, locals := 20 } : Room) (wPc D [.ref rd, .int 2, .int v] [(rd, .inr (2, [.int 1, .int 400, .int 80, .int 2, .int 30, .int 0, .ref r0, .ref r1]))] (xTy cI cL cZ cC) sz) (va_Qi (fun (r : Int32) (_ : Unit) => r = 1) (fun (_ : Unit) t => va_P D vwCl [] t.heap ∧ va_D (va_A [(rd, .inr (2, [.int 1, .int 400, .int 80, .int 2, .int 30, .int 0, .ref r0, .ref r1]))] sz) []) (va_A [(rd, .inr (2, [.int 1, .int 400, .int 80, .int 2, .int 30, .int 0, .ref r0, .ref r1]))] sz)) 0 0 (va_A [(rd, .inr (2, [.int 1, .int 400, .int 80, .int 2, .int 30, .int 0, .ref r0, .ref r1]))] sz) := by
  refine Met.ofW (cc := cX2_change) (maxL := 3) (ret := (some .boolean)) (by decide) rfl ?_
  intro p e s m args below meth c s₁ B hml hv
  obtain ⟨rfl, hsz, hP, hK, hD0⟩ := hv
  have hx := B.exec
  have hb := B.bytes
  have hr := B.returns
  have hts := atoms_spec (ws := wsX2_change) B.pre
  have hown : s.vm.findClass RX2 = some m.cls := findClass_of_methodNamed B.named
  have hlocks := B.notSynchronized
  have hwX2 : ∀ w ∈ u_ws RX2 TX2 8, w ∈ wsX2_change := fun _ h => List.mem_cons_of_mem _ (List.mem_append_right _ h)
  subst hsz
  have hD := hD0.self (sz := s.heap.size)
  generalize hAe : va_A [(rd, .inr (2, [.int 1, .int 400, .int 80, .int 2, .int 30, .int 0, .ref r0, .ref r1]))] s.heap.size = A at hD ⊢
  have hA : ∀ q : Nat, s.heap.size ≤ q → A q := fun q h => by rw [← hAe]; exact Or.inr h
  have hS : va_S A s.heap s.heap [] := va_S.rf
  have hP : va_P D vwCl [(rd, .inr (2, [.int 1, .int 400, .int 80, .int 2, .int 30, .int 0, .ref r0, .ref r1]))] s.heap := hP
  have hl := lv_entry ([.ref rd, .int 2, .int v]) (n := 3) (Nat.le_of_ble_eq_true rfl)
  rw [lg_entry_eq]
  generalize (lg_sl ([.ref rd, .int 2, .int v]) ++ List.replicate (3 - (lg_sl ([.ref rd, .int 2, .int v])).length) Slot.unset).toArray = ls at hl ⊢
  have hl : lv_has ls 3 [(0, .ref rd), (1, .int 2), (2, .int v)] := hl
  refine lv_iload_n hx hb dX2_change_0 rfl (lv_at hl 2 rfl) ?_
  refine lv_iload_n hx hb dX2_change_1 rfl (lv_at hl 1 rfl) ?_
  have hPc := hP.sub (ws' := []) [] rfl
  refine vp_callSi (va_Run.run (va_runS (As := [.int 2]) (rest := [.int v]) ⟨hx, hb, hml, hown, hts⟩ (c_X2_least2 l D cI cL cZ cC  ) (va_cwS 1 hts gX2_change_X2_least rfl rfl rfl (by decide +kernel) ⟨Nat.le_of_ble_eq_true rfl, Nat.le_of_ble_eq_true rfl⟩) ⟨xPc_bl, xPc_use hPc hK⟩ rfl rfl hl.1 rfl (lv_room (Nat.le_of_ble_eq_true rfl)) dX2_change_2 ⟨Nat.le_of_ble_eq_true rfl, Nat.le_of_ble_eq_true rfl⟩)) (fun r_1 er_1 => ?_)
  obtain rfl : (0 : Int32) = r_1 := Eq.symm er_1
  refine lv_icmp_lt (tgt := 16) hx hb dX2_change_5 (by decide) (fun c_2 => absurd c_2 h1) (fun c_2 => ?_)
  refine lv_iload_n hx hb dX2_change_8 rfl (lv_at hl 2 rfl) ?_
  refine lv_iload_n hx hb dX2_change_9 rfl (lv_at hl 1 rfl) ?_
  have hPc := hP.sub (ws' := []) [] rfl
  refine vp_callSi (va_Run.run (va_runS (As := [.int 2]) (rest := [.int v]) ⟨hx, hb, hml, hown, hts⟩ (c_X2_most2 l D cI cL cZ cC  ) (va_cwS 1 hts gX2_change_X2_most rfl rfl rfl (by decide +kernel) ⟨Nat.le_of_ble_eq_true rfl, Nat.le_of_ble_eq_true rfl⟩) ⟨xPc_bl, xPc_use hPc hK⟩ rfl rfl hl.1 rfl (lv_room (Nat.le_of_ble_eq_true rfl)) dX2_change_10 ⟨Nat.le_of_ble_eq_true rfl, Nat.le_of_ble_eq_true rfl⟩)) (fun r_3 er_3 => ?_)
  obtain rfl : (9 : Int32) = r_3 := Eq.symm er_3
  refine lv_icmp_le (tgt := 18) hx hb dX2_change_13 (by decide) (fun c_4 => ?_) (fun c_4 => absurd (Int32.not_le.mp c_4) h2)
  refine lv_iload_n hx hb dX2_change_18 rfl (lv_at hl 1 rfl) ?_
  refine lv_tableIn (off := 41) (tgt := 60) hx hb dX2_change_19 (by decide +kernel) (by decide +kernel) (by decide +kernel) (by decide) ?_
  refine lv_aload_n hx hb dX2_change_60 rfl (lv_at hl 0 rfl) ?_
  refine lv_iload_n hx hb dX2_change_61 rfl (lv_at hl 2 rfl) ?_
  refine va_put (D := D) (ci := 2) (v := .int v) (ty := .int) (C := RX2) (T := TX2) (N := 8) hx hb hts hwX2 tyX2 tyX2_ok nmX2 hown hK hP hD hS 0 rfl rfl 3 (by decide) (hts (.fieldLink RX2 21 "WaitOrWalkOn$Road" "sight" "I") (by decide +kernel)) (fun _ h9 => h9) rfl (by decide +kernel) rfl rfl (Nat.le_of_ble_eq_true rfl) dX2_change_62 (fun H locs hP hD hS => ?_)
  have hP : va_P D vwCl [(rd, .inr (2, [.int 1, .int 400, .int 80, .int v, .int 30, .int 0, .ref r0, .ref r1]))] H := hP
  have hD : va_D A [(rd, .inr (2, [.int 1, .int 400, .int 80, .int v, .int 30, .int 0, .ref r0, .ref r1]))] := hD
  refine lv_goto (tgt := 73) hx hb dX2_change_65 (by decide) ?_
  refine lv_iconst (v := 1) hx hb dX2_change_73 (by decide) ?_
  have hP9 := hP.sub (ws' := []) [] rfl
  have hD9 := hD.sub (ws' := []) [] (by decide) rfl
  exact W.zret (v := 1) (ty := .boolean) hx hb hr (by decide +kernel) (fun t ht hW => ⟨⟨_, (), rfl, rfl, by rw [ht]; exact hP9, hD9⟩, hS.F ht⟩) hS.2.2 dX2_change_74

set_option maxHeartbeats 4000000 in
set_option maxRecDepth 100000 in
theorem c_X2_change3 (l : Launch) (D : va_G) (cI cL cZ cC : ClassId) (sz : Nat) (rd : Nat) (r0 : Nat) (r1 : Nat) (v : Int32) (h1 : ¬ v < 1) (h2 : ¬ 60 < v) : Met l yX2_change wsX2_change ({ frames := 1, cells := 0, slots := 0, locals := 20 } : Room) (wPc D [.ref rd, .int 3, .int v] [(rd, .inr (2, [.int 1, .int 400, .int 80, .int 2, .int 30, .int 0, .ref r0, .ref r1]))] (xTy cI cL cZ cC) sz) (va_Qi (fun (r : Int32) (_ : Unit) => r = 1) (fun (_ : Unit) t => va_P D vwCl [] t.heap ∧ va_D (va_A [(rd, .inr (2, [.int 1, .int 400, .int 80, .int 2, .int 30, .int 0, .ref r0, .ref r1]))] sz) []) (va_A [(rd, .inr (2, [.int 1, .int 400, .int 80, .int 2, .int 30, .int 0, .ref r0, .ref r1]))] sz)) 0 0 (va_A [(rd, .inr (2, [.int 1, .int 400, .int 80, .int 2, .int 30, .int 0, .ref r0, .ref r1]))] sz) := by
  refine Met.ofW (cc := cX2_change) (maxL := 3) (ret := (some .boolean)) (by decide) rfl ?_
  intro p e s m args below meth c s₁ B hml hv
  obtain ⟨rfl, hsz, hP, hK, hD0⟩ := hv
  have hx := B.exec
  have hb := B.bytes
  have hr := B.returns
  have hts := atoms_spec (ws := wsX2_change) B.pre
  have hown : s.vm.findClass RX2 = some m.cls := findClass_of_methodNamed B.named
  have hlocks := B.notSynchronized
  have hwX2 : ∀ w ∈ u_ws RX2 TX2 8, w ∈ wsX2_change := fun _ h => List.mem_cons_of_mem _ (List.mem_append_right _ h)
  subst hsz
  have hD := hD0.self (sz := s.heap.size)
  generalize hAe : va_A [(rd, .inr (2, [.int 1, .int 400, .int 80, .int 2, .int 30, .int 0, .ref r0, .ref r1]))] s.heap.size = A at hD ⊢
  have hA : ∀ q : Nat, s.heap.size ≤ q → A q := fun q h => by rw [← hAe]; exact Or.inr h
  have hS : va_S A s.heap s.heap [] := va_S.rf
  have hP : va_P D vwCl [(rd, .inr (2, [.int 1, .int 400, .int 80, .int 2, .int 30, .int 0, .ref r0, .ref r1]))] s.heap := hP
  have hl := lv_entry ([.ref rd, .int 3, .int v]) (n := 3) (Nat.le_of_ble_eq_true rfl)
  rw [lg_entry_eq]
  generalize (lg_sl ([.ref rd, .int 3, .int v]) ++ List.replicate (3 - (lg_sl ([.ref rd, .int 3, .int v])).length) Slot.unset).toArray = ls at hl ⊢
  have hl : lv_has ls 3 [(0, .ref rd), (1, .int 3), (2, .int v)] := hl
  refine lv_iload_n hx hb dX2_change_0 rfl (lv_at hl 2 rfl) ?_
  refine lv_iload_n hx hb dX2_change_1 rfl (lv_at hl 1 rfl) ?_
  have hPc := hP.sub (ws' := []) [] rfl
  refine vp_callSi (va_Run.run (va_runS (As := [.int 3]) (rest := [.int v]) ⟨hx, hb, hml, hown, hts⟩ (c_X2_least3 l D cI cL cZ cC  ) (va_cwS 1 hts gX2_change_X2_least rfl rfl rfl (by decide +kernel) ⟨Nat.le_of_ble_eq_true rfl, Nat.le_of_ble_eq_true rfl⟩) ⟨xPc_bl, xPc_use hPc hK⟩ rfl rfl hl.1 rfl (lv_room (Nat.le_of_ble_eq_true rfl)) dX2_change_2 ⟨Nat.le_of_ble_eq_true rfl, Nat.le_of_ble_eq_true rfl⟩)) (fun r_1 er_1 => ?_)
  obtain rfl : (1 : Int32) = r_1 := Eq.symm er_1
  refine lv_icmp_lt (tgt := 16) hx hb dX2_change_5 (by decide) (fun c_2 => absurd c_2 h1) (fun c_2 => ?_)
  refine lv_iload_n hx hb dX2_change_8 rfl (lv_at hl 2 rfl) ?_
  refine lv_iload_n hx hb dX2_change_9 rfl (lv_at hl 1 rfl) ?_
  have hPc := hP.sub (ws' := []) [] rfl
  refine vp_callSi (va_Run.run (va_runS (As := [.int 3]) (rest := [.int v]) ⟨hx, hb, hml, hown, hts⟩ (c_X2_most3 l D cI cL cZ cC  ) (va_cwS 1 hts gX2_change_X2_most rfl rfl rfl (by decide +kernel) ⟨Nat.le_of_ble_eq_true rfl, Nat.le_of_ble_eq_true rfl⟩) ⟨xPc_bl, xPc_use hPc hK⟩ rfl rfl hl.1 rfl (lv_room (Nat.le_of_ble_eq_true rfl)) dX2_change_10 ⟨Nat.le_of_ble_eq_true rfl, Nat.le_of_ble_eq_true rfl⟩)) (fun r_3 er_3 => ?_)
  obtain rfl : (60 : Int32) = r_3 := Eq.symm er_3
  refine lv_icmp_le (tgt := 18) hx hb dX2_change_13 (by decide) (fun c_4 => ?_) (fun c_4 => absurd (Int32.not_le.mp c_4) h2)
  refine lv_iload_n hx hb dX2_change_18 rfl (lv_at hl 1 rfl) ?_
  refine lv_tableOut (tgt := 68) hx hb dX2_change_19 (by decide +kernel) (by decide) ?_
  refine lv_aload_n hx hb dX2_change_68 rfl (lv_at hl 0 rfl) ?_
  refine lv_iload_n hx hb dX2_change_69 rfl (lv_at hl 2 rfl) ?_
  refine va_put (D := D) (ci := 2) (v := .int v) (ty := .int) (C := RX2) (T := TX2) (N := 8) hx hb hts hwX2 tyX2 tyX2_ok nmX2 hown hK hP hD hS 0 rfl rfl 4 (by decide) (hts (.fieldLink RX2 24 "WaitOrWalkOn$Road" "limit" "I") (by decide +kernel)) (fun _ h9 => h9) rfl (by decide +kernel) rfl rfl (Nat.le_of_ble_eq_true rfl) dX2_change_70 (fun H locs hP hD hS => ?_)
  have hP : va_P D vwCl [(rd, .inr (2, [.int 1, .int 400, .int 80, .int 2, .int v, .int 0, .ref r0, .ref r1]))] H := hP
  have hD : va_D A [(rd, .inr (2, [.int 1, .int 400, .int 80, .int 2, .int v, .int 0, .ref r0, .ref r1]))] := hD
  refine lv_iconst (v := 1) hx hb dX2_change_73 (by decide) ?_
  have hP9 := hP.sub (ws' := []) [] rfl
  have hD9 := hD.sub (ws' := []) [] (by decide) rfl
  exact W.zret (v := 1) (ty := .boolean) hx hb hr (by decide +kernel) (fun t ht hW => ⟨⟨_, (), rfl, rfl, by rw [ht]; exact hP9, hD9⟩, hS.F ht⟩) hS.2.2 dX2_change_74

set_option maxHeartbeats 4000000 in
set_option maxRecDepth 100000 in
theorem p1_X4_set (l : Launch) (D : va_G) (cI cL cZ cC : ClassId) (sz : Nat) (h0 : Nat) (rd : Nat) (dr : Nat) (kp : Nat) (pl : Nat) (tx : Nat) (nu : Nat) (rf_a : Nat) (r0 : Nat) (r1 : Nat) (a1 : Int32) (a2 : Int32)  : Met l yX4_set wsX4_set ({ frames := 2, cells := 0, slots := 0, locals := 42 } : Room) (wPc D [.ref h0, .int a1, .int a2] [(h0, .inr (4, [.ref rd, .ref dr, .ref kp, .ref pl, .ref tx, .ref nu, .ref rf_a, .int 0, .int 0, .int (-1)])), (rd, .inr (2, [.int 1, .int 400, .int 80, .int 2, .int 30, .int 0, .ref r0, .ref r1])), (rf_a, .inl (cI, 7, .inl (fun _ => 0)))] (xTy cI cL cZ cC) sz) (va_Qi (fun (r : Int32) (_ : Unit) => r = sSet0 a1 a2) (fun (_ : Unit) t => va_P D vwCl [] t.heap ∧ va_D (va_A [(h0, .inr (4, [.ref rd, .ref dr, .ref kp, .ref pl, .ref tx, .ref nu, .ref rf_a, .int 0, .int 0, .int (-1)])), (rd, .inr (2, [.int 1, .int 400, .int 80, .int 2, .int 30, .int 0, .ref r0, .ref r1])), (rf_a, .inl (cI, 7, .inl (fun _ => 0)))] sz) []) (va_A [(h0, .inr (4, [.ref rd, .ref dr, .ref kp, .ref pl, .ref tx, .ref nu, .ref rf_a, .int 0, .int 0, .int (-1)])), (rd, .inr (2, [.int 1, .int 400, .int 80, .int 2, .int 30, .int 0, .ref r0, .ref r1])), (rf_a, .inl (cI, 7, .inl (fun _ => 0)))] sz)) 0 0 (va_A [(h0, .inr (4, [.ref rd, .ref dr, .ref kp, .ref pl, .ref tx, .ref nu, .ref rf_a, .int 0, .int 0, .int (-1)])), (rd, .inr (2, [.int 1, .int 400, .int 80, .int 2, .int 30, .int 0, .ref r0, .ref r1])), (rf_a, .inl (cI, 7, .inl (fun _ => 0)))] sz) := by
  refine Met.ofW (cc := cX4_set) (maxL := 4) (ret := (some .int)) (by decide) rfl ?_
  intro p e s m args below meth c s₁ B hml hv
  obtain ⟨rfl, hsz, hP, hK, hD0⟩ := hv
  have hx := B.exec
  have hb := B.bytes
  have hr := B.returns
  have hts := atoms_spec (ws := wsX4_set) B.pre
  have hown : s.vm.findClass RX4 = some m.cls := findClass_of_methodNamed B.named
  have hlocks := B.notSynchronized
  have hwX4 : ∀ w ∈ u_ws RX4 TX4 10, w ∈ wsX4_set := fun _ h => List.mem_cons_of_mem _ (List.mem_append_left _ (List.mem_append_right _ h))
  subst hsz
  have hD := hD0.self (sz := s.heap.size)
  generalize hAe : va_A [(h0, .inr (4, [.ref rd, .ref dr, .ref kp, .ref pl, .ref tx, .ref nu, .ref rf_a, .int 0, .int 0, .int (-1)])), (rd, .inr (2, [.int 1, .int 400, .int 80, .int 2, .int 30, .int 0, .ref r0, .ref r1])), (rf_a, .inl (cI, 7, .inl (fun _ => 0)))] s.heap.size = A at hD ⊢
  have hA : ∀ q : Nat, s.heap.size ≤ q → A q := fun q h => by rw [← hAe]; exact Or.inr h
  have hS : va_S A s.heap s.heap [] := va_S.rf
  have hP : va_P D vwCl [(h0, .inr (4, [.ref rd, .ref dr, .ref kp, .ref pl, .ref tx, .ref nu, .ref rf_a, .int 0, .int 0, .int (-1)])), (rd, .inr (2, [.int 1, .int 400, .int 80, .int 2, .int 30, .int 0, .ref r0, .ref r1])), (rf_a, .inl (cI, 7, .inl (fun _ => 0)))] s.heap := hP
  have hl := lv_entry ([.ref h0, .int a1, .int a2]) (n := 4) (Nat.le_of_ble_eq_true rfl)
  rw [lg_entry_eq]
  generalize (lg_sl ([.ref h0, .int a1, .int a2]) ++ List.replicate (4 - (lg_sl ([.ref h0, .int a1, .int a2])).length) Slot.unset).toArray = ls at hl ⊢
  have hl : lv_has ls 4 [(0, .ref h0), (1, .int a1), (2, .int a2)] := hl
  by_cases h_1 : a1 < 0
  · refine lv_iload_n hx hb dX4_set_0 rfl (lv_at hl 1 rfl) ?_
    refine lv_if_lt (tgt := 9) hx hb dX4_set_1 (by decide) (fun c_1 => ?_) (fun c_1 => absurd h_1 c_1)
    refine lv_aload_n hx hb dX4_set_9 rfl (lv_at hl 0 rfl) ?_
    refine lv_bipush (v := -2) hx hb dX4_set_10 (by decide) ?_
    have hPc := hP.sub (ws' := [(h0, .inr (4, [.ref rd, .ref dr, .ref kp, .ref pl, .ref tx, .ref nu, .ref rf_a, .int 0, .int 0, .int (-1)])), (rf_a, .inl (cI, 7, .inl (fun _ => 0)))]) [0, 2] rfl
    have hDc := hD.sub (ws' := [(h0, .inr (4, [.ref rd, .ref dr, .ref kp, .ref pl, .ref tx, .ref nu, .ref rf_a, .int 0, .int 0, .int (-1)])), (rf_a, .inl (cI, 7, .inl (fun _ => 0)))]) [0, 2] (by decide) rfl
    have hFc := va_free (wc := [(h0, .inr (4, [.ref rd, .ref dr, .ref kp, .ref pl, .ref tx, .ref nu, .ref rf_a, .int 0, .int 0, .int (-1)])), (rf_a, .inl (cI, 7, .inl (fun _ => 0)))]) hD hS hA [0, 2] rfl
    refine va_calli (va_runV (As := [.int (-2)]) (rest := []) ⟨hx, hb, hml, hown, hts⟩ (c_X4_refuse l D cI cL cZ cC _ h0 rd dr kp pl tx nu rf_a 0 0 (-1) (fun _ => 0) (-2) (by first | assumption | decide +kernel) (by first | assumption | decide +kernel)) (cwV 1 hts gX4_set_X4_refuse rfl rfl rfl (by decide +kernel) ⟨Nat.le_of_ble_eq_true rfl, Nat.le_of_ble_eq_true rfl⟩) ⟨wPc_bl, va_recv hK hPc (ci := 4) (q0 := 0) rfl rfl, wPc_use hPc hK hDc⟩ rfl rfl hl.1 rfl (lv_room (Nat.le_of_ble_eq_true rfl)) dX4_set_12 ⟨Nat.le_of_ble_eq_true rfl, Nat.le_of_ble_eq_true rfl⟩) hS (fun q _ h => hFc q h) hFc (fun r_2 u_2 t H1 locs ht hvm hw hB hz1 hk1 hS => ?_)
    obtain ⟨hP1, hD1⟩ := hB
    rw [ht] at hP1
    obtain ⟨hP, hD⟩ := va_join (wr := [(rd, .inr (2, [.int 1, .int 400, .int 80, .int 2, .int 30, .int 0, .ref r0, .ref r1]))]) (w1 := [(h0, .inr (4, [.ref rd, .ref dr, .ref kp, .ref pl, .ref tx, .ref nu, .ref rf_a, .int 0, .int 0, .int (-1)])), (rf_a, .inl (cI, 7, .inl (xRf (fun _ => 0) (-2))))]) hP hD [0, 2] [1] rfl rfl (by decide) (by decide) hk1 hFc hP1 hD1
    generalize H1 = H at hP hS ⊢
    have hP : va_P D vwCl [(rd, .inr (2, [.int 1, .int 400, .int 80, .int 2, .int 30, .int 0, .ref r0, .ref r1])), (h0, .inr (4, [.ref rd, .ref dr, .ref kp, .ref pl, .ref tx, .ref nu, .ref rf_a, .int 0, .int 0, .int (-1)])), (rf_a, .inl (cI, 7, .inl (xRf (fun _ => 0) (-2))))] H := hP
    have hD : va_D A [(rd, .inr (2, [.int 1, .int 400, .int 80, .int 2, .int 30, .int 0, .ref r0, .ref r1])), (h0, .inr (4, [.ref rd, .ref dr, .ref kp, .ref pl, .ref tx, .ref nu, .ref rf_a, .int 0, .int 0, .int (-1)])), (rf_a, .inl (cI, 7, .inl (xRf (fun _ => 0) (-2))))] := hD
    obtain rfl : ((-2) : Int32) = r_2 := Eq.symm hw
    have hP9 := hP.sub (ws' := []) [] rfl
    have hD9 := hD.sub (ws' := []) [] (by decide) rfl
    exact W.iret (v := -2) hx hb hr (fun t ht hW => ⟨⟨_, (), rfl, by simp [sSet0, h_1, c_1], by rw [ht]; exact hP9, hD9⟩, hS.F ht⟩) hS.2.2 dX4_set_15
  by_cases h_2 : 3 < a1
  · refine lv_iload_n hx hb dX4_set_0 rfl (lv_at hl 1 rfl) ?_
    refine lv_if_lt (tgt := 9) hx hb dX4_set_1 (by decide) (fun c_3 => absurd c_3 h_1) (fun c_3 => ?_)
    refine lv_iload_n hx hb dX4_set_4 rfl (lv_at hl 1 rfl) ?_
    refine lv_iconst (v := 3) hx hb dX4_set_5 (by decide) ?_
    refine lv_icmp_le (tgt := 16) hx hb dX4_set_6 (by decide) (fun c_4 => absurd h_2 (Int32.not_lt.mpr c_4)) (fun c_4 => ?_)
    refine lv_aload_n hx hb dX4_set_9 rfl (lv_at hl 0 rfl) ?_
    refine lv_bipush (v := -2) hx hb dX4_set_10 (by decide) ?_
    have hPc := hP.sub (ws' := [(h0, .inr (4, [.ref rd, .ref dr, .ref kp, .ref pl, .ref tx, .ref nu, .ref rf_a, .int 0, .int 0, .int (-1)])), (rf_a, .inl (cI, 7, .inl (fun _ => 0)))]) [0, 2] rfl
    have hDc := hD.sub (ws' := [(h0, .inr (4, [.ref rd, .ref dr, .ref kp, .ref pl, .ref tx, .ref nu, .ref rf_a, .int 0, .int 0, .int (-1)])), (rf_a, .inl (cI, 7, .inl (fun _ => 0)))]) [0, 2] (by decide) rfl
    have hFc := va_free (wc := [(h0, .inr (4, [.ref rd, .ref dr, .ref kp, .ref pl, .ref tx, .ref nu, .ref rf_a, .int 0, .int 0, .int (-1)])), (rf_a, .inl (cI, 7, .inl (fun _ => 0)))]) hD hS hA [0, 2] rfl
    refine va_calli (va_runV (As := [.int (-2)]) (rest := []) ⟨hx, hb, hml, hown, hts⟩ (c_X4_refuse l D cI cL cZ cC _ h0 rd dr kp pl tx nu rf_a 0 0 (-1) (fun _ => 0) (-2) (by first | assumption | decide +kernel) (by first | assumption | decide +kernel)) (cwV 1 hts gX4_set_X4_refuse rfl rfl rfl (by decide +kernel) ⟨Nat.le_of_ble_eq_true rfl, Nat.le_of_ble_eq_true rfl⟩) ⟨wPc_bl, va_recv hK hPc (ci := 4) (q0 := 0) rfl rfl, wPc_use hPc hK hDc⟩ rfl rfl hl.1 rfl (lv_room (Nat.le_of_ble_eq_true rfl)) dX4_set_12 ⟨Nat.le_of_ble_eq_true rfl, Nat.le_of_ble_eq_true rfl⟩) hS (fun q _ h => hFc q h) hFc (fun r_5 u_5 t H1 locs ht hvm hw hB hz1 hk1 hS => ?_)
    obtain ⟨hP1, hD1⟩ := hB
    rw [ht] at hP1
    obtain ⟨hP, hD⟩ := va_join (wr := [(rd, .inr (2, [.int 1, .int 400, .int 80, .int 2, .int 30, .int 0, .ref r0, .ref r1]))]) (w1 := [(h0, .inr (4, [.ref rd, .ref dr, .ref kp, .ref pl, .ref tx, .ref nu, .ref rf_a, .int 0, .int 0, .int (-1)])), (rf_a, .inl (cI, 7, .inl (xRf (fun _ => 0) (-2))))]) hP hD [0, 2] [1] rfl rfl (by decide) (by decide) hk1 hFc hP1 hD1
    generalize H1 = H at hP hS ⊢
    have hP : va_P D vwCl [(rd, .inr (2, [.int 1, .int 400, .int 80, .int 2, .int 30, .int 0, .ref r0, .ref r1])), (h0, .inr (4, [.ref rd, .ref dr, .ref kp, .ref pl, .ref tx, .ref nu, .ref rf_a, .int 0, .int 0, .int (-1)])), (rf_a, .inl (cI, 7, .inl (xRf (fun _ => 0) (-2))))] H := hP
    have hD : va_D A [(rd, .inr (2, [.int 1, .int 400, .int 80, .int 2, .int 30, .int 0, .ref r0, .ref r1])), (h0, .inr (4, [.ref rd, .ref dr, .ref kp, .ref pl, .ref tx, .ref nu, .ref rf_a, .int 0, .int 0, .int (-1)])), (rf_a, .inl (cI, 7, .inl (xRf (fun _ => 0) (-2))))] := hD
    obtain rfl : ((-2) : Int32) = r_5 := Eq.symm hw
    have hP9 := hP.sub (ws' := []) [] rfl
    have hD9 := hD.sub (ws' := []) [] (by decide) rfl
    exact W.iret (v := -2) hx hb hr (fun t ht hW => ⟨⟨_, (), rfl, by simp [sSet0, h_1, h_2, c_3, (Int32.not_le.mp c_4)], by rw [ht]; exact hP9, hD9⟩, hS.F ht⟩) hS.2.2 dX4_set_15
  rcases xz4 h_1 h_2 with rfl | rfl | rfl | rfl
  · refine lv_iload_n hx hb dX4_set_0 rfl (lv_at hl 1 rfl) ?_
    refine lv_if_lt (tgt := 9) hx hb dX4_set_1 (by decide) (fun c_6 => absurd c_6 (by decide +kernel)) (fun c_6 => ?_)
    refine lv_iload_n hx hb dX4_set_4 rfl (lv_at hl 1 rfl) ?_
    refine lv_iconst (v := 3) hx hb dX4_set_5 (by decide) ?_
    refine lv_icmp_le (tgt := 16) hx hb dX4_set_6 (by decide) (fun c_7 => ?_) (fun c_7 => absurd c_7 (by decide +kernel))
    refine lv_iload_n hx hb dX4_set_16 rfl (lv_at hl 2 rfl) ?_
    refine lv_iload_n hx hb dX4_set_17 rfl (lv_at hl 1 rfl) ?_
    have hPc := hP.sub (ws' := []) [] rfl
    refine vp_callSi (va_Run.run (va_runS (As := [.int 0]) (rest := [.int a2]) ⟨hx, hb, hml, hown, hts⟩ (c_X2_least0 l D cI cL cZ cC  ) (va_cwS 1 hts gX4_set_X2_least rfl rfl rfl (by decide +kernel) ⟨Nat.le_of_ble_eq_true rfl, Nat.le_of_ble_eq_true rfl⟩) ⟨xPc_bl, xPc_use hPc hK⟩ rfl rfl hl.1 rfl (lv_room (Nat.le_of_ble_eq_true rfl)) dX4_set_18 ⟨Nat.le_of_ble_eq_true rfl, Nat.le_of_ble_eq_true rfl⟩)) (fun r_8 er_8 => ?_)
    obtain rfl : (0 : Int32) = r_8 := Eq.symm er_8
    refine lv_icmp_ge (tgt := 31) hx hb dX4_set_21 (by decide) (fun c_9 => ?_) (fun c_9 => ?_)
    · refine lv_iload_n hx hb dX4_set_31 rfl (lv_at hl 2 rfl) ?_
      refine lv_iload_n hx hb dX4_set_32 rfl (lv_at hl 1 rfl) ?_
      have hPc := hP.sub (ws' := []) [] rfl
      refine vp_callSi (va_Run.run (va_runS (As := [.int 0]) (rest := [.int a2]) ⟨hx, hb, hml, hown, hts⟩ (c_X2_most0 l D cI cL cZ cC  ) (va_cwS 1 hts gX4_set_X2_most rfl rfl rfl (by decide +kernel) ⟨Nat.le_of_ble_eq_true rfl, Nat.le_of_ble_eq_true rfl⟩) ⟨xPc_bl, xPc_use hPc hK⟩ rfl rfl hl.1 rfl (lv_room (Nat.le_of_ble_eq_true rfl)) dX4_set_33 ⟨Nat.le_of_ble_eq_true rfl, Nat.le_of_ble_eq_true rfl⟩)) (fun r_10 er_10 => ?_)
      obtain rfl : (999 : Int32) = r_10 := Eq.symm er_10
      refine lv_icmp_le (tgt := 46) hx hb dX4_set_36 (by decide) (fun c_11 => ?_) (fun c_11 => ?_)
      · refine lv_aload_n hx hb dX4_set_46 rfl (lv_at hl 0 rfl) ?_
        refine va_get (D := D) (ci := 4) (v := .ref rd) (C := RX4) (T := TX4) (N := 10) hx hb hts hwX4 hown hK hP 0 rfl rfl 0 (by decide) (hts (.fieldLink RX4 10 "WaitOrWalkOn" "road" "LWaitOrWalkOn$Road;") (by decide +kernel)) (fun _ h9 => h9) rfl dX4_set_47 ?_
        refine lv_iload_n hx hb dX4_set_50 rfl (lv_at hl 1 rfl) ?_
        have hPc := hP.sub (ws' := [(rd, .inr (2, [.int 1, .int 400, .int 80, .int 2, .int 30, .int 0, .ref r0, .ref r1]))]) [1] rfl
        refine vp_callSi (va_Run.run (va_runV (As := [.int 0]) (rest := []) ⟨hx, hb, hml, hown, hts⟩ (c_X2_setting0 l D cI cL cZ cC rd r0 r1 ) (cwV 1 hts gX4_set_X2_setting rfl rfl rfl (by decide +kernel) ⟨Nat.le_of_ble_eq_true rfl, Nat.le_of_ble_eq_true rfl⟩) ⟨xPc_bl, va_recv hK hPc (ci := 2) (q0 := 0) rfl rfl, xPc_use hPc hK⟩ rfl rfl hl.1 rfl (lv_room (Nat.le_of_ble_eq_true rfl)) dX4_set_51 ⟨Nat.le_of_ble_eq_true rfl, Nat.le_of_ble_eq_true rfl⟩)) (fun r_12 er_12 => ?_)
        obtain rfl : (400 : Int32) = r_12 := Eq.symm er_12
        refine lv_istore_n (lv' := [(3, .int 400), (0, .ref h0), (1, .int 0), (2, .int a2)]) hx hb dX4_set_54 rfl hl (by decide) rfl (fun ls hl => ?_)
        refine lv_aload_n hx hb dX4_set_55 rfl (lv_at hl 1 rfl) ?_
        refine va_get (D := D) (ci := 4) (v := .ref rd) (C := RX4) (T := TX4) (N := 10) hx hb hts hwX4 hown hK hP 0 rfl rfl 0 (by decide) (hts (.fieldLink RX4 10 "WaitOrWalkOn" "road" "LWaitOrWalkOn$Road;") (by decide +kernel)) (fun _ h9 => h9) rfl dX4_set_56 ?_
        refine lv_iload_n hx hb dX4_set_59 rfl (lv_at hl 2 rfl) ?_
        refine lv_iload_n hx hb dX4_set_60 rfl (lv_at hl 3 rfl) ?_
        have hPc := hP.sub (ws' := [(rd, .inr (2, [.int 1, .int 400, .int 80, .int 2, .int 30, .int 0, .ref r0, .ref r1]))]) [1] rfl
        have hDc := hD.sub (ws' := [(rd, .inr (2, [.int 1, .int 400, .int 80, .int 2, .int 30, .int 0, .ref r0, .ref r1]))]) [1] (by decide) rfl
        have hFc := va_free (wc := [(rd, .inr (2, [.int 1, .int 400, .int 80, .int 2, .int 30, .int 0, .ref r0, .ref r1]))]) hD hS hA [1] rfl
        refine va_calli (va_runV (As := [.int 0, .int a2]) (rest := []) ⟨hx, hb, hml, hown, hts⟩ (c_X2_change0 l D cI cL cZ cC _ rd r0 r1 a2 ((Int32.not_lt.mpr c_9)) ((Int32.not_lt.mpr c_11))) (cwV 2 hts gX4_set_X2_change rfl rfl rfl (by decide +kernel) ⟨Nat.le_of_ble_eq_true rfl, Nat.le_of_ble_eq_true rfl⟩) ⟨wPc_bl, va_recv hK hPc (ci := 2) (q0 := 0) rfl rfl, wPc_use hPc hK hDc⟩ rfl rfl hl.1 rfl (lv_room (Nat.le_of_ble_eq_true rfl)) dX4_set_61 ⟨Nat.le_of_ble_eq_true rfl, Nat.le_of_ble_eq_true rfl⟩) hS (fun q _ h => hFc q h) hFc (fun r_13 u_13 t H1 locs ht hvm hw hB hz1 hk1 hS => ?_)
        obtain ⟨hP1, hD1⟩ := hB
        rw [ht] at hP1
        obtain ⟨hP, hD⟩ := va_join (wr := [(h0, .inr (4, [.ref rd, .ref dr, .ref kp, .ref pl, .ref tx, .ref nu, .ref rf_a, .int 0, .int 0, .int (-1)])), (rf_a, .inl (cI, 7, .inl (fun _ => 0)))]) (w1 := []) hP hD [1] [0, 2] rfl rfl (by decide) (by decide) hk1 hFc hP1 hD1
        generalize H1 = H at hP hS ⊢
        have hP : va_P D vwCl [(h0, .inr (4, [.ref rd, .ref dr, .ref kp, .ref pl, .ref tx, .ref nu, .ref rf_a, .int 0, .int 0, .int (-1)])), (rf_a, .inl (cI, 7, .inl (fun _ => 0)))] H := hP
        have hD : va_D A [(h0, .inr (4, [.ref rd, .ref dr, .ref kp, .ref pl, .ref tx, .ref nu, .ref rf_a, .int 0, .int 0, .int (-1)])), (rf_a, .inl (cI, 7, .inl (fun _ => 0)))] := hD
        obtain rfl : (1 : Int32) = r_13 := Eq.symm hw
        refine lv_pop hx hb dX4_set_64 rfl ?_
        refine lv_aload_n hx hb dX4_set_65 rfl (lv_at hl 1 rfl) ?_
        refine lv_iconst (v := -1) hx hb dX4_set_66 (by decide) ?_
        refine va_put (D := D) (ci := 4) (v := .int (-1)) (ty := .int) (C := RX4) (T := TX4) (N := 10) hx hb hts hwX4 tyX4 tyX4_ok nmX4 hown hK hP hD hS 0 rfl rfl 9 (by decide) (hts (.fieldLink RX4 43 "WaitOrWalkOn" "planned" "I") (by decide +kernel)) (fun _ h9 => h9) rfl (by decide +kernel) (by decide +kernel) rfl (Nat.le_of_ble_eq_true rfl) dX4_set_67 (fun H locs hP hD hS => ?_)
        have hP : va_P D vwCl [(h0, .inr (4, [.ref rd, .ref dr, .ref kp, .ref pl, .ref tx, .ref nu, .ref rf_a, .int 0, .int 0, .int (-1)])), (rf_a, .inl (cI, 7, .inl (fun _ => 0)))] H := hP
        have hD : va_D A [(h0, .inr (4, [.ref rd, .ref dr, .ref kp, .ref pl, .ref tx, .ref nu, .ref rf_a, .int 0, .int 0, .int (-1)])), (rf_a, .inl (cI, 7, .inl (fun _ => 0)))] := hD
        refine lv_iload_n hx hb dX4_set_70 rfl (lv_at hl 0 rfl) ?_
        have hP9 := hP.sub (ws' := []) [] rfl
        have hD9 := hD.sub (ws' := []) [] (by decide) rfl
        exact W.iret (v := 400) hx hb hr (fun t ht hW => ⟨⟨_, (), rfl, by simp [sSet0, c_6, (Int32.not_lt.mpr c_7), (Int32.not_lt.mpr c_9), (Int32.not_lt.mpr c_11)], by rw [ht]; exact hP9, hD9⟩, hS.F ht⟩) hS.2.2 dX4_set_71
      · refine lv_aload_n hx hb dX4_set_39 rfl (lv_at hl 0 rfl) ?_
        refine lv_bipush (v := -6) hx hb dX4_set_40 (by decide) ?_
        have hPc := hP.sub (ws' := [(h0, .inr (4, [.ref rd, .ref dr, .ref kp, .ref pl, .ref tx, .ref nu, .ref rf_a, .int 0, .int 0, .int (-1)])), (rf_a, .inl (cI, 7, .inl (fun _ => 0)))]) [0, 2] rfl
        have hDc := hD.sub (ws' := [(h0, .inr (4, [.ref rd, .ref dr, .ref kp, .ref pl, .ref tx, .ref nu, .ref rf_a, .int 0, .int 0, .int (-1)])), (rf_a, .inl (cI, 7, .inl (fun _ => 0)))]) [0, 2] (by decide) rfl
        have hFc := va_free (wc := [(h0, .inr (4, [.ref rd, .ref dr, .ref kp, .ref pl, .ref tx, .ref nu, .ref rf_a, .int 0, .int 0, .int (-1)])), (rf_a, .inl (cI, 7, .inl (fun _ => 0)))]) hD hS hA [0, 2] rfl
        refine va_calli (va_runV (As := [.int (-6)]) (rest := []) ⟨hx, hb, hml, hown, hts⟩ (c_X4_refuse l D cI cL cZ cC _ h0 rd dr kp pl tx nu rf_a 0 0 (-1) (fun _ => 0) (-6) (by first | assumption | decide +kernel) (by first | assumption | decide +kernel)) (cwV 1 hts gX4_set_X4_refuse rfl rfl rfl (by decide +kernel) ⟨Nat.le_of_ble_eq_true rfl, Nat.le_of_ble_eq_true rfl⟩) ⟨wPc_bl, va_recv hK hPc (ci := 4) (q0 := 0) rfl rfl, wPc_use hPc hK hDc⟩ rfl rfl hl.1 rfl (lv_room (Nat.le_of_ble_eq_true rfl)) dX4_set_42 ⟨Nat.le_of_ble_eq_true rfl, Nat.le_of_ble_eq_true rfl⟩) hS (fun q _ h => hFc q h) hFc (fun r_14 u_14 t H1 locs ht hvm hw hB hz1 hk1 hS => ?_)
        obtain ⟨hP1, hD1⟩ := hB
        rw [ht] at hP1
        obtain ⟨hP, hD⟩ := va_join (wr := [(rd, .inr (2, [.int 1, .int 400, .int 80, .int 2, .int 30, .int 0, .ref r0, .ref r1]))]) (w1 := [(h0, .inr (4, [.ref rd, .ref dr, .ref kp, .ref pl, .ref tx, .ref nu, .ref rf_a, .int 0, .int 0, .int (-1)])), (rf_a, .inl (cI, 7, .inl (xRf (fun _ => 0) (-6))))]) hP hD [0, 2] [1] rfl rfl (by decide) (by decide) hk1 hFc hP1 hD1
        generalize H1 = H at hP hS ⊢
        have hP : va_P D vwCl [(rd, .inr (2, [.int 1, .int 400, .int 80, .int 2, .int 30, .int 0, .ref r0, .ref r1])), (h0, .inr (4, [.ref rd, .ref dr, .ref kp, .ref pl, .ref tx, .ref nu, .ref rf_a, .int 0, .int 0, .int (-1)])), (rf_a, .inl (cI, 7, .inl (xRf (fun _ => 0) (-6))))] H := hP
        have hD : va_D A [(rd, .inr (2, [.int 1, .int 400, .int 80, .int 2, .int 30, .int 0, .ref r0, .ref r1])), (h0, .inr (4, [.ref rd, .ref dr, .ref kp, .ref pl, .ref tx, .ref nu, .ref rf_a, .int 0, .int 0, .int (-1)])), (rf_a, .inl (cI, 7, .inl (xRf (fun _ => 0) (-6))))] := hD
        obtain rfl : ((-6) : Int32) = r_14 := Eq.symm hw
        have hP9 := hP.sub (ws' := []) [] rfl
        have hD9 := hD.sub (ws' := []) [] (by decide) rfl
        exact W.iret (v := -6) hx hb hr (fun t ht hW => ⟨⟨_, (), rfl, by simp [sSet0, c_6, (Int32.not_lt.mpr c_7), (Int32.not_lt.mpr c_9), (Int32.not_le.mp c_11)], by rw [ht]; exact hP9, hD9⟩, hS.F ht⟩) hS.2.2 dX4_set_45
    · refine lv_aload_n hx hb dX4_set_24 rfl (lv_at hl 0 rfl) ?_
      refine lv_bipush (v := -4) hx hb dX4_set_25 (by decide) ?_
      have hPc := hP.sub (ws' := [(h0, .inr (4, [.ref rd, .ref dr, .ref kp, .ref pl, .ref tx, .ref nu, .ref rf_a, .int 0, .int 0, .int (-1)])), (rf_a, .inl (cI, 7, .inl (fun _ => 0)))]) [0, 2] rfl
      have hDc := hD.sub (ws' := [(h0, .inr (4, [.ref rd, .ref dr, .ref kp, .ref pl, .ref tx, .ref nu, .ref rf_a, .int 0, .int 0, .int (-1)])), (rf_a, .inl (cI, 7, .inl (fun _ => 0)))]) [0, 2] (by decide) rfl
      have hFc := va_free (wc := [(h0, .inr (4, [.ref rd, .ref dr, .ref kp, .ref pl, .ref tx, .ref nu, .ref rf_a, .int 0, .int 0, .int (-1)])), (rf_a, .inl (cI, 7, .inl (fun _ => 0)))]) hD hS hA [0, 2] rfl
      refine va_calli (va_runV (As := [.int (-4)]) (rest := []) ⟨hx, hb, hml, hown, hts⟩ (c_X4_refuse l D cI cL cZ cC _ h0 rd dr kp pl tx nu rf_a 0 0 (-1) (fun _ => 0) (-4) (by first | assumption | decide +kernel) (by first | assumption | decide +kernel)) (cwV 1 hts gX4_set_X4_refuse rfl rfl rfl (by decide +kernel) ⟨Nat.le_of_ble_eq_true rfl, Nat.le_of_ble_eq_true rfl⟩) ⟨wPc_bl, va_recv hK hPc (ci := 4) (q0 := 0) rfl rfl, wPc_use hPc hK hDc⟩ rfl rfl hl.1 rfl (lv_room (Nat.le_of_ble_eq_true rfl)) dX4_set_27 ⟨Nat.le_of_ble_eq_true rfl, Nat.le_of_ble_eq_true rfl⟩) hS (fun q _ h => hFc q h) hFc (fun r_15 u_15 t H1 locs ht hvm hw hB hz1 hk1 hS => ?_)
      obtain ⟨hP1, hD1⟩ := hB
      rw [ht] at hP1
      obtain ⟨hP, hD⟩ := va_join (wr := [(rd, .inr (2, [.int 1, .int 400, .int 80, .int 2, .int 30, .int 0, .ref r0, .ref r1]))]) (w1 := [(h0, .inr (4, [.ref rd, .ref dr, .ref kp, .ref pl, .ref tx, .ref nu, .ref rf_a, .int 0, .int 0, .int (-1)])), (rf_a, .inl (cI, 7, .inl (xRf (fun _ => 0) (-4))))]) hP hD [0, 2] [1] rfl rfl (by decide) (by decide) hk1 hFc hP1 hD1
      generalize H1 = H at hP hS ⊢
      have hP : va_P D vwCl [(rd, .inr (2, [.int 1, .int 400, .int 80, .int 2, .int 30, .int 0, .ref r0, .ref r1])), (h0, .inr (4, [.ref rd, .ref dr, .ref kp, .ref pl, .ref tx, .ref nu, .ref rf_a, .int 0, .int 0, .int (-1)])), (rf_a, .inl (cI, 7, .inl (xRf (fun _ => 0) (-4))))] H := hP
      have hD : va_D A [(rd, .inr (2, [.int 1, .int 400, .int 80, .int 2, .int 30, .int 0, .ref r0, .ref r1])), (h0, .inr (4, [.ref rd, .ref dr, .ref kp, .ref pl, .ref tx, .ref nu, .ref rf_a, .int 0, .int 0, .int (-1)])), (rf_a, .inl (cI, 7, .inl (xRf (fun _ => 0) (-4))))] := hD
      obtain rfl : ((-4) : Int32) = r_15 := Eq.symm hw
      have hP9 := hP.sub (ws' := []) [] rfl
      have hD9 := hD.sub (ws' := []) [] (by decide) rfl
      exact W.iret (v := -4) hx hb hr (fun t ht hW => ⟨⟨_, (), rfl, by simp [sSet0, c_6, (Int32.not_lt.mpr c_7), (Int32.not_le.mp c_9)], by rw [ht]; exact hP9, hD9⟩, hS.F ht⟩) hS.2.2 dX4_set_30
  · refine lv_iload_n hx hb dX4_set_0 rfl (lv_at hl 1 rfl) ?_
    refine lv_if_lt (tgt := 9) hx hb dX4_set_1 (by decide) (fun c_16 => absurd c_16 (by decide +kernel)) (fun c_16 => ?_)
    refine lv_iload_n hx hb dX4_set_4 rfl (lv_at hl 1 rfl) ?_
    refine lv_iconst (v := 3) hx hb dX4_set_5 (by decide) ?_
    refine lv_icmp_le (tgt := 16) hx hb dX4_set_6 (by decide) (fun c_17 => ?_) (fun c_17 => absurd c_17 (by decide +kernel))
    refine lv_iload_n hx hb dX4_set_16 rfl (lv_at hl 2 rfl) ?_
    refine lv_iload_n hx hb dX4_set_17 rfl (lv_at hl 1 rfl) ?_
    have hPc := hP.sub (ws' := []) [] rfl
    refine vp_callSi (va_Run.run (va_runS (As := [.int 1]) (rest := [.int a2]) ⟨hx, hb, hml, hown, hts⟩ (c_X2_least1 l D cI cL cZ cC  ) (va_cwS 1 hts gX4_set_X2_least rfl rfl rfl (by decide +kernel) ⟨Nat.le_of_ble_eq_true rfl, Nat.le_of_ble_eq_true rfl⟩) ⟨xPc_bl, xPc_use hPc hK⟩ rfl rfl hl.1 rfl (lv_room (Nat.le_of_ble_eq_true rfl)) dX4_set_18 ⟨Nat.le_of_ble_eq_true rfl, Nat.le_of_ble_eq_true rfl⟩)) (fun r_18 er_18 => ?_)
    obtain rfl : (20 : Int32) = r_18 := Eq.symm er_18
    refine lv_icmp_ge (tgt := 31) hx hb dX4_set_21 (by decide) (fun c_19 => ?_) (fun c_19 => ?_)
    · refine lv_iload_n hx hb dX4_set_31 rfl (lv_at hl 2 rfl) ?_
      refine lv_iload_n hx hb dX4_set_32 rfl (lv_at hl 1 rfl) ?_
      have hPc := hP.sub (ws' := []) [] rfl
      refine vp_callSi (va_Run.run (va_runS (As := [.int 1]) (rest := [.int a2]) ⟨hx, hb, hml, hown, hts⟩ (c_X2_most1 l D cI cL cZ cC  ) (va_cwS 1 hts gX4_set_X2_most rfl rfl rfl (by decide +kernel) ⟨Nat.le_of_ble_eq_true rfl, Nat.le_of_ble_eq_true rfl⟩) ⟨xPc_bl, xPc_use hPc hK⟩ rfl rfl hl.1 rfl (lv_room (Nat.le_of_ble_eq_true rfl)) dX4_set_33 ⟨Nat.le_of_ble_eq_true rfl, Nat.le_of_ble_eq_true rfl⟩)) (fun r_20 er_20 => ?_)
      obtain rfl : (200 : Int32) = r_20 := Eq.symm er_20
      refine lv_icmp_le (tgt := 46) hx hb dX4_set_36 (by decide) (fun c_21 => ?_) (fun c_21 => ?_)
      · refine lv_aload_n hx hb dX4_set_46 rfl (lv_at hl 0 rfl) ?_
        refine va_get (D := D) (ci := 4) (v := .ref rd) (C := RX4) (T := TX4) (N := 10) hx hb hts hwX4 hown hK hP 0 rfl rfl 0 (by decide) (hts (.fieldLink RX4 10 "WaitOrWalkOn" "road" "LWaitOrWalkOn$Road;") (by decide +kernel)) (fun _ h9 => h9) rfl dX4_set_47 ?_
        refine lv_iload_n hx hb dX4_set_50 rfl (lv_at hl 1 rfl) ?_
        have hPc := hP.sub (ws' := [(rd, .inr (2, [.int 1, .int 400, .int 80, .int 2, .int 30, .int 0, .ref r0, .ref r1]))]) [1] rfl
        refine vp_callSi (va_Run.run (va_runV (As := [.int 1]) (rest := []) ⟨hx, hb, hml, hown, hts⟩ (c_X2_setting1 l D cI cL cZ cC rd r0 r1 ) (cwV 1 hts gX4_set_X2_setting rfl rfl rfl (by decide +kernel) ⟨Nat.le_of_ble_eq_true rfl, Nat.le_of_ble_eq_true rfl⟩) ⟨xPc_bl, va_recv hK hPc (ci := 2) (q0 := 0) rfl rfl, xPc_use hPc hK⟩ rfl rfl hl.1 rfl (lv_room (Nat.le_of_ble_eq_true rfl)) dX4_set_51 ⟨Nat.le_of_ble_eq_true rfl, Nat.le_of_ble_eq_true rfl⟩)) (fun r_22 er_22 => ?_)
        obtain rfl : (80 : Int32) = r_22 := Eq.symm er_22
        refine lv_istore_n (lv' := [(3, .int 80), (0, .ref h0), (1, .int 1), (2, .int a2)]) hx hb dX4_set_54 rfl hl (by decide) rfl (fun ls hl => ?_)
        refine lv_aload_n hx hb dX4_set_55 rfl (lv_at hl 1 rfl) ?_
        refine va_get (D := D) (ci := 4) (v := .ref rd) (C := RX4) (T := TX4) (N := 10) hx hb hts hwX4 hown hK hP 0 rfl rfl 0 (by decide) (hts (.fieldLink RX4 10 "WaitOrWalkOn" "road" "LWaitOrWalkOn$Road;") (by decide +kernel)) (fun _ h9 => h9) rfl dX4_set_56 ?_
        refine lv_iload_n hx hb dX4_set_59 rfl (lv_at hl 2 rfl) ?_
        refine lv_iload_n hx hb dX4_set_60 rfl (lv_at hl 3 rfl) ?_
        have hPc := hP.sub (ws' := [(rd, .inr (2, [.int 1, .int 400, .int 80, .int 2, .int 30, .int 0, .ref r0, .ref r1]))]) [1] rfl
        have hDc := hD.sub (ws' := [(rd, .inr (2, [.int 1, .int 400, .int 80, .int 2, .int 30, .int 0, .ref r0, .ref r1]))]) [1] (by decide) rfl
        have hFc := va_free (wc := [(rd, .inr (2, [.int 1, .int 400, .int 80, .int 2, .int 30, .int 0, .ref r0, .ref r1]))]) hD hS hA [1] rfl
        refine va_calli (va_runV (As := [.int 1, .int a2]) (rest := []) ⟨hx, hb, hml, hown, hts⟩ (c_X2_change1 l D cI cL cZ cC _ rd r0 r1 a2 ((Int32.not_lt.mpr c_19)) ((Int32.not_lt.mpr c_21))) (cwV 2 hts gX4_set_X2_change rfl rfl rfl (by decide +kernel) ⟨Nat.le_of_ble_eq_true rfl, Nat.le_of_ble_eq_true rfl⟩) ⟨wPc_bl, va_recv hK hPc (ci := 2) (q0 := 0) rfl rfl, wPc_use hPc hK hDc⟩ rfl rfl hl.1 rfl (lv_room (Nat.le_of_ble_eq_true rfl)) dX4_set_61 ⟨Nat.le_of_ble_eq_true rfl, Nat.le_of_ble_eq_true rfl⟩) hS (fun q _ h => hFc q h) hFc (fun r_23 u_23 t H1 locs ht hvm hw hB hz1 hk1 hS => ?_)
        obtain ⟨hP1, hD1⟩ := hB
        rw [ht] at hP1
        obtain ⟨hP, hD⟩ := va_join (wr := [(h0, .inr (4, [.ref rd, .ref dr, .ref kp, .ref pl, .ref tx, .ref nu, .ref rf_a, .int 0, .int 0, .int (-1)])), (rf_a, .inl (cI, 7, .inl (fun _ => 0)))]) (w1 := []) hP hD [1] [0, 2] rfl rfl (by decide) (by decide) hk1 hFc hP1 hD1
        generalize H1 = H at hP hS ⊢
        have hP : va_P D vwCl [(h0, .inr (4, [.ref rd, .ref dr, .ref kp, .ref pl, .ref tx, .ref nu, .ref rf_a, .int 0, .int 0, .int (-1)])), (rf_a, .inl (cI, 7, .inl (fun _ => 0)))] H := hP
        have hD : va_D A [(h0, .inr (4, [.ref rd, .ref dr, .ref kp, .ref pl, .ref tx, .ref nu, .ref rf_a, .int 0, .int 0, .int (-1)])), (rf_a, .inl (cI, 7, .inl (fun _ => 0)))] := hD
        obtain rfl : (1 : Int32) = r_23 := Eq.symm hw
        refine lv_pop hx hb dX4_set_64 rfl ?_
        refine lv_aload_n hx hb dX4_set_65 rfl (lv_at hl 1 rfl) ?_
        refine lv_iconst (v := -1) hx hb dX4_set_66 (by decide) ?_
        refine va_put (D := D) (ci := 4) (v := .int (-1)) (ty := .int) (C := RX4) (T := TX4) (N := 10) hx hb hts hwX4 tyX4 tyX4_ok nmX4 hown hK hP hD hS 0 rfl rfl 9 (by decide) (hts (.fieldLink RX4 43 "WaitOrWalkOn" "planned" "I") (by decide +kernel)) (fun _ h9 => h9) rfl (by decide +kernel) (by decide +kernel) rfl (Nat.le_of_ble_eq_true rfl) dX4_set_67 (fun H locs hP hD hS => ?_)
        have hP : va_P D vwCl [(h0, .inr (4, [.ref rd, .ref dr, .ref kp, .ref pl, .ref tx, .ref nu, .ref rf_a, .int 0, .int 0, .int (-1)])), (rf_a, .inl (cI, 7, .inl (fun _ => 0)))] H := hP
        have hD : va_D A [(h0, .inr (4, [.ref rd, .ref dr, .ref kp, .ref pl, .ref tx, .ref nu, .ref rf_a, .int 0, .int 0, .int (-1)])), (rf_a, .inl (cI, 7, .inl (fun _ => 0)))] := hD
        refine lv_iload_n hx hb dX4_set_70 rfl (lv_at hl 0 rfl) ?_
        have hP9 := hP.sub (ws' := []) [] rfl
        have hD9 := hD.sub (ws' := []) [] (by decide) rfl
        exact W.iret (v := 80) hx hb hr (fun t ht hW => ⟨⟨_, (), rfl, by simp [sSet0, c_16, (Int32.not_lt.mpr c_17), (Int32.not_lt.mpr c_19), (Int32.not_lt.mpr c_21)], by rw [ht]; exact hP9, hD9⟩, hS.F ht⟩) hS.2.2 dX4_set_71
      · refine lv_aload_n hx hb dX4_set_39 rfl (lv_at hl 0 rfl) ?_
        refine lv_bipush (v := -6) hx hb dX4_set_40 (by decide) ?_
        have hPc := hP.sub (ws' := [(h0, .inr (4, [.ref rd, .ref dr, .ref kp, .ref pl, .ref tx, .ref nu, .ref rf_a, .int 0, .int 0, .int (-1)])), (rf_a, .inl (cI, 7, .inl (fun _ => 0)))]) [0, 2] rfl
        have hDc := hD.sub (ws' := [(h0, .inr (4, [.ref rd, .ref dr, .ref kp, .ref pl, .ref tx, .ref nu, .ref rf_a, .int 0, .int 0, .int (-1)])), (rf_a, .inl (cI, 7, .inl (fun _ => 0)))]) [0, 2] (by decide) rfl
        have hFc := va_free (wc := [(h0, .inr (4, [.ref rd, .ref dr, .ref kp, .ref pl, .ref tx, .ref nu, .ref rf_a, .int 0, .int 0, .int (-1)])), (rf_a, .inl (cI, 7, .inl (fun _ => 0)))]) hD hS hA [0, 2] rfl
        refine va_calli (va_runV (As := [.int (-6)]) (rest := []) ⟨hx, hb, hml, hown, hts⟩ (c_X4_refuse l D cI cL cZ cC _ h0 rd dr kp pl tx nu rf_a 0 0 (-1) (fun _ => 0) (-6) (by first | assumption | decide +kernel) (by first | assumption | decide +kernel)) (cwV 1 hts gX4_set_X4_refuse rfl rfl rfl (by decide +kernel) ⟨Nat.le_of_ble_eq_true rfl, Nat.le_of_ble_eq_true rfl⟩) ⟨wPc_bl, va_recv hK hPc (ci := 4) (q0 := 0) rfl rfl, wPc_use hPc hK hDc⟩ rfl rfl hl.1 rfl (lv_room (Nat.le_of_ble_eq_true rfl)) dX4_set_42 ⟨Nat.le_of_ble_eq_true rfl, Nat.le_of_ble_eq_true rfl⟩) hS (fun q _ h => hFc q h) hFc (fun r_24 u_24 t H1 locs ht hvm hw hB hz1 hk1 hS => ?_)
        obtain ⟨hP1, hD1⟩ := hB
        rw [ht] at hP1
        obtain ⟨hP, hD⟩ := va_join (wr := [(rd, .inr (2, [.int 1, .int 400, .int 80, .int 2, .int 30, .int 0, .ref r0, .ref r1]))]) (w1 := [(h0, .inr (4, [.ref rd, .ref dr, .ref kp, .ref pl, .ref tx, .ref nu, .ref rf_a, .int 0, .int 0, .int (-1)])), (rf_a, .inl (cI, 7, .inl (xRf (fun _ => 0) (-6))))]) hP hD [0, 2] [1] rfl rfl (by decide) (by decide) hk1 hFc hP1 hD1
        generalize H1 = H at hP hS ⊢
        have hP : va_P D vwCl [(rd, .inr (2, [.int 1, .int 400, .int 80, .int 2, .int 30, .int 0, .ref r0, .ref r1])), (h0, .inr (4, [.ref rd, .ref dr, .ref kp, .ref pl, .ref tx, .ref nu, .ref rf_a, .int 0, .int 0, .int (-1)])), (rf_a, .inl (cI, 7, .inl (xRf (fun _ => 0) (-6))))] H := hP
        have hD : va_D A [(rd, .inr (2, [.int 1, .int 400, .int 80, .int 2, .int 30, .int 0, .ref r0, .ref r1])), (h0, .inr (4, [.ref rd, .ref dr, .ref kp, .ref pl, .ref tx, .ref nu, .ref rf_a, .int 0, .int 0, .int (-1)])), (rf_a, .inl (cI, 7, .inl (xRf (fun _ => 0) (-6))))] := hD
        obtain rfl : ((-6) : Int32) = r_24 := Eq.symm hw
        have hP9 := hP.sub (ws' := []) [] rfl
        have hD9 := hD.sub (ws' := []) [] (by decide) rfl
        exact W.iret (v := -6) hx hb hr (fun t ht hW => ⟨⟨_, (), rfl, by simp [sSet0, c_16, (Int32.not_lt.mpr c_17), (Int32.not_lt.mpr c_19), (Int32.not_le.mp c_21)], by rw [ht]; exact hP9, hD9⟩, hS.F ht⟩) hS.2.2 dX4_set_45
    · refine lv_aload_n hx hb dX4_set_24 rfl (lv_at hl 0 rfl) ?_
      refine lv_bipush (v := -4) hx hb dX4_set_25 (by decide) ?_
      have hPc := hP.sub (ws' := [(h0, .inr (4, [.ref rd, .ref dr, .ref kp, .ref pl, .ref tx, .ref nu, .ref rf_a, .int 0, .int 0, .int (-1)])), (rf_a, .inl (cI, 7, .inl (fun _ => 0)))]) [0, 2] rfl
      have hDc := hD.sub (ws' := [(h0, .inr (4, [.ref rd, .ref dr, .ref kp, .ref pl, .ref tx, .ref nu, .ref rf_a, .int 0, .int 0, .int (-1)])), (rf_a, .inl (cI, 7, .inl (fun _ => 0)))]) [0, 2] (by decide) rfl
      have hFc := va_free (wc := [(h0, .inr (4, [.ref rd, .ref dr, .ref kp, .ref pl, .ref tx, .ref nu, .ref rf_a, .int 0, .int 0, .int (-1)])), (rf_a, .inl (cI, 7, .inl (fun _ => 0)))]) hD hS hA [0, 2] rfl
      refine va_calli (va_runV (As := [.int (-4)]) (rest := []) ⟨hx, hb, hml, hown, hts⟩ (c_X4_refuse l D cI cL cZ cC _ h0 rd dr kp pl tx nu rf_a 0 0 (-1) (fun _ => 0) (-4) (by first | assumption | decide +kernel) (by first | assumption | decide +kernel)) (cwV 1 hts gX4_set_X4_refuse rfl rfl rfl (by decide +kernel) ⟨Nat.le_of_ble_eq_true rfl, Nat.le_of_ble_eq_true rfl⟩) ⟨wPc_bl, va_recv hK hPc (ci := 4) (q0 := 0) rfl rfl, wPc_use hPc hK hDc⟩ rfl rfl hl.1 rfl (lv_room (Nat.le_of_ble_eq_true rfl)) dX4_set_27 ⟨Nat.le_of_ble_eq_true rfl, Nat.le_of_ble_eq_true rfl⟩) hS (fun q _ h => hFc q h) hFc (fun r_25 u_25 t H1 locs ht hvm hw hB hz1 hk1 hS => ?_)
      obtain ⟨hP1, hD1⟩ := hB
      rw [ht] at hP1
      obtain ⟨hP, hD⟩ := va_join (wr := [(rd, .inr (2, [.int 1, .int 400, .int 80, .int 2, .int 30, .int 0, .ref r0, .ref r1]))]) (w1 := [(h0, .inr (4, [.ref rd, .ref dr, .ref kp, .ref pl, .ref tx, .ref nu, .ref rf_a, .int 0, .int 0, .int (-1)])), (rf_a, .inl (cI, 7, .inl (xRf (fun _ => 0) (-4))))]) hP hD [0, 2] [1] rfl rfl (by decide) (by decide) hk1 hFc hP1 hD1
      generalize H1 = H at hP hS ⊢
      have hP : va_P D vwCl [(rd, .inr (2, [.int 1, .int 400, .int 80, .int 2, .int 30, .int 0, .ref r0, .ref r1])), (h0, .inr (4, [.ref rd, .ref dr, .ref kp, .ref pl, .ref tx, .ref nu, .ref rf_a, .int 0, .int 0, .int (-1)])), (rf_a, .inl (cI, 7, .inl (xRf (fun _ => 0) (-4))))] H := hP
      have hD : va_D A [(rd, .inr (2, [.int 1, .int 400, .int 80, .int 2, .int 30, .int 0, .ref r0, .ref r1])), (h0, .inr (4, [.ref rd, .ref dr, .ref kp, .ref pl, .ref tx, .ref nu, .ref rf_a, .int 0, .int 0, .int (-1)])), (rf_a, .inl (cI, 7, .inl (xRf (fun _ => 0) (-4))))] := hD
      obtain rfl : ((-4) : Int32) = r_25 := Eq.symm hw
      have hP9 := hP.sub (ws' := []) [] rfl
      have hD9 := hD.sub (ws' := []) [] (by decide) rfl
      exact W.iret (v := -4) hx hb hr (fun t ht hW => ⟨⟨_, (), rfl, by simp [sSet0, c_16, (Int32.not_lt.mpr c_17), (Int32.not_le.mp c_19)], by rw [ht]; exact hP9, hD9⟩, hS.F ht⟩) hS.2.2 dX4_set_30
  · refine lv_iload_n hx hb dX4_set_0 rfl (lv_at hl 1 rfl) ?_
    refine lv_if_lt (tgt := 9) hx hb dX4_set_1 (by decide) (fun c_26 => absurd c_26 (by decide +kernel)) (fun c_26 => ?_)
    refine lv_iload_n hx hb dX4_set_4 rfl (lv_at hl 1 rfl) ?_
    refine lv_iconst (v := 3) hx hb dX4_set_5 (by decide) ?_
    refine lv_icmp_le (tgt := 16) hx hb dX4_set_6 (by decide) (fun c_27 => ?_) (fun c_27 => absurd c_27 (by decide +kernel))
    refine lv_iload_n hx hb dX4_set_16 rfl (lv_at hl 2 rfl) ?_
    refine lv_iload_n hx hb dX4_set_17 rfl (lv_at hl 1 rfl) ?_
    have hPc := hP.sub (ws' := []) [] rfl
    refine vp_callSi (va_Run.run (va_runS (As := [.int 2]) (rest := [.int a2]) ⟨hx, hb, hml, hown, hts⟩ (c_X2_least2 l D cI cL cZ cC  ) (va_cwS 1 hts gX4_set_X2_least rfl rfl rfl (by decide +kernel) ⟨Nat.le_of_ble_eq_true rfl, Nat.le_of_ble_eq_true rfl⟩) ⟨xPc_bl, xPc_use hPc hK⟩ rfl rfl hl.1 rfl (lv_room (Nat.le_of_ble_eq_true rfl)) dX4_set_18 ⟨Nat.le_of_ble_eq_true rfl, Nat.le_of_ble_eq_true rfl⟩)) (fun r_28 er_28 => ?_)
    obtain rfl : (0 : Int32) = r_28 := Eq.symm er_28
    refine lv_icmp_ge (tgt := 31) hx hb dX4_set_21 (by decide) (fun c_29 => ?_) (fun c_29 => ?_)
    · refine lv_iload_n hx hb dX4_set_31 rfl (lv_at hl 2 rfl) ?_
      refine lv_iload_n hx hb dX4_set_32 rfl (lv_at hl 1 rfl) ?_
      have hPc := hP.sub (ws' := []) [] rfl
      refine vp_callSi (va_Run.run (va_runS (As := [.int 2]) (rest := [.int a2]) ⟨hx, hb, hml, hown, hts⟩ (c_X2_most2 l D cI cL cZ cC  ) (va_cwS 1 hts gX4_set_X2_most rfl rfl rfl (by decide +kernel) ⟨Nat.le_of_ble_eq_true rfl, Nat.le_of_ble_eq_true rfl⟩) ⟨xPc_bl, xPc_use hPc hK⟩ rfl rfl hl.1 rfl (lv_room (Nat.le_of_ble_eq_true rfl)) dX4_set_33 ⟨Nat.le_of_ble_eq_true rfl, Nat.le_of_ble_eq_true rfl⟩)) (fun r_30 er_30 => ?_)
      obtain rfl : (9 : Int32) = r_30 := Eq.symm er_30
      refine lv_icmp_le (tgt := 46) hx hb dX4_set_36 (by decide) (fun c_31 => ?_) (fun c_31 => ?_)
      · refine lv_aload_n hx hb dX4_set_46 rfl (lv_at hl 0 rfl) ?_
        refine va_get (D := D) (ci := 4) (v := .ref rd) (C := RX4) (T := TX4) (N := 10) hx hb hts hwX4 hown hK hP 0 rfl rfl 0 (by decide) (hts (.fieldLink RX4 10 "WaitOrWalkOn" "road" "LWaitOrWalkOn$Road;") (by decide +kernel)) (fun _ h9 => h9) rfl dX4_set_47 ?_
        refine lv_iload_n hx hb dX4_set_50 rfl (lv_at hl 1 rfl) ?_
        have hPc := hP.sub (ws' := [(rd, .inr (2, [.int 1, .int 400, .int 80, .int 2, .int 30, .int 0, .ref r0, .ref r1]))]) [1] rfl
        refine vp_callSi (va_Run.run (va_runV (As := [.int 2]) (rest := []) ⟨hx, hb, hml, hown, hts⟩ (c_X2_setting2 l D cI cL cZ cC rd r0 r1 ) (cwV 1 hts gX4_set_X2_setting rfl rfl rfl (by decide +kernel) ⟨Nat.le_of_ble_eq_true rfl, Nat.le_of_ble_eq_true rfl⟩) ⟨xPc_bl, va_recv hK hPc (ci := 2) (q0 := 0) rfl rfl, xPc_use hPc hK⟩ rfl rfl hl.1 rfl (lv_room (Nat.le_of_ble_eq_true rfl)) dX4_set_51 ⟨Nat.le_of_ble_eq_true rfl, Nat.le_of_ble_eq_true rfl⟩)) (fun r_32 er_32 => ?_)
        obtain rfl : (2 : Int32) = r_32 := Eq.symm er_32
        refine lv_istore_n (lv' := [(3, .int 2), (0, .ref h0), (1, .int 2), (2, .int a2)]) hx hb dX4_set_54 rfl hl (by decide) rfl (fun ls hl => ?_)
        refine lv_aload_n hx hb dX4_set_55 rfl (lv_at hl 1 rfl) ?_
        refine va_get (D := D) (ci := 4) (v := .ref rd) (C := RX4) (T := TX4) (N := 10) hx hb hts hwX4 hown hK hP 0 rfl rfl 0 (by decide) (hts (.fieldLink RX4 10 "WaitOrWalkOn" "road" "LWaitOrWalkOn$Road;") (by decide +kernel)) (fun _ h9 => h9) rfl dX4_set_56 ?_
        refine lv_iload_n hx hb dX4_set_59 rfl (lv_at hl 2 rfl) ?_
        refine lv_iload_n hx hb dX4_set_60 rfl (lv_at hl 3 rfl) ?_
        have hPc := hP.sub (ws' := [(rd, .inr (2, [.int 1, .int 400, .int 80, .int 2, .int 30, .int 0, .ref r0, .ref r1]))]) [1] rfl
        have hDc := hD.sub (ws' := [(rd, .inr (2, [.int 1, .int 400, .int 80, .int 2, .int 30, .int 0, .ref r0, .ref r1]))]) [1] (by decide) rfl
        have hFc := va_free (wc := [(rd, .inr (2, [.int 1, .int 400, .int 80, .int 2, .int 30, .int 0, .ref r0, .ref r1]))]) hD hS hA [1] rfl
        refine va_calli (va_runV (As := [.int 2, .int a2]) (rest := []) ⟨hx, hb, hml, hown, hts⟩ (c_X2_change2 l D cI cL cZ cC _ rd r0 r1 a2 ((Int32.not_lt.mpr c_29)) ((Int32.not_lt.mpr c_31))) (cwV 2 hts gX4_set_X2_change rfl rfl rfl (by decide +kernel) ⟨Nat.le_of_ble_eq_true rfl, Nat.le_of_ble_eq_true rfl⟩) ⟨wPc_bl, va_recv hK hPc (ci := 2) (q0 := 0) rfl rfl, wPc_use hPc hK hDc⟩ rfl rfl hl.1 rfl (lv_room (Nat.le_of_ble_eq_true rfl)) dX4_set_61 ⟨Nat.le_of_ble_eq_true rfl, Nat.le_of_ble_eq_true rfl⟩) hS (fun q _ h => hFc q h) hFc (fun r_33 u_33 t H1 locs ht hvm hw hB hz1 hk1 hS => ?_)
        obtain ⟨hP1, hD1⟩ := hB
        rw [ht] at hP1
        obtain ⟨hP, hD⟩ := va_join (wr := [(h0, .inr (4, [.ref rd, .ref dr, .ref kp, .ref pl, .ref tx, .ref nu, .ref rf_a, .int 0, .int 0, .int (-1)])), (rf_a, .inl (cI, 7, .inl (fun _ => 0)))]) (w1 := []) hP hD [1] [0, 2] rfl rfl (by decide) (by decide) hk1 hFc hP1 hD1
        generalize H1 = H at hP hS ⊢
        have hP : va_P D vwCl [(h0, .inr (4, [.ref rd, .ref dr, .ref kp, .ref pl, .ref tx, .ref nu, .ref rf_a, .int 0, .int 0, .int (-1)])), (rf_a, .inl (cI, 7, .inl (fun _ => 0)))] H := hP
        have hD : va_D A [(h0, .inr (4, [.ref rd, .ref dr, .ref kp, .ref pl, .ref tx, .ref nu, .ref rf_a, .int 0, .int 0, .int (-1)])), (rf_a, .inl (cI, 7, .inl (fun _ => 0)))] := hD
        obtain rfl : (1 : Int32) = r_33 := Eq.symm hw
        refine lv_pop hx hb dX4_set_64 rfl ?_
        refine lv_aload_n hx hb dX4_set_65 rfl (lv_at hl 1 rfl) ?_
        refine lv_iconst (v := -1) hx hb dX4_set_66 (by decide) ?_
        refine va_put (D := D) (ci := 4) (v := .int (-1)) (ty := .int) (C := RX4) (T := TX4) (N := 10) hx hb hts hwX4 tyX4 tyX4_ok nmX4 hown hK hP hD hS 0 rfl rfl 9 (by decide) (hts (.fieldLink RX4 43 "WaitOrWalkOn" "planned" "I") (by decide +kernel)) (fun _ h9 => h9) rfl (by decide +kernel) (by decide +kernel) rfl (Nat.le_of_ble_eq_true rfl) dX4_set_67 (fun H locs hP hD hS => ?_)
        have hP : va_P D vwCl [(h0, .inr (4, [.ref rd, .ref dr, .ref kp, .ref pl, .ref tx, .ref nu, .ref rf_a, .int 0, .int 0, .int (-1)])), (rf_a, .inl (cI, 7, .inl (fun _ => 0)))] H := hP
        have hD : va_D A [(h0, .inr (4, [.ref rd, .ref dr, .ref kp, .ref pl, .ref tx, .ref nu, .ref rf_a, .int 0, .int 0, .int (-1)])), (rf_a, .inl (cI, 7, .inl (fun _ => 0)))] := hD
        refine lv_iload_n hx hb dX4_set_70 rfl (lv_at hl 0 rfl) ?_
        have hP9 := hP.sub (ws' := []) [] rfl
        have hD9 := hD.sub (ws' := []) [] (by decide) rfl
        exact W.iret (v := 2) hx hb hr (fun t ht hW => ⟨⟨_, (), rfl, by simp [sSet0, c_26, (Int32.not_lt.mpr c_27), (Int32.not_lt.mpr c_29), (Int32.not_lt.mpr c_31)], by rw [ht]; exact hP9, hD9⟩, hS.F ht⟩) hS.2.2 dX4_set_71
      · refine lv_aload_n hx hb dX4_set_39 rfl (lv_at hl 0 rfl) ?_
        refine lv_bipush (v := -6) hx hb dX4_set_40 (by decide) ?_
        have hPc := hP.sub (ws' := [(h0, .inr (4, [.ref rd, .ref dr, .ref kp, .ref pl, .ref tx, .ref nu, .ref rf_a, .int 0, .int 0, .int (-1)])), (rf_a, .inl (cI, 7, .inl (fun _ => 0)))]) [0, 2] rfl
        have hDc := hD.sub (ws' := [(h0, .inr (4, [.ref rd, .ref dr, .ref kp, .ref pl, .ref tx, .ref nu, .ref rf_a, .int 0, .int 0, .int (-1)])), (rf_a, .inl (cI, 7, .inl (fun _ => 0)))]) [0, 2] (by decide) rfl
        have hFc := va_free (wc := [(h0, .inr (4, [.ref rd, .ref dr, .ref kp, .ref pl, .ref tx, .ref nu, .ref rf_a, .int 0, .int 0, .int (-1)])), (rf_a, .inl (cI, 7, .inl (fun _ => 0)))]) hD hS hA [0, 2] rfl
        refine va_calli (va_runV (As := [.int (-6)]) (rest := []) ⟨hx, hb, hml, hown, hts⟩ (c_X4_refuse l D cI cL cZ cC _ h0 rd dr kp pl tx nu rf_a 0 0 (-1) (fun _ => 0) (-6) (by first | assumption | decide +kernel) (by first | assumption | decide +kernel)) (cwV 1 hts gX4_set_X4_refuse rfl rfl rfl (by decide +kernel) ⟨Nat.le_of_ble_eq_true rfl, Nat.le_of_ble_eq_true rfl⟩) ⟨wPc_bl, va_recv hK hPc (ci := 4) (q0 := 0) rfl rfl, wPc_use hPc hK hDc⟩ rfl rfl hl.1 rfl (lv_room (Nat.le_of_ble_eq_true rfl)) dX4_set_42 ⟨Nat.le_of_ble_eq_true rfl, Nat.le_of_ble_eq_true rfl⟩) hS (fun q _ h => hFc q h) hFc (fun r_34 u_34 t H1 locs ht hvm hw hB hz1 hk1 hS => ?_)
        obtain ⟨hP1, hD1⟩ := hB
        rw [ht] at hP1
        obtain ⟨hP, hD⟩ := va_join (wr := [(rd, .inr (2, [.int 1, .int 400, .int 80, .int 2, .int 30, .int 0, .ref r0, .ref r1]))]) (w1 := [(h0, .inr (4, [.ref rd, .ref dr, .ref kp, .ref pl, .ref tx, .ref nu, .ref rf_a, .int 0, .int 0, .int (-1)])), (rf_a, .inl (cI, 7, .inl (xRf (fun _ => 0) (-6))))]) hP hD [0, 2] [1] rfl rfl (by decide) (by decide) hk1 hFc hP1 hD1
        generalize H1 = H at hP hS ⊢
        have hP : va_P D vwCl [(rd, .inr (2, [.int 1, .int 400, .int 80, .int 2, .int 30, .int 0, .ref r0, .ref r1])), (h0, .inr (4, [.ref rd, .ref dr, .ref kp, .ref pl, .ref tx, .ref nu, .ref rf_a, .int 0, .int 0, .int (-1)])), (rf_a, .inl (cI, 7, .inl (xRf (fun _ => 0) (-6))))] H := hP
        have hD : va_D A [(rd, .inr (2, [.int 1, .int 400, .int 80, .int 2, .int 30, .int 0, .ref r0, .ref r1])), (h0, .inr (4, [.ref rd, .ref dr, .ref kp, .ref pl, .ref tx, .ref nu, .ref rf_a, .int 0, .int 0, .int (-1)])), (rf_a, .inl (cI, 7, .inl (xRf (fun _ => 0) (-6))))] := hD
        obtain rfl : ((-6) : Int32) = r_34 := Eq.symm hw
        have hP9 := hP.sub (ws' := []) [] rfl
        have hD9 := hD.sub (ws' := []) [] (by decide) rfl
        exact W.iret (v := -6) hx hb hr (fun t ht hW => ⟨⟨_, (), rfl, by simp [sSet0, c_26, (Int32.not_lt.mpr c_27), (Int32.not_lt.mpr c_29), (Int32.not_le.mp c_31)], by rw [ht]; exact hP9, hD9⟩, hS.F ht⟩) hS.2.2 dX4_set_45
    · refine lv_aload_n hx hb dX4_set_24 rfl (lv_at hl 0 rfl) ?_
      refine lv_bipush (v := -4) hx hb dX4_set_25 (by decide) ?_
      have hPc := hP.sub (ws' := [(h0, .inr (4, [.ref rd, .ref dr, .ref kp, .ref pl, .ref tx, .ref nu, .ref rf_a, .int 0, .int 0, .int (-1)])), (rf_a, .inl (cI, 7, .inl (fun _ => 0)))]) [0, 2] rfl
      have hDc := hD.sub (ws' := [(h0, .inr (4, [.ref rd, .ref dr, .ref kp, .ref pl, .ref tx, .ref nu, .ref rf_a, .int 0, .int 0, .int (-1)])), (rf_a, .inl (cI, 7, .inl (fun _ => 0)))]) [0, 2] (by decide) rfl
      have hFc := va_free (wc := [(h0, .inr (4, [.ref rd, .ref dr, .ref kp, .ref pl, .ref tx, .ref nu, .ref rf_a, .int 0, .int 0, .int (-1)])), (rf_a, .inl (cI, 7, .inl (fun _ => 0)))]) hD hS hA [0, 2] rfl
      refine va_calli (va_runV (As := [.int (-4)]) (rest := []) ⟨hx, hb, hml, hown, hts⟩ (c_X4_refuse l D cI cL cZ cC _ h0 rd dr kp pl tx nu rf_a 0 0 (-1) (fun _ => 0) (-4) (by first | assumption | decide +kernel) (by first | assumption | decide +kernel)) (cwV 1 hts gX4_set_X4_refuse rfl rfl rfl (by decide +kernel) ⟨Nat.le_of_ble_eq_true rfl, Nat.le_of_ble_eq_true rfl⟩) ⟨wPc_bl, va_recv hK hPc (ci := 4) (q0 := 0) rfl rfl, wPc_use hPc hK hDc⟩ rfl rfl hl.1 rfl (lv_room (Nat.le_of_ble_eq_true rfl)) dX4_set_27 ⟨Nat.le_of_ble_eq_true rfl, Nat.le_of_ble_eq_true rfl⟩) hS (fun q _ h => hFc q h) hFc (fun r_35 u_35 t H1 locs ht hvm hw hB hz1 hk1 hS => ?_)
      obtain ⟨hP1, hD1⟩ := hB
      rw [ht] at hP1
      obtain ⟨hP, hD⟩ := va_join (wr := [(rd, .inr (2, [.int 1, .int 400, .int 80, .int 2, .int 30, .int 0, .ref r0, .ref r1]))]) (w1 := [(h0, .inr (4, [.ref rd, .ref dr, .ref kp, .ref pl, .ref tx, .ref nu, .ref rf_a, .int 0, .int 0, .int (-1)])), (rf_a, .inl (cI, 7, .inl (xRf (fun _ => 0) (-4))))]) hP hD [0, 2] [1] rfl rfl (by decide) (by decide) hk1 hFc hP1 hD1
      generalize H1 = H at hP hS ⊢
      have hP : va_P D vwCl [(rd, .inr (2, [.int 1, .int 400, .int 80, .int 2, .int 30, .int 0, .ref r0, .ref r1])), (h0, .inr (4, [.ref rd, .ref dr, .ref kp, .ref pl, .ref tx, .ref nu, .ref rf_a, .int 0, .int 0, .int (-1)])), (rf_a, .inl (cI, 7, .inl (xRf (fun _ => 0) (-4))))] H := hP
      have hD : va_D A [(rd, .inr (2, [.int 1, .int 400, .int 80, .int 2, .int 30, .int 0, .ref r0, .ref r1])), (h0, .inr (4, [.ref rd, .ref dr, .ref kp, .ref pl, .ref tx, .ref nu, .ref rf_a, .int 0, .int 0, .int (-1)])), (rf_a, .inl (cI, 7, .inl (xRf (fun _ => 0) (-4))))] := hD
      obtain rfl : ((-4) : Int32) = r_35 := Eq.symm hw
      have hP9 := hP.sub (ws' := []) [] rfl
      have hD9 := hD.sub (ws' := []) [] (by decide) rfl
      exact W.iret (v := -4) hx hb hr (fun t ht hW => ⟨⟨_, (), rfl, by simp [sSet0, c_26, (Int32.not_lt.mpr c_27), (Int32.not_le.mp c_29)], by rw [ht]; exact hP9, hD9⟩, hS.F ht⟩) hS.2.2 dX4_set_30
  · refine lv_iload_n hx hb dX4_set_0 rfl (lv_at hl 1 rfl) ?_
    refine lv_if_lt (tgt := 9) hx hb dX4_set_1 (by decide) (fun c_36 => absurd c_36 (by decide +kernel)) (fun c_36 => ?_)
    refine lv_iload_n hx hb dX4_set_4 rfl (lv_at hl 1 rfl) ?_
    refine lv_iconst (v := 3) hx hb dX4_set_5 (by decide) ?_
    refine lv_icmp_le (tgt := 16) hx hb dX4_set_6 (by decide) (fun c_37 => ?_) (fun c_37 => absurd c_37 (by decide +kernel))
    refine lv_iload_n hx hb dX4_set_16 rfl (lv_at hl 2 rfl) ?_
    refine lv_iload_n hx hb dX4_set_17 rfl (lv_at hl 1 rfl) ?_
    have hPc := hP.sub (ws' := []) [] rfl
    refine vp_callSi (va_Run.run (va_runS (As := [.int 3]) (rest := [.int a2]) ⟨hx, hb, hml, hown, hts⟩ (c_X2_least3 l D cI cL cZ cC  ) (va_cwS 1 hts gX4_set_X2_least rfl rfl rfl (by decide +kernel) ⟨Nat.le_of_ble_eq_true rfl, Nat.le_of_ble_eq_true rfl⟩) ⟨xPc_bl, xPc_use hPc hK⟩ rfl rfl hl.1 rfl (lv_room (Nat.le_of_ble_eq_true rfl)) dX4_set_18 ⟨Nat.le_of_ble_eq_true rfl, Nat.le_of_ble_eq_true rfl⟩)) (fun r_38 er_38 => ?_)
    obtain rfl : (1 : Int32) = r_38 := Eq.symm er_38
    refine lv_icmp_ge (tgt := 31) hx hb dX4_set_21 (by decide) (fun c_39 => ?_) (fun c_39 => ?_)
    · refine lv_iload_n hx hb dX4_set_31 rfl (lv_at hl 2 rfl) ?_
      refine lv_iload_n hx hb dX4_set_32 rfl (lv_at hl 1 rfl) ?_
      have hPc := hP.sub (ws' := []) [] rfl
      refine vp_callSi (va_Run.run (va_runS (As := [.int 3]) (rest := [.int a2]) ⟨hx, hb, hml, hown, hts⟩ (c_X2_most3 l D cI cL cZ cC  ) (va_cwS 1 hts gX4_set_X2_most rfl rfl rfl (by decide +kernel) ⟨Nat.le_of_ble_eq_true rfl, Nat.le_of_ble_eq_true rfl⟩) ⟨xPc_bl, xPc_use hPc hK⟩ rfl rfl hl.1 rfl (lv_room (Nat.le_of_ble_eq_true rfl)) dX4_set_33 ⟨Nat.le_of_ble_eq_true rfl, Nat.le_of_ble_eq_true rfl⟩)) (fun r_40 er_40 => ?_)
      obtain rfl : (60 : Int32) = r_40 := Eq.symm er_40
      refine lv_icmp_le (tgt := 46) hx hb dX4_set_36 (by decide) (fun c_41 => ?_) (fun c_41 => ?_)
      · refine lv_aload_n hx hb dX4_set_46 rfl (lv_at hl 0 rfl) ?_
        refine va_get (D := D) (ci := 4) (v := .ref rd) (C := RX4) (T := TX4) (N := 10) hx hb hts hwX4 hown hK hP 0 rfl rfl 0 (by decide) (hts (.fieldLink RX4 10 "WaitOrWalkOn" "road" "LWaitOrWalkOn$Road;") (by decide +kernel)) (fun _ h9 => h9) rfl dX4_set_47 ?_
        refine lv_iload_n hx hb dX4_set_50 rfl (lv_at hl 1 rfl) ?_
        have hPc := hP.sub (ws' := [(rd, .inr (2, [.int 1, .int 400, .int 80, .int 2, .int 30, .int 0, .ref r0, .ref r1]))]) [1] rfl
        refine vp_callSi (va_Run.run (va_runV (As := [.int 3]) (rest := []) ⟨hx, hb, hml, hown, hts⟩ (c_X2_setting3 l D cI cL cZ cC rd r0 r1 ) (cwV 1 hts gX4_set_X2_setting rfl rfl rfl (by decide +kernel) ⟨Nat.le_of_ble_eq_true rfl, Nat.le_of_ble_eq_true rfl⟩) ⟨xPc_bl, va_recv hK hPc (ci := 2) (q0 := 0) rfl rfl, xPc_use hPc hK⟩ rfl rfl hl.1 rfl (lv_room (Nat.le_of_ble_eq_true rfl)) dX4_set_51 ⟨Nat.le_of_ble_eq_true rfl, Nat.le_of_ble_eq_true rfl⟩)) (fun r_42 er_42 => ?_)
        obtain rfl : (30 : Int32) = r_42 := Eq.symm er_42
        refine lv_istore_n (lv' := [(3, .int 30), (0, .ref h0), (1, .int 3), (2, .int a2)]) hx hb dX4_set_54 rfl hl (by decide) rfl (fun ls hl => ?_)
        refine lv_aload_n hx hb dX4_set_55 rfl (lv_at hl 1 rfl) ?_
        refine va_get (D := D) (ci := 4) (v := .ref rd) (C := RX4) (T := TX4) (N := 10) hx hb hts hwX4 hown hK hP 0 rfl rfl 0 (by decide) (hts (.fieldLink RX4 10 "WaitOrWalkOn" "road" "LWaitOrWalkOn$Road;") (by decide +kernel)) (fun _ h9 => h9) rfl dX4_set_56 ?_
        refine lv_iload_n hx hb dX4_set_59 rfl (lv_at hl 2 rfl) ?_
        refine lv_iload_n hx hb dX4_set_60 rfl (lv_at hl 3 rfl) ?_
        have hPc := hP.sub (ws' := [(rd, .inr (2, [.int 1, .int 400, .int 80, .int 2, .int 30, .int 0, .ref r0, .ref r1]))]) [1] rfl
        have hDc := hD.sub (ws' := [(rd, .inr (2, [.int 1, .int 400, .int 80, .int 2, .int 30, .int 0, .ref r0, .ref r1]))]) [1] (by decide) rfl
        have hFc := va_free (wc := [(rd, .inr (2, [.int 1, .int 400, .int 80, .int 2, .int 30, .int 0, .ref r0, .ref r1]))]) hD hS hA [1] rfl
        refine va_calli (va_runV (As := [.int 3, .int a2]) (rest := []) ⟨hx, hb, hml, hown, hts⟩ (c_X2_change3 l D cI cL cZ cC _ rd r0 r1 a2 ((Int32.not_lt.mpr c_39)) ((Int32.not_lt.mpr c_41))) (cwV 2 hts gX4_set_X2_change rfl rfl rfl (by decide +kernel) ⟨Nat.le_of_ble_eq_true rfl, Nat.le_of_ble_eq_true rfl⟩) ⟨wPc_bl, va_recv hK hPc (ci := 2) (q0 := 0) rfl rfl, wPc_use hPc hK hDc⟩ rfl rfl hl.1 rfl (lv_room (Nat.le_of_ble_eq_true rfl)) dX4_set_61 ⟨Nat.le_of_ble_eq_true rfl, Nat.le_of_ble_eq_true rfl⟩) hS (fun q _ h => hFc q h) hFc (fun r_43 u_43 t H1 locs ht hvm hw hB hz1 hk1 hS => ?_)
        obtain ⟨hP1, hD1⟩ := hB
        rw [ht] at hP1
        obtain ⟨hP, hD⟩ := va_join (wr := [(h0, .inr (4, [.ref rd, .ref dr, .ref kp, .ref pl, .ref tx, .ref nu, .ref rf_a, .int 0, .int 0, .int (-1)])), (rf_a, .inl (cI, 7, .inl (fun _ => 0)))]) (w1 := []) hP hD [1] [0, 2] rfl rfl (by decide) (by decide) hk1 hFc hP1 hD1
        generalize H1 = H at hP hS ⊢
        have hP : va_P D vwCl [(h0, .inr (4, [.ref rd, .ref dr, .ref kp, .ref pl, .ref tx, .ref nu, .ref rf_a, .int 0, .int 0, .int (-1)])), (rf_a, .inl (cI, 7, .inl (fun _ => 0)))] H := hP
        have hD : va_D A [(h0, .inr (4, [.ref rd, .ref dr, .ref kp, .ref pl, .ref tx, .ref nu, .ref rf_a, .int 0, .int 0, .int (-1)])), (rf_a, .inl (cI, 7, .inl (fun _ => 0)))] := hD
        obtain rfl : (1 : Int32) = r_43 := Eq.symm hw
        refine lv_pop hx hb dX4_set_64 rfl ?_
        refine lv_aload_n hx hb dX4_set_65 rfl (lv_at hl 1 rfl) ?_
        refine lv_iconst (v := -1) hx hb dX4_set_66 (by decide) ?_
        refine va_put (D := D) (ci := 4) (v := .int (-1)) (ty := .int) (C := RX4) (T := TX4) (N := 10) hx hb hts hwX4 tyX4 tyX4_ok nmX4 hown hK hP hD hS 0 rfl rfl 9 (by decide) (hts (.fieldLink RX4 43 "WaitOrWalkOn" "planned" "I") (by decide +kernel)) (fun _ h9 => h9) rfl (by decide +kernel) (by decide +kernel) rfl (Nat.le_of_ble_eq_true rfl) dX4_set_67 (fun H locs hP hD hS => ?_)
        have hP : va_P D vwCl [(h0, .inr (4, [.ref rd, .ref dr, .ref kp, .ref pl, .ref tx, .ref nu, .ref rf_a, .int 0, .int 0, .int (-1)])), (rf_a, .inl (cI, 7, .inl (fun _ => 0)))] H := hP
        have hD : va_D A [(h0, .inr (4, [.ref rd, .ref dr, .ref kp, .ref pl, .ref tx, .ref nu, .ref rf_a, .int 0, .int 0, .int (-1)])), (rf_a, .inl (cI, 7, .inl (fun _ => 0)))] := hD
        refine lv_iload_n hx hb dX4_set_70 rfl (lv_at hl 0 rfl) ?_
        have hP9 := hP.sub (ws' := []) [] rfl
        have hD9 := hD.sub (ws' := []) [] (by decide) rfl
        exact W.iret (v := 30) hx hb hr (fun t ht hW => ⟨⟨_, (), rfl, by simp [sSet0, c_36, (Int32.not_lt.mpr c_37), (Int32.not_lt.mpr c_39), (Int32.not_lt.mpr c_41)], by rw [ht]; exact hP9, hD9⟩, hS.F ht⟩) hS.2.2 dX4_set_71
      · refine lv_aload_n hx hb dX4_set_39 rfl (lv_at hl 0 rfl) ?_
        refine lv_bipush (v := -6) hx hb dX4_set_40 (by decide) ?_
        have hPc := hP.sub (ws' := [(h0, .inr (4, [.ref rd, .ref dr, .ref kp, .ref pl, .ref tx, .ref nu, .ref rf_a, .int 0, .int 0, .int (-1)])), (rf_a, .inl (cI, 7, .inl (fun _ => 0)))]) [0, 2] rfl
        have hDc := hD.sub (ws' := [(h0, .inr (4, [.ref rd, .ref dr, .ref kp, .ref pl, .ref tx, .ref nu, .ref rf_a, .int 0, .int 0, .int (-1)])), (rf_a, .inl (cI, 7, .inl (fun _ => 0)))]) [0, 2] (by decide) rfl
        have hFc := va_free (wc := [(h0, .inr (4, [.ref rd, .ref dr, .ref kp, .ref pl, .ref tx, .ref nu, .ref rf_a, .int 0, .int 0, .int (-1)])), (rf_a, .inl (cI, 7, .inl (fun _ => 0)))]) hD hS hA [0, 2] rfl
        refine va_calli (va_runV (As := [.int (-6)]) (rest := []) ⟨hx, hb, hml, hown, hts⟩ (c_X4_refuse l D cI cL cZ cC _ h0 rd dr kp pl tx nu rf_a 0 0 (-1) (fun _ => 0) (-6) (by first | assumption | decide +kernel) (by first | assumption | decide +kernel)) (cwV 1 hts gX4_set_X4_refuse rfl rfl rfl (by decide +kernel) ⟨Nat.le_of_ble_eq_true rfl, Nat.le_of_ble_eq_true rfl⟩) ⟨wPc_bl, va_recv hK hPc (ci := 4) (q0 := 0) rfl rfl, wPc_use hPc hK hDc⟩ rfl rfl hl.1 rfl (lv_room (Nat.le_of_ble_eq_true rfl)) dX4_set_42 ⟨Nat.le_of_ble_eq_true rfl, Nat.le_of_ble_eq_true rfl⟩) hS (fun q _ h => hFc q h) hFc (fun r_44 u_44 t H1 locs ht hvm hw hB hz1 hk1 hS => ?_)
        obtain ⟨hP1, hD1⟩ := hB
        rw [ht] at hP1
        obtain ⟨hP, hD⟩ := va_join (wr := [(rd, .inr (2, [.int 1, .int 400, .int 80, .int 2, .int 30, .int 0, .ref r0, .ref r1]))]) (w1 := [(h0, .inr (4, [.ref rd, .ref dr, .ref kp, .ref pl, .ref tx, .ref nu, .ref rf_a, .int 0, .int 0, .int (-1)])), (rf_a, .inl (cI, 7, .inl (xRf (fun _ => 0) (-6))))]) hP hD [0, 2] [1] rfl rfl (by decide) (by decide) hk1 hFc hP1 hD1
        generalize H1 = H at hP hS ⊢
        have hP : va_P D vwCl [(rd, .inr (2, [.int 1, .int 400, .int 80, .int 2, .int 30, .int 0, .ref r0, .ref r1])), (h0, .inr (4, [.ref rd, .ref dr, .ref kp, .ref pl, .ref tx, .ref nu, .ref rf_a, .int 0, .int 0, .int (-1)])), (rf_a, .inl (cI, 7, .inl (xRf (fun _ => 0) (-6))))] H := hP
        have hD : va_D A [(rd, .inr (2, [.int 1, .int 400, .int 80, .int 2, .int 30, .int 0, .ref r0, .ref r1])), (h0, .inr (4, [.ref rd, .ref dr, .ref kp, .ref pl, .ref tx, .ref nu, .ref rf_a, .int 0, .int 0, .int (-1)])), (rf_a, .inl (cI, 7, .inl (xRf (fun _ => 0) (-6))))] := hD
        obtain rfl : ((-6) : Int32) = r_44 := Eq.symm hw
        have hP9 := hP.sub (ws' := []) [] rfl
        have hD9 := hD.sub (ws' := []) [] (by decide) rfl
        exact W.iret (v := -6) hx hb hr (fun t ht hW => ⟨⟨_, (), rfl, by simp [sSet0, c_36, (Int32.not_lt.mpr c_37), (Int32.not_lt.mpr c_39), (Int32.not_le.mp c_41)], by rw [ht]; exact hP9, hD9⟩, hS.F ht⟩) hS.2.2 dX4_set_45
    · refine lv_aload_n hx hb dX4_set_24 rfl (lv_at hl 0 rfl) ?_
      refine lv_bipush (v := -4) hx hb dX4_set_25 (by decide) ?_
      have hPc := hP.sub (ws' := [(h0, .inr (4, [.ref rd, .ref dr, .ref kp, .ref pl, .ref tx, .ref nu, .ref rf_a, .int 0, .int 0, .int (-1)])), (rf_a, .inl (cI, 7, .inl (fun _ => 0)))]) [0, 2] rfl
      have hDc := hD.sub (ws' := [(h0, .inr (4, [.ref rd, .ref dr, .ref kp, .ref pl, .ref tx, .ref nu, .ref rf_a, .int 0, .int 0, .int (-1)])), (rf_a, .inl (cI, 7, .inl (fun _ => 0)))]) [0, 2] (by decide) rfl
      have hFc := va_free (wc := [(h0, .inr (4, [.ref rd, .ref dr, .ref kp, .ref pl, .ref tx, .ref nu, .ref rf_a, .int 0, .int 0, .int (-1)])), (rf_a, .inl (cI, 7, .inl (fun _ => 0)))]) hD hS hA [0, 2] rfl
      refine va_calli (va_runV (As := [.int (-4)]) (rest := []) ⟨hx, hb, hml, hown, hts⟩ (c_X4_refuse l D cI cL cZ cC _ h0 rd dr kp pl tx nu rf_a 0 0 (-1) (fun _ => 0) (-4) (by first | assumption | decide +kernel) (by first | assumption | decide +kernel)) (cwV 1 hts gX4_set_X4_refuse rfl rfl rfl (by decide +kernel) ⟨Nat.le_of_ble_eq_true rfl, Nat.le_of_ble_eq_true rfl⟩) ⟨wPc_bl, va_recv hK hPc (ci := 4) (q0 := 0) rfl rfl, wPc_use hPc hK hDc⟩ rfl rfl hl.1 rfl (lv_room (Nat.le_of_ble_eq_true rfl)) dX4_set_27 ⟨Nat.le_of_ble_eq_true rfl, Nat.le_of_ble_eq_true rfl⟩) hS (fun q _ h => hFc q h) hFc (fun r_45 u_45 t H1 locs ht hvm hw hB hz1 hk1 hS => ?_)
      obtain ⟨hP1, hD1⟩ := hB
      rw [ht] at hP1
      obtain ⟨hP, hD⟩ := va_join (wr := [(rd, .inr (2, [.int 1, .int 400, .int 80, .int 2, .int 30, .int 0, .ref r0, .ref r1]))]) (w1 := [(h0, .inr (4, [.ref rd, .ref dr, .ref kp, .ref pl, .ref tx, .ref nu, .ref rf_a, .int 0, .int 0, .int (-1)])), (rf_a, .inl (cI, 7, .inl (xRf (fun _ => 0) (-4))))]) hP hD [0, 2] [1] rfl rfl (by decide) (by decide) hk1 hFc hP1 hD1
      generalize H1 = H at hP hS ⊢
      have hP : va_P D vwCl [(rd, .inr (2, [.int 1, .int 400, .int 80, .int 2, .int 30, .int 0, .ref r0, .ref r1])), (h0, .inr (4, [.ref rd, .ref dr, .ref kp, .ref pl, .ref tx, .ref nu, .ref rf_a, .int 0, .int 0, .int (-1)])), (rf_a, .inl (cI, 7, .inl (xRf (fun _ => 0) (-4))))] H := hP
      have hD : va_D A [(rd, .inr (2, [.int 1, .int 400, .int 80, .int 2, .int 30, .int 0, .ref r0, .ref r1])), (h0, .inr (4, [.ref rd, .ref dr, .ref kp, .ref pl, .ref tx, .ref nu, .ref rf_a, .int 0, .int 0, .int (-1)])), (rf_a, .inl (cI, 7, .inl (xRf (fun _ => 0) (-4))))] := hD
      obtain rfl : ((-4) : Int32) = r_45 := Eq.symm hw
      have hP9 := hP.sub (ws' := []) [] rfl
      have hD9 := hD.sub (ws' := []) [] (by decide) rfl
      exact W.iret (v := -4) hx hb hr (fun t ht hW => ⟨⟨_, (), rfl, by simp [sSet0, c_36, (Int32.not_lt.mpr c_37), (Int32.not_le.mp c_39)], by rw [ht]; exact hP9, hD9⟩, hS.F ht⟩) hS.2.2 dX4_set_30

set_option maxHeartbeats 4000000 in
set_option maxRecDepth 100000 in
theorem c_X2_yards (l : Launch) (D : va_G) (cI cL cZ cC : ClassId) (rd : Nat) (r0 : Nat) (r1 : Nat)  : Met l yX2_yards wsX2_yards ({ frames := 0, cells := 0, slots := 0, locals := 0 } : Room) (xPc D [.ref rd] [(rd, .inr (2, [.int 1, .int 400, .int 80, .int 2, .int 30, .int 0, .ref r0, .ref r1]))] (xTy cI cL cZ cC)) (vp_Si (fun r : Int32 => r = 400)) 0 0 (fun _ => False) := by
  refine Met.ofW (cc := cX2_yards) (maxL := 3) (ret := (some .int)) (by decide) rfl ?_
  intro p e s m args below meth c s₁ B hml hv
  obtain ⟨rfl, hP, hK⟩ := hv
  have hx := B.exec
  have hb := B.bytes
  have hr := B.returns
  have hts := atoms_spec (ws := wsX2_yards) B.pre
  have hown : s.vm.findClass RX2 = some m.cls := findClass_of_methodNamed B.named
  have hlocks := B.notSynchronized
  have hwX2 : ∀ w ∈ u_ws RX2 TX2 8, w ∈ wsX2_yards := fun _ h => List.mem_cons_of_mem _ (List.mem_append_right _ h)
  have hl := lv_entry ([.ref rd]) (n := 3) (Nat.le_of_ble_eq_true rfl)
  rw [lg_entry_eq]
  generalize (lg_sl ([.ref rd]) ++ List.replicate (3 - (lg_sl ([.ref rd])).length) Slot.unset).toArray = ls at hl ⊢
  have hl : lv_has ls 3 [(0, .ref rd)] := hl
  refine lv_aload_n hx hb dX2_yards_0 rfl (lv_at hl 0 rfl) ?_
  refine va_get (D := D) (ci := 2) (v := .int 400) (C := RX2) (T := TX2) (N := 8) hx hb hts hwX2 hown hK hP 0 rfl rfl 1 (by decide) (hts (.fieldLink RX2 15 "WaitOrWalkOn$Road" "home" "I") (by decide +kernel)) (fun _ h9 => h9) rfl dX2_yards_1 ?_
  refine lv_istore_n (lv' := [(1, .int 400), (0, .ref rd)]) hx hb dX2_yards_4 rfl hl (by decide) rfl (fun ls hl => ?_)
  refine lv_iconst (v := 1) hx hb dX2_yards_5 (by decide) ?_
  refine lv_istore_n (lv' := [(2, .int 1), (1, .int 400), (0, .ref rd)]) hx hb dX2_yards_6 rfl hl (by decide) rfl (fun ls hl => ?_)
  refine lv_iload_n hx hb dX2_yards_7 rfl (lv_at hl 0 rfl) ?_
  refine lv_aload_n hx hb dX2_yards_8 rfl (lv_at hl 2 rfl) ?_
  refine va_get (D := D) (ci := 2) (v := .int 1) (C := RX2) (T := TX2) (N := 8) hx hb hts hwX2 hown hK hP 0 rfl rfl 0 (by decide) (hts (.fieldLink RX2 9 "WaitOrWalkOn$Road" "stops" "I") (by decide +kernel)) (fun _ h9 => h9) rfl dX2_yards_9 ?_
  refine lv_icmp_ge (tgt := 30) hx hb dX2_yards_12 (by decide) (fun c_1 => ?_) (fun c_1 => absurd c_1 (by decide +kernel))
  refine lv_iload_n hx hb dX2_yards_30 rfl (lv_at hl 1 rfl) ?_
  exact W.iret (v := 400) hx hb hr (fun t ht hW => ⟨_, rfl, rfl, ht⟩) (fun _ h => absurd h List.not_mem_nil) dX2_yards_31

set_option maxHeartbeats 4000000 in
set_option maxRecDepth 100000 in
theorem p1_X4_count (l : Launch) (D : va_G) (cI cL cZ cC : ClassId) (h0 : Nat) (rd : Nat) (dr : Nat) (kp : Nat) (pl : Nat) (tx : Nat) (nu : Nat) (rf_a : Nat) (r0 : Nat) (r1 : Nat) (t0 : Nat) (a1 : Int32)  : Met l yX4_count wsX4_count ({ frames := 1, cells := 0, slots := 0, locals := 22 } : Room) (xPc D [.ref h0, .int a1] [(h0, .inr (4, [.ref rd, .ref dr, .ref kp, .ref pl, .ref tx, .ref nu, .ref rf_a, .int 0, .int 0, .int (-1)])), (rd, .inr (2, [.int 1, .int 400, .int 80, .int 2, .int 30, .int 0, .ref r0, .ref r1])), (r0, .inl (cI, 7, .inl (fun _ => 0))), (tx, .inr (3, [.ref t0, .int 0])), (rf_a, .inl (cI, 7, .inl (fun _ => 0)))] (xTy cI cL cZ cC)) (vp_Si (fun r : Int32 => r = sCount0 a1)) 0 0 (fun _ => False) := by
  refine Met.ofW (cc := cX4_count) (maxL := 2) (ret := (some .int)) (by decide) rfl ?_
  intro p e s m args below meth c s₁ B hml hv
  obtain ⟨rfl, hP, hK⟩ := hv
  have hx := B.exec
  have hb := B.bytes
  have hr := B.returns
  have hts := atoms_spec (ws := wsX4_count) B.pre
  have hown : s.vm.findClass RX4 = some m.cls := findClass_of_methodNamed B.named
  have hlocks := B.notSynchronized
  have hwX2 : ∀ w ∈ u_ws RX2 TX2 8, w ∈ wsX4_count := fun _ h => List.mem_cons_of_mem _ (List.mem_append_left _ (List.mem_append_right _ h))
  have hwX3 : ∀ w ∈ u_ws RX3 TX3 2, w ∈ wsX4_count := fun _ h => List.mem_cons_of_mem _ (List.mem_append_right _ h)
  have hwX4 : ∀ w ∈ u_ws RX4 TX4 10, w ∈ wsX4_count := fun _ h => List.mem_cons_of_mem _ (List.mem_append_left _ (List.mem_append_left _ (List.mem_append_right _ h)))
  have hl := lv_entry ([.ref h0, .int a1]) (n := 2) (Nat.le_of_ble_eq_true rfl)
  rw [lg_entry_eq]
  generalize (lg_sl ([.ref h0, .int a1]) ++ List.replicate (2 - (lg_sl ([.ref h0, .int a1])).length) Slot.unset).toArray = ls at hl ⊢
  have hl : lv_has ls 2 [(0, .ref h0), (1, .int a1)] := hl
  by_cases h_1 : a1 < 0
  · refine lv_iload_n hx hb dX4_count_0 rfl (lv_at hl 1 rfl) ?_
    refine lv_bipush (v := 11) hx hb dX4_count_1 (by decide) ?_
    refine lv_icmp_lt (tgt := 22) hx hb dX4_count_3 (by decide) (fun c_1 => ?_) (fun c_1 => absurd (xlt h_1 (by decide)) c_1)
    refine lv_iload_n hx hb dX4_count_22 rfl (lv_at hl 1 rfl) ?_
    refine lv_tableOut (tgt := 129) hx hb dX4_count_23 (Or.inl ((xi_lt _ _).mp h_1)) (by decide) ?_
    refine lv_bipush (v := -9) hx hb dX4_count_129 (by decide) ?_
    exact W.iret (v := -9) hx hb hr (fun t ht hW => ⟨_, rfl, by simp [sCount0, h_1, c_1], ht⟩) (fun _ h => absurd h List.not_mem_nil) dX4_count_131
  by_cases h_2 : 16 < a1
  · refine lv_iload_n hx hb dX4_count_0 rfl (lv_at hl 1 rfl) ?_
    refine lv_bipush (v := 11) hx hb dX4_count_1 (by decide) ?_
    refine lv_icmp_lt (tgt := 22) hx hb dX4_count_3 (by decide) (fun c_2 => (xno c_2 (by decide) h_2).elim) (fun c_2 => ?_)
    refine lv_iload_n hx hb dX4_count_6 rfl (lv_at hl 1 rfl) ?_
    refine lv_bipush (v := 16) hx hb dX4_count_7 (by decide) ?_
    refine lv_icmp_gt (tgt := 22) hx hb dX4_count_9 (by decide) (fun c_3 => ?_) (fun c_3 => absurd h_2 c_3)
    refine lv_iload_n hx hb dX4_count_22 rfl (lv_at hl 1 rfl) ?_
    refine lv_tableOut (tgt := 129) hx hb dX4_count_23 (Or.inr ((xi_lt _ _).mp (xlt2 (a := 7) (b := 16) (by decide) h_2))) (by decide) ?_
    refine lv_bipush (v := -9) hx hb dX4_count_129 (by decide) ?_
    exact W.iret (v := -9) hx hb hr (fun t ht hW => ⟨_, rfl, by simp [sCount0, h_1, h_2, c_2, c_3], ht⟩) (fun _ h => absurd h List.not_mem_nil) dX4_count_131
  rcases xz17 h_1 h_2 with rfl | rfl | rfl | rfl | rfl | rfl | rfl | rfl | rfl | rfl | rfl | rfl | rfl | rfl | rfl | rfl | rfl
  · refine lv_iload_n hx hb dX4_count_0 rfl (lv_at hl 1 rfl) ?_
    refine lv_bipush (v := 11) hx hb dX4_count_1 (by decide) ?_
    refine lv_icmp_lt (tgt := 22) hx hb dX4_count_3 (by decide) (fun c_4 => ?_) (fun c_4 => absurd c_4 (by decide +kernel))
    refine lv_iload_n hx hb dX4_count_22 rfl (lv_at hl 1 rfl) ?_
    refine lv_tableIn (off := 45) (tgt := 68) hx hb dX4_count_23 (by decide +kernel) (by decide +kernel) (by decide +kernel) (by decide) ?_
    refine lv_aload_n hx hb dX4_count_68 rfl (lv_at hl 0 rfl) ?_
    refine va_get (D := D) (ci := 4) (v := .ref rd) (C := RX4) (T := TX4) (N := 10) hx hb hts hwX4 hown hK hP 0 rfl rfl 0 (by decide) (hts (.fieldLink RX4 10 "WaitOrWalkOn" "road" "LWaitOrWalkOn$Road;") (by decide +kernel)) (fun _ h9 => h9) rfl dX4_count_69 ?_
    refine va_get (D := D) (ci := 2) (v := .int 1) (C := RX2) (T := TX2) (N := 8) hx hb hts hwX2 hown hK hP 1 rfl rfl 0 (by decide) (hts (.fieldLink RX4 222 "WaitOrWalkOn$Road" "stops" "I") (by decide +kernel)) (fun _ h9 => h9) rfl dX4_count_72 ?_
    exact W.iret (v := 1) hx hb hr (fun t ht hW => ⟨_, rfl, by decide +kernel, ht⟩) (fun _ h => absurd h List.not_mem_nil) dX4_count_75
  · refine lv_iload_n hx hb dX4_count_0 rfl (lv_at hl 1 rfl) ?_
    refine lv_bipush (v := 11) hx hb dX4_count_1 (by decide) ?_
    refine lv_icmp_lt (tgt := 22) hx hb dX4_count_3 (by decide) (fun c_5 => ?_) (fun c_5 => absurd c_5 (by decide +kernel))
    refine lv_iload_n hx hb dX4_count_22 rfl (lv_at hl 1 rfl) ?_
    refine lv_tableIn (off := 53) (tgt := 76) hx hb dX4_count_23 (by decide +kernel) (by decide +kernel) (by decide +kernel) (by decide) ?_
    refine lv_aload_n hx hb dX4_count_76 rfl (lv_at hl 0 rfl) ?_
    refine va_get (D := D) (ci := 4) (v := .ref rd) (C := RX4) (T := TX4) (N := 10) hx hb hts hwX4 hown hK hP 0 rfl rfl 0 (by decide) (hts (.fieldLink RX4 10 "WaitOrWalkOn" "road" "LWaitOrWalkOn$Road;") (by decide +kernel)) (fun _ h9 => h9) rfl dX4_count_77 ?_
    refine va_get (D := D) (ci := 2) (v := .int 0) (C := RX2) (T := TX2) (N := 8) hx hb hts hwX2 hown hK hP 1 rfl rfl 5 (by decide) (hts (.fieldLink RX4 225 "WaitOrWalkOn$Road" "lineCount" "I") (by decide +kernel)) (fun _ h9 => h9) rfl dX4_count_80 ?_
    exact W.iret (v := 0) hx hb hr (fun t ht hW => ⟨_, rfl, by decide +kernel, ht⟩) (fun _ h => absurd h List.not_mem_nil) dX4_count_83
  · refine lv_iload_n hx hb dX4_count_0 rfl (lv_at hl 1 rfl) ?_
    refine lv_bipush (v := 11) hx hb dX4_count_1 (by decide) ?_
    refine lv_icmp_lt (tgt := 22) hx hb dX4_count_3 (by decide) (fun c_6 => ?_) (fun c_6 => absurd c_6 (by decide +kernel))
    refine lv_iload_n hx hb dX4_count_22 rfl (lv_at hl 1 rfl) ?_
    refine lv_tableIn (off := 61) (tgt := 84) hx hb dX4_count_23 (by decide +kernel) (by decide +kernel) (by decide +kernel) (by decide) ?_
    refine lv_aload_n hx hb dX4_count_84 rfl (lv_at hl 0 rfl) ?_
    refine va_get (D := D) (ci := 4) (v := .ref rd) (C := RX4) (T := TX4) (N := 10) hx hb hts hwX4 hown hK hP 0 rfl rfl 0 (by decide) (hts (.fieldLink RX4 10 "WaitOrWalkOn" "road" "LWaitOrWalkOn$Road;") (by decide +kernel)) (fun _ h9 => h9) rfl dX4_count_85 ?_
    have hPc := hP.sub (ws' := [(rd, .inr (2, [.int 1, .int 400, .int 80, .int 2, .int 30, .int 0, .ref r0, .ref r1]))]) [1] rfl
    refine vp_callSi (va_Run.run (va_runV (As := []) (rest := []) ⟨hx, hb, hml, hown, hts⟩ (c_X2_yards l D cI cL cZ cC rd r0 r1 ) (cwV 0 hts gX4_count_X2_yards rfl rfl rfl (by decide +kernel) ⟨Nat.le_of_ble_eq_true rfl, Nat.le_of_ble_eq_true rfl⟩) ⟨xPc_bl, va_recv hK hPc (ci := 2) (q0 := 0) rfl rfl, xPc_use hPc hK⟩ rfl rfl hl.1 rfl (lv_room (Nat.le_of_ble_eq_true rfl)) dX4_count_88 ⟨Nat.le_of_ble_eq_true rfl, Nat.le_of_ble_eq_true rfl⟩)) (fun r_7 er_7 => ?_)
    obtain rfl : (400 : Int32) = r_7 := Eq.symm er_7
    exact W.iret (v := 400) hx hb hr (fun t ht hW => ⟨_, rfl, by decide +kernel, ht⟩) (fun _ h => absurd h List.not_mem_nil) dX4_count_91
  · refine lv_iload_n hx hb dX4_count_0 rfl (lv_at hl 1 rfl) ?_
    refine lv_bipush (v := 11) hx hb dX4_count_1 (by decide) ?_
    refine lv_icmp_lt (tgt := 22) hx hb dX4_count_3 (by decide) (fun c_8 => ?_) (fun c_8 => absurd c_8 (by decide +kernel))
    refine lv_iload_n hx hb dX4_count_22 rfl (lv_at hl 1 rfl) ?_
    refine lv_tableIn (off := 69) (tgt := 92) hx hb dX4_count_23 (by decide +kernel) (by decide +kernel) (by decide +kernel) (by decide) ?_
    refine lv_aload_n hx hb dX4_count_92 rfl (lv_at hl 0 rfl) ?_
    refine va_get (D := D) (ci := 4) (v := .ref rd) (C := RX4) (T := TX4) (N := 10) hx hb hts hwX4 hown hK hP 0 rfl rfl 0 (by decide) (hts (.fieldLink RX4 10 "WaitOrWalkOn" "road" "LWaitOrWalkOn$Road;") (by decide +kernel)) (fun _ h9 => h9) rfl dX4_count_93 ?_
    refine va_get (D := D) (ci := 2) (v := .int 80) (C := RX2) (T := TX2) (N := 8) hx hb hts hwX2 hown hK hP 1 rfl rfl 2 (by decide) (hts (.fieldLink RX4 182 "WaitOrWalkOn$Road" "pace" "I") (by decide +kernel)) (fun _ h9 => h9) rfl dX4_count_96 ?_
    exact W.iret (v := 80) hx hb hr (fun t ht hW => ⟨_, rfl, by decide +kernel, ht⟩) (fun _ h => absurd h List.not_mem_nil) dX4_count_99
  · refine lv_iload_n hx hb dX4_count_0 rfl (lv_at hl 1 rfl) ?_
    refine lv_bipush (v := 11) hx hb dX4_count_1 (by decide) ?_
    refine lv_icmp_lt (tgt := 22) hx hb dX4_count_3 (by decide) (fun c_9 => ?_) (fun c_9 => absurd c_9 (by decide +kernel))
    refine lv_iload_n hx hb dX4_count_22 rfl (lv_at hl 1 rfl) ?_
    refine lv_tableIn (off := 77) (tgt := 100) hx hb dX4_count_23 (by decide +kernel) (by decide +kernel) (by decide +kernel) (by decide) ?_
    refine lv_aload_n hx hb dX4_count_100 rfl (lv_at hl 0 rfl) ?_
    refine va_get (D := D) (ci := 4) (v := .ref rd) (C := RX4) (T := TX4) (N := 10) hx hb hts hwX4 hown hK hP 0 rfl rfl 0 (by decide) (hts (.fieldLink RX4 10 "WaitOrWalkOn" "road" "LWaitOrWalkOn$Road;") (by decide +kernel)) (fun _ h9 => h9) rfl dX4_count_101 ?_
    refine va_get (D := D) (ci := 2) (v := .int 2) (C := RX2) (T := TX2) (N := 8) hx hb hts hwX2 hown hK hP 1 rfl rfl 3 (by decide) (hts (.fieldLink RX4 231 "WaitOrWalkOn$Road" "sight" "I") (by decide +kernel)) (fun _ h9 => h9) rfl dX4_count_104 ?_
    exact W.iret (v := 2) hx hb hr (fun t ht hW => ⟨_, rfl, by decide +kernel, ht⟩) (fun _ h => absurd h List.not_mem_nil) dX4_count_107
  · refine lv_iload_n hx hb dX4_count_0 rfl (lv_at hl 1 rfl) ?_
    refine lv_bipush (v := 11) hx hb dX4_count_1 (by decide) ?_
    refine lv_icmp_lt (tgt := 22) hx hb dX4_count_3 (by decide) (fun c_10 => ?_) (fun c_10 => absurd c_10 (by decide +kernel))
    refine lv_iload_n hx hb dX4_count_22 rfl (lv_at hl 1 rfl) ?_
    refine lv_tableIn (off := 85) (tgt := 108) hx hb dX4_count_23 (by decide +kernel) (by decide +kernel) (by decide +kernel) (by decide) ?_
    refine lv_aload_n hx hb dX4_count_108 rfl (lv_at hl 0 rfl) ?_
    refine va_get (D := D) (ci := 4) (v := .ref rd) (C := RX4) (T := TX4) (N := 10) hx hb hts hwX4 hown hK hP 0 rfl rfl 0 (by decide) (hts (.fieldLink RX4 10 "WaitOrWalkOn" "road" "LWaitOrWalkOn$Road;") (by decide +kernel)) (fun _ h9 => h9) rfl dX4_count_109 ?_
    refine va_get (D := D) (ci := 2) (v := .int 30) (C := RX2) (T := TX2) (N := 8) hx hb hts hwX2 hown hK hP 1 rfl rfl 4 (by decide) (hts (.fieldLink RX4 234 "WaitOrWalkOn$Road" "limit" "I") (by decide +kernel)) (fun _ h9 => h9) rfl dX4_count_112 ?_
    exact W.iret (v := 30) hx hb hr (fun t ht hW => ⟨_, rfl, by decide +kernel, ht⟩) (fun _ h => absurd h List.not_mem_nil) dX4_count_115
  · refine lv_iload_n hx hb dX4_count_0 rfl (lv_at hl 1 rfl) ?_
    refine lv_bipush (v := 11) hx hb dX4_count_1 (by decide) ?_
    refine lv_icmp_lt (tgt := 22) hx hb dX4_count_3 (by decide) (fun c_11 => ?_) (fun c_11 => absurd c_11 (by decide +kernel))
    refine lv_iload_n hx hb dX4_count_22 rfl (lv_at hl 1 rfl) ?_
    refine lv_tableIn (off := 93) (tgt := 116) hx hb dX4_count_23 (by decide +kernel) (by decide +kernel) (by decide +kernel) (by decide) ?_
    refine lv_aload_n hx hb dX4_count_116 rfl (lv_at hl 0 rfl) ?_
    refine va_get (D := D) (ci := 4) (v := .int 0) (C := RX4) (T := TX4) (N := 10) hx hb hts hwX4 hown hK hP 0 rfl rfl 7 (by decide) (hts (.fieldLink RX4 200 "WaitOrWalkOn" "numberCount" "I") (by decide +kernel)) (fun _ h9 => h9) rfl dX4_count_117 ?_
    exact W.iret (v := 0) hx hb hr (fun t ht hW => ⟨_, rfl, by decide +kernel, ht⟩) (fun _ h => absurd h List.not_mem_nil) dX4_count_120
  · refine lv_iload_n hx hb dX4_count_0 rfl (lv_at hl 1 rfl) ?_
    refine lv_bipush (v := 11) hx hb dX4_count_1 (by decide) ?_
    refine lv_icmp_lt (tgt := 22) hx hb dX4_count_3 (by decide) (fun c_12 => ?_) (fun c_12 => absurd c_12 (by decide +kernel))
    refine lv_iload_n hx hb dX4_count_22 rfl (lv_at hl 1 rfl) ?_
    refine lv_tableIn (off := 98) (tgt := 121) hx hb dX4_count_23 (by decide +kernel) (by decide +kernel) (by decide +kernel) (by decide) ?_
    refine lv_aload_n hx hb dX4_count_121 rfl (lv_at hl 0 rfl) ?_
    refine va_get (D := D) (ci := 4) (v := .ref tx) (C := RX4) (T := TX4) (N := 10) hx hb hts hwX4 hown hK hP 0 rfl rfl 4 (by decide) (hts (.fieldLink RX4 32 "WaitOrWalkOn" "text" "LWaitOrWalkOn$Text;") (by decide +kernel)) (fun _ h9 => h9) rfl dX4_count_122 ?_
    refine va_get (D := D) (ci := 3) (v := .int 0) (C := RX3) (T := TX3) (N := 2) hx hb hts hwX3 hown hK hP 3 rfl rfl 1 (by decide) (hts (.fieldLink RX4 51 "WaitOrWalkOn$Text" "length" "I") (by decide +kernel)) (fun _ h9 => h9) rfl dX4_count_125 ?_
    exact W.iret (v := 0) hx hb hr (fun t ht hW => ⟨_, rfl, by decide +kernel, ht⟩) (fun _ h => absurd h List.not_mem_nil) dX4_count_128
  · refine lv_iload_n hx hb dX4_count_0 rfl (lv_at hl 1 rfl) ?_
    refine lv_bipush (v := 11) hx hb dX4_count_1 (by decide) ?_
    refine lv_icmp_lt (tgt := 22) hx hb dX4_count_3 (by decide) (fun c_13 => ?_) (fun c_13 => absurd c_13 (by decide +kernel))
    refine lv_iload_n hx hb dX4_count_22 rfl (lv_at hl 1 rfl) ?_
    refine lv_tableOut (tgt := 129) hx hb dX4_count_23 (by decide +kernel) (by decide) ?_
    refine lv_bipush (v := -9) hx hb dX4_count_129 (by decide) ?_
    exact W.iret (v := -9) hx hb hr (fun t ht hW => ⟨_, rfl, by decide +kernel, ht⟩) (fun _ h => absurd h List.not_mem_nil) dX4_count_131
  · refine lv_iload_n hx hb dX4_count_0 rfl (lv_at hl 1 rfl) ?_
    refine lv_bipush (v := 11) hx hb dX4_count_1 (by decide) ?_
    refine lv_icmp_lt (tgt := 22) hx hb dX4_count_3 (by decide) (fun c_14 => ?_) (fun c_14 => absurd c_14 (by decide +kernel))
    refine lv_iload_n hx hb dX4_count_22 rfl (lv_at hl 1 rfl) ?_
    refine lv_tableOut (tgt := 129) hx hb dX4_count_23 (by decide +kernel) (by decide) ?_
    refine lv_bipush (v := -9) hx hb dX4_count_129 (by decide) ?_
    exact W.iret (v := -9) hx hb hr (fun t ht hW => ⟨_, rfl, by decide +kernel, ht⟩) (fun _ h => absurd h List.not_mem_nil) dX4_count_131
  · refine lv_iload_n hx hb dX4_count_0 rfl (lv_at hl 1 rfl) ?_
    refine lv_bipush (v := 11) hx hb dX4_count_1 (by decide) ?_
    refine lv_icmp_lt (tgt := 22) hx hb dX4_count_3 (by decide) (fun c_15 => ?_) (fun c_15 => absurd c_15 (by decide +kernel))
    refine lv_iload_n hx hb dX4_count_22 rfl (lv_at hl 1 rfl) ?_
    refine lv_tableOut (tgt := 129) hx hb dX4_count_23 (by decide +kernel) (by decide) ?_
    refine lv_bipush (v := -9) hx hb dX4_count_129 (by decide) ?_
    exact W.iret (v := -9) hx hb hr (fun t ht hW => ⟨_, rfl, by decide +kernel, ht⟩) (fun _ h => absurd h List.not_mem_nil) dX4_count_131
  · refine lv_iload_n hx hb dX4_count_0 rfl (lv_at hl 1 rfl) ?_
    refine lv_bipush (v := 11) hx hb dX4_count_1 (by decide) ?_
    refine lv_icmp_lt (tgt := 22) hx hb dX4_count_3 (by decide) (fun c_16 => absurd c_16 (by decide +kernel)) (fun c_16 => ?_)
    refine lv_iload_n hx hb dX4_count_6 rfl (lv_at hl 1 rfl) ?_
    refine lv_bipush (v := 16) hx hb dX4_count_7 (by decide) ?_
    refine lv_icmp_gt (tgt := 22) hx hb dX4_count_9 (by decide) (fun c_17 => absurd c_17 (by decide +kernel)) (fun c_17 => ?_)
    refine lv_aload_n hx hb dX4_count_12 rfl (lv_at hl 0 rfl) ?_
    refine va_get (D := D) (ci := 4) (v := .ref rf_a) (C := RX4) (T := TX4) (N := 10) hx hb hts hwX4 hown hK hP 0 rfl rfl 6 (by decide) (hts (.fieldLink RX4 40 "WaitOrWalkOn" "refusals" "[I") (by decide +kernel)) (fun _ h9 => h9) rfl dX4_count_13 ?_
    refine lv_iload_n hx hb dX4_count_16 rfl (lv_at hl 1 rfl) ?_
    refine lv_bipush (v := 10) hx hb dX4_count_17 (by decide) ?_
    refine lv_isub hx hb dX4_count_19 ?_
    refine xv_int (y := 1) (by decide +kernel) ?_
    refine va_iald (D := D) hx hb hK hP 4 0 rfl rfl (by unfold vp_in; decide +kernel) dX4_count_20 ?_
    refine xv_int (y := 0) rfl ?_
    exact W.iret (v := 0) hx hb hr (fun t ht hW => ⟨_, rfl, by decide +kernel, ht⟩) (fun _ h => absurd h List.not_mem_nil) dX4_count_21
  · refine lv_iload_n hx hb dX4_count_0 rfl (lv_at hl 1 rfl) ?_
    refine lv_bipush (v := 11) hx hb dX4_count_1 (by decide) ?_
    refine lv_icmp_lt (tgt := 22) hx hb dX4_count_3 (by decide) (fun c_18 => absurd c_18 (by decide +kernel)) (fun c_18 => ?_)
    refine lv_iload_n hx hb dX4_count_6 rfl (lv_at hl 1 rfl) ?_
    refine lv_bipush (v := 16) hx hb dX4_count_7 (by decide) ?_
    refine lv_icmp_gt (tgt := 22) hx hb dX4_count_9 (by decide) (fun c_19 => absurd c_19 (by decide +kernel)) (fun c_19 => ?_)
    refine lv_aload_n hx hb dX4_count_12 rfl (lv_at hl 0 rfl) ?_
    refine va_get (D := D) (ci := 4) (v := .ref rf_a) (C := RX4) (T := TX4) (N := 10) hx hb hts hwX4 hown hK hP 0 rfl rfl 6 (by decide) (hts (.fieldLink RX4 40 "WaitOrWalkOn" "refusals" "[I") (by decide +kernel)) (fun _ h9 => h9) rfl dX4_count_13 ?_
    refine lv_iload_n hx hb dX4_count_16 rfl (lv_at hl 1 rfl) ?_
    refine lv_bipush (v := 10) hx hb dX4_count_17 (by decide) ?_
    refine lv_isub hx hb dX4_count_19 ?_
    refine xv_int (y := 2) (by decide +kernel) ?_
    refine va_iald (D := D) hx hb hK hP 4 0 rfl rfl (by unfold vp_in; decide +kernel) dX4_count_20 ?_
    refine xv_int (y := 0) rfl ?_
    exact W.iret (v := 0) hx hb hr (fun t ht hW => ⟨_, rfl, by decide +kernel, ht⟩) (fun _ h => absurd h List.not_mem_nil) dX4_count_21
  · refine lv_iload_n hx hb dX4_count_0 rfl (lv_at hl 1 rfl) ?_
    refine lv_bipush (v := 11) hx hb dX4_count_1 (by decide) ?_
    refine lv_icmp_lt (tgt := 22) hx hb dX4_count_3 (by decide) (fun c_20 => absurd c_20 (by decide +kernel)) (fun c_20 => ?_)
    refine lv_iload_n hx hb dX4_count_6 rfl (lv_at hl 1 rfl) ?_
    refine lv_bipush (v := 16) hx hb dX4_count_7 (by decide) ?_
    refine lv_icmp_gt (tgt := 22) hx hb dX4_count_9 (by decide) (fun c_21 => absurd c_21 (by decide +kernel)) (fun c_21 => ?_)
    refine lv_aload_n hx hb dX4_count_12 rfl (lv_at hl 0 rfl) ?_
    refine va_get (D := D) (ci := 4) (v := .ref rf_a) (C := RX4) (T := TX4) (N := 10) hx hb hts hwX4 hown hK hP 0 rfl rfl 6 (by decide) (hts (.fieldLink RX4 40 "WaitOrWalkOn" "refusals" "[I") (by decide +kernel)) (fun _ h9 => h9) rfl dX4_count_13 ?_
    refine lv_iload_n hx hb dX4_count_16 rfl (lv_at hl 1 rfl) ?_
    refine lv_bipush (v := 10) hx hb dX4_count_17 (by decide) ?_
    refine lv_isub hx hb dX4_count_19 ?_
    refine xv_int (y := 3) (by decide +kernel) ?_
    refine va_iald (D := D) hx hb hK hP 4 0 rfl rfl (by unfold vp_in; decide +kernel) dX4_count_20 ?_
    refine xv_int (y := 0) rfl ?_
    exact W.iret (v := 0) hx hb hr (fun t ht hW => ⟨_, rfl, by decide +kernel, ht⟩) (fun _ h => absurd h List.not_mem_nil) dX4_count_21
  · refine lv_iload_n hx hb dX4_count_0 rfl (lv_at hl 1 rfl) ?_
    refine lv_bipush (v := 11) hx hb dX4_count_1 (by decide) ?_
    refine lv_icmp_lt (tgt := 22) hx hb dX4_count_3 (by decide) (fun c_22 => absurd c_22 (by decide +kernel)) (fun c_22 => ?_)
    refine lv_iload_n hx hb dX4_count_6 rfl (lv_at hl 1 rfl) ?_
    refine lv_bipush (v := 16) hx hb dX4_count_7 (by decide) ?_
    refine lv_icmp_gt (tgt := 22) hx hb dX4_count_9 (by decide) (fun c_23 => absurd c_23 (by decide +kernel)) (fun c_23 => ?_)
    refine lv_aload_n hx hb dX4_count_12 rfl (lv_at hl 0 rfl) ?_
    refine va_get (D := D) (ci := 4) (v := .ref rf_a) (C := RX4) (T := TX4) (N := 10) hx hb hts hwX4 hown hK hP 0 rfl rfl 6 (by decide) (hts (.fieldLink RX4 40 "WaitOrWalkOn" "refusals" "[I") (by decide +kernel)) (fun _ h9 => h9) rfl dX4_count_13 ?_
    refine lv_iload_n hx hb dX4_count_16 rfl (lv_at hl 1 rfl) ?_
    refine lv_bipush (v := 10) hx hb dX4_count_17 (by decide) ?_
    refine lv_isub hx hb dX4_count_19 ?_
    refine xv_int (y := 4) (by decide +kernel) ?_
    refine va_iald (D := D) hx hb hK hP 4 0 rfl rfl (by unfold vp_in; decide +kernel) dX4_count_20 ?_
    refine xv_int (y := 0) rfl ?_
    exact W.iret (v := 0) hx hb hr (fun t ht hW => ⟨_, rfl, by decide +kernel, ht⟩) (fun _ h => absurd h List.not_mem_nil) dX4_count_21
  · refine lv_iload_n hx hb dX4_count_0 rfl (lv_at hl 1 rfl) ?_
    refine lv_bipush (v := 11) hx hb dX4_count_1 (by decide) ?_
    refine lv_icmp_lt (tgt := 22) hx hb dX4_count_3 (by decide) (fun c_24 => absurd c_24 (by decide +kernel)) (fun c_24 => ?_)
    refine lv_iload_n hx hb dX4_count_6 rfl (lv_at hl 1 rfl) ?_
    refine lv_bipush (v := 16) hx hb dX4_count_7 (by decide) ?_
    refine lv_icmp_gt (tgt := 22) hx hb dX4_count_9 (by decide) (fun c_25 => absurd c_25 (by decide +kernel)) (fun c_25 => ?_)
    refine lv_aload_n hx hb dX4_count_12 rfl (lv_at hl 0 rfl) ?_
    refine va_get (D := D) (ci := 4) (v := .ref rf_a) (C := RX4) (T := TX4) (N := 10) hx hb hts hwX4 hown hK hP 0 rfl rfl 6 (by decide) (hts (.fieldLink RX4 40 "WaitOrWalkOn" "refusals" "[I") (by decide +kernel)) (fun _ h9 => h9) rfl dX4_count_13 ?_
    refine lv_iload_n hx hb dX4_count_16 rfl (lv_at hl 1 rfl) ?_
    refine lv_bipush (v := 10) hx hb dX4_count_17 (by decide) ?_
    refine lv_isub hx hb dX4_count_19 ?_
    refine xv_int (y := 5) (by decide +kernel) ?_
    refine va_iald (D := D) hx hb hK hP 4 0 rfl rfl (by unfold vp_in; decide +kernel) dX4_count_20 ?_
    refine xv_int (y := 0) rfl ?_
    exact W.iret (v := 0) hx hb hr (fun t ht hW => ⟨_, rfl, by decide +kernel, ht⟩) (fun _ h => absurd h List.not_mem_nil) dX4_count_21
  · refine lv_iload_n hx hb dX4_count_0 rfl (lv_at hl 1 rfl) ?_
    refine lv_bipush (v := 11) hx hb dX4_count_1 (by decide) ?_
    refine lv_icmp_lt (tgt := 22) hx hb dX4_count_3 (by decide) (fun c_26 => absurd c_26 (by decide +kernel)) (fun c_26 => ?_)
    refine lv_iload_n hx hb dX4_count_6 rfl (lv_at hl 1 rfl) ?_
    refine lv_bipush (v := 16) hx hb dX4_count_7 (by decide) ?_
    refine lv_icmp_gt (tgt := 22) hx hb dX4_count_9 (by decide) (fun c_27 => absurd c_27 (by decide +kernel)) (fun c_27 => ?_)
    refine lv_aload_n hx hb dX4_count_12 rfl (lv_at hl 0 rfl) ?_
    refine va_get (D := D) (ci := 4) (v := .ref rf_a) (C := RX4) (T := TX4) (N := 10) hx hb hts hwX4 hown hK hP 0 rfl rfl 6 (by decide) (hts (.fieldLink RX4 40 "WaitOrWalkOn" "refusals" "[I") (by decide +kernel)) (fun _ h9 => h9) rfl dX4_count_13 ?_
    refine lv_iload_n hx hb dX4_count_16 rfl (lv_at hl 1 rfl) ?_
    refine lv_bipush (v := 10) hx hb dX4_count_17 (by decide) ?_
    refine lv_isub hx hb dX4_count_19 ?_
    refine xv_int (y := 6) (by decide +kernel) ?_
    refine va_iald (D := D) hx hb hK hP 4 0 rfl rfl (by unfold vp_in; decide +kernel) dX4_count_20 ?_
    refine xv_int (y := 0) rfl ?_
    exact W.iret (v := 0) hx hb hr (fun t ht hW => ⟨_, rfl, by decide +kernel, ht⟩) (fun _ h => absurd h List.not_mem_nil) dX4_count_21
