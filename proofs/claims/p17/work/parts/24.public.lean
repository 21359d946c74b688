set_option maxHeartbeats 4000000 in
set_option maxRecDepth 100000 in
theorem g_X4_others (l : Launch) (D : va_G) (cI cL cZ cC : ClassId) (sz : Nat) (h0 : Nat) (rd : Nat) (dr : Nat) (kp : Nat) (pl : Nat) (tx : Nat) (nu : Nat) (rf_a : Nat) (nc : Int32) (hi : Int32) (pd : Int32) (rf : Nat → Int32) (a1 : Int32) (a2 : Int32) (a3 : Int32) (a4 : Int32)  : Met l yX4_others wsX4_others ({ frames := 1, cells := 0, slots := 0, locals := 25 } : Room) (wPc D [.ref h0, .int a1, .int a2, .int a3, .int a4] [(h0, .inr (4, [.ref rd, .ref dr, .ref kp, .ref pl, .ref tx, .ref nu, .ref rf_a, .int nc, .int hi, .int pd])), (rf_a, .inl (cI, 7, .inl rf))] (xTy cI cL cZ cC) sz) (va_Qi (fun (r : Int32) (_ : Unit) => r = if qOt a1 a2 a3 a4 = 0 then vOt a1 a2 a3 a4 else qOt a1 a2 a3 a4) (fun (_ : Unit) t => va_P D vwCl [(h0, .inr (4, [.ref rd, .ref dr, .ref kp, .ref pl, .ref tx, .ref nu, .ref rf_a, .int nc, .int hi, .int pd])), (rf_a, .inl (cI, 7, .inl (xRq rf (qOt a1 a2 a3 a4))))] t.heap ∧ va_D (va_A [(h0, .inr (4, [.ref rd, .ref dr, .ref kp, .ref pl, .ref tx, .ref nu, .ref rf_a, .int nc, .int hi, .int pd])), (rf_a, .inl (cI, 7, .inl rf))] sz) [(h0, .inr (4, [.ref rd, .ref dr, .ref kp, .ref pl, .ref tx, .ref nu, .ref rf_a, .int nc, .int hi, .int pd])), (rf_a, .inl (cI, 7, .inl (xRq rf (qOt a1 a2 a3 a4))))]) (va_A [(h0, .inr (4, [.ref rd, .ref dr, .ref kp, .ref pl, .ref tx, .ref nu, .ref rf_a, .int nc, .int hi, .int pd])), (rf_a, .inl (cI, 7, .inl rf))] sz)) 0 0 (va_A [(h0, .inr (4, [.ref rd, .ref dr, .ref kp, .ref pl, .ref tx, .ref nu, .ref rf_a, .int nc, .int hi, .int pd])), (rf_a, .inl (cI, 7, .inl rf))] sz) := by
  refine Met.ofW (cc := cX4_others) (maxL := 10) (ret := (some .int)) (by decide) rfl ?_
  intro p e s m args below meth c s₁ B hml hv
  obtain ⟨rfl, hsz, hP, hK, hD0⟩ := hv
  have hx := B.exec
  have hb := B.bytes
  have hr := B.returns
  have hts := atoms_spec (ws := wsX4_others) B.pre
  have hown : s.vm.findClass RX4 = some m.cls := findClass_of_methodNamed B.named
  have hlocks := B.notSynchronized
  subst hsz
  have hD := hD0.self (sz := s.heap.size)
  generalize hAe : va_A [(h0, .inr (4, [.ref rd, .ref dr, .ref kp, .ref pl, .ref tx, .ref nu, .ref rf_a, .int nc, .int hi, .int pd])), (rf_a, .inl (cI, 7, .inl rf))] s.heap.size = A at hD ⊢
  have hA : ∀ q : Nat, s.heap.size ≤ q → A q := fun q h => by rw [← hAe]; exact Or.inr h
  have hS : va_S A s.heap s.heap [] := va_S.rf
  have hP : va_P D vwCl [(h0, .inr (4, [.ref rd, .ref dr, .ref kp, .ref pl, .ref tx, .ref nu, .ref rf_a, .int nc, .int hi, .int pd])), (rf_a, .inl (cI, 7, .inl rf))] s.heap := hP
  have hl := lv_entry ([.ref h0, .int a1, .int a2, .int a3, .int a4]) (n := 10) (Nat.le_of_ble_eq_true rfl)
  rw [lg_entry_eq]
  generalize (lg_sl ([.ref h0, .int a1, .int a2, .int a3, .int a4]) ++ List.replicate (10 - (lg_sl ([.ref h0, .int a1, .int a2, .int a3, .int a4])).length) Slot.unset).toArray = ls at hl ⊢
  have hl : lv_has ls 10 [(0, .ref h0), (1, .int a1), (2, .int a2), (3, .int a3), (4, .int a4)] := hl
  refine lv_iload_n hx hb dX4_others_0 rfl (lv_at hl 1 rfl) ?_
  refine lv_iconst (v := 1) hx hb dX4_others_1 (by decide) ?_
  refine lv_icmp_lt (tgt := 18) hx hb dX4_others_2 (by decide) (fun c_1 => ?_) (fun c_1 => ?_)
  · refine lv_aload_n hx hb dX4_others_18 rfl (lv_at hl 0 rfl) ?_
    refine lv_bipush (v := -4) hx hb dX4_others_19 (by decide) ?_
    have hPc := hP.sub (ws' := [(h0, .inr (4, [.ref rd, .ref dr, .ref kp, .ref pl, .ref tx, .ref nu, .ref rf_a, .int nc, .int hi, .int pd])), (rf_a, .inl (cI, 7, .inl rf))]) [0, 1] rfl
    have hDc := hD.sub (ws' := [(h0, .inr (4, [.ref rd, .ref dr, .ref kp, .ref pl, .ref tx, .ref nu, .ref rf_a, .int nc, .int hi, .int pd])), (rf_a, .inl (cI, 7, .inl rf))]) [0, 1] (by decide) rfl
    have hFc := va_free (wc := [(h0, .inr (4, [.ref rd, .ref dr, .ref kp, .ref pl, .ref tx, .ref nu, .ref rf_a, .int nc, .int hi, .int pd])), (rf_a, .inl (cI, 7, .inl rf))]) hD hS hA [0, 1] rfl
    refine va_calli (va_runV (As := [.int (-4)]) (rest := []) ⟨hx, hb, hml, hown, hts⟩ (g_X4_refuse l D cI cL cZ cC _ h0 rd dr kp pl tx nu rf_a nc hi pd rf (-4) (by first | assumption | decide +kernel) (by first | assumption | decide +kernel)) (cwV 1 hts gX4_others_X4_refuse rfl rfl rfl (by decide +kernel) ⟨Nat.le_of_ble_eq_true rfl, Nat.le_of_ble_eq_true rfl⟩) ⟨wPc_bl, va_recv hK hPc (ci := 4) (q0 := 0) rfl rfl, wPc_use hPc hK hDc⟩ rfl rfl hl.1 rfl (lv_room (Nat.le_of_ble_eq_true rfl)) dX4_others_21 ⟨Nat.le_of_ble_eq_true rfl, Nat.le_of_ble_eq_true rfl⟩) hS (fun q _ h => hFc q h) hFc (fun r_2 u_2 t H1 locs ht hvm hw hB hz1 hk1 hS => ?_)
    obtain ⟨hP1, hD1⟩ := hB
    rw [ht] at hP1
    obtain ⟨hP, hD⟩ := va_join (wr := []) (w1 := [(h0, .inr (4, [.ref rd, .ref dr, .ref kp, .ref pl, .ref tx, .ref nu, .ref rf_a, .int nc, .int hi, .int pd])), (rf_a, .inl (cI, 7, .inl (xRf rf (-4))))]) hP hD [0, 1] [] rfl rfl (by decide) (by decide) hk1 hFc hP1 hD1
    generalize H1 = H at hP hS ⊢
    have hP : va_P D vwCl [(h0, .inr (4, [.ref rd, .ref dr, .ref kp, .ref pl, .ref tx, .ref nu, .ref rf_a, .int nc, .int hi, .int pd])), (rf_a, .inl (cI, 7, .inl (xRf rf (-4))))] H := hP
    have hD : va_D A [(h0, .inr (4, [.ref rd, .ref dr, .ref kp, .ref pl, .ref tx, .ref nu, .ref rf_a, .int nc, .int hi, .int pd])), (rf_a, .inl (cI, 7, .inl (xRf rf (-4))))] := hD
    obtain rfl : ((-4) : Int32) = r_2 := Eq.symm hw
    have hP9 := hP.sub (ws' := [(h0, .inr (4, [.ref rd, .ref dr, .ref kp, .ref pl, .ref tx, .ref nu, .ref rf_a, .int nc, .int hi, .int pd])), (rf_a, .inl (cI, 7, .inl (xRf rf (-4))))]) [0, 1] rfl
    have hD9 := hD.sub (ws' := [(h0, .inr (4, [.ref rd, .ref dr, .ref kp, .ref pl, .ref tx, .ref nu, .ref rf_a, .int nc, .int hi, .int pd])), (rf_a, .inl (cI, 7, .inl (xRf rf (-4))))]) [0, 1] (by decide) rfl
    have hE9 : ([(h0, .inr (4, [.ref rd, .ref dr, .ref kp, .ref pl, .ref tx, .ref nu, .ref rf_a, .int nc, .int hi, .int pd])), (rf_a, .inl (cI, 7, .inl (xRf rf (-4))))] : va_W) = [(h0, .inr (4, [.ref rd, .ref dr, .ref kp, .ref pl, .ref tx, .ref nu, .ref rf_a, .int nc, .int hi, .int pd])), (rf_a, .inl (cI, 7, .inl (xRq rf (qOt a1 a2 a3 a4))))] := by simp [xRq, qOt, c_1]
    exact W.iret (v := -4) hx hb hr (fun t ht hW => ⟨⟨_, (), rfl, by simp [qOt, c_1], by rw [ht]; exact hE9 ▸ hP9, hE9 ▸ hD9⟩, hS.F ht⟩) hS.2.2 dX4_others_24
  · refine lv_iload_n hx hb dX4_others_5 rfl (lv_at hl 2 rfl) ?_
    refine lv_if_lt (tgt := 18) hx hb dX4_others_6 (by decide) (fun c_3 => ?_) (fun c_3 => ?_)
    · refine lv_aload_n hx hb dX4_others_18 rfl (lv_at hl 0 rfl) ?_
      refine lv_bipush (v := -4) hx hb dX4_others_19 (by decide) ?_
      have hPc := hP.sub (ws' := [(h0, .inr (4, [.ref rd, .ref dr, .ref kp, .ref pl, .ref tx, .ref nu, .ref rf_a, .int nc, .int hi, .int pd])), (rf_a, .inl (cI, 7, .inl rf))]) [0, 1] rfl
      have hDc := hD.sub (ws' := [(h0, .inr (4, [.ref rd, .ref dr, .ref kp, .ref pl, .ref tx, .ref nu, .ref rf_a, .int nc, .int hi, .int pd])), (rf_a, .inl (cI, 7, .inl rf))]) [0, 1] (by decide) rfl
      have hFc := va_free (wc := [(h0, .inr (4, [.ref rd, .ref dr, .ref kp, .ref pl, .ref tx, .ref nu, .ref rf_a, .int nc, .int hi, .int pd])), (rf_a, .inl (cI, 7, .inl rf))]) hD hS hA [0, 1] rfl
      refine va_calli (va_runV (As := [.int (-4)]) (rest := []) ⟨hx, hb, hml, hown, hts⟩ (g_X4_refuse l D cI cL cZ cC _ h0 rd dr kp pl tx nu rf_a nc hi pd rf (-4) (by first | assumption | decide +kernel) (by first | assumption | decide +kernel)) (cwV 1 hts gX4_others_X4_refuse rfl rfl rfl (by decide +kernel) ⟨Nat.le_of_ble_eq_true rfl, Nat.le_of_ble_eq_true rfl⟩) ⟨wPc_bl, va_recv hK hPc (ci := 4) (q0 := 0) rfl rfl, wPc_use hPc hK hDc⟩ rfl rfl hl.1 rfl (lv_room (Nat.le_of_ble_eq_true rfl)) dX4_others_21 ⟨Nat.le_of_ble_eq_true rfl, Nat.le_of_ble_eq_true rfl⟩) hS (fun q _ h => hFc q h) hFc (fun r_4 u_4 t H1 locs ht hvm hw hB hz1 hk1 hS => ?_)
      obtain ⟨hP1, hD1⟩ := hB
      rw [ht] at hP1
      obtain ⟨hP, hD⟩ := va_join (wr := []) (w1 := [(h0, .inr (4, [.ref rd, .ref dr, .ref kp, .ref pl, .ref tx, .ref nu, .ref rf_a, .int nc, .int hi, .int pd])), (rf_a, .inl (cI, 7, .inl (xRf rf (-4))))]) hP hD [0, 1] [] rfl rfl (by decide) (by decide) hk1 hFc hP1 hD1
      generalize H1 = H at hP hS ⊢
      have hP : va_P D vwCl [(h0, .inr (4, [.ref rd, .ref dr, .ref kp, .ref pl, .ref tx, .ref nu, .ref rf_a, .int nc, .int hi, .int pd])), (rf_a, .inl (cI, 7, .inl (xRf rf (-4))))] H := hP
      have hD : va_D A [(h0, .inr (4, [.ref rd, .ref dr, .ref kp, .ref pl, .ref tx, .ref nu, .ref rf_a, .int nc, .int hi, .int pd])), (rf_a, .inl (cI, 7, .inl (xRf rf (-4))))] := hD
      obtain rfl : ((-4) : Int32) = r_4 := Eq.symm hw
      have hP9 := hP.sub (ws' := [(h0, .inr (4, [.ref rd, .ref dr, .ref kp, .ref pl, .ref tx, .ref nu, .ref rf_a, .int nc, .int hi, .int pd])), (rf_a, .inl (cI, 7, .inl (xRf rf (-4))))]) [0, 1] rfl
      have hD9 := hD.sub (ws' := [(h0, .inr (4, [.ref rd, .ref dr, .ref kp, .ref pl, .ref tx, .ref nu, .ref rf_a, .int nc, .int hi, .int pd])), (rf_a, .inl (cI, 7, .inl (xRf rf (-4))))]) [0, 1] (by decide) rfl
      have hE9 : ([(h0, .inr (4, [.ref rd, .ref dr, .ref kp, .ref pl, .ref tx, .ref nu, .ref rf_a, .int nc, .int hi, .int pd])), (rf_a, .inl (cI, 7, .inl (xRf rf (-4))))] : va_W) = [(h0, .inr (4, [.ref rd, .ref dr, .ref kp, .ref pl, .ref tx, .ref nu, .ref rf_a, .int nc, .int hi, .int pd])), (rf_a, .inl (cI, 7, .inl (xRq rf (qOt a1 a2 a3 a4))))] := by simp [xRq, qOt, c_1, c_3]
      exact W.iret (v := -4) hx hb hr (fun t ht hW => ⟨⟨_, (), rfl, by simp [qOt, c_1, c_3], by rw [ht]; exact hE9 ▸ hP9, hE9 ▸ hD9⟩, hS.F ht⟩) hS.2.2 dX4_others_24
    · refine lv_iload_n hx hb dX4_others_9 rfl (lv_at hl 3 rfl) ?_
      refine lv_if_lt (tgt := 18) hx hb dX4_others_10 (by decide) (fun c_5 => ?_) (fun c_5 => ?_)
      · refine lv_aload_n hx hb dX4_others_18 rfl (lv_at hl 0 rfl) ?_
        refine lv_bipush (v := -4) hx hb dX4_others_19 (by decide) ?_
        have hPc := hP.sub (ws' := [(h0, .inr (4, [.ref rd, .ref dr, .ref kp, .ref pl, .ref tx, .ref nu, .ref rf_a, .int nc, .int hi, .int pd])), (rf_a, .inl (cI, 7, .inl rf))]) [0, 1] rfl
        have hDc := hD.sub (ws' := [(h0, .inr (4, [.ref rd, .ref dr, .ref kp, .ref pl, .ref tx, .ref nu, .ref rf_a, .int nc, .int hi, .int pd])), (rf_a, .inl (cI, 7, .inl rf))]) [0, 1] (by decide) rfl
        have hFc := va_free (wc := [(h0, .inr (4, [.ref rd, .ref dr, .ref kp, .ref pl, .ref tx, .ref nu, .ref rf_a, .int nc, .int hi, .int pd])), (rf_a, .inl (cI, 7, .inl rf))]) hD hS hA [0, 1] rfl
        refine va_calli (va_runV (As := [.int (-4)]) (rest := []) ⟨hx, hb, hml, hown, hts⟩ (g_X4_refuse l D cI cL cZ cC _ h0 rd dr kp pl tx nu rf_a nc hi pd rf (-4) (by first | assumption | decide +kernel) (by first | assumption | decide +kernel)) (cwV 1 hts gX4_others_X4_refuse rfl rfl rfl (by decide +kernel) ⟨Nat.le_of_ble_eq_true rfl, Nat.le_of_ble_eq_true rfl⟩) ⟨wPc_bl, va_recv hK hPc (ci := 4) (q0 := 0) rfl rfl, wPc_use hPc hK hDc⟩ rfl rfl hl.1 rfl (lv_room (Nat.le_of_ble_eq_true rfl)) dX4_others_21 ⟨Nat.le_of_ble_eq_true rfl, Nat.le_of_ble_eq_true rfl⟩) hS (fun q _ h => hFc q h) hFc (fun r_6 u_6 t H1 locs ht hvm hw hB hz1 hk1 hS => ?_)
        obtain ⟨hP1, hD1⟩ := hB
        rw [ht] at hP1
        obtain ⟨hP, hD⟩ := va_join (wr := []) (w1 := [(h0, .inr (4, [.ref rd, .ref dr, .ref kp, .ref pl, .ref tx, .ref nu, .ref rf_a, .int nc, .int hi, .int pd])), (rf_a, .inl (cI, 7, .inl (xRf rf (-4))))]) hP hD [0, 1] [] rfl rfl (by decide) (by decide) hk1 hFc hP1 hD1
        generalize H1 = H at hP hS ⊢
        have hP : va_P D vwCl [(h0, .inr (4, [.ref rd, .ref dr, .ref kp, .ref pl, .ref tx, .ref nu, .ref rf_a, .int nc, .int hi, .int pd])), (rf_a, .inl (cI, 7, .inl (xRf rf (-4))))] H := hP
        have hD : va_D A [(h0, .inr (4, [.ref rd, .ref dr, .ref kp, .ref pl, .ref tx, .ref nu, .ref rf_a, .int nc, .int hi, .int pd])), (rf_a, .inl (cI, 7, .inl (xRf rf (-4))))] := hD
        obtain rfl : ((-4) : Int32) = r_6 := Eq.symm hw
        have hP9 := hP.sub (ws' := [(h0, .inr (4, [.ref rd, .ref dr, .ref kp, .ref pl, .ref tx, .ref nu, .ref rf_a, .int nc, .int hi, .int pd])), (rf_a, .inl (cI, 7, .inl (xRf rf (-4))))]) [0, 1] rfl
        have hD9 := hD.sub (ws' := [(h0, .inr (4, [.ref rd, .ref dr, .ref kp, .ref pl, .ref tx, .ref nu, .ref rf_a, .int nc, .int hi, .int pd])), (rf_a, .inl (cI, 7, .inl (xRf rf (-4))))]) [0, 1] (by decide) rfl
        have hE9 : ([(h0, .inr (4, [.ref rd, .ref dr, .ref kp, .ref pl, .ref tx, .ref nu, .ref rf_a, .int nc, .int hi, .int pd])), (rf_a, .inl (cI, 7, .inl (xRf rf (-4))))] : va_W) = [(h0, .inr (4, [.ref rd, .ref dr, .ref kp, .ref pl, .ref tx, .ref nu, .ref rf_a, .int nc, .int hi, .int pd])), (rf_a, .inl (cI, 7, .inl (xRq rf (qOt a1 a2 a3 a4))))] := by simp [xRq, qOt, c_1, c_3, c_5]
        exact W.iret (v := -4) hx hb hr (fun t ht hW => ⟨⟨_, (), rfl, by simp [qOt, c_1, c_3, c_5], by rw [ht]; exact hE9 ▸ hP9, hE9 ▸ hD9⟩, hS.F ht⟩) hS.2.2 dX4_others_24
      · refine lv_iload hx hb dX4_others_13 (lv_at hl 4 rfl) ?_
        refine lv_if_ge (tgt := 25) hx hb dX4_others_15 (by decide) (fun c_7 => ?_) (fun c_7 => ?_)
        · refine lv_iload_n hx hb dX4_others_25 rfl (lv_at hl 1 rfl) ?_
          refine lv_bipush (v := 9) hx hb dX4_others_26 (by decide) ?_
          refine lv_icmp_gt (tgt := 50) hx hb dX4_others_28 (by decide) (fun c_8 => ?_) (fun c_8 => ?_)
          · refine lv_aload_n hx hb dX4_others_50 rfl (lv_at hl 0 rfl) ?_
            refine lv_bipush (v := -6) hx hb dX4_others_51 (by decide) ?_
            have hPc := hP.sub (ws' := [(h0, .inr (4, [.ref rd, .ref dr, .ref kp, .ref pl, .ref tx, .ref nu, .ref rf_a, .int nc, .int hi, .int pd])), (rf_a, .inl (cI, 7, .inl rf))]) [0, 1] rfl
            have hDc := hD.sub (ws' := [(h0, .inr (4, [.ref rd, .ref dr, .ref kp, .ref pl, .ref tx, .ref nu, .ref rf_a, .int nc, .int hi, .int pd])), (rf_a, .inl (cI, 7, .inl rf))]) [0, 1] (by decide) rfl
            have hFc := va_free (wc := [(h0, .inr (4, [.ref rd, .ref dr, .ref kp, .ref pl, .ref tx, .ref nu, .ref rf_a, .int nc, .int hi, .int pd])), (rf_a, .inl (cI, 7, .inl rf))]) hD hS hA [0, 1] rfl
            refine va_calli (va_runV (As := [.int (-6)]) (rest := []) ⟨hx, hb, hml, hown, hts⟩ (g_X4_refuse l D cI cL cZ cC _ h0 rd dr kp pl tx nu rf_a nc hi pd rf (-6) (by first | assumption | decide +kernel) (by first | assumption | decide +kernel)) (cwV 1 hts gX4_others_X4_refuse rfl rfl rfl (by decide +kernel) ⟨Nat.le_of_ble_eq_true rfl, Nat.le_of_ble_eq_true rfl⟩) ⟨wPc_bl, va_recv hK hPc (ci := 4) (q0 := 0) rfl rfl, wPc_use hPc hK hDc⟩ rfl rfl hl.1 rfl (lv_room (Nat.le_of_ble_eq_true rfl)) dX4_others_53 ⟨Nat.le_of_ble_eq_true rfl, Nat.le_of_ble_eq_true rfl⟩) hS (fun q _ h => hFc q h) hFc (fun r_9 u_9 t H1 locs ht hvm hw hB hz1 hk1 hS => ?_)
            obtain ⟨hP1, hD1⟩ := hB
            rw [ht] at hP1
            obtain ⟨hP, hD⟩ := va_join (wr := []) (w1 := [(h0, .inr (4, [.ref rd, .ref dr, .ref kp, .ref pl, .ref tx, .ref nu, .ref rf_a, .int nc, .int hi, .int pd])), (rf_a, .inl (cI, 7, .inl (xRf rf (-6))))]) hP hD [0, 1] [] rfl rfl (by decide) (by decide) hk1 hFc hP1 hD1
            generalize H1 = H at hP hS ⊢
            have hP : va_P D vwCl [(h0, .inr (4, [.ref rd, .ref dr, .ref kp, .ref pl, .ref tx, .ref nu, .ref rf_a, .int nc, .int hi, .int pd])), (rf_a, .inl (cI, 7, .inl (xRf rf (-6))))] H := hP
            have hD : va_D A [(h0, .inr (4, [.ref rd, .ref dr, .ref kp, .ref pl, .ref tx, .ref nu, .ref rf_a, .int nc, .int hi, .int pd])), (rf_a, .inl (cI, 7, .inl (xRf rf (-6))))] := hD
            obtain rfl : ((-6) : Int32) = r_9 := Eq.symm hw
            have hP9 := hP.sub (ws' := [(h0, .inr (4, [.ref rd, .ref dr, .ref kp, .ref pl, .ref tx, .ref nu, .ref rf_a, .int nc, .int hi, .int pd])), (rf_a, .inl (cI, 7, .inl (xRf rf (-6))))]) [0, 1] rfl
            have hD9 := hD.sub (ws' := [(h0, .inr (4, [.ref rd, .ref dr, .ref kp, .ref pl, .ref tx, .ref nu, .ref rf_a, .int nc, .int hi, .int pd])), (rf_a, .inl (cI, 7, .inl (xRf rf (-6))))]) [0, 1] (by decide) rfl
            have hE9 : ([(h0, .inr (4, [.ref rd, .ref dr, .ref kp, .ref pl, .ref tx, .ref nu, .ref rf_a, .int nc, .int hi, .int pd])), (rf_a, .inl (cI, 7, .inl (xRf rf (-6))))] : va_W) = [(h0, .inr (4, [.ref rd, .ref dr, .ref kp, .ref pl, .ref tx, .ref nu, .ref rf_a, .int nc, .int hi, .int pd])), (rf_a, .inl (cI, 7, .inl (xRq rf (qOt a1 a2 a3 a4))))] := by simp [xRq, qOt, c_1, c_3, c_5, (Int32.not_lt.mpr c_7), c_8]
            exact W.iret (v := -6) hx hb hr (fun t ht hW => ⟨⟨_, (), rfl, by simp [qOt, c_1, c_3, c_5, (Int32.not_lt.mpr c_7), c_8], by rw [ht]; exact hE9 ▸ hP9, hE9 ▸ hD9⟩, hS.F ht⟩) hS.2.2 dX4_others_56
          · refine lv_iload_n hx hb dX4_others_31 rfl (lv_at hl 2 rfl) ?_
            refine lv_bipush (v := 30) hx hb dX4_others_32 (by decide) ?_
            refine lv_icmp_gt (tgt := 50) hx hb dX4_others_34 (by decide) (fun c_10 => ?_) (fun c_10 => ?_)
            · refine lv_aload_n hx hb dX4_others_50 rfl (lv_at hl 0 rfl) ?_
              refine lv_bipush (v := -6) hx hb dX4_others_51 (by decide) ?_
              have hPc := hP.sub (ws' := [(h0, .inr (4, [.ref rd, .ref dr, .ref kp, .ref pl, .ref tx, .ref nu, .ref rf_a, .int nc, .int hi, .int pd])), (rf_a, .inl (cI, 7, .inl rf))]) [0, 1] rfl
              have hDc := hD.sub (ws' := [(h0, .inr (4, [.ref rd, .ref dr, .ref kp, .ref pl, .ref tx, .ref nu, .ref rf_a, .int nc, .int hi, .int pd])), (rf_a, .inl (cI, 7, .inl rf))]) [0, 1] (by decide) rfl
              have hFc := va_free (wc := [(h0, .inr (4, [.ref rd, .ref dr, .ref kp, .ref pl, .ref tx, .ref nu, .ref rf_a, .int nc, .int hi, .int pd])), (rf_a, .inl (cI, 7, .inl rf))]) hD hS hA [0, 1] rfl
              refine va_calli (va_runV (As := [.int (-6)]) (rest := []) ⟨hx, hb, hml, hown, hts⟩ (g_X4_refuse l D cI cL cZ cC _ h0 rd dr kp pl tx nu rf_a nc hi pd rf (-6) (by first | assumption | decide +kernel) (by first | assumption | decide +kernel)) (cwV 1 hts gX4_others_X4_refuse rfl rfl rfl (by decide +kernel) ⟨Nat.le_of_ble_eq_true rfl, Nat.le_of_ble_eq_true rfl⟩) ⟨wPc_bl, va_recv hK hPc (ci := 4) (q0 := 0) rfl rfl, wPc_use hPc hK hDc⟩ rfl rfl hl.1 rfl (lv_room (Nat.le_of_ble_eq_true rfl)) dX4_others_53 ⟨Nat.le_of_ble_eq_true rfl, Nat.le_of_ble_eq_true rfl⟩) hS (fun q _ h => hFc q h) hFc (fun r_11 u_11 t H1 locs ht hvm hw hB hz1 hk1 hS => ?_)
              obtain ⟨hP1, hD1⟩ := hB
              rw [ht] at hP1
              obtain ⟨hP, hD⟩ := va_join (wr := []) (w1 := [(h0, .inr (4, [.ref rd, .ref dr, .ref kp, .ref pl, .ref tx, .ref nu, .ref rf_a, .int nc, .int hi, .int pd])), (rf_a, .inl (cI, 7, .inl (xRf rf (-6))))]) hP hD [0, 1] [] rfl rfl (by decide) (by decide) hk1 hFc hP1 hD1
              generalize H1 = H at hP hS ⊢
              have hP : va_P D vwCl [(h0, .inr (4, [.ref rd, .ref dr, .ref kp, .ref pl, .ref tx, .ref nu, .ref rf_a, .int nc, .int hi, .int pd])), (rf_a, .inl (cI, 7, .inl (xRf rf (-6))))] H := hP
              have hD : va_D A [(h0, .inr (4, [.ref rd, .ref dr, .ref kp, .ref pl, .ref tx, .ref nu, .ref rf_a, .int nc, .int hi, .int pd])), (rf_a, .inl (cI, 7, .inl (xRf rf (-6))))] := hD
              obtain rfl : ((-6) : Int32) = r_11 := Eq.symm hw
              have hP9 := hP.sub (ws' := [(h0, .inr (4, [.ref rd, .ref dr, .ref kp, .ref pl, .ref tx, .ref nu, .ref rf_a, .int nc, .int hi, .int pd])), (rf_a, .inl (cI, 7, .inl (xRf rf (-6))))]) [0, 1] rfl
              have hD9 := hD.sub (ws' := [(h0, .inr (4, [.ref rd, .ref dr, .ref kp, .ref pl, .ref tx, .ref nu, .ref rf_a, .int nc, .int hi, .int pd])), (rf_a, .inl (cI, 7, .inl (xRf rf (-6))))]) [0, 1] (by decide) rfl
              have hE9 : ([(h0, .inr (4, [.ref rd, .ref dr, .ref kp, .ref pl, .ref tx, .ref nu, .ref rf_a, .int nc, .int hi, .int pd])), (rf_a, .inl (cI, 7, .inl (xRf rf (-6))))] : va_W) = [(h0, .inr (4, [.ref rd, .ref dr, .ref kp, .ref pl, .ref tx, .ref nu, .ref rf_a, .int nc, .int hi, .int pd])), (rf_a, .inl (cI, 7, .inl (xRq rf (qOt a1 a2 a3 a4))))] := by simp [xRq, qOt, c_1, c_3, c_5, (Int32.not_lt.mpr c_7), c_8, c_10]
              exact W.iret (v := -6) hx hb hr (fun t ht hW => ⟨⟨_, (), rfl, by simp [qOt, c_1, c_3, c_5, (Int32.not_lt.mpr c_7), c_8, c_10], by rw [ht]; exact hE9 ▸ hP9, hE9 ▸ hD9⟩, hS.F ht⟩) hS.2.2 dX4_others_56
            · refine lv_iload_n hx hb dX4_others_37 rfl (lv_at hl 3 rfl) ?_
              refine lv_bipush (v := 30) hx hb dX4_others_38 (by decide) ?_
              refine lv_icmp_gt (tgt := 50) hx hb dX4_others_40 (by decide) (fun c_12 => ?_) (fun c_12 => ?_)
              · refine lv_aload_n hx hb dX4_others_50 rfl (lv_at hl 0 rfl) ?_
                refine lv_bipush (v := -6) hx hb dX4_others_51 (by decide) ?_
                have hPc := hP.sub (ws' := [(h0, .inr (4, [.ref rd, .ref dr, .ref kp, .ref pl, .ref tx, .ref nu, .ref rf_a, .int nc, .int hi, .int pd])), (rf_a, .inl (cI, 7, .inl rf))]) [0, 1] rfl
                have hDc := hD.sub (ws' := [(h0, .inr (4, [.ref rd, .ref dr, .ref kp, .ref pl, .ref tx, .ref nu, .ref rf_a, .int nc, .int hi, .int pd])), (rf_a, .inl (cI, 7, .inl rf))]) [0, 1] (by decide) rfl
                have hFc := va_free (wc := [(h0, .inr (4, [.ref rd, .ref dr, .ref kp, .ref pl, .ref tx, .ref nu, .ref rf_a, .int nc, .int hi, .int pd])), (rf_a, .inl (cI, 7, .inl rf))]) hD hS hA [0, 1] rfl
                refine va_calli (va_runV (As := [.int (-6)]) (rest := []) ⟨hx, hb, hml, hown, hts⟩ (g_X4_refuse l D cI cL cZ cC _ h0 rd dr kp pl tx nu rf_a nc hi pd rf (-6) (by first | assumption | decide +kernel) (by first | assumption | decide +kernel)) (cwV 1 hts gX4_others_X4_refuse rfl rfl rfl (by decide +kernel) ⟨Nat.le_of_ble_eq_true rfl, Nat.le_of_ble_eq_true rfl⟩) ⟨wPc_bl, va_recv hK hPc (ci := 4) (q0 := 0) rfl rfl, wPc_use hPc hK hDc⟩ rfl rfl hl.1 rfl (lv_room (Nat.le_of_ble_eq_true rfl)) dX4_others_53 ⟨Nat.le_of_ble_eq_true rfl, Nat.le_of_ble_eq_true rfl⟩) hS (fun q _ h => hFc q h) hFc (fun r_13 u_13 t H1 locs ht hvm hw hB hz1 hk1 hS => ?_)
                obtain ⟨hP1, hD1⟩ := hB
                rw [ht] at hP1
                obtain ⟨hP, hD⟩ := va_join (wr := []) (w1 := [(h0, .inr (4, [.ref rd, .ref dr, .ref kp, .ref pl, .ref tx, .ref nu, .ref rf_a, .int nc, .int hi, .int pd])), (rf_a, .inl (cI, 7, .inl (xRf rf (-6))))]) hP hD [0, 1] [] rfl rfl (by decide) (by decide) hk1 hFc hP1 hD1
                generalize H1 = H at hP hS ⊢
                have hP : va_P D vwCl [(h0, .inr (4, [.ref rd, .ref dr, .ref kp, .ref pl, .ref tx, .ref nu, .ref rf_a, .int nc, .int hi, .int pd])), (rf_a, .inl (cI, 7, .inl (xRf rf (-6))))] H := hP
                have hD : va_D A [(h0, .inr (4, [.ref rd, .ref dr, .ref kp, .ref pl, .ref tx, .ref nu, .ref rf_a, .int nc, .int hi, .int pd])), (rf_a, .inl (cI, 7, .inl (xRf rf (-6))))] := hD
                obtain rfl : ((-6) : Int32) = r_13 := Eq.symm hw
                have hP9 := hP.sub (ws' := [(h0, .inr (4, [.ref rd, .ref dr, .ref kp, .ref pl, .ref tx, .ref nu, .ref rf_a, .int nc, .int hi, .int pd])), (rf_a, .inl (cI, 7, .inl (xRf rf (-6))))]) [0, 1] rfl
                have hD9 := hD.sub (ws' := [(h0, .inr (4, [.ref rd, .ref dr, .ref kp, .ref pl, .ref tx, .ref nu, .ref rf_a, .int nc, .int hi, .int pd])), (rf_a, .inl (cI, 7, .inl (xRf rf (-6))))]) [0, 1] (by decide) rfl
                have hE9 : ([(h0, .inr (4, [.ref rd, .ref dr, .ref kp, .ref pl, .ref tx, .ref nu, .ref rf_a, .int nc, .int hi, .int pd])), (rf_a, .inl (cI, 7, .inl (xRf rf (-6))))] : va_W) = [(h0, .inr (4, [.ref rd, .ref dr, .ref kp, .ref pl, .ref tx, .ref nu, .ref rf_a, .int nc, .int hi, .int pd])), (rf_a, .inl (cI, 7, .inl (xRq rf (qOt a1 a2 a3 a4))))] := by simp [xRq, qOt, c_1, c_3, c_5, (Int32.not_lt.mpr c_7), c_8, c_10, c_12]
                exact W.iret (v := -6) hx hb hr (fun t ht hW => ⟨⟨_, (), rfl, by simp [qOt, c_1, c_3, c_5, (Int32.not_lt.mpr c_7), c_8, c_10, c_12], by rw [ht]; exact hE9 ▸ hP9, hE9 ▸ hD9⟩, hS.F ht⟩) hS.2.2 dX4_others_56
              · refine lv_iload hx hb dX4_others_43 (lv_at hl 4 rfl) ?_
                refine lv_bipush (v := 60) hx hb dX4_others_45 (by decide) ?_
                refine lv_icmp_le (tgt := 57) hx hb dX4_others_47 (by decide) (fun c_14 => ?_) (fun c_14 => ?_)
                · have e5 : qOt a1 a2 a3 a4 = 0 := by simp [qOt, c_1, c_3, c_5, (Int32.not_lt.mpr c_7), c_8, c_10, c_12, (Int32.not_lt.mpr c_14)]
                  obtain ⟨n1, rfl, hn1⟩ := xInN1 (n := 9) (by decide) c_1 c_8
                  obtain ⟨n4, rfl, hn4⟩ := xInN (n := 60) (by decide) (Int32.not_lt.mpr c_7) (Int32.not_lt.mpr c_14)
                  obtain ⟨G9, hG⟩ : ∃ G : Int32 → Int32, ∀ s9 : Int32, xSm (fun i => if s9 < nI i * a2 + a3 then 1 else 0) n1 = G s9 := ⟨_, fun _ => rfl⟩
                  refine lv_iload_n hx hb dX4_others_57 rfl (lv_at hl 1 rfl) ?_
                  refine lv_istore (lv' := [(5, .int (nI n1)), (0, .ref h0), (1, .int (nI n1)), (2, .int a2), (3, .int a3), (4, .int (nI n4))]) hx hb dX4_others_58 hl (by decide) rfl (fun ls hl => ?_)
                  refine lv_iconst (v := 0) hx hb dX4_others_60 (by decide) ?_
                  refine lv_istore (lv' := [(6, .int 0), (5, .int (nI n1)), (0, .ref h0), (1, .int (nI n1)), (2, .int a2), (3, .int a3), (4, .int (nI n4))]) hx hb dX4_others_61 hl (by decide) rfl (fun ls hl => ?_)
                  refine lv_iconst (v := 0) hx hb dX4_others_63 (by decide) ?_
                  refine lv_istore (lv' := [(7, .int 0), (6, .int 0), (5, .int (nI n1)), (0, .ref h0), (1, .int (nI n1)), (2, .int a2), (3, .int a3), (4, .int (nI n4))]) hx hb dX4_others_64 hl (by decide) rfl (fun ls hl => ?_)
                  refine lv_iconst (v := 1) hx hb dX4_others_66 (by decide) ?_
                  refine lv_istore (lv' := [(8, .int 1), (7, .int 0), (6, .int 0), (5, .int (nI n1)), (0, .ref h0), (1, .int (nI n1)), (2, .int a2), (3, .int a3), (4, .int (nI n4))]) hx hb dX4_others_67 hl (by decide) rfl (fun ls hl => ?_)
                  refine xl_loopH (σ := Nat) (fun n q H locs ls => lv_has ls 10 [(8, .int (nI (q + 1))), (7, .int (xOt G9 (nI n1) q).2.2), (6, .int (xOt G9 (nI n1) q).2.1), (5, .int (xOt G9 (nI n1) q).1), (0, .ref h0), (1, .int (nI n1)), (2, .int a2), (3, .int a3), (4, .int (nI n4))] ∧ va_P D vwCl [(h0, .inr (4, [.ref rd, .ref dr, .ref kp, .ref pl, .ref tx, .ref nu, .ref rf_a, .int nc, .int hi, .int pd])), (rf_a, .inl (cI, 7, .inl rf))] H ∧ va_D A [(h0, .inr (4, [.ref rd, .ref dr, .ref kp, .ref pl, .ref tx, .ref nu, .ref rf_a, .int nc, .int hi, .int pd])), (rf_a, .inl (cI, 7, .inl rf))] ∧ va_S A s.heap H locs ∧ (n4 - q < n) ∧ (q ≤ n4)) (n4 + 1) (0) ⟨lv_sub hl [0, 1, 2, 3, 4, 5, 6, 7, 8] rfl, hP.sub [0, 1] rfl, hD.sub [0, 1] (by decide) rfl, hS, by (try dsimp only); exact ⟨by omega, by omega⟩⟩ (fun q H lc ls h => absurd h.2.2.2.2.1 (Nat.not_lt_zero _)) ?_
                  intro n_69 q_69 H locs ls ih_69 hI_69
                  obtain ⟨hl, hP, hD, hS, hI_69⟩ := hI_69
                  obtain ⟨k, e_69⟩ : ∃ z, z = q_69 := ⟨_, rfl⟩
                  subst e_69
                  obtain ⟨h1, h2⟩ := hI_69
                  try dsimp only at hl hP hD h1 h2
                  refine lv_iload hx hb dX4_others_69 (lv_at hl 0 rfl) ?_
                  refine lv_iload hx hb dX4_others_71 (lv_at hl 8 rfl) ?_
                  refine lv_icmp_gt (tgt := 112) hx hb dX4_others_73 (by decide) (fun c_15 => ?_) (fun c_15 => ?_)
                  · refine lv_iload hx hb dX4_others_112 (lv_at hl 3 rfl) ?_
                    have hP9 := hP.sub (ws' := [(h0, .inr (4, [.ref rd, .ref dr, .ref kp, .ref pl, .ref tx, .ref nu, .ref rf_a, .int nc, .int hi, .int pd])), (rf_a, .inl (cI, 7, .inl rf))]) [0, 1] rfl
                    have hD9 := hD.sub (ws' := [(h0, .inr (4, [.ref rd, .ref dr, .ref kp, .ref pl, .ref tx, .ref nu, .ref rf_a, .int nc, .int hi, .int pd])), (rf_a, .inl (cI, 7, .inl rf))]) [0, 1] (by decide) rfl
                    have hE9 : ([(h0, .inr (4, [.ref rd, .ref dr, .ref kp, .ref pl, .ref tx, .ref nu, .ref rf_a, .int nc, .int hi, .int pd])), (rf_a, .inl (cI, 7, .inl rf))] : va_W) = [(h0, .inr (4, [.ref rd, .ref dr, .ref kp, .ref pl, .ref tx, .ref nu, .ref rf_a, .int nc, .int hi, .int pd])), (rf_a, .inl (cI, 7, .inl (xRq rf (qOt (nI n1) a2 a3 (nI n4)))))] := by simp [xRq, e5]
                    exact W.iret (v := (xOt G9 (nI n1) k).1) hx hb hr (fun t ht hW => ⟨⟨_, (), rfl, (by have w := (nI_ltI (a := n4) (b := k + 1) (by omega) (by omega)).mp c_15; obtain rfl : k = n4 := (by omega); simp [e5, vOt, nI_clamp (show n1 < 2 ^ 31 by omega), nI_clamp (show k < 2 ^ 31 by omega), hG]), by rw [ht]; exact hE9 ▸ hP9, hE9 ▸ hD9⟩, hS.F ht⟩) hS.2.2 dX4_others_114
                  · refine lv_iload hx hb dX4_others_76 (lv_at hl 2 rfl) ?_
                    refine lv_iconst (v := 1) hx hb dX4_others_78 (by decide) ?_
                    refine lv_iload hx hb dX4_others_79 (lv_at hl 1 rfl) ?_
                    refine lv_iadd hx hb dX4_others_81 ?_
                    refine lv_iadd hx hb dX4_others_82 ?_
                    refine xv_int (y := (xOt G9 (nI n1) (k + 1)).2.1) (rfl) ?_
                    refine lv_istore (lv' := [(6, .int ((xOt G9 (nI n1) (k + 1)).2.1)), (8, .int (nI (k + 1))), (7, .int (xOt G9 (nI n1) k).2.2), (5, .int (xOt G9 (nI n1) k).1), (0, .ref h0), (1, .int (nI n1)), (2, .int a2), (3, .int a3), (4, .int (nI n4))]) hx hb dX4_others_83 hl (by decide) rfl (fun ls hl => ?_)
                    refine lv_iload hx hb dX4_others_85 (lv_at hl 0 rfl) ?_
                    refine lv_iload_n hx hb dX4_others_87 rfl (lv_at hl 5 rfl) ?_
                    refine lv_iload_n hx hb dX4_others_88 rfl (lv_at hl 6 rfl) ?_
                    refine lv_iload_n hx hb dX4_others_89 rfl (lv_at hl 7 rfl) ?_
                    have hPc := hP.sub (ws' := []) [] rfl
                    refine vp_callSi (va_Run.run (va_runS (As := [.int ((xOt G9 (nI n1) (k + 1)).2.1), .int (nI n1), .int a2, .int a3]) (rest := []) ⟨hx, hb, hml, hown, hts⟩ (g_X4_withHeartAbove l D cI cL cZ cC n1 ((xOt G9 (nI n1) (k + 1)).2.1) a2 a3 (by omega)) (va_cwS 4 hts gX4_others_X4_withHeartAbove rfl rfl rfl (by decide +kernel) ⟨Nat.le_of_ble_eq_true rfl, Nat.le_of_ble_eq_true rfl⟩) ⟨xPc_bl, xPc_use hPc hK⟩ rfl rfl hl.1 rfl (lv_room (Nat.le_of_ble_eq_true rfl)) dX4_others_90 ⟨Nat.le_of_ble_eq_true rfl, Nat.le_of_ble_eq_true rfl⟩)) (fun r_16 er_16 => ?_)
                    obtain rfl : (xSm (fun i => if ((xOt G9 (nI n1) (k + 1)).2.1) < nI i * a2 + a3 then 1 else 0) n1 : Int32) = r_16 := Eq.symm er_16
                    refine xv_int (y := (xOt G9 (nI n1) (k + 1)).1) (hG _) ?_
                    refine lv_istore (lv' := [(9, .int ((xOt G9 (nI n1) (k + 1)).1)), (6, .int ((xOt G9 (nI n1) (k + 1)).2.1)), (8, .int (nI (k + 1))), (7, .int (xOt G9 (nI n1) k).2.2), (5, .int (xOt G9 (nI n1) k).1), (0, .ref h0), (1, .int (nI n1)), (2, .int a2), (3, .int a3), (4, .int (nI n4))]) hx hb dX4_others_93 hl (by decide) rfl (fun ls hl => ?_)
                    refine lv_iload hx hb dX4_others_95 (lv_at hl 4 rfl) ?_
                    refine lv_iload hx hb dX4_others_97 (lv_at hl 0 rfl) ?_
                    refine lv_isub hx hb dX4_others_99 ?_
                    refine xv_int (y := (xOt G9 (nI n1) (k + 1)).2.2) (rfl) ?_
                    refine lv_istore (lv' := [(7, .int ((xOt G9 (nI n1) (k + 1)).2.2)), (9, .int ((xOt G9 (nI n1) (k + 1)).1)), (6, .int ((xOt G9 (nI n1) (k + 1)).2.1)), (8, .int (nI (k + 1))), (5, .int (xOt G9 (nI n1) k).1), (0, .ref h0), (1, .int (nI n1)), (2, .int a2), (3, .int a3), (4, .int (nI n4))]) hx hb dX4_others_100 hl (by decide) rfl (fun ls hl => ?_)
                    refine lv_iload hx hb dX4_others_102 (lv_at hl 1 rfl) ?_
                    refine lv_istore (lv' := [(5, .int ((xOt G9 (nI n1) (k + 1)).1)), (7, .int ((xOt G9 (nI n1) (k + 1)).2.2)), (9, .int ((xOt G9 (nI n1) (k + 1)).1)), (6, .int ((xOt G9 (nI n1) (k + 1)).2.1)), (8, .int (nI (k + 1))), (0, .ref h0), (1, .int (nI n1)), (2, .int a2), (3, .int a3), (4, .int (nI n4))]) hx hb dX4_others_104 hl (by decide) rfl (fun ls hl => ?_)
                    refine lv_iinc (v := nI (k + 1 + 1)) (lv' := [(8, .int (nI (k + 1 + 1))), (5, .int ((xOt G9 (nI n1) (k + 1)).1)), (7, .int ((xOt G9 (nI n1) (k + 1)).2.2)), (9, .int ((xOt G9 (nI n1) (k + 1)).1)), (6, .int ((xOt G9 (nI n1) (k + 1)).2.1)), (0, .ref h0), (1, .int (nI n1)), (2, .int a2), (3, .int a3), (4, .int (nI n4))]) hx hb dX4_others_106 hl (k := 4) rfl (nI_1 (k + 1)) (by decide) rfl (fun ls hl => ?_)
                    refine lv_goto (tgt := 69) hx hb dX4_others_109 (by decide) ?_
                    have w : ¬ n4 < k + 1 := mt (nI_ltI (a := n4) (b := k + 1) (by omega) (by omega)).mpr c_15
                    exact ih_69 (k + 1) _ _ _ ⟨lv_sub hl [0, 2, 4, 1, 5, 6, 7, 8, 9] rfl, hP.sub [0, 1] rfl, hD.sub [0, 1] (by decide) rfl, hS, by (try dsimp only); exact ⟨by omega, by omega⟩⟩
                · refine lv_aload_n hx hb dX4_others_50 rfl (lv_at hl 0 rfl) ?_
                  refine lv_bipush (v := -6) hx hb dX4_others_51 (by decide) ?_
                  have hPc := hP.sub (ws' := [(h0, .inr (4, [.ref rd, .ref dr, .ref kp, .ref pl, .ref tx, .ref nu, .ref rf_a, .int nc, .int hi, .int pd])), (rf_a, .inl (cI, 7, .inl rf))]) [0, 1] rfl
                  have hDc := hD.sub (ws' := [(h0, .inr (4, [.ref rd, .ref dr, .ref kp, .ref pl, .ref tx, .ref nu, .ref rf_a, .int nc, .int hi, .int pd])), (rf_a, .inl (cI, 7, .inl rf))]) [0, 1] (by decide) rfl
                  have hFc := va_free (wc := [(h0, .inr (4, [.ref rd, .ref dr, .ref kp, .ref pl, .ref tx, .ref nu, .ref rf_a, .int nc, .int hi, .int pd])), (rf_a, .inl (cI, 7, .inl rf))]) hD hS hA [0, 1] rfl
                  refine va_calli (va_runV (As := [.int (-6)]) (rest := []) ⟨hx, hb, hml, hown, hts⟩ (g_X4_refuse l D cI cL cZ cC _ h0 rd dr kp pl tx nu rf_a nc hi pd rf (-6) (by first | assumption | decide +kernel) (by first | assumption | decide +kernel)) (cwV 1 hts gX4_others_X4_refuse rfl rfl rfl (by decide +kernel) ⟨Nat.le_of_ble_eq_true rfl, Nat.le_of_ble_eq_true rfl⟩) ⟨wPc_bl, va_recv hK hPc (ci := 4) (q0 := 0) rfl rfl, wPc_use hPc hK hDc⟩ rfl rfl hl.1 rfl (lv_room (Nat.le_of_ble_eq_true rfl)) dX4_others_53 ⟨Nat.le_of_ble_eq_true rfl, Nat.le_of_ble_eq_true rfl⟩) hS (fun q _ h => hFc q h) hFc (fun r_17 u_17 t H1 locs ht hvm hw hB hz1 hk1 hS => ?_)
                  obtain ⟨hP1, hD1⟩ := hB
                  rw [ht] at hP1
                  obtain ⟨hP, hD⟩ := va_join (wr := []) (w1 := [(h0, .inr (4, [.ref rd, .ref dr, .ref kp, .ref pl, .ref tx, .ref nu, .ref rf_a, .int nc, .int hi, .int pd])), (rf_a, .inl (cI, 7, .inl (xRf rf (-6))))]) hP hD [0, 1] [] rfl rfl (by decide) (by decide) hk1 hFc hP1 hD1
                  generalize H1 = H at hP hS ⊢
                  have hP : va_P D vwCl [(h0, .inr (4, [.ref rd, .ref dr, .ref kp, .ref pl, .ref tx, .ref nu, .ref rf_a, .int nc, .int hi, .int pd])), (rf_a, .inl (cI, 7, .inl (xRf rf (-6))))] H := hP
                  have hD : va_D A [(h0, .inr (4, [.ref rd, .ref dr, .ref kp, .ref pl, .ref tx, .ref nu, .ref rf_a, .int nc, .int hi, .int pd])), (rf_a, .inl (cI, 7, .inl (xRf rf (-6))))] := hD
                  obtain rfl : ((-6) : Int32) = r_17 := Eq.symm hw
                  have hP9 := hP.sub (ws' := [(h0, .inr (4, [.ref rd, .ref dr, .ref kp, .ref pl, .ref tx, .ref nu, .ref rf_a, .int nc, .int hi, .int pd])), (rf_a, .inl (cI, 7, .inl (xRf rf (-6))))]) [0, 1] rfl
                  have hD9 := hD.sub (ws' := [(h0, .inr (4, [.ref rd, .ref dr, .ref kp, .ref pl, .ref tx, .ref nu, .ref rf_a, .int nc, .int hi, .int pd])), (rf_a, .inl (cI, 7, .inl (xRf rf (-6))))]) [0, 1] (by decide) rfl
                  have hE9 : ([(h0, .inr (4, [.ref rd, .ref dr, .ref kp, .ref pl, .ref tx, .ref nu, .ref rf_a, .int nc, .int hi, .int pd])), (rf_a, .inl (cI, 7, .inl (xRf rf (-6))))] : va_W) = [(h0, .inr (4, [.ref rd, .ref dr, .ref kp, .ref pl, .ref tx, .ref nu, .ref rf_a, .int nc, .int hi, .int pd])), (rf_a, .inl (cI, 7, .inl (xRq rf (qOt a1 a2 a3 a4))))] := by simp [xRq, qOt, c_1, c_3, c_5, (Int32.not_lt.mpr c_7), c_8, c_10, c_12, (Int32.not_le.mp c_14)]
                  exact W.iret (v := -6) hx hb hr (fun t ht hW => ⟨⟨_, (), rfl, by simp [qOt, c_1, c_3, c_5, (Int32.not_lt.mpr c_7), c_8, c_10, c_12, (Int32.not_le.mp c_14)], by rw [ht]; exact hE9 ▸ hP9, hE9 ▸ hD9⟩, hS.F ht⟩) hS.2.2 dX4_others_56
        · refine lv_aload_n hx hb dX4_others_18 rfl (lv_at hl 0 rfl) ?_
          refine lv_bipush (v := -4) hx hb dX4_others_19 (by decide) ?_
          have hPc := hP.sub (ws' := [(h0, .inr (4, [.ref rd, .ref dr, .ref kp, .ref pl, .ref tx, .ref nu, .ref rf_a, .int nc, .int hi, .int pd])), (rf_a, .inl (cI, 7, .inl rf))]) [0, 1] rfl
          have hDc := hD.sub (ws' := [(h0, .inr (4, [.ref rd, .ref dr, .ref kp, .ref pl, .ref tx, .ref nu, .ref rf_a, .int nc, .int hi, .int pd])), (rf_a, .inl (cI, 7, .inl rf))]) [0, 1] (by decide) rfl
          have hFc := va_free (wc := [(h0, .inr (4, [.ref rd, .ref dr, .ref kp, .ref pl, .ref tx, .ref nu, .ref rf_a, .int nc, .int hi, .int pd])), (rf_a, .inl (cI, 7, .inl rf))]) hD hS hA [0, 1] rfl
          refine va_calli (va_runV (As := [.int (-4)]) (rest := []) ⟨hx, hb, hml, hown, hts⟩ (g_X4_refuse l D cI cL cZ cC _ h0 rd dr kp pl tx nu rf_a nc hi pd rf (-4) (by first | assumption | decide +kernel) (by first | assumption | decide +kernel)) (cwV 1 hts gX4_others_X4_refuse rfl rfl rfl (by decide +kernel) ⟨Nat.le_of_ble_eq_true rfl, Nat.le_of_ble_eq_true rfl⟩) ⟨wPc_bl, va_recv hK hPc (ci := 4) (q0 := 0) rfl rfl, wPc_use hPc hK hDc⟩ rfl rfl hl.1 rfl (lv_room (Nat.le_of_ble_eq_true rfl)) dX4_others_21 ⟨Nat.le_of_ble_eq_true rfl, Nat.le_of_ble_eq_true rfl⟩) hS (fun q _ h => hFc q h) hFc (fun r_18 u_18 t H1 locs ht hvm hw hB hz1 hk1 hS => ?_)
          obtain ⟨hP1, hD1⟩ := hB
          rw [ht] at hP1
          obtain ⟨hP, hD⟩ := va_join (wr := []) (w1 := [(h0, .inr (4, [.ref rd, .ref dr, .ref kp, .ref pl, .ref tx, .ref nu, .ref rf_a, .int nc, .int hi, .int pd])), (rf_a, .inl (cI, 7, .inl (xRf rf (-4))))]) hP hD [0, 1] [] rfl rfl (by decide) (by decide) hk1 hFc hP1 hD1
          generalize H1 = H at hP hS ⊢
          have hP : va_P D vwCl [(h0, .inr (4, [.ref rd, .ref dr, .ref kp, .ref pl, .ref tx, .ref nu, .ref rf_a, .int nc, .int hi, .int pd])), (rf_a, .inl (cI, 7, .inl (xRf rf (-4))))] H := hP
          have hD : va_D A [(h0, .inr (4, [.ref rd, .ref dr, .ref kp, .ref pl, .ref tx, .ref nu, .ref rf_a, .int nc, .int hi, .int pd])), (rf_a, .inl (cI, 7, .inl (xRf rf (-4))))] := hD
          obtain rfl : ((-4) : Int32) = r_18 := Eq.symm hw
          have hP9 := hP.sub (ws' := [(h0, .inr (4, [.ref rd, .ref dr, .ref kp, .ref pl, .ref tx, .ref nu, .ref rf_a, .int nc, .int hi, .int pd])), (rf_a, .inl (cI, 7, .inl (xRf rf (-4))))]) [0, 1] rfl
          have hD9 := hD.sub (ws' := [(h0, .inr (4, [.ref rd, .ref dr, .ref kp, .ref pl, .ref tx, .ref nu, .ref rf_a, .int nc, .int hi, .int pd])), (rf_a, .inl (cI, 7, .inl (xRf rf (-4))))]) [0, 1] (by decide) rfl
          have hE9 : ([(h0, .inr (4, [.ref rd, .ref dr, .ref kp, .ref pl, .ref tx, .ref nu, .ref rf_a, .int nc, .int hi, .int pd])), (rf_a, .inl (cI, 7, .inl (xRf rf (-4))))] : va_W) = [(h0, .inr (4, [.ref rd, .ref dr, .ref kp, .ref pl, .ref tx, .ref nu, .ref rf_a, .int nc, .int hi, .int pd])), (rf_a, .inl (cI, 7, .inl (xRq rf (qOt a1 a2 a3 a4))))] := by simp [xRq, qOt, c_1, c_3, c_5, (Int32.not_le.mp c_7)]
          exact W.iret (v := -4) hx hb hr (fun t ht hW => ⟨⟨_, (), rfl, by simp [qOt, c_1, c_3, c_5, (Int32.not_le.mp c_7)], by rw [ht]; exact hE9 ▸ hP9, hE9 ▸ hD9⟩, hS.F ht⟩) hS.2.2 dX4_others_24

/-! lots drawn -/
def xMx1 (t : Int32) : Int32 := if 1 < t then t else 1
theorem xMx1_ne (t : Int32) : ¬ xMx1 t = 0 := by
  unfold xMx1
  split
  · rename_i h; intro w; rw [w] at h; exact absurd h (by decide)
  · decide
def xSd (s : Int32) : Nat → Int32
  | 0 => s
  | n + 1 => xSd s n * 1664525 + 1013904223
def xRd (s d : Int32) : Int32 := (s &&& 2147483647) / 256 - (s &&& 2147483647) / 256 / d * d
def qLo (ln : Nat) (a1 a2 a3 : Int32) : Int32 := if sNL ln a1 = 0 then (if sNK a2 = 0 then (if a3 < 1 then -4 else if 30 < a3 then -6 else 0) else -2) else -1
def vLo (st : Nat) (ho pa si li : Int32) (lg : Nat → Int32) (ki ru ne : Nat → Int32) (ch : Nat → Nat → Int32) (a1 a2 a3 a4 : Int32) : Int32 :=
  xSm (fun i => xGh st ho pa si li lg (ki a1.toNatClampNeg) (ru a1.toNatClampNeg) a2 5 (nI (xDr (ch a1.toNatClampNeg) (xRd (xSd a4 (i + 1)) (xMx1 (xSm (ch a1.toNatClampNeg) 12 + ne a1.toNatClampNeg)))))) a3.toNatClampNeg

set_option maxHeartbeats 4000000 in
set_option maxRecDepth 100000 in
theorem g_X4_lots (l : Launch) (D : va_G) (cI cL cZ cC : ClassId) (sz : Nat) (h0 : Nat) (rd : Nat) (dr : Nat) (kp : Nat) (pl : Nat) (tx : Nat) (nu : Nat) (rf_a : Nat) (nc : Int32) (hi : Int32) (pd : Int32) (r0 : Nat) (r1 : Nat) (st : Nat) (ln : Nat) (ho : Int32) (pa : Int32) (si : Int32) (li : Int32) (lg : Nat → Int32) (la : Nat → Nat) (lk : Nat → Nat) (ki : Nat → Int32) (ru : Nat → Int32) (ne : Nat → Int32) (ch : Nat → Nat → Int32) (rf : Nat → Int32) (a1 : Int32) (a2 : Int32) (a3 : Int32) (a4 : Int32) (hs1 : 1 ≤ st) (hs7 : st ≤ 7) (hln : ln ≤ 3) : Met l yX4_lots wsX4_lots ({ frames := 3, cells := 0, slots := 0, locals := 75 } : Room) (wPc D [.ref h0, .int a1, .int a2, .int a3, .int a4] [(h0, .inr (4, [.ref rd, .ref dr, .ref kp, .ref pl, .ref tx, .ref nu, .ref rf_a, .int nc, .int hi, .int pd])), (rd, .inr (2, [.int (nI st), .int ho, .int pa, .int si, .int li, .int (nI ln), .ref r0, .ref r1])), (r0, .inl (cI, 7, .inl lg)), (r1, .inl (cL, 3, .inr (.inr (.inr (.inr (xL3 (la 0) (la 1) (la 2))))))), (la 0, .inr (0, [.int (ki 0), .int (ru 0), .int (ne 0), .ref (lk 0)])), (lk 0, .inl (cI, 12, .inl (ch 0))), (la 1, .inr (0, [.int (ki 1), .int (ru 1), .int (ne 1), .ref (lk 1)])), (lk 1, .inl (cI, 12, .inl (ch 1))), (la 2, .inr (0, [.int (ki 2), .int (ru 2), .int (ne 2), .ref (lk 2)])), (lk 2, .inl (cI, 12, .inl (ch 2))), (rf_a, .inl (cI, 7, .inl rf))] (xTy cI cL cZ cC) sz) (va_Qi (fun (r : Int32) (_ : Unit) => r = if qLo ln a1 a2 a3 = 0 then vLo st ho pa si li lg ki ru ne ch a1 a2 a3 a4 else qLo ln a1 a2 a3) (fun (_ : Unit) t => va_P D vwCl [(h0, .inr (4, [.ref rd, .ref dr, .ref kp, .ref pl, .ref tx, .ref nu, .ref rf_a, .int nc, .int hi, .int pd])), (rd, .inr (2, [.int (nI st), .int ho, .int pa, .int si, .int li, .int (nI ln), .ref r0, .ref r1])), (r0, .inl (cI, 7, .inl lg)), (r1, .inl (cL, 3, .inr (.inr (.inr (.inr (xL3 (la 0) (la 1) (la 2))))))), (la 0, .inr (0, [.int (ki 0), .int (ru 0), .int (ne 0), .ref (lk 0)])), (lk 0, .inl (cI, 12, .inl (ch 0))), (la 1, .inr (0, [.int (ki 1), .int (ru 1), .int (ne 1), .ref (lk 1)])), (lk 1, .inl (cI, 12, .inl (ch 1))), (la 2, .inr (0, [.int (ki 2), .int (ru 2), .int (ne 2), .ref (lk 2)])), (lk 2, .inl (cI, 12, .inl (ch 2))), (rf_a, .inl (cI, 7, .inl (xRq rf (qLo ln a1 a2 a3))))] t.heap ∧ va_D (va_A [(h0, .inr (4, [.ref rd, .ref dr, .ref kp, .ref pl, .ref tx, .ref nu, .ref rf_a, .int nc, .int hi, .int pd])), (rd, .inr (2, [.int (nI st), .int ho, .int pa, .int si, .int li, .int (nI ln), .ref r0, .ref r1])), (r0, .inl (cI, 7, .inl lg)), (r1, .inl (cL, 3, .inr (.inr (.inr (.inr (xL3 (la 0) (la 1) (la 2))))))), (la 0, .inr (0, [.int (ki 0), .int (ru 0), .int (ne 0), .ref (lk 0)])), (lk 0, .inl (cI, 12, .inl (ch 0))), (la 1, .inr (0, [.int (ki 1), .int (ru 1), .int (ne 1), .ref (lk 1)])), (lk 1, .inl (cI, 12, .inl (ch 1))), (la 2, .inr (0, [.int (ki 2), .int (ru 2), .int (ne 2), .ref (lk 2)])), (lk 2, .inl (cI, 12, .inl (ch 2))), (rf_a, .inl (cI, 7, .inl rf))] sz) [(h0, .inr (4, [.ref rd, .ref dr, .ref kp, .ref pl, .ref tx, .ref nu, .ref rf_a, .int nc, .int hi, .int pd])), (rd, .inr (2, [.int (nI st), .int ho, .int pa, .int si, .int li, .int (nI ln), .ref r0, .ref r1])), (r0, .inl (cI, 7, .inl lg)), (r1, .inl (cL, 3, .inr (.inr (.inr (.inr (xL3 (la 0) (la 1) (la 2))))))), (la 0, .inr (0, [.int (ki 0), .int (ru 0), .int (ne 0), .ref (lk 0)])), (lk 0, .inl (cI, 12, .inl (ch 0))), (la 1, .inr (0, [.int (ki 1), .int (ru 1), .int (ne 1), .ref (lk 1)])), (lk 1, .inl (cI, 12, .inl (ch 1))), (la 2, .inr (0, [.int (ki 2), .int (ru 2), .int (ne 2), .ref (lk 2)])), (lk 2, .inl (cI, 12, .inl (ch 2))), (rf_a, .inl (cI, 7, .inl (xRq rf (qLo ln a1 a2 a3))))]) (va_A [(h0, .inr (4, [.ref rd, .ref dr, .ref kp, .ref pl, .ref tx, .ref nu, .ref rf_a, .int nc, .int hi, .int pd])), (rd, .inr (2, [.int (nI st), .int ho, .int pa, .int si, .int li, .int (nI ln), .ref r0, .ref r1])), (r0, .inl (cI, 7, .inl lg)), (r1, .inl (cL, 3, .inr (.inr (.inr (.inr (xL3 (la 0) (la 1) (la 2))))))), (la 0, .inr (0, [.int (ki 0), .int (ru 0), .int (ne 0), .ref (lk 0)])), (lk 0, .inl (cI, 12, .inl (ch 0))), (la 1, .inr (0, [.int (ki 1), .int (ru 1), .int (ne 1), .ref (lk 1)])), (lk 1, .inl (cI, 12, .inl (ch 1))), (la 2, .inr (0, [.int (ki 2), .int (ru 2), .int (ne 2), .ref (lk 2)])), (lk 2, .inl (cI, 12, .inl (ch 2))), (rf_a, .inl (cI, 7, .inl rf))] sz)) 0 0 (va_A [(h0, .inr (4, [.ref rd, .ref dr, .ref kp, .ref pl, .ref tx, .ref nu, .ref rf_a, .int nc, .int hi, .int pd])), (rd, .inr (2, [.int (nI st), .int ho, .int pa, .int si, .int li, .int (nI ln), .ref r0, .ref r1])), (r0, .inl (cI, 7, .inl lg)), (r1, .inl (cL, 3, .inr (.inr (.inr (.inr (xL3 (la 0) (la 1) (la 2))))))), (la 0, .inr (0, [.int (ki 0), .int (ru 0), .int (ne 0), .ref (lk 0)])), (lk 0, .inl (cI, 12, .inl (ch 0))), (la 1, .inr (0, [.int (ki 1), .int (ru 1), .int (ne 1), .ref (lk 1)])), (lk 1, .inl (cI, 12, .inl (ch 1))), (la 2, .inr (0, [.int (ki 2), .int (ru 2), .int (ne 2), .ref (lk 2)])), (lk 2, .inl (cI, 12, .inl (ch 2))), (rf_a, .inl (cI, 7, .inl rf))] sz) := by
  refine Met.ofW (cc := cX4_lots) (maxL := 11) (ret := (some .int)) (by decide) rfl ?_
  intro p e s m args below meth c s₁ B hml hv
  obtain ⟨rfl, hsz, hP, hK, hD0⟩ := hv
  have hx := B.exec
  have hb := B.bytes
  have hr := B.returns
  have hts := atoms_spec (ws := wsX4_lots) B.pre
  have hown : s.vm.findClass RX4 = some m.cls := findClass_of_methodNamed B.named
  have hlocks := B.notSynchronized
  have hwX2 : ∀ w ∈ u_ws RX2 TX2 8, w ∈ wsX4_lots := fun _ h => List.mem_cons_of_mem _ (List.mem_append_left _ (List.mem_append_right _ h))
  have hwX4 : ∀ w ∈ u_ws RX4 TX4 10, w ∈ wsX4_lots := fun _ h => List.mem_cons_of_mem _ (List.mem_append_left _ (List.mem_append_left _ (List.mem_append_right _ h)))
  subst hsz
  have hD := hD0.self (sz := s.heap.size)
  generalize hAe : va_A [(h0, .inr (4, [.ref rd, .ref dr, .ref kp, .ref pl, .ref tx, .ref nu, .ref rf_a, .int nc, .int hi, .int pd])), (rd, .inr (2, [.int (nI st), .int ho, .int pa, .int si, .int li, .int (nI ln), .ref r0, .ref r1])), (r0, .inl (cI, 7, .inl lg)), (r1, .inl (cL, 3, .inr (.inr (.inr (.inr (xL3 (la 0) (la 1) (la 2))))))), (la 0, .inr (0, [.int (ki 0), .int (ru 0), .int (ne 0), .ref (lk 0)])), (lk 0, .inl (cI, 12, .inl (ch 0))), (la 1, .inr (0, [.int (ki 1), .int (ru 1), .int (ne 1), .ref (lk 1)])), (lk 1, .inl (cI, 12, .inl (ch 1))), (la 2, .inr (0, [.int (ki 2), .int (ru 2), .int (ne 2), .ref (lk 2)])), (lk 2, .inl (cI, 12, .inl (ch 2))), (rf_a, .inl (cI, 7, .inl rf))] s.heap.size = A at hD ⊢
  have hA : ∀ q : Nat, s.heap.size ≤ q → A q := fun q h => by rw [← hAe]; exact Or.inr h
  have hS : va_S A s.heap s.heap [] := va_S.rf
  have hP : va_P D vwCl [(h0, .inr (4, [.ref rd, .ref dr, .ref kp, .ref pl, .ref tx, .ref nu, .ref rf_a, .int nc, .int hi, .int pd])), (rd, .inr (2, [.int (nI st), .int ho, .int pa, .int si, .int li, .int (nI ln), .ref r0, .ref r1])), (r0, .inl (cI, 7, .inl lg)), (r1, .inl (cL, 3, .inr (.inr (.inr (.inr (xL3 (la 0) (la 1) (la 2))))))), (la 0, .inr (0, [.int (ki 0), .int (ru 0), .int (ne 0), .ref (lk 0)])), (lk 0, .inl (cI, 12, .inl (ch 0))), (la 1, .inr (0, [.int (ki 1), .int (ru 1), .int (ne 1), .ref (lk 1)])), (lk 1, .inl (cI, 12, .inl (ch 1))), (la 2, .inr (0, [.int (ki 2), .int (ru 2), .int (ne 2), .ref (lk 2)])), (lk 2, .inl (cI, 12, .inl (ch 2))), (rf_a, .inl (cI, 7, .inl rf))] s.heap := hP
  have hl := lv_entry ([.ref h0, .int a1, .int a2, .int a3, .int a4]) (n := 11) (Nat.le_of_ble_eq_true rfl)
  rw [lg_entry_eq]
  generalize (lg_sl ([.ref h0, .int a1, .int a2, .int a3, .int a4]) ++ List.replicate (11 - (lg_sl ([.ref h0, .int a1, .int a2, .int a3, .int a4])).length) Slot.unset).toArray = ls at hl ⊢
  have hl : lv_has ls 11 [(0, .ref h0), (1, .int a1), (2, .int a2), (3, .int a3), (4, .int a4)] := hl
  refine lv_aload_n hx hb dX4_lots_0 rfl (lv_at hl 0 rfl) ?_
  refine lv_iload_n hx hb dX4_lots_1 rfl (lv_at hl 1 rfl) ?_
  have hPc := hP.sub (ws' := [(h0, .inr (4, [.ref rd, .ref dr, .ref kp, .ref pl, .ref tx, .ref nu, .ref rf_a, .int nc, .int hi, .int pd])), (rd, .inr (2, [.int (nI st), .int ho, .int pa, .int si, .int li, .int (nI ln), .ref r0, .ref r1]))]) [0, 1] rfl
  refine vp_callSi (va_Run.run (va_runV (As := [.int a1]) (rest := []) ⟨hx, hb, hml, hown, hts⟩ (g_X4_noLine l D cI cL cZ cC h0 rd dr kp pl tx nu rf_a nc hi pd r0 r1 st ln ho pa si li a1 ) (cwV 1 hts gX4_lots_X4_noLine rfl rfl rfl (by decide +kernel) ⟨Nat.le_of_ble_eq_true rfl, Nat.le_of_ble_eq_true rfl⟩) ⟨xPc_bl, va_recv hK hPc (ci := 4) (q0 := 0) rfl rfl, xPc_use hPc hK⟩ rfl rfl hl.1 rfl (lv_room (Nat.le_of_ble_eq_true rfl)) dX4_lots_2 ⟨Nat.le_of_ble_eq_true rfl, Nat.le_of_ble_eq_true rfl⟩)) (fun r_1 er_1 => ?_)
  obtain rfl : (sNL ln a1 : Int32) = r_1 := Eq.symm er_1
  refine lv_if_eq (tgt := 14) hx hb dX4_lots_5 (by decide) (fun c_2 => ?_) (fun c_2 => ?_)
  · refine lv_iload_n hx hb dX4_lots_14 rfl (lv_at hl 2 rfl) ?_
    have hPc := hP.sub (ws' := []) [] rfl
    refine vp_callSi (va_Run.run (va_runS (As := [.int a2]) (rest := []) ⟨hx, hb, hml, hown, hts⟩ (g_X4_noKind l D cI cL cZ cC a2 ) (va_cwS 1 hts gX4_lots_X4_noKind rfl rfl rfl (by decide +kernel) ⟨Nat.le_of_ble_eq_true rfl, Nat.le_of_ble_eq_true rfl⟩) ⟨xPc_bl, xPc_use hPc hK⟩ rfl rfl hl.1 rfl (lv_room (Nat.le_of_ble_eq_true rfl)) dX4_lots_15 ⟨Nat.le_of_ble_eq_true rfl, Nat.le_of_ble_eq_true rfl⟩)) (fun r_3 er_3 => ?_)
    obtain rfl : (sNK a2 : Int32) = r_3 := Eq.symm er_3
    refine lv_if_eq (tgt := 28) hx hb dX4_lots_18 (by decide) (fun c_4 => ?_) (fun c_4 => ?_)
    · refine lv_iload_n hx hb dX4_lots_28 rfl (lv_at hl 3 rfl) ?_
      refine lv_iconst (v := 1) hx hb dX4_lots_29 (by decide) ?_
      refine lv_icmp_ge (tgt := 40) hx hb dX4_lots_30 (by decide) (fun c_5 => ?_) (fun c_5 => ?_)
      · refine lv_iload_n hx hb dX4_lots_40 rfl (lv_at hl 3 rfl) ?_
        refine lv_bipush (v := 30) hx hb dX4_lots_41 (by decide) ?_
        refine lv_icmp_le (tgt := 53) hx hb dX4_lots_43 (by decide) (fun c_6 => ?_) (fun c_6 => ?_)
        · have e5 : qLo ln a1 a2 a3 = 0 := by simp [qLo, c_2, c_4, (Int32.not_lt.mpr c_5), (Int32.not_lt.mpr c_6)]
          obtain ⟨j0, rfl, hj0⟩ := sNL_ok (by omega) (not_not_intro c_2)
          have ha0 : j0 ≤ 2 := by omega
          have hPa : va_P D vwCl [(la j0, .inr (0, [.int (ki j0), .int (ru j0), .int (ne j0), .ref (lk j0)])), (lk j0, .inl (cI, 12, .inl (ch j0)))] s.heap := by rcases (show j0 = 0 ∨ j0 = 1 ∨ j0 = 2 by omega) with rfl | rfl | rfl; exact hP.sub [4, 5] rfl; exact hP.sub [6, 7] rfl; exact hP.sub [8, 9] rfl
          obtain ⟨n3, rfl, hn3⟩ := xInN1 (n := 30) (by decide) (Int32.not_lt.mpr c_5) (Int32.not_lt.mpr c_6)
          obtain ⟨Hm, hF⟩ : ∃ Hm : Int32 → Int32, ∀ t9 : Int32, xGh st ho pa si li lg (ki j0) (ru j0) a2 5 t9 = Hm t9 := ⟨_, fun _ => rfl⟩
          refine lv_aload_n hx hb dX4_lots_53 rfl (lv_at hl 0 rfl) ?_
          refine va_get (D := D) (ci := 4) (v := .ref rd) (C := RX4) (T := TX4) (N := 10) hx hb hts hwX4 hown hK hP 0 rfl rfl 0 (by decide) (hts (.fieldLink RX4 10 "WaitOrWalkOn" "road" "LWaitOrWalkOn$Road;") (by decide +kernel)) (fun _ h9 => h9) rfl dX4_lots_54 ?_
          refine va_get (D := D) (ci := 2) (v := .ref r1) (C := RX2) (T := TX2) (N := 8) hx hb hts hwX2 hown hK hP 1 rfl rfl 7 (by decide) (hts (.fieldLink RX4 79 "WaitOrWalkOn$Road" "lines" "[LWaitOrWalkOn$Line;") (by decide +kernel)) (fun _ h9 => h9) rfl dX4_lots_57 ?_
          refine lv_iload_n hx hb dX4_lots_60 rfl (lv_at hl 1 rfl) ?_
          refine va_aldq (D := D) hx hb hK hP 3 1 rfl rfl (vp_in_nI (by omega) (by decide)) dX4_lots_61 ?_
          refine xv_ref (y := la j0) (xL3_at (by omega)) ?_
          refine lv_astore (lv' := [(5, .ref (la j0)), (0, .ref h0), (1, .int (nI j0)), (2, .int a2), (3, .int (nI n3)), (4, .int a4)]) hx hb dX4_lots_62 hl (by decide) rfl (fun ls hl => ?_)
          refine lv_iconst (v := 1) hx hb dX4_lots_64 (by decide) ?_
          refine lv_aload hx hb dX4_lots_65 (lv_at hl 0 rfl) ?_
          have hPc := hPa.sub (ws' := [((la j0), .inr (0, [.int (ki j0), .int (ru j0), .int (ne j0), .ref (lk j0)])), ((lk j0), .inl (cI, 12, .inl (ch j0)))]) [0, 1] rfl
          refine vp_callSi (va_Run.run (va_runV (As := []) (rest := [.int 1]) ⟨hx, hb, hml, hown, hts⟩ (g_X0_total l D cI cL cZ cC (la j0) (lk j0) (ki j0) (ru j0) (ne j0) (ch j0) ) (cwV 0 hts gX4_lots_X0_total rfl rfl rfl (by decide +kernel) ⟨Nat.le_of_ble_eq_true rfl, Nat.le_of_ble_eq_true rfl⟩) ⟨xPc_bl, va_recv hK hPc (ci := 0) (q0 := 0) rfl rfl, xPc_use hPc hK⟩ rfl rfl hl.1 rfl (lv_room (Nat.le_of_ble_eq_true rfl)) dX4_lots_67 ⟨Nat.le_of_ble_eq_true rfl, Nat.le_of_ble_eq_true rfl⟩)) (fun r_7 er_7 => ?_)
          obtain rfl : (xSm (ch j0) 12 + (ne j0) : Int32) = r_7 := Eq.symm er_7
          refine va_mmax hx hb (hml.trans hl.1.symm) hown (hts (.methodLink RX4 209 Lib.Math.max.name) (by decide +kernel)) (hts (.static Lib.Math.max.name) (by decide +kernel)) (hts (.initialized "java/lang/Math") (by decide +kernel)) (hts (.code Lib.Math.max.name Lib.Math.max.code 2 (some .int)) (by decide +kernel)) (Nat.le_of_ble_eq_true rfl) (Nat.le_of_ble_eq_true rfl) (Nat.le_of_ble_eq_true rfl) (Nat.le_of_ble_eq_true rfl) dX4_lots_70 ?_
          refine xv_int (y := (xMx1 (xSm (ch j0) 12 + ne j0))) (rfl) ?_
          refine lv_istore (lv' := [(6, .int (xMx1 (xSm (ch j0) 12 + ne j0))), (5, .ref (la j0)), (0, .ref h0), (1, .int (nI j0)), (2, .int a2), (3, .int (nI n3)), (4, .int a4)]) hx hb dX4_lots_73 hl (by decide) rfl (fun ls hl => ?_)
          refine lv_iload hx hb dX4_lots_75 (lv_at hl 6 rfl) ?_
          refine lv_istore (lv' := [(7, .int a4), (6, .int (xMx1 (xSm (ch j0) 12 + ne j0))), (5, .ref (la j0)), (0, .ref h0), (1, .int (nI j0)), (2, .int a2), (3, .int (nI n3)), (4, .int a4)]) hx hb dX4_lots_77 hl (by decide) rfl (fun ls hl => ?_)
          refine lv_iconst (v := 0) hx hb dX4_lots_79 (by decide) ?_
          refine lv_istore (lv' := [(8, .int 0), (7, .int a4), (6, .int (xMx1 (xSm (ch j0) 12 + ne j0))), (5, .ref (la j0)), (0, .ref h0), (1, .int (nI j0)), (2, .int a2), (3, .int (nI n3)), (4, .int a4)]) hx hb dX4_lots_80 hl (by decide) rfl (fun ls hl => ?_)
          refine lv_iconst (v := 0) hx hb dX4_lots_82 (by decide) ?_
          refine lv_istore (lv' := [(9, .int 0), (8, .int 0), (7, .int a4), (6, .int (xMx1 (xSm (ch j0) 12 + ne j0))), (5, .ref (la j0)), (0, .ref h0), (1, .int (nI j0)), (2, .int a2), (3, .int (nI n3)), (4, .int a4)]) hx hb dX4_lots_83 hl (by decide) rfl (fun ls hl => ?_)
          refine xl_loopH (σ := Nat) (fun n q H locs ls => lv_has ls 11 [(9, .int (nI q)), (8, .int (xSm (fun i => Hm (nI (xDr (ch j0) (xRd (xSd a4 (i + 1)) (xMx1 (xSm (ch j0) 12 + ne j0)))))) q)), (7, .int (xSd a4 q)), (6, .int (xMx1 (xSm (ch j0) 12 + ne j0))), (5, .ref (la j0)), (0, .ref h0), (1, .int (nI j0)), (2, .int a2), (3, .int (nI n3)), (4, .int a4)] ∧ va_P D vwCl [(h0, .inr (4, [.ref rd, .ref dr, .ref kp, .ref pl, .ref tx, .ref nu, .ref rf_a, .int nc, .int hi, .int pd])), (rd, .inr (2, [.int (nI st), .int ho, .int pa, .int si, .int li, .int (nI ln), .ref r0, .ref r1])), (r0, .inl (cI, 7, .inl lg)), (r1, .inl (cL, 3, .inr (.inr (.inr (.inr (xL3 (la 0) (la 1) (la 2))))))), (la 0, .inr (0, [.int (ki 0), .int (ru 0), .int (ne 0), .ref (lk 0)])), (lk 0, .inl (cI, 12, .inl (ch 0))), (la 1, .inr (0, [.int (ki 1), .int (ru 1), .int (ne 1), .ref (lk 1)])), (lk 1, .inl (cI, 12, .inl (ch 1))), (la 2, .inr (0, [.int (ki 2), .int (ru 2), .int (ne 2), .ref (lk 2)])), (lk 2, .inl (cI, 12, .inl (ch 2))), (rf_a, .inl (cI, 7, .inl rf))] H ∧ va_D A [(h0, .inr (4, [.ref rd, .ref dr, .ref kp, .ref pl, .ref tx, .ref nu, .ref rf_a, .int nc, .int hi, .int pd])), (rd, .inr (2, [.int (nI st), .int ho, .int pa, .int si, .int li, .int (nI ln), .ref r0, .ref r1])), (r0, .inl (cI, 7, .inl lg)), (r1, .inl (cL, 3, .inr (.inr (.inr (.inr (xL3 (la 0) (la 1) (la 2))))))), (la 0, .inr (0, [.int (ki 0), .int (ru 0), .int (ne 0), .ref (lk 0)])), (lk 0, .inl (cI, 12, .inl (ch 0))), (la 1, .inr (0, [.int (ki 1), .int (ru 1), .int (ne 1), .ref (lk 1)])), (lk 1, .inl (cI, 12, .inl (ch 1))), (la 2, .inr (0, [.int (ki 2), .int (ru 2), .int (ne 2), .ref (lk 2)])), (lk 2, .inl (cI, 12, .inl (ch 2))), (rf_a, .inl (cI, 7, .inl rf))] ∧ va_S A s.heap H locs ∧ (n3 - q < n) ∧ (q ≤ n3)) (n3 + 1) (0) ⟨lv_sub hl [0, 1, 2, 3, 4, 5, 6, 7, 8, 9] rfl, hP.sub [0, 1, 2, 3, 4, 5, 6, 7, 8, 9, 10] rfl, hD.sub [0, 1, 2, 3, 4, 5, 6, 7, 8, 9, 10] (by decide) rfl, hS, by (try dsimp only); exact ⟨by omega, by omega⟩⟩ (fun q H lc ls h => absurd h.2.2.2.2.1 (Nat.not_lt_zero _)) ?_
          intro n_85 q_85 H locs ls ih_85 hI_85
          obtain ⟨hl, hP, hD, hS, hI_85⟩ := hI_85
          obtain ⟨k, e_85⟩ : ∃ z, z = q_85 := ⟨_, rfl⟩
          subst e_85
          obtain ⟨h1, h2⟩ := hI_85
          try dsimp only at hl hP hD h1 h2
          refine lv_iload hx hb dX4_lots_85 (lv_at hl 0 rfl) ?_
          refine lv_iload_n hx hb dX4_lots_87 rfl (lv_at hl 8 rfl) ?_
          refine lv_icmp_ge (tgt := 141) hx hb dX4_lots_88 (by decide) (fun c_8 => ?_) (fun c_8 => ?_)
          · refine lv_iload hx hb dX4_lots_141 (lv_at hl 1 rfl) ?_
            have hP9 := hP.sub (ws' := [(h0, .inr (4, [.ref rd, .ref dr, .ref kp, .ref pl, .ref tx, .ref nu, .ref rf_a, .int nc, .int hi, .int pd])), (rd, .inr (2, [.int (nI st), .int ho, .int pa, .int si, .int li, .int (nI ln), .ref r0, .ref r1])), (r0, .inl (cI, 7, .inl lg)), (r1, .inl (cL, 3, .inr (.inr (.inr (.inr (xL3 (la 0) (la 1) (la 2))))))), (la 0, .inr (0, [.int (ki 0), .int (ru 0), .int (ne 0), .ref (lk 0)])), (lk 0, .inl (cI, 12, .inl (ch 0))), (la 1, .inr (0, [.int (ki 1), .int (ru 1), .int (ne 1), .ref (lk 1)])), (lk 1, .inl (cI, 12, .inl (ch 1))), (la 2, .inr (0, [.int (ki 2), .int (ru 2), .int (ne 2), .ref (lk 2)])), (lk 2, .inl (cI, 12, .inl (ch 2))), (rf_a, .inl (cI, 7, .inl rf))]) [0, 1, 2, 3, 4, 5, 6, 7, 8, 9, 10] rfl
            have hD9 := hD.sub (ws' := [(h0, .inr (4, [.ref rd, .ref dr, .ref kp, .ref pl, .ref tx, .ref nu, .ref rf_a, .int nc, .int hi, .int pd])), (rd, .inr (2, [.int (nI st), .int ho, .int pa, .int si, .int li, .int (nI ln), .ref r0, .ref r1])), (r0, .inl (cI, 7, .inl lg)), (r1, .inl (cL, 3, .inr (.inr (.inr (.inr (xL3 (la 0) (la 1) (la 2))))))), (la 0, .inr (0, [.int (ki 0), .int (ru 0), .int (ne 0), .ref (lk 0)])), (lk 0, .inl (cI, 12, .inl (ch 0))), (la 1, .inr (0, [.int (ki 1), .int (ru 1), .int (ne 1), .ref (lk 1)])), (lk 1, .inl (cI, 12, .inl (ch 1))), (la 2, .inr (0, [.int (ki 2), .int (ru 2), .int (ne 2), .ref (lk 2)])), (lk 2, .inl (cI, 12, .inl (ch 2))), (rf_a, .inl (cI, 7, .inl rf))]) [0, 1, 2, 3, 4, 5, 6, 7, 8, 9, 10] (by decide) rfl
            have hE9 : ([(h0, .inr (4, [.ref rd, .ref dr, .ref kp, .ref pl, .ref tx, .ref nu, .ref rf_a, .int nc, .int hi, .int pd])), (rd, .inr (2, [.int (nI st), .int ho, .int pa, .int si, .int li, .int (nI ln), .ref r0, .ref r1])), (r0, .inl (cI, 7, .inl lg)), (r1, .inl (cL, 3, .inr (.inr (.inr (.inr (xL3 (la 0) (la 1) (la 2))))))), (la 0, .inr (0, [.int (ki 0), .int (ru 0), .int (ne 0), .ref (lk 0)])), (lk 0, .inl (cI, 12, .inl (ch 0))), (la 1, .inr (0, [.int (ki 1), .int (ru 1), .int (ne 1), .ref (lk 1)])), (lk 1, .inl (cI, 12, .inl (ch 1))), (la 2, .inr (0, [.int (ki 2), .int (ru 2), .int (ne 2), .ref (lk 2)])), (lk 2, .inl (cI, 12, .inl (ch 2))), (rf_a, .inl (cI, 7, .inl rf))] : va_W) = [(h0, .inr (4, [.ref rd, .ref dr, .ref kp, .ref pl, .ref tx, .ref nu, .ref rf_a, .int nc, .int hi, .int pd])), (rd, .inr (2, [.int (nI st), .int ho, .int pa, .int si, .int li, .int (nI ln), .ref r0, .ref r1])), (r0, .inl (cI, 7, .inl lg)), (r1, .inl (cL, 3, .inr (.inr (.inr (.inr (xL3 (la 0) (la 1) (la 2))))))), (la 0, .inr (0, [.int (ki 0), .int (ru 0), .int (ne 0), .ref (lk 0)])), (lk 0, .inl (cI, 12, .inl (ch 0))), (la 1, .inr (0, [.int (ki 1), .int (ru 1), .int (ne 1), .ref (lk 1)])), (lk 1, .inl (cI, 12, .inl (ch 1))), (la 2, .inr (0, [.int (ki 2), .int (ru 2), .int (ne 2), .ref (lk 2)])), (lk 2, .inl (cI, 12, .inl (ch 2))), (rf_a, .inl (cI, 7, .inl (xRq rf (qLo ln (nI j0) a2 (nI n3)))))] := by simp [xRq, qLo, vLo, c_2, c_4, (Int32.not_lt.mpr c_5), (Int32.not_lt.mpr c_6), (Int32.not_lt.mpr c_8)]
            exact W.iret (v := xSm (fun i => Hm (nI (xDr (ch j0) (xRd (xSd a4 (i + 1)) (xMx1 (xSm (ch j0) 12 + ne j0)))))) k) hx hb hr (fun t ht hW => ⟨⟨_, (), rfl, (by have w := mt (nI_ltI (a := k) (b := n3) (by omega) (by omega)).mpr (Int32.not_lt.mpr c_8); obtain rfl : k = n3 := (by omega); simp [e5, vLo, nI_clamp (show j0 < 2 ^ 31 by omega), nI_clamp (show k < 2 ^ 31 by omega), hF]), by rw [ht]; exact hE9 ▸ hP9, hE9 ▸ hD9⟩, hS.F ht⟩) hS.2.2 dX4_lots_143
          · have hPa : va_P D vwCl [(la j0, .inr (0, [.int (ki j0), .int (ru j0), .int (ne j0), .ref (lk j0)])), (lk j0, .inl (cI, 12, .inl (ch j0)))] H := by rcases (show j0 = 0 ∨ j0 = 1 ∨ j0 = 2 by omega) with rfl | rfl | rfl; exact hP.sub [4, 5] rfl; exact hP.sub [6, 7] rfl; exact hP.sub [8, 9] rfl
            refine lv_iload hx hb dX4_lots_91 (lv_at hl 2 rfl) ?_
            refine lv_ldc hx hb hown (hts (.constant RX4 212 (1664525)) (by decide +kernel)) dX4_lots_93 ?_
            refine lv_imul hx hb dX4_lots_95 ?_
            refine lv_ldc hx hb hown (hts (.constant RX4 213 (1013904223)) (by decide +kernel)) dX4_lots_96 ?_
            refine lv_iadd hx hb dX4_lots_98 ?_
            refine xv_int (y := xSd a4 (k + 1)) (rfl) ?_
            refine lv_istore (lv' := [(7, .int (xSd a4 (k + 1))), (9, .int (nI k)), (8, .int (xSm (fun i => Hm (nI (xDr (ch j0) (xRd (xSd a4 (i + 1)) (xMx1 (xSm (ch j0) 12 + ne j0)))))) k)), (6, .int (xMx1 (xSm (ch j0) 12 + ne j0))), (5, .ref (la j0)), (0, .ref h0), (1, .int (nI j0)), (2, .int a2), (3, .int (nI n3)), (4, .int a4)]) hx hb dX4_lots_99 hl (by decide) rfl (fun ls hl => ?_)
            refine lv_iload hx hb dX4_lots_101 (lv_at hl 0 rfl) ?_
            refine lv_ldc hx hb hown (hts (.constant RX4 214 (2147483647)) (by decide +kernel)) dX4_lots_103 ?_
            refine lv_iand hx hb dX4_lots_105 ?_
            refine lv_sipush (v := 256) hx hb dX4_lots_106 (by decide) ?_
            refine lv_idiv hx hb dX4_lots_109 ((by decide)) ?_
            refine lv_iload hx hb dX4_lots_110 (lv_at hl 3 rfl) ?_
            refine lv_irem hx hb dX4_lots_112 (xMx1_ne _) ?_
            refine xv_int (y := xRd (xSd a4 (k + 1)) (xMx1 (xSm (ch j0) 12 + ne j0))) (rfl) ?_
            refine lv_istore (lv' := [(10, .int (xRd (xSd a4 (k + 1)) (xMx1 (xSm (ch j0) 12 + ne j0)))), (7, .int (xSd a4 (k + 1))), (9, .int (nI k)), (8, .int (xSm (fun i => Hm (nI (xDr (ch j0) (xRd (xSd a4 (i + 1)) (xMx1 (xSm (ch j0) 12 + ne j0)))))) k)), (6, .int (xMx1 (xSm (ch j0) 12 + ne j0))), (5, .ref (la j0)), (0, .ref h0), (1, .int (nI j0)), (2, .int a2), (3, .int (nI n3)), (4, .int a4)]) hx hb dX4_lots_113 hl (by decide) rfl (fun ls hl => ?_)
            refine lv_iload hx hb dX4_lots_115 (lv_at hl 3 rfl) ?_
            refine lv_aload_n hx hb dX4_lots_117 rfl (lv_at hl 6 rfl) ?_
            refine lv_aload hx hb dX4_lots_118 (lv_at hl 5 rfl) ?_
            refine lv_iload_n hx hb dX4_lots_120 rfl (lv_at hl 8 rfl) ?_
            refine lv_iconst (v := 5) hx hb dX4_lots_121 (by decide) ?_
            refine lv_aload hx hb dX4_lots_122 (lv_at hl 5 rfl) ?_
            refine lv_iload hx hb dX4_lots_124 (lv_at hl 0 rfl) ?_
            have hPc := hPa.sub (ws' := [((la j0), .inr (0, [.int (ki j0), .int (ru j0), .int (ne j0), .ref (lk j0)])), ((lk j0), .inl (cI, 12, .inl (ch j0)))]) [0, 1] rfl
            refine vp_callSi (va_Run.run (va_runV (As := [.int (xRd (xSd a4 (k + 1)) (xMx1 (xSm (ch j0) 12 + ne j0)))]) (rest := [.int 5, .int a2, .ref (la j0), .ref h0, .int (xSm (fun i => Hm (nI (xDr (ch j0) (xRd (xSd a4 (i + 1)) (xMx1 (xSm (ch j0) 12 + ne j0)))))) k)]) ⟨hx, hb, hml, hown, hts⟩ (g_X0_drawn l D cI cL cZ cC (la j0) (lk j0) (ki j0) (ru j0) (ne j0) (ch j0) (xRd (xSd a4 (k + 1)) (xMx1 (xSm (ch j0) 12 + ne j0))) ) (cwV 1 hts gX4_lots_X0_drawn rfl rfl rfl (by decide +kernel) ⟨Nat.le_of_ble_eq_true rfl, Nat.le_of_ble_eq_true rfl⟩) ⟨xPc_bl, va_recv hK hPc (ci := 0) (q0 := 0) rfl rfl, xPc_use hPc hK⟩ rfl rfl hl.1 rfl (lv_room (Nat.le_of_ble_eq_true rfl)) dX4_lots_126 ⟨Nat.le_of_ble_eq_true rfl, Nat.le_of_ble_eq_true rfl⟩)) (fun r_9 er_9 => ?_)
            obtain rfl : (nI (xDr (ch j0) (xRd (xSd a4 (k + 1)) (xMx1 (xSm (ch j0) 12 + ne j0)))) : Int32) = r_9 := Eq.symm er_9
            have hPc := (va_P.app (hP.sub (ws' := [(h0, .inr (4, [.ref rd, .ref dr, .ref kp, .ref pl, .ref tx, .ref nu, .ref rf_a, .int nc, .int hi, .int pd])), (rd, .inr (2, [.int (nI st), .int ho, .int pa, .int si, .int li, .int (nI ln), .ref r0, .ref r1])), (r0, .inl (cI, 7, .inl lg))]) [0, 1, 2] rfl) (hPa.sub (ws' := [((la j0), .inr (0, [.int (ki j0), .int (ru j0), .int (ne j0), .ref (lk j0)])), ((lk j0), .inl (cI, 12, .inl (ch j0)))]) [0, 1] rfl))
            refine vp_callSi (va_Run.run (va_runV (As := [.ref (la j0), .int a2, .int 5, .int (nI (xDr (ch j0) (xRd (xSd a4 (k + 1)) (xMx1 (xSm (ch j0) 12 + ne j0)))))]) (rest := [.int (xSm (fun i => Hm (nI (xDr (ch j0) (xRd (xSd a4 (i + 1)) (xMx1 (xSm (ch j0) 12 + ne j0)))))) k)]) ⟨hx, hb, hml, hown, hts⟩ (g_X4_goerHome l D cI cL cZ cC h0 rd dr kp pl tx nu rf_a nc hi pd r0 r1 st ho pa si li (nI ln) lg (la j0) (lk j0) (ki j0) (ru j0) (ne j0) (ch j0) a2 5 (nI (xDr (ch j0) (xRd (xSd a4 (k + 1)) (xMx1 (xSm (ch j0) 12 + ne j0))))) (by first | assumption | decide +kernel) (by first | assumption | decide +kernel)) (cwV 4 hts gX4_lots_X4_goerHome rfl rfl rfl (by decide +kernel) ⟨Nat.le_of_ble_eq_true rfl, Nat.le_of_ble_eq_true rfl⟩) ⟨xPc_bl, va_recv hK hPc (ci := 4) (q0 := 0) rfl rfl, xPc_use hPc hK⟩ rfl rfl hl.1 rfl (lv_room (Nat.le_of_ble_eq_true rfl)) dX4_lots_129 ⟨Nat.le_of_ble_eq_true rfl, Nat.le_of_ble_eq_true rfl⟩)) (fun r_10 er_10 => ?_)
            obtain rfl : (xGh st ho pa si li lg (ki j0) (ru j0) a2 (5 : Int32) (nI (xDr (ch j0) (xRd (xSd a4 (k + 1)) (xMx1 (xSm (ch j0) 12 + ne j0))))) : Int32) = r_10 := Eq.symm er_10
            refine xv_int (y := Hm (nI (xDr (ch j0) (xRd (xSd a4 (k + 1)) (xMx1 (xSm (ch j0) 12 + ne j0)))))) (hF _) ?_
            refine lv_iadd hx hb dX4_lots_132 ?_
            refine xv_int (y := xSm (fun i => Hm (nI (xDr (ch j0) (xRd (xSd a4 (i + 1)) (xMx1 (xSm (ch j0) 12 + ne j0)))))) (k + 1)) (rfl) ?_
            refine lv_istore (lv' := [(8, .int (xSm (fun i => Hm (nI (xDr (ch j0) (xRd (xSd a4 (i + 1)) (xMx1 (xSm (ch j0) 12 + ne j0)))))) (k + 1))), (10, .int (xRd (xSd a4 (k + 1)) (xMx1 (xSm (ch j0) 12 + ne j0)))), (7, .int (xSd a4 (k + 1))), (9, .int (nI k)), (6, .int (xMx1 (xSm (ch j0) 12 + ne j0))), (5, .ref (la j0)), (0, .ref h0), (1, .int (nI j0)), (2, .int a2), (3, .int (nI n3)), (4, .int a4)]) hx hb dX4_lots_133 hl (by decide) rfl (fun ls hl => ?_)
            refine lv_iinc (v := nI (k + 1)) (lv' := [(9, .int (nI (k + 1))), (8, .int (xSm (fun i => Hm (nI (xDr (ch j0) (xRd (xSd a4 (i + 1)) (xMx1 (xSm (ch j0) 12 + ne j0)))))) (k + 1))), (10, .int (xRd (xSd a4 (k + 1)) (xMx1 (xSm (ch j0) 12 + ne j0)))), (7, .int (xSd a4 (k + 1))), (6, .int (xMx1 (xSm (ch j0) 12 + ne j0))), (5, .ref (la j0)), (0, .ref h0), (1, .int (nI j0)), (2, .int a2), (3, .int (nI n3)), (4, .int a4)]) hx hb dX4_lots_135 hl (k := 3) rfl (nI_1 k) (by decide) rfl (fun ls hl => ?_)
            refine lv_goto (tgt := 85) hx hb dX4_lots_138 (by decide) ?_
            have w := (nI_ltI (a := k) (b := n3) (by omega) (by omega)).mp (Int32.not_le.mp c_8)
            exact ih_85 (k + 1) _ _ _ ⟨lv_sub hl [0, 1, 3, 4, 5, 6, 7, 8, 9, 10] rfl, hP.sub [0, 1, 2, 3, 4, 5, 6, 7, 8, 9, 10] rfl, hD.sub [0, 1, 2, 3, 4, 5, 6, 7, 8, 9, 10] (by decide) rfl, hS, by (try dsimp only); exact ⟨by omega, by omega⟩⟩
        · refine lv_aload_n hx hb dX4_lots_46 rfl (lv_at hl 0 rfl) ?_
          refine lv_bipush (v := -6) hx hb dX4_lots_47 (by decide) ?_
          have hPc := hP.sub (ws' := [(h0, .inr (4, [.ref rd, .ref dr, .ref kp, .ref pl, .ref tx, .ref nu, .ref rf_a, .int nc, .int hi, .int pd])), (rf_a, .inl (cI, 7, .inl rf))]) [0, 10] rfl
          have hDc := hD.sub (ws' := [(h0, .inr (4, [.ref rd, .ref dr, .ref kp, .ref pl, .ref tx, .ref nu, .ref rf_a, .int nc, .int hi, .int pd])), (rf_a, .inl (cI, 7, .inl rf))]) [0, 10] (by decide) rfl
          have hFc := va_free (wc := [(h0, .inr (4, [.ref rd, .ref dr, .ref kp, .ref pl, .ref tx, .ref nu, .ref rf_a, .int nc, .int hi, .int pd])), (rf_a, .inl (cI, 7, .inl rf))]) hD hS hA [0, 10] rfl
          refine va_calli (va_runV (As := [.int (-6)]) (rest := []) ⟨hx, hb, hml, hown, hts⟩ (g_X4_refuse l D cI cL cZ cC _ h0 rd dr kp pl tx nu rf_a nc hi pd rf (-6) (by first | assumption | decide +kernel) (by first | assumption | decide +kernel)) (cwV 1 hts gX4_lots_X4_refuse rfl rfl rfl (by decide +kernel) ⟨Nat.le_of_ble_eq_true rfl, Nat.le_of_ble_eq_true rfl⟩) ⟨wPc_bl, va_recv hK hPc (ci := 4) (q0 := 0) rfl rfl, wPc_use hPc hK hDc⟩ rfl rfl hl.1 rfl (lv_room (Nat.le_of_ble_eq_true rfl)) dX4_lots_49 ⟨Nat.le_of_ble_eq_true rfl, Nat.le_of_ble_eq_true rfl⟩) hS (fun q _ h => hFc q h) hFc (fun r_11 u_11 t H1 locs ht hvm hw hB hz1 hk1 hS => ?_)
          obtain ⟨hP1, hD1⟩ := hB
          rw [ht] at hP1
          obtain ⟨hP, hD⟩ := va_join (wr := [(rd, .inr (2, [.int (nI st), .int ho, .int pa, .int si, .int li, .int (nI ln), .ref r0, .ref r1])), (r0, .inl (cI, 7, .inl lg)), (r1, .inl (cL, 3, .inr (.inr (.inr (.inr (xL3 (la 0) (la 1) (la 2))))))), (la 0, .inr (0, [.int (ki 0), .int (ru 0), .int (ne 0), .ref (lk 0)])), (lk 0, .inl (cI, 12, .inl (ch 0))), (la 1, .inr (0, [.int (ki 1), .int (ru 1), .int (ne 1), .ref (lk 1)])), (lk 1, .inl (cI, 12, .inl (ch 1))), (la 2, .inr (0, [.int (ki 2), .int (ru 2), .int (ne 2), .ref (lk 2)])), (lk 2, .inl (cI, 12, .inl (ch 2)))]) (w1 := [(h0, .inr (4, [.ref rd, .ref dr, .ref kp, .ref pl, .ref tx, .ref nu, .ref rf_a, .int nc, .int hi, .int pd])), (rf_a, .inl (cI, 7, .inl (xRf rf (-6))))]) hP hD [0, 10] [1, 2, 3, 4, 5, 6, 7, 8, 9] rfl rfl (by decide) (by decide) hk1 hFc hP1 hD1
          generalize H1 = H at hP hS ⊢
          have hP : va_P D vwCl [(rd, .inr (2, [.int (nI st), .int ho, .int pa, .int si, .int li, .int (nI ln), .ref r0, .ref r1])), (r0, .inl (cI, 7, .inl lg)), (r1, .inl (cL, 3, .inr (.inr (.inr (.inr (xL3 (la 0) (la 1) (la 2))))))), (la 0, .inr (0, [.int (ki 0), .int (ru 0), .int (ne 0), .ref (lk 0)])), (lk 0, .inl (cI, 12, .inl (ch 0))), (la 1, .inr (0, [.int (ki 1), .int (ru 1), .int (ne 1), .ref (lk 1)])), (lk 1, .inl (cI, 12, .inl (ch 1))), (la 2, .inr (0, [.int (ki 2), .int (ru 2), .int (ne 2), .ref (lk 2)])), (lk 2, .inl (cI, 12, .inl (ch 2))), (h0, .inr (4, [.ref rd, .ref dr, .ref kp, .ref pl, .ref tx, .ref nu, .ref rf_a, .int nc, .int hi, .int pd])), (rf_a, .inl (cI, 7, .inl (xRf rf (-6))))] H := hP
          have hD : va_D A [(rd, .inr (2, [.int (nI st), .int ho, .int pa, .int si, .int li, .int (nI ln), .ref r0, .ref r1])), (r0, .inl (cI, 7, .inl lg)), (r1, .inl (cL, 3, .inr (.inr (.inr (.inr (xL3 (la 0) (la 1) (la 2))))))), (la 0, .inr (0, [.int (ki 0), .int (ru 0), .int (ne 0), .ref (lk 0)])), (lk 0, .inl (cI, 12, .inl (ch 0))), (la 1, .inr (0, [.int (ki 1), .int (ru 1), .int (ne 1), .ref (lk 1)])), (lk 1, .inl (cI, 12, .inl (ch 1))), (la 2, .inr (0, [.int (ki 2), .int (ru 2), .int (ne 2), .ref (lk 2)])), (lk 2, .inl (cI, 12, .inl (ch 2))), (h0, .inr (4, [.ref rd, .ref dr, .ref kp, .ref pl, .ref tx, .ref nu, .ref rf_a, .int nc, .int hi, .int pd])), (rf_a, .inl (cI, 7, .inl (xRf rf (-6))))] := hD
          obtain rfl : ((-6) : Int32) = r_11 := Eq.symm hw
          have hP9 := hP.sub (ws' := [(h0, .inr (4, [.ref rd, .ref dr, .ref kp, .ref pl, .ref tx, .ref nu, .ref rf_a, .int nc, .int hi, .int pd])), (rd, .inr (2, [.int (nI st), .int ho, .int pa, .int si, .int li, .int (nI ln), .ref r0, .ref r1])), (r0, .inl (cI, 7, .inl lg)), (r1, .inl (cL, 3, .inr (.inr (.inr (.inr (xL3 (la 0) (la 1) (la 2))))))), (la 0, .inr (0, [.int (ki 0), .int (ru 0), .int (ne 0), .ref (lk 0)])), (lk 0, .inl (cI, 12, .inl (ch 0))), (la 1, .inr (0, [.int (ki 1), .int (ru 1), .int (ne 1), .ref (lk 1)])), (lk 1, .inl (cI, 12, .inl (ch 1))), (la 2, .inr (0, [.int (ki 2), .int (ru 2), .int (ne 2), .ref (lk 2)])), (lk 2, .inl (cI, 12, .inl (ch 2))), (rf_a, .inl (cI, 7, .inl (xRf rf (-6))))]) [9, 0, 1, 2, 3, 4, 5, 6, 7, 8, 10] rfl
          have hD9 := hD.sub (ws' := [(h0, .inr (4, [.ref rd, .ref dr, .ref kp, .ref pl, .ref tx, .ref nu, .ref rf_a, .int nc, .int hi, .int pd])), (rd, .inr (2, [.int (nI st), .int ho, .int pa, .int si, .int li, .int (nI ln), .ref r0, .ref r1])), (r0, .inl (cI, 7, .inl lg)), (r1, .inl (cL, 3, .inr (.inr (.inr (.inr (xL3 (la 0) (la 1) (la 2))))))), (la 0, .inr (0, [.int (ki 0), .int (ru 0), .int (ne 0), .ref (lk 0)])), (lk 0, .inl (cI, 12, .inl (ch 0))), (la 1, .inr (0, [.int (ki 1), .int (ru 1), .int (ne 1), .ref (lk 1)])), (lk 1, .inl (cI, 12, .inl (ch 1))), (la 2, .inr (0, [.int (ki 2), .int (ru 2), .int (ne 2), .ref (lk 2)])), (lk 2, .inl (cI, 12, .inl (ch 2))), (rf_a, .inl (cI, 7, .inl (xRf rf (-6))))]) [9, 0, 1, 2, 3, 4, 5, 6, 7, 8, 10] (by decide) rfl
          have hE9 : ([(h0, .inr (4, [.ref rd, .ref dr, .ref kp, .ref pl, .ref tx, .ref nu, .ref rf_a, .int nc, .int hi, .int pd])), (rd, .inr (2, [.int (nI st), .int ho, .int pa, .int si, .int li, .int (nI ln), .ref r0, .ref r1])), (r0, .inl (cI, 7, .inl lg)), (r1, .inl (cL, 3, .inr (.inr (.inr (.inr (xL3 (la 0) (la 1) (la 2))))))), (la 0, .inr (0, [.int (ki 0), .int (ru 0), .int (ne 0), .ref (lk 0)])), (lk 0, .inl (cI, 12, .inl (ch 0))), (la 1, .inr (0, [.int (ki 1), .int (ru 1), .int (ne 1), .ref (lk 1)])), (lk 1, .inl (cI, 12, .inl (ch 1))), (la 2, .inr (0, [.int (ki 2), .int (ru 2), .int (ne 2), .ref (lk 2)])), (lk 2, .inl (cI, 12, .inl (ch 2))), (rf_a, .inl (cI, 7, .inl (xRf rf (-6))))] : va_W) = [(h0, .inr (4, [.ref rd, .ref dr, .ref kp, .ref pl, .ref tx, .ref nu, .ref rf_a, .int nc, .int hi, .int pd])), (rd, .inr (2, [.int (nI st), .int ho, .int pa, .int si, .int li, .int (nI ln), .ref r0, .ref r1])), (r0, .inl (cI, 7, .inl lg)), (r1, .inl (cL, 3, .inr (.inr (.inr (.inr (xL3 (la 0) (la 1) (la 2))))))), (la 0, .inr (0, [.int (ki 0), .int (ru 0), .int (ne 0), .ref (lk 0)])), (lk 0, .inl (cI, 12, .inl (ch 0))), (la 1, .inr (0, [.int (ki 1), .int (ru 1), .int (ne 1), .ref (lk 1)])), (lk 1, .inl (cI, 12, .inl (ch 1))), (la 2, .inr (0, [.int (ki 2), .int (ru 2), .int (ne 2), .ref (lk 2)])), (lk 2, .inl (cI, 12, .inl (ch 2))), (rf_a, .inl (cI, 7, .inl (xRq rf (qLo ln a1 a2 a3))))] := by simp [xRq, qLo, vLo, c_2, c_4, (Int32.not_lt.mpr c_5), (Int32.not_le.mp c_6)]
          exact W.iret (v := -6) hx hb hr (fun t ht hW => ⟨⟨_, (), rfl, by simp [qLo, vLo, c_2, c_4, (Int32.not_lt.mpr c_5), (Int32.not_le.mp c_6)], by rw [ht]; exact hE9 ▸ hP9, hE9 ▸ hD9⟩, hS.F ht⟩) hS.2.2 dX4_lots_52
      · refine lv_aload_n hx hb dX4_lots_33 rfl (lv_at hl 0 rfl) ?_
        refine lv_bipush (v := -4) hx hb dX4_lots_34 (by decide) ?_
        have hPc := hP.sub (ws' := [(h0, .inr (4, [.ref rd, .ref dr, .ref kp, .ref pl, .ref tx, .ref nu, .ref rf_a, .int nc, .int hi, .int pd])), (rf_a, .inl (cI, 7, .inl rf))]) [0, 10] rfl
        have hDc := hD.sub (ws' := [(h0, .inr (4, [.ref rd, .ref dr, .ref kp, .ref pl, .ref tx, .ref nu, .ref rf_a, .int nc, .int hi, .int pd])), (rf_a, .inl (cI, 7, .inl rf))]) [0, 10] (by decide) rfl
        have hFc := va_free (wc := [(h0, .inr (4, [.ref rd, .ref dr, .ref kp, .ref pl, .ref tx, .ref nu, .ref rf_a, .int nc, .int hi, .int pd])), (rf_a, .inl (cI, 7, .inl rf))]) hD hS hA [0, 10] rfl
        refine va_calli (va_runV (As := [.int (-4)]) (rest := []) ⟨hx, hb, hml, hown, hts⟩ (g_X4_refuse l D cI cL cZ cC _ h0 rd dr kp pl tx nu rf_a nc hi pd rf (-4) (by first | assumption | decide +kernel) (by first | assumption | decide +kernel)) (cwV 1 hts gX4_lots_X4_refuse rfl rfl rfl (by decide +kernel) ⟨Nat.le_of_ble_eq_true rfl, Nat.le_of_ble_eq_true rfl⟩) ⟨wPc_bl, va_recv hK hPc (ci := 4) (q0 := 0) rfl rfl, wPc_use hPc hK hDc⟩ rfl rfl hl.1 rfl (lv_room (Nat.le_of_ble_eq_true rfl)) dX4_lots_36 ⟨Nat.le_of_ble_eq_true rfl, Nat.le_of_ble_eq_true rfl⟩) hS (fun q _ h => hFc q h) hFc (fun r_12 u_12 t H1 locs ht hvm hw hB hz1 hk1 hS => ?_)
        obtain ⟨hP1, hD1⟩ := hB
        rw [ht] at hP1
        obtain ⟨hP, hD⟩ := va_join (wr := [(rd, .inr (2, [.int (nI st), .int ho, .int pa, .int si, .int li, .int (nI ln), .ref r0, .ref r1])), (r0, .inl (cI, 7, .inl lg)), (r1, .inl (cL, 3, .inr (.inr (.inr (.inr (xL3 (la 0) (la 1) (la 2))))))), (la 0, .inr (0, [.int (ki 0), .int (ru 0), .int (ne 0), .ref (lk 0)])), (lk 0, .inl (cI, 12, .inl (ch 0))), (la 1, .inr (0, [.int (ki 1), .int (ru 1), .int (ne 1), .ref (lk 1)])), (lk 1, .inl (cI, 12, .inl (ch 1))), (la 2, .inr (0, [.int (ki 2), .int (ru 2), .int (ne 2), .ref (lk 2)])), (lk 2, .inl (cI, 12, .inl (ch 2)))]) (w1 := [(h0, .inr (4, [.ref rd, .ref dr, .ref kp, .ref pl, .ref tx, .ref nu, .ref rf_a, .int nc, .int hi, .int pd])), (rf_a, .inl (cI, 7, .inl (xRf rf (-4))))]) hP hD [0, 10] [1, 2, 3, 4, 5, 6, 7, 8, 9] rfl rfl (by decide) (by decide) hk1 hFc hP1 hD1
        generalize H1 = H at hP hS ⊢
        have hP : va_P D vwCl [(rd, .inr (2, [.int (nI st), .int ho, .int pa, .int si, .int li, .int (nI ln), .ref r0, .ref r1])), (r0, .inl (cI, 7, .inl lg)), (r1, .inl (cL, 3, .inr (.inr (.inr (.inr (xL3 (la 0) (la 1) (la 2))))))), (la 0, .inr (0, [.int (ki 0), .int (ru 0), .int (ne 0), .ref (lk 0)])), (lk 0, .inl (cI, 12, .inl (ch 0))), (la 1, .inr (0, [.int (ki 1), .int (ru 1), .int (ne 1), .ref (lk 1)])), (lk 1, .inl (cI, 12, .inl (ch 1))), (la 2, .inr (0, [.int (ki 2), .int (ru 2), .int (ne 2), .ref (lk 2)])), (lk 2, .inl (cI, 12, .inl (ch 2))), (h0, .inr (4, [.ref rd, .ref dr, .ref kp, .ref pl, .ref tx, .ref nu, .ref rf_a, .int nc, .int hi, .int pd])), (rf_a, .inl (cI, 7, .inl (xRf rf (-4))))] H := hP
        have hD : va_D A [(rd, .inr (2, [.int (nI st), .int ho, .int pa, .int si, .int li, .int (nI ln), .ref r0, .ref r1])), (r0, .inl (cI, 7, .inl lg)), (r1, .inl (cL, 3, .inr (.inr (.inr (.inr (xL3 (la 0) (la 1) (la 2))))))), (la 0, .inr (0, [.int (ki 0), .int (ru 0), .int (ne 0), .ref (lk 0)])), (lk 0, .inl (cI, 12, .inl (ch 0))), (la 1, .inr (0, [.int (ki 1), .int (ru 1), .int (ne 1), .ref (lk 1)])), (lk 1, .inl (cI, 12, .inl (ch 1))), (la 2, .inr (0, [.int (ki 2), .int (ru 2), .int (ne 2), .ref (lk 2)])), (lk 2, .inl (cI, 12, .inl (ch 2))), (h0, .inr (4, [.ref rd, .ref dr, .ref kp, .ref pl, .ref tx, .ref nu, .ref rf_a, .int nc, .int hi, .int pd])), (rf_a, .inl (cI, 7, .inl (xRf rf (-4))))] := hD
        obtain rfl : ((-4) : Int32) = r_12 := Eq.symm hw
        have hP9 := hP.sub (ws' := [(h0, .inr (4, [.ref rd, .ref dr, .ref kp, .ref pl, .ref tx, .ref nu, .ref rf_a, .int nc, .int hi, .int pd])), (rd, .inr (2, [.int (nI st), .int ho, .int pa, .int si, .int li, .int (nI ln), .ref r0, .ref r1])), (r0, .inl (cI, 7, .inl lg)), (r1, .inl (cL, 3, .inr (.inr (.inr (.inr (xL3 (la 0) (la 1) (la 2))))))), (la 0, .inr (0, [.int (ki 0), .int (ru 0), .int (ne 0), .ref (lk 0)])), (lk 0, .inl (cI, 12, .inl (ch 0))), (la 1, .inr (0, [.int (ki 1), .int (ru 1), .int (ne 1), .ref (lk 1)])), (lk 1, .inl (cI, 12, .inl (ch 1))), (la 2, .inr (0, [.int (ki 2), .int (ru 2), .int (ne 2), .ref (lk 2)])), (lk 2, .inl (cI, 12, .inl (ch 2))), (rf_a, .inl (cI, 7, .inl (xRf rf (-4))))]) [9, 0, 1, 2, 3, 4, 5, 6, 7, 8, 10] rfl
        have hD9 := hD.sub (ws' := [(h0, .inr (4, [.ref rd, .ref dr, .ref kp, .ref pl, .ref tx, .ref nu, .ref rf_a, .int nc, .int hi, .int pd])), (rd, .inr (2, [.int (nI st), .int ho, .int pa, .int si, .int li, .int (nI ln), .ref r0, .ref r1])), (r0, .inl (cI, 7, .inl lg)), (r1, .inl (cL, 3, .inr (.inr (.inr (.inr (xL3 (la 0) (la 1) (la 2))))))), (la 0, .inr (0, [.int (ki 0), .int (ru 0), .int (ne 0), .ref (lk 0)])), (lk 0, .inl (cI, 12, .inl (ch 0))), (la 1, .inr (0, [.int (ki 1), .int (ru 1), .int (ne 1), .ref (lk 1)])), (lk 1, .inl (cI, 12, .inl (ch 1))), (la 2, .inr (0, [.int (ki 2), .int (ru 2), .int (ne 2), .ref (lk 2)])), (lk 2, .inl (cI, 12, .inl (ch 2))), (rf_a, .inl (cI, 7, .inl (xRf rf (-4))))]) [9, 0, 1, 2, 3, 4, 5, 6, 7, 8, 10] (by decide) rfl
        have hE9 : ([(h0, .inr (4, [.ref rd, .ref dr, .ref kp, .ref pl, .ref tx, .ref nu, .ref rf_a, .int nc, .int hi, .int pd])), (rd, .inr (2, [.int (nI st), .int ho, .int pa, .int si, .int li, .int (nI ln), .ref r0, .ref r1])), (r0, .inl (cI, 7, .inl lg)), (r1, .inl (cL, 3, .inr (.inr (.inr (.inr (xL3 (la 0) (la 1) (la 2))))))), (la 0, .inr (0, [.int (ki 0), .int (ru 0), .int (ne 0), .ref (lk 0)])), (lk 0, .inl (cI, 12, .inl (ch 0))), (la 1, .inr (0, [.int (ki 1), .int (ru 1), .int (ne 1), .ref (lk 1)])), (lk 1, .inl (cI, 12, .inl (ch 1))), (la 2, .inr (0, [.int (ki 2), .int (ru 2), .int (ne 2), .ref (lk 2)])), (lk 2, .inl (cI, 12, .inl (ch 2))), (rf_a, .inl (cI, 7, .inl (xRf rf (-4))))] : va_W) = [(h0, .inr (4, [.ref rd, .ref dr, .ref kp, .ref pl, .ref tx, .ref nu, .ref rf_a, .int nc, .int hi, .int pd])), (rd, .inr (2, [.int (nI st), .int ho, .int pa, .int si, .int li, .int (nI ln), .ref r0, .ref r1])), (r0, .inl (cI, 7, .inl lg)), (r1, .inl (cL, 3, .inr (.inr (.inr (.inr (xL3 (la 0) (la 1) (la 2))))))), (la 0, .inr (0, [.int (ki 0), .int (ru 0), .int (ne 0), .ref (lk 0)])), (lk 0, .inl (cI, 12, .inl (ch 0))), (la 1, .inr (0, [.int (ki 1), .int (ru 1), .int (ne 1), .ref (lk 1)])), (lk 1, .inl (cI, 12, .inl (ch 1))), (la 2, .inr (0, [.int (ki 2), .int (ru 2), .int (ne 2), .ref (lk 2)])), (lk 2, .inl (cI, 12, .inl (ch 2))), (rf_a, .inl (cI, 7, .inl (xRq rf (qLo ln a1 a2 a3))))] := by simp [xRq, qLo, vLo, c_2, c_4, (Int32.not_le.mp c_5)]
        exact W.iret (v := -4) hx hb hr (fun t ht hW => ⟨⟨_, (), rfl, by simp [qLo, vLo, c_2, c_4, (Int32.not_le.mp c_5)], by rw [ht]; exact hE9 ▸ hP9, hE9 ▸ hD9⟩, hS.F ht⟩) hS.2.2 dX4_lots_39
    · refine lv_aload_n hx hb dX4_lots_21 rfl (lv_at hl 0 rfl) ?_
      refine lv_bipush (v := -2) hx hb dX4_lots_22 (by decide) ?_
      have hPc := hP.sub (ws' := [(h0, .inr (4, [.ref rd, .ref dr, .ref kp, .ref pl, .ref tx, .ref nu, .ref rf_a, .int nc, .int hi, .int pd])), (rf_a, .inl (cI, 7, .inl rf))]) [0, 10] rfl
      have hDc := hD.sub (ws' := [(h0, .inr (4, [.ref rd, .ref dr, .ref kp, .ref pl, .ref tx, .ref nu, .ref rf_a, .int nc, .int hi, .int pd])), (rf_a, .inl (cI, 7, .inl rf))]) [0, 10] (by decide) rfl
      have hFc := va_free (wc := [(h0, .inr (4, [.ref rd, .ref dr, .ref kp, .ref pl, .ref tx, .ref nu, .ref rf_a, .int nc, .int hi, .int pd])), (rf_a, .inl (cI, 7, .inl rf))]) hD hS hA [0, 10] rfl
      refine va_calli (va_runV (As := [.int (-2)]) (rest := []) ⟨hx, hb, hml, hown, hts⟩ (g_X4_refuse l D cI cL cZ cC _ h0 rd dr kp pl tx nu rf_a nc hi pd rf (-2) (by first | assumption | decide +kernel) (by first | assumption | decide +kernel)) (cwV 1 hts gX4_lots_X4_refuse rfl rfl rfl (by decide +kernel) ⟨Nat.le_of_ble_eq_true rfl, Nat.le_of_ble_eq_true rfl⟩) ⟨wPc_bl, va_recv hK hPc (ci := 4) (q0 := 0) rfl rfl, wPc_use hPc hK hDc⟩ rfl rfl hl.1 rfl (lv_room (Nat.le_of_ble_eq_true rfl)) dX4_lots_24 ⟨Nat.le_of_ble_eq_true rfl, Nat.le_of_ble_eq_true rfl⟩) hS (fun q _ h => hFc q h) hFc (fun r_13 u_13 t H1 locs ht hvm hw hB hz1 hk1 hS => ?_)
      obtain ⟨hP1, hD1⟩ := hB
      rw [ht] at hP1
      obtain ⟨hP, hD⟩ := va_join (wr := [(rd, .inr (2, [.int (nI st), .int ho, .int pa, .int si, .int li, .int (nI ln), .ref r0, .ref r1])), (r0, .inl (cI, 7, .inl lg)), (r1, .inl (cL, 3, .inr (.inr (.inr (.inr (xL3 (la 0) (la 1) (la 2))))))), (la 0, .inr (0, [.int (ki 0), .int (ru 0), .int (ne 0), .ref (lk 0)])), (lk 0, .inl (cI, 12, .inl (ch 0))), (la 1, .inr (0, [.int (ki 1), .int (ru 1), .int (ne 1), .ref (lk 1)])), (lk 1, .inl (cI, 12, .inl (ch 1))), (la 2, .inr (0, [.int (ki 2), .int (ru 2), .int (ne 2), .ref (lk 2)])), (lk 2, .inl (cI, 12, .inl (ch 2)))]) (w1 := [(h0, .inr (4, [.ref rd, .ref dr, .ref kp, .ref pl, .ref tx, .ref nu, .ref rf_a, .int nc, .int hi, .int pd])), (rf_a, .inl (cI, 7, .inl (xRf rf (-2))))]) hP hD [0, 10] [1, 2, 3, 4, 5, 6, 7, 8, 9] rfl rfl (by decide) (by decide) hk1 hFc hP1 hD1
      generalize H1 = H at hP hS ⊢
      have hP : va_P D vwCl [(rd, .inr (2, [.int (nI st), .int ho, .int pa, .int si, .int li, .int (nI ln), .ref r0, .ref r1])), (r0, .inl (cI, 7, .inl lg)), (r1, .inl (cL, 3, .inr (.inr (.inr (.inr (xL3 (la 0) (la 1) (la 2))))))), (la 0, .inr (0, [.int (ki 0), .int (ru 0), .int (ne 0), .ref (lk 0)])), (lk 0, .inl (cI, 12, .inl (ch 0))), (la 1, .inr (0, [.int (ki 1), .int (ru 1), .int (ne 1), .ref (lk 1)])), (lk 1, .inl (cI, 12, .inl (ch 1))), (la 2, .inr (0, [.int (ki 2), .int (ru 2), .int (ne 2), .ref (lk 2)])), (lk 2, .inl (cI, 12, .inl (ch 2))), (h0, .inr (4, [.ref rd, .ref dr, .ref kp, .ref pl, .ref tx, .ref nu, .ref rf_a, .int nc, .int hi, .int pd])), (rf_a, .inl (cI, 7, .inl (xRf rf (-2))))] H := hP
      have hD : va_D A [(rd, .inr (2, [.int (nI st), .int ho, .int pa, .int si, .int li, .int (nI ln), .ref r0, .ref r1])), (r0, .inl (cI, 7, .inl lg)), (r1, .inl (cL, 3, .inr (.inr (.inr (.inr (xL3 (la 0) (la 1) (la 2))))))), (la 0, .inr (0, [.int (ki 0), .int (ru 0), .int (ne 0), .ref (lk 0)])), (lk 0, .inl (cI, 12, .inl (ch 0))), (la 1, .inr (0, [.int (ki 1), .int (ru 1), .int (ne 1), .ref (lk 1)])), (lk 1, .inl (cI, 12, .inl (ch 1))), (la 2, .inr (0, [.int (ki 2), .int (ru 2), .int (ne 2), .ref (lk 2)])), (lk 2, .inl (cI, 12, .inl (ch 2))), (h0, .inr (4, [.ref rd, .ref dr, .ref kp, .ref pl, .ref tx, .ref nu, .ref rf_a, .int nc, .int hi, .int pd])), (rf_a, .inl (cI, 7, .inl (xRf rf (-2))))] := hD
      obtain rfl : ((-2) : Int32) = r_13 := Eq.symm hw
      have hP9 := hP.sub (ws' := [(h0, .inr (4, [.ref rd, .ref dr, .ref kp, .ref pl, .ref tx, .ref nu, .ref rf_a, .int nc, .int hi, .int pd])), (rd, .inr (2, [.int (nI st), .int ho, .int pa, .int si, .int li, .int (nI ln), .ref r0, .ref r1])), (r0, .inl (cI, 7, .inl lg)), (r1, .inl (cL, 3, .inr (.inr (.inr (.inr (xL3 (la 0) (la 1) (la 2))))))), (la 0, .inr (0, [.int (ki 0), .int (ru 0), .int (ne 0), .ref (lk 0)])), (lk 0, .inl (cI, 12, .inl (ch 0))), (la 1, .inr (0, [.int (ki 1), .int (ru 1), .int (ne 1), .ref (lk 1)])), (lk 1, .inl (cI, 12, .inl (ch 1))), (la 2, .inr (0, [.int (ki 2), .int (ru 2), .int (ne 2), .ref (lk 2)])), (lk 2, .inl (cI, 12, .inl (ch 2))), (rf_a, .inl (cI, 7, .inl (xRf rf (-2))))]) [9, 0, 1, 2, 3, 4, 5, 6, 7, 8, 10] rfl
      have hD9 := hD.sub (ws' := [(h0, .inr (4, [.ref rd, .ref dr, .ref kp, .ref pl, .ref tx, .ref nu, .ref rf_a, .int nc, .int hi, .int pd])), (rd, .inr (2, [.int (nI st), .int ho, .int pa, .int si, .int li, .int (nI ln), .ref r0, .ref r1])), (r0, .inl (cI, 7, .inl lg)), (r1, .inl (cL, 3, .inr (.inr (.inr (.inr (xL3 (la 0) (la 1) (la 2))))))), (la 0, .inr (0, [.int (ki 0), .int (ru 0), .int (ne 0), .ref (lk 0)])), (lk 0, .inl (cI, 12, .inl (ch 0))), (la 1, .inr (0, [.int (ki 1), .int (ru 1), .int (ne 1), .ref (lk 1)])), (lk 1, .inl (cI, 12, .inl (ch 1))), (la 2, .inr (0, [.int (ki 2), .int (ru 2), .int (ne 2), .ref (lk 2)])), (lk 2, .inl (cI, 12, .inl (ch 2))), (rf_a, .inl (cI, 7, .inl (xRf rf (-2))))]) [9, 0, 1, 2, 3, 4, 5, 6, 7, 8, 10] (by decide) rfl
      have hE9 : ([(h0, .inr (4, [.ref rd, .ref dr, .ref kp, .ref pl, .ref tx, .ref nu, .ref rf_a, .int nc, .int hi, .int pd])), (rd, .inr (2, [.int (nI st), .int ho, .int pa, .int si, .int li, .int (nI ln), .ref r0, .ref r1])), (r0, .inl (cI, 7, .inl lg)), (r1, .inl (cL, 3, .inr (.inr (.inr (.inr (xL3 (la 0) (la 1) (la 2))))))), (la 0, .inr (0, [.int (ki 0), .int (ru 0), .int (ne 0), .ref (lk 0)])), (lk 0, .inl (cI, 12, .inl (ch 0))), (la 1, .inr (0, [.int (ki 1), .int (ru 1), .int (ne 1), .ref (lk 1)])), (lk 1, .inl (cI, 12, .inl (ch 1))), (la 2, .inr (0, [.int (ki 2), .int (ru 2), .int (ne 2), .ref (lk 2)])), (lk 2, .inl (cI, 12, .inl (ch 2))), (rf_a, .inl (cI, 7, .inl (xRf rf (-2))))] : va_W) = [(h0, .inr (4, [.ref rd, .ref dr, .ref kp, .ref pl, .ref tx, .ref nu, .ref rf_a, .int nc, .int hi, .int pd])), (rd, .inr (2, [.int (nI st), .int ho, .int pa, .int si, .int li, .int (nI ln), .ref r0, .ref r1])), (r0, .inl (cI, 7, .inl lg)), (r1, .inl (cL, 3, .inr (.inr (.inr (.inr (xL3 (la 0) (la 1) (la 2))))))), (la 0, .inr (0, [.int (ki 0), .int (ru 0), .int (ne 0), .ref (lk 0)])), (lk 0, .inl (cI, 12, .inl (ch 0))), (la 1, .inr (0, [.int (ki 1), .int (ru 1), .int (ne 1), .ref (lk 1)])), (lk 1, .inl (cI, 12, .inl (ch 1))), (la 2, .inr (0, [.int (ki 2), .int (ru 2), .int (ne 2), .ref (lk 2)])), (lk 2, .inl (cI, 12, .inl (ch 2))), (rf_a, .inl (cI, 7, .inl (xRq rf (qLo ln a1 a2 a3))))] := by simp [xRq, qLo, vLo, c_2, c_4]
      exact W.iret (v := -2) hx hb hr (fun t ht hW => ⟨⟨_, (), rfl, by simp [qLo, vLo, c_2, c_4], by rw [ht]; exact hE9 ▸ hP9, hE9 ▸ hD9⟩, hS.F ht⟩) hS.2.2 dX4_lots_27
  · refine lv_aload_n hx hb dX4_lots_8 rfl (lv_at hl 0 rfl) ?_
    refine lv_iconst (v := -1) hx hb dX4_lots_9 (by decide) ?_
    have hPc := hP.sub (ws' := [(h0, .inr (4, [.ref rd, .ref dr, .ref kp, .ref pl, .ref tx, .ref nu, .ref rf_a, .int nc, .int hi, .int pd])), (rf_a, .inl (cI, 7, .inl rf))]) [0, 10] rfl
    have hDc := hD.sub (ws' := [(h0, .inr (4, [.ref rd, .ref dr, .ref kp, .ref pl, .ref tx, .ref nu, .ref rf_a, .int nc, .int hi, .int pd])), (rf_a, .inl (cI, 7, .inl rf))]) [0, 10] (by decide) rfl
    have hFc := va_free (wc := [(h0, .inr (4, [.ref rd, .ref dr, .ref kp, .ref pl, .ref tx, .ref nu, .ref rf_a, .int nc, .int hi, .int pd])), (rf_a, .inl (cI, 7, .inl rf))]) hD hS hA [0, 10] rfl
    refine va_calli (va_runV (As := [.int (-1)]) (rest := []) ⟨hx, hb, hml, hown, hts⟩ (g_X4_refuse l D cI cL cZ cC _ h0 rd dr kp pl tx nu rf_a nc hi pd rf (-1) (by first | assumption | decide +kernel) (by first | assumption | decide +kernel)) (cwV 1 hts gX4_lots_X4_refuse rfl rfl rfl (by decide +kernel) ⟨Nat.le_of_ble_eq_true rfl, Nat.le_of_ble_eq_true rfl⟩) ⟨wPc_bl, va_recv hK hPc (ci := 4) (q0 := 0) rfl rfl, wPc_use hPc hK hDc⟩ rfl rfl hl.1 rfl (lv_room (Nat.le_of_ble_eq_true rfl)) dX4_lots_10 ⟨Nat.le_of_ble_eq_true rfl, Nat.le_of_ble_eq_true rfl⟩) hS (fun q _ h => hFc q h) hFc (fun r_14 u_14 t H1 locs ht hvm hw hB hz1 hk1 hS => ?_)
    obtain ⟨hP1, hD1⟩ := hB
    rw [ht] at hP1
    obtain ⟨hP, hD⟩ := va_join (wr := [(rd, .inr (2, [.int (nI st), .int ho, .int pa, .int si, .int li, .int (nI ln), .ref r0, .ref r1])), (r0, .inl (cI, 7, .inl lg)), (r1, .inl (cL, 3, .inr (.inr (.inr (.inr (xL3 (la 0) (la 1) (la 2))))))), (la 0, .inr (0, [.int (ki 0), .int (ru 0), .int (ne 0), .ref (lk 0)])), (lk 0, .inl (cI, 12, .inl (ch 0))), (la 1, .inr (0, [.int (ki 1), .int (ru 1), .int (ne 1), .ref (lk 1)])), (lk 1, .inl (cI, 12, .inl (ch 1))), (la 2, .inr (0, [.int (ki 2), .int (ru 2), .int (ne 2), .ref (lk 2)])), (lk 2, .inl (cI, 12, .inl (ch 2)))]) (w1 := [(h0, .inr (4, [.ref rd, .ref dr, .ref kp, .ref pl, .ref tx, .ref nu, .ref rf_a, .int nc, .int hi, .int pd])), (rf_a, .inl (cI, 7, .inl (xRf rf (-1))))]) hP hD [0, 10] [1, 2, 3, 4, 5, 6, 7, 8, 9] rfl rfl (by decide) (by decide) hk1 hFc hP1 hD1
    generalize H1 = H at hP hS ⊢
    have hP : va_P D vwCl [(rd, .inr (2, [.int (nI st), .int ho, .int pa, .int si, .int li, .int (nI ln), .ref r0, .ref r1])), (r0, .inl (cI, 7, .inl lg)), (r1, .inl (cL, 3, .inr (.inr (.inr (.inr (xL3 (la 0) (la 1) (la 2))))))), (la 0, .inr (0, [.int (ki 0), .int (ru 0), .int (ne 0), .ref (lk 0)])), (lk 0, .inl (cI, 12, .inl (ch 0))), (la 1, .inr (0, [.int (ki 1), .int (ru 1), .int (ne 1), .ref (lk 1)])), (lk 1, .inl (cI, 12, .inl (ch 1))), (la 2, .inr (0, [.int (ki 2), .int (ru 2), .int (ne 2), .ref (lk 2)])), (lk 2, .inl (cI, 12, .inl (ch 2))), (h0, .inr (4, [.ref rd, .ref dr, .ref kp, .ref pl, .ref tx, .ref nu, .ref rf_a, .int nc, .int hi, .int pd])), (rf_a, .inl (cI, 7, .inl (xRf rf (-1))))] H := hP
    have hD : va_D A [(rd, .inr (2, [.int (nI st), .int ho, .int pa, .int si, .int li, .int (nI ln), .ref r0, .ref r1])), (r0, .inl (cI, 7, .inl lg)), (r1, .inl (cL, 3, .inr (.inr (.inr (.inr (xL3 (la 0) (la 1) (la 2))))))), (la 0, .inr (0, [.int (ki 0), .int (ru 0), .int (ne 0), .ref (lk 0)])), (lk 0, .inl (cI, 12, .inl (ch 0))), (la 1, .inr (0, [.int (ki 1), .int (ru 1), .int (ne 1), .ref (lk 1)])), (lk 1, .inl (cI, 12, .inl (ch 1))), (la 2, .inr (0, [.int (ki 2), .int (ru 2), .int (ne 2), .ref (lk 2)])), (lk 2, .inl (cI, 12, .inl (ch 2))), (h0, .inr (4, [.ref rd, .ref dr, .ref kp, .ref pl, .ref tx, .ref nu, .ref rf_a, .int nc, .int hi, .int pd])), (rf_a, .inl (cI, 7, .inl (xRf rf (-1))))] := hD
    obtain rfl : ((-1) : Int32) = r_14 := Eq.symm hw
    have hP9 := hP.sub (ws' := [(h0, .inr (4, [.ref rd, .ref dr, .ref kp, .ref pl, .ref tx, .ref nu, .ref rf_a, .int nc, .int hi, .int pd])), (rd, .inr (2, [.int (nI st), .int ho, .int pa, .int si, .int li, .int (nI ln), .ref r0, .ref r1])), (r0, .inl (cI, 7, .inl lg)), (r1, .inl (cL, 3, .inr (.inr (.inr (.inr (xL3 (la 0) (la 1) (la 2))))))), (la 0, .inr (0, [.int (ki 0), .int (ru 0), .int (ne 0), .ref (lk 0)])), (lk 0, .inl (cI, 12, .inl (ch 0))), (la 1, .inr (0, [.int (ki 1), .int (ru 1), .int (ne 1), .ref (lk 1)])), (lk 1, .inl (cI, 12, .inl (ch 1))), (la 2, .inr (0, [.int (ki 2), .int (ru 2), .int (ne 2), .ref (lk 2)])), (lk 2, .inl (cI, 12, .inl (ch 2))), (rf_a, .inl (cI, 7, .inl (xRf rf (-1))))]) [9, 0, 1, 2, 3, 4, 5, 6, 7, 8, 10] rfl
    have hD9 := hD.sub (ws' := [(h0, .inr (4, [.ref rd, .ref dr, .ref kp, .ref pl, .ref tx, .ref nu, .ref rf_a, .int nc, .int hi, .int pd])), (rd, .inr (2, [.int (nI st), .int ho, .int pa, .int si, .int li, .int (nI ln), .ref r0, .ref r1])), (r0, .inl (cI, 7, .inl lg)), (r1, .inl (cL, 3, .inr (.inr (.inr (.inr (xL3 (la 0) (la 1) (la 2))))))), (la 0, .inr (0, [.int (ki 0), .int (ru 0), .int (ne 0), .ref (lk 0)])), (lk 0, .inl (cI, 12, .inl (ch 0))), (la 1, .inr (0, [.int (ki 1), .int (ru 1), .int (ne 1), .ref (lk 1)])), (lk 1, .inl (cI, 12, .inl (ch 1))), (la 2, .inr (0, [.int (ki 2), .int (ru 2), .int (ne 2), .ref (lk 2)])), (lk 2, .inl (cI, 12, .inl (ch 2))), (rf_a, .inl (cI, 7, .inl (xRf rf (-1))))]) [9, 0, 1, 2, 3, 4, 5, 6, 7, 8, 10] (by decide) rfl
    have hE9 : ([(h0, .inr (4, [.ref rd, .ref dr, .ref kp, .ref pl, .ref tx, .ref nu, .ref rf_a, .int nc, .int hi, .int pd])), (rd, .inr (2, [.int (nI st), .int ho, .int pa, .int si, .int li, .int (nI ln), .ref r0, .ref r1])), (r0, .inl (cI, 7, .inl lg)), (r1, .inl (cL, 3, .inr (.inr (.inr (.inr (xL3 (la 0) (la 1) (la 2))))))), (la 0, .inr (0, [.int (ki 0), .int (ru 0), .int (ne 0), .ref (lk 0)])), (lk 0, .inl (cI, 12, .inl (ch 0))), (la 1, .inr (0, [.int (ki 1), .int (ru 1), .int (ne 1), .ref (lk 1)])), (lk 1, .inl (cI, 12, .inl (ch 1))), (la 2, .inr (0, [.int (ki 2), .int (ru 2), .int (ne 2), .ref (lk 2)])), (lk 2, .inl (cI, 12, .inl (ch 2))), (rf_a, .inl (cI, 7, .inl (xRf rf (-1))))] : va_W) = [(h0, .inr (4, [.ref rd, .ref dr, .ref kp, .ref pl, .ref tx, .ref nu, .ref rf_a, .int nc, .int hi, .int pd])), (rd, .inr (2, [.int (nI st), .int ho, .int pa, .int si, .int li, .int (nI ln), .ref r0, .ref r1])), (r0, .inl (cI, 7, .inl lg)), (r1, .inl (cL, 3, .inr (.inr (.inr (.inr (xL3 (la 0) (la 1) (la 2))))))), (la 0, .inr (0, [.int (ki 0), .int (ru 0), .int (ne 0), .ref (lk 0)])), (lk 0, .inl (cI, 12, .inl (ch 0))), (la 1, .inr (0, [.int (ki 1), .int (ru 1), .int (ne 1), .ref (lk 1)])), (lk 1, .inl (cI, 12, .inl (ch 1))), (la 2, .inr (0, [.int (ki 2), .int (ru 2), .int (ne 2), .ref (lk 2)])), (lk 2, .inl (cI, 12, .inl (ch 2))), (rf_a, .inl (cI, 7, .inl (xRq rf (qLo ln a1 a2 a3))))] := by simp [xRq, qLo, vLo, c_2]
    exact W.iret (v := -1) hx hb hr (fun t ht hW => ⟨⟨_, (), rfl, by simp [qLo, vLo, c_2], by rw [ht]; exact hE9 ▸ hP9, hE9 ▸ hD9⟩, hS.F ht⟩) hS.2.2 dX4_lots_13

/-! the plan's readers -/
def xMx (x y : Int32) : Int32 := if x < y then y else x
def xBd (r mi le : Int32) : Int32 := if (if le < mi - r then mi - r else le) < 12 then (if le < mi - r then mi - r else le) else 12
def xBn (r mi le : Int32) : Nat := (xBd r mi le).toInt.toNat
theorem xBd_bounds (r mi le : Int32) (h : ¬ le < 0) : 0 ≤ (xBd r mi le).toInt ∧ (xBd r mi le).toInt ≤ 12 := by
  have e0 : (0 : Int32).toInt = 0 := by decide
  have e12 : (12 : Int32).toInt = 12 := by decide
  unfold xBd
  rw [xi_lt] at h
  have hz0 : 0 ≤ (if le < mi - r then mi - r else le).toInt := by
    by_cases q : le < mi - r
    · rw [if_pos q]; rw [xi_lt] at q; omega
    · rw [if_neg q]; omega
  generalize (if le < mi - r then mi - r else le) = z at hz0 ⊢
  by_cases q : z < 12
  · rw [if_pos q]; rw [xi_lt] at q; omega
  · rw [if_neg q]; omega
theorem xBd_n {r mi le : Int32} (h : ¬ le < 0) : xBd r mi le = nI (xBn r mi le) := by
  have w := xBd_bounds r mi le h
  rw [xi_eq, xBn, nI_toInt (by omega)]
  omega
theorem xBn_le (r mi le : Int32) : xBn r mi le ≤ 12 := by
  have e12 : (12 : Int32).toInt = 12 := by decide
  unfold xBn xBd
  generalize (if le < mi - r then mi - r else le) = z
  by_cases q : z < 12
  · rw [if_pos q]; rw [xi_lt] at q; omega
  · rw [if_neg q]; omega
theorem xNn {n : Nat} (h : n < 2 ^ 31) : ¬ nI n < 0 := by
  rw [xi_lt, nI_toInt h]
  have e0 : (0 : Int32).toInt = 0 := by decide
  omega
theorem pk_idx (p m b : Nat) : (nI p * 61 + nI m) * 13 + nI b = nI ((p * 61 + m) * 13 + b) := by
  rw [show nI p * 61 = nI (p * 61) from pk_mul p 61, nI_add, show nI (p * 61 + m) * 13 = nI ((p * 61 + m) * 13) from pk_mul _ 13, nI_add]
def sSu (lz : Nat) (sm wf wh : Nat → Int32) (p mi b : Nat) : Int32 := if p < lz then (if 60 < mi then wf b * (nI mi + wh p) else sm ((p * 61 + mi) * 13 + b)) else wf b * (nI mi + wh p)

set_option maxHeartbeats 4000000 in
set_option maxRecDepth 100000 in
theorem g_X1_index (l : Launch) (D : va_G) (cI cL cZ cC : ClassId) (a0 : Int32) (a1 : Int32) (a2 : Int32)  : Met l yX1_index wsX1_index ({ frames := 0, cells := 0, slots := 0, locals := 0 } : Room) (xPc D [.int a0, .int a1, .int a2] [] (xTy cI cL cZ cC)) (vp_Si (fun r : Int32 => r = (a0 * 61 + a1) * 13 + a2)) 0 0 (fun _ => False) := by
  refine Met.ofW (cc := cX1_index) (maxL := 3) (ret := (some .int)) (by decide) rfl ?_
  intro p e s m args below meth c s₁ B hml hv
  obtain ⟨rfl, hP, hK⟩ := hv
  have hx := B.exec
  have hb := B.bytes
  have hr := B.returns
  have hts := atoms_spec (ws := wsX1_index) B.pre
  have hown : s.vm.findClass RX1 = some m.cls := findClass_of_methodNamed B.named
  have hlocks := B.notSynchronized
  have hl := lv_entry ([.int a0, .int a1, .int a2]) (n := 3) (Nat.le_of_ble_eq_true rfl)
  rw [lg_entry_eq]
  generalize (lg_sl ([.int a0, .int a1, .int a2]) ++ List.replicate (3 - (lg_sl ([.int a0, .int a1, .int a2])).length) Slot.unset).toArray = ls at hl ⊢
  have hl : lv_has ls 3 [(0, .int a0), (1, .int a1), (2, .int a2)] := hl
  refine lv_iload_n hx hb dX1_index_0 rfl (lv_at hl 0 rfl) ?_
  refine lv_bipush (v := 61) hx hb dX1_index_1 (by decide) ?_
  refine lv_imul hx hb dX1_index_3 ?_
  refine lv_iload_n hx hb dX1_index_4 rfl (lv_at hl 1 rfl) ?_
  refine lv_iadd hx hb dX1_index_5 ?_
  refine lv_bipush (v := 13) hx hb dX1_index_6 (by decide) ?_
  refine lv_imul hx hb dX1_index_8 ?_
  refine lv_iload_n hx hb dX1_index_9 rfl (lv_at hl 2 rfl) ?_
  refine lv_iadd hx hb dX1_index_10 ?_
  exact W.iret (v := (((a0 * 61) + a1) * 13) + a2) hx hb hr (fun t ht hW => ⟨_, rfl, rfl, ht⟩) (fun _ h => absurd h List.not_mem_nil) dX1_index_11

set_option maxHeartbeats 4000000 in
set_option maxRecDepth 100000 in
theorem g_X1_boundAt (l : Launch) (D : va_G) (cI cL cZ cC : ClassId) (pl : Nat) (p0 : Nat) (p1 : Nat) (p2 : Nat) (p3 : Nat) (p4 : Nat) (p5 : Nat) (lz : Nat) (rq : Int32) (q0 : Nat) (a2 : Int32) (a3 : Int32) (rj : Nat → Int32) (hq0 : q0 ≤ 6) (hle : ¬ a3 < 0) : Met l yX1_boundAt wsX1_boundAt ({ frames := 1, cells := 0, slots := 0, locals := 14 } : Room) (xPc D [.ref pl, .int (nI q0), .int a2, .int a3] [(pl, .inr (1, [.ref p0, .ref p1, .ref p2, .ref p3, .ref p4, .ref p5, .int (nI lz), .int rq])), (p2, .inl (cI, 7, .inl rj))] (xTy cI cL cZ cC)) (vp_Si (fun r : Int32 => r = nI (xBn (rj q0) a2 a3))) 0 0 (fun _ => False) := by
  refine Met.ofW (cc := cX1_boundAt) (maxL := 4) (ret := (some .int)) (by decide) rfl ?_
  intro p e s m args below meth c s₁ B hml hv
  obtain ⟨rfl, hP, hK⟩ := hv
  have hx := B.exec
  have hb := B.bytes
  have hr := B.returns
  have hts := atoms_spec (ws := wsX1_boundAt) B.pre
  have hown : s.vm.findClass RX1 = some m.cls := findClass_of_methodNamed B.named
  have hlocks := B.notSynchronized
  have hwX1 : ∀ w ∈ u_ws RX1 TX1 8, w ∈ wsX1_boundAt := fun _ h => List.mem_cons_of_mem _ (List.mem_append_right _ h)
  have hl := lv_entry ([.ref pl, .int (nI q0), .int a2, .int a3]) (n := 4) (Nat.le_of_ble_eq_true rfl)
  rw [lg_entry_eq]
  generalize (lg_sl ([.ref pl, .int (nI q0), .int a2, .int a3]) ++ List.replicate (4 - (lg_sl ([.ref pl, .int (nI q0), .int a2, .int a3])).length) Slot.unset).toArray = ls at hl ⊢
  have hl : lv_has ls 4 [(0, .ref pl), (1, .int (nI q0)), (2, .int a2), (3, .int a3)] := hl
  refine lv_bipush (v := 12) hx hb dX1_boundAt_0 (by decide) ?_
  refine lv_iload_n hx hb dX1_boundAt_2 rfl (lv_at hl 3 rfl) ?_
  refine lv_iload_n hx hb dX1_boundAt_3 rfl (lv_at hl 2 rfl) ?_
  refine lv_aload_n hx hb dX1_boundAt_4 rfl (lv_at hl 0 rfl) ?_
  refine va_get (D := D) (ci := 1) (v := .ref p2) (C := RX1) (T := TX1) (N := 8) hx hb hts hwX1 hown hK hP 0 rfl rfl 2 (by decide) (hts (.fieldLink RX1 18 "WaitOrWalkOn$Plan" "ride" "[I") (by decide +kernel)) (fun _ h9 => h9) rfl dX1_boundAt_5 ?_
  refine lv_iload_n hx hb dX1_boundAt_8 rfl (lv_at hl 1 rfl) ?_
  refine va_iald (D := D) hx hb hK hP 1 0 rfl rfl (vp_in_nI (by omega) (by decide)) dX1_boundAt_9 ?_
  refine xv_int (y := rj q0) (congrArg rj (nI_clamp (by omega))) ?_
  refine lv_isub hx hb dX1_boundAt_10 ?_
  refine va_mmax hx hb (hml.trans hl.1.symm) hown (hts (.methodLink RX1 89 Lib.Math.max.name) (by decide +kernel)) (hts (.static Lib.Math.max.name) (by decide +kernel)) (hts (.initialized "java/lang/Math") (by decide +kernel)) (hts (.code Lib.Math.max.name Lib.Math.max.code 2 (some .int)) (by decide +kernel)) (Nat.le_of_ble_eq_true rfl) (Nat.le_of_ble_eq_true rfl) (Nat.le_of_ble_eq_true rfl) (Nat.le_of_ble_eq_true rfl) dX1_boundAt_11 ?_
  refine xv_int (y := xMx a3 (a2 - rj q0)) (rfl) ?_
  refine va_mmin hx hb (hml.trans hl.1.symm) hown (hts (.methodLink RX1 94 Lib.Math.min.name) (by decide +kernel)) (hts (.static Lib.Math.min.name) (by decide +kernel)) (hts (.initialized "java/lang/Math") (by decide +kernel)) (hts (.code Lib.Math.min.name Lib.Math.min.code 2 (some .int)) (by decide +kernel)) (Nat.le_of_ble_eq_true rfl) (Nat.le_of_ble_eq_true rfl) (Nat.le_of_ble_eq_true rfl) (Nat.le_of_ble_eq_true rfl) dX1_boundAt_14 ?_
  refine xv_int (y := nI (xBn (rj q0) a2 a3)) (xBd_n hle) ?_
  exact W.iret (v := nI (xBn (rj q0) a2 a3)) hx hb hr (fun t ht hW => ⟨_, rfl, rfl, ht⟩) (fun _ h => absurd h List.not_mem_nil) dX1_boundAt_17

set_option maxHeartbeats 4000000 in
set_option maxRecDepth 100000 in
theorem g_X1_weightAt (l : Launch) (D : va_G) (cI cL cZ cC : ClassId) (pl : Nat) (p0 : Nat) (p1 : Nat) (p2 : Nat) (p3 : Nat) (p4 : Nat) (p5 : Nat) (lz : Nat) (rq : Int32) (q0 : Nat) (a2 : Int32) (rj : Nat → Int32) (wf : Nat → Int32) (hq0 : q0 ≤ 6) : Met l yX1_weightAt wsX1_weightAt ({ frames := 2, cells := 0, slots := 0, locals := 37 } : Room) (xPc D [.ref pl, .int (nI q0), .int a2] [(pl, .inr (1, [.ref p0, .ref p1, .ref p2, .ref p3, .ref p4, .ref p5, .int (nI lz), .int rq])), (p2, .inl (cI, 7, .inl rj)), (p1, .inl (cI, 13, .inl wf))] (xTy cI cL cZ cC)) (vp_Si (fun r : Int32 => r = wf (xBn (rj q0) a2 0))) 0 0 (fun _ => False) := by
  refine Met.ofW (cc := cX1_weightAt) (maxL := 3) (ret := (some .int)) (by decide) rfl ?_
  intro p e s m args below meth c s₁ B hml hv
  obtain ⟨rfl, hP, hK⟩ := hv
  have hx := B.exec
  have hb := B.bytes
  have hr := B.returns
  have hts := atoms_spec (ws := wsX1_weightAt) B.pre
  have hown : s.vm.findClass RX1 = some m.cls := findClass_of_methodNamed B.named
  have hlocks := B.notSynchronized
  have hwX1 : ∀ w ∈ u_ws RX1 TX1 8, w ∈ wsX1_weightAt := fun _ h => List.mem_cons_of_mem _ (List.mem_append_right _ h)
  have hl := lv_entry ([.ref pl, .int (nI q0), .int a2]) (n := 3) (Nat.le_of_ble_eq_true rfl)
  rw [lg_entry_eq]
  generalize (lg_sl ([.ref pl, .int (nI q0), .int a2]) ++ List.replicate (3 - (lg_sl ([.ref pl, .int (nI q0), .int a2])).length) Slot.unset).toArray = ls at hl ⊢
  have hl : lv_has ls 3 [(0, .ref pl), (1, .int (nI q0)), (2, .int a2)] := hl
  refine lv_aload_n hx hb dX1_weightAt_0 rfl (lv_at hl 0 rfl) ?_
  refine va_get (D := D) (ci := 1) (v := .ref p1) (C := RX1) (T := TX1) (N := 8) hx hb hts hwX1 hown hK hP 0 rfl rfl 1 (by decide) (hts (.fieldLink RX1 15 "WaitOrWalkOn$Plan" "weightFrom" "[I") (by decide +kernel)) (fun _ h9 => h9) rfl dX1_weightAt_1 ?_
  refine lv_aload_n hx hb dX1_weightAt_4 rfl (lv_at hl 0 rfl) ?_
  refine lv_iload_n hx hb dX1_weightAt_5 rfl (lv_at hl 1 rfl) ?_
  refine lv_iload_n hx hb dX1_weightAt_6 rfl (lv_at hl 2 rfl) ?_
  refine lv_iconst (v := 0) hx hb dX1_weightAt_7 (by decide) ?_
  have hPc := hP.sub (ws' := [(pl, .inr (1, [.ref p0, .ref p1, .ref p2, .ref p3, .ref p4, .ref p5, .int (nI lz), .int rq])), (p2, .inl (cI, 7, .inl rj))]) [0, 1] rfl
  refine vp_callSi (va_Run.run (va_runV (As := [.int (nI q0), .int a2, .int 0]) (rest := [.ref p1]) ⟨hx, hb, hml, hown, hts⟩ (g_X1_boundAt l D cI cL cZ cC pl p0 p1 p2 p3 p4 p5 lz rq q0 a2 0 rj (by first | assumption | decide +kernel) (by first | assumption | decide +kernel)) (cwV 3 hts gX1_weightAt_X1_boundAt rfl rfl rfl (by decide +kernel) ⟨Nat.le_of_ble_eq_true rfl, Nat.le_of_ble_eq_true rfl⟩) ⟨xPc_bl, va_recv hK hPc (ci := 1) (q0 := 0) rfl rfl, xPc_use hPc hK⟩ rfl rfl hl.1 rfl (lv_room (Nat.le_of_ble_eq_true rfl)) dX1_weightAt_8 ⟨Nat.le_of_ble_eq_true rfl, Nat.le_of_ble_eq_true rfl⟩)) (fun r_1 er_1 => ?_)
  obtain rfl : (nI (xBn (rj q0) a2 (0 : Int32)) : Int32) = r_1 := Eq.symm er_1
  refine va_iald (D := D) hx hb hK hP 2 0 rfl rfl (vp_in_nI (Nat.lt_succ_of_le (xBn_le _ _ _)) (by decide)) dX1_weightAt_11 ?_
  refine xv_int (y := wf (xBn (rj q0) a2 0)) (congrArg wf (nI_clamp (by have w := xBn_le (rj q0) a2 0; omega))) ?_
  exact W.iret (v := wf (xBn (rj q0) a2 0)) hx hb hr (fun t ht hW => ⟨_, rfl, rfl, ht⟩) (fun _ h => absurd h List.not_mem_nil) dX1_weightAt_12

set_option maxHeartbeats 4000000 in
set_option maxRecDepth 100000 in
theorem g_X1_sumAt (l : Launch) (D : va_G) (cI cL cZ cC : ClassId) (pl : Nat) (p0 : Nat) (p1 : Nat) (p2 : Nat) (p3 : Nat) (p4 : Nat) (p5 : Nat) (lz : Nat) (rq : Int32) (q0 : Nat) (m0 : Nat) (b0 : Nat) (sm : Nat → Int32) (wf : Nat → Int32) (wh : Nat → Int32) (hlz : lz ≤ 6) (hq0 : q0 ≤ 6) (hm0 : m0 ≤ 2000) (hb0 : b0 ≤ 12) : Met l yX1_sumAt wsX1_sumAt ({ frames := 1, cells := 0, slots := 0, locals := 22 } : Room) (xPc D [.ref pl, .int (nI q0), .int (nI m0), .int (nI b0)] [(pl, .inr (1, [.ref p0, .ref p1, .ref p2, .ref p3, .ref p4, .ref p5, .int (nI lz), .int rq])), (p0, .inl (cI, 5551, .inl sm)), (p1, .inl (cI, 13, .inl wf)), (p4, .inl (cI, 7, .inl wh))] (xTy cI cL cZ cC)) (vp_Si (fun r : Int32 => r = sSu lz sm wf wh q0 m0 b0)) 0 0 (fun _ => False) := by
  refine Met.ofW (cc := cX1_sumAt) (maxL := 4) (ret := (some .int)) (by decide) rfl ?_
  intro p e s m args below meth c s₁ B hml hv
  obtain ⟨rfl, hP, hK⟩ := hv
  have hx := B.exec
  have hb := B.bytes
  have hr := B.returns
  have hts := atoms_spec (ws := wsX1_sumAt) B.pre
  have hown : s.vm.findClass RX1 = some m.cls := findClass_of_methodNamed B.named
  have hlocks := B.notSynchronized
  have hwX1 : ∀ w ∈ u_ws RX1 TX1 8, w ∈ wsX1_sumAt := fun _ h => List.mem_cons_of_mem _ (List.mem_append_right _ h)
  have hl := lv_entry ([.ref pl, .int (nI q0), .int (nI m0), .int (nI b0)]) (n := 4) (Nat.le_of_ble_eq_true rfl)
  rw [lg_entry_eq]
  generalize (lg_sl ([.ref pl, .int (nI q0), .int (nI m0), .int (nI b0)]) ++ List.replicate (4 - (lg_sl ([.ref pl, .int (nI q0), .int (nI m0), .int (nI b0)])).length) Slot.unset).toArray = ls at hl ⊢
  have hl : lv_has ls 4 [(0, .ref pl), (1, .int (nI q0)), (2, .int (nI m0)), (3, .int (nI b0))] := hl
  refine lv_iload_n hx hb dX1_sumAt_0 rfl (lv_at hl 1 rfl) ?_
  refine lv_aload_n hx hb dX1_sumAt_1 rfl (lv_at hl 0 rfl) ?_
  refine va_get (D := D) (ci := 1) (v := .int (nI lz)) (C := RX1) (T := TX1) (N := 8) hx hb hts hwX1 hown hK hP 0 rfl rfl 6 (by decide) (hts (.fieldLink RX1 37 "WaitOrWalkOn$Plan" "last" "I") (by decide +kernel)) (fun _ h9 => h9) rfl dX1_sumAt_2 ?_
  refine lv_icmp_ge (tgt := 14) hx hb dX1_sumAt_5 (by decide) (fun c_1 => ?_) (fun c_1 => ?_)
  · refine lv_aload_n hx hb dX1_sumAt_14 rfl (lv_at hl 0 rfl) ?_
    refine va_get (D := D) (ci := 1) (v := .ref p1) (C := RX1) (T := TX1) (N := 8) hx hb hts hwX1 hown hK hP 0 rfl rfl 1 (by decide) (hts (.fieldLink RX1 15 "WaitOrWalkOn$Plan" "weightFrom" "[I") (by decide +kernel)) (fun _ h9 => h9) rfl dX1_sumAt_15 ?_
    refine lv_iload_n hx hb dX1_sumAt_18 rfl (lv_at hl 3 rfl) ?_
    refine va_iald (D := D) hx hb hK hP 2 0 rfl rfl (vp_in_nI (by omega) (by decide)) dX1_sumAt_19 ?_
    refine xv_int (y := wf b0) (congrArg wf (nI_clamp (by omega))) ?_
    refine lv_iload_n hx hb dX1_sumAt_20 rfl (lv_at hl 2 rfl) ?_
    refine lv_aload_n hx hb dX1_sumAt_21 rfl (lv_at hl 0 rfl) ?_
    refine va_get (D := D) (ci := 1) (v := .ref p4) (C := RX1) (T := TX1) (N := 8) hx hb hts hwX1 hown hK hP 0 rfl rfl 4 (by decide) (hts (.fieldLink RX1 24 "WaitOrWalkOn$Plan" "walkHome" "[I") (by decide +kernel)) (fun _ h9 => h9) rfl dX1_sumAt_22 ?_
    refine lv_iload_n hx hb dX1_sumAt_25 rfl (lv_at hl 1 rfl) ?_
    refine va_iald (D := D) hx hb hK hP 3 0 rfl rfl (vp_in_nI (by omega) (by decide)) dX1_sumAt_26 ?_
    refine xv_int (y := wh q0) (congrArg wh (nI_clamp (by omega))) ?_
    refine lv_iadd hx hb dX1_sumAt_27 ?_
    refine lv_imul hx hb dX1_sumAt_28 ?_
    exact W.iret (v := (wf b0) * ((nI m0) + (wh q0))) hx hb hr (fun t ht hW => ⟨_, rfl, (by have w1 := mt (nI_ltI (a := q0) (b := lz) (by omega) (by omega)).mpr (Int32.not_lt.mpr c_1); simp [sSu, w1]), ht⟩) (fun _ h => absurd h List.not_mem_nil) dX1_sumAt_29
  · refine lv_iload_n hx hb dX1_sumAt_8 rfl (lv_at hl 2 rfl) ?_
    refine lv_bipush (v := 60) hx hb dX1_sumAt_9 (by decide) ?_
    refine lv_icmp_le (tgt := 30) hx hb dX1_sumAt_11 (by decide) (fun c_2 => ?_) (fun c_2 => ?_)
    · refine lv_aload_n hx hb dX1_sumAt_30 rfl (lv_at hl 0 rfl) ?_
      refine va_get (D := D) (ci := 1) (v := .ref p0) (C := RX1) (T := TX1) (N := 8) hx hb hts hwX1 hown hK hP 0 rfl rfl 0 (by decide) (hts (.fieldLink RX1 11 "WaitOrWalkOn$Plan" "sums" "[I") (by decide +kernel)) (fun _ h9 => h9) rfl dX1_sumAt_31 ?_
      refine lv_iload_n hx hb dX1_sumAt_34 rfl (lv_at hl 1 rfl) ?_
      refine lv_iload_n hx hb dX1_sumAt_35 rfl (lv_at hl 2 rfl) ?_
      refine lv_iload_n hx hb dX1_sumAt_36 rfl (lv_at hl 3 rfl) ?_
      have hPc := hP.sub (ws' := []) [] rfl
      refine vp_callSi (va_Run.run (va_runS (As := [.int (nI q0), .int (nI m0), .int (nI b0)]) (rest := [.ref p0]) ⟨hx, hb, hml, hown, hts⟩ (g_X1_index l D cI cL cZ cC (nI q0) (nI m0) (nI b0) ) (va_cwS 3 hts gX1_sumAt_X1_index rfl rfl rfl (by decide +kernel) ⟨Nat.le_of_ble_eq_true rfl, Nat.le_of_ble_eq_true rfl⟩) ⟨xPc_bl, xPc_use hPc hK⟩ rfl rfl hl.1 rfl (lv_room (Nat.le_of_ble_eq_true rfl)) dX1_sumAt_37 ⟨Nat.le_of_ble_eq_true rfl, Nat.le_of_ble_eq_true rfl⟩)) (fun r_3 er_3 => ?_)
      obtain rfl : (((nI q0) * 61 + (nI m0)) * 13 + (nI b0) : Int32) = r_3 := Eq.symm er_3
      refine xv_int (y := nI ((q0 * 61 + m0) * 13 + b0)) (pk_idx q0 m0 b0) ?_
      refine va_iald (D := D) hx hb hK hP 1 0 rfl rfl (vp_in_nI (by have w1 := (nI_ltI (a := q0) (b := lz) (by omega) (by omega)).mp (Int32.not_le.mp c_1); have w2 := mt (nI_ltI (a := 60) (b := m0) (by decide) (by omega)).mpr (Int32.not_lt.mpr c_2); omega) (by decide)) dX1_sumAt_40 ?_
      refine xv_int (y := sm ((q0 * 61 + m0) * 13 + b0)) (congrArg sm (nI_clamp (by have w1 := (nI_ltI (a := q0) (b := lz) (by omega) (by omega)).mp (Int32.not_le.mp c_1); have w2 := mt (nI_ltI (a := 60) (b := m0) (by decide) (by omega)).mpr (Int32.not_lt.mpr c_2); omega))) ?_
      exact W.iret (v := sm ((q0 * 61 + m0) * 13 + b0)) hx hb hr (fun t ht hW => ⟨_, rfl, (by have w1 := (nI_ltI (a := q0) (b := lz) (by omega) (by omega)).mp (Int32.not_le.mp c_1); have w2 := mt (nI_ltI (a := 60) (b := m0) (by decide) (by omega)).mpr (Int32.not_lt.mpr c_2); simp [sSu, w1, w2]), ht⟩) (fun _ h => absurd h List.not_mem_nil) dX1_sumAt_41
    · refine lv_aload_n hx hb dX1_sumAt_14 rfl (lv_at hl 0 rfl) ?_
      refine va_get (D := D) (ci := 1) (v := .ref p1) (C := RX1) (T := TX1) (N := 8) hx hb hts hwX1 hown hK hP 0 rfl rfl 1 (by decide) (hts (.fieldLink RX1 15 "WaitOrWalkOn$Plan" "weightFrom" "[I") (by decide +kernel)) (fun _ h9 => h9) rfl dX1_sumAt_15 ?_
      refine lv_iload_n hx hb dX1_sumAt_18 rfl (lv_at hl 3 rfl) ?_
      refine va_iald (D := D) hx hb hK hP 2 0 rfl rfl (vp_in_nI (by omega) (by decide)) dX1_sumAt_19 ?_
      refine xv_int (y := wf b0) (congrArg wf (nI_clamp (by omega))) ?_
      refine lv_iload_n hx hb dX1_sumAt_20 rfl (lv_at hl 2 rfl) ?_
      refine lv_aload_n hx hb dX1_sumAt_21 rfl (lv_at hl 0 rfl) ?_
      refine va_get (D := D) (ci := 1) (v := .ref p4) (C := RX1) (T := TX1) (N := 8) hx hb hts hwX1 hown hK hP 0 rfl rfl 4 (by decide) (hts (.fieldLink RX1 24 "WaitOrWalkOn$Plan" "walkHome" "[I") (by decide +kernel)) (fun _ h9 => h9) rfl dX1_sumAt_22 ?_
      refine lv_iload_n hx hb dX1_sumAt_25 rfl (lv_at hl 1 rfl) ?_
      refine va_iald (D := D) hx hb hK hP 3 0 rfl rfl (vp_in_nI (by omega) (by decide)) dX1_sumAt_26 ?_
      refine xv_int (y := wh q0) (congrArg wh (nI_clamp (by omega))) ?_
      refine lv_iadd hx hb dX1_sumAt_27 ?_
      refine lv_imul hx hb dX1_sumAt_28 ?_
      exact W.iret (v := (wf b0) * ((nI m0) + (wh q0))) hx hb hr (fun t ht hW => ⟨_, rfl, (by have w1 := (nI_ltI (a := q0) (b := lz) (by omega) (by omega)).mp (Int32.not_le.mp c_1); have w2 := (nI_ltI (a := 60) (b := m0) (by decide) (by omega)).mp (Int32.not_le.mp c_2); simp [sSu, w1, w2]), ht⟩) (fun _ h => absurd h List.not_mem_nil) dX1_sumAt_29

set_option maxHeartbeats 4000000 in
set_option maxRecDepth 100000 in
theorem g_X1_leastAt (l : Launch) (D : va_G) (cI cL cZ cC : ClassId) (pl : Nat) (p0 : Nat) (p1 : Nat) (p2 : Nat) (p3 : Nat) (p4 : Nat) (p5 : Nat) (lz : Nat) (rq : Int32) (q0 : Nat) (m0 : Nat) (rj : Nat → Int32) (sm : Nat → Int32) (wf : Nat → Int32) (wh : Nat → Int32) (hlz : lz ≤ 6) (hq0 : q0 ≤ 6) (hm0 : m0 ≤ 2000) : Met l yX1_leastAt wsX1_leastAt ({ frames := 2, cells := 0, slots := 0, locals := 45 } : Room) (xPc D [.ref pl, .int (nI q0), .int (nI m0)] [(pl, .inr (1, [.ref p0, .ref p1, .ref p2, .ref p3, .ref p4, .ref p5, .int (nI lz), .int rq])), (p0, .inl (cI, 5551, .inl sm)), (p1, .inl (cI, 13, .inl wf)), (p4, .inl (cI, 7, .inl wh)), (p2, .inl (cI, 7, .inl rj))] (xTy cI cL cZ cC)) (vp_Si (fun r : Int32 => r = sSu lz sm wf wh q0 m0 (xBn (rj q0) (nI m0) 0))) 0 0 (fun _ => False) := by
  refine Met.ofW (cc := cX1_leastAt) (maxL := 3) (ret := (some .int)) (by decide) rfl ?_
  intro p e s m args below meth c s₁ B hml hv
  obtain ⟨rfl, hP, hK⟩ := hv
  have hx := B.exec
  have hb := B.bytes
  have hr := B.returns
  have hts := atoms_spec (ws := wsX1_leastAt) B.pre
  have hown : s.vm.findClass RX1 = some m.cls := findClass_of_methodNamed B.named
  have hlocks := B.notSynchronized
  have hl := lv_entry ([.ref pl, .int (nI q0), .int (nI m0)]) (n := 3) (Nat.le_of_ble_eq_true rfl)
  rw [lg_entry_eq]
  generalize (lg_sl ([.ref pl, .int (nI q0), .int (nI m0)]) ++ List.replicate (3 - (lg_sl ([.ref pl, .int (nI q0), .int (nI m0)])).length) Slot.unset).toArray = ls at hl ⊢
  have hl : lv_has ls 3 [(0, .ref pl), (1, .int (nI q0)), (2, .int (nI m0))] := hl
  refine lv_aload_n hx hb dX1_leastAt_0 rfl (lv_at hl 0 rfl) ?_
  refine lv_iload_n hx hb dX1_leastAt_1 rfl (lv_at hl 1 rfl) ?_
  refine lv_iload_n hx hb dX1_leastAt_2 rfl (lv_at hl 2 rfl) ?_
  refine lv_aload_n hx hb dX1_leastAt_3 rfl (lv_at hl 0 rfl) ?_
  refine lv_iload_n hx hb dX1_leastAt_4 rfl (lv_at hl 1 rfl) ?_
  refine lv_iload_n hx hb dX1_leastAt_5 rfl (lv_at hl 2 rfl) ?_
  refine lv_iconst (v := 0) hx hb dX1_leastAt_6 (by decide) ?_
  have hPc := hP.sub (ws' := [(pl, .inr (1, [.ref p0, .ref p1, .ref p2, .ref p3, .ref p4, .ref p5, .int (nI lz), .int rq])), (p2, .inl (cI, 7, .inl rj))]) [0, 4] rfl
  refine vp_callSi (va_Run.run (va_runV (As := [.int (nI q0), .int (nI m0), .int 0]) (rest := [.int (nI m0), .int (nI q0), .ref pl]) ⟨hx, hb, hml, hown, hts⟩ (g_X1_boundAt l D cI cL cZ cC pl p0 p1 p2 p3 p4 p5 lz rq q0 (nI m0) 0 rj (by first | assumption | decide +kernel) (by first | assumption | decide +kernel)) (cwV 3 hts gX1_leastAt_X1_boundAt rfl rfl rfl (by decide +kernel) ⟨Nat.le_of_ble_eq_true rfl, Nat.le_of_ble_eq_true rfl⟩) ⟨xPc_bl, va_recv hK hPc (ci := 1) (q0 := 0) rfl rfl, xPc_use hPc hK⟩ rfl rfl hl.1 rfl (lv_room (Nat.le_of_ble_eq_true rfl)) dX1_leastAt_7 ⟨Nat.le_of_ble_eq_true rfl, Nat.le_of_ble_eq_true rfl⟩)) (fun r_1 er_1 => ?_)
  obtain rfl : (nI (xBn (rj q0) (nI m0) (0 : Int32)) : Int32) = r_1 := Eq.symm er_1
  have hPc := hP.sub (ws' := [(pl, .inr (1, [.ref p0, .ref p1, .ref p2, .ref p3, .ref p4, .ref p5, .int (nI lz), .int rq])), (p0, .inl (cI, 5551, .inl sm)), (p1, .inl (cI, 13, .inl wf)), (p4, .inl (cI, 7, .inl wh))]) [0, 1, 2, 3] rfl
  refine vp_callSi (va_Run.run (va_runV (As := [.int (nI q0), .int (nI m0), .int (nI (xBn (rj q0) (nI m0) (0 : Int32)))]) (rest := []) ⟨hx, hb, hml, hown, hts⟩ (g_X1_sumAt l D cI cL cZ cC pl p0 p1 p2 p3 p4 p5 lz rq q0 m0 (xBn (rj q0) (nI m0) 0) sm wf wh (by first | assumption | decide +kernel) (by first | assumption | decide +kernel) (by first | assumption | decide +kernel) (xBn_le _ _ _)) (cwV 3 hts gX1_leastAt_X1_sumAt rfl rfl rfl (by decide +kernel) ⟨Nat.le_of_ble_eq_true rfl, Nat.le_of_ble_eq_true rfl⟩) ⟨xPc_bl, va_recv hK hPc (ci := 1) (q0 := 0) rfl rfl, xPc_use hPc hK⟩ rfl rfl hl.1 rfl (lv_room (Nat.le_of_ble_eq_true rfl)) dX1_leastAt_10 ⟨Nat.le_of_ble_eq_true rfl, Nat.le_of_ble_eq_true rfl⟩)) (fun r_2 er_2 => ?_)
  obtain rfl : (sSu lz sm wf wh q0 m0 (xBn (rj q0) (nI m0) 0) : Int32) = r_2 := Eq.symm er_2
  exact W.iret (v := sSu lz sm wf wh q0 m0 (xBn (rj q0) (nI m0) 0)) hx hb hr (fun t ht hW => ⟨_, rfl, rfl, ht⟩) (fun _ h => absurd h List.not_mem_nil) dX1_leastAt_13

set_option maxHeartbeats 4000000 in
set_option maxRecDepth 100000 in
theorem g_X1_walkSum (l : Launch) (D : va_G) (cI cL cZ cC : ClassId) (pl : Nat) (p0 : Nat) (p1 : Nat) (p2 : Nat) (p3 : Nat) (p4 : Nat) (p5 : Nat) (lz : Nat) (rq : Int32) (q0 : Nat) (m0 : Nat) (b0 : Nat) (wn : Nat → Nat) (rj : Nat → Int32) (sm : Nat → Int32) (wf : Nat → Int32) (wh : Nat → Int32) (hlz : lz ≤ 6) (hq0 : q0 ≤ 5) (hm0 : m0 ≤ 1000) (hb0 : b0 ≤ 12) (hwn : wn q0 ≤ 1000) : Met l yX1_walkSum wsX1_walkSum ({ frames := 2, cells := 0, slots := 0, locals := 45 } : Room) (xPc D [.ref pl, .int (nI q0), .int (nI m0), .int (nI b0)] [(pl, .inr (1, [.ref p0, .ref p1, .ref p2, .ref p3, .ref p4, .ref p5, .int (nI lz), .int rq])), (p0, .inl (cI, 5551, .inl sm)), (p1, .inl (cI, 13, .inl wf)), (p2, .inl (cI, 7, .inl rj)), (p3, .inl (cI, 7, .inl (fun i => nI (wn i)))), (p4, .inl (cI, 7, .inl wh))] (xTy cI cL cZ cC)) (vp_Si (fun r : Int32 => r = (wf b0 - wf (xBn (rj (q0 + 1)) (nI (m0 + wn q0)) (nI b0))) * (nI m0 + wh q0) + sSu lz sm wf wh (q0 + 1) (m0 + wn q0) (xBn (rj (q0 + 1)) (nI (m0 + wn q0)) (nI b0)))) 0 0 (fun _ => False) := by
  refine Met.ofW (cc := cX1_walkSum) (maxL := 7) (ret := (some .int)) (by decide) rfl ?_
  intro p e s m args below meth c s₁ B hml hv
  obtain ⟨rfl, hP, hK⟩ := hv
  have hx := B.exec
  have hb := B.bytes
  have hr := B.returns
  have hts := atoms_spec (ws := wsX1_walkSum) B.pre
  have hown : s.vm.findClass RX1 = some m.cls := findClass_of_methodNamed B.named
  have hlocks := B.notSynchronized
  have hwX1 : ∀ w ∈ u_ws RX1 TX1 8, w ∈ wsX1_walkSum := fun _ h => List.mem_cons_of_mem _ (List.mem_append_right _ h)
  have hl := lv_entry ([.ref pl, .int (nI q0), .int (nI m0), .int (nI b0)]) (n := 7) (Nat.le_of_ble_eq_true rfl)
  rw [lg_entry_eq]
  generalize (lg_sl ([.ref pl, .int (nI q0), .int (nI m0), .int (nI b0)]) ++ List.replicate (7 - (lg_sl ([.ref pl, .int (nI q0), .int (nI m0), .int (nI b0)])).length) Slot.unset).toArray = ls at hl ⊢
  have hl : lv_has ls 7 [(0, .ref pl), (1, .int (nI q0)), (2, .int (nI m0)), (3, .int (nI b0))] := hl
  refine lv_iload_n hx hb dX1_walkSum_0 rfl (lv_at hl 2 rfl) ?_
  refine lv_aload_n hx hb dX1_walkSum_1 rfl (lv_at hl 0 rfl) ?_
  refine va_get (D := D) (ci := 1) (v := .ref p3) (C := RX1) (T := TX1) (N := 8) hx hb hts hwX1 hown hK hP 0 rfl rfl 3 (by decide) (hts (.fieldLink RX1 21 "WaitOrWalkOn$Plan" "walk" "[I") (by decide +kernel)) (fun _ h9 => h9) rfl dX1_walkSum_2 ?_
  refine lv_iload_n hx hb dX1_walkSum_5 rfl (lv_at hl 1 rfl) ?_
  refine va_iald (D := D) hx hb hK hP 4 0 rfl rfl (vp_in_nI (by omega) (by decide)) dX1_walkSum_6 ?_
  refine xv_int (y := nI (wn q0)) (congrArg (fun i => nI (wn i)) (nI_clamp (by omega))) ?_
  refine lv_iadd hx hb dX1_walkSum_7 ?_
  refine xv_int (y := nI (m0 + wn q0)) (nI_add _ _) ?_
  refine lv_istore (lv' := [(4, .int (nI (m0 + wn q0))), (0, .ref pl), (1, .int (nI q0)), (2, .int (nI m0)), (3, .int (nI b0))]) hx hb dX1_walkSum_8 hl (by decide) rfl (fun ls hl => ?_)
  refine lv_aload_n hx hb dX1_walkSum_10 rfl (lv_at hl 1 rfl) ?_
  refine lv_iload_n hx hb dX1_walkSum_11 rfl (lv_at hl 2 rfl) ?_
  refine lv_iconst (v := 1) hx hb dX1_walkSum_12 (by decide) ?_
  refine lv_iadd hx hb dX1_walkSum_13 ?_
  refine xv_int (y := nI (q0 + 1)) (nI_1 q0) ?_
  refine lv_iload hx hb dX1_walkSum_14 (lv_at hl 0 rfl) ?_
  refine lv_iload_n hx hb dX1_walkSum_16 rfl (lv_at hl 4 rfl) ?_
  have hPc := hP.sub (ws' := [(pl, .inr (1, [.ref p0, .ref p1, .ref p2, .ref p3, .ref p4, .ref p5, .int (nI lz), .int rq])), (p2, .inl (cI, 7, .inl rj))]) [0, 3] rfl
  refine vp_callSi (va_Run.run (va_runV (As := [.int (nI (q0 + 1)), .int (nI (m0 + wn q0)), .int (nI b0)]) (rest := []) ⟨hx, hb, hml, hown, hts⟩ (g_X1_boundAt l D cI cL cZ cC pl p0 p1 p2 p3 p4 p5 lz rq (q0 + 1) (nI (m0 + wn q0)) (nI b0) rj (by omega) (xNn (by omega))) (cwV 3 hts gX1_walkSum_X1_boundAt rfl rfl rfl (by decide +kernel) ⟨Nat.le_of_ble_eq_true rfl, Nat.le_of_ble_eq_true rfl⟩) ⟨xPc_bl, va_recv hK hPc (ci := 1) (q0 := 0) rfl rfl, xPc_use hPc hK⟩ rfl rfl hl.1 rfl (lv_room (Nat.le_of_ble_eq_true rfl)) dX1_walkSum_17 ⟨Nat.le_of_ble_eq_true rfl, Nat.le_of_ble_eq_true rfl⟩)) (fun r_1 er_1 => ?_)
  obtain rfl : (nI (xBn (rj (q0 + 1)) (nI (m0 + wn q0)) (nI b0)) : Int32) = r_1 := Eq.symm er_1
  refine lv_istore (lv' := [(5, .int (nI (xBn (rj (q0 + 1)) (nI (m0 + wn q0)) (nI b0)))), (4, .int (nI (m0 + wn q0))), (0, .ref pl), (1, .int (nI q0)), (2, .int (nI m0)), (3, .int (nI b0))]) hx hb dX1_walkSum_20 hl (by decide) rfl (fun ls hl => ?_)
  refine lv_aload_n hx hb dX1_walkSum_22 rfl (lv_at hl 2 rfl) ?_
  refine va_get (D := D) (ci := 1) (v := .ref p1) (C := RX1) (T := TX1) (N := 8) hx hb hts hwX1 hown hK hP 0 rfl rfl 1 (by decide) (hts (.fieldLink RX1 15 "WaitOrWalkOn$Plan" "weightFrom" "[I") (by decide +kernel)) (fun _ h9 => h9) rfl dX1_walkSum_23 ?_
  refine lv_iload_n hx hb dX1_walkSum_26 rfl (lv_at hl 5 rfl) ?_
  refine va_iald (D := D) hx hb hK hP 2 0 rfl rfl (vp_in_nI (by omega) (by decide)) dX1_walkSum_27 ?_
  refine xv_int (y := wf b0) (congrArg wf (nI_clamp (by omega))) ?_
  refine lv_aload_n hx hb dX1_walkSum_28 rfl (lv_at hl 2 rfl) ?_
  refine va_get (D := D) (ci := 1) (v := .ref p1) (C := RX1) (T := TX1) (N := 8) hx hb hts hwX1 hown hK hP 0 rfl rfl 1 (by decide) (hts (.fieldLink RX1 15 "WaitOrWalkOn$Plan" "weightFrom" "[I") (by decide +kernel)) (fun _ h9 => h9) rfl dX1_walkSum_29 ?_
  refine lv_iload hx hb dX1_walkSum_32 (lv_at hl 0 rfl) ?_
  refine va_iald (D := D) hx hb hK hP 2 0 rfl rfl (vp_in_nI (Nat.lt_succ_of_le (xBn_le _ _ _)) (by decide)) dX1_walkSum_34 ?_
  refine xv_int (y := wf (xBn (rj (q0 + 1)) (nI (m0 + wn q0)) (nI b0))) (congrArg wf (nI_clamp (by have w := xBn_le (rj (q0 + 1)) (nI (m0 + wn q0)) (nI b0); omega))) ?_
  refine lv_isub hx hb dX1_walkSum_35 ?_
  refine lv_istore (lv' := [(6, .int ((wf b0) - (wf (xBn (rj (q0 + 1)) (nI (m0 + wn q0)) (nI b0))))), (5, .int (nI (xBn (rj (q0 + 1)) (nI (m0 + wn q0)) (nI b0)))), (4, .int (nI (m0 + wn q0))), (0, .ref pl), (1, .int (nI q0)), (2, .int (nI m0)), (3, .int (nI b0))]) hx hb dX1_walkSum_36 hl (by decide) rfl (fun ls hl => ?_)
  refine lv_iload hx hb dX1_walkSum_38 (lv_at hl 0 rfl) ?_
  refine lv_iload_n hx hb dX1_walkSum_40 rfl (lv_at hl 5 rfl) ?_
  refine lv_aload_n hx hb dX1_walkSum_41 rfl (lv_at hl 3 rfl) ?_
  refine va_get (D := D) (ci := 1) (v := .ref p4) (C := RX1) (T := TX1) (N := 8) hx hb hts hwX1 hown hK hP 0 rfl rfl 4 (by decide) (hts (.fieldLink RX1 24 "WaitOrWalkOn$Plan" "walkHome" "[I") (by decide +kernel)) (fun _ h9 => h9) rfl dX1_walkSum_42 ?_
  refine lv_iload_n hx hb dX1_walkSum_45 rfl (lv_at hl 4 rfl) ?_
  refine va_iald (D := D) hx hb hK hP 5 0 rfl rfl (vp_in_nI (by omega) (by decide)) dX1_walkSum_46 ?_
  refine xv_int (y := wh q0) (congrArg wh (nI_clamp (by omega))) ?_
  refine lv_iadd hx hb dX1_walkSum_47 ?_
  refine lv_imul hx hb dX1_walkSum_48 ?_
  refine lv_aload_n hx hb dX1_walkSum_49 rfl (lv_at hl 3 rfl) ?_
  refine lv_iload_n hx hb dX1_walkSum_50 rfl (lv_at hl 4 rfl) ?_
  refine lv_iconst (v := 1) hx hb dX1_walkSum_51 (by decide) ?_
  refine lv_iadd hx hb dX1_walkSum_52 ?_
  refine xv_int (y := nI (q0 + 1)) (nI_1 q0) ?_
  refine lv_iload hx hb dX1_walkSum_53 (lv_at hl 2 rfl) ?_
  refine lv_iload hx hb dX1_walkSum_55 (lv_at hl 1 rfl) ?_
  have hPc := hP.sub (ws' := [(pl, .inr (1, [.ref p0, .ref p1, .ref p2, .ref p3, .ref p4, .ref p5, .int (nI lz), .int rq])), (p0, .inl (cI, 5551, .inl sm)), (p1, .inl (cI, 13, .inl wf)), (p4, .inl (cI, 7, .inl wh))]) [0, 1, 2, 5] rfl
  refine vp_callSi (va_Run.run (va_runV (As := [.int (nI (q0 + 1)), .int (nI (m0 + wn q0)), .int (nI (xBn (rj (q0 + 1)) (nI (m0 + wn q0)) (nI b0)))]) (rest := [.int (((wf b0) - (wf (xBn (rj (q0 + 1)) (nI (m0 + wn q0)) (nI b0)))) * ((nI m0) + (wh q0)))]) ⟨hx, hb, hml, hown, hts⟩ (g_X1_sumAt l D cI cL cZ cC pl p0 p1 p2 p3 p4 p5 lz rq (q0 + 1) (m0 + wn q0) (xBn (rj (q0 + 1)) (nI (m0 + wn q0)) (nI b0)) sm wf wh (by first | assumption | decide +kernel) (by omega) (by omega) (xBn_le _ _ _)) (cwV 3 hts gX1_walkSum_X1_sumAt rfl rfl rfl (by decide +kernel) ⟨Nat.le_of_ble_eq_true rfl, Nat.le_of_ble_eq_true rfl⟩) ⟨xPc_bl, va_recv hK hPc (ci := 1) (q0 := 0) rfl rfl, xPc_use hPc hK⟩ rfl rfl hl.1 rfl (lv_room (Nat.le_of_ble_eq_true rfl)) dX1_walkSum_57 ⟨Nat.le_of_ble_eq_true rfl, Nat.le_of_ble_eq_true rfl⟩)) (fun r_2 er_2 => ?_)
  obtain rfl : (sSu lz sm wf wh (q0 + 1) (m0 + wn q0) (xBn (rj (q0 + 1)) (nI (m0 + wn q0)) (nI b0)) : Int32) = r_2 := Eq.symm er_2
  refine lv_iadd hx hb dX1_walkSum_60 ?_
  exact W.iret (v := (((wf b0) - (wf (xBn (rj (q0 + 1)) (nI (m0 + wn q0)) (nI b0)))) * ((nI m0) + (wh q0))) + (sSu lz sm wf wh (q0 + 1) (m0 + wn q0) (xBn (rj (q0 + 1)) (nI (m0 + wn q0)) (nI b0)))) hx hb hr (fun t ht hW => ⟨_, rfl, rfl, ht⟩) (fun _ h => absurd h List.not_mem_nil) dX1_walkSum_61

/-! the plan: a choice, a least sum -/
def xMn (x y : Int32) : Int32 := if y < x then y else x
def xWk (lz : Nat) (sm wf rj : Nat → Int32) (wn : Nat → Nat) (wh : Nat → Int32) (p m b : Nat) : Int32 :=
  (wf b - wf (xBn (rj (p + 1)) (nI (m + wn p)) (nI b))) * (nI m + wh p) + sSu lz sm wf wh (p + 1) (m + wn p) (xBn (rj (p + 1)) (nI (m + wn p)) (nI b))
def xCh9 (lz : Nat) (sm wf rj : Nat → Int32) (wn : Nat → Nat) (wh : Nat → Int32) (p m : Nat) : Int32 :=
  if wf (xBn (rj p) (nI m) 0) = 0 then -9 else if p < lz then (if m < 60 then (if (wf (xBn (rj p) (nI (m + 1)) 0) - wf (xBn (rj (p + 1)) (nI (m + wn p)) (nI (xBn (rj p) (nI (m + 1)) 0)))) * (nI m + wh p) + sSu lz sm wf wh (p + 1) (m + wn p) (xBn (rj (p + 1)) (nI (m + wn p)) (nI (xBn (rj p) (nI (m + 1)) 0))) < sSu lz sm wf wh p (m + 1) (xBn (rj p) (nI (m + 1)) 0) then 1 else 0) else 1) else 1
def xW9 (wf : Nat → Int32) (t : Int32) (b : Nat) : Int32 := if t < nI b then 0 else if t < 12 then wf t.toNatClampNeg - wf (t + 1).toNatClampNeg else 0
theorem xInT {t : Int32} {b : Nat} (hb : b < 2 ^ 31) (h1 : ¬ t < nI b) (h2 : t < 12) : vp_in t 13 ∧ vp_in (t + 1) 13 := by
  have e0 : (0 : Int32).toInt = 0 := by decide
  have e12 : (12 : Int32).toInt = 12 := by decide
  obtain ⟨k, rfl, hk⟩ := xInN (a := t) (n := 11) (by decide) (by rw [xi_lt, nI_toInt hb] at h1; rw [xi_lt]; omega) (by rw [xi_lt] at h2; rw [xi_lt, nI_toInt (by decide)]; omega)
  exact ⟨vp_in_nI (by omega) (by decide), by rw [nI_1]; exact vp_in_nI (by omega) (by decide)⟩
def xLs (lz : Nat) (rq : Int32) (sm wf rj : Nat → Int32) (wn : Nat → Nat) (wh hz : Nat → Int32) (p m b : Nat) : Int32 :=
  xW9 wf (nI m - rj p) b * (if hz p = 0 then nI m + wh p else nI m - rj p + rq) +
    (if m < 60 then xMn (sSu lz sm wf wh p (m + 1) (xBn (rj p) (nI (m + 1)) (nI b))) (xWk lz sm wf rj wn wh p m (xBn (rj p) (nI (m + 1)) (nI b))) else (wf b - xW9 wf (nI m - rj p) b) * (nI m + wh p))

set_option maxHeartbeats 4000000 in
set_option maxRecDepth 100000 in
theorem g_X1_choice (l : Launch) (D : va_G) (cI cL cZ cC : ClassId) (pl : Nat) (p0 : Nat) (p1 : Nat) (p2 : Nat) (p3 : Nat) (p4 : Nat) (p5 : Nat) (lz : Nat) (rq : Int32) (q0 : Nat) (m0 : Nat) (wn : Nat → Nat) (rj : Nat → Int32) (sm : Nat → Int32) (wf : Nat → Int32) (wh : Nat → Int32) (hlz : lz ≤ 6) (hq0 : q0 ≤ 6) (hm0 : m0 ≤ 60) (hwn : ∀ i, i ≤ 6 → wn i ≤ 1000) : Met l yX1_choice wsX1_choice ({ frames := 3, cells := 0, slots := 0, locals := 71 } : Room) (xPc D [.ref pl, .int (nI q0), .int (nI m0)] [(pl, .inr (1, [.ref p0, .ref p1, .ref p2, .ref p3, .ref p4, .ref p5, .int (nI lz), .int rq])), (p0, .inl (cI, 5551, .inl sm)), (p1, .inl (cI, 13, .inl wf)), (p2, .inl (cI, 7, .inl rj)), (p3, .inl (cI, 7, .inl (fun i => nI (wn i)))), (p4, .inl (cI, 7, .inl wh))] (xTy cI cL cZ cC)) (vp_Si (fun r : Int32 => r = xCh9 lz sm wf rj wn wh q0 m0)) 0 0 (fun _ => False) := by
  refine Met.ofW (cc := cX1_choice) (maxL := 4) (ret := (some .int)) (by decide) rfl ?_
  intro p e s m args below meth c s₁ B hml hv
  obtain ⟨rfl, hP, hK⟩ := hv
  have hx := B.exec
  have hb := B.bytes
  have hr := B.returns
  have hts := atoms_spec (ws := wsX1_choice) B.pre
  have hown : s.vm.findClass RX1 = some m.cls := findClass_of_methodNamed B.named
  have hlocks := B.notSynchronized
  have hwX1 : ∀ w ∈ u_ws RX1 TX1 8, w ∈ wsX1_choice := fun _ h => List.mem_cons_of_mem _ (List.mem_append_right _ h)
  have hl := lv_entry ([.ref pl, .int (nI q0), .int (nI m0)]) (n := 4) (Nat.le_of_ble_eq_true rfl)
  rw [lg_entry_eq]
  generalize (lg_sl ([.ref pl, .int (nI q0), .int (nI m0)]) ++ List.replicate (4 - (lg_sl ([.ref pl, .int (nI q0), .int (nI m0)])).length) Slot.unset).toArray = ls at hl ⊢
  have hl : lv_has ls 4 [(0, .ref pl), (1, .int (nI q0)), (2, .int (nI m0))] := hl
  refine lv_aload_n hx hb dX1_choice_0 rfl (lv_at hl 0 rfl) ?_
  refine lv_iload_n hx hb dX1_choice_1 rfl (lv_at hl 1 rfl) ?_
  refine lv_iload_n hx hb dX1_choice_2 rfl (lv_at hl 2 rfl) ?_
  have hPc := hP.sub (ws' := [(pl, .inr (1, [.ref p0, .ref p1, .ref p2, .ref p3, .ref p4, .ref p5, .int (nI lz), .int rq])), (p2, .inl (cI, 7, .inl rj)), (p1, .inl (cI, 13, .inl wf))]) [0, 3, 2] rfl
  refine vp_callSi (va_Run.run (va_runV (As := [.int (nI q0), .int (nI m0)]) (rest := []) ⟨hx, hb, hml, hown, hts⟩ (g_X1_weightAt l D cI cL cZ cC pl p0 p1 p2 p3 p4 p5 lz rq q0 (nI m0) rj wf (by first | assumption | decide +kernel)) (cwV 2 hts gX1_choice_X1_weightAt rfl rfl rfl (by decide +kernel) ⟨Nat.le_of_ble_eq_true rfl, Nat.le_of_ble_eq_true rfl⟩) ⟨xPc_bl, va_recv hK hPc (ci := 1) (q0 := 0) rfl rfl, xPc_use hPc hK⟩ rfl rfl hl.1 rfl (lv_room (Nat.le_of_ble_eq_true rfl)) dX1_choice_3 ⟨Nat.le_of_ble_eq_true rfl, Nat.le_of_ble_eq_true rfl⟩)) (fun r_1 er_1 => ?_)
  obtain rfl : (wf (xBn (rj q0) (nI m0) 0) : Int32) = r_1 := Eq.symm er_1
  refine lv_if_ne (tgt := 12) hx hb dX1_choice_6 (by decide) (fun c_2 => ?_) (fun c_2 => ?_)
  · refine lv_iload_n hx hb dX1_choice_12 rfl (lv_at hl 1 rfl) ?_
    refine lv_aload_n hx hb dX1_choice_13 rfl (lv_at hl 0 rfl) ?_
    refine va_get (D := D) (ci := 1) (v := .int (nI lz)) (C := RX1) (T := TX1) (N := 8) hx hb hts hwX1 hown hK hP 0 rfl rfl 6 (by decide) (hts (.fieldLink RX1 37 "WaitOrWalkOn$Plan" "last" "I") (by decide +kernel)) (fun _ h9 => h9) rfl dX1_choice_14 ?_
    refine lv_icmp_ge (tgt := 26) hx hb dX1_choice_17 (by decide) (fun c_3 => ?_) (fun c_3 => ?_)
    · refine lv_iconst (v := 1) hx hb dX1_choice_26 (by decide) ?_
      exact W.iret (v := 1) hx hb hr (fun t ht hW => ⟨_, rfl, (by have w1 := mt (nI_ltI (a := q0) (b := lz) (by omega) (by omega)).mpr (Int32.not_lt.mpr c_3); simp [xCh9, c_2, w1]), ht⟩) (fun _ h => absurd h List.not_mem_nil) dX1_choice_27
    · refine lv_iload_n hx hb dX1_choice_20 rfl (lv_at hl 2 rfl) ?_
      refine lv_bipush (v := 60) hx hb dX1_choice_21 (by decide) ?_
      refine lv_icmp_lt (tgt := 28) hx hb dX1_choice_23 (by decide) (fun c_4 => ?_) (fun c_4 => ?_)
      · refine lv_aload_n hx hb dX1_choice_28 rfl (lv_at hl 0 rfl) ?_
        refine lv_iload_n hx hb dX1_choice_29 rfl (lv_at hl 1 rfl) ?_
        refine lv_iload_n hx hb dX1_choice_30 rfl (lv_at hl 2 rfl) ?_
        refine lv_iconst (v := 1) hx hb dX1_choice_31 (by decide) ?_
        refine lv_iadd hx hb dX1_choice_32 ?_
        refine xv_int (y := nI (m0 + 1)) (nI_1 m0) ?_
        refine lv_iconst (v := 0) hx hb dX1_choice_33 (by decide) ?_
        have hPc := hP.sub (ws' := [(pl, .inr (1, [.ref p0, .ref p1, .ref p2, .ref p3, .ref p4, .ref p5, .int (nI lz), .int rq])), (p2, .inl (cI, 7, .inl rj))]) [0, 3] rfl
        refine vp_callSi (va_Run.run (va_runV (As := [.int (nI q0), .int (nI (m0 + 1)), .int 0]) (rest := []) ⟨hx, hb, hml, hown, hts⟩ (g_X1_boundAt l D cI cL cZ cC pl p0 p1 p2 p3 p4 p5 lz rq q0 (nI (m0 + 1)) 0 rj (by first | assumption | decide +kernel) (by first | assumption | decide +kernel)) (cwV 3 hts gX1_choice_X1_boundAt rfl rfl rfl (by decide +kernel) ⟨Nat.le_of_ble_eq_true rfl, Nat.le_of_ble_eq_true rfl⟩) ⟨xPc_bl, va_recv hK hPc (ci := 1) (q0 := 0) rfl rfl, xPc_use hPc hK⟩ rfl rfl hl.1 rfl (lv_room (Nat.le_of_ble_eq_true rfl)) dX1_choice_34 ⟨Nat.le_of_ble_eq_true rfl, Nat.le_of_ble_eq_true rfl⟩)) (fun r_5 er_5 => ?_)
        obtain rfl : (nI (xBn (rj q0) (nI (m0 + 1)) (0 : Int32)) : Int32) = r_5 := Eq.symm er_5
        refine lv_istore_n (lv' := [(3, .int (nI (xBn (rj q0) (nI (m0 + 1)) (0 : Int32)))), (0, .ref pl), (1, .int (nI q0)), (2, .int (nI m0))]) hx hb dX1_choice_37 rfl hl (by decide) rfl (fun ls hl => ?_)
        refine lv_aload_n hx hb dX1_choice_38 rfl (lv_at hl 1 rfl) ?_
        refine lv_iload_n hx hb dX1_choice_39 rfl (lv_at hl 2 rfl) ?_
        refine lv_iload_n hx hb dX1_choice_40 rfl (lv_at hl 3 rfl) ?_
        refine lv_iload_n hx hb dX1_choice_41 rfl (lv_at hl 0 rfl) ?_
        have hPc := hP.sub (ws' := [(pl, .inr (1, [.ref p0, .ref p1, .ref p2, .ref p3, .ref p4, .ref p5, .int (nI lz), .int rq])), (p0, .inl (cI, 5551, .inl sm)), (p1, .inl (cI, 13, .inl wf)), (p2, .inl (cI, 7, .inl rj)), (p3, .inl (cI, 7, .inl (fun i => nI (wn i)))), (p4, .inl (cI, 7, .inl wh))]) [0, 1, 2, 3, 4, 5] rfl
        refine vp_callSi (va_Run.run (va_runV (As := [.int (nI q0), .int (nI m0), .int (nI (xBn (rj q0) (nI (m0 + 1)) (0 : Int32)))]) (rest := []) ⟨hx, hb, hml, hown, hts⟩ (g_X1_walkSum l D cI cL cZ cC pl p0 p1 p2 p3 p4 p5 lz rq q0 m0 (xBn (rj q0) (nI (m0 + 1)) 0) wn rj sm wf wh (by first | assumption | decide +kernel) (by have w1 := (nI_ltI (a := q0) (b := lz) (by omega) (by omega)).mp (Int32.not_le.mp c_3); have w2 := (nI_ltI (a := m0) (b := 60) (by omega) (by omega)).mp c_4; omega) (by omega) (xBn_le _ _ _) (hwn _ hq0)) (cwV 3 hts gX1_choice_X1_walkSum rfl rfl rfl (by decide +kernel) ⟨Nat.le_of_ble_eq_true rfl, Nat.le_of_ble_eq_true rfl⟩) ⟨xPc_bl, va_recv hK hPc (ci := 1) (q0 := 0) rfl rfl, xPc_use hPc hK⟩ rfl rfl hl.1 rfl (lv_room (Nat.le_of_ble_eq_true rfl)) dX1_choice_42 ⟨Nat.le_of_ble_eq_true rfl, Nat.le_of_ble_eq_true rfl⟩)) (fun r_6 er_6 => ?_)
        obtain rfl : ((wf (xBn (rj q0) (nI (m0 + 1)) 0) - wf (xBn (rj (q0 + 1)) (nI (m0 + wn q0)) (nI (xBn (rj q0) (nI (m0 + 1)) 0)))) * (nI m0 + wh q0) + sSu lz sm wf wh (q0 + 1) (m0 + wn q0) (xBn (rj (q0 + 1)) (nI (m0 + wn q0)) (nI (xBn (rj q0) (nI (m0 + 1)) 0))) : Int32) = r_6 := Eq.symm er_6
        refine lv_aload_n hx hb dX1_choice_45 rfl (lv_at hl 1 rfl) ?_
        refine lv_iload_n hx hb dX1_choice_46 rfl (lv_at hl 2 rfl) ?_
        refine lv_iload_n hx hb dX1_choice_47 rfl (lv_at hl 3 rfl) ?_
        refine lv_iconst (v := 1) hx hb dX1_choice_48 (by decide) ?_
        refine lv_iadd hx hb dX1_choice_49 ?_
        refine xv_int (y := nI (m0 + 1)) (nI_1 m0) ?_
        refine lv_iload_n hx hb dX1_choice_50 rfl (lv_at hl 0 rfl) ?_
        have hPc := hP.sub (ws' := [(pl, .inr (1, [.ref p0, .ref p1, .ref p2, .ref p3, .ref p4, .ref p5, .int (nI lz), .int rq])), (p0, .inl (cI, 5551, .inl sm)), (p1, .inl (cI, 13, .inl wf)), (p4, .inl (cI, 7, .inl wh))]) [0, 1, 2, 5] rfl
        refine vp_callSi (va_Run.run (va_runV (As := [.int (nI q0), .int (nI (m0 + 1)), .int (nI (xBn (rj q0) (nI (m0 + 1)) (0 : Int32)))]) (rest := [.int ((wf (xBn (rj q0) (nI (m0 + 1)) 0) - wf (xBn (rj (q0 + 1)) (nI (m0 + wn q0)) (nI (xBn (rj q0) (nI (m0 + 1)) 0)))) * (nI m0 + wh q0) + sSu lz sm wf wh (q0 + 1) (m0 + wn q0) (xBn (rj (q0 + 1)) (nI (m0 + wn q0)) (nI (xBn (rj q0) (nI (m0 + 1)) 0))))]) ⟨hx, hb, hml, hown, hts⟩ (g_X1_sumAt l D cI cL cZ cC pl p0 p1 p2 p3 p4 p5 lz rq q0 (m0 + 1) (xBn (rj q0) (nI (m0 + 1)) 0) sm wf wh (by first | assumption | decide +kernel) (by first | assumption | decide +kernel) (by omega) (xBn_le _ _ _)) (cwV 3 hts gX1_choice_X1_sumAt rfl rfl rfl (by decide +kernel) ⟨Nat.le_of_ble_eq_true rfl, Nat.le_of_ble_eq_true rfl⟩) ⟨xPc_bl, va_recv hK hPc (ci := 1) (q0 := 0) rfl rfl, xPc_use hPc hK⟩ rfl rfl hl.1 rfl (lv_room (Nat.le_of_ble_eq_true rfl)) dX1_choice_51 ⟨Nat.le_of_ble_eq_true rfl, Nat.le_of_ble_eq_true rfl⟩)) (fun r_7 er_7 => ?_)
        obtain rfl : (sSu lz sm wf wh q0 (m0 + 1) (xBn (rj q0) (nI (m0 + 1)) 0) : Int32) = r_7 := Eq.symm er_7
        refine lv_icmp_ge (tgt := 61) hx hb dX1_choice_54 (by decide) (fun c_8 => ?_) (fun c_8 => ?_)
        · refine lv_iconst (v := 0) hx hb dX1_choice_61 (by decide) ?_
          exact W.iret (v := 0) hx hb hr (fun t ht hW => ⟨_, rfl, (by have w1 := (nI_ltI (a := q0) (b := lz) (by omega) (by omega)).mp (Int32.not_le.mp c_3); have w2 := (nI_ltI (a := m0) (b := 60) (by omega) (by omega)).mp c_4; simp [xCh9, c_2, w1, w2, Int32.not_lt.mp (Int32.not_lt.mpr c_8)]), ht⟩) (fun _ h => absurd h List.not_mem_nil) dX1_choice_62
        · refine lv_iconst (v := 1) hx hb dX1_choice_57 (by decide) ?_
          refine lv_goto (tgt := 62) hx hb dX1_choice_58 (by decide) ?_
          exact W.iret (v := 1) hx hb hr (fun t ht hW => ⟨_, rfl, (by have w1 := (nI_ltI (a := q0) (b := lz) (by omega) (by omega)).mp (Int32.not_le.mp c_3); have w2 := (nI_ltI (a := m0) (b := 60) (by omega) (by omega)).mp c_4; simp [xCh9, c_2, w1, w2, (Int32.not_le.mp c_8)]), ht⟩) (fun _ h => absurd h List.not_mem_nil) dX1_choice_62
      · refine lv_iconst (v := 1) hx hb dX1_choice_26 (by decide) ?_
        exact W.iret (v := 1) hx hb hr (fun t ht hW => ⟨_, rfl, (by have w1 := (nI_ltI (a := q0) (b := lz) (by omega) (by omega)).mp (Int32.not_le.mp c_3); have w2 := mt (nI_ltI (a := m0) (b := 60) (by omega) (by omega)).mpr c_4; simp [xCh9, c_2, w1, w2]), ht⟩) (fun _ h => absurd h List.not_mem_nil) dX1_choice_27
  · refine lv_bipush (v := -9) hx hb dX1_choice_9 (by decide) ?_
    exact W.iret (v := -9) hx hb hr (fun t ht hW => ⟨_, rfl, (by simp [xCh9, c_2]), ht⟩) (fun _ h => absurd h List.not_mem_nil) dX1_choice_11

set_option maxHeartbeats 4000000 in
set_option maxRecDepth 100000 in
theorem g_X1_leastSum (l : Launch) (D : va_G) (cI cL cZ cC : ClassId) (pl : Nat) (p0 : Nat) (p1 : Nat) (p2 : Nat) (p3 : Nat) (p4 : Nat) (p5 : Nat) (lz : Nat) (rq : Int32) (q0 : Nat) (m0 : Nat) (b0 : Nat) (wn : Nat → Nat) (rj : Nat → Int32) (sm : Nat → Int32) (wf : Nat → Int32) (wh : Nat → Int32) (hz : Nat → Int32) (hlz : lz ≤ 6) (hq0 : q0 ≤ 5) (hm0 : m0 ≤ 60) (hb0 : b0 ≤ 12) (hwn : wn q0 ≤ 1000) : Met l yX1_leastSum wsX1_leastSum ({ frames := 3, cells := 0, slots := 0, locals := 71 } : Room) (xPc D [.ref pl, .int (nI q0), .int (nI m0), .int (nI b0)] [(pl, .inr (1, [.ref p0, .ref p1, .ref p2, .ref p3, .ref p4, .ref p5, .int (nI lz), .int rq])), (p0, .inl (cI, 5551, .inl sm)), (p1, .inl (cI, 13, .inl wf)), (p2, .inl (cI, 7, .inl rj)), (p3, .inl (cI, 7, .inl (fun i => nI (wn i)))), (p4, .inl (cI, 7, .inl wh)), (p5, .inl (cZ, 7, .inl hz))] (xTy cI cL cZ cC)) (vp_Si (fun r : Int32 => r = xLs lz rq sm wf rj wn wh hz q0 m0 b0)) 0 0 (fun _ => False) := by
  refine Met.ofW (cc := cX1_leastSum) (maxL := 9) (ret := (some .int)) (by decide) rfl ?_
  intro p e s m args below meth c s₁ B hml hv
  obtain ⟨rfl, hP, hK⟩ := hv
  have hx := B.exec
  have hb := B.bytes
  have hr := B.returns
  have hts := atoms_spec (ws := wsX1_leastSum) B.pre
  have hown : s.vm.findClass RX1 = some m.cls := findClass_of_methodNamed B.named
  have hlocks := B.notSynchronized
  have hwX1 : ∀ w ∈ u_ws RX1 TX1 8, w ∈ wsX1_leastSum := fun _ h => List.mem_cons_of_mem _ (List.mem_append_right _ h)
  have hl := lv_entry ([.ref pl, .int (nI q0), .int (nI m0), .int (nI b0)]) (n := 9) (Nat.le_of_ble_eq_true rfl)
  rw [lg_entry_eq]
  generalize (lg_sl ([.ref pl, .int (nI q0), .int (nI m0), .int (nI b0)]) ++ List.replicate (9 - (lg_sl ([.ref pl, .int (nI q0), .int (nI m0), .int (nI b0)])).length) Slot.unset).toArray = ls at hl ⊢
  have hl : lv_has ls 9 [(0, .ref pl), (1, .int (nI q0)), (2, .int (nI m0)), (3, .int (nI b0))] := hl
  refine lv_iload_n hx hb dX1_leastSum_0 rfl (lv_at hl 2 rfl) ?_
  refine lv_aload_n hx hb dX1_leastSum_1 rfl (lv_at hl 0 rfl) ?_
  refine va_get (D := D) (ci := 1) (v := .ref p2) (C := RX1) (T := TX1) (N := 8) hx hb hts hwX1 hown hK hP 0 rfl rfl 2 (by decide) (hts (.fieldLink RX1 18 "WaitOrWalkOn$Plan" "ride" "[I") (by decide +kernel)) (fun _ h9 => h9) rfl dX1_leastSum_2 ?_
  refine lv_iload_n hx hb dX1_leastSum_5 rfl (lv_at hl 1 rfl) ?_
  refine va_iald (D := D) hx hb hK hP 3 0 rfl rfl (vp_in_nI (by omega) (by decide)) dX1_leastSum_6 ?_
  refine xv_int (y := rj q0) (congrArg rj (nI_clamp (by omega))) ?_
  refine lv_isub hx hb dX1_leastSum_7 ?_
  refine lv_istore (lv' := [(4, .int ((nI m0) - (rj q0))), (0, .ref pl), (1, .int (nI q0)), (2, .int (nI m0)), (3, .int (nI b0))]) hx hb dX1_leastSum_8 hl (by decide) rfl (fun ls hl => ?_)
  refine xl_cut (σ := Unit) 44 (fun _ => [.int (xW9 wf (nI m0 - rj q0) b0)]) (fun _ ls => lv_has ls 9 [(4, .int ((nI m0) - (rj q0))), (0, .ref pl), (1, .int (nI q0)), (2, .int (nI m0)), (3, .int (nI b0))]) ?_ ?_
  · intro _ ls hl
    refine lv_istore (lv' := [(5, .int (xW9 wf (nI m0 - rj q0) b0)), (4, .int ((nI m0) - (rj q0))), (0, .ref pl), (1, .int (nI q0)), (2, .int (nI m0)), (3, .int (nI b0))]) hx hb dX1_leastSum_44 hl (by decide) rfl (fun ls hl => ?_)
    refine lv_iload_n hx hb dX1_leastSum_46 rfl (lv_at hl 4 rfl) ?_
    refine lv_aload_n hx hb dX1_leastSum_47 rfl (lv_at hl 2 rfl) ?_
    refine va_get (D := D) (ci := 1) (v := .ref p4) (C := RX1) (T := TX1) (N := 8) hx hb hts hwX1 hown hK hP 0 rfl rfl 4 (by decide) (hts (.fieldLink RX1 24 "WaitOrWalkOn$Plan" "walkHome" "[I") (by decide +kernel)) (fun _ h9 => h9) rfl dX1_leastSum_48 ?_
    refine lv_iload_n hx hb dX1_leastSum_51 rfl (lv_at hl 3 rfl) ?_
    refine va_iald (D := D) hx hb hK hP 5 0 rfl rfl (vp_in_nI (by omega) (by decide)) dX1_leastSum_52 ?_
    refine xv_int (y := wh q0) (congrArg wh (nI_clamp (by omega))) ?_
    refine lv_iadd hx hb dX1_leastSum_53 ?_
    refine lv_istore (lv' := [(6, .int ((nI m0) + (wh q0))), (5, .int (xW9 wf (nI m0 - rj q0) b0)), (4, .int ((nI m0) - (rj q0))), (0, .ref pl), (1, .int (nI q0)), (2, .int (nI m0)), (3, .int (nI b0))]) hx hb dX1_leastSum_54 hl (by decide) rfl (fun ls hl => ?_)
    refine lv_iload hx hb dX1_leastSum_56 (lv_at hl 1 rfl) ?_
    refine lv_aload_n hx hb dX1_leastSum_58 rfl (lv_at hl 3 rfl) ?_
    refine va_get (D := D) (ci := 1) (v := .ref p5) (C := RX1) (T := TX1) (N := 8) hx hb hts hwX1 hown hK hP 0 rfl rfl 5 (by decide) (hts (.fieldLink RX1 27 "WaitOrWalkOn$Plan" "halts" "[Z") (by decide +kernel)) (fun _ h9 => h9) rfl dX1_leastSum_59 ?_
    refine lv_iload_n hx hb dX1_leastSum_62 rfl (lv_at hl 4 rfl) ?_
    refine va_zald (D := D) hx hb hK hP 6 2 rfl rfl (vp_in_nI (by omega) (by decide)) dX1_leastSum_63 ?_
    refine xv_int (y := hz q0) (congrArg hz (nI_clamp (by omega))) ?_
    refine lv_if_eq (tgt := 77) hx hb dX1_leastSum_64 (by decide) (fun c_1 => ?_) (fun c_1 => ?_)
    · refine lv_iload hx hb dX1_leastSum_77 (lv_at hl 0 rfl) ?_
      refine lv_imul hx hb dX1_leastSum_79 ?_
      refine lv_istore (lv' := [(7, .int ((xW9 wf (nI m0 - rj q0) b0) * ((nI m0) + (wh q0)))), (6, .int ((nI m0) + (wh q0))), (5, .int (xW9 wf (nI m0 - rj q0) b0)), (4, .int ((nI m0) - (rj q0))), (0, .ref pl), (1, .int (nI q0)), (2, .int (nI m0)), (3, .int (nI b0))]) hx hb dX1_leastSum_80 hl (by decide) rfl (fun ls hl => ?_)
      refine lv_iload_n hx hb dX1_leastSum_82 rfl (lv_at hl 6 rfl) ?_
      refine lv_bipush (v := 60) hx hb dX1_leastSum_83 (by decide) ?_
      refine lv_icmp_lt (tgt := 104) hx hb dX1_leastSum_85 (by decide) (fun c_2 => ?_) (fun c_2 => ?_)
      · refine lv_aload_n hx hb dX1_leastSum_104 rfl (lv_at hl 4 rfl) ?_
        refine lv_iload_n hx hb dX1_leastSum_105 rfl (lv_at hl 5 rfl) ?_
        refine lv_iload_n hx hb dX1_leastSum_106 rfl (lv_at hl 6 rfl) ?_
        refine lv_iconst (v := 1) hx hb dX1_leastSum_107 (by decide) ?_
        refine lv_iadd hx hb dX1_leastSum_108 ?_
        refine xv_int (y := nI (m0 + 1)) (nI_1 m0) ?_
        refine lv_iload_n hx hb dX1_leastSum_109 rfl (lv_at hl 7 rfl) ?_
        have hPc := hP.sub (ws' := [(pl, .inr (1, [.ref p0, .ref p1, .ref p2, .ref p3, .ref p4, .ref p5, .int (nI lz), .int rq])), (p2, .inl (cI, 7, .inl rj))]) [0, 3] rfl
        refine vp_callSi (va_Run.run (va_runV (As := [.int (nI q0), .int (nI (m0 + 1)), .int (nI b0)]) (rest := []) ⟨hx, hb, hml, hown, hts⟩ (g_X1_boundAt l D cI cL cZ cC pl p0 p1 p2 p3 p4 p5 lz rq q0 (nI (m0 + 1)) (nI b0) rj (by omega) (xNn (by omega))) (cwV 3 hts gX1_leastSum_X1_boundAt rfl rfl rfl (by decide +kernel) ⟨Nat.le_of_ble_eq_true rfl, Nat.le_of_ble_eq_true rfl⟩) ⟨xPc_bl, va_recv hK hPc (ci := 1) (q0 := 0) rfl rfl, xPc_use hPc hK⟩ rfl rfl hl.1 rfl (lv_room (Nat.le_of_ble_eq_true rfl)) dX1_leastSum_110 ⟨Nat.le_of_ble_eq_true rfl, Nat.le_of_ble_eq_true rfl⟩)) (fun r_3 er_3 => ?_)
        obtain rfl : (nI (xBn (rj q0) (nI (m0 + 1)) (nI b0)) : Int32) = r_3 := Eq.symm er_3
        refine lv_istore (lv' := [(8, .int (nI (xBn (rj q0) (nI (m0 + 1)) (nI b0)))), (7, .int ((xW9 wf (nI m0 - rj q0) b0) * ((nI m0) + (wh q0)))), (6, .int ((nI m0) + (wh q0))), (5, .int (xW9 wf (nI m0 - rj q0) b0)), (4, .int ((nI m0) - (rj q0))), (0, .ref pl), (1, .int (nI q0)), (2, .int (nI m0)), (3, .int (nI b0))]) hx hb dX1_leastSum_113 hl (by decide) rfl (fun ls hl => ?_)
        refine lv_iload hx hb dX1_leastSum_115 (lv_at hl 1 rfl) ?_
        refine lv_aload_n hx hb dX1_leastSum_117 rfl (lv_at hl 5 rfl) ?_
        refine lv_iload_n hx hb dX1_leastSum_118 rfl (lv_at hl 6 rfl) ?_
        refine lv_iload_n hx hb dX1_leastSum_119 rfl (lv_at hl 7 rfl) ?_
        refine lv_iconst (v := 1) hx hb dX1_leastSum_120 (by decide) ?_
        refine lv_iadd hx hb dX1_leastSum_121 ?_
        refine xv_int (y := nI (m0 + 1)) (nI_1 m0) ?_
        refine lv_iload hx hb dX1_leastSum_122 (lv_at hl 0 rfl) ?_
        have hPc := hP.sub (ws' := [(pl, .inr (1, [.ref p0, .ref p1, .ref p2, .ref p3, .ref p4, .ref p5, .int (nI lz), .int rq])), (p0, .inl (cI, 5551, .inl sm)), (p1, .inl (cI, 13, .inl wf)), (p4, .inl (cI, 7, .inl wh))]) [0, 1, 2, 5] rfl
        refine vp_callSi (va_Run.run (va_runV (As := [.int (nI q0), .int (nI (m0 + 1)), .int (nI (xBn (rj q0) (nI (m0 + 1)) (nI b0)))]) (rest := [.int ((xW9 wf (nI m0 - rj q0) b0) * ((nI m0) + (wh q0)))]) ⟨hx, hb, hml, hown, hts⟩ (g_X1_sumAt l D cI cL cZ cC pl p0 p1 p2 p3 p4 p5 lz rq q0 (m0 + 1) (xBn (rj q0) (nI (m0 + 1)) (nI b0)) sm wf wh (by first | assumption | decide +kernel) (by omega) (by omega) (xBn_le _ _ _)) (cwV 3 hts gX1_leastSum_X1_sumAt rfl rfl rfl (by decide +kernel) ⟨Nat.le_of_ble_eq_true rfl, Nat.le_of_ble_eq_true rfl⟩) ⟨xPc_bl, va_recv hK hPc (ci := 1) (q0 := 0) rfl rfl, xPc_use hPc hK⟩ rfl rfl hl.1 rfl (lv_room (Nat.le_of_ble_eq_true rfl)) dX1_leastSum_124 ⟨Nat.le_of_ble_eq_true rfl, Nat.le_of_ble_eq_true rfl⟩)) (fun r_4 er_4 => ?_)
        obtain rfl : (sSu lz sm wf wh q0 (m0 + 1) (xBn (rj q0) (nI (m0 + 1)) (nI b0)) : Int32) = r_4 := Eq.symm er_4
        refine lv_aload_n hx hb dX1_leastSum_127 rfl (lv_at hl 5 rfl) ?_
        refine lv_iload_n hx hb dX1_leastSum_128 rfl (lv_at hl 6 rfl) ?_
        refine lv_iload_n hx hb dX1_leastSum_129 rfl (lv_at hl 7 rfl) ?_
        refine lv_iload hx hb dX1_leastSum_130 (lv_at hl 0 rfl) ?_
        have hPc := hP.sub (ws' := [(pl, .inr (1, [.ref p0, .ref p1, .ref p2, .ref p3, .ref p4, .ref p5, .int (nI lz), .int rq])), (p0, .inl (cI, 5551, .inl sm)), (p1, .inl (cI, 13, .inl wf)), (p2, .inl (cI, 7, .inl rj)), (p3, .inl (cI, 7, .inl (fun i => nI (wn i)))), (p4, .inl (cI, 7, .inl wh))]) [0, 1, 2, 3, 4, 5] rfl
        refine vp_callSi (va_Run.run (va_runV (As := [.int (nI q0), .int (nI m0), .int (nI (xBn (rj q0) (nI (m0 + 1)) (nI b0)))]) (rest := [.int (sSu lz sm wf wh q0 (m0 + 1) (xBn (rj q0) (nI (m0 + 1)) (nI b0))), .int ((xW9 wf (nI m0 - rj q0) b0) * ((nI m0) + (wh q0)))]) ⟨hx, hb, hml, hown, hts⟩ (g_X1_walkSum l D cI cL cZ cC pl p0 p1 p2 p3 p4 p5 lz rq q0 m0 (xBn (rj q0) (nI (m0 + 1)) (nI b0)) wn rj sm wf wh (by first | assumption | decide +kernel) (by first | assumption | decide +kernel) (by omega) (xBn_le _ _ _) (by first | assumption | decide +kernel)) (cwV 3 hts gX1_leastSum_X1_walkSum rfl rfl rfl (by decide +kernel) ⟨Nat.le_of_ble_eq_true rfl, Nat.le_of_ble_eq_true rfl⟩) ⟨xPc_bl, va_recv hK hPc (ci := 1) (q0 := 0) rfl rfl, xPc_use hPc hK⟩ rfl rfl hl.1 rfl (lv_room (Nat.le_of_ble_eq_true rfl)) dX1_leastSum_132 ⟨Nat.le_of_ble_eq_true rfl, Nat.le_of_ble_eq_true rfl⟩)) (fun r_5 er_5 => ?_)
        obtain rfl : ((wf (xBn (rj q0) (nI (m0 + 1)) (nI b0)) - wf (xBn (rj (q0 + 1)) (nI (m0 + wn q0)) (nI (xBn (rj q0) (nI (m0 + 1)) (nI b0))))) * (nI m0 + wh q0) + sSu lz sm wf wh (q0 + 1) (m0 + wn q0) (xBn (rj (q0 + 1)) (nI (m0 + wn q0)) (nI (xBn (rj q0) (nI (m0 + 1)) (nI b0)))) : Int32) = r_5 := Eq.symm er_5
        refine va_mmin hx hb (hml.trans hl.1.symm) hown (hts (.methodLink RX1 94 Lib.Math.min.name) (by decide +kernel)) (hts (.static Lib.Math.min.name) (by decide +kernel)) (hts (.initialized "java/lang/Math") (by decide +kernel)) (hts (.code Lib.Math.min.name Lib.Math.min.code 2 (some .int)) (by decide +kernel)) (Nat.le_of_ble_eq_true rfl) (Nat.le_of_ble_eq_true rfl) (Nat.le_of_ble_eq_true rfl) (Nat.le_of_ble_eq_true rfl) dX1_leastSum_135 ?_
        refine xv_int (y := xMn (sSu lz sm wf wh q0 (m0 + 1) (xBn (rj q0) (nI (m0 + 1)) (nI b0))) (xWk lz sm wf rj wn wh q0 m0 (xBn (rj q0) (nI (m0 + 1)) (nI b0)))) (rfl) ?_
        refine lv_iadd hx hb dX1_leastSum_138 ?_
        exact W.iret (v := ((xW9 wf (nI m0 - rj q0) b0) * ((nI m0) + (wh q0))) + (xMn (sSu lz sm wf wh q0 (m0 + 1) (xBn (rj q0) (nI (m0 + 1)) (nI b0))) (xWk lz sm wf rj wn wh q0 m0 (xBn (rj q0) (nI (m0 + 1)) (nI b0))))) hx hb hr (fun t ht hW => ⟨_, rfl, (by have w6 := (nI_ltI (a := m0) (b := 60) (by omega) (by omega)).mp c_2; simp [xLs, w6, c_1]), ht⟩) (fun _ h => absurd h List.not_mem_nil) dX1_leastSum_139
      · refine lv_iload hx hb dX1_leastSum_88 (lv_at hl 0 rfl) ?_
        refine lv_aload_n hx hb dX1_leastSum_90 rfl (lv_at hl 4 rfl) ?_
        refine va_get (D := D) (ci := 1) (v := .ref p1) (C := RX1) (T := TX1) (N := 8) hx hb hts hwX1 hown hK hP 0 rfl rfl 1 (by decide) (hts (.fieldLink RX1 15 "WaitOrWalkOn$Plan" "weightFrom" "[I") (by decide +kernel)) (fun _ h9 => h9) rfl dX1_leastSum_91 ?_
        refine lv_iload_n hx hb dX1_leastSum_94 rfl (lv_at hl 7 rfl) ?_
        refine va_iald (D := D) hx hb hK hP 2 0 rfl rfl (vp_in_nI (by omega) (by decide)) dX1_leastSum_95 ?_
        refine xv_int (y := wf b0) (congrArg wf (nI_clamp (by omega))) ?_
        refine lv_iload hx hb dX1_leastSum_96 (lv_at hl 2 rfl) ?_
        refine lv_isub hx hb dX1_leastSum_98 ?_
        refine lv_iload hx hb dX1_leastSum_99 (lv_at hl 1 rfl) ?_
        refine lv_imul hx hb dX1_leastSum_101 ?_
        refine lv_iadd hx hb dX1_leastSum_102 ?_
        exact W.iret (v := ((xW9 wf (nI m0 - rj q0) b0) * ((nI m0) + (wh q0))) + (((wf b0) - (xW9 wf (nI m0 - rj q0) b0)) * ((nI m0) + (wh q0)))) hx hb hr (fun t ht hW => ⟨_, rfl, (by have w6 := mt (nI_ltI (a := m0) (b := 60) (by omega) (by omega)).mpr c_2; simp [xLs, w6, c_1]), ht⟩) (fun _ h => absurd h List.not_mem_nil) dX1_leastSum_103
    · refine lv_iload hx hb dX1_leastSum_67 (lv_at hl 2 rfl) ?_
      refine lv_aload_n hx hb dX1_leastSum_69 rfl (lv_at hl 3 rfl) ?_
      refine va_get (D := D) (ci := 1) (v := .int rq) (C := RX1) (T := TX1) (N := 8) hx hb hts hwX1 hown hK hP 0 rfl rfl 7 (by decide) (hts (.fieldLink RX1 44 "WaitOrWalkOn$Plan" "rideHome" "I") (by decide +kernel)) (fun _ h9 => h9) rfl dX1_leastSum_70 ?_
      refine lv_iadd hx hb dX1_leastSum_73 ?_
      refine lv_goto (tgt := 79) hx hb dX1_leastSum_74 (by decide) ?_
      refine lv_imul hx hb dX1_leastSum_79 ?_
      refine lv_istore (lv' := [(7, .int ((xW9 wf (nI m0 - rj q0) b0) * (((nI m0) - (rj q0)) + rq))), (6, .int ((nI m0) + (wh q0))), (5, .int (xW9 wf (nI m0 - rj q0) b0)), (4, .int ((nI m0) - (rj q0))), (0, .ref pl), (1, .int (nI q0)), (2, .int (nI m0)), (3, .int (nI b0))]) hx hb dX1_leastSum_80 hl (by decide) rfl (fun ls hl => ?_)
      refine lv_iload_n hx hb dX1_leastSum_82 rfl (lv_at hl 6 rfl) ?_
      refine lv_bipush (v := 60) hx hb dX1_leastSum_83 (by decide) ?_
      refine lv_icmp_lt (tgt := 104) hx hb dX1_leastSum_85 (by decide) (fun c_6 => ?_) (fun c_6 => ?_)
      · refine lv_aload_n hx hb dX1_leastSum_104 rfl (lv_at hl 4 rfl) ?_
        refine lv_iload_n hx hb dX1_leastSum_105 rfl (lv_at hl 5 rfl) ?_
        refine lv_iload_n hx hb dX1_leastSum_106 rfl (lv_at hl 6 rfl) ?_
        refine lv_iconst (v := 1) hx hb dX1_leastSum_107 (by decide) ?_
        refine lv_iadd hx hb dX1_leastSum_108 ?_
        refine xv_int (y := nI (m0 + 1)) (nI_1 m0) ?_
        refine lv_iload_n hx hb dX1_leastSum_109 rfl (lv_at hl 7 rfl) ?_
        have hPc := hP.sub (ws' := [(pl, .inr (1, [.ref p0, .ref p1, .ref p2, .ref p3, .ref p4, .ref p5, .int (nI lz), .int rq])), (p2, .inl (cI, 7, .inl rj))]) [0, 3] rfl
        refine vp_callSi (va_Run.run (va_runV (As := [.int (nI q0), .int (nI (m0 + 1)), .int (nI b0)]) (rest := []) ⟨hx, hb, hml, hown, hts⟩ (g_X1_boundAt l D cI cL cZ cC pl p0 p1 p2 p3 p4 p5 lz rq q0 (nI (m0 + 1)) (nI b0) rj (by omega) (xNn (by omega))) (cwV 3 hts gX1_leastSum_X1_boundAt rfl rfl rfl (by decide +kernel) ⟨Nat.le_of_ble_eq_true rfl, Nat.le_of_ble_eq_true rfl⟩) ⟨xPc_bl, va_recv hK hPc (ci := 1) (q0 := 0) rfl rfl, xPc_use hPc hK⟩ rfl rfl hl.1 rfl (lv_room (Nat.le_of_ble_eq_true rfl)) dX1_leastSum_110 ⟨Nat.le_of_ble_eq_true rfl, Nat.le_of_ble_eq_true rfl⟩)) (fun r_7 er_7 => ?_)
        obtain rfl : (nI (xBn (rj q0) (nI (m0 + 1)) (nI b0)) : Int32) = r_7 := Eq.symm er_7
        refine lv_istore (lv' := [(8, .int (nI (xBn (rj q0) (nI (m0 + 1)) (nI b0)))), (7, .int ((xW9 wf (nI m0 - rj q0) b0) * (((nI m0) - (rj q0)) + rq))), (6, .int ((nI m0) + (wh q0))), (5, .int (xW9 wf (nI m0 - rj q0) b0)), (4, .int ((nI m0) - (rj q0))), (0, .ref pl), (1, .int (nI q0)), (2, .int (nI m0)), (3, .int (nI b0))]) hx hb dX1_leastSum_113 hl (by decide) rfl (fun ls hl => ?_)
        refine lv_iload hx hb dX1_leastSum_115 (lv_at hl 1 rfl) ?_
        refine lv_aload_n hx hb dX1_leastSum_117 rfl (lv_at hl 5 rfl) ?_
        refine lv_iload_n hx hb dX1_leastSum_118 rfl (lv_at hl 6 rfl) ?_
        refine lv_iload_n hx hb dX1_leastSum_119 rfl (lv_at hl 7 rfl) ?_
        refine lv_iconst (v := 1) hx hb dX1_leastSum_120 (by decide) ?_
        refine lv_iadd hx hb dX1_leastSum_121 ?_
        refine xv_int (y := nI (m0 + 1)) (nI_1 m0) ?_
        refine lv_iload hx hb dX1_leastSum_122 (lv_at hl 0 rfl) ?_
        have hPc := hP.sub (ws' := [(pl, .inr (1, [.ref p0, .ref p1, .ref p2, .ref p3, .ref p4, .ref p5, .int (nI lz), .int rq])), (p0, .inl (cI, 5551, .inl sm)), (p1, .inl (cI, 13, .inl wf)), (p4, .inl (cI, 7, .inl wh))]) [0, 1, 2, 5] rfl
        refine vp_callSi (va_Run.run (va_runV (As := [.int (nI q0), .int (nI (m0 + 1)), .int (nI (xBn (rj q0) (nI (m0 + 1)) (nI b0)))]) (rest := [.int ((xW9 wf (nI m0 - rj q0) b0) * (((nI m0) - (rj q0)) + rq))]) ⟨hx, hb, hml, hown, hts⟩ (g_X1_sumAt l D cI cL cZ cC pl p0 p1 p2 p3 p4 p5 lz rq q0 (m0 + 1) (xBn (rj q0) (nI (m0 + 1)) (nI b0)) sm wf wh (by first | assumption | decide +kernel) (by omega) (by omega) (xBn_le _ _ _)) (cwV 3 hts gX1_leastSum_X1_sumAt rfl rfl rfl (by decide +kernel) ⟨Nat.le_of_ble_eq_true rfl, Nat.le_of_ble_eq_true rfl⟩) ⟨xPc_bl, va_recv hK hPc (ci := 1) (q0 := 0) rfl rfl, xPc_use hPc hK⟩ rfl rfl hl.1 rfl (lv_room (Nat.le_of_ble_eq_true rfl)) dX1_leastSum_124 ⟨Nat.le_of_ble_eq_true rfl, Nat.le_of_ble_eq_true rfl⟩)) (fun r_8 er_8 => ?_)
        obtain rfl : (sSu lz sm wf wh q0 (m0 + 1) (xBn (rj q0) (nI (m0 + 1)) (nI b0)) : Int32) = r_8 := Eq.symm er_8
        refine lv_aload_n hx hb dX1_leastSum_127 rfl (lv_at hl 5 rfl) ?_
        refine lv_iload_n hx hb dX1_leastSum_128 rfl (lv_at hl 6 rfl) ?_
        refine lv_iload_n hx hb dX1_leastSum_129 rfl (lv_at hl 7 rfl) ?_
        refine lv_iload hx hb dX1_leastSum_130 (lv_at hl 0 rfl) ?_
        have hPc := hP.sub (ws' := [(pl, .inr (1, [.ref p0, .ref p1, .ref p2, .ref p3, .ref p4, .ref p5, .int (nI lz), .int rq])), (p0, .inl (cI, 5551, .inl sm)), (p1, .inl (cI, 13, .inl wf)), (p2, .inl (cI, 7, .inl rj)), (p3, .inl (cI, 7, .inl (fun i => nI (wn i)))), (p4, .inl (cI, 7, .inl wh))]) [0, 1, 2, 3, 4, 5] rfl
        refine vp_callSi (va_Run.run (va_runV (As := [.int (nI q0), .int (nI m0), .int (nI (xBn (rj q0) (nI (m0 + 1)) (nI b0)))]) (rest := [.int (sSu lz sm wf wh q0 (m0 + 1) (xBn (rj q0) (nI (m0 + 1)) (nI b0))), .int ((xW9 wf (nI m0 - rj q0) b0) * (((nI m0) - (rj q0)) + rq))]) ⟨hx, hb, hml, hown, hts⟩ (g_X1_walkSum l D cI cL cZ cC pl p0 p1 p2 p3 p4 p5 lz rq q0 m0 (xBn (rj q0) (nI (m0 + 1)) (nI b0)) wn rj sm wf wh (by first | assumption | decide +kernel) (by first | assumption | decide +kernel) (by omega) (xBn_le _ _ _) (by first | assumption | decide +kernel)) (cwV 3 hts gX1_leastSum_X1_walkSum rfl rfl rfl (by decide +kernel) ⟨Nat.le_of_ble_eq_true rfl, Nat.le_of_ble_eq_true rfl⟩) ⟨xPc_bl, va_recv hK hPc (ci := 1) (q0 := 0) rfl rfl, xPc_use hPc hK⟩ rfl rfl hl.1 rfl (lv_room (Nat.le_of_ble_eq_true rfl)) dX1_leastSum_132 ⟨Nat.le_of_ble_eq_true rfl, Nat.le_of_ble_eq_true rfl⟩)) (fun r_9 er_9 => ?_)
        obtain rfl : ((wf (xBn (rj q0) (nI (m0 + 1)) (nI b0)) - wf (xBn (rj (q0 + 1)) (nI (m0 + wn q0)) (nI (xBn (rj q0) (nI (m0 + 1)) (nI b0))))) * (nI m0 + wh q0) + sSu lz sm wf wh (q0 + 1) (m0 + wn q0) (xBn (rj (q0 + 1)) (nI (m0 + wn q0)) (nI (xBn (rj q0) (nI (m0 + 1)) (nI b0)))) : Int32) = r_9 := Eq.symm er_9
        refine va_mmin hx hb (hml.trans hl.1.symm) hown (hts (.methodLink RX1 94 Lib.Math.min.name) (by decide +kernel)) (hts (.static Lib.Math.min.name) (by decide +kernel)) (hts (.initialized "java/lang/Math") (by decide +kernel)) (hts (.code Lib.Math.min.name Lib.Math.min.code 2 (some .int)) (by decide +kernel)) (Nat.le_of_ble_eq_true rfl) (Nat.le_of_ble_eq_true rfl) (Nat.le_of_ble_eq_true rfl) (Nat.le_of_ble_eq_true rfl) dX1_leastSum_135 ?_
        refine xv_int (y := xMn (sSu lz sm wf wh q0 (m0 + 1) (xBn (rj q0) (nI (m0 + 1)) (nI b0))) (xWk lz sm wf rj wn wh q0 m0 (xBn (rj q0) (nI (m0 + 1)) (nI b0)))) (rfl) ?_
        refine lv_iadd hx hb dX1_leastSum_138 ?_
        exact W.iret (v := ((xW9 wf (nI m0 - rj q0) b0) * (((nI m0) - (rj q0)) + rq)) + (xMn (sSu lz sm wf wh q0 (m0 + 1) (xBn (rj q0) (nI (m0 + 1)) (nI b0))) (xWk lz sm wf rj wn wh q0 m0 (xBn (rj q0) (nI (m0 + 1)) (nI b0))))) hx hb hr (fun t ht hW => ⟨_, rfl, (by have w6 := (nI_ltI (a := m0) (b := 60) (by omega) (by omega)).mp c_6; simp [xLs, w6, c_1]), ht⟩) (fun _ h => absurd h List.not_mem_nil) dX1_leastSum_139
      · refine lv_iload hx hb dX1_leastSum_88 (lv_at hl 0 rfl) ?_
        refine lv_aload_n hx hb dX1_leastSum_90 rfl (lv_at hl 4 rfl) ?_
        refine va_get (D := D) (ci := 1) (v := .ref p1) (C := RX1) (T := TX1) (N := 8) hx hb hts hwX1 hown hK hP 0 rfl rfl 1 (by decide) (hts (.fieldLink RX1 15 "WaitOrWalkOn$Plan" "weightFrom" "[I") (by decide +kernel)) (fun _ h9 => h9) rfl dX1_leastSum_91 ?_
        refine lv_iload_n hx hb dX1_leastSum_94 rfl (lv_at hl 7 rfl) ?_
        refine va_iald (D := D) hx hb hK hP 2 0 rfl rfl (vp_in_nI (by omega) (by decide)) dX1_leastSum_95 ?_
        refine xv_int (y := wf b0) (congrArg wf (nI_clamp (by omega))) ?_
        refine lv_iload hx hb dX1_leastSum_96 (lv_at hl 2 rfl) ?_
        refine lv_isub hx hb dX1_leastSum_98 ?_
        refine lv_iload hx hb dX1_leastSum_99 (lv_at hl 1 rfl) ?_
        refine lv_imul hx hb dX1_leastSum_101 ?_
        refine lv_iadd hx hb dX1_leastSum_102 ?_
        exact W.iret (v := ((xW9 wf (nI m0 - rj q0) b0) * (((nI m0) - (rj q0)) + rq)) + (((wf b0) - (xW9 wf (nI m0 - rj q0) b0)) * ((nI m0) + (wh q0)))) hx hb hr (fun t ht hW => ⟨_, rfl, (by have w6 := mt (nI_ltI (a := m0) (b := 60) (by omega) (by omega)).mpr c_6; simp [xLs, w6, c_1]), ht⟩) (fun _ h => absurd h List.not_mem_nil) dX1_leastSum_103
  · intro K_44
    refine lv_iload hx hb dX1_leastSum_10 (lv_at hl 0 rfl) ?_
    refine lv_iload_n hx hb dX1_leastSum_12 rfl (lv_at hl 4 rfl) ?_
    refine lv_icmp_lt (tgt := 43) hx hb dX1_leastSum_13 (by decide) (fun c_10 => ?_) (fun c_10 => ?_)
    · refine lv_iconst (v := 0) hx hb dX1_leastSum_43 (by decide) ?_
      refine xv_int (y := xW9 wf (nI m0 - rj q0) b0) (by simp [xW9, c_10]) ?_
      exact K_44 () _ (lv_sub hl [0, 1, 2, 3, 4] rfl)
    · refine lv_iload hx hb dX1_leastSum_16 (lv_at hl 0 rfl) ?_
      refine lv_bipush (v := 12) hx hb dX1_leastSum_18 (by decide) ?_
      refine lv_icmp_ge (tgt := 43) hx hb dX1_leastSum_20 (by decide) (fun c_11 => ?_) (fun c_11 => ?_)
      · refine lv_iconst (v := 0) hx hb dX1_leastSum_43 (by decide) ?_
        refine xv_int (y := xW9 wf (nI m0 - rj q0) b0) (by simp [xW9, c_10, (Int32.not_lt.mpr c_11)]) ?_
        exact K_44 () _ (lv_sub hl [0, 1, 2, 3, 4] rfl)
      · refine lv_aload_n hx hb dX1_leastSum_23 rfl (lv_at hl 1 rfl) ?_
        refine va_get (D := D) (ci := 1) (v := .ref p1) (C := RX1) (T := TX1) (N := 8) hx hb hts hwX1 hown hK hP 0 rfl rfl 1 (by decide) (hts (.fieldLink RX1 15 "WaitOrWalkOn$Plan" "weightFrom" "[I") (by decide +kernel)) (fun _ h9 => h9) rfl dX1_leastSum_24 ?_
        refine lv_iload hx hb dX1_leastSum_27 (lv_at hl 0 rfl) ?_
        refine va_iald (D := D) hx hb hK hP 2 0 rfl rfl ((xInT (by omega) c_10 (Int32.not_le.mp c_11)).1) dX1_leastSum_29 ?_
        refine lv_aload_n hx hb dX1_leastSum_30 rfl (lv_at hl 1 rfl) ?_
        refine va_get (D := D) (ci := 1) (v := .ref p1) (C := RX1) (T := TX1) (N := 8) hx hb hts hwX1 hown hK hP 0 rfl rfl 1 (by decide) (hts (.fieldLink RX1 15 "WaitOrWalkOn$Plan" "weightFrom" "[I") (by decide +kernel)) (fun _ h9 => h9) rfl dX1_leastSum_31 ?_
        refine lv_iload hx hb dX1_leastSum_34 (lv_at hl 0 rfl) ?_
        refine lv_iconst (v := 1) hx hb dX1_leastSum_36 (by decide) ?_
        refine lv_iadd hx hb dX1_leastSum_37 ?_
        refine va_iald (D := D) hx hb hK hP 2 0 rfl rfl ((xInT (by omega) c_10 (Int32.not_le.mp c_11)).2) dX1_leastSum_38 ?_
        refine lv_isub hx hb dX1_leastSum_39 ?_
        refine lv_goto (tgt := 44) hx hb dX1_leastSum_40 (by decide) ?_
        refine xv_int (y := xW9 wf (nI m0 - rj q0) b0) (by simp [xW9, c_10, (Int32.not_le.mp c_11)]) ?_
        exact K_44 () _ (lv_sub hl [0, 1, 2, 3, 4] rfl)

/-! the reference's tests -/
theorem sNP_e (a : Int32) : sNP a = if a = 0 then 0 else if a = 1 then 0 else 1 := by
  have e0 : (0 : Int32).toInt = 0 := by decide
  have e1 : (1 : Int32).toInt = 1 := by decide
  by_cases h0 : a = 0
  · subst h0; decide
  by_cases h1 : a = 1
  · subst h1; decide
  rw [if_neg h0, if_neg h1, sNP]
  rw [xi_eq] at h0 h1
  by_cases h2 : a < 0
  · rw [if_pos h2]
  · rw [if_neg h2, if_pos]
    rw [xi_lt] at h2 ⊢
    omega

set_option maxHeartbeats 4000000 in
set_option maxRecDepth 100000 in
theorem g_X5_isNoStop (l : Launch) (D : va_G) (cI cL cZ cC : ClassId) (g0 : Nat) (ra : Nat) (wa : Nat) (ta : Nat) (ma : Nat) (pa : Nat) (ba : Nat) (ka : Nat) (fa : Nat) (qa : Nat) (ea : Nat) (za : Nat) (ya : Nat) (kpt : Int32) (mkd : Int32) (tpd : Int32) (at0 : Int32) (wel : Int32) (srt : Int32) (wks : Int32) (st : Nat) (nw : Nat → Int32) (a1 : Int32) (hn0 : nw 0 = nI st) (hs1 : 1 ≤ st) (hs7 : st ≤ 7) : Met l yX5_isNoStop wsX5_isNoStop ({ frames := 0, cells := 0, slots := 0, locals := 0 } : Room) (xPc D [.ref g0, .int a1] [(g0, .inr (5, [.ref ra, .ref wa, .ref ta, .int kpt, .ref ma, .int mkd, .ref pa, .int tpd, .int at0, .int wel, .ref ba, .ref ka, .int srt, .ref fa, .ref qa, .ref ea, .ref za, .ref ya, .int wks])), (wa, .inl (cI, 70, .inl nw))] (xTy cI cL cZ cC)) (vp_Si (fun r : Int32 => r = sNL st a1)) 0 0 (fun _ => False) := by
  refine Met.ofW (cc := cX5_isNoStop) (maxL := 2) (ret := (some .boolean)) (by decide) rfl ?_
  intro p e s m args below meth c s₁ B hml hv
  obtain ⟨rfl, hP, hK⟩ := hv
  have hx := B.exec
  have hb := B.bytes
  have hr := B.returns
  have hts := atoms_spec (ws := wsX5_isNoStop) B.pre
  have hown : s.vm.findClass RX5 = some m.cls := findClass_of_methodNamed B.named
  have hlocks := B.notSynchronized
  have hwX5 : ∀ w ∈ u_ws RX5 TX5 19, w ∈ wsX5_isNoStop := fun _ h => List.mem_cons_of_mem _ (List.mem_append_right _ h)
  have hl := lv_entry ([.ref g0, .int a1]) (n := 2) (Nat.le_of_ble_eq_true rfl)
  rw [lg_entry_eq]
  generalize (lg_sl ([.ref g0, .int a1]) ++ List.replicate (2 - (lg_sl ([.ref g0, .int a1])).length) Slot.unset).toArray = ls at hl ⊢
  have hl : lv_has ls 2 [(0, .ref g0), (1, .int a1)] := hl
  refine lv_iload_n hx hb dX5_isNoStop_0 rfl (lv_at hl 1 rfl) ?_
  refine lv_if_lt (tgt := 14) hx hb dX5_isNoStop_1 (by decide) (fun c_1 => ?_) (fun c_1 => ?_)
  · refine lv_iconst (v := 1) hx hb dX5_isNoStop_14 (by decide) ?_
    refine lv_goto (tgt := 19) hx hb dX5_isNoStop_15 (by decide) ?_
    exact W.zret (v := 1) (ty := .boolean) hx hb hr (by decide +kernel) (fun t ht hW => ⟨_, rfl, by simp [sNL, c_1], ht⟩) (fun _ h => absurd h List.not_mem_nil) dX5_isNoStop_19
  · refine lv_iload_n hx hb dX5_isNoStop_4 rfl (lv_at hl 1 rfl) ?_
    refine lv_aload_n hx hb dX5_isNoStop_5 rfl (lv_at hl 0 rfl) ?_
    refine va_get (D := D) (ci := 5) (v := .ref wa) (C := RX5) (T := TX5) (N := 19) hx hb hts hwX5 hown hK hP 0 rfl rfl 1 (by decide) (hts (.fieldLink RX5 19 "WaitOrWalkOnModel" "now" "[I") (by decide +kernel)) (fun _ h9 => h9) rfl dX5_isNoStop_6 ?_
    refine lv_iconst (v := 0) hx hb dX5_isNoStop_9 (by decide) ?_
    refine va_iald (D := D) hx hb hK hP 1 0 rfl rfl (by unfold vp_in; decide +kernel) dX5_isNoStop_10 ?_
    refine xv_int (y := nw 0) rfl ?_
    refine xv_int (y := nI st) (hn0) ?_
    refine lv_icmp_lt (tgt := 18) hx hb dX5_isNoStop_11 (by decide) (fun c_2 => ?_) (fun c_2 => ?_)
    · refine lv_iconst (v := 0) hx hb dX5_isNoStop_18 (by decide) ?_
      exact W.zret (v := 0) (ty := .boolean) hx hb hr (by decide +kernel) (fun t ht hW => ⟨_, rfl, by simp [sNL, c_1, c_2], ht⟩) (fun _ h => absurd h List.not_mem_nil) dX5_isNoStop_19
    · refine lv_iconst (v := 1) hx hb dX5_isNoStop_14 (by decide) ?_
      refine lv_goto (tgt := 19) hx hb dX5_isNoStop_15 (by decide) ?_
      exact W.zret (v := 1) (ty := .boolean) hx hb hr (by decide +kernel) (fun t ht hW => ⟨_, rfl, by simp [sNL, c_1, c_2], ht⟩) (fun _ h => absurd h List.not_mem_nil) dX5_isNoStop_19

set_option maxHeartbeats 4000000 in
set_option maxRecDepth 100000 in
theorem g_X5_isNoLine (l : Launch) (D : va_G) (cI cL cZ cC : ClassId) (g0 : Nat) (ra : Nat) (wa : Nat) (ta : Nat) (ma : Nat) (pa : Nat) (ba : Nat) (ka : Nat) (fa : Nat) (qa : Nat) (ea : Nat) (za : Nat) (ya : Nat) (kpt : Int32) (mkd : Int32) (tpd : Int32) (at0 : Int32) (wel : Int32) (srt : Int32) (wks : Int32) (st : Nat) (nw : Nat → Int32) (ln : Nat) (a1 : Int32) (hn0 : nw 0 = nI st) (hs1 : 1 ≤ st) (hs7 : st ≤ 7) (hn3 : nw 3 = nI ln) (hln : ln ≤ 3) : Met l yX5_isNoLine wsX5_isNoLine ({ frames := 0, cells := 0, slots := 0, locals := 0 } : Room) (xPc D [.ref g0, .int a1] [(g0, .inr (5, [.ref ra, .ref wa, .ref ta, .int kpt, .ref ma, .int mkd, .ref pa, .int tpd, .int at0, .int wel, .ref ba, .ref ka, .int srt, .ref fa, .ref qa, .ref ea, .ref za, .ref ya, .int wks])), (wa, .inl (cI, 70, .inl nw))] (xTy cI cL cZ cC)) (vp_Si (fun r : Int32 => r = sNL ln a1)) 0 0 (fun _ => False) := by
  refine Met.ofW (cc := cX5_isNoLine) (maxL := 2) (ret := (some .boolean)) (by decide) rfl ?_
  intro p e s m args below meth c s₁ B hml hv
  obtain ⟨rfl, hP, hK⟩ := hv
  have hx := B.exec
  have hb := B.bytes
  have hr := B.returns
  have hts := atoms_spec (ws := wsX5_isNoLine) B.pre
  have hown : s.vm.findClass RX5 = some m.cls := findClass_of_methodNamed B.named
  have hlocks := B.notSynchronized
  have hwX5 : ∀ w ∈ u_ws RX5 TX5 19, w ∈ wsX5_isNoLine := fun _ h => List.mem_cons_of_mem _ (List.mem_append_right _ h)
  have hl := lv_entry ([.ref g0, .int a1]) (n := 2) (Nat.le_of_ble_eq_true rfl)
  rw [lg_entry_eq]
  generalize (lg_sl ([.ref g0, .int a1]) ++ List.replicate (2 - (lg_sl ([.ref g0, .int a1])).length) Slot.unset).toArray = ls at hl ⊢
  have hl : lv_has ls 2 [(0, .ref g0), (1, .int a1)] := hl
  refine lv_iload_n hx hb dX5_isNoLine_0 rfl (lv_at hl 1 rfl) ?_
  refine lv_if_lt (tgt := 14) hx hb dX5_isNoLine_1 (by decide) (fun c_1 => ?_) (fun c_1 => ?_)
  · refine lv_iconst (v := 1) hx hb dX5_isNoLine_14 (by decide) ?_
    refine lv_goto (tgt := 19) hx hb dX5_isNoLine_15 (by decide) ?_
    exact W.zret (v := 1) (ty := .boolean) hx hb hr (by decide +kernel) (fun t ht hW => ⟨_, rfl, by simp [sNL, c_1], ht⟩) (fun _ h => absurd h List.not_mem_nil) dX5_isNoLine_19
  · refine lv_iload_n hx hb dX5_isNoLine_4 rfl (lv_at hl 1 rfl) ?_
    refine lv_aload_n hx hb dX5_isNoLine_5 rfl (lv_at hl 0 rfl) ?_
    refine va_get (D := D) (ci := 5) (v := .ref wa) (C := RX5) (T := TX5) (N := 19) hx hb hts hwX5 hown hK hP 0 rfl rfl 1 (by decide) (hts (.fieldLink RX5 19 "WaitOrWalkOnModel" "now" "[I") (by decide +kernel)) (fun _ h9 => h9) rfl dX5_isNoLine_6 ?_
    refine lv_iconst (v := 3) hx hb dX5_isNoLine_9 (by decide) ?_
    refine va_iald (D := D) hx hb hK hP 1 0 rfl rfl (by unfold vp_in; decide +kernel) dX5_isNoLine_10 ?_
    refine xv_int (y := nw 3) rfl ?_
    refine xv_int (y := nI ln) (hn3) ?_
    refine lv_icmp_lt (tgt := 18) hx hb dX5_isNoLine_11 (by decide) (fun c_2 => ?_) (fun c_2 => ?_)
    · refine lv_iconst (v := 0) hx hb dX5_isNoLine_18 (by decide) ?_
      exact W.zret (v := 0) (ty := .boolean) hx hb hr (by decide +kernel) (fun t ht hW => ⟨_, rfl, by simp [sNL, c_1, c_2], ht⟩) (fun _ h => absurd h List.not_mem_nil) dX5_isNoLine_19
    · refine lv_iconst (v := 1) hx hb dX5_isNoLine_14 (by decide) ?_
      refine lv_goto (tgt := 19) hx hb dX5_isNoLine_15 (by decide) ?_
      exact W.zret (v := 1) (ty := .boolean) hx hb hr (by decide +kernel) (fun t ht hW => ⟨_, rfl, by simp [sNL, c_1, c_2], ht⟩) (fun _ h => absurd h List.not_mem_nil) dX5_isNoLine_19

set_option maxHeartbeats 4000000 in
set_option maxRecDepth 100000 in
theorem g_X5_isNoPart (l : Launch) (D : va_G) (cI cL cZ cC : ClassId) (a1 : Int32)  : Met l yX5_isNoPart wsX5_isNoPart ({ frames := 0, cells := 0, slots := 0, locals := 0 } : Room) (xPc D [.int a1] [] (xTy cI cL cZ cC)) (vp_Si (fun r : Int32 => r = sNP a1)) 0 0 (fun _ => False) := by
  refine Met.ofW (cc := cX5_isNoPart) (maxL := 1) (ret := (some .boolean)) (by decide) rfl ?_
  intro p e s m args below meth c s₁ B hml hv
  obtain ⟨rfl, hP, hK⟩ := hv
  have hx := B.exec
  have hb := B.bytes
  have hr := B.returns
  have hts := atoms_spec (ws := wsX5_isNoPart) B.pre
  have hown : s.vm.findClass RX5 = some m.cls := findClass_of_methodNamed B.named
  have hlocks := B.notSynchronized
  have hl := lv_entry ([.int a1]) (n := 1) (Nat.le_of_ble_eq_true rfl)
  rw [lg_entry_eq]
  generalize (lg_sl ([.int a1]) ++ List.replicate (1 - (lg_sl ([.int a1])).length) Slot.unset).toArray = ls at hl ⊢
  have hl : lv_has ls 1 [(0, .int a1)] := hl
  refine lv_iload_n hx hb dX5_isNoPart_0 rfl (lv_at hl 0 rfl) ?_
  refine lv_if_eq (tgt := 13) hx hb dX5_isNoPart_1 (by decide) (fun c_1 => ?_) (fun c_1 => ?_)
  · refine lv_iconst (v := 0) hx hb dX5_isNoPart_13 (by decide) ?_
    exact W.zret (v := 0) (ty := .boolean) hx hb hr (by decide +kernel) (fun t ht hW => ⟨_, rfl, by rw [sNP_e]; simp [c_1], ht⟩) (fun _ h => absurd h List.not_mem_nil) dX5_isNoPart_14
  · refine lv_iload_n hx hb dX5_isNoPart_4 rfl (lv_at hl 0 rfl) ?_
    refine lv_iconst (v := 1) hx hb dX5_isNoPart_5 (by decide) ?_
    refine lv_icmp_eq (tgt := 13) hx hb dX5_isNoPart_6 (by decide) (fun c_2 => ?_) (fun c_2 => ?_)
    · refine lv_iconst (v := 0) hx hb dX5_isNoPart_13 (by decide) ?_
      exact W.zret (v := 0) (ty := .boolean) hx hb hr (by decide +kernel) (fun t ht hW => ⟨_, rfl, by rw [sNP_e]; simp [c_1, c_2], ht⟩) (fun _ h => absurd h List.not_mem_nil) dX5_isNoPart_14
    · refine lv_iconst (v := 1) hx hb dX5_isNoPart_9 (by decide) ?_
      refine lv_goto (tgt := 14) hx hb dX5_isNoPart_10 (by decide) ?_
      exact W.zret (v := 1) (ty := .boolean) hx hb hr (by decide +kernel) (fun t ht hW => ⟨_, rfl, by rw [sNP_e]; simp [c_1, c_2], ht⟩) (fun _ h => absurd h List.not_mem_nil) dX5_isNoPart_14

set_option maxHeartbeats 4000000 in
set_option maxRecDepth 100000 in
theorem g_X5_letter (l : Launch) (D : va_G) (cI cL cZ cC : ClassId) (sz : Nat) (g0 : Nat) (ra : Nat) (wa : Nat) (ta : Nat) (ma : Nat) (pa : Nat) (ba : Nat) (ka : Nat) (fa : Nat) (qa : Nat) (ea : Nat) (za : Nat) (ya : Nat) (kpt : Int32) (mkd : Int32) (at0 : Int32) (wel : Int32) (srt : Int32) (wks : Int32) (tn : Nat) (tp : Nat → Int32) (rf : Nat → Int32) (a1 : Int32) (htn : tn ≤ 96) : Met l yX5_letter wsX5_letter ({ frames := 1, cells := 0, slots := 0, locals := 21 } : Room) (wPc D [.ref g0, .int a1] [(g0, .inr (5, [.ref ra, .ref wa, .ref ta, .int kpt, .ref ma, .int mkd, .ref pa, .int (nI tn), .int at0, .int wel, .ref ba, .ref ka, .int srt, .ref fa, .ref qa, .ref ea, .ref za, .ref ya, .int wks])), (pa, .inl (cI, 96, .inl tp)), (ra, .inl (cI, 7, .inl rf))] (xTy cI cL cZ cC) sz) (va_Qi (fun (r : Int32) (_ : Unit) => r = if qLe tn a1 = 0 then nI (xLn tn) else qLe tn a1) (fun (_ : Unit) t => va_P D vwCl [(g0, .inr (5, [.ref ra, .ref wa, .ref ta, .int kpt, .ref ma, .int mkd, .ref pa, .int (nI (if qLe tn a1 = 0 then xLn tn else tn)), .int at0, .int wel, .ref ba, .ref ka, .int srt, .ref fa, .ref qa, .ref ea, .ref za, .ref ya, .int wks])), (pa, .inl (cI, 96, .inl (if qLe tn a1 = 0 then xLt tp tn a1 else tp))), (ra, .inl (cI, 7, .inl (xRq rf (qLe tn a1))))] t.heap ∧ va_D (va_A [(g0, .inr (5, [.ref ra, .ref wa, .ref ta, .int kpt, .ref ma, .int mkd, .ref pa, .int (nI tn), .int at0, .int wel, .ref ba, .ref ka, .int srt, .ref fa, .ref qa, .ref ea, .ref za, .ref ya, .int wks])), (pa, .inl (cI, 96, .inl tp)), (ra, .inl (cI, 7, .inl rf))] sz) [(g0, .inr (5, [.ref ra, .ref wa, .ref ta, .int kpt, .ref ma, .int mkd, .ref pa, .int (nI (if qLe tn a1 = 0 then xLn tn else tn)), .int at0, .int wel, .ref ba, .ref ka, .int srt, .ref fa, .ref qa, .ref ea, .ref za, .ref ya, .int wks])), (pa, .inl (cI, 96, .inl (if qLe tn a1 = 0 then xLt tp tn a1 else tp))), (ra, .inl (cI, 7, .inl (xRq rf (qLe tn a1))))]) (va_A [(g0, .inr (5, [.ref ra, .ref wa, .ref ta, .int kpt, .ref ma, .int mkd, .ref pa, .int (nI tn), .int at0, .int wel, .ref ba, .ref ka, .int srt, .ref fa, .ref qa, .ref ea, .ref za, .ref ya, .int wks])), (pa, .inl (cI, 96, .inl tp)), (ra, .inl (cI, 7, .inl rf))] sz)) 0 0 (va_A [(g0, .inr (5, [.ref ra, .ref wa, .ref ta, .int kpt, .ref ma, .int mkd, .ref pa, .int (nI tn), .int at0, .int wel, .ref ba, .ref ka, .int srt, .ref fa, .ref qa, .ref ea, .ref za, .ref ya, .int wks])), (pa, .inl (cI, 96, .inl tp)), (ra, .inl (cI, 7, .inl rf))] sz) := by
  refine Met.ofW (cc := cX5_letter) (maxL := 2) (ret := (some .int)) (by decide) rfl ?_
  intro p e s m args below meth c s₁ B hml hv
  obtain ⟨rfl, hsz, hP, hK, hD0⟩ := hv
  have hx := B.exec
  have hb := B.bytes
  have hr := B.returns
  have hts := atoms_spec (ws := wsX5_letter) B.pre
  have hown : s.vm.findClass RX5 = some m.cls := findClass_of_methodNamed B.named
  have hlocks := B.notSynchronized
  have hwX5 : ∀ w ∈ u_ws RX5 TX5 19, w ∈ wsX5_letter := fun _ h => List.mem_cons_of_mem _ (List.mem_append_right _ h)
  subst hsz
  have hD := hD0.self (sz := s.heap.size)
  generalize hAe : va_A [(g0, .inr (5, [.ref ra, .ref wa, .ref ta, .int kpt, .ref ma, .int mkd, .ref pa, .int (nI tn), .int at0, .int wel, .ref ba, .ref ka, .int srt, .ref fa, .ref qa, .ref ea, .ref za, .ref ya, .int wks])), (pa, .inl (cI, 96, .inl tp)), (ra, .inl (cI, 7, .inl rf))] s.heap.size = A at hD ⊢
  have hA : ∀ q : Nat, s.heap.size ≤ q → A q := fun q h => by rw [← hAe]; exact Or.inr h
  have hS : va_S A s.heap s.heap [] := va_S.rf
  have hP : va_P D vwCl [(g0, .inr (5, [.ref ra, .ref wa, .ref ta, .int kpt, .ref ma, .int mkd, .ref pa, .int (nI tn), .int at0, .int wel, .ref ba, .ref ka, .int srt, .ref fa, .ref qa, .ref ea, .ref za, .ref ya, .int wks])), (pa, .inl (cI, 96, .inl tp)), (ra, .inl (cI, 7, .inl rf))] s.heap := hP
  have hl := lv_entry ([.ref g0, .int a1]) (n := 2) (Nat.le_of_ble_eq_true rfl)
  rw [lg_entry_eq]
  generalize (lg_sl ([.ref g0, .int a1]) ++ List.replicate (2 - (lg_sl ([.ref g0, .int a1])).length) Slot.unset).toArray = ls at hl ⊢
  have hl : lv_has ls 2 [(0, .ref g0), (1, .int a1)] := hl
  refine lv_iload_n hx hb dX5_letter_0 rfl (lv_at hl 1 rfl) ?_
  refine lv_if_ge (tgt := 11) hx hb dX5_letter_1 (by decide) (fun c_1 => ?_) (fun c_1 => ?_)
  · refine lv_iload_n hx hb dX5_letter_11 rfl (lv_at hl 1 rfl) ?_
    refine lv_sipush (v := 255) hx hb dX5_letter_12 (by decide) ?_
    refine lv_icmp_gt (tgt := 27) hx hb dX5_letter_15 (by decide) (fun c_2 => ?_) (fun c_2 => ?_)
    · refine lv_aload_n hx hb dX5_letter_27 rfl (lv_at hl 0 rfl) ?_
      refine lv_bipush (v := -6) hx hb dX5_letter_28 (by decide) ?_
      have hPc := hP.sub (ws' := [(g0, .inr (5, [.ref ra, .ref wa, .ref ta, .int kpt, .ref ma, .int mkd, .ref pa, .int (nI tn), .int at0, .int wel, .ref ba, .ref ka, .int srt, .ref fa, .ref qa, .ref ea, .ref za, .ref ya, .int wks])), (ra, .inl (cI, 7, .inl rf))]) [0, 2] rfl
      have hDc := hD.sub (ws' := [(g0, .inr (5, [.ref ra, .ref wa, .ref ta, .int kpt, .ref ma, .int mkd, .ref pa, .int (nI tn), .int at0, .int wel, .ref ba, .ref ka, .int srt, .ref fa, .ref qa, .ref ea, .ref za, .ref ya, .int wks])), (ra, .inl (cI, 7, .inl rf))]) [0, 2] (by decide) rfl
      have hFc := va_free (wc := [(g0, .inr (5, [.ref ra, .ref wa, .ref ta, .int kpt, .ref ma, .int mkd, .ref pa, .int (nI tn), .int at0, .int wel, .ref ba, .ref ka, .int srt, .ref fa, .ref qa, .ref ea, .ref za, .ref ya, .int wks])), (ra, .inl (cI, 7, .inl rf))]) hD hS hA [0, 2] rfl
      refine va_calli (va_runV (As := [.int (-6)]) (rest := []) ⟨hx, hb, hml, hown, hts⟩ (g_X5_no l D cI cL cZ cC _ g0 ra wa ta ma pa ba ka fa qa ea za ya kpt mkd (nI tn) at0 wel srt wks rf (-6) (by first | assumption | decide +kernel) (by first | assumption | decide +kernel)) (cwV 1 hts gX5_letter_X5_no rfl rfl rfl (by decide +kernel) ⟨Nat.le_of_ble_eq_true rfl, Nat.le_of_ble_eq_true rfl⟩) ⟨wPc_bl, va_recv hK hPc (ci := 5) (q0 := 0) rfl rfl, wPc_use hPc hK hDc⟩ rfl rfl hl.1 rfl (lv_room (Nat.le_of_ble_eq_true rfl)) dX5_letter_30 ⟨Nat.le_of_ble_eq_true rfl, Nat.le_of_ble_eq_true rfl⟩) hS (fun q _ h => hFc q h) hFc (fun r_3 u_3 t H1 locs ht hvm hw hB hz1 hk1 hS => ?_)
      obtain ⟨hP1, hD1⟩ := hB
      rw [ht] at hP1
      obtain ⟨hP, hD⟩ := va_join (wr := [(pa, .inl (cI, 96, .inl tp))]) (w1 := [(g0, .inr (5, [.ref ra, .ref wa, .ref ta, .int kpt, .ref ma, .int mkd, .ref pa, .int (nI tn), .int at0, .int wel, .ref ba, .ref ka, .int srt, .ref fa, .ref qa, .ref ea, .ref za, .ref ya, .int wks])), (ra, .inl (cI, 7, .inl (xRf rf (-6))))]) hP hD [0, 2] [1] rfl rfl (by decide) (by decide) hk1 hFc hP1 hD1
      generalize H1 = H at hP hS ⊢
      have hP : va_P D vwCl [(pa, .inl (cI, 96, .inl tp)), (g0, .inr (5, [.ref ra, .ref wa, .ref ta, .int kpt, .ref ma, .int mkd, .ref pa, .int (nI tn), .int at0, .int wel, .ref ba, .ref ka, .int srt, .ref fa, .ref qa, .ref ea, .ref za, .ref ya, .int wks])), (ra, .inl (cI, 7, .inl (xRf rf (-6))))] H := hP
      have hD : va_D A [(pa, .inl (cI, 96, .inl tp)), (g0, .inr (5, [.ref ra, .ref wa, .ref ta, .int kpt, .ref ma, .int mkd, .ref pa, .int (nI tn), .int at0, .int wel, .ref ba, .ref ka, .int srt, .ref fa, .ref qa, .ref ea, .ref za, .ref ya, .int wks])), (ra, .inl (cI, 7, .inl (xRf rf (-6))))] := hD
      obtain rfl : ((-6) : Int32) = r_3 := Eq.symm hw
      have hP9 := hP.sub (ws' := [(g0, .inr (5, [.ref ra, .ref wa, .ref ta, .int kpt, .ref ma, .int mkd, .ref pa, .int (nI tn), .int at0, .int wel, .ref ba, .ref ka, .int srt, .ref fa, .ref qa, .ref ea, .ref za, .ref ya, .int wks])), (pa, .inl (cI, 96, .inl tp)), (ra, .inl (cI, 7, .inl (xRf rf (-6))))]) [1, 0, 2] rfl
      have hD9 := hD.sub (ws' := [(g0, .inr (5, [.ref ra, .ref wa, .ref ta, .int kpt, .ref ma, .int mkd, .ref pa, .int (nI tn), .int at0, .int wel, .ref ba, .ref ka, .int srt, .ref fa, .ref qa, .ref ea, .ref za, .ref ya, .int wks])), (pa, .inl (cI, 96, .inl tp)), (ra, .inl (cI, 7, .inl (xRf rf (-6))))]) [1, 0, 2] (by decide) rfl
      have hE9 : ([(g0, .inr (5, [.ref ra, .ref wa, .ref ta, .int kpt, .ref ma, .int mkd, .ref pa, .int (nI tn), .int at0, .int wel, .ref ba, .ref ka, .int srt, .ref fa, .ref qa, .ref ea, .ref za, .ref ya, .int wks])), (pa, .inl (cI, 96, .inl tp)), (ra, .inl (cI, 7, .inl (xRf rf (-6))))] : va_W) = [(g0, .inr (5, [.ref ra, .ref wa, .ref ta, .int kpt, .ref ma, .int mkd, .ref pa, .int (nI (if qLe tn a1 = 0 then xLn tn else tn)), .int at0, .int wel, .ref ba, .ref ka, .int srt, .ref fa, .ref qa, .ref ea, .ref za, .ref ya, .int wks])), (pa, .inl (cI, 96, .inl (if qLe tn a1 = 0 then xLt tp tn a1 else tp))), (ra, .inl (cI, 7, .inl (xRq rf (qLe tn a1))))] := by simp [xRq, qLe, (Int32.not_lt.mpr c_1), c_2]
      exact W.iret (v := -6) hx hb hr (fun t ht hW => ⟨⟨_, (), rfl, by simp [xRq, qLe, (Int32.not_lt.mpr c_1), c_2], by rw [ht]; exact hE9 ▸ hP9, hE9 ▸ hD9⟩, hS.F ht⟩) hS.2.2 dX5_letter_33
    · refine lv_aload_n hx hb dX5_letter_18 rfl (lv_at hl 0 rfl) ?_
      refine va_get (D := D) (ci := 5) (v := .int (nI tn)) (C := RX5) (T := TX5) (N := 19) hx hb hts hwX5 hown hK hP 0 rfl rfl 7 (by decide) (hts (.fieldLink RX5 57 "WaitOrWalkOnModel" "taped" "I") (by decide +kernel)) (fun _ h9 => h9) rfl dX5_letter_19 ?_
      refine lv_bipush (v := 96) hx hb dX5_letter_22 (by decide) ?_
      refine lv_icmp_ne (tgt := 34) hx hb dX5_letter_24 (by decide) (fun c_4 => ?_) (fun c_4 => ?_)
      · refine lv_aload_n hx hb dX5_letter_34 rfl (lv_at hl 0 rfl) ?_
        refine va_get (D := D) (ci := 5) (v := .ref pa) (C := RX5) (T := TX5) (N := 19) hx hb hts hwX5 hown hK hP 0 rfl rfl 6 (by decide) (hts (.fieldLink RX5 28 "WaitOrWalkOnModel" "tape" "[I") (by decide +kernel)) (fun _ h9 => h9) rfl dX5_letter_35 ?_
        refine lv_aload_n hx hb dX5_letter_38 rfl (lv_at hl 0 rfl) ?_
        refine va_get (D := D) (ci := 5) (v := .int (nI tn)) (C := RX5) (T := TX5) (N := 19) hx hb hts hwX5 hown hK hP 0 rfl rfl 7 (by decide) (hts (.fieldLink RX5 57 "WaitOrWalkOnModel" "taped" "I") (by decide +kernel)) (fun _ h9 => h9) rfl dX5_letter_39 ?_
        refine lv_iload_n hx hb dX5_letter_42 rfl (lv_at hl 1 rfl) ?_
        refine va_iast (D := D) hx hb hK hP hD hS 1 0 rfl rfl (vp_in_nI (by have w : tn < 96 := (by have q := mt (nI_eq (a := tn) (b := 96) (by omega) (by decide)).mpr c_4; omega); exact w) (by decide)) dX5_letter_43 (fun H locs hP hD hS => ?_)
        rw [nI_clamp (by omega)] at hP hD
        have hP : va_P D vwCl [(g0, .inr (5, [.ref ra, .ref wa, .ref ta, .int kpt, .ref ma, .int mkd, .ref pa, .int (nI tn), .int at0, .int wel, .ref ba, .ref ka, .int srt, .ref fa, .ref qa, .ref ea, .ref za, .ref ya, .int wks])), (pa, .inl (cI, 96, .inl (upd tp tn a1))), (ra, .inl (cI, 7, .inl rf))] H := hP
        have hD : va_D A [(g0, .inr (5, [.ref ra, .ref wa, .ref ta, .int kpt, .ref ma, .int mkd, .ref pa, .int (nI tn), .int at0, .int wel, .ref ba, .ref ka, .int srt, .ref fa, .ref qa, .ref ea, .ref za, .ref ya, .int wks])), (pa, .inl (cI, 96, .inl (upd tp tn a1))), (ra, .inl (cI, 7, .inl rf))] := hD
        refine lv_aload_n hx hb dX5_letter_44 rfl (lv_at hl 0 rfl) ?_
        refine lv_dup hx hb dX5_letter_45 rfl ?_
        refine va_get (D := D) (ci := 5) (v := .int (nI tn)) (C := RX5) (T := TX5) (N := 19) hx hb hts hwX5 hown hK hP 0 rfl rfl 7 (by decide) (hts (.fieldLink RX5 57 "WaitOrWalkOnModel" "taped" "I") (by decide +kernel)) (fun _ h9 => h9) rfl dX5_letter_46 ?_
        refine lv_iconst (v := 1) hx hb dX5_letter_49 (by decide) ?_
        refine lv_iadd hx hb dX5_letter_50 ?_
        refine xv_int (y := nI (tn + 1)) (nI_1 tn) ?_
        refine va_put (D := D) (ci := 5) (v := .int (nI (tn + 1))) (ty := .int) (C := RX5) (T := TX5) (N := 19) hx hb hts hwX5 tyX5 tyX5_ok nmX5 hown hK hP hD hS 0 rfl rfl 7 (by decide) (hts (.fieldLink RX5 57 "WaitOrWalkOnModel" "taped" "I") (by decide +kernel)) (fun _ h9 => h9) rfl (by decide +kernel) rfl rfl (Nat.le_of_ble_eq_true rfl) dX5_letter_51 (fun H locs hP hD hS => ?_)
        have hP : va_P D vwCl [(g0, .inr (5, [.ref ra, .ref wa, .ref ta, .int kpt, .ref ma, .int mkd, .ref pa, .int (nI (tn + 1)), .int at0, .int wel, .ref ba, .ref ka, .int srt, .ref fa, .ref qa, .ref ea, .ref za, .ref ya, .int wks])), (pa, .inl (cI, 96, .inl (upd tp tn a1))), (ra, .inl (cI, 7, .inl rf))] H := hP
        have hD : va_D A [(g0, .inr (5, [.ref ra, .ref wa, .ref ta, .int kpt, .ref ma, .int mkd, .ref pa, .int (nI (tn + 1)), .int at0, .int wel, .ref ba, .ref ka, .int srt, .ref fa, .ref qa, .ref ea, .ref za, .ref ya, .int wks])), (pa, .inl (cI, 96, .inl (upd tp tn a1))), (ra, .inl (cI, 7, .inl rf))] := hD
        refine lv_aload_n hx hb dX5_letter_54 rfl (lv_at hl 0 rfl) ?_
        refine va_get (D := D) (ci := 5) (v := .int (nI (tn + 1))) (C := RX5) (T := TX5) (N := 19) hx hb hts hwX5 hown hK hP 0 rfl rfl 7 (by decide) (hts (.fieldLink RX5 57 "WaitOrWalkOnModel" "taped" "I") (by decide +kernel)) (fun _ h9 => h9) rfl dX5_letter_55 ?_
        have hP9 := hP.sub (ws' := [(g0, .inr (5, [.ref ra, .ref wa, .ref ta, .int kpt, .ref ma, .int mkd, .ref pa, .int (nI (tn + 1)), .int at0, .int wel, .ref ba, .ref ka, .int srt, .ref fa, .ref qa, .ref ea, .ref za, .ref ya, .int wks])), (pa, .inl (cI, 96, .inl (upd tp tn a1))), (ra, .inl (cI, 7, .inl rf))]) [0, 1, 2] rfl
        have hD9 := hD.sub (ws' := [(g0, .inr (5, [.ref ra, .ref wa, .ref ta, .int kpt, .ref ma, .int mkd, .ref pa, .int (nI (tn + 1)), .int at0, .int wel, .ref ba, .ref ka, .int srt, .ref fa, .ref qa, .ref ea, .ref za, .ref ya, .int wks])), (pa, .inl (cI, 96, .inl (upd tp tn a1))), (ra, .inl (cI, 7, .inl rf))]) [0, 1, 2] (by decide) rfl
        have hE9 : ([(g0, .inr (5, [.ref ra, .ref wa, .ref ta, .int kpt, .ref ma, .int mkd, .ref pa, .int (nI (tn + 1)), .int at0, .int wel, .ref ba, .ref ka, .int srt, .ref fa, .ref qa, .ref ea, .ref za, .ref ya, .int wks])), (pa, .inl (cI, 96, .inl (upd tp tn a1))), (ra, .inl (cI, 7, .inl rf))] : va_W) = [(g0, .inr (5, [.ref ra, .ref wa, .ref ta, .int kpt, .ref ma, .int mkd, .ref pa, .int (nI (if qLe tn a1 = 0 then xLn tn else tn)), .int at0, .int wel, .ref ba, .ref ka, .int srt, .ref fa, .ref qa, .ref ea, .ref za, .ref ya, .int wks])), (pa, .inl (cI, 96, .inl (if qLe tn a1 = 0 then xLt tp tn a1 else tp))), (ra, .inl (cI, 7, .inl (xRq rf (qLe tn a1))))] := (by have w : tn < 96 := (by have q := mt (nI_eq (a := tn) (b := 96) (by omega) (by decide)).mpr c_4; omega); have w2 : nI tn < 96 := (nI_ltI (a := tn) (b := 96) (by omega) (by decide)).mpr w; simp [xRq, qLe, (Int32.not_lt.mpr c_1), c_2, w2, xLn_lt w, xLt_lt w])
        exact W.iret (v := nI (tn + 1)) hx hb hr (fun t ht hW => ⟨⟨_, (), rfl, (by have w : tn < 96 := (by have q := mt (nI_eq (a := tn) (b := 96) (by omega) (by decide)).mpr c_4; omega); have w2 : nI tn < 96 := (nI_ltI (a := tn) (b := 96) (by omega) (by decide)).mpr w; simp [xRq, qLe, (Int32.not_lt.mpr c_1), c_2, w2, xLn_lt w]), by rw [ht]; exact hE9 ▸ hP9, hE9 ▸ hD9⟩, hS.F ht⟩) hS.2.2 dX5_letter_58
      · refine lv_aload_n hx hb dX5_letter_27 rfl (lv_at hl 0 rfl) ?_
        refine lv_bipush (v := -6) hx hb dX5_letter_28 (by decide) ?_
        have hPc := hP.sub (ws' := [(g0, .inr (5, [.ref ra, .ref wa, .ref ta, .int kpt, .ref ma, .int mkd, .ref pa, .int (nI tn), .int at0, .int wel, .ref ba, .ref ka, .int srt, .ref fa, .ref qa, .ref ea, .ref za, .ref ya, .int wks])), (ra, .inl (cI, 7, .inl rf))]) [0, 2] rfl
        have hDc := hD.sub (ws' := [(g0, .inr (5, [.ref ra, .ref wa, .ref ta, .int kpt, .ref ma, .int mkd, .ref pa, .int (nI tn), .int at0, .int wel, .ref ba, .ref ka, .int srt, .ref fa, .ref qa, .ref ea, .ref za, .ref ya, .int wks])), (ra, .inl (cI, 7, .inl rf))]) [0, 2] (by decide) rfl
        have hFc := va_free (wc := [(g0, .inr (5, [.ref ra, .ref wa, .ref ta, .int kpt, .ref ma, .int mkd, .ref pa, .int (nI tn), .int at0, .int wel, .ref ba, .ref ka, .int srt, .ref fa, .ref qa, .ref ea, .ref za, .ref ya, .int wks])), (ra, .inl (cI, 7, .inl rf))]) hD hS hA [0, 2] rfl
        refine va_calli (va_runV (As := [.int (-6)]) (rest := []) ⟨hx, hb, hml, hown, hts⟩ (g_X5_no l D cI cL cZ cC _ g0 ra wa ta ma pa ba ka fa qa ea za ya kpt mkd (nI tn) at0 wel srt wks rf (-6) (by first | assumption | decide +kernel) (by first | assumption | decide +kernel)) (cwV 1 hts gX5_letter_X5_no rfl rfl rfl (by decide +kernel) ⟨Nat.le_of_ble_eq_true rfl, Nat.le_of_ble_eq_true rfl⟩) ⟨wPc_bl, va_recv hK hPc (ci := 5) (q0 := 0) rfl rfl, wPc_use hPc hK hDc⟩ rfl rfl hl.1 rfl (lv_room (Nat.le_of_ble_eq_true rfl)) dX5_letter_30 ⟨Nat.le_of_ble_eq_true rfl, Nat.le_of_ble_eq_true rfl⟩) hS (fun q _ h => hFc q h) hFc (fun r_5 u_5 t H1 locs ht hvm hw hB hz1 hk1 hS => ?_)
        obtain ⟨hP1, hD1⟩ := hB
        rw [ht] at hP1
        obtain ⟨hP, hD⟩ := va_join (wr := [(pa, .inl (cI, 96, .inl tp))]) (w1 := [(g0, .inr (5, [.ref ra, .ref wa, .ref ta, .int kpt, .ref ma, .int mkd, .ref pa, .int (nI tn), .int at0, .int wel, .ref ba, .ref ka, .int srt, .ref fa, .ref qa, .ref ea, .ref za, .ref ya, .int wks])), (ra, .inl (cI, 7, .inl (xRf rf (-6))))]) hP hD [0, 2] [1] rfl rfl (by decide) (by decide) hk1 hFc hP1 hD1
        generalize H1 = H at hP hS ⊢
        have hP : va_P D vwCl [(pa, .inl (cI, 96, .inl tp)), (g0, .inr (5, [.ref ra, .ref wa, .ref ta, .int kpt, .ref ma, .int mkd, .ref pa, .int (nI tn), .int at0, .int wel, .ref ba, .ref ka, .int srt, .ref fa, .ref qa, .ref ea, .ref za, .ref ya, .int wks])), (ra, .inl (cI, 7, .inl (xRf rf (-6))))] H := hP
        have hD : va_D A [(pa, .inl (cI, 96, .inl tp)), (g0, .inr (5, [.ref ra, .ref wa, .ref ta, .int kpt, .ref ma, .int mkd, .ref pa, .int (nI tn), .int at0, .int wel, .ref ba, .ref ka, .int srt, .ref fa, .ref qa, .ref ea, .ref za, .ref ya, .int wks])), (ra, .inl (cI, 7, .inl (xRf rf (-6))))] := hD
        obtain rfl : ((-6) : Int32) = r_5 := Eq.symm hw
        have hP9 := hP.sub (ws' := [(g0, .inr (5, [.ref ra, .ref wa, .ref ta, .int kpt, .ref ma, .int mkd, .ref pa, .int (nI tn), .int at0, .int wel, .ref ba, .ref ka, .int srt, .ref fa, .ref qa, .ref ea, .ref za, .ref ya, .int wks])), (pa, .inl (cI, 96, .inl tp)), (ra, .inl (cI, 7, .inl (xRf rf (-6))))]) [1, 0, 2] rfl
        have hD9 := hD.sub (ws' := [(g0, .inr (5, [.ref ra, .ref wa, .ref ta, .int kpt, .ref ma, .int mkd, .ref pa, .int (nI tn), .int at0, .int wel, .ref ba, .ref ka, .int srt, .ref fa, .ref qa, .ref ea, .ref za, .ref ya, .int wks])), (pa, .inl (cI, 96, .inl tp)), (ra, .inl (cI, 7, .inl (xRf rf (-6))))]) [1, 0, 2] (by decide) rfl
        have hE9 : ([(g0, .inr (5, [.ref ra, .ref wa, .ref ta, .int kpt, .ref ma, .int mkd, .ref pa, .int (nI tn), .int at0, .int wel, .ref ba, .ref ka, .int srt, .ref fa, .ref qa, .ref ea, .ref za, .ref ya, .int wks])), (pa, .inl (cI, 96, .inl tp)), (ra, .inl (cI, 7, .inl (xRf rf (-6))))] : va_W) = [(g0, .inr (5, [.ref ra, .ref wa, .ref ta, .int kpt, .ref ma, .int mkd, .ref pa, .int (nI (if qLe tn a1 = 0 then xLn tn else tn)), .int at0, .int wel, .ref ba, .ref ka, .int srt, .ref fa, .ref qa, .ref ea, .ref za, .ref ya, .int wks])), (pa, .inl (cI, 96, .inl (if qLe tn a1 = 0 then xLt tp tn a1 else tp))), (ra, .inl (cI, 7, .inl (xRq rf (qLe tn a1))))] := (by have w2 : ¬ nI tn < 96 := (by rw [c_4]; decide); simp [xRq, qLe, (Int32.not_lt.mpr c_1), c_2, w2])
        exact W.iret (v := -6) hx hb hr (fun t ht hW => ⟨⟨_, (), rfl, (by have w2 : ¬ nI tn < 96 := (by rw [c_4]; decide); simp [xRq, qLe, (Int32.not_lt.mpr c_1), c_2, w2]), by rw [ht]; exact hE9 ▸ hP9, hE9 ▸ hD9⟩, hS.F ht⟩) hS.2.2 dX5_letter_33
  · refine lv_aload_n hx hb dX5_letter_4 rfl (lv_at hl 0 rfl) ?_
    refine lv_bipush (v := -4) hx hb dX5_letter_5 (by decide) ?_
    have hPc := hP.sub (ws' := [(g0, .inr (5, [.ref ra, .ref wa, .ref ta, .int kpt, .ref ma, .int mkd, .ref pa, .int (nI tn), .int at0, .int wel, .ref ba, .ref ka, .int srt, .ref fa, .ref qa, .ref ea, .ref za, .ref ya, .int wks])), (ra, .inl (cI, 7, .inl rf))]) [0, 2] rfl
    have hDc := hD.sub (ws' := [(g0, .inr (5, [.ref ra, .ref wa, .ref ta, .int kpt, .ref ma, .int mkd, .ref pa, .int (nI tn), .int at0, .int wel, .ref ba, .ref ka, .int srt, .ref fa, .ref qa, .ref ea, .ref za, .ref ya, .int wks])), (ra, .inl (cI, 7, .inl rf))]) [0, 2] (by decide) rfl
    have hFc := va_free (wc := [(g0, .inr (5, [.ref ra, .ref wa, .ref ta, .int kpt, .ref ma, .int mkd, .ref pa, .int (nI tn), .int at0, .int wel, .ref ba, .ref ka, .int srt, .ref fa, .ref qa, .ref ea, .ref za, .ref ya, .int wks])), (ra, .inl (cI, 7, .inl rf))]) hD hS hA [0, 2] rfl
    refine va_calli (va_runV (As := [.int (-4)]) (rest := []) ⟨hx, hb, hml, hown, hts⟩ (g_X5_no l D cI cL cZ cC _ g0 ra wa ta ma pa ba ka fa qa ea za ya kpt mkd (nI tn) at0 wel srt wks rf (-4) (by first | assumption | decide +kernel) (by first | assumption | decide +kernel)) (cwV 1 hts gX5_letter_X5_no rfl rfl rfl (by decide +kernel) ⟨Nat.le_of_ble_eq_true rfl, Nat.le_of_ble_eq_true rfl⟩) ⟨wPc_bl, va_recv hK hPc (ci := 5) (q0 := 0) rfl rfl, wPc_use hPc hK hDc⟩ rfl rfl hl.1 rfl (lv_room (Nat.le_of_ble_eq_true rfl)) dX5_letter_7 ⟨Nat.le_of_ble_eq_true rfl, Nat.le_of_ble_eq_true rfl⟩) hS (fun q _ h => hFc q h) hFc (fun r_6 u_6 t H1 locs ht hvm hw hB hz1 hk1 hS => ?_)
    obtain ⟨hP1, hD1⟩ := hB
    rw [ht] at hP1
    obtain ⟨hP, hD⟩ := va_join (wr := [(pa, .inl (cI, 96, .inl tp))]) (w1 := [(g0, .inr (5, [.ref ra, .ref wa, .ref ta, .int kpt, .ref ma, .int mkd, .ref pa, .int (nI tn), .int at0, .int wel, .ref ba, .ref ka, .int srt, .ref fa, .ref qa, .ref ea, .ref za, .ref ya, .int wks])), (ra, .inl (cI, 7, .inl (xRf rf (-4))))]) hP hD [0, 2] [1] rfl rfl (by decide) (by decide) hk1 hFc hP1 hD1
    generalize H1 = H at hP hS ⊢
    have hP : va_P D vwCl [(pa, .inl (cI, 96, .inl tp)), (g0, .inr (5, [.ref ra, .ref wa, .ref ta, .int kpt, .ref ma, .int mkd, .ref pa, .int (nI tn), .int at0, .int wel, .ref ba, .ref ka, .int srt, .ref fa, .ref qa, .ref ea, .ref za, .ref ya, .int wks])), (ra, .inl (cI, 7, .inl (xRf rf (-4))))] H := hP
    have hD : va_D A [(pa, .inl (cI, 96, .inl tp)), (g0, .inr (5, [.ref ra, .ref wa, .ref ta, .int kpt, .ref ma, .int mkd, .ref pa, .int (nI tn), .int at0, .int wel, .ref ba, .ref ka, .int srt, .ref fa, .ref qa, .ref ea, .ref za, .ref ya, .int wks])), (ra, .inl (cI, 7, .inl (xRf rf (-4))))] := hD
    obtain rfl : ((-4) : Int32) = r_6 := Eq.symm hw
    have hP9 := hP.sub (ws' := [(g0, .inr (5, [.ref ra, .ref wa, .ref ta, .int kpt, .ref ma, .int mkd, .ref pa, .int (nI tn), .int at0, .int wel, .ref ba, .ref ka, .int srt, .ref fa, .ref qa, .ref ea, .ref za, .ref ya, .int wks])), (pa, .inl (cI, 96, .inl tp)), (ra, .inl (cI, 7, .inl (xRf rf (-4))))]) [1, 0, 2] rfl
    have hD9 := hD.sub (ws' := [(g0, .inr (5, [.ref ra, .ref wa, .ref ta, .int kpt, .ref ma, .int mkd, .ref pa, .int (nI tn), .int at0, .int wel, .ref ba, .ref ka, .int srt, .ref fa, .ref qa, .ref ea, .ref za, .ref ya, .int wks])), (pa, .inl (cI, 96, .inl tp)), (ra, .inl (cI, 7, .inl (xRf rf (-4))))]) [1, 0, 2] (by decide) rfl
    have hE9 : ([(g0, .inr (5, [.ref ra, .ref wa, .ref ta, .int kpt, .ref ma, .int mkd, .ref pa, .int (nI tn), .int at0, .int wel, .ref ba, .ref ka, .int srt, .ref fa, .ref qa, .ref ea, .ref za, .ref ya, .int wks])), (pa, .inl (cI, 96, .inl tp)), (ra, .inl (cI, 7, .inl (xRf rf (-4))))] : va_W) = [(g0, .inr (5, [.ref ra, .ref wa, .ref ta, .int kpt, .ref ma, .int mkd, .ref pa, .int (nI (if qLe tn a1 = 0 then xLn tn else tn)), .int at0, .int wel, .ref ba, .ref ka, .int srt, .ref fa, .ref qa, .ref ea, .ref za, .ref ya, .int wks])), (pa, .inl (cI, 96, .inl (if qLe tn a1 = 0 then xLt tp tn a1 else tp))), (ra, .inl (cI, 7, .inl (xRq rf (qLe tn a1))))] := by simp [xRq, qLe, (Int32.not_le.mp c_1)]
    exact W.iret (v := -4) hx hb hr (fun t ht hW => ⟨⟨_, (), rfl, by simp [xRq, qLe, (Int32.not_le.mp c_1)], by rw [ht]; exact hE9 ▸ hP9, hE9 ▸ hD9⟩, hS.F ht⟩) hS.2.2 dX5_letter_10

set_option maxHeartbeats 4000000 in
set_option maxRecDepth 100000 in
theorem g_X5_row (l : Launch) (D : va_G) (cI cL cZ cC : ClassId) (sz : Nat) (g0 : Nat) (ra : Nat) (wa : Nat) (ta : Nat) (ma : Nat) (pa : Nat) (ba : Nat) (ka : Nat) (fa : Nat) (qa : Nat) (ea : Nat) (za : Nat) (ya : Nat) (kpt : Int32) (tpd : Int32) (at0 : Int32) (wel : Int32) (srt : Int32) (wks : Int32) (cn : Nat) (nf : Nat → Int32) (rf : Nat → Int32) (a1 : Int32) (hcn : cn ≤ 12) : Met l yX5_row wsX5_row ({ frames := 1, cells := 0, slots := 0, locals := 21 } : Room) (wPc D [.ref g0, .int a1] [(g0, .inr (5, [.ref ra, .ref wa, .ref ta, .int kpt, .ref ma, .int (nI cn), .ref pa, .int tpd, .int at0, .int wel, .ref ba, .ref ka, .int srt, .ref fa, .ref qa, .ref ea, .ref za, .ref ya, .int wks])), (ma, .inl (cI, 12, .inl nf)), (ra, .inl (cI, 7, .inl rf))] (xTy cI cL cZ cC) sz) (va_Qi (fun (r : Int32) (_ : Unit) => r = if qRo cn a1 = 0 then nI (xRn cn a1) else qRo cn a1) (fun (_ : Unit) t => va_P D vwCl [(g0, .inr (5, [.ref ra, .ref wa, .ref ta, .int kpt, .ref ma, .int (nI (xRn cn a1)), .ref pa, .int tpd, .int at0, .int wel, .ref ba, .ref ka, .int srt, .ref fa, .ref qa, .ref ea, .ref za, .ref ya, .int wks])), (ma, .inl (cI, 12, .inl (if qRo cn a1 = 0 then upd nf cn a1 else nf))), (ra, .inl (cI, 7, .inl (xRq rf (qRo cn a1))))] t.heap ∧ va_D (va_A [(g0, .inr (5, [.ref ra, .ref wa, .ref ta, .int kpt, .ref ma, .int (nI cn), .ref pa, .int tpd, .int at0, .int wel, .ref ba, .ref ka, .int srt, .ref fa, .ref qa, .ref ea, .ref za, .ref ya, .int wks])), (ma, .inl (cI, 12, .inl nf)), (ra, .inl (cI, 7, .inl rf))] sz) [(g0, .inr (5, [.ref ra, .ref wa, .ref ta, .int kpt, .ref ma, .int (nI (xRn cn a1)), .ref pa, .int tpd, .int at0, .int wel, .ref ba, .ref ka, .int srt, .ref fa, .ref qa, .ref ea, .ref za, .ref ya, .int wks])), (ma, .inl (cI, 12, .inl (if qRo cn a1 = 0 then upd nf cn a1 else nf))), (ra, .inl (cI, 7, .inl (xRq rf (qRo cn a1))))]) (va_A [(g0, .inr (5, [.ref ra, .ref wa, .ref ta, .int kpt, .ref ma, .int (nI cn), .ref pa, .int tpd, .int at0, .int wel, .ref ba, .ref ka, .int srt, .ref fa, .ref qa, .ref ea, .ref za, .ref ya, .int wks])), (ma, .inl (cI, 12, .inl nf)), (ra, .inl (cI, 7, .inl rf))] sz)) 0 0 (va_A [(g0, .inr (5, [.ref ra, .ref wa, .ref ta, .int kpt, .ref ma, .int (nI cn), .ref pa, .int tpd, .int at0, .int wel, .ref ba, .ref ka, .int srt, .ref fa, .ref qa, .ref ea, .ref za, .ref ya, .int wks])), (ma, .inl (cI, 12, .inl nf)), (ra, .inl (cI, 7, .inl rf))] sz) := by
  refine Met.ofW (cc := cX5_row) (maxL := 2) (ret := (some .int)) (by decide) rfl ?_
  intro p e s m args below meth c s₁ B hml hv
  obtain ⟨rfl, hsz, hP, hK, hD0⟩ := hv
  have hx := B.exec
  have hb := B.bytes
  have hr := B.returns
  have hts := atoms_spec (ws := wsX5_row) B.pre
  have hown : s.vm.findClass RX5 = some m.cls := findClass_of_methodNamed B.named
  have hlocks := B.notSynchronized
  have hwX5 : ∀ w ∈ u_ws RX5 TX5 19, w ∈ wsX5_row := fun _ h => List.mem_cons_of_mem _ (List.mem_append_right _ h)
  subst hsz
  have hD := hD0.self (sz := s.heap.size)
  generalize hAe : va_A [(g0, .inr (5, [.ref ra, .ref wa, .ref ta, .int kpt, .ref ma, .int (nI cn), .ref pa, .int tpd, .int at0, .int wel, .ref ba, .ref ka, .int srt, .ref fa, .ref qa, .ref ea, .ref za, .ref ya, .int wks])), (ma, .inl (cI, 12, .inl nf)), (ra, .inl (cI, 7, .inl rf))] s.heap.size = A at hD ⊢
  have hA : ∀ q : Nat, s.heap.size ≤ q → A q := fun q h => by rw [← hAe]; exact Or.inr h
  have hS : va_S A s.heap s.heap [] := va_S.rf
  have hP : va_P D vwCl [(g0, .inr (5, [.ref ra, .ref wa, .ref ta, .int kpt, .ref ma, .int (nI cn), .ref pa, .int tpd, .int at0, .int wel, .ref ba, .ref ka, .int srt, .ref fa, .ref qa, .ref ea, .ref za, .ref ya, .int wks])), (ma, .inl (cI, 12, .inl nf)), (ra, .inl (cI, 7, .inl rf))] s.heap := hP
  have hl := lv_entry ([.ref g0, .int a1]) (n := 2) (Nat.le_of_ble_eq_true rfl)
  rw [lg_entry_eq]
  generalize (lg_sl ([.ref g0, .int a1]) ++ List.replicate (2 - (lg_sl ([.ref g0, .int a1])).length) Slot.unset).toArray = ls at hl ⊢
  have hl : lv_has ls 2 [(0, .ref g0), (1, .int a1)] := hl
  refine lv_iload_n hx hb dX5_row_0 rfl (lv_at hl 1 rfl) ?_
  refine lv_if_ge (tgt := 11) hx hb dX5_row_1 (by decide) (fun c_1 => ?_) (fun c_1 => ?_)
  · refine lv_iload_n hx hb dX5_row_11 rfl (lv_at hl 1 rfl) ?_
    refine lv_sipush (v := 999) hx hb dX5_row_12 (by decide) ?_
    refine lv_icmp_gt (tgt := 27) hx hb dX5_row_15 (by decide) (fun c_2 => ?_) (fun c_2 => ?_)
    · refine lv_aload_n hx hb dX5_row_27 rfl (lv_at hl 0 rfl) ?_
      refine lv_bipush (v := -6) hx hb dX5_row_28 (by decide) ?_
      have hPc := hP.sub (ws' := [(g0, .inr (5, [.ref ra, .ref wa, .ref ta, .int kpt, .ref ma, .int (nI cn), .ref pa, .int tpd, .int at0, .int wel, .ref ba, .ref ka, .int srt, .ref fa, .ref qa, .ref ea, .ref za, .ref ya, .int wks])), (ra, .inl (cI, 7, .inl rf))]) [0, 2] rfl
      have hDc := hD.sub (ws' := [(g0, .inr (5, [.ref ra, .ref wa, .ref ta, .int kpt, .ref ma, .int (nI cn), .ref pa, .int tpd, .int at0, .int wel, .ref ba, .ref ka, .int srt, .ref fa, .ref qa, .ref ea, .ref za, .ref ya, .int wks])), (ra, .inl (cI, 7, .inl rf))]) [0, 2] (by decide) rfl
      have hFc := va_free (wc := [(g0, .inr (5, [.ref ra, .ref wa, .ref ta, .int kpt, .ref ma, .int (nI cn), .ref pa, .int tpd, .int at0, .int wel, .ref ba, .ref ka, .int srt, .ref fa, .ref qa, .ref ea, .ref za, .ref ya, .int wks])), (ra, .inl (cI, 7, .inl rf))]) hD hS hA [0, 2] rfl
      refine va_calli (va_runV (As := [.int (-6)]) (rest := []) ⟨hx, hb, hml, hown, hts⟩ (g_X5_no l D cI cL cZ cC _ g0 ra wa ta ma pa ba ka fa qa ea za ya kpt (nI cn) tpd at0 wel srt wks rf (-6) (by first | assumption | decide +kernel) (by first | assumption | decide +kernel)) (cwV 1 hts gX5_row_X5_no rfl rfl rfl (by decide +kernel) ⟨Nat.le_of_ble_eq_true rfl, Nat.le_of_ble_eq_true rfl⟩) ⟨wPc_bl, va_recv hK hPc (ci := 5) (q0 := 0) rfl rfl, wPc_use hPc hK hDc⟩ rfl rfl hl.1 rfl (lv_room (Nat.le_of_ble_eq_true rfl)) dX5_row_30 ⟨Nat.le_of_ble_eq_true rfl, Nat.le_of_ble_eq_true rfl⟩) hS (fun q _ h => hFc q h) hFc (fun r_3 u_3 t H1 locs ht hvm hw hB hz1 hk1 hS => ?_)
      obtain ⟨hP1, hD1⟩ := hB
      rw [ht] at hP1
      obtain ⟨hP, hD⟩ := va_join (wr := [(ma, .inl (cI, 12, .inl nf))]) (w1 := [(g0, .inr (5, [.ref ra, .ref wa, .ref ta, .int kpt, .ref ma, .int (nI cn), .ref pa, .int tpd, .int at0, .int wel, .ref ba, .ref ka, .int srt, .ref fa, .ref qa, .ref ea, .ref za, .ref ya, .int wks])), (ra, .inl (cI, 7, .inl (xRf rf (-6))))]) hP hD [0, 2] [1] rfl rfl (by decide) (by decide) hk1 hFc hP1 hD1
      generalize H1 = H at hP hS ⊢
      have hP : va_P D vwCl [(ma, .inl (cI, 12, .inl nf)), (g0, .inr (5, [.ref ra, .ref wa, .ref ta, .int kpt, .ref ma, .int (nI cn), .ref pa, .int tpd, .int at0, .int wel, .ref ba, .ref ka, .int srt, .ref fa, .ref qa, .ref ea, .ref za, .ref ya, .int wks])), (ra, .inl (cI, 7, .inl (xRf rf (-6))))] H := hP
      have hD : va_D A [(ma, .inl (cI, 12, .inl nf)), (g0, .inr (5, [.ref ra, .ref wa, .ref ta, .int kpt, .ref ma, .int (nI cn), .ref pa, .int tpd, .int at0, .int wel, .ref ba, .ref ka, .int srt, .ref fa, .ref qa, .ref ea, .ref za, .ref ya, .int wks])), (ra, .inl (cI, 7, .inl (xRf rf (-6))))] := hD
      obtain rfl : ((-6) : Int32) = r_3 := Eq.symm hw
      have hP9 := hP.sub (ws' := [(g0, .inr (5, [.ref ra, .ref wa, .ref ta, .int kpt, .ref ma, .int (nI cn), .ref pa, .int tpd, .int at0, .int wel, .ref ba, .ref ka, .int srt, .ref fa, .ref qa, .ref ea, .ref za, .ref ya, .int wks])), (ma, .inl (cI, 12, .inl nf)), (ra, .inl (cI, 7, .inl (xRf rf (-6))))]) [1, 0, 2] rfl
      have hD9 := hD.sub (ws' := [(g0, .inr (5, [.ref ra, .ref wa, .ref ta, .int kpt, .ref ma, .int (nI cn), .ref pa, .int tpd, .int at0, .int wel, .ref ba, .ref ka, .int srt, .ref fa, .ref qa, .ref ea, .ref za, .ref ya, .int wks])), (ma, .inl (cI, 12, .inl nf)), (ra, .inl (cI, 7, .inl (xRf rf (-6))))]) [1, 0, 2] (by decide) rfl
      have hE9 : ([(g0, .inr (5, [.ref ra, .ref wa, .ref ta, .int kpt, .ref ma, .int (nI cn), .ref pa, .int tpd, .int at0, .int wel, .ref ba, .ref ka, .int srt, .ref fa, .ref qa, .ref ea, .ref za, .ref ya, .int wks])), (ma, .inl (cI, 12, .inl nf)), (ra, .inl (cI, 7, .inl (xRf rf (-6))))] : va_W) = [(g0, .inr (5, [.ref ra, .ref wa, .ref ta, .int kpt, .ref ma, .int (nI (xRn cn a1)), .ref pa, .int tpd, .int at0, .int wel, .ref ba, .ref ka, .int srt, .ref fa, .ref qa, .ref ea, .ref za, .ref ya, .int wks])), (ma, .inl (cI, 12, .inl (if qRo cn a1 = 0 then upd nf cn a1 else nf))), (ra, .inl (cI, 7, .inl (xRq rf (qRo cn a1))))] := by simp [xRq, qRo, xRn, (Int32.not_lt.mpr c_1), c_2]
      exact W.iret (v := -6) hx hb hr (fun t ht hW => ⟨⟨_, (), rfl, by simp [xRq, qRo, xRn, (Int32.not_lt.mpr c_1), c_2], by rw [ht]; exact hE9 ▸ hP9, hE9 ▸ hD9⟩, hS.F ht⟩) hS.2.2 dX5_row_33
    · refine lv_aload_n hx hb dX5_row_18 rfl (lv_at hl 0 rfl) ?_
      refine va_get (D := D) (ci := 5) (v := .int (nI cn)) (C := RX5) (T := TX5) (N := 19) hx hb hts hwX5 hown hK hP 0 rfl rfl 5 (by decide) (hts (.fieldLink RX5 188 "WaitOrWalkOnModel" "marked" "I") (by decide +kernel)) (fun _ h9 => h9) rfl dX5_row_19 ?_
      refine lv_bipush (v := 12) hx hb dX5_row_22 (by decide) ?_
      refine lv_icmp_ne (tgt := 34) hx hb dX5_row_24 (by decide) (fun c_4 => ?_) (fun c_4 => ?_)
      · refine lv_aload_n hx hb dX5_row_34 rfl (lv_at hl 0 rfl) ?_
        refine va_get (D := D) (ci := 5) (v := .ref ma) (C := RX5) (T := TX5) (N := 19) hx hb hts hwX5 hown hK hP 0 rfl rfl 4 (by decide) (hts (.fieldLink RX5 25 "WaitOrWalkOnModel" "marks" "[I") (by decide +kernel)) (fun _ h9 => h9) rfl dX5_row_35 ?_
        refine lv_aload_n hx hb dX5_row_38 rfl (lv_at hl 0 rfl) ?_
        refine va_get (D := D) (ci := 5) (v := .int (nI cn)) (C := RX5) (T := TX5) (N := 19) hx hb hts hwX5 hown hK hP 0 rfl rfl 5 (by decide) (hts (.fieldLink RX5 188 "WaitOrWalkOnModel" "marked" "I") (by decide +kernel)) (fun _ h9 => h9) rfl dX5_row_39 ?_
        refine lv_iload_n hx hb dX5_row_42 rfl (lv_at hl 1 rfl) ?_
        refine va_iast (D := D) hx hb hK hP hD hS 1 0 rfl rfl (vp_in_nI (by have w : cn < 12 := (by have q := mt (nI_eq (a := cn) (b := 12) (by omega) (by decide)).mpr c_4; omega); exact w) (by decide)) dX5_row_43 (fun H locs hP hD hS => ?_)
        rw [nI_clamp (by omega)] at hP hD
        have hP : va_P D vwCl [(g0, .inr (5, [.ref ra, .ref wa, .ref ta, .int kpt, .ref ma, .int (nI cn), .ref pa, .int tpd, .int at0, .int wel, .ref ba, .ref ka, .int srt, .ref fa, .ref qa, .ref ea, .ref za, .ref ya, .int wks])), (ma, .inl (cI, 12, .inl (upd nf cn a1))), (ra, .inl (cI, 7, .inl rf))] H := hP
        have hD : va_D A [(g0, .inr (5, [.ref ra, .ref wa, .ref ta, .int kpt, .ref ma, .int (nI cn), .ref pa, .int tpd, .int at0, .int wel, .ref ba, .ref ka, .int srt, .ref fa, .ref qa, .ref ea, .ref za, .ref ya, .int wks])), (ma, .inl (cI, 12, .inl (upd nf cn a1))), (ra, .inl (cI, 7, .inl rf))] := hD
        refine lv_aload_n hx hb dX5_row_44 rfl (lv_at hl 0 rfl) ?_
        refine lv_dup hx hb dX5_row_45 rfl ?_
        refine va_get (D := D) (ci := 5) (v := .int (nI cn)) (C := RX5) (T := TX5) (N := 19) hx hb hts hwX5 hown hK hP 0 rfl rfl 5 (by decide) (hts (.fieldLink RX5 188 "WaitOrWalkOnModel" "marked" "I") (by decide +kernel)) (fun _ h9 => h9) rfl dX5_row_46 ?_
        refine lv_iconst (v := 1) hx hb dX5_row_49 (by decide) ?_
        refine lv_iadd hx hb dX5_row_50 ?_
        refine xv_int (y := nI (cn + 1)) (nI_1 cn) ?_
        refine va_put (D := D) (ci := 5) (v := .int (nI (cn + 1))) (ty := .int) (C := RX5) (T := TX5) (N := 19) hx hb hts hwX5 tyX5 tyX5_ok nmX5 hown hK hP hD hS 0 rfl rfl 5 (by decide) (hts (.fieldLink RX5 188 "WaitOrWalkOnModel" "marked" "I") (by decide +kernel)) (fun _ h9 => h9) rfl (by decide +kernel) rfl rfl (Nat.le_of_ble_eq_true rfl) dX5_row_51 (fun H locs hP hD hS => ?_)
        have hP : va_P D vwCl [(g0, .inr (5, [.ref ra, .ref wa, .ref ta, .int kpt, .ref ma, .int (nI (cn + 1)), .ref pa, .int tpd, .int at0, .int wel, .ref ba, .ref ka, .int srt, .ref fa, .ref qa, .ref ea, .ref za, .ref ya, .int wks])), (ma, .inl (cI, 12, .inl (upd nf cn a1))), (ra, .inl (cI, 7, .inl rf))] H := hP
        have hD : va_D A [(g0, .inr (5, [.ref ra, .ref wa, .ref ta, .int kpt, .ref ma, .int (nI (cn + 1)), .ref pa, .int tpd, .int at0, .int wel, .ref ba, .ref ka, .int srt, .ref fa, .ref qa, .ref ea, .ref za, .ref ya, .int wks])), (ma, .inl (cI, 12, .inl (upd nf cn a1))), (ra, .inl (cI, 7, .inl rf))] := hD
        refine lv_aload_n hx hb dX5_row_54 rfl (lv_at hl 0 rfl) ?_
        refine va_get (D := D) (ci := 5) (v := .int (nI (cn + 1))) (C := RX5) (T := TX5) (N := 19) hx hb hts hwX5 hown hK hP 0 rfl rfl 5 (by decide) (hts (.fieldLink RX5 188 "WaitOrWalkOnModel" "marked" "I") (by decide +kernel)) (fun _ h9 => h9) rfl dX5_row_55 ?_
        have hP9 := hP.sub (ws' := [(g0, .inr (5, [.ref ra, .ref wa, .ref ta, .int kpt, .ref ma, .int (nI (cn + 1)), .ref pa, .int tpd, .int at0, .int wel, .ref ba, .ref ka, .int srt, .ref fa, .ref qa, .ref ea, .ref za, .ref ya, .int wks])), (ma, .inl (cI, 12, .inl (upd nf cn a1))), (ra, .inl (cI, 7, .inl rf))]) [0, 1, 2] rfl
        have hD9 := hD.sub (ws' := [(g0, .inr (5, [.ref ra, .ref wa, .ref ta, .int kpt, .ref ma, .int (nI (cn + 1)), .ref pa, .int tpd, .int at0, .int wel, .ref ba, .ref ka, .int srt, .ref fa, .ref qa, .ref ea, .ref za, .ref ya, .int wks])), (ma, .inl (cI, 12, .inl (upd nf cn a1))), (ra, .inl (cI, 7, .inl rf))]) [0, 1, 2] (by decide) rfl
        have hE9 : ([(g0, .inr (5, [.ref ra, .ref wa, .ref ta, .int kpt, .ref ma, .int (nI (cn + 1)), .ref pa, .int tpd, .int at0, .int wel, .ref ba, .ref ka, .int srt, .ref fa, .ref qa, .ref ea, .ref za, .ref ya, .int wks])), (ma, .inl (cI, 12, .inl (upd nf cn a1))), (ra, .inl (cI, 7, .inl rf))] : va_W) = [(g0, .inr (5, [.ref ra, .ref wa, .ref ta, .int kpt, .ref ma, .int (nI (xRn cn a1)), .ref pa, .int tpd, .int at0, .int wel, .ref ba, .ref ka, .int srt, .ref fa, .ref qa, .ref ea, .ref za, .ref ya, .int wks])), (ma, .inl (cI, 12, .inl (if qRo cn a1 = 0 then upd nf cn a1 else nf))), (ra, .inl (cI, 7, .inl (xRq rf (qRo cn a1))))] := (by have w : cn < 12 := (by have q := mt (nI_eq (a := cn) (b := 12) (by omega) (by decide)).mpr c_4; omega); have w2 : nI cn < 12 := (nI_ltI (a := cn) (b := 12) (by omega) (by decide)).mpr w; simp [xRq, qRo, xRn, (Int32.not_lt.mpr c_1), c_2, w2])
        exact W.iret (v := nI (cn + 1)) hx hb hr (fun t ht hW => ⟨⟨_, (), rfl, (by have w : cn < 12 := (by have q := mt (nI_eq (a := cn) (b := 12) (by omega) (by decide)).mpr c_4; omega); have w2 : nI cn < 12 := (nI_ltI (a := cn) (b := 12) (by omega) (by decide)).mpr w; simp [xRq, qRo, xRn, (Int32.not_lt.mpr c_1), c_2, w2]), by rw [ht]; exact hE9 ▸ hP9, hE9 ▸ hD9⟩, hS.F ht⟩) hS.2.2 dX5_row_58
      · refine lv_aload_n hx hb dX5_row_27 rfl (lv_at hl 0 rfl) ?_
        refine lv_bipush (v := -6) hx hb dX5_row_28 (by decide) ?_
        have hPc := hP.sub (ws' := [(g0, .inr (5, [.ref ra, .ref wa, .ref ta, .int kpt, .ref ma, .int (nI cn), .ref pa, .int tpd, .int at0, .int wel, .ref ba, .ref ka, .int srt, .ref fa, .ref qa, .ref ea, .ref za, .ref ya, .int wks])), (ra, .inl (cI, 7, .inl rf))]) [0, 2] rfl
        have hDc := hD.sub (ws' := [(g0, .inr (5, [.ref ra, .ref wa, .ref ta, .int kpt, .ref ma, .int (nI cn), .ref pa, .int tpd, .int at0, .int wel, .ref ba, .ref ka, .int srt, .ref fa, .ref qa, .ref ea, .ref za, .ref ya, .int wks])), (ra, .inl (cI, 7, .inl rf))]) [0, 2] (by decide) rfl
        have hFc := va_free (wc := [(g0, .inr (5, [.ref ra, .ref wa, .ref ta, .int kpt, .ref ma, .int (nI cn), .ref pa, .int tpd, .int at0, .int wel, .ref ba, .ref ka, .int srt, .ref fa, .ref qa, .ref ea, .ref za, .ref ya, .int wks])), (ra, .inl (cI, 7, .inl rf))]) hD hS hA [0, 2] rfl
        refine va_calli (va_runV (As := [.int (-6)]) (rest := []) ⟨hx, hb, hml, hown, hts⟩ (g_X5_no l D cI cL cZ cC _ g0 ra wa ta ma pa ba ka fa qa ea za ya kpt (nI cn) tpd at0 wel srt wks rf (-6) (by first | assumption | decide +kernel) (by first | assumption | decide +kernel)) (cwV 1 hts gX5_row_X5_no rfl rfl rfl (by decide +kernel) ⟨Nat.le_of_ble_eq_true rfl, Nat.le_of_ble_eq_true rfl⟩) ⟨wPc_bl, va_recv hK hPc (ci := 5) (q0 := 0) rfl rfl, wPc_use hPc hK hDc⟩ rfl rfl hl.1 rfl (lv_room (Nat.le_of_ble_eq_true rfl)) dX5_row_30 ⟨Nat.le_of_ble_eq_true rfl, Nat.le_of_ble_eq_true rfl⟩) hS (fun q _ h => hFc q h) hFc (fun r_5 u_5 t H1 locs ht hvm hw hB hz1 hk1 hS => ?_)
        obtain ⟨hP1, hD1⟩ := hB
        rw [ht] at hP1
        obtain ⟨hP, hD⟩ := va_join (wr := [(ma, .inl (cI, 12, .inl nf))]) (w1 := [(g0, .inr (5, [.ref ra, .ref wa, .ref ta, .int kpt, .ref ma, .int (nI cn), .ref pa, .int tpd, .int at0, .int wel, .ref ba, .ref ka, .int srt, .ref fa, .ref qa, .ref ea, .ref za, .ref ya, .int wks])), (ra, .inl (cI, 7, .inl (xRf rf (-6))))]) hP hD [0, 2] [1] rfl rfl (by decide) (by decide) hk1 hFc hP1 hD1
        generalize H1 = H at hP hS ⊢
        have hP : va_P D vwCl [(ma, .inl (cI, 12, .inl nf)), (g0, .inr (5, [.ref ra, .ref wa, .ref ta, .int kpt, .ref ma, .int (nI cn), .ref pa, .int tpd, .int at0, .int wel, .ref ba, .ref ka, .int srt, .ref fa, .ref qa, .ref ea, .ref za, .ref ya, .int wks])), (ra, .inl (cI, 7, .inl (xRf rf (-6))))] H := hP
        have hD : va_D A [(ma, .inl (cI, 12, .inl nf)), (g0, .inr (5, [.ref ra, .ref wa, .ref ta, .int kpt, .ref ma, .int (nI cn), .ref pa, .int tpd, .int at0, .int wel, .ref ba, .ref ka, .int srt, .ref fa, .ref qa, .ref ea, .ref za, .ref ya, .int wks])), (ra, .inl (cI, 7, .inl (xRf rf (-6))))] := hD
        obtain rfl : ((-6) : Int32) = r_5 := Eq.symm hw
        have hP9 := hP.sub (ws' := [(g0, .inr (5, [.ref ra, .ref wa, .ref ta, .int kpt, .ref ma, .int (nI cn), .ref pa, .int tpd, .int at0, .int wel, .ref ba, .ref ka, .int srt, .ref fa, .ref qa, .ref ea, .ref za, .ref ya, .int wks])), (ma, .inl (cI, 12, .inl nf)), (ra, .inl (cI, 7, .inl (xRf rf (-6))))]) [1, 0, 2] rfl
        have hD9 := hD.sub (ws' := [(g0, .inr (5, [.ref ra, .ref wa, .ref ta, .int kpt, .ref ma, .int (nI cn), .ref pa, .int tpd, .int at0, .int wel, .ref ba, .ref ka, .int srt, .ref fa, .ref qa, .ref ea, .ref za, .ref ya, .int wks])), (ma, .inl (cI, 12, .inl nf)), (ra, .inl (cI, 7, .inl (xRf rf (-6))))]) [1, 0, 2] (by decide) rfl
        have hE9 : ([(g0, .inr (5, [.ref ra, .ref wa, .ref ta, .int kpt, .ref ma, .int (nI cn), .ref pa, .int tpd, .int at0, .int wel, .ref ba, .ref ka, .int srt, .ref fa, .ref qa, .ref ea, .ref za, .ref ya, .int wks])), (ma, .inl (cI, 12, .inl nf)), (ra, .inl (cI, 7, .inl (xRf rf (-6))))] : va_W) = [(g0, .inr (5, [.ref ra, .ref wa, .ref ta, .int kpt, .ref ma, .int (nI (xRn cn a1)), .ref pa, .int tpd, .int at0, .int wel, .ref ba, .ref ka, .int srt, .ref fa, .ref qa, .ref ea, .ref za, .ref ya, .int wks])), (ma, .inl (cI, 12, .inl (if qRo cn a1 = 0 then upd nf cn a1 else nf))), (ra, .inl (cI, 7, .inl (xRq rf (qRo cn a1))))] := (by have w2 : ¬ nI cn < 12 := (by rw [c_4]; decide); simp [xRq, qRo, xRn, (Int32.not_lt.mpr c_1), c_2, w2])
        exact W.iret (v := -6) hx hb hr (fun t ht hW => ⟨⟨_, (), rfl, (by have w2 : ¬ nI cn < 12 := (by rw [c_4]; decide); simp [xRq, qRo, xRn, (Int32.not_lt.mpr c_1), c_2, w2]), by rw [ht]; exact hE9 ▸ hP9, hE9 ▸ hD9⟩, hS.F ht⟩) hS.2.2 dX5_row_33
  · refine lv_aload_n hx hb dX5_row_4 rfl (lv_at hl 0 rfl) ?_
    refine lv_bipush (v := -4) hx hb dX5_row_5 (by decide) ?_
    have hPc := hP.sub (ws' := [(g0, .inr (5, [.ref ra, .ref wa, .ref ta, .int kpt, .ref ma, .int (nI cn), .ref pa, .int tpd, .int at0, .int wel, .ref ba, .ref ka, .int srt, .ref fa, .ref qa, .ref ea, .ref za, .ref ya, .int wks])), (ra, .inl (cI, 7, .inl rf))]) [0, 2] rfl
    have hDc := hD.sub (ws' := [(g0, .inr (5, [.ref ra, .ref wa, .ref ta, .int kpt, .ref ma, .int (nI cn), .ref pa, .int tpd, .int at0, .int wel, .ref ba, .ref ka, .int srt, .ref fa, .ref qa, .ref ea, .ref za, .ref ya, .int wks])), (ra, .inl (cI, 7, .inl rf))]) [0, 2] (by decide) rfl
    have hFc := va_free (wc := [(g0, .inr (5, [.ref ra, .ref wa, .ref ta, .int kpt, .ref ma, .int (nI cn), .ref pa, .int tpd, .int at0, .int wel, .ref ba, .ref ka, .int srt, .ref fa, .ref qa, .ref ea, .ref za, .ref ya, .int wks])), (ra, .inl (cI, 7, .inl rf))]) hD hS hA [0, 2] rfl
    refine va_calli (va_runV (As := [.int (-4)]) (rest := []) ⟨hx, hb, hml, hown, hts⟩ (g_X5_no l D cI cL cZ cC _ g0 ra wa ta ma pa ba ka fa qa ea za ya kpt (nI cn) tpd at0 wel srt wks rf (-4) (by first | assumption | decide +kernel) (by first | assumption | decide +kernel)) (cwV 1 hts gX5_row_X5_no rfl rfl rfl (by decide +kernel) ⟨Nat.le_of_ble_eq_true rfl, Nat.le_of_ble_eq_true rfl⟩) ⟨wPc_bl, va_recv hK hPc (ci := 5) (q0 := 0) rfl rfl, wPc_use hPc hK hDc⟩ rfl rfl hl.1 rfl (lv_room (Nat.le_of_ble_eq_true rfl)) dX5_row_7 ⟨Nat.le_of_ble_eq_true rfl, Nat.le_of_ble_eq_true rfl⟩) hS (fun q _ h => hFc q h) hFc (fun r_6 u_6 t H1 locs ht hvm hw hB hz1 hk1 hS => ?_)
    obtain ⟨hP1, hD1⟩ := hB
    rw [ht] at hP1
    obtain ⟨hP, hD⟩ := va_join (wr := [(ma, .inl (cI, 12, .inl nf))]) (w1 := [(g0, .inr (5, [.ref ra, .ref wa, .ref ta, .int kpt, .ref ma, .int (nI cn), .ref pa, .int tpd, .int at0, .int wel, .ref ba, .ref ka, .int srt, .ref fa, .ref qa, .ref ea, .ref za, .ref ya, .int wks])), (ra, .inl (cI, 7, .inl (xRf rf (-4))))]) hP hD [0, 2] [1] rfl rfl (by decide) (by decide) hk1 hFc hP1 hD1
    generalize H1 = H at hP hS ⊢
    have hP : va_P D vwCl [(ma, .inl (cI, 12, .inl nf)), (g0, .inr (5, [.ref ra, .ref wa, .ref ta, .int kpt, .ref ma, .int (nI cn), .ref pa, .int tpd, .int at0, .int wel, .ref ba, .ref ka, .int srt, .ref fa, .ref qa, .ref ea, .ref za, .ref ya, .int wks])), (ra, .inl (cI, 7, .inl (xRf rf (-4))))] H := hP
    have hD : va_D A [(ma, .inl (cI, 12, .inl nf)), (g0, .inr (5, [.ref ra, .ref wa, .ref ta, .int kpt, .ref ma, .int (nI cn), .ref pa, .int tpd, .int at0, .int wel, .ref ba, .ref ka, .int srt, .ref fa, .ref qa, .ref ea, .ref za, .ref ya, .int wks])), (ra, .inl (cI, 7, .inl (xRf rf (-4))))] := hD
    obtain rfl : ((-4) : Int32) = r_6 := Eq.symm hw
    have hP9 := hP.sub (ws' := [(g0, .inr (5, [.ref ra, .ref wa, .ref ta, .int kpt, .ref ma, .int (nI cn), .ref pa, .int tpd, .int at0, .int wel, .ref ba, .ref ka, .int srt, .ref fa, .ref qa, .ref ea, .ref za, .ref ya, .int wks])), (ma, .inl (cI, 12, .inl nf)), (ra, .inl (cI, 7, .inl (xRf rf (-4))))]) [1, 0, 2] rfl
    have hD9 := hD.sub (ws' := [(g0, .inr (5, [.ref ra, .ref wa, .ref ta, .int kpt, .ref ma, .int (nI cn), .ref pa, .int tpd, .int at0, .int wel, .ref ba, .ref ka, .int srt, .ref fa, .ref qa, .ref ea, .ref za, .ref ya, .int wks])), (ma, .inl (cI, 12, .inl nf)), (ra, .inl (cI, 7, .inl (xRf rf (-4))))]) [1, 0, 2] (by decide) rfl
    have hE9 : ([(g0, .inr (5, [.ref ra, .ref wa, .ref ta, .int kpt, .ref ma, .int (nI cn), .ref pa, .int tpd, .int at0, .int wel, .ref ba, .ref ka, .int srt, .ref fa, .ref qa, .ref ea, .ref za, .ref ya, .int wks])), (ma, .inl (cI, 12, .inl nf)), (ra, .inl (cI, 7, .inl (xRf rf (-4))))] : va_W) = [(g0, .inr (5, [.ref ra, .ref wa, .ref ta, .int kpt, .ref ma, .int (nI (xRn cn a1)), .ref pa, .int tpd, .int at0, .int wel, .ref ba, .ref ka, .int srt, .ref fa, .ref qa, .ref ea, .ref za, .ref ya, .int wks])), (ma, .inl (cI, 12, .inl (if qRo cn a1 = 0 then upd nf cn a1 else nf))), (ra, .inl (cI, 7, .inl (xRq rf (qRo cn a1))))] := by simp [xRq, qRo, xRn, (Int32.not_le.mp c_1)]
    exact W.iret (v := -4) hx hb hr (fun t ht hW => ⟨⟨_, (), rfl, by simp [xRq, qRo, xRn, (Int32.not_le.mp c_1)], by rw [ht]; exact hE9 ▸ hP9, hE9 ▸ hD9⟩, hS.F ht⟩) hS.2.2 dX5_row_10

/-! the reference: stop, chance -/
def q5S (st : Nat) (a1 a2 : Int32) : Int32 := if sNL st a1 = 0 then (if a2 < 0 then -2 else if 2 < a2 then -2 else 0) else -1
def v5S (st : Nat) (nw : Nat → Int32) (a1 a2 : Int32) : Int32 := if a2 = 0 then nw (10 + a1.toNatClampNeg) else if a2 = 1 then xRs nw st 0 - xRs nw st a1.toNatClampNeg else xRs nw st a1.toNatClampNeg
def q5C (ln : Nat) (a1 a2 : Int32) : Int32 := if sNL ln a1 = 0 then (if a2 < 0 then -4 else if 11 < a2 then -6 else 0) else -1
def v5C (nw : Nat → Int32) (a1 a2 : Int32) : Int32 := xWt (fun i => nw (20 + 16 * a1.toNatClampNeg + i)) a2.toNatClampNeg
