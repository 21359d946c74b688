set_option maxHeartbeats 4000000 in
set_option maxRecDepth 100000 in
theorem g_X4_others (l : Launch) (D : va_G) (cI cL cZ cC : ClassId) (sz : Nat) (h0 : Nat) (rd : Nat) (dr : Nat) (kp : Nat) (pl : Nat) (tx : Nat) (nu : Nat) (rf_a : Nat) (nc : Int32) (hi : Int32) (pd : Int32) (rf : Nat → Int32) (a1 : Int32) (a2 : Int32) (a3 : Int32) (a4 : Int32)  : Met l yX4_others wsX4_others ({ frames := 1, cells := 0, slots := 0, locals := 25 } : Room) (wPc D [.ref h0, .int a1, .int a2, .int a3, .int a4] [(h0, .inr (4, [.ref rd, .ref dr, .ref kp, .ref pl, .ref tx, .ref nu, .ref rf_a, .int nc, .int hi, .int pd])), (rf_a, .inl (cI, 7, .inl rf))] (xTy cI cL cZ cC) sz) (va_Qi (fun (r : Int32) (_ : Unit) => r = if qOt a1 a2 a3 a4 = 0 then vOt a1 a2 a3 a4 else qOt a1 a2 a3 a4) (fun (_ : Unit) t => va_P D vwCl [(h0, .inr (4, [.ref rd, .ref dr, .ref kp, .ref pl, .ref tx, .ref nu, .ref rf_a, .int nc, .int hi, .int pd])), (rf_a, .inl (cI, 7, .inl (xRq rf (qOt a1 a2 a3 a4))))] t.heap ∧ va_D (va_A [(h0, .inr (4, [.ref rd, .ref dr, .ref kp, .ref pl, .ref tx, .ref nu, .ref rf_a, .int nc, .int hi, .int pd])), (rf_a, .inl (cI, 7, .inl rf))] sz) [(h0, .inr (4, [.ref rd, .ref dr, .ref kp, .ref pl, .ref tx, .ref nu, .ref rf_a, .int nc, .int hi, .int pd])), (rf_a, .inl (cI, 7, .inl (xRq rf (qOt a1 a2 a3 a4))))]) (va_A [(h0, .inr (4, [.ref rd, .ref dr, .ref kp, .ref pl, .ref tx, .ref nu, .ref rf_a, .int nc, .int hi, .int pd])), (rf_a, .inl (cI, 7, .inl rf))] sz)) 0 0 (va_A [(h0, .inr (4, [.ref rd, .ref dr, .ref kp, .ref pl, .ref tx, .ref nu, .ref rf_a, .int nc, .int hi, .int pd])), (rf_a, .inl (cI, 7, .inl rf))] sz) := by
  refine Met.ofW (cc := cX4_others) (maxL := 10) (ret := (some .int)) (by decide) rfl ?_
  intro p e s m args below meth c s₁ B hml hv
  obtain ⟨rfl, hsz, hP, hK, hD0⟩ := hv
  have hx := B.exec
  have hb := B.bytes
  have hr := B.returns
  have hts := atoms_spec (ws := wsX4_others) B.pre
  have hown : s.vm.findClass RX4 = some m.cls := findClass_of_methodNamed B.named
  have hlocks := B.notSynchronized
  subst hsz
  have hD := hD0.self (sz := s.heap.size)
  generalize hAe : va_A [(h0, .inr (4, [.ref rd, .ref dr, .ref kp, .ref pl, .ref tx, .ref nu, .ref rf_a, .int nc, .int hi, .int pd])), (rf_a, .inl (cI, 7, .inl rf))] s.heap.size = A at hD ⊢
  have hA : ∀ q : Nat, s.heap.size ≤ q → A q := fun q h => by rw [← hAe]; exact Or.inr h
  have hS : va_S A s.heap s.heap [] := va_S.rf
  have hP : va_P D vwCl [(h0, .inr (4, [.ref rd, .ref dr, .ref kp, .ref pl, .ref tx, .ref nu, .ref rf_a, .int nc, .int hi, .int pd])), (rf_a, .inl (cI, 7, .inl rf))] s.heap := hP
  have hl := lv_entry ([.ref h0, .int a1, .int a2, .int a3, .int a4]) (n := 10) (Nat.le_of_ble_eq_true rfl)
  rw [lg_entry_eq]
  generalize (lg_sl ([.ref h0, .int a1, .int a2, .int a3, .int a4]) ++ List.replicate (10 - (lg_sl ([.ref h0, .int a1, .int a2, .int a3, .int a4])).length) Slot.unset).toArray = ls at hl ⊢
  have hl : lv_has ls 10 [(0, .ref h0), (1, .int a1), (2, .int a2), (3, .int a3), (4, .int a4)] := hl
  refine lv_iload_n hx hb dX4_others_0 rfl (lv_at hl 1 rfl) ?_
  refine lv_iconst (v := 1) hx hb dX4_others_1 (by decide) ?_
  refine lv_icmp_lt (tgt := 18) hx hb dX4_others_2 (by decide) (fun c_1 => ?_) (fun c_1 => ?_)
  · refine lv_aload_n hx hb dX4_others_18 rfl (lv_at hl 0 rfl) ?_
    refine lv_bipush (v := -4) hx hb dX4_others_19 (by decide) ?_
    have hPc := hP.sub (ws' := [(h0, .inr (4, [.ref rd, .ref dr, .ref kp, .ref pl, .ref tx, .ref nu, .ref rf_a, .int nc, .int hi, .int pd])), (rf_a, .inl (cI, 7, .inl rf))]) [0, 1] rfl
    have hDc := hD.sub (ws' := [(h0, .inr (4, [.ref rd, .ref dr, .ref kp, .ref pl, .ref tx, .ref nu, .ref rf_a, .int nc, .int hi, .int pd])), (rf_a, .inl (cI, 7, .inl rf))]) [0, 1] (by decide) rfl
    have hFc := va_free (wc := [(h0, .inr (4, [.ref rd, .ref dr, .ref kp, .ref pl, .ref tx, .ref nu, .ref rf_a, .int nc, .int hi, .int pd])), (rf_a, .inl (cI, 7, .inl rf))]) hD hS hA [0, 1] rfl
    refine va_calli (va_runV (As := [.int (-4)]) (rest := []) ⟨hx, hb, hml, hown, hts⟩ (g_X4_refuse l D cI cL cZ cC _ h0 rd dr kp pl tx nu rf_a nc hi pd rf (-4) (by first | assumption | decide +kernel) (by first | assumption | decide +kernel)) (cwV 1 hts gX4_others_X4_refuse rfl rfl rfl (by decide +kernel) ⟨Nat.le_of_ble_eq_true rfl, Nat.le_of_ble_eq_true rfl⟩) ⟨wPc_bl, va_recv hK hPc (ci := 4) (q0 := 0) rfl rfl, wPc_use hPc hK hDc⟩ rfl rfl hl.1 rfl (lv_room (Nat.le_of_ble_eq_true rfl)) dX4_others_21 ⟨Nat.le_of_ble_eq_true rfl, Nat.le_of_ble_eq_true rfl⟩) hS (fun q _ h => hFc q h) hFc (fun r_2 u_2 t H1 locs ht hvm hw hB hz1 hk1 hS => ?_)
    obtain ⟨hP1, hD1⟩ := hB
    rw [ht] at hP1
    obtain ⟨hP, hD⟩ := va_join (wr := []) (w1 := [(h0, .inr (4, [.ref rd, .ref dr, .ref kp, .ref pl, .ref tx, .ref nu, .ref rf_a, .int nc, .int hi, .int pd])), (rf_a, .inl (cI, 7, .inl (xRf rf (-4))))]) hP hD [0, 1] [] rfl rfl (by decide) (by decide) hk1 hFc hP1 hD1
    generalize H1 = H at hP hS ⊢
    have hP : va_P D vwCl [(h0, .inr (4, [.ref rd, .ref dr, .ref kp, .ref pl, .ref tx, .ref nu, .ref rf_a, .int nc, .int hi, .int pd])), (rf_a, .inl (cI, 7, .inl (xRf rf (-4))))] H := hP
    have hD : va_D A [(h0, .inr (4, [.ref rd, .ref dr, .ref kp, .ref pl, .ref tx, .ref nu, .ref rf_a, .int nc, .int hi, .int pd])), (rf_a, .inl (cI, 7, .inl (xRf rf (-4))))] := hD
    obtain rfl : ((-4) : Int32) = r_2 := Eq.symm hw
    have hP9 := hP.sub (ws' := [(h0, .inr (4, [.ref rd, .ref dr, .ref kp, .ref pl, .ref tx, .ref nu, .ref rf_a, .int nc, .int hi, .int pd])), (rf_a, .inl (cI, 7, .inl (xRf rf (-4))))]) [0, 1] rfl
    have hD9 := hD.sub (ws' := [(h0, .inr (4, [.ref rd, .ref dr, .ref kp, .ref pl, .ref tx, .ref nu, .ref rf_a, .int nc, .int hi, .int pd])), (rf_a, .inl (cI, 7, .inl (xRf rf (-4))))]) [0, 1] (by decide) rfl
    have hE9 : ([(h0, .inr (4, [.ref rd, .ref dr, .ref kp, .ref pl, .ref tx, .ref nu, .ref rf_a, .int nc, .int hi, .int pd])), (rf_a, .inl (cI, 7, .inl (xRf rf (-4))))] : va_W) = [(h0, .inr (4, [.ref rd, .ref dr, .ref kp, .ref pl, .ref tx, .ref nu, .ref rf_a, .int nc, .int hi, .int pd])), (rf_a, .inl (cI, 7, .inl (xRq rf (qOt a1 a2 a3 a4))))] := by simp [xRq, qOt, c_1]
    exact W.iret (v := -4) hx hb hr (fun t ht hW => ⟨⟨_, (), rfl, by simp [qOt, c_1], by rw [ht]; exact hE9 ▸ hP9, hE9 ▸ hD9⟩, hS.F ht⟩) hS.2.2 dX4_others_24
  · refine lv_iload_n hx hb dX4_others_5 rfl (lv_at hl 2 rfl) ?_
    refine lv_if_lt (tgt := 18) hx hb dX4_others_6 (by decide) (fun c_3 => ?_) (fun c_3 => ?_)
    · refine lv_aload_n hx hb dX4_others_18 rfl (lv_at hl 0 rfl) ?_
      refine lv_bipush (v := -4) hx hb dX4_others_19 (by decide) ?_
      have hPc := hP.sub (ws' := [(h0, .inr (4, [.ref rd, .ref dr, .ref kp, .ref pl, .ref tx, .ref nu, .ref rf_a, .int nc, .int hi, .int pd])), (rf_a, .inl (cI, 7, .inl rf))]) [0, 1] rfl
      have hDc := hD.sub (ws' := [(h0, .inr (4, [.ref rd, .ref dr, .ref kp, .ref pl, .ref tx, .ref nu, .ref rf_a, .int nc, .int hi, .int pd])), (rf_a, .inl (cI, 7, .inl rf))]) [0, 1] (by decide) rfl
      have hFc := va_free (wc := [(h0, .inr (4, [.ref rd, .ref dr, .ref kp, .ref pl, .ref tx, .ref nu, .ref rf_a, .int nc, .int hi, .int pd])), (rf_a, .inl (cI, 7, .inl rf))]) hD hS hA [0, 1] rfl
      refine va_calli (va_runV (As := [.int (-4)]) (rest := []) ⟨hx, hb, hml, hown, hts⟩ (g_X4_refuse l D cI cL cZ cC _ h0 rd dr kp pl tx nu rf_a nc hi pd rf (-4) (by first | assumption | decide +kernel) (by first | assumption | decide +kernel)) (cwV 1 hts gX4_others_X4_refuse rfl rfl rfl (by decide +kernel) ⟨Nat.le_of_ble_eq_true rfl, Nat.le_of_ble_eq_true rfl⟩) ⟨wPc_bl, va_recv hK hPc (ci := 4) (q0 := 0) rfl rfl, wPc_use hPc hK hDc⟩ rfl rfl hl.1 rfl (lv_room (Nat.le_of_ble_eq_true rfl)) dX4_others_21 ⟨Nat.le_of_ble_eq_true rfl, Nat.le_of_ble_eq_true rfl⟩) hS (fun q _ h => hFc q h) hFc (fun r_4 u_4 t H1 locs ht hvm hw hB hz1 hk1 hS => ?_)
      obtain ⟨hP1, hD1⟩ := hB
      rw [ht] at hP1
      obtain ⟨hP, hD⟩ := va_join (wr := []) (w1 := [(h0, .inr (4, [.ref rd, .ref dr, .ref kp, .ref pl, .ref tx, .ref nu, .ref rf_a, .int nc, .int hi, .int pd])), (rf_a, .inl (cI, 7, .inl (xRf rf (-4))))]) hP hD [0, 1] [] rfl rfl (by decide) (by decide) hk1 hFc hP1 hD1
      generalize H1 = H at hP hS ⊢
      have hP : va_P D vwCl [(h0, .inr (4, [.ref rd, .ref dr, .ref kp, .ref pl, .ref tx, .ref nu, .ref rf_a, .int nc, .int hi, .int pd])), (rf_a, .inl (cI, 7, .inl (xRf rf (-4))))] H := hP
      have hD : va_D A [(h0, .inr (4, [.ref rd, .ref dr, .ref kp, .ref pl, .ref tx, .ref nu, .ref rf_a, .int nc, .int hi, .int pd])), (rf_a, .inl (cI, 7, .inl (xRf rf (-4))))] := hD
      obtain rfl : ((-4) : Int32) = r_4 := Eq.symm hw
      have hP9 := hP.sub (ws' := [(h0, .inr (4, [.ref rd, .ref dr, .ref kp, .ref pl, .ref tx, .ref nu, .ref rf_a, .int nc, .int hi, .int pd])), (rf_a, .inl (cI, 7, .inl (xRf rf (-4))))]) [0, 1] rfl
      have hD9 := hD.sub (ws' := [(h0, .inr (4, [.ref rd, .ref dr, .ref kp, .ref pl, .ref tx, .ref nu, .ref rf_a, .int nc, .int hi, .int pd])), (rf_a, .inl (cI, 7, .inl (xRf rf (-4))))]) [0, 1] (by decide) rfl
      have hE9 : ([(h0, .inr (4, [.ref rd, .ref dr, .ref kp, .ref pl, .ref tx, .ref nu, .ref rf_a, .int nc, .int hi, .int pd])), (rf_a, .inl (cI, 7, .inl (xRf rf (-4))))] : va_W) = [(h0, .inr (4, [.ref rd, .ref dr, .ref kp, .ref pl, .ref tx, .ref nu, .ref rf_a, .int nc, .int hi, .int pd])), (rf_a, .inl (cI, 7, .inl (xRq rf (qOt a1 a2 a3 a4))))] := by simp [xRq, qOt, c_1, c_3]
      exact W.iret (v := -4) hx hb hr (fun t ht hW => ⟨⟨_, (), rfl, by simp [qOt, c_1, c_3], by rw [ht]; exact hE9 ▸ hP9, hE9 ▸ hD9⟩, hS.F ht⟩) hS.2.2 dX4_others_24
    · refine lv_iload_n hx hb dX4_others_9 rfl (lv_at hl 3 rfl) ?_
      refine lv_if_lt (tgt := 18) hx hb dX4_others_10 (by decide) (fun c_5 => ?_) (fun c_5 => ?_)
      · refine lv_aload_n hx hb dX4_others_18 rfl (lv_at hl 0 rfl) ?_
        refine lv_bipush (v := -4) hx hb dX4_others_19 (by decide) ?_
        have hPc := hP.sub (ws' := [(h0, .inr (4, [.ref rd, .ref dr, .ref kp, .ref pl, .ref tx, .ref nu, .ref rf_a, .int nc, .int hi, .int pd])), (rf_a, .inl (cI, 7, .inl rf))]) [0, 1] rfl
        have hDc := hD.sub (ws' := [(h0, .inr (4, [.ref rd, .ref dr, .ref kp, .ref pl, .ref tx, .ref nu, .ref rf_a, .int nc, .int hi, .int pd])), (rf_a, .inl (cI, 7, .inl rf))]) [0, 1] (by decide) rfl
        have hFc := va_free (wc := [(h0, .inr (4, [.ref rd, .ref dr, .ref kp, .ref pl, .ref tx, .ref nu, .ref rf_a, .int nc, .int hi, .int pd])), (rf_a, .inl (cI, 7, .inl rf))]) hD hS hA [0, 1] rfl
        refine va_calli (va_runV (As := [.int (-4)]) (rest := []) ⟨hx, hb, hml, hown, hts⟩ (g_X4_refuse l D cI cL cZ cC _ h0 rd dr kp pl tx nu rf_a nc hi pd rf (-4) (by first | assumption | decide +kernel) (by first | assumption | decide +kernel)) (cwV 1 hts gX4_others_X4_refuse rfl rfl rfl (by decide +kernel) ⟨Nat.le_of_ble_eq_true rfl, Nat.le_of_ble_eq_true rfl⟩) ⟨wPc_bl, va_recv hK hPc (ci := 4) (q0 := 0) rfl rfl, wPc_use hPc hK hDc⟩ rfl rfl hl.1 rfl (lv_room (Nat.le_of_ble_eq_true rfl)) dX4_others_21 ⟨Nat.le_of_ble_eq_true rfl, Nat.le_of_ble_eq_true rfl⟩) hS (fun q _ h => hFc q h) hFc (fun r_6 u_6 t H1 locs ht hvm hw hB hz1 hk1 hS => ?_)
        obtain ⟨hP1, hD1⟩ := hB
        rw [ht] at hP1
        obtain ⟨hP, hD⟩ := va_join (wr := []) (w1 := [(h0, .inr (4, [.ref rd, .ref dr, .ref kp, .ref pl, .ref tx, .ref nu, .ref rf_a, .int nc, .int hi, .int pd])), (rf_a, .inl (cI, 7, .inl (xRf rf (-4))))]) hP hD [0, 1] [] rfl rfl (by decide) (by decide) hk1 hFc hP1 hD1
        generalize H1 = H at hP hS ⊢
        have hP : va_P D vwCl [(h0, .inr (4, [.ref rd, .ref dr, .ref kp, .ref pl, .ref tx, .ref nu, .ref rf_a, .int nc, .int hi, .int pd])), (rf_a, .inl (cI, 7, .inl (xRf rf (-4))))] H := hP
        have hD : va_D A [(h0, .inr (4, [.ref rd, .ref dr, .ref kp, .ref pl, .ref tx, .ref nu, .ref rf_a, .int nc, .int hi, .int pd])), (rf_a, .inl (cI, 7, .inl (xRf rf (-4))))] := hD
        obtain rfl : ((-4) : Int32) = r_6 := Eq.symm hw
        have hP9 := hP.sub (ws' := [(h0, .inr (4, [.ref rd, .ref dr, .ref kp, .ref pl, .ref tx, .ref nu, .ref rf_a, .int nc, .int hi, .int pd])), (rf_a, .inl (cI, 7, .inl (xRf rf (-4))))]) [0, 1] rfl
        have hD9 := hD.sub (ws' := [(h0, .inr (4, [.ref rd, .ref dr, .ref kp, .ref pl, .ref tx, .ref nu, .ref rf_a, .int nc, .int hi, .int pd])), (rf_a, .inl (cI, 7, .inl (xRf rf (-4))))]) [0, 1] (by decide) rfl
        have hE9 : ([(h0, .inr (4, [.ref rd, .ref dr, .ref kp, .ref pl, .ref tx, .ref nu, .ref rf_a, .int nc, .int hi, .int pd])), (rf_a, .inl (cI, 7, .inl (xRf rf (-4))))] : va_W) = [(h0, .inr (4, [.ref rd, .ref dr, .ref kp, .ref pl, .ref tx, .ref nu, .ref rf_a, .int nc, .int hi, .int pd])), (rf_a, .inl (cI, 7, .inl (xRq rf (qOt a1 a2 a3 a4))))] := by simp [xRq, qOt, c_1, c_3, c_5]
        exact W.iret (v := -4) hx hb hr (fun t ht hW => ⟨⟨_, (), rfl, by simp [qOt, c_1, c_3, c_5], by rw [ht]; exact hE9 ▸ hP9, hE9 ▸ hD9⟩, hS.F ht⟩) hS.2.2 dX4_others_24
      · refine lv_iload hx hb dX4_others_13 (lv_at hl 4 rfl) ?_
        refine lv_if_ge (tgt := 25) hx hb dX4_others_15 (by decide) (fun c_7 => ?_) (fun c_7 => ?_)
        · refine lv_iload_n hx hb dX4_others_25 rfl (lv_at hl 1 rfl) ?_
          refine lv_bipush (v := 9) hx hb dX4_others_26 (by decide) ?_
          refine lv_icmp_gt (tgt := 50) hx hb dX4_others_28 (by decide) (fun c_8 => ?_) (fun c_8 => ?_)
          · refine lv_aload_n hx hb dX4_others_50 rfl (lv_at hl 0 rfl) ?_
            refine lv_bipush (v := -6) hx hb dX4_others_51 (by decide) ?_
            have hPc := hP.sub (ws' := [(h0, .inr (4, [.ref rd, .ref dr, .ref kp, .ref pl, .ref tx, .ref nu, .ref rf_a, .int nc, .int hi, .int pd])), (rf_a, .inl (cI, 7, .inl rf))]) [0, 1] rfl
            have hDc := hD.sub (ws' := [(h0, .inr (4, [.ref rd, .ref dr, .ref kp, .ref pl, .ref tx, .ref nu, .ref rf_a, .int nc, .int hi, .int pd])), (rf_a, .inl (cI, 7, .inl rf))]) [0, 1] (by decide) rfl
            have hFc := va_free (wc := [(h0, .inr (4, [.ref rd, .ref dr, .ref kp, .ref pl, .ref tx, .ref nu, .ref rf_a, .int nc, .int hi, .int pd])), (rf_a, .inl (cI, 7, .inl rf))]) hD hS hA [0, 1] rfl
            refine va_calli (va_runV (As := [.int (-6)]) (rest := []) ⟨hx, hb, hml, hown, hts⟩ (g_X4_refuse l D cI cL cZ cC _ h0 rd dr kp pl tx nu rf_a nc hi pd rf (-6) (by first | assumption | decide +kernel) (by first | assumption | decide +kernel)) (cwV 1 hts gX4_others_X4_refuse rfl rfl rfl (by decide +kernel) ⟨Nat.le_of_ble_eq_true rfl, Nat.le_of_ble_eq_true rfl⟩) ⟨wPc_bl, va_recv hK hPc (ci := 4) (q0 := 0) rfl rfl, wPc_use hPc hK hDc⟩ rfl rfl hl.1 rfl (lv_room (Nat.le_of_ble_eq_true rfl)) dX4_others_53 ⟨Nat.le_of_ble_eq_true rfl, Nat.le_of_ble_eq_true rfl⟩) hS (fun q _ h => hFc q h) hFc (fun r_9 u_9 t H1 locs ht hvm hw hB hz1 hk1 hS => ?_)
            obtain ⟨hP1, hD1⟩ := hB
            rw [ht] at hP1
            obtain ⟨hP, hD⟩ := va_join (wr := []) (w1 := [(h0, .inr (4, [.ref rd, .ref dr, .ref kp, .ref pl, .ref tx, .ref nu, .ref rf_a, .int nc, .int hi, .int pd])), (rf_a, .inl (cI, 7, .inl (xRf rf (-6))))]) hP hD [0, 1] [] rfl rfl (by decide) (by decide) hk1 hFc hP1 hD1
            generalize H1 = H at hP hS ⊢
            have hP : va_P D vwCl [(h0, .inr (4, [.ref rd, .ref dr, .ref kp, .ref pl, .ref tx, .ref nu, .ref rf_a, .int nc, .int hi, .int pd])), (rf_a, .inl (cI, 7, .inl (xRf rf (-6))))] H := hP
            have hD : va_D A [(h0, .inr (4, [.ref rd, .ref dr, .ref kp, .ref pl, .ref tx, .ref nu, .ref rf_a, .int nc, .int hi, .int pd])), (rf_a, .inl (cI, 7, .inl (xRf rf (-6))))] := hD
            obtain rfl : ((-6) : Int32) = r_9 := Eq.symm hw
            have hP9 := hP.sub (ws' := [(h0, .inr (4, [.ref rd, .ref dr, .ref kp, .ref pl, .ref tx, .ref nu, .ref rf_a, .int nc, .int hi, .int pd])), (rf_a, .inl (cI, 7, .inl (xRf rf (-6))))]) [0, 1] rfl
            have hD9 := hD.sub (ws' := [(h0, .inr (4, [.ref rd, .ref dr, .ref kp, .ref pl, .ref tx, .ref nu, .ref rf_a, .int nc, .int hi, .int pd])), (rf_a, .inl (cI, 7, .inl (xRf rf (-6))))]) [0, 1] (by decide) rfl
            have hE9 : ([(h0, .inr (4, [.ref rd, .ref dr, .ref kp, .ref pl, .ref tx, .ref nu, .ref rf_a, .int nc, .int hi, .int pd])), (rf_a, .inl (cI, 7, .inl (xRf rf (-6))))] : va_W) = [(h0, .inr (4, [.ref rd, .ref dr, .ref kp, .ref pl, .ref tx, .ref nu, .ref rf_a, .int nc, .int hi, .int pd])), (rf_a, .inl (cI, 7, .inl (xRq rf (qOt a1 a2 a3 a4))))] := by simp [xRq, qOt, c_1, c_3, c_5, (Int32.not_lt.mpr c_7), c_8]
            exact W.iret (v := -6) hx hb hr (fun t ht hW => ⟨⟨_, (), rfl, by simp [qOt, c_1, c_3, c_5, (Int32.not_lt.mpr c_7), c_8], by rw [ht]; exact hE9 ▸ hP9, hE9 ▸ hD9⟩, hS.F ht⟩) hS.2.2 dX4_others_56
          · refine lv_iload_n hx hb dX4_others_31 rfl (lv_at hl 2 rfl) ?_
            refine lv_bipush (v := 30) hx hb dX4_others_32 (by decide) ?_
            refine lv_icmp_gt (tgt := 50) hx hb dX4_others_34 (by decide) (fun c_10 => ?_) (fun c_10 => ?_)
            · refine lv_aload_n hx hb dX4_others_50 rfl (lv_at hl 0 rfl) ?_
              refine lv_bipush (v := -6) hx hb dX4_others_51 (by decide) ?_
              have hPc := hP.sub (ws' := [(h0, .inr (4, [.ref rd, .ref dr, .ref kp, .ref pl, .ref tx, .ref nu, .ref rf_a, .int nc, .int hi, .int pd])), (rf_a, .inl (cI, 7, .inl rf))]) [0, 1] rfl
              have hDc := hD.sub (ws' := [(h0, .inr (4, [.ref rd, .ref dr, .ref kp, .ref pl, .ref tx, .ref nu, .ref rf_a, .int nc, .int hi, .int pd])), (rf_a, .inl (cI, 7, .inl rf))]) [0, 1] (by decide) rfl
              have hFc := va_free (wc := [(h0, .inr (4, [.ref rd, .ref dr, .ref kp, .ref pl, .ref tx, .ref nu, .ref rf_a, .int nc, .int hi, .int pd])), (rf_a, .inl (cI, 7, .inl rf))]) hD hS hA [0, 1] rfl
              refine va_calli (va_runV (As := [.int (-6)]) (rest := []) ⟨hx, hb, hml, hown, hts⟩ (g_X4_refuse l D cI cL cZ cC _ h0 rd dr kp pl tx nu rf_a nc hi pd rf (-6) (by first | assumption | decide +kernel) (by first | assumption | decide +kernel)) (cwV 1 hts gX4_others_X4_refuse rfl rfl rfl (by decide +kernel) ⟨Nat.le_of_ble_eq_true rfl, Nat.le_of_ble_eq_true rfl⟩) ⟨wPc_bl, va_recv hK hPc (ci := 4) (q0 := 0) rfl rfl, wPc_use hPc hK hDc⟩ rfl rfl hl.1 rfl (lv_room (Nat.le_of_ble_eq_true rfl)) dX4_others_53 ⟨Nat.le_of_ble_eq_true rfl, Nat.le_of_ble_eq_true rfl⟩) hS (fun q _ h => hFc q h) hFc (fun r_11 u_11 t H1 locs ht hvm hw hB hz1 hk1 hS => ?_)
              obtain ⟨hP1, hD1⟩ := hB
              rw [ht] at hP1
              obtain ⟨hP, hD⟩ := va_join (wr := []) (w1 := [(h0, .inr (4, [.ref rd, .ref dr, .ref kp, .ref pl, .ref tx, .ref nu, .ref rf_a, .int nc, .int hi, .int pd])), (rf_a, .inl (cI, 7, .inl (xRf rf (-6))))]) hP hD [0, 1] [] rfl rfl (by decide) (by decide) hk1 hFc hP1 hD1
              generalize H1 = H at hP hS ⊢
              have hP : va_P D vwCl [(h0, .inr (4, [.ref rd, .ref dr, .ref kp, .ref pl, .ref tx, .ref nu, .ref rf_a, .int nc, .int hi, .int pd])), (rf_a, .inl (cI, 7, .inl (xRf rf (-6))))] H := hP
              have hD : va_D A [(h0, .inr (4, [.ref rd, .ref dr, .ref kp, .ref pl, .ref tx, .ref nu, .ref rf_a, .int nc, .int hi, .int pd])), (rf_a, .inl (cI, 7, .inl (xRf rf (-6))))] := hD
              obtain rfl : ((-6) : Int32) = r_11 := Eq.symm hw
              have hP9 := hP.sub (ws' := [(h0, .inr (4, [.ref rd, .ref dr, .ref kp, .ref pl, .ref tx, .ref nu, .ref rf_a, .int nc, .int hi, .int pd])), (rf_a, .inl (cI, 7, .inl (xRf rf (-6))))]) [0, 1] rfl
              have hD9 := hD.sub (ws' := [(h0, .inr (4, [.ref rd, .ref dr, .ref kp, .ref pl, .ref tx, .ref nu, .ref rf_a, .int nc, .int hi, .int pd])), (rf_a, .inl (cI, 7, .inl (xRf rf (-6))))]) [0, 1] (by decide) rfl
              have hE9 : ([(h0, .inr (4, [.ref rd, .ref dr, .ref kp, .ref pl, .ref tx, .ref nu, .ref rf_a, .int nc, .int hi, .int pd])), (rf_a, .inl (cI, 7, .inl (xRf rf (-6))))] : va_W) = [(h0, .inr (4, [.ref rd, .ref dr, .ref kp, .ref pl, .ref tx, .ref nu, .ref rf_a, .int nc, .int hi, .int pd])), (rf_a, .inl (cI, 7, .inl (xRq rf (qOt a1 a2 a3 a4))))] := by simp [xRq, qOt, c_1, c_3, c_5, (Int32.not_lt.mpr c_7), c_8, c_10]
              exact W.iret (v := -6) hx hb hr (fun t ht hW => ⟨⟨_, (), rfl, by simp [qOt, c_1, c_3, c_5, (Int32.not_lt.mpr c_7), c_8, c_10], by rw [ht]; exact hE9 ▸ hP9, hE9 ▸ hD9⟩, hS.F ht⟩) hS.2.2 dX4_others_56
            · refine lv_iload_n hx hb dX4_others_37 rfl (lv_at hl 3 rfl) ?_
              refine lv_bipush (v := 30) hx hb dX4_others_38 (by decide) ?_
              refine lv_icmp_gt (tgt := 50) hx hb dX4_others_40 (by decide) (fun c_12 => ?_) (fun c_12 => ?_)
              · refine lv_aload_n hx hb dX4_others_50 rfl (lv_at hl 0 rfl) ?_
                refine lv_bipush (v := -6) hx hb dX4_others_51 (by decide) ?_
                have hPc := hP.sub (ws' := [(h0, .inr (4, [.ref rd, .ref dr, .ref kp, .ref pl, .ref tx, .ref nu, .ref rf_a, .int nc, .int hi, .int pd])), (rf_a, .inl (cI, 7, .inl rf))]) [0, 1] rfl
                have hDc := hD.sub (ws' := [(h0, .inr (4, [.ref rd, .ref dr, .ref kp, .ref pl, .ref tx, .ref nu, .ref rf_a, .int nc, .int hi, .int pd])), (rf_a, .inl (cI, 7, .inl rf))]) [0, 1] (by decide) rfl
                have hFc := va_free (wc := [(h0, .inr (4, [.ref rd, .ref dr, .ref kp, .ref pl, .ref tx, .ref nu, .ref rf_a, .int nc, .int hi, .int pd])), (rf_a, .inl (cI, 7, .inl rf))]) hD hS hA [0, 1] rfl
                refine va_calli (va_runV (As := [.int (-6)]) (rest := []) ⟨hx, hb, hml, hown, hts⟩ (g_X4_refuse l D cI cL cZ cC _ h0 rd dr kp pl tx nu rf_a nc hi pd rf (-6) (by first | assumption | decide +kernel) (by first | assumption | decide +kernel)) (cwV 1 hts gX4_others_X4_refuse rfl rfl rfl (by decide +kernel) ⟨Nat.le_of_ble_eq_true rfl, Nat.le_of_ble_eq_true rfl⟩) ⟨wPc_bl, va_recv hK hPc (ci := 4) (q0 := 0) rfl rfl, wPc_use hPc hK hDc⟩ rfl rfl hl.1 rfl (lv_room (Nat.le_of_ble_eq_true rfl)) dX4_others_53 ⟨Nat.le_of_ble_eq_true rfl, Nat.le_of_ble_eq_true rfl⟩) hS (fun q _ h => hFc q h) hFc (fun r_13 u_13 t H1 locs ht hvm hw hB hz1 hk1 hS => ?_)
                obtain ⟨hP1, hD1⟩ := hB
                rw [ht] at hP1
                obtain ⟨hP, hD⟩ := va_join (wr := []) (w1 := [(h0, .inr (4, [.ref rd, .ref dr, .ref kp, .ref pl, .ref tx, .ref nu, .ref rf_a, .int nc, .int hi, .int pd])), (rf_a, .inl (cI, 7, .inl (xRf rf (-6))))]) hP hD [0, 1] [] rfl rfl (by decide) (by decide) hk1 hFc hP1 hD1
                generalize H1 = H at hP hS ⊢
                have hP : va_P D vwCl [(h0, .inr (4, [.ref rd, .ref dr, .ref kp, .ref pl, .ref tx, .ref nu, .ref rf_a, .int nc, .int hi, .int pd])), (rf_a, .inl (cI, 7, .inl (xRf rf (-6))))] H := hP
                have hD : va_D A [(h0, .inr (4, [.ref rd, .ref dr, .ref kp, .ref pl, .ref tx, .ref nu, .ref rf_a, .int nc, .int hi, .int pd])), (rf_a, .inl (cI, 7, .inl (xRf rf (-6))))] := hD
                obtain rfl : ((-6) : Int32) = r_13 := Eq.symm hw
                have hP9 := hP.sub (ws' := [(h0, .inr (4, [.ref rd, .ref dr, .ref kp, .ref pl, .ref tx, .ref nu, .ref rf_a, .int nc, .int hi, .int pd])), (rf_a, .inl (cI, 7, .inl (xRf rf (-6))))]) [0, 1] rfl
                have hD9 := hD.sub (ws' := [(h0, .inr (4, [.ref rd, .ref dr, .ref kp, .ref pl, .ref tx, .ref nu, .ref rf_a, .int nc, .int hi, .int pd])), (rf_a, .inl (cI, 7, .inl (xRf rf (-6))))]) [0, 1] (by decide) rfl
                have hE9 : ([(h0, .inr (4, [.ref rd, .ref dr, .ref kp, .ref pl, .ref tx, .ref nu, .ref rf_a, .int nc, .int hi, .int pd])), (rf_a, .inl (cI, 7, .inl (xRf rf (-6))))] : va_W) = [(h0, .inr (4, [.ref rd, .ref dr, .ref kp, .ref pl, .ref tx, .ref nu, .ref rf_a, .int nc, .int hi, .int pd])), (rf_a, .inl (cI, 7, .inl (xRq rf (qOt a1 a2 a3 a4))))] := by simp [xRq, qOt, c_1, c_3, c_5, (Int32.not_lt.mpr c_7), c_8, c_10, c_12]
                exact W.iret (v := -6) hx hb hr (fun t ht hW => ⟨⟨_, (), rfl, by simp [qOt, c_1, c_3, c_5, (Int32.not_lt.mpr c_7), c_8, c_10, c_12], by rw [ht]; exact hE9 ▸ hP9, hE9 ▸ hD9⟩, hS.F ht⟩) hS.2.2 dX4_others_56
              · refine lv_iload hx hb dX4_others_43 (lv_at hl 4 rfl) ?_
                refine lv_bipush (v := 60) hx hb dX4_others_45 (by decide) ?_
                refine lv_icmp_le (tgt := 57) hx hb dX4_others_47 (by decide) (fun c_14 => ?_) (fun c_14 => ?_)
                · have e5 : qOt a1 a2 a3 a4 = 0 := by simp [qOt, c_1, c_3, c_5, (Int32.not_lt.mpr c_7), c_8, c_10, c_12, (Int32.not_lt.mpr c_14)]
                  obtain ⟨n1, rfl, hn1⟩ := xInN1 (n := 9) (by decide) c_1 c_8
                  obtain ⟨n4, rfl, hn4⟩ := xInN (n := 60) (by decide) (Int32.not_lt.mpr c_7) (Int32.not_lt.mpr c_14)
                  obtain ⟨G9, hG⟩ : ∃ G : Int32 → Int32, ∀ s9 : Int32, xSm (fun i => if s9 < nI i * a2 + a3 then 1 else 0) n1 = G s9 := ⟨_, fun _ => rfl⟩
                  refine lv_iload_n hx hb dX4_others_57 rfl (lv_at hl 1 rfl) ?_
                  refine lv_istore (lv' := [(5, .int (nI n1)), (0, .ref h0), (1, .int (nI n1)), (2, .int a2), (3, .int a3), (4, .int (nI n4))]) hx hb dX4_others_58 hl (by decide) rfl (fun ls hl => ?_)
                  refine lv_iconst (v := 0) hx hb dX4_others_60 (by decide) ?_
                  refine lv_istore (lv' := [(6, .int 0), (5, .int (nI n1)), (0, .ref h0), (1, .int (nI n1)), (2, .int a2), (3, .int a3), (4, .int (nI n4))]) hx hb dX4_others_61 hl (by decide) rfl (fun ls hl => ?_)
                  refine lv_iconst (v := 0) hx hb dX4_others_63 (by decide) ?_
                  refine lv_istore (lv' := [(7, .int 0), (6, .int 0), (5, .int (nI n1)), (0, .ref h0), (1, .int (nI n1)), (2, .int a2), (3, .int a3), (4, .int (nI n4))]) hx hb dX4_others_64 hl (by decide) rfl (fun ls hl => ?_)
                  refine lv_iconst (v := 1) hx hb dX4_others_66 (by decide) ?_
                  refine lv_istore (lv' := [(8, .int 1), (7, .int 0), (6, .int 0), (5, .int (nI n1)), (0, .ref h0), (1, .int (nI n1)), (2, .int a2), (3, .int a3), (4, .int (nI n4))]) hx hb dX4_others_67 hl (by decide) rfl (fun ls hl => ?_)
                  refine xl_loopH (σ := Nat) (fun n q H locs ls => lv_has ls 10 [(8, .int (nI (q + 1))), (7, .int (xOt G9 (nI n1) q).2.2), (6, .int (xOt G9 (nI n1) q).2.1), (5, .int (xOt G9 (nI n1) q).1), (0, .ref h0), (1, .int (nI n1)), (2, .int a2), (3, .int a3), (4, .int (nI n4))] ∧ va_P D vwCl [(h0, .inr (4, [.ref rd, .ref dr, .ref kp, .ref pl, .ref tx, .ref nu, .ref rf_a, .int nc, .int hi, .int pd])), (rf_a, .inl (cI, 7, .inl rf))] H ∧ va_D A [(h0, .inr (4, [.ref rd, .ref dr, .ref kp, .ref pl, .ref tx, .ref nu, .ref rf_a, .int nc, .int hi, .int pd])), (rf_a, .inl (cI, 7, .inl rf))] ∧ va_S A s.heap H locs ∧ (n4 - q < n) ∧ (q ≤ n4)) (n4 + 1) (0) ⟨lv_sub hl [0, 1, 2, 3, 4, 5, 6, 7, 8] rfl, hP.sub [0, 1] rfl, hD.sub [0, 1] (by decide) rfl, hS, by (try dsimp only); exact ⟨by omega, by omega⟩⟩ (fun q H lc ls h => absurd h.2.2.2.2.1 (Nat.not_lt_zero _)) ?_
                  intro n_69 q_69 H locs ls ih_69 hI_69
                  obtain ⟨hl, hP, hD, hS, hI_69⟩ := hI_69
                  obtain ⟨k, e_69⟩ : ∃ z, z = q_69 := ⟨_, rfl⟩
                  subst e_69
                  obtain ⟨h1, h2⟩ := hI_69
                  try dsimp only at hl hP hD h1 h2
                  refine lv_iload hx hb dX4_others_69 (lv_at hl 0 rfl) ?_
                  refine lv_iload hx hb dX4_others_71 (lv_at hl 8 rfl) ?_
                  refine lv_icmp_gt (tgt := 112) hx hb dX4_others_73 (by decide) (fun c_15 => ?_) (fun c_15 => ?_)
                  · refine lv_iload hx hb dX4_others_112 (lv_at hl 3 rfl) ?_
                    have hP9 := hP.sub (ws' := [(h0, .inr (4, [.ref rd, .ref dr, .ref kp, .ref pl, .ref tx, .ref nu, .ref rf_a, .int nc, .int hi, .int pd])), (rf_a, .inl (cI, 7, .inl rf))]) [0, 1] rfl
                    have hD9 := hD.sub (ws' := [(h0, .inr (4, [.ref rd, .ref dr, .ref kp, .ref pl, .ref tx, .ref nu, .ref rf_a, .int nc, .int hi, .int pd])), (rf_a, .inl (cI, 7, .inl rf))]) [0, 1] (by decide) rfl
                    have hE9 : ([(h0, .inr (4, [.ref rd, .ref dr, .ref kp, .ref pl, .ref tx, .ref nu, .ref rf_a, .int nc, .int hi, .int pd])), (rf_a, .inl (cI, 7, .inl rf))] : va_W) = [(h0, .inr (4, [.ref rd, .ref dr, .ref kp, .ref pl, .ref tx, .ref nu, .ref rf_a, .int nc, .int hi, .int pd])), (rf_a, .inl (cI, 7, .inl (xRq rf (qOt (nI n1) a2 a3 (nI n4)))))] := by simp [xRq, e5]
                    exact W.iret (v := (xOt G9 (nI n1) k).1) hx hb hr (fun t ht hW => ⟨⟨_, (), rfl, (by have w := (nI_ltI (a := n4) (b := k + 1) (by omega) (by omega)).mp c_15; obtain rfl : k = n4 := (by omega); simp [e5, vOt, nI_clamp (show n1 < 2 ^ 31 by omega), nI_clamp (show k < 2 ^ 31 by omega), hG]), by rw [ht]; exact hE9 ▸ hP9, hE9 ▸ hD9⟩, hS.F ht⟩) hS.2.2 dX4_others_114
                  · refine lv_iload hx hb dX4_others_76 (lv_at hl 2 rfl) ?_
                    refine lv_iconst (v := 1) hx hb dX4_others_78 (by decide) ?_
                    refine lv_iload hx hb dX4_others_79 (lv_at hl 1 rfl) ?_
                    refine lv_iadd hx hb dX4_others_81 ?_
                    refine lv_iadd hx hb dX4_others_82 ?_
                    refine xv_int (y := (xOt G9 (nI n1) (k + 1)).2.1) (rfl) ?_
                    refine lv_istore (lv' := [(6, .int ((xOt G9 (nI n1) (k + 1)).2.1)), (8, .int (nI (k + 1))), (7, .int (xOt G9 (nI n1) k).2.2), (5, .int (xOt G9 (nI n1) k).1), (0, .ref h0), (1, .int (nI n1)), (2, .int a2), (3, .int a3), (4, .int (nI n4))]) hx hb dX4_others_83 hl (by decide) rfl (fun ls hl => ?_)
                    refine lv_iload hx hb dX4_others_85 (lv_at hl 0 rfl) ?_
                    refine lv_iload_n hx hb dX4_others_87 rfl (lv_at hl 5 rfl) ?_
                    refine lv_iload_n hx hb dX4_others_88 rfl (lv_at hl 6 rfl) ?_
                    refine lv_iload_n hx hb dX4_others_89 rfl (lv_at hl 7 rfl) ?_
                    have hPc := hP.sub (ws' := []) [] rfl
                    refine vp_callSi (va_Run.run (va_runS (As := [.int ((xOt G9 (nI n1) (k + 1)).2.1), .int (nI n1), .int a2, .int a3]) (rest := []) ⟨hx, hb, hml, hown, hts⟩ (g_X4_withHeartAbove l D cI cL cZ cC n1 ((xOt G9 (nI n1) (k + 1)).2.1) a2 a3 (by omega)) (va_cwS 4 hts gX4_others_X4_withHeartAbove rfl rfl rfl (by decide +kernel) ⟨Nat.le_of_ble_eq_true rfl, Nat.le_of_ble_eq_true rfl⟩) ⟨xPc_bl, xPc_use hPc hK⟩ rfl rfl hl.1 rfl (lv_room (Nat.le_of_ble_eq_true rfl)) dX4_others_90 ⟨Nat.le_of_ble_eq_true rfl, Nat.le_of_ble_eq_true rfl⟩)) (fun r_16 er_16 => ?_)
                    obtain rfl : (xSm (fun i => if ((xOt G9 (nI n1) (k + 1)).2.1) < nI i * a2 + a3 then 1 else 0) n1 : Int32) = r_16 := Eq.symm er_16
                    refine xv_int (y := (xOt G9 (nI n1) (k + 1)).1) (hG _) ?_
                    refine lv_istore (lv' := [(9, .int ((xOt G9 (nI n1) (k + 1)).1)), (6, .int ((xOt G9 (nI n1) (k + 1)).2.1)), (8, .int (nI (k + 1))), (7, .int (xOt G9 (nI n1) k).2.2), (5, .int (xOt G9 (nI n1) k).1), (0, .ref h0), (1, .int (nI n1)), (2, .int a2), (3, .int a3), (4, .int (nI n4))]) hx hb dX4_others_93 hl (by decide) rfl (fun ls hl => ?_)
                    refine lv_iload hx hb dX4_others_95 (lv_at hl 4 rfl) ?_
                    refine lv_iload hx hb dX4_others_97 (lv_at hl 0 rfl) ?_
                    refine lv_isub hx hb dX4_others_99 ?_
                    refine xv_int (y := (xOt G9 (nI n1) (k + 1)).2.2) (rfl) ?_
                    refine lv_istore (lv' := [(7, .int ((xOt G9 (nI n1) (k + 1)).2.2)), (9, .int ((xOt G9 (nI n1) (k + 1)).1)), (6, .int ((xOt G9 (nI n1) (k + 1)).2.1)), (8, .int (nI (k + 1))), (5, .int (xOt G9 (nI n1) k).1), (0, .ref h0), (1, .int (nI n1)), (2, .int a2), (3, .int a3), (4, .int (nI n4))]) hx hb dX4_others_100 hl (by decide) rfl (fun ls hl => ?_)
                    refine lv_iload hx hb dX4_others_102 (lv_at hl 1 rfl) ?_
                    refine lv_istore (lv' := [(5, .int ((xOt G9 (nI n1) (k + 1)).1)), (7, .int ((xOt G9 (nI n1) (k + 1)).2.2)), (9, .int ((xOt G9 (nI n1) (k + 1)).1)), (6, .int ((xOt G9 (nI n1) (k + 1)).2.1)), (8, .int (nI (k + 1))), (0, .ref h0), (1, .int (nI n1)), (2, .int a2), (3, .int a3), (4, .int (nI n4))]) hx hb dX4_others_104 hl (by decide) rfl (fun ls hl => ?_)
                    refine lv_iinc (v := nI (k + 1 + 1)) (lv' := [(8, .int (nI (k + 1 + 1))), (5, .int ((xOt G9 (nI n1) (k + 1)).1)), (7, .int ((xOt G9 (nI n1) (k + 1)).2.2)), (9, .int ((xOt G9 (nI n1) (k + 1)).1)), (6, .int ((xOt G9 (nI n1) (k + 1)).2.1)), (0, .ref h0), (1, .int (nI n1)), (2, .int a2), (3, .int a3), (4, .int (nI n4))]) hx hb dX4_others_106 hl (k := 4) rfl (nI_1 (k + 1)) (by decide) rfl (fun ls hl => ?_)
                    refine lv_goto (tgt := 69) hx hb dX4_others_109 (by decide) ?_
                    have w : ¬ n4 < k + 1 := mt (nI_ltI (a := n4) (b := k + 1) (by omega) (by omega)).mpr c_15
                    exact ih_69 (k + 1) _ _ _ ⟨lv_sub hl [0, 2, 4, 1, 5, 6, 7, 8, 9] rfl, hP.sub [0, 1] rfl, hD.sub [0, 1] (by decide) rfl, hS, by (try dsimp only); exact ⟨by omega, by omega⟩⟩
                · refine lv_aload_n hx hb dX4_others_50 rfl (lv_at hl 0 rfl) ?_
                  refine lv_bipush (v := -6) hx hb dX4_others_51 (by decide) ?_
                  have hPc := hP.sub (ws' := [(h0, .inr (4, [.ref rd, .ref dr, .ref kp, .ref pl, .ref tx, .ref nu, .ref rf_a, .int nc, .int hi, .int pd])), (rf_a, .inl (cI, 7, .inl rf))]) [0, 1] rfl
                  have hDc := hD.sub (ws' := [(h0, .inr (4, [.ref rd, .ref dr, .ref kp, .ref pl, .ref tx, .ref nu, .ref rf_a, .int nc, .int hi, .int pd])), (rf_a, .inl (cI, 7, .inl rf))]) [0, 1] (by decide) rfl
                  have hFc := va_free (wc := [(h0, .inr (4, [.ref rd, .ref dr, .ref kp, .ref pl, .ref tx, .ref nu, .ref rf_a, .int nc, .int hi, .int pd])), (rf_a, .inl (cI, 7, .inl rf))]) hD hS hA [0, 1] rfl
                  refine va_calli (va_runV (As := [.int (-6)]) (rest := []) ⟨hx, hb, hml, hown, hts⟩ (g_X4_refuse l D cI cL cZ cC _ h0 rd dr kp pl tx nu rf_a nc hi pd rf (-6) (by first | assumption | decide +kernel) (by first | assumption | decide +kernel)) (cwV 1 hts gX4_others_X4_refuse rfl rfl rfl (by decide +kernel) ⟨Nat.le_of_ble_eq_true rfl, Nat.le_of_ble_eq_true rfl⟩) ⟨wPc_bl, va_recv hK hPc (ci := 4) (q0 := 0) rfl rfl, wPc_use hPc hK hDc⟩ rfl rfl hl.1 rfl (lv_room (Nat.le_of_ble_eq_true rfl)) dX4_others_53 ⟨Nat.le_of_ble_eq_true rfl, Nat.le_of_ble_eq_true rfl⟩) hS (fun q _ h => hFc q h) hFc (fun r_17 u_17 t H1 locs ht hvm hw hB hz1 hk1 hS => ?_)
                  obtain ⟨hP1, hD1⟩ := hB
                  rw [ht] at hP1
                  obtain ⟨hP, hD⟩ := va_join (wr := []) (w1 := [(h0, .inr (4, [.ref rd, .ref dr, .ref kp, .ref pl, .ref tx, .ref nu, .ref rf_a, .int nc, .int hi, .int pd])), (rf_a, .inl (cI, 7, .inl (xRf rf (-6))))]) hP hD [0, 1] [] rfl rfl (by decide) (by decide) hk1 hFc hP1 hD1
                  generalize H1 = H at hP hS ⊢
                  have hP : va_P D vwCl [(h0, .inr (4, [.ref rd, .ref dr, .ref kp, .ref pl, .ref tx, .ref nu, .ref rf_a, .int nc, .int hi, .int pd])), (rf_a, .inl (cI, 7, .inl (xRf rf (-6))))] H := hP
                  have hD : va_D A [(h0, .inr (4, [.ref rd, .ref dr, .ref kp, .ref pl, .ref tx, .ref nu, .ref rf_a, .int nc, .int hi, .int pd])), (rf_a, .inl (cI, 7, .inl (xRf rf (-6))))] := hD
                  obtain rfl : ((-6) : Int32) = r_17 := Eq.symm hw
                  have hP9 := hP.sub (ws' := [(h0, .inr (4, [.ref rd, .ref dr, .ref kp, .ref pl, .ref tx, .ref nu, .ref rf_a, .int nc, .int hi, .int pd])), (rf_a, .inl (cI, 7, .inl (xRf rf (-6))))]) [0, 1] rfl
                  have hD9 := hD.sub (ws' := [(h0, .inr (4, [.ref rd, .ref dr, .ref kp, .ref pl, .ref tx, .ref nu, .ref rf_a, .int nc, .int hi, .int pd])), (rf_a, .inl (cI, 7, .inl (xRf rf (-6))))]) [0, 1] (by decide) rfl
                  have hE9 : ([(h0, .inr (4, [.ref rd, .ref dr, .ref kp, .ref pl, .ref tx, .ref nu, .ref rf_a, .int nc, .int hi, .int pd])), (rf_a, .inl (cI, 7, .inl (xRf rf (-6))))] : va_W) = [(h0, .inr (4, [.ref rd, .ref dr, .ref kp, .ref pl, .ref tx, .ref nu, .ref rf_a, .int nc, .int hi, .int pd])), (rf_a, .inl (cI, 7, .inl (xRq rf (qOt a1 a2 a3 a4))))] := by simp [xRq, qOt, c_1, c_3, c_5, (Int32.not_lt.mpr c_7), c_8, c_10, c_12, (Int32.not_le.mp c_14)]
                  exact W.iret (v := -6) hx hb hr (fun t ht hW => ⟨⟨_, (), rfl, by simp [qOt, c_1, c_3, c_5, (Int32.not_lt.mpr c_7), c_8, c_10, c_12, (Int32.not_le.mp c_14)], by rw [ht]; exact hE9 ▸ hP9, hE9 ▸ hD9⟩, hS.F ht⟩) hS.2.2 dX4_others_56
        · refine lv_aload_n hx hb dX4_others_18 rfl (lv_at hl 0 rfl) ?_
          refine lv_bipush (v := -4) hx hb dX4_others_19 (by decide) ?_
          have hPc := hP.sub (ws' := [(h0, .inr (4, [.ref rd, .ref dr, .ref kp, .ref pl, .ref tx, .ref nu, .ref rf_a, .int nc, .int hi, .int pd])), (rf_a, .inl (cI, 7, .inl rf))]) [0, 1] rfl
          have hDc := hD.sub (ws' := [(h0, .inr (4, [.ref rd, .ref dr, .ref kp, .ref pl, .ref tx, .ref nu, .ref rf_a, .int nc, .int hi, .int pd])), (rf_a, .inl (cI, 7, .inl rf))]) [0, 1] (by decide) rfl
          have hFc := va_free (wc := [(h0, .inr (4, [.ref rd, .ref dr, .ref kp, .ref pl, .ref tx, .ref nu, .ref rf_a, .int nc, .int hi, .int pd])), (rf_a, .inl (cI, 7, .inl rf))]) hD hS hA [0, 1] rfl
          refine va_calli (va_runV (As := [.int (-4)]) (rest := []) ⟨hx, hb, hml, hown, hts⟩ (g_X4_refuse l D cI cL cZ cC _ h0 rd dr kp pl tx nu rf_a nc hi pd rf (-4) (by first | assumption | decide +kernel) (by first | assumption | decide +kernel)) (cwV 1 hts gX4_others_X4_refuse rfl rfl rfl (by decide +kernel) ⟨Nat.le_of_ble_eq_true rfl, Nat.le_of_ble_eq_true rfl⟩) ⟨wPc_bl, va_recv hK hPc (ci := 4) (q0 := 0) rfl rfl, wPc_use hPc hK hDc⟩ rfl rfl hl.1 rfl (lv_room (Nat.le_of_ble_eq_true rfl)) dX4_others_21 ⟨Nat.le_of_ble_eq_true rfl, Nat.le_of_ble_eq_true rfl⟩) hS (fun q _ h => hFc q h) hFc (fun r_18 u_18 t H1 locs ht hvm hw hB hz1 hk1 hS => ?_)
          obtain ⟨hP1, hD1⟩ := hB
          rw [ht] at hP1
          obtain ⟨hP, hD⟩ := va_join (wr := []) (w1 := [(h0, .inr (4, [.ref rd, .ref dr, .ref kp, .ref pl, .ref tx, .ref nu, .ref rf_a, .int nc, .int hi, .int pd])), (rf_a, .inl (cI, 7, .inl (xRf rf (-4))))]) hP hD [0, 1] [] rfl rfl (by decide) (by decide) hk1 hFc hP1 hD1
          generalize H1 = H at hP hS ⊢
          have hP : va_P D vwCl [(h0, .inr (4, [.ref rd, .ref dr, .ref kp, .ref pl, .ref tx, .ref nu, .ref rf_a, .int nc, .int hi, .int pd])), (rf_a, .inl (cI, 7, .inl (xRf rf (-4))))] H := hP
          have hD : va_D A [(h0, .inr (4, [.ref rd, .ref dr, .ref kp, .ref pl, .ref tx, .ref nu, .ref rf_a, .int nc, .int hi, .int pd])), (rf_a, .inl (cI, 7, .inl (xRf rf (-4))))] := hD
          obtain rfl : ((-4) : Int32) = r_18 := Eq.symm hw
          have hP9 := hP.sub (ws' := [(h0, .inr (4, [.ref rd, .ref dr, .ref kp, .ref pl, .ref tx, .ref nu, .ref rf_a, .int nc, .int hi, .int pd])), (rf_a, .inl (cI, 7, .inl (xRf rf (-4))))]) [0, 1] rfl
          have hD9 := hD.sub (ws' := [(h0, .inr (4, [.ref rd, .ref dr, .ref kp, .ref pl, .ref tx, .ref nu, .ref rf_a, .int nc, .int hi, .int pd])), (rf_a, .inl (cI, 7, .inl (xRf rf (-4))))]) [0, 1] (by decide) rfl
          have hE9 : ([(h0, .inr (4, [.ref rd, .ref dr, .ref kp, .ref pl, .ref tx, .ref nu, .ref rf_a, .int nc, .int hi, .int pd])), (rf_a, .inl (cI, 7, .inl (xRf rf (-4))))] : va_W) = [(h0, .inr (4, [.ref rd, .ref dr, .ref kp, .ref pl, .ref tx, .ref nu, .ref rf_a, .int nc, .int hi, .int pd])), (rf_a, .inl (cI, 7, .inl (xRq rf (qOt a1 a2 a3 a4))))] := by simp [xRq, qOt, c_1, c_3, c_5, (Int32.not_le.mp c_7)]
          exact W.iret (v := -4) hx hb hr (fun t ht hW => ⟨⟨_, (), rfl, by simp [qOt, c_1, c_3, c_5, (Int32.not_le.mp c_7)], by rw [ht]; exact hE9 ▸ hP9, hE9 ▸ hD9⟩, hS.F ht⟩) hS.2.2 dX4_others_24
