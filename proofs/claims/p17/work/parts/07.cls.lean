set_option maxHeartbeats 4000000 in
set_option maxRecDepth 100000 in
theorem g_X4_homeSum (l : Launch) (D : va_G) (cI cL cZ cC : ClassId) (h0 : Nat) (rd : Nat) (dr : Nat) (kp : Nat) (pl : Nat) (tx : Nat) (nu : Nat) (rf_a : Nat) (nc : Int32) (hi : Int32) (pd : Int32) (r0 : Nat) (r1 : Nat) (st : Nat) (ho : Int32) (pa : Int32) (si : Int32) (li : Int32) (lc : Int32) (lg : Nat → Int32) (b0 : Nat) (k0 : Nat) (ki : Int32) (ru : Int32) (ne : Int32) (ch : Nat → Int32) (a2 : Int32) (a3 : Int32) (hs1 : 1 ≤ st) (hs7 : st ≤ 7) : Met l yX4_homeSum wsX4_homeSum ({ frames := 3, cells := 0, slots := 0, locals := 75 } : Room) (xPc D [.ref h0, .ref b0, .int a2, .int a3] [(h0, .inr (4, [.ref rd, .ref dr, .ref kp, .ref pl, .ref tx, .ref nu, .ref rf_a, .int nc, .int hi, .int pd])), (rd, .inr (2, [.int (nI st), .int ho, .int pa, .int si, .int li, .int lc, .ref r0, .ref r1])), (r0, .inl (cI, 7, .inl lg)), (b0, .inr (0, [.int ki, .int ru, .int ne, .ref k0])), (k0, .inl (cI, 12, .inl ch))] (xTy cI cL cZ cC)) (vp_Si (fun r : Int32 => r = xSm (fun i => sWt ne ch (nI i) * xGh st ho pa si li lg ki ru a2 a3 (nI i)) 13)) 0 0 (fun _ => False) := by
  refine Met.ofW (cc := cX4_homeSum) (maxL := 6) (ret := (some .int)) (by decide) rfl ?_
  intro p e s m args below meth c s₁ B hml hv
  obtain ⟨rfl, hP, hK⟩ := hv
  have hx := B.exec
  have hb := B.bytes
  have hr := B.returns
  have hts := atoms_spec (ws := wsX4_homeSum) B.pre
  have hown : s.vm.findClass RX4 = some m.cls := findClass_of_methodNamed B.named
  have hlocks := B.notSynchronized
  have hl := lv_entry ([.ref h0, .ref b0, .int a2, .int a3]) (n := 6) (Nat.le_of_ble_eq_true rfl)
  rw [lg_entry_eq]
  generalize (lg_sl ([.ref h0, .ref b0, .int a2, .int a3]) ++ List.replicate (6 - (lg_sl ([.ref h0, .ref b0, .int a2, .int a3])).length) Slot.unset).toArray = ls at hl ⊢
  have hl : lv_has ls 6 [(0, .ref h0), (1, .ref b0), (2, .int a2), (3, .int a3)] := hl
  refine lv_iconst (v := 0) hx hb dX4_homeSum_0 (by decide) ?_
  refine lv_istore (lv' := [(4, .int 0), (0, .ref h0), (1, .ref b0), (2, .int a2), (3, .int a3)]) hx hb dX4_homeSum_1 hl (by decide) rfl (fun ls hl => ?_)
  refine lv_iconst (v := 0) hx hb dX4_homeSum_3 (by decide) ?_
  refine lv_istore (lv' := [(5, .int 0), (4, .int 0), (0, .ref h0), (1, .ref b0), (2, .int a2), (3, .int a3)]) hx hb dX4_homeSum_4 hl (by decide) rfl (fun ls hl => ?_)
  refine xl_loop (σ := Nat) (fun n q ls => lv_has ls 6 [(5, .int (nI q)), (4, .int (xSm (fun i => sWt ne ch (nI i) * xGh st ho pa si li lg ki ru a2 a3 (nI i)) q)), (0, .ref h0), (1, .ref b0), (2, .int a2), (3, .int a3)] ∧ (13 - q < n) ∧ (q ≤ 13)) (14) (0) ⟨lv_sub hl [0, 1, 2, 3, 4, 5] rfl, by (try dsimp only); exact ⟨by omega, by omega⟩⟩ (fun q ls h => absurd h.2.1 (Nat.not_lt_zero _)) ?_
  intro n_6 q_6 ls ih_6 hI_6
  obtain ⟨hl, hI_6⟩ := hI_6
  obtain ⟨k, e_6⟩ : ∃ z, z = q_6 := ⟨_, rfl⟩
  subst e_6
  obtain ⟨h1, h2⟩ := hI_6
  try dsimp only at hl h1 h2
  refine lv_iload hx hb dX4_homeSum_6 (lv_at hl 0 rfl) ?_
  refine lv_bipush (v := 12) hx hb dX4_homeSum_8 (by decide) ?_
  refine lv_icmp_gt (tgt := 40) hx hb dX4_homeSum_10 (by decide) (fun c_1 => ?_) (fun c_1 => ?_)
  · refine lv_iload hx hb dX4_homeSum_40 (lv_at hl 1 rfl) ?_
    exact W.iret (v := xSm (fun i => sWt ne ch (nI i) * xGh st ho pa si li lg ki ru a2 a3 (nI i)) k) hx hb hr (fun t ht hW => ⟨_, rfl, (by have w := (nI_ltI (a := 12) (b := k) (by decide) (by omega)).mp c_1; rw [show k = 13 by omega]), ht⟩) (fun _ h => absurd h List.not_mem_nil) dX4_homeSum_42
  · refine lv_iload hx hb dX4_homeSum_13 (lv_at hl 1 rfl) ?_
    refine lv_aload_n hx hb dX4_homeSum_15 rfl (lv_at hl 3 rfl) ?_
    refine lv_iload hx hb dX4_homeSum_16 (lv_at hl 0 rfl) ?_
    have hPc := hP.sub (ws' := [(b0, .inr (0, [.int ki, .int ru, .int ne, .ref k0])), (k0, .inl (cI, 12, .inl ch))]) [3, 4] rfl
    refine vp_callSi (va_Run.run (va_runV (As := [.int (nI k)]) (rest := [.int (xSm (fun i => sWt ne ch (nI i) * xGh st ho pa si li lg ki ru a2 a3 (nI i)) k)]) ⟨hx, hb, hml, hown, hts⟩ (g_X0_weight l D cI cL cZ cC b0 k0 ki ru ne ch (nI k) ) (cwV 1 hts gX4_homeSum_X0_weight rfl rfl rfl (by decide +kernel) ⟨Nat.le_of_ble_eq_true rfl, Nat.le_of_ble_eq_true rfl⟩) ⟨xPc_bl, va_recv hK hPc (ci := 0) (q0 := 0) rfl rfl, xPc_use hPc hK⟩ rfl rfl hl.1 rfl (lv_room (Nat.le_of_ble_eq_true rfl)) dX4_homeSum_18 ⟨Nat.le_of_ble_eq_true rfl, Nat.le_of_ble_eq_true rfl⟩)) (fun r_2 er_2 => ?_)
    obtain rfl : (sWt ne ch (nI k) : Int32) = r_2 := Eq.symm er_2
    refine lv_aload_n hx hb dX4_homeSum_21 rfl (lv_at hl 2 rfl) ?_
    refine lv_aload_n hx hb dX4_homeSum_22 rfl (lv_at hl 3 rfl) ?_
    refine lv_iload_n hx hb dX4_homeSum_23 rfl (lv_at hl 4 rfl) ?_
    refine lv_iload_n hx hb dX4_homeSum_24 rfl (lv_at hl 5 rfl) ?_
    refine lv_iload hx hb dX4_homeSum_25 (lv_at hl 0 rfl) ?_
    have hPc := hP.sub (ws' := [(h0, .inr (4, [.ref rd, .ref dr, .ref kp, .ref pl, .ref tx, .ref nu, .ref rf_a, .int nc, .int hi, .int pd])), (rd, .inr (2, [.int (nI st), .int ho, .int pa, .int si, .int li, .int lc, .ref r0, .ref r1])), (r0, .inl (cI, 7, .inl lg)), (b0, .inr (0, [.int ki, .int ru, .int ne, .ref k0])), (k0, .inl (cI, 12, .inl ch))]) [0, 1, 2, 3, 4] rfl
    refine vp_callSi (va_Run.run (va_runV (As := [.ref b0, .int a2, .int a3, .int (nI k)]) (rest := [.int (sWt ne ch (nI k)), .int (xSm (fun i => sWt ne ch (nI i) * xGh st ho pa si li lg ki ru a2 a3 (nI i)) k)]) ⟨hx, hb, hml, hown, hts⟩ (g_X4_goerHome l D cI cL cZ cC h0 rd dr kp pl tx nu rf_a nc hi pd r0 r1 st ho pa si li lc lg b0 k0 ki ru ne ch a2 a3 (nI k) (by first | assumption | decide +kernel) (by first | assumption | decide +kernel)) (cwV 4 hts gX4_homeSum_X4_goerHome rfl rfl rfl (by decide +kernel) ⟨Nat.le_of_ble_eq_true rfl, Nat.le_of_ble_eq_true rfl⟩) ⟨xPc_bl, va_recv hK hPc (ci := 4) (q0 := 0) rfl rfl, xPc_use hPc hK⟩ rfl rfl hl.1 rfl (lv_room (Nat.le_of_ble_eq_true rfl)) dX4_homeSum_27 ⟨Nat.le_of_ble_eq_true rfl, Nat.le_of_ble_eq_true rfl⟩)) (fun r_3 er_3 => ?_)
    obtain rfl : (xGh st ho pa si li lg ki ru a2 a3 (nI k) : Int32) = r_3 := Eq.symm er_3
    refine lv_imul hx hb dX4_homeSum_30 ?_
    refine lv_iadd hx hb dX4_homeSum_31 ?_
    refine xv_int (y := xSm (fun i => sWt ne ch (nI i) * xGh st ho pa si li lg ki ru a2 a3 (nI i)) (k + 1)) (rfl) ?_
    refine lv_istore (lv' := [(4, .int (xSm (fun i => sWt ne ch (nI i) * xGh st ho pa si li lg ki ru a2 a3 (nI i)) (k + 1))), (5, .int (nI k)), (0, .ref h0), (1, .ref b0), (2, .int a2), (3, .int a3)]) hx hb dX4_homeSum_32 hl (by decide) rfl (fun ls hl => ?_)
    refine lv_iinc (v := nI (k + 1)) (lv' := [(5, .int (nI (k + 1))), (4, .int (xSm (fun i => sWt ne ch (nI i) * xGh st ho pa si li lg ki ru a2 a3 (nI i)) (k + 1))), (0, .ref h0), (1, .ref b0), (2, .int a2), (3, .int a3)]) hx hb dX4_homeSum_34 hl (k := 1) rfl (nI_1 k) (by decide) rfl (fun ls hl => ?_)
    refine lv_goto (tgt := 6) hx hb dX4_homeSum_37 (by decide) ?_
    have w : ¬ 12 < k := mt (nI_ltI (a := 12) (b := k) (by decide) (by omega)).mpr c_1
    exact ih_6 (k + 1) _ ⟨lv_sub hl [0, 1, 2, 3, 4, 5] rfl, by (try dsimp only); exact ⟨by omega, by omega⟩⟩

set_option maxHeartbeats 4000000 in
set_option maxRecDepth 100000 in
theorem g_X4_informedSum (l : Launch) (D : va_G) (cI cL cZ cC : ClassId) (h0 : Nat) (rd : Nat) (dr : Nat) (kp : Nat) (pl : Nat) (tx : Nat) (nu : Nat) (rf_a : Nat) (nc : Int32) (hi : Int32) (pd : Int32) (r0 : Nat) (r1 : Nat) (st : Nat) (ho : Int32) (pa : Int32) (si : Int32) (li : Int32) (lc : Int32) (lg : Nat → Int32) (b0 : Nat) (k0 : Nat) (ki : Int32) (ru : Int32) (ne : Int32) (ch : Nat → Int32) (hs1 : 1 ≤ st) (hs7 : st ≤ 7) : Met l yX4_informedSum wsX4_informedSum ({ frames := 3, cells := 0, slots := 0, locals := 66 } : Room) (xPc D [.ref h0, .ref b0] [(h0, .inr (4, [.ref rd, .ref dr, .ref kp, .ref pl, .ref tx, .ref nu, .ref rf_a, .int nc, .int hi, .int pd])), (rd, .inr (2, [.int (nI st), .int ho, .int pa, .int si, .int li, .int lc, .ref r0, .ref r1])), (r0, .inl (cI, 7, .inl lg)), (b0, .inr (0, [.int ki, .int ru, .int ne, .ref k0])), (k0, .inl (cI, 12, .inl ch))] (xTy cI cL cZ cC)) (vp_Si (fun r : Int32 => r = xAc2 (sWt ne ch 12 * xWh st ho pa lg 0) (fun i => sWt ne ch (nI i) * (if nI i + (sRide ki ru (nI (st - 1)) + xWy (xYd st ho lg (st - 1)) pa) < xWh st ho pa lg 0 then nI i + (sRide ki ru (nI (st - 1)) + xWy (xYd st ho lg (st - 1)) pa) else xWh st ho pa lg 0)) 0 12)) 0 0 (fun _ => False) := by
  refine Met.ofW (cc := cX4_informedSum) (maxL := 5) (ret := (some .int)) (by decide) rfl ?_
  intro p e s m args below meth c s₁ B hml hv
  obtain ⟨rfl, hP, hK⟩ := hv
  have hx := B.exec
  have hb := B.bytes
  have hr := B.returns
  have hts := atoms_spec (ws := wsX4_informedSum) B.pre
  have hown : s.vm.findClass RX4 = some m.cls := findClass_of_methodNamed B.named
  have hlocks := B.notSynchronized
  have hwX4 : ∀ w ∈ u_ws RX4 TX4 10, w ∈ wsX4_informedSum := fun _ h => List.mem_cons_of_mem _ (List.mem_append_left _ (List.mem_append_left _ (List.mem_append_right _ h)))
  have hl := lv_entry ([.ref h0, .ref b0]) (n := 5) (Nat.le_of_ble_eq_true rfl)
  rw [lg_entry_eq]
  generalize (lg_sl ([.ref h0, .ref b0]) ++ List.replicate (5 - (lg_sl ([.ref h0, .ref b0])).length) Slot.unset).toArray = ls at hl ⊢
  have hl : lv_has ls 5 [(0, .ref h0), (1, .ref b0)] := hl
  refine lv_aload_n hx hb dX4_informedSum_0 rfl (lv_at hl 0 rfl) ?_
  refine va_get (D := D) (ci := 4) (v := .ref rd) (C := RX4) (T := TX4) (N := 10) hx hb hts hwX4 hown hK hP 0 rfl rfl 0 (by decide) (hts (.fieldLink RX4 10 "WaitOrWalkOn" "road" "LWaitOrWalkOn$Road;") (by decide +kernel)) (fun _ h9 => h9) rfl dX4_informedSum_1 ?_
  refine lv_iconst (v := 0) hx hb dX4_informedSum_4 (by decide) ?_
  have hPc := hP.sub (ws' := [(rd, .inr (2, [.int (nI st), .int ho, .int pa, .int si, .int li, .int lc, .ref r0, .ref r1])), (r0, .inl (cI, 7, .inl lg))]) [1, 2] rfl
  refine vp_callSi (va_Run.run (va_runV (As := [.int 0]) (rest := []) ⟨hx, hb, hml, hown, hts⟩ (g_X2_walkHome l D cI cL cZ cC rd r0 r1 st ho pa si li lc lg 0 (by first | assumption | decide +kernel) (by first | assumption | decide +kernel) (by omega)) (cwV 1 hts gX4_informedSum_X2_walkHome rfl rfl rfl (by decide +kernel) ⟨Nat.le_of_ble_eq_true rfl, Nat.le_of_ble_eq_true rfl⟩) ⟨xPc_bl, va_recv hK hPc (ci := 2) (q0 := 0) rfl rfl, xPc_use hPc hK⟩ rfl rfl hl.1 rfl (lv_room (Nat.le_of_ble_eq_true rfl)) dX4_informedSum_5 ⟨Nat.le_of_ble_eq_true rfl, Nat.le_of_ble_eq_true rfl⟩)) (fun r_1 er_1 => ?_)
  obtain rfl : (xWh st ho pa lg 0 : Int32) = r_1 := Eq.symm er_1
  refine lv_istore_n (lv' := [(2, .int (xWh st ho pa lg 0)), (0, .ref h0), (1, .ref b0)]) hx hb dX4_informedSum_8 rfl hl (by decide) rfl (fun ls hl => ?_)
  refine lv_aload_n hx hb dX4_informedSum_9 rfl (lv_at hl 2 rfl) ?_
  refine lv_bipush (v := 12) hx hb dX4_informedSum_10 (by decide) ?_
  have hPc := hP.sub (ws' := [(b0, .inr (0, [.int ki, .int ru, .int ne, .ref k0])), (k0, .inl (cI, 12, .inl ch))]) [3, 4] rfl
  refine vp_callSi (va_Run.run (va_runV (As := [.int 12]) (rest := []) ⟨hx, hb, hml, hown, hts⟩ (g_X0_weight l D cI cL cZ cC b0 k0 ki ru ne ch 12 ) (cwV 1 hts gX4_informedSum_X0_weight rfl rfl rfl (by decide +kernel) ⟨Nat.le_of_ble_eq_true rfl, Nat.le_of_ble_eq_true rfl⟩) ⟨xPc_bl, va_recv hK hPc (ci := 0) (q0 := 0) rfl rfl, xPc_use hPc hK⟩ rfl rfl hl.1 rfl (lv_room (Nat.le_of_ble_eq_true rfl)) dX4_informedSum_12 ⟨Nat.le_of_ble_eq_true rfl, Nat.le_of_ble_eq_true rfl⟩)) (fun r_2 er_2 => ?_)
  obtain rfl : (sWt ne ch (12 : Int32) : Int32) = r_2 := Eq.symm er_2
  refine lv_iload_n hx hb dX4_informedSum_15 rfl (lv_at hl 0 rfl) ?_
  refine lv_imul hx hb dX4_informedSum_16 ?_
  refine lv_istore_n (lv' := [(3, .int ((sWt ne ch (12 : Int32)) * (xWh st ho pa lg 0))), (2, .int (xWh st ho pa lg 0)), (0, .ref h0), (1, .ref b0)]) hx hb dX4_informedSum_17 rfl hl (by decide) rfl (fun ls hl => ?_)
  refine lv_iconst (v := 0) hx hb dX4_informedSum_18 (by decide) ?_
  refine lv_istore (lv' := [(4, .int 0), (3, .int ((sWt ne ch (12 : Int32)) * (xWh st ho pa lg 0))), (2, .int (xWh st ho pa lg 0)), (0, .ref h0), (1, .ref b0)]) hx hb dX4_informedSum_19 hl (by decide) rfl (fun ls hl => ?_)
  refine xl_loop (σ := Nat) (fun n q ls => lv_has ls 5 [(4, .int (nI q)), (3, .int (xAc2 (sWt ne ch 12 * xWh st ho pa lg 0) (fun i => sWt ne ch (nI i) * (if nI i + (sRide ki ru (nI (st - 1)) + xWy (xYd st ho lg (st - 1)) pa) < xWh st ho pa lg 0 then nI i + (sRide ki ru (nI (st - 1)) + xWy (xYd st ho lg (st - 1)) pa) else xWh st ho pa lg 0)) 0 q)), (2, .int (xWh st ho pa lg 0)), (0, .ref h0), (1, .ref b0)] ∧ (12 - q < n) ∧ (q ≤ 12)) (13) (0) ⟨lv_sub hl [0, 1, 2, 3, 4] rfl, by (try dsimp only); exact ⟨by omega, by omega⟩⟩ (fun q ls h => absurd h.2.1 (Nat.not_lt_zero _)) ?_
  intro n_21 q_21 ls ih_21 hI_21
  obtain ⟨hl, hI_21⟩ := hI_21
  obtain ⟨k, e_21⟩ : ∃ z, z = q_21 := ⟨_, rfl⟩
  subst e_21
  obtain ⟨h1, h2⟩ := hI_21
  try dsimp only at hl h1 h2
  refine lv_iload hx hb dX4_informedSum_21 (lv_at hl 0 rfl) ?_
  refine lv_bipush (v := 12) hx hb dX4_informedSum_23 (by decide) ?_
  refine lv_icmp_ge (tgt := 59) hx hb dX4_informedSum_25 (by decide) (fun c_3 => ?_) (fun c_3 => ?_)
  · refine lv_iload_n hx hb dX4_informedSum_59 rfl (lv_at hl 1 rfl) ?_
    exact W.iret (v := xAc2 (sWt ne ch 12 * xWh st ho pa lg 0) (fun i => sWt ne ch (nI i) * (if nI i + (sRide ki ru (nI (st - 1)) + xWy (xYd st ho lg (st - 1)) pa) < xWh st ho pa lg 0 then nI i + (sRide ki ru (nI (st - 1)) + xWy (xYd st ho lg (st - 1)) pa) else xWh st ho pa lg 0)) 0 k) hx hb hr (fun t ht hW => ⟨_, rfl, (by have w := mt (nI_ltI (a := k) (b := 12) (by omega) (by omega)).mpr (Int32.not_lt.mpr c_3); rw [show k = 12 by omega]), ht⟩) (fun _ h => absurd h List.not_mem_nil) dX4_informedSum_60
  · refine lv_iload_n hx hb dX4_informedSum_28 rfl (lv_at hl 1 rfl) ?_
    refine lv_aload_n hx hb dX4_informedSum_29 rfl (lv_at hl 4 rfl) ?_
    refine lv_iload hx hb dX4_informedSum_30 (lv_at hl 0 rfl) ?_
    have hPc := hP.sub (ws' := [(b0, .inr (0, [.int ki, .int ru, .int ne, .ref k0])), (k0, .inl (cI, 12, .inl ch))]) [3, 4] rfl
    refine vp_callSi (va_Run.run (va_runV (As := [.int (nI k)]) (rest := [.int (xAc2 (sWt ne ch 12 * xWh st ho pa lg 0) (fun i => sWt ne ch (nI i) * (if nI i + (sRide ki ru (nI (st - 1)) + xWy (xYd st ho lg (st - 1)) pa) < xWh st ho pa lg 0 then nI i + (sRide ki ru (nI (st - 1)) + xWy (xYd st ho lg (st - 1)) pa) else xWh st ho pa lg 0)) 0 k)]) ⟨hx, hb, hml, hown, hts⟩ (g_X0_weight l D cI cL cZ cC b0 k0 ki ru ne ch (nI k) ) (cwV 1 hts gX4_informedSum_X0_weight rfl rfl rfl (by decide +kernel) ⟨Nat.le_of_ble_eq_true rfl, Nat.le_of_ble_eq_true rfl⟩) ⟨xPc_bl, va_recv hK hPc (ci := 0) (q0 := 0) rfl rfl, xPc_use hPc hK⟩ rfl rfl hl.1 rfl (lv_room (Nat.le_of_ble_eq_true rfl)) dX4_informedSum_32 ⟨Nat.le_of_ble_eq_true rfl, Nat.le_of_ble_eq_true rfl⟩)) (fun r_4 er_4 => ?_)
    obtain rfl : (sWt ne ch (nI k) : Int32) = r_4 := Eq.symm er_4
    refine lv_iload_n hx hb dX4_informedSum_35 rfl (lv_at hl 2 rfl) ?_
    refine lv_iload hx hb dX4_informedSum_36 (lv_at hl 0 rfl) ?_
    refine lv_aload_n hx hb dX4_informedSum_38 rfl (lv_at hl 3 rfl) ?_
    refine va_get (D := D) (ci := 4) (v := .ref rd) (C := RX4) (T := TX4) (N := 10) hx hb hts hwX4 hown hK hP 0 rfl rfl 0 (by decide) (hts (.fieldLink RX4 10 "WaitOrWalkOn" "road" "LWaitOrWalkOn$Road;") (by decide +kernel)) (fun _ h9 => h9) rfl dX4_informedSum_39 ?_
    refine lv_aload_n hx hb dX4_informedSum_42 rfl (lv_at hl 4 rfl) ?_
    have hPc := hP.sub (ws' := [(rd, .inr (2, [.int (nI st), .int ho, .int pa, .int si, .int li, .int lc, .ref r0, .ref r1])), (r0, .inl (cI, 7, .inl lg)), (b0, .inr (0, [.int ki, .int ru, .int ne, .ref k0])), (k0, .inl (cI, 12, .inl ch))]) [1, 2, 3, 4] rfl
    refine vp_callSi (va_Run.run (va_runV (As := [.ref b0]) (rest := [.int (nI k), .int (xWh st ho pa lg 0), .int (sWt ne ch (nI k)), .int (xAc2 (sWt ne ch 12 * xWh st ho pa lg 0) (fun i => sWt ne ch (nI i) * (if nI i + (sRide ki ru (nI (st - 1)) + xWy (xYd st ho lg (st - 1)) pa) < xWh st ho pa lg 0 then nI i + (sRide ki ru (nI (st - 1)) + xWy (xYd st ho lg (st - 1)) pa) else xWh st ho pa lg 0)) 0 k)]) ⟨hx, hb, hml, hown, hts⟩ (g_X2_rideHome l D cI cL cZ cC rd r0 r1 st ho pa si li lc lg b0 k0 ki ru ne ch (by first | assumption | decide +kernel) (by first | assumption | decide +kernel)) (cwV 1 hts gX4_informedSum_X2_rideHome rfl rfl rfl (by decide +kernel) ⟨Nat.le_of_ble_eq_true rfl, Nat.le_of_ble_eq_true rfl⟩) ⟨xPc_bl, va_recv hK hPc (ci := 2) (q0 := 0) rfl rfl, xPc_use hPc hK⟩ rfl rfl hl.1 rfl (lv_room (Nat.le_of_ble_eq_true rfl)) dX4_informedSum_43 ⟨Nat.le_of_ble_eq_true rfl, Nat.le_of_ble_eq_true rfl⟩)) (fun r_5 er_5 => ?_)
    obtain rfl : (sRide ki ru (nI (st - 1)) + xWy (xYd st ho lg (st - 1)) pa : Int32) = r_5 := Eq.symm er_5
    refine lv_iadd hx hb dX4_informedSum_46 ?_
    refine va_mmin hx hb (hml.trans hl.1.symm) hown (hts (.methodLink RX4 188 Lib.Math.min.name) (by decide +kernel)) (hts (.static Lib.Math.min.name) (by decide +kernel)) (hts (.initialized "java/lang/Math") (by decide +kernel)) (hts (.code Lib.Math.min.name Lib.Math.min.code 2 (some .int)) (by decide +kernel)) (Nat.le_of_ble_eq_true rfl) (Nat.le_of_ble_eq_true rfl) (Nat.le_of_ble_eq_true rfl) (Nat.le_of_ble_eq_true rfl) dX4_informedSum_47 ?_
    refine lv_imul hx hb dX4_informedSum_50 ?_
    refine lv_iadd hx hb dX4_informedSum_51 ?_
    refine xv_int (y := xAc2 (sWt ne ch 12 * xWh st ho pa lg 0) (fun i => sWt ne ch (nI i) * (if nI i + (sRide ki ru (nI (st - 1)) + xWy (xYd st ho lg (st - 1)) pa) < xWh st ho pa lg 0 then nI i + (sRide ki ru (nI (st - 1)) + xWy (xYd st ho lg (st - 1)) pa) else xWh st ho pa lg 0)) 0 (k + 1)) (by simp only [xAc2, Nat.zero_add]) ?_
    refine lv_istore_n (lv' := [(3, .int (xAc2 (sWt ne ch 12 * xWh st ho pa lg 0) (fun i => sWt ne ch (nI i) * (if nI i + (sRide ki ru (nI (st - 1)) + xWy (xYd st ho lg (st - 1)) pa) < xWh st ho pa lg 0 then nI i + (sRide ki ru (nI (st - 1)) + xWy (xYd st ho lg (st - 1)) pa) else xWh st ho pa lg 0)) 0 (k + 1))), (4, .int (nI k)), (2, .int (xWh st ho pa lg 0)), (0, .ref h0), (1, .ref b0)]) hx hb dX4_informedSum_52 rfl hl (by decide) rfl (fun ls hl => ?_)
    refine lv_iinc (v := nI (k + 1)) (lv' := [(4, .int (nI (k + 1))), (3, .int (xAc2 (sWt ne ch 12 * xWh st ho pa lg 0) (fun i => sWt ne ch (nI i) * (if nI i + (sRide ki ru (nI (st - 1)) + xWy (xYd st ho lg (st - 1)) pa) < xWh st ho pa lg 0 then nI i + (sRide ki ru (nI (st - 1)) + xWy (xYd st ho lg (st - 1)) pa) else xWh st ho pa lg 0)) 0 (k + 1))), (2, .int (xWh st ho pa lg 0)), (0, .ref h0), (1, .ref b0)]) hx hb dX4_informedSum_53 hl (k := 1) rfl (nI_1 k) (by decide) rfl (fun ls hl => ?_)
    refine lv_goto (tgt := 21) hx hb dX4_informedSum_56 (by decide) ?_
    have w := (nI_ltI (a := k) (b := 12) (by omega) (by omega)).mp (Int32.not_le.mp c_3)
    exact ih_21 (k + 1) _ ⟨lv_sub hl [0, 1, 2, 3, 4] rfl, by (try dsimp only); exact ⟨by omega, by omega⟩⟩

set_option maxHeartbeats 4000000 in
set_option maxRecDepth 100000 in
theorem g_X4_pairHome (l : Launch) (D : va_G) (cI cL cZ cC : ClassId) (h0 : Nat) (rd : Nat) (dr : Nat) (kp : Nat) (pl : Nat) (tx : Nat) (nu : Nat) (rf_a : Nat) (nc : Int32) (hi : Int32) (pd : Int32) (r0 : Nat) (r1 : Nat) (st : Nat) (ho : Int32) (pa : Int32) (si : Int32) (li : Int32) (lc : Int32) (lg : Nat → Int32) (a1 : Int32) (a2 : Int32) (a3 : Int32) (a4 : Int32) (hs1 : 1 ≤ st) (hs7 : st ≤ 7) : Met l yX4_pairHome wsX4_pairHome ({ frames := 3, cells := 0, slots := 0, locals := 66 } : Room) (xPc D [.ref h0, .int a1, .int a2, .int a3, .int a4] [(h0, .inr (4, [.ref rd, .ref dr, .ref kp, .ref pl, .ref tx, .ref nu, .ref rf_a, .int nc, .int hi, .int pd])), (rd, .inr (2, [.int (nI st), .int ho, .int pa, .int si, .int li, .int lc, .ref r0, .ref r1])), (r0, .inl (cI, 7, .inl lg))] (xTy cI cL cZ cC)) (vp_Si (fun r : Int32 => r = sPH st (xWh st ho pa lg 0) li a1 a2 a3 a4)) 0 0 (fun _ => False) := by
  refine Met.ofW (cc := cX4_pairHome) (maxL := 5) (ret := (some .int)) (by decide) rfl ?_
  intro p e s m args below meth c s₁ B hml hv
  obtain ⟨rfl, hP, hK⟩ := hv
  have hx := B.exec
  have hb := B.bytes
  have hr := B.returns
  have hts := atoms_spec (ws := wsX4_pairHome) B.pre
  have hown : s.vm.findClass RX4 = some m.cls := findClass_of_methodNamed B.named
  have hlocks := B.notSynchronized
  have hwX2 : ∀ w ∈ u_ws RX2 TX2 8, w ∈ wsX4_pairHome := fun _ h => List.mem_cons_of_mem _ (List.mem_append_right _ h)
  have hwX4 : ∀ w ∈ u_ws RX4 TX4 10, w ∈ wsX4_pairHome := fun _ h => List.mem_cons_of_mem _ (List.mem_append_left _ (List.mem_append_right _ h))
  have hl := lv_entry ([.ref h0, .int a1, .int a2, .int a3, .int a4]) (n := 5) (Nat.le_of_ble_eq_true rfl)
  rw [lg_entry_eq]
  generalize (lg_sl ([.ref h0, .int a1, .int a2, .int a3, .int a4]) ++ List.replicate (5 - (lg_sl ([.ref h0, .int a1, .int a2, .int a3, .int a4])).length) Slot.unset).toArray = ls at hl ⊢
  have hl : lv_has ls 5 [(0, .ref h0), (1, .int a1), (2, .int a2), (3, .int a3), (4, .int a4)] := hl
  refine lv_aload_n hx hb dX4_pairHome_0 rfl (lv_at hl 0 rfl) ?_
  refine va_get (D := D) (ci := 4) (v := .ref rd) (C := RX4) (T := TX4) (N := 10) hx hb hts hwX4 hown hK hP 0 rfl rfl 0 (by decide) (hts (.fieldLink RX4 10 "WaitOrWalkOn" "road" "LWaitOrWalkOn$Road;") (by decide +kernel)) (fun _ h9 => h9) rfl dX4_pairHome_1 ?_
  have hPc := hP.sub (ws' := [(rd, .inr (2, [.int (nI st), .int ho, .int pa, .int si, .int li, .int lc, .ref r0, .ref r1])), (r0, .inl (cI, 7, .inl lg))]) [1, 2] rfl
  refine vp_callSi (va_Run.run (va_runV (As := []) (rest := []) ⟨hx, hb, hml, hown, hts⟩ (g_X2_last l D cI cL cZ cC rd r0 r1 st ho pa si li lc lg (by first | assumption | decide +kernel) (by first | assumption | decide +kernel)) (cwV 0 hts gX4_pairHome_X2_last rfl rfl rfl (by decide +kernel) ⟨Nat.le_of_ble_eq_true rfl, Nat.le_of_ble_eq_true rfl⟩) ⟨xPc_bl, va_recv hK hPc (ci := 2) (q0 := 0) rfl rfl, xPc_use hPc hK⟩ rfl rfl hl.1 rfl (lv_room (Nat.le_of_ble_eq_true rfl)) dX4_pairHome_4 ⟨Nat.le_of_ble_eq_true rfl, Nat.le_of_ble_eq_true rfl⟩)) (fun r_1 er_1 => ?_)
  obtain rfl : (nI (st - 1) : Int32) = r_1 := Eq.symm er_1
  refine lv_if_ne (tgt := 19) hx hb dX4_pairHome_7 (by decide) (fun c_2 => ?_) (fun c_2 => ?_)
  · refine lv_iload_n hx hb dX4_pairHome_19 rfl (lv_at hl 1 rfl) ?_
    refine lv_bipush (v := 12) hx hb dX4_pairHome_20 (by decide) ?_
    refine lv_icmp_ne (tgt := 48) hx hb dX4_pairHome_22 (by decide) (fun c_3 => ?_) (fun c_3 => ?_)
    · refine lv_iload_n hx hb dX4_pairHome_48 rfl (lv_at hl 1 rfl) ?_
      refine lv_iload_n hx hb dX4_pairHome_49 rfl (lv_at hl 3 rfl) ?_
      refine lv_icmp_ne (tgt := 62) hx hb dX4_pairHome_50 (by decide) (fun c_4 => ?_) (fun c_4 => ?_)
      · refine lv_iload_n hx hb dX4_pairHome_62 rfl (lv_at hl 1 rfl) ?_
        refine lv_iload_n hx hb dX4_pairHome_63 rfl (lv_at hl 3 rfl) ?_
        refine lv_icmp_ge (tgt := 73) hx hb dX4_pairHome_64 (by decide) (fun c_5 => ?_) (fun c_5 => ?_)
        · refine lv_iload_n hx hb dX4_pairHome_73 rfl (lv_at hl 3 rfl) ?_
          refine lv_iload hx hb dX4_pairHome_74 (lv_at hl 4 rfl) ?_
          refine lv_iadd hx hb dX4_pairHome_76 ?_
          exact W.iret (v := a3 + a4) hx hb hr (fun t ht hW => ⟨_, rfl, (by rw [sPH, if_neg (fun w => c_2 (by rw [w]; rfl)), if_neg (fun w => c_3 w.1), if_neg c_4, if_neg (Int32.not_lt.mpr c_5)]), ht⟩) (fun _ h => absurd h List.not_mem_nil) dX4_pairHome_77
        · refine lv_iload_n hx hb dX4_pairHome_67 rfl (lv_at hl 1 rfl) ?_
          refine lv_iload_n hx hb dX4_pairHome_68 rfl (lv_at hl 2 rfl) ?_
          refine lv_iadd hx hb dX4_pairHome_69 ?_
          refine lv_goto (tgt := 77) hx hb dX4_pairHome_70 (by decide) ?_
          exact W.iret (v := a1 + a2) hx hb hr (fun t ht hW => ⟨_, rfl, (by rw [sPH, if_neg (fun w => c_2 (by rw [w]; rfl)), if_neg (fun w => c_3 w.1), if_neg c_4, if_pos (Int32.not_le.mp c_5)]), ht⟩) (fun _ h => absurd h List.not_mem_nil) dX4_pairHome_77
      · refine lv_iload_n hx hb dX4_pairHome_53 rfl (lv_at hl 1 rfl) ?_
        refine lv_iload_n hx hb dX4_pairHome_54 rfl (lv_at hl 2 rfl) ?_
        refine lv_iload hx hb dX4_pairHome_55 (lv_at hl 4 rfl) ?_
        refine va_mmin hx hb (hml.trans hl.1.symm) hown (hts (.methodLink RX4 188 Lib.Math.min.name) (by decide +kernel)) (hts (.static Lib.Math.min.name) (by decide +kernel)) (hts (.initialized "java/lang/Math") (by decide +kernel)) (hts (.code Lib.Math.min.name Lib.Math.min.code 2 (some .int)) (by decide +kernel)) (Nat.le_of_ble_eq_true rfl) (Nat.le_of_ble_eq_true rfl) (Nat.le_of_ble_eq_true rfl) (Nat.le_of_ble_eq_true rfl) dX4_pairHome_57 ?_
        refine lv_iadd hx hb dX4_pairHome_60 ?_
        exact W.iret (v := a1 + (if a4 < a2 then a4 else a2)) hx hb hr (fun t ht hW => ⟨_, rfl, (by rw [sPH, if_neg (fun w => c_2 (by rw [w]; rfl)), if_neg (fun w => c_3 w.1), if_pos c_4]), ht⟩) (fun _ h => absurd h List.not_mem_nil) dX4_pairHome_61
    · refine lv_iload_n hx hb dX4_pairHome_25 rfl (lv_at hl 3 rfl) ?_
      refine lv_bipush (v := 12) hx hb dX4_pairHome_26 (by decide) ?_
      refine lv_icmp_ne (tgt := 48) hx hb dX4_pairHome_28 (by decide) (fun c_6 => ?_) (fun c_6 => ?_)
      · refine lv_iload_n hx hb dX4_pairHome_48 rfl (lv_at hl 1 rfl) ?_
        refine lv_iload_n hx hb dX4_pairHome_49 rfl (lv_at hl 3 rfl) ?_
        refine lv_icmp_ne (tgt := 62) hx hb dX4_pairHome_50 (by decide) (fun c_7 => ?_) (fun c_7 => ?_)
        · refine lv_iload_n hx hb dX4_pairHome_62 rfl (lv_at hl 1 rfl) ?_
          refine lv_iload_n hx hb dX4_pairHome_63 rfl (lv_at hl 3 rfl) ?_
          refine lv_icmp_ge (tgt := 73) hx hb dX4_pairHome_64 (by decide) (fun c_8 => ?_) (fun c_8 => ?_)
          · refine lv_iload_n hx hb dX4_pairHome_73 rfl (lv_at hl 3 rfl) ?_
            refine lv_iload hx hb dX4_pairHome_74 (lv_at hl 4 rfl) ?_
            refine lv_iadd hx hb dX4_pairHome_76 ?_
            exact W.iret (v := a3 + a4) hx hb hr (fun t ht hW => ⟨_, rfl, (by rw [sPH, if_neg (fun w => c_2 (by rw [w]; rfl)), if_neg (fun w => c_6 w.2), if_neg c_7, if_neg (Int32.not_lt.mpr c_8)]), ht⟩) (fun _ h => absurd h List.not_mem_nil) dX4_pairHome_77
          · refine lv_iload_n hx hb dX4_pairHome_67 rfl (lv_at hl 1 rfl) ?_
            refine lv_iload_n hx hb dX4_pairHome_68 rfl (lv_at hl 2 rfl) ?_
            refine lv_iadd hx hb dX4_pairHome_69 ?_
            refine lv_goto (tgt := 77) hx hb dX4_pairHome_70 (by decide) ?_
            exact W.iret (v := a1 + a2) hx hb hr (fun t ht hW => ⟨_, rfl, (by rw [sPH, if_neg (fun w => c_2 (by rw [w]; rfl)), if_neg (fun w => c_6 w.2), if_neg c_7, if_pos (Int32.not_le.mp c_8)]), ht⟩) (fun _ h => absurd h List.not_mem_nil) dX4_pairHome_77
        · refine lv_iload_n hx hb dX4_pairHome_53 rfl (lv_at hl 1 rfl) ?_
          refine lv_iload_n hx hb dX4_pairHome_54 rfl (lv_at hl 2 rfl) ?_
          refine lv_iload hx hb dX4_pairHome_55 (lv_at hl 4 rfl) ?_
          refine va_mmin hx hb (hml.trans hl.1.symm) hown (hts (.methodLink RX4 188 Lib.Math.min.name) (by decide +kernel)) (hts (.static Lib.Math.min.name) (by decide +kernel)) (hts (.initialized "java/lang/Math") (by decide +kernel)) (hts (.code Lib.Math.min.name Lib.Math.min.code 2 (some .int)) (by decide +kernel)) (Nat.le_of_ble_eq_true rfl) (Nat.le_of_ble_eq_true rfl) (Nat.le_of_ble_eq_true rfl) (Nat.le_of_ble_eq_true rfl) dX4_pairHome_57 ?_
          refine lv_iadd hx hb dX4_pairHome_60 ?_
          exact W.iret (v := a1 + (if a4 < a2 then a4 else a2)) hx hb hr (fun t ht hW => ⟨_, rfl, (by rw [sPH, if_neg (fun w => c_2 (by rw [w]; rfl)), if_neg (fun w => c_6 w.2), if_pos c_7]), ht⟩) (fun _ h => absurd h List.not_mem_nil) dX4_pairHome_61
      · refine lv_aload_n hx hb dX4_pairHome_31 rfl (lv_at hl 0 rfl) ?_
        refine va_get (D := D) (ci := 4) (v := .ref rd) (C := RX4) (T := TX4) (N := 10) hx hb hts hwX4 hown hK hP 0 rfl rfl 0 (by decide) (hts (.fieldLink RX4 10 "WaitOrWalkOn" "road" "LWaitOrWalkOn$Road;") (by decide +kernel)) (fun _ h9 => h9) rfl dX4_pairHome_32 ?_
        refine va_get (D := D) (ci := 2) (v := .int li) (C := RX2) (T := TX2) (N := 8) hx hb hts hwX2 hown hK hP 1 rfl rfl 4 (by decide) (hts (.fieldLink RX4 234 "WaitOrWalkOn$Road" "limit" "I") (by decide +kernel)) (fun _ h9 => h9) rfl dX4_pairHome_35 ?_
        refine lv_aload_n hx hb dX4_pairHome_38 rfl (lv_at hl 0 rfl) ?_
        refine va_get (D := D) (ci := 4) (v := .ref rd) (C := RX4) (T := TX4) (N := 10) hx hb hts hwX4 hown hK hP 0 rfl rfl 0 (by decide) (hts (.fieldLink RX4 10 "WaitOrWalkOn" "road" "LWaitOrWalkOn$Road;") (by decide +kernel)) (fun _ h9 => h9) rfl dX4_pairHome_39 ?_
        refine lv_iconst (v := 0) hx hb dX4_pairHome_42 (by decide) ?_
        have hPc := hP.sub (ws' := [(rd, .inr (2, [.int (nI st), .int ho, .int pa, .int si, .int li, .int lc, .ref r0, .ref r1])), (r0, .inl (cI, 7, .inl lg))]) [1, 2] rfl
        refine vp_callSi (va_Run.run (va_runV (As := [.int 0]) (rest := [.int li]) ⟨hx, hb, hml, hown, hts⟩ (g_X2_walkHome l D cI cL cZ cC rd r0 r1 st ho pa si li lc lg 0 (by first | assumption | decide +kernel) (by first | assumption | decide +kernel) (by omega)) (cwV 1 hts gX4_pairHome_X2_walkHome rfl rfl rfl (by decide +kernel) ⟨Nat.le_of_ble_eq_true rfl, Nat.le_of_ble_eq_true rfl⟩) ⟨xPc_bl, va_recv hK hPc (ci := 2) (q0 := 0) rfl rfl, xPc_use hPc hK⟩ rfl rfl hl.1 rfl (lv_room (Nat.le_of_ble_eq_true rfl)) dX4_pairHome_43 ⟨Nat.le_of_ble_eq_true rfl, Nat.le_of_ble_eq_true rfl⟩)) (fun r_9 er_9 => ?_)
        obtain rfl : (xWh st ho pa lg 0 : Int32) = r_9 := Eq.symm er_9
        refine lv_iadd hx hb dX4_pairHome_46 ?_
        exact W.iret (v := li + (xWh st ho pa lg 0)) hx hb hr (fun t ht hW => ⟨_, rfl, (by rw [sPH, if_neg (fun w => c_2 (by rw [w]; rfl)), if_pos ⟨c_3, c_6⟩]), ht⟩) (fun _ h => absurd h List.not_mem_nil) dX4_pairHome_47
  · refine lv_aload_n hx hb dX4_pairHome_10 rfl (lv_at hl 0 rfl) ?_
    refine va_get (D := D) (ci := 4) (v := .ref rd) (C := RX4) (T := TX4) (N := 10) hx hb hts hwX4 hown hK hP 0 rfl rfl 0 (by decide) (hts (.fieldLink RX4 10 "WaitOrWalkOn" "road" "LWaitOrWalkOn$Road;") (by decide +kernel)) (fun _ h9 => h9) rfl dX4_pairHome_11 ?_
    refine lv_iconst (v := 0) hx hb dX4_pairHome_14 (by decide) ?_
    have hPc := hP.sub (ws' := [(rd, .inr (2, [.int (nI st), .int ho, .int pa, .int si, .int li, .int lc, .ref r0, .ref r1])), (r0, .inl (cI, 7, .inl lg))]) [1, 2] rfl
    refine vp_callSi (va_Run.run (va_runV (As := [.int 0]) (rest := []) ⟨hx, hb, hml, hown, hts⟩ (g_X2_walkHome l D cI cL cZ cC rd r0 r1 st ho pa si li lc lg 0 (by first | assumption | decide +kernel) (by first | assumption | decide +kernel) (by omega)) (cwV 1 hts gX4_pairHome_X2_walkHome rfl rfl rfl (by decide +kernel) ⟨Nat.le_of_ble_eq_true rfl, Nat.le_of_ble_eq_true rfl⟩) ⟨xPc_bl, va_recv hK hPc (ci := 2) (q0 := 0) rfl rfl, xPc_use hPc hK⟩ rfl rfl hl.1 rfl (lv_room (Nat.le_of_ble_eq_true rfl)) dX4_pairHome_15 ⟨Nat.le_of_ble_eq_true rfl, Nat.le_of_ble_eq_true rfl⟩)) (fun r_10 er_10 => ?_)
    obtain rfl : (xWh st ho pa lg 0 : Int32) = r_10 := Eq.symm er_10
    exact W.iret (v := xWh st ho pa lg 0) hx hb hr (fun t ht hW => ⟨_, rfl, (by rw [sPH, if_pos (show st = 1 by have w : st - 1 = 0 := (nI_eq (a := st - 1) (b := 0) (by omega) (by decide)).mp c_2; omega)]), ht⟩) (fun _ h => absurd h List.not_mem_nil) dX4_pairHome_18

set_option maxHeartbeats 4000000 in
set_option maxRecDepth 100000 in
theorem g_X4_pairSum (l : Launch) (D : va_G) (cI cL cZ cC : ClassId) (h0 : Nat) (rd : Nat) (dr : Nat) (kp : Nat) (pl : Nat) (tx : Nat) (nu : Nat) (rf_a : Nat) (nc : Int32) (hi : Int32) (pd : Int32) (r0 : Nat) (r1 : Nat) (st : Nat) (ho : Int32) (pa : Int32) (si : Int32) (li : Int32) (lc : Int32) (lg : Nat → Int32) (la : Nat → Nat) (lk : Nat → Nat) (ki : Nat → Int32) (ru : Nat → Int32) (ne : Nat → Int32) (ch : Nat → Nat → Int32) (a0 : Nat) (a1 : Nat) (a3 : Int32) (hs1 : 1 ≤ st) (hs7 : st ≤ 7) (ha : a0 ≤ 2) (hb0 : a1 ≤ 2) : Met l yX4_pairSum wsX4_pairSum ({ frames := 4, cells := 0, slots := 0, locals := 90 } : Room) (xPc D [.ref h0, .int (nI a0), .int (nI a1), .int a3] [(h0, .inr (4, [.ref rd, .ref dr, .ref kp, .ref pl, .ref tx, .ref nu, .ref rf_a, .int nc, .int hi, .int pd])), (rd, .inr (2, [.int (nI st), .int ho, .int pa, .int si, .int li, .int lc, .ref r0, .ref r1])), (r0, .inl (cI, 7, .inl lg)), (r1, .inl (cL, 3, .inr (.inr (.inr (.inr (xL3 (la 0) (la 1) (la 2))))))), (la 0, .inr (0, [.int (ki 0), .int (ru 0), .int (ne 0), .ref (lk 0)])), (lk 0, .inl (cI, 12, .inl (ch 0))), (la 1, .inr (0, [.int (ki 1), .int (ru 1), .int (ne 1), .ref (lk 1)])), (lk 1, .inl (cI, 12, .inl (ch 1))), (la 2, .inr (0, [.int (ki 2), .int (ru 2), .int (ne 2), .ref (lk 2)])), (lk 2, .inl (cI, 12, .inl (ch 2)))] (xTy cI cL cZ cC)) (vp_Si (fun r : Int32 => r = xPo (fun t => sWt (ne a0) (ch a0) (nI t)) (fun t u => sWt (ne a0) (ch a0) (nI t) * sWt (ne a1) (ch a1) (nI u) * sPH st (xWh st ho pa lg 0) li (nI t) (sRide (ki a0) (ru a0) (nI (st - 1)) + xWy (xYd st ho lg (st - 1)) pa) (if nI u < a3 then 12 else nI u) (sRide (ki a1) (ru a1) (nI (st - 1)) + xWy (xYd st ho lg (st - 1)) pa)) 13)) 0 0 (fun _ => False) := by
  refine Met.ofW (cc := cX4_pairSum) (maxL := 13) (ret := (some .int)) (by decide) rfl ?_
  intro p e s m args below meth c s₁ B hml hv
  obtain ⟨rfl, hP, hK⟩ := hv
  have hx := B.exec
  have hb := B.bytes
  have hr := B.returns
  have hts := atoms_spec (ws := wsX4_pairSum) B.pre
  have hown : s.vm.findClass RX4 = some m.cls := findClass_of_methodNamed B.named
  have hlocks := B.notSynchronized
  have hwX2 : ∀ w ∈ u_ws RX2 TX2 8, w ∈ wsX4_pairSum := fun _ h => List.mem_cons_of_mem _ (List.mem_append_left _ (List.mem_append_right _ h))
  have hwX4 : ∀ w ∈ u_ws RX4 TX4 10, w ∈ wsX4_pairSum := fun _ h => List.mem_cons_of_mem _ (List.mem_append_left _ (List.mem_append_left _ (List.mem_append_right _ h)))
  have hl := lv_entry ([.ref h0, .int (nI a0), .int (nI a1), .int a3]) (n := 13) (Nat.le_of_ble_eq_true rfl)
  rw [lg_entry_eq]
  generalize (lg_sl ([.ref h0, .int (nI a0), .int (nI a1), .int a3]) ++ List.replicate (13 - (lg_sl ([.ref h0, .int (nI a0), .int (nI a1), .int a3])).length) Slot.unset).toArray = ls at hl ⊢
  have hl : lv_has ls 13 [(0, .ref h0), (1, .int (nI a0)), (2, .int (nI a1)), (3, .int a3)] := hl
  have hPa : va_P D vwCl [(la a0, .inr (0, [.int (ki a0), .int (ru a0), .int (ne a0), .ref (lk a0)])), (lk a0, .inl (cI, 12, .inl (ch a0)))] s.heap := by rcases (show a0 = 0 ∨ a0 = 1 ∨ a0 = 2 by omega) with rfl | rfl | rfl; exact hP.sub [4, 5] rfl; exact hP.sub [6, 7] rfl; exact hP.sub [8, 9] rfl
  have hPb : va_P D vwCl [(la a1, .inr (0, [.int (ki a1), .int (ru a1), .int (ne a1), .ref (lk a1)])), (lk a1, .inl (cI, 12, .inl (ch a1)))] s.heap := by rcases (show a1 = 0 ∨ a1 = 1 ∨ a1 = 2 by omega) with rfl | rfl | rfl; exact hP.sub [4, 5] rfl; exact hP.sub [6, 7] rfl; exact hP.sub [8, 9] rfl
  refine lv_aload_n hx hb dX4_pairSum_0 rfl (lv_at hl 0 rfl) ?_
  refine va_get (D := D) (ci := 4) (v := .ref rd) (C := RX4) (T := TX4) (N := 10) hx hb hts hwX4 hown hK hP 0 rfl rfl 0 (by decide) (hts (.fieldLink RX4 10 "WaitOrWalkOn" "road" "LWaitOrWalkOn$Road;") (by decide +kernel)) (fun _ h9 => h9) rfl dX4_pairSum_1 ?_
  refine va_get (D := D) (ci := 2) (v := .ref r1) (C := RX2) (T := TX2) (N := 8) hx hb hts hwX2 hown hK hP 1 rfl rfl 7 (by decide) (hts (.fieldLink RX4 79 "WaitOrWalkOn$Road" "lines" "[LWaitOrWalkOn$Line;") (by decide +kernel)) (fun _ h9 => h9) rfl dX4_pairSum_4 ?_
  refine lv_iload_n hx hb dX4_pairSum_7 rfl (lv_at hl 1 rfl) ?_
  refine va_aldq (D := D) hx hb hK hP 3 1 rfl rfl (vp_in_nI (by omega) (by decide)) dX4_pairSum_8 ?_
  refine xv_ref (y := la a0) (xL3_at (by omega)) ?_
  refine lv_astore (lv' := [(4, .ref (la a0)), (0, .ref h0), (1, .int (nI a0)), (2, .int (nI a1)), (3, .int a3)]) hx hb dX4_pairSum_9 hl (by decide) rfl (fun ls hl => ?_)
  refine lv_aload_n hx hb dX4_pairSum_11 rfl (lv_at hl 1 rfl) ?_
  refine va_get (D := D) (ci := 4) (v := .ref rd) (C := RX4) (T := TX4) (N := 10) hx hb hts hwX4 hown hK hP 0 rfl rfl 0 (by decide) (hts (.fieldLink RX4 10 "WaitOrWalkOn" "road" "LWaitOrWalkOn$Road;") (by decide +kernel)) (fun _ h9 => h9) rfl dX4_pairSum_12 ?_
  refine va_get (D := D) (ci := 2) (v := .ref r1) (C := RX2) (T := TX2) (N := 8) hx hb hts hwX2 hown hK hP 1 rfl rfl 7 (by decide) (hts (.fieldLink RX4 79 "WaitOrWalkOn$Road" "lines" "[LWaitOrWalkOn$Line;") (by decide +kernel)) (fun _ h9 => h9) rfl dX4_pairSum_15 ?_
  refine lv_iload_n hx hb dX4_pairSum_18 rfl (lv_at hl 3 rfl) ?_
  refine va_aldq (D := D) hx hb hK hP 3 1 rfl rfl (vp_in_nI (by omega) (by decide)) dX4_pairSum_19 ?_
  refine xv_ref (y := la a1) (xL3_at (by omega)) ?_
  refine lv_astore (lv' := [(5, .ref (la a1)), (4, .ref (la a0)), (0, .ref h0), (1, .int (nI a0)), (2, .int (nI a1)), (3, .int a3)]) hx hb dX4_pairSum_20 hl (by decide) rfl (fun ls hl => ?_)
  refine lv_aload_n hx hb dX4_pairSum_22 rfl (lv_at hl 2 rfl) ?_
  refine va_get (D := D) (ci := 4) (v := .ref rd) (C := RX4) (T := TX4) (N := 10) hx hb hts hwX4 hown hK hP 0 rfl rfl 0 (by decide) (hts (.fieldLink RX4 10 "WaitOrWalkOn" "road" "LWaitOrWalkOn$Road;") (by decide +kernel)) (fun _ h9 => h9) rfl dX4_pairSum_23 ?_
  refine lv_aload hx hb dX4_pairSum_26 (lv_at hl 1 rfl) ?_
  have hPc := (va_P.app (hP.sub (ws' := [(rd, .inr (2, [.int (nI st), .int ho, .int pa, .int si, .int li, .int lc, .ref r0, .ref r1])), (r0, .inl (cI, 7, .inl lg))]) [1, 2] rfl) (hPa.sub (ws' := [((la a0), .inr (0, [.int (ki a0), .int (ru a0), .int (ne a0), .ref (lk a0)])), ((lk a0), .inl (cI, 12, .inl (ch a0)))]) [0, 1] rfl))
  refine vp_callSi (va_Run.run (va_runV (As := [.ref (la a0)]) (rest := []) ⟨hx, hb, hml, hown, hts⟩ (g_X2_rideHome l D cI cL cZ cC rd r0 r1 st ho pa si li lc lg (la a0) (lk a0) (ki a0) (ru a0) (ne a0) (ch a0) (by first | assumption | decide +kernel) (by first | assumption | decide +kernel)) (cwV 1 hts gX4_pairSum_X2_rideHome rfl rfl rfl (by decide +kernel) ⟨Nat.le_of_ble_eq_true rfl, Nat.le_of_ble_eq_true rfl⟩) ⟨xPc_bl, va_recv hK hPc (ci := 2) (q0 := 0) rfl rfl, xPc_use hPc hK⟩ rfl rfl hl.1 rfl (lv_room (Nat.le_of_ble_eq_true rfl)) dX4_pairSum_28 ⟨Nat.le_of_ble_eq_true rfl, Nat.le_of_ble_eq_true rfl⟩)) (fun r_1 er_1 => ?_)
  obtain rfl : (sRide (ki a0) (ru a0) (nI (st - 1)) + xWy (xYd st ho lg (st - 1)) pa : Int32) = r_1 := Eq.symm er_1
  refine lv_istore (lv' := [(6, .int (sRide (ki a0) (ru a0) (nI (st - 1)) + xWy (xYd st ho lg (st - 1)) pa)), (5, .ref (la a1)), (4, .ref (la a0)), (0, .ref h0), (1, .int (nI a0)), (2, .int (nI a1)), (3, .int a3)]) hx hb dX4_pairSum_31 hl (by decide) rfl (fun ls hl => ?_)
  refine lv_aload_n hx hb dX4_pairSum_33 rfl (lv_at hl 3 rfl) ?_
  refine va_get (D := D) (ci := 4) (v := .ref rd) (C := RX4) (T := TX4) (N := 10) hx hb hts hwX4 hown hK hP 0 rfl rfl 0 (by decide) (hts (.fieldLink RX4 10 "WaitOrWalkOn" "road" "LWaitOrWalkOn$Road;") (by decide +kernel)) (fun _ h9 => h9) rfl dX4_pairSum_34 ?_
  refine lv_aload hx hb dX4_pairSum_37 (lv_at hl 1 rfl) ?_
  have hPc := (va_P.app (hP.sub (ws' := [(rd, .inr (2, [.int (nI st), .int ho, .int pa, .int si, .int li, .int lc, .ref r0, .ref r1])), (r0, .inl (cI, 7, .inl lg))]) [1, 2] rfl) (hPb.sub (ws' := [((la a1), .inr (0, [.int (ki a1), .int (ru a1), .int (ne a1), .ref (lk a1)])), ((lk a1), .inl (cI, 12, .inl (ch a1)))]) [0, 1] rfl))
  refine vp_callSi (va_Run.run (va_runV (As := [.ref (la a1)]) (rest := []) ⟨hx, hb, hml, hown, hts⟩ (g_X2_rideHome l D cI cL cZ cC rd r0 r1 st ho pa si li lc lg (la a1) (lk a1) (ki a1) (ru a1) (ne a1) (ch a1) (by first | assumption | decide +kernel) (by first | assumption | decide +kernel)) (cwV 1 hts gX4_pairSum_X2_rideHome rfl rfl rfl (by decide +kernel) ⟨Nat.le_of_ble_eq_true rfl, Nat.le_of_ble_eq_true rfl⟩) ⟨xPc_bl, va_recv hK hPc (ci := 2) (q0 := 0) rfl rfl, xPc_use hPc hK⟩ rfl rfl hl.1 rfl (lv_room (Nat.le_of_ble_eq_true rfl)) dX4_pairSum_39 ⟨Nat.le_of_ble_eq_true rfl, Nat.le_of_ble_eq_true rfl⟩)) (fun r_2 er_2 => ?_)
  obtain rfl : (sRide (ki a1) (ru a1) (nI (st - 1)) + xWy (xYd st ho lg (st - 1)) pa : Int32) = r_2 := Eq.symm er_2
  refine lv_istore (lv' := [(7, .int (sRide (ki a1) (ru a1) (nI (st - 1)) + xWy (xYd st ho lg (st - 1)) pa)), (6, .int (sRide (ki a0) (ru a0) (nI (st - 1)) + xWy (xYd st ho lg (st - 1)) pa)), (5, .ref (la a1)), (4, .ref (la a0)), (0, .ref h0), (1, .int (nI a0)), (2, .int (nI a1)), (3, .int a3)]) hx hb dX4_pairSum_42 hl (by decide) rfl (fun ls hl => ?_)
  refine lv_iconst (v := 0) hx hb dX4_pairSum_44 (by decide) ?_
  refine lv_istore (lv' := [(8, .int 0), (7, .int (sRide (ki a1) (ru a1) (nI (st - 1)) + xWy (xYd st ho lg (st - 1)) pa)), (6, .int (sRide (ki a0) (ru a0) (nI (st - 1)) + xWy (xYd st ho lg (st - 1)) pa)), (5, .ref (la a1)), (4, .ref (la a0)), (0, .ref h0), (1, .int (nI a0)), (2, .int (nI a1)), (3, .int a3)]) hx hb dX4_pairSum_45 hl (by decide) rfl (fun ls hl => ?_)
  refine lv_iconst (v := 0) hx hb dX4_pairSum_47 (by decide) ?_
  refine lv_istore (lv' := [(9, .int 0), (8, .int 0), (7, .int (sRide (ki a1) (ru a1) (nI (st - 1)) + xWy (xYd st ho lg (st - 1)) pa)), (6, .int (sRide (ki a0) (ru a0) (nI (st - 1)) + xWy (xYd st ho lg (st - 1)) pa)), (5, .ref (la a1)), (4, .ref (la a0)), (0, .ref h0), (1, .int (nI a0)), (2, .int (nI a1)), (3, .int a3)]) hx hb dX4_pairSum_48 hl (by decide) rfl (fun ls hl => ?_)
  refine xl_loop (σ := Nat) (fun n q ls => lv_has ls 13 [(9, .int (nI q)), (8, .int (xPo (fun t => sWt (ne a0) (ch a0) (nI t)) (fun t u => sWt (ne a0) (ch a0) (nI t) * sWt (ne a1) (ch a1) (nI u) * sPH st (xWh st ho pa lg 0) li (nI t) (sRide (ki a0) (ru a0) (nI (st - 1)) + xWy (xYd st ho lg (st - 1)) pa) (if nI u < a3 then 12 else nI u) (sRide (ki a1) (ru a1) (nI (st - 1)) + xWy (xYd st ho lg (st - 1)) pa)) q)), (7, .int (sRide (ki a1) (ru a1) (nI (st - 1)) + xWy (xYd st ho lg (st - 1)) pa)), (6, .int (sRide (ki a0) (ru a0) (nI (st - 1)) + xWy (xYd st ho lg (st - 1)) pa)), (5, .ref (la a1)), (4, .ref (la a0)), (0, .ref h0), (1, .int (nI a0)), (2, .int (nI a1)), (3, .int a3)] ∧ (13 - q < n) ∧ (q ≤ 13)) (14) (0) ⟨lv_sub hl [0, 1, 2, 3, 4, 5, 6, 7, 8, 9] rfl, by (try dsimp only); exact ⟨by omega, by omega⟩⟩ (fun q ls h => absurd h.2.1 (Nat.not_lt_zero _)) ?_
  intro n_50 q_50 ls ih_50 hI_50
  obtain ⟨hl, hI_50⟩ := hI_50
  obtain ⟨t1, e_50⟩ : ∃ z, z = q_50 := ⟨_, rfl⟩
  subst e_50
  obtain ⟨h1, h2⟩ := hI_50
  try dsimp only at hl h1 h2
  refine lv_iload hx hb dX4_pairSum_50 (lv_at hl 0 rfl) ?_
  refine lv_bipush (v := 12) hx hb dX4_pairSum_52 (by decide) ?_
  refine lv_icmp_gt (tgt := 136) hx hb dX4_pairSum_54 (by decide) (fun c_3 => ?_) (fun c_3 => ?_)
  · refine lv_iload hx hb dX4_pairSum_136 (lv_at hl 1 rfl) ?_
    exact W.iret (v := xPo (fun t => sWt (ne a0) (ch a0) (nI t)) (fun t u => sWt (ne a0) (ch a0) (nI t) * sWt (ne a1) (ch a1) (nI u) * sPH st (xWh st ho pa lg 0) li (nI t) (sRide (ki a0) (ru a0) (nI (st - 1)) + xWy (xYd st ho lg (st - 1)) pa) (if nI u < a3 then 12 else nI u) (sRide (ki a1) (ru a1) (nI (st - 1)) + xWy (xYd st ho lg (st - 1)) pa)) t1) hx hb hr (fun t ht hW => ⟨_, rfl, (by have w := (nI_ltI (a := 12) (b := t1) (by decide) (by omega)).mp c_3; rw [show t1 = 13 by omega]), ht⟩) (fun _ h => absurd h List.not_mem_nil) dX4_pairSum_138
  · refine lv_aload hx hb dX4_pairSum_57 (lv_at hl 5 rfl) ?_
    refine lv_iload hx hb dX4_pairSum_59 (lv_at hl 0 rfl) ?_
    have hPc := hPa.sub (ws' := [((la a0), .inr (0, [.int (ki a0), .int (ru a0), .int (ne a0), .ref (lk a0)])), ((lk a0), .inl (cI, 12, .inl (ch a0)))]) [0, 1] rfl
    refine vp_callSi (va_Run.run (va_runV (As := [.int (nI t1)]) (rest := []) ⟨hx, hb, hml, hown, hts⟩ (g_X0_weight l D cI cL cZ cC (la a0) (lk a0) (ki a0) (ru a0) (ne a0) (ch a0) (nI t1) ) (cwV 1 hts gX4_pairSum_X0_weight rfl rfl rfl (by decide +kernel) ⟨Nat.le_of_ble_eq_true rfl, Nat.le_of_ble_eq_true rfl⟩) ⟨xPc_bl, va_recv hK hPc (ci := 0) (q0 := 0) rfl rfl, xPc_use hPc hK⟩ rfl rfl hl.1 rfl (lv_room (Nat.le_of_ble_eq_true rfl)) dX4_pairSum_61 ⟨Nat.le_of_ble_eq_true rfl, Nat.le_of_ble_eq_true rfl⟩)) (fun r_4 er_4 => ?_)
    obtain rfl : (sWt (ne a0) (ch a0) (nI t1) : Int32) = r_4 := Eq.symm er_4
    refine lv_istore (lv' := [(10, .int (sWt (ne a0) (ch a0) (nI t1))), (9, .int (nI t1)), (8, .int (xPo (fun t => sWt (ne a0) (ch a0) (nI t)) (fun t u => sWt (ne a0) (ch a0) (nI t) * sWt (ne a1) (ch a1) (nI u) * sPH st (xWh st ho pa lg 0) li (nI t) (sRide (ki a0) (ru a0) (nI (st - 1)) + xWy (xYd st ho lg (st - 1)) pa) (if nI u < a3 then 12 else nI u) (sRide (ki a1) (ru a1) (nI (st - 1)) + xWy (xYd st ho lg (st - 1)) pa)) t1)), (7, .int (sRide (ki a1) (ru a1) (nI (st - 1)) + xWy (xYd st ho lg (st - 1)) pa)), (6, .int (sRide (ki a0) (ru a0) (nI (st - 1)) + xWy (xYd st ho lg (st - 1)) pa)), (5, .ref (la a1)), (4, .ref (la a0)), (0, .ref h0), (1, .int (nI a0)), (2, .int (nI a1)), (3, .int a3)]) hx hb dX4_pairSum_64 hl (by decide) rfl (fun ls hl => ?_)
    refine lv_iconst (v := 0) hx hb dX4_pairSum_66 (by decide) ?_
    refine lv_istore (lv' := [(11, .int 0), (10, .int (sWt (ne a0) (ch a0) (nI t1))), (9, .int (nI t1)), (8, .int (xPo (fun t => sWt (ne a0) (ch a0) (nI t)) (fun t u => sWt (ne a0) (ch a0) (nI t) * sWt (ne a1) (ch a1) (nI u) * sPH st (xWh st ho pa lg 0) li (nI t) (sRide (ki a0) (ru a0) (nI (st - 1)) + xWy (xYd st ho lg (st - 1)) pa) (if nI u < a3 then 12 else nI u) (sRide (ki a1) (ru a1) (nI (st - 1)) + xWy (xYd st ho lg (st - 1)) pa)) t1)), (7, .int (sRide (ki a1) (ru a1) (nI (st - 1)) + xWy (xYd st ho lg (st - 1)) pa)), (6, .int (sRide (ki a0) (ru a0) (nI (st - 1)) + xWy (xYd st ho lg (st - 1)) pa)), (5, .ref (la a1)), (4, .ref (la a0)), (0, .ref h0), (1, .int (nI a0)), (2, .int (nI a1)), (3, .int a3)]) hx hb dX4_pairSum_67 hl (by decide) rfl (fun ls hl => ?_)
    refine xl_loop (σ := Nat) (fun n q ls => lv_has ls 13 [(11, .int (nI q)), (10, .int (sWt (ne a0) (ch a0) (nI t1))), (9, .int (nI t1)), (8, .int (xAc2 (xPo (fun t => sWt (ne a0) (ch a0) (nI t)) (fun t q => sWt (ne a0) (ch a0) (nI t) * sWt (ne a1) (ch a1) (nI q) * sPH st (xWh st ho pa lg 0) li (nI t) (sRide (ki a0) (ru a0) (nI (st - 1)) + xWy (xYd st ho lg (st - 1)) pa) (if nI q < a3 then 12 else nI q) (sRide (ki a1) (ru a1) (nI (st - 1)) + xWy (xYd st ho lg (st - 1)) pa)) t1) ((fun t q => sWt (ne a0) (ch a0) (nI t) * sWt (ne a1) (ch a1) (nI q) * sPH st (xWh st ho pa lg 0) li (nI t) (sRide (ki a0) (ru a0) (nI (st - 1)) + xWy (xYd st ho lg (st - 1)) pa) (if nI q < a3 then 12 else nI q) (sRide (ki a1) (ru a1) (nI (st - 1)) + xWy (xYd st ho lg (st - 1)) pa)) t1) 0 q)), (7, .int (sRide (ki a1) (ru a1) (nI (st - 1)) + xWy (xYd st ho lg (st - 1)) pa)), (6, .int (sRide (ki a0) (ru a0) (nI (st - 1)) + xWy (xYd st ho lg (st - 1)) pa)), (5, .ref (la a1)), (4, .ref (la a0)), (0, .ref h0), (1, .int (nI a0)), (2, .int (nI a1)), (3, .int a3)] ∧ (13 - q < n) ∧ (q ≤ 13) ∧ (q = 0 ∨ 0 < sWt (ne a0) (ch a0) (nI t1))) (14) (0) ⟨lv_sub hl [0, 1, 2, 3, 4, 5, 6, 7, 8, 9, 10, 11] rfl, by (try dsimp only); exact ⟨by omega, by omega, Or.inl rfl⟩⟩ (fun q ls h => absurd h.2.1 (Nat.not_lt_zero _)) ?_
    intro n_69 q_69 ls ih_69 hI_69
    obtain ⟨hl, hI_69⟩ := hI_69
    obtain ⟨u, e_69⟩ : ∃ z, z = q_69 := ⟨_, rfl⟩
    subst e_69
    obtain ⟨i1, i2, i3⟩ := hI_69
    try dsimp only at hl i1 i2 i3
    refine lv_iload hx hb dX4_pairSum_69 (lv_at hl 0 rfl) ?_
    refine lv_bipush (v := 12) hx hb dX4_pairSum_71 (by decide) ?_
    refine lv_icmp_gt (tgt := 130) hx hb dX4_pairSum_73 (by decide) (fun c_5 => ?_) (fun c_5 => ?_)
    · have e9 : xAc2 (xPo (fun t => sWt (ne a0) (ch a0) (nI t)) (fun t u => sWt (ne a0) (ch a0) (nI t) * sWt (ne a1) (ch a1) (nI u) * sPH st (xWh st ho pa lg 0) li (nI t) (sRide (ki a0) (ru a0) (nI (st - 1)) + xWy (xYd st ho lg (st - 1)) pa) (if nI u < a3 then 12 else nI u) (sRide (ki a1) (ru a1) (nI (st - 1)) + xWy (xYd st ho lg (st - 1)) pa)) t1) ((fun t u => sWt (ne a0) (ch a0) (nI t) * sWt (ne a1) (ch a1) (nI u) * sPH st (xWh st ho pa lg 0) li (nI t) (sRide (ki a0) (ru a0) (nI (st - 1)) + xWy (xYd st ho lg (st - 1)) pa) (if nI u < a3 then 12 else nI u) (sRide (ki a1) (ru a1) (nI (st - 1)) + xWy (xYd st ho lg (st - 1)) pa)) t1) 0 u = xPo (fun t => sWt (ne a0) (ch a0) (nI t)) (fun t u => sWt (ne a0) (ch a0) (nI t) * sWt (ne a1) (ch a1) (nI u) * sPH st (xWh st ho pa lg 0) li (nI t) (sRide (ki a0) (ru a0) (nI (st - 1)) + xWy (xYd st ho lg (st - 1)) pa) (if nI u < a3 then 12 else nI u) (sRide (ki a1) (ru a1) (nI (st - 1)) + xWy (xYd st ho lg (st - 1)) pa)) (t1 + 1) := by have w := (nI_ltI (a := 12) (b := u) (by decide) (by omega)).mp c_5; rw [show u = 13 by omega]; have hw := i3.resolve_left (by omega); simp only [xPo]; rw [if_pos hw]
      rw [e9] at hl
      refine lv_iinc (v := nI (t1 + 1)) (lv' := [(9, .int (nI (t1 + 1))), (11, .int (nI u)), (10, .int (sWt (ne a0) (ch a0) (nI t1))), (8, .int (xPo (fun t => sWt (ne a0) (ch a0) (nI t)) (fun t u => sWt (ne a0) (ch a0) (nI t) * sWt (ne a1) (ch a1) (nI u) * sPH st (xWh st ho pa lg 0) li (nI t) (sRide (ki a0) (ru a0) (nI (st - 1)) + xWy (xYd st ho lg (st - 1)) pa) (if nI u < a3 then 12 else nI u) (sRide (ki a1) (ru a1) (nI (st - 1)) + xWy (xYd st ho lg (st - 1)) pa)) (t1 + 1))), (7, .int (sRide (ki a1) (ru a1) (nI (st - 1)) + xWy (xYd st ho lg (st - 1)) pa)), (6, .int (sRide (ki a0) (ru a0) (nI (st - 1)) + xWy (xYd st ho lg (st - 1)) pa)), (5, .ref (la a1)), (4, .ref (la a0)), (0, .ref h0), (1, .int (nI a0)), (2, .int (nI a1)), (3, .int a3)]) hx hb dX4_pairSum_130 hl (k := 2) rfl (nI_1 t1) (by decide) rfl (fun ls hl => ?_)
      refine lv_goto (tgt := 50) hx hb dX4_pairSum_133 (by decide) ?_
      have w : ¬ 12 < t1 := mt (nI_ltI (a := 12) (b := t1) (by decide) (by omega)).mpr c_3
      exact ih_50 (t1 + 1) _ ⟨lv_sub hl [0, 3, 4, 5, 6, 7, 8, 9, 10, 11] rfl, by (try dsimp only); exact ⟨by omega, by omega⟩⟩
    · refine lv_iload hx hb dX4_pairSum_76 (lv_at hl 1 rfl) ?_
      refine lv_if_le (tgt := 130) hx hb dX4_pairSum_78 (by decide) (fun c_6 => ?_) (fun c_6 => ?_)
      · have e9 : xAc2 (xPo (fun t => sWt (ne a0) (ch a0) (nI t)) (fun t u => sWt (ne a0) (ch a0) (nI t) * sWt (ne a1) (ch a1) (nI u) * sPH st (xWh st ho pa lg 0) li (nI t) (sRide (ki a0) (ru a0) (nI (st - 1)) + xWy (xYd st ho lg (st - 1)) pa) (if nI u < a3 then 12 else nI u) (sRide (ki a1) (ru a1) (nI (st - 1)) + xWy (xYd st ho lg (st - 1)) pa)) t1) ((fun t u => sWt (ne a0) (ch a0) (nI t) * sWt (ne a1) (ch a1) (nI u) * sPH st (xWh st ho pa lg 0) li (nI t) (sRide (ki a0) (ru a0) (nI (st - 1)) + xWy (xYd st ho lg (st - 1)) pa) (if nI u < a3 then 12 else nI u) (sRide (ki a1) (ru a1) (nI (st - 1)) + xWy (xYd st ho lg (st - 1)) pa)) t1) 0 u = xPo (fun t => sWt (ne a0) (ch a0) (nI t)) (fun t u => sWt (ne a0) (ch a0) (nI t) * sWt (ne a1) (ch a1) (nI u) * sPH st (xWh st ho pa lg 0) li (nI t) (sRide (ki a0) (ru a0) (nI (st - 1)) + xWy (xYd st ho lg (st - 1)) pa) (if nI u < a3 then 12 else nI u) (sRide (ki a1) (ru a1) (nI (st - 1)) + xWy (xYd st ho lg (st - 1)) pa)) (t1 + 1) := by have hu : u = 0 := i3.resolve_right (Int32.not_lt.mpr c_6); rw [hu]; simp only [xPo, xAc2]; rw [if_neg (Int32.not_lt.mpr c_6)]
        rw [e9] at hl
        refine lv_iinc (v := nI (t1 + 1)) (lv' := [(9, .int (nI (t1 + 1))), (11, .int (nI u)), (10, .int (sWt (ne a0) (ch a0) (nI t1))), (8, .int (xPo (fun t => sWt (ne a0) (ch a0) (nI t)) (fun t u => sWt (ne a0) (ch a0) (nI t) * sWt (ne a1) (ch a1) (nI u) * sPH st (xWh st ho pa lg 0) li (nI t) (sRide (ki a0) (ru a0) (nI (st - 1)) + xWy (xYd st ho lg (st - 1)) pa) (if nI u < a3 then 12 else nI u) (sRide (ki a1) (ru a1) (nI (st - 1)) + xWy (xYd st ho lg (st - 1)) pa)) (t1 + 1))), (7, .int (sRide (ki a1) (ru a1) (nI (st - 1)) + xWy (xYd st ho lg (st - 1)) pa)), (6, .int (sRide (ki a0) (ru a0) (nI (st - 1)) + xWy (xYd st ho lg (st - 1)) pa)), (5, .ref (la a1)), (4, .ref (la a0)), (0, .ref h0), (1, .int (nI a0)), (2, .int (nI a1)), (3, .int a3)]) hx hb dX4_pairSum_130 hl (k := 2) rfl (nI_1 t1) (by decide) rfl (fun ls hl => ?_)
        refine lv_goto (tgt := 50) hx hb dX4_pairSum_133 (by decide) ?_
        have w : ¬ 12 < t1 := mt (nI_ltI (a := 12) (b := t1) (by decide) (by omega)).mpr c_3
        exact ih_50 (t1 + 1) _ ⟨lv_sub hl [0, 3, 4, 5, 6, 7, 8, 9, 10, 11] rfl, by (try dsimp only); exact ⟨by omega, by omega⟩⟩
      · refine lv_iload hx hb dX4_pairSum_81 (lv_at hl 0 rfl) ?_
        refine lv_iload_n hx hb dX4_pairSum_83 rfl (lv_at hl 11 rfl) ?_
        refine lv_icmp_ge (tgt := 92) hx hb dX4_pairSum_84 (by decide) (fun c_7 => ?_) (fun c_7 => ?_)
        · refine lv_iload hx hb dX4_pairSum_92 (lv_at hl 0 rfl) ?_
          refine xv_int (y := if nI u < a3 then 12 else nI u) (by simp [(Int32.not_lt.mpr c_7)]) ?_
          refine lv_istore (lv' := [(12, .int (if nI u < a3 then 12 else nI u)), (11, .int (nI u)), (10, .int (sWt (ne a0) (ch a0) (nI t1))), (9, .int (nI t1)), (8, .int (xAc2 (xPo (fun t => sWt (ne a0) (ch a0) (nI t)) (fun t u => sWt (ne a0) (ch a0) (nI t) * sWt (ne a1) (ch a1) (nI u) * sPH st (xWh st ho pa lg 0) li (nI t) (sRide (ki a0) (ru a0) (nI (st - 1)) + xWy (xYd st ho lg (st - 1)) pa) (if nI u < a3 then 12 else nI u) (sRide (ki a1) (ru a1) (nI (st - 1)) + xWy (xYd st ho lg (st - 1)) pa)) t1) ((fun t u => sWt (ne a0) (ch a0) (nI t) * sWt (ne a1) (ch a1) (nI u) * sPH st (xWh st ho pa lg 0) li (nI t) (sRide (ki a0) (ru a0) (nI (st - 1)) + xWy (xYd st ho lg (st - 1)) pa) (if nI u < a3 then 12 else nI u) (sRide (ki a1) (ru a1) (nI (st - 1)) + xWy (xYd st ho lg (st - 1)) pa)) t1) 0 u)), (7, .int (sRide (ki a1) (ru a1) (nI (st - 1)) + xWy (xYd st ho lg (st - 1)) pa)), (6, .int (sRide (ki a0) (ru a0) (nI (st - 1)) + xWy (xYd st ho lg (st - 1)) pa)), (5, .ref (la a1)), (4, .ref (la a0)), (0, .ref h0), (1, .int (nI a0)), (2, .int (nI a1)), (3, .int a3)]) hx hb dX4_pairSum_94 hl (by decide) rfl (fun ls hl => ?_)
          refine lv_iload hx hb dX4_pairSum_96 (lv_at hl 4 rfl) ?_
          refine lv_iload hx hb dX4_pairSum_98 (lv_at hl 2 rfl) ?_
          refine lv_aload hx hb dX4_pairSum_100 (lv_at hl 7 rfl) ?_
          refine lv_iload hx hb dX4_pairSum_102 (lv_at hl 1 rfl) ?_
          have hPc := hPb.sub (ws' := [((la a1), .inr (0, [.int (ki a1), .int (ru a1), .int (ne a1), .ref (lk a1)])), ((lk a1), .inl (cI, 12, .inl (ch a1)))]) [0, 1] rfl
          refine vp_callSi (va_Run.run (va_runV (As := [.int (nI u)]) (rest := [.int (sWt (ne a0) (ch a0) (nI t1)), .int (xAc2 (xPo (fun t => sWt (ne a0) (ch a0) (nI t)) (fun t u => sWt (ne a0) (ch a0) (nI t) * sWt (ne a1) (ch a1) (nI u) * sPH st (xWh st ho pa lg 0) li (nI t) (sRide (ki a0) (ru a0) (nI (st - 1)) + xWy (xYd st ho lg (st - 1)) pa) (if nI u < a3 then 12 else nI u) (sRide (ki a1) (ru a1) (nI (st - 1)) + xWy (xYd st ho lg (st - 1)) pa)) t1) ((fun t u => sWt (ne a0) (ch a0) (nI t) * sWt (ne a1) (ch a1) (nI u) * sPH st (xWh st ho pa lg 0) li (nI t) (sRide (ki a0) (ru a0) (nI (st - 1)) + xWy (xYd st ho lg (st - 1)) pa) (if nI u < a3 then 12 else nI u) (sRide (ki a1) (ru a1) (nI (st - 1)) + xWy (xYd st ho lg (st - 1)) pa)) t1) 0 u)]) ⟨hx, hb, hml, hown, hts⟩ (g_X0_weight l D cI cL cZ cC (la a1) (lk a1) (ki a1) (ru a1) (ne a1) (ch a1) (nI u) ) (cwV 1 hts gX4_pairSum_X0_weight rfl rfl rfl (by decide +kernel) ⟨Nat.le_of_ble_eq_true rfl, Nat.le_of_ble_eq_true rfl⟩) ⟨xPc_bl, va_recv hK hPc (ci := 0) (q0 := 0) rfl rfl, xPc_use hPc hK⟩ rfl rfl hl.1 rfl (lv_room (Nat.le_of_ble_eq_true rfl)) dX4_pairSum_104 ⟨Nat.le_of_ble_eq_true rfl, Nat.le_of_ble_eq_true rfl⟩)) (fun r_8 er_8 => ?_)
          obtain rfl : (sWt (ne a1) (ch a1) (nI u) : Int32) = r_8 := Eq.symm er_8
          refine lv_imul hx hb dX4_pairSum_107 ?_
          refine lv_aload_n hx hb dX4_pairSum_108 rfl (lv_at hl 9 rfl) ?_
          refine lv_iload hx hb dX4_pairSum_109 (lv_at hl 3 rfl) ?_
          refine lv_iload hx hb dX4_pairSum_111 (lv_at hl 6 rfl) ?_
          refine lv_iload hx hb dX4_pairSum_113 (lv_at hl 0 rfl) ?_
          refine lv_iload hx hb dX4_pairSum_115 (lv_at hl 5 rfl) ?_
          have hPc := hP.sub (ws' := [(h0, .inr (4, [.ref rd, .ref dr, .ref kp, .ref pl, .ref tx, .ref nu, .ref rf_a, .int nc, .int hi, .int pd])), (rd, .inr (2, [.int (nI st), .int ho, .int pa, .int si, .int li, .int lc, .ref r0, .ref r1])), (r0, .inl (cI, 7, .inl lg))]) [0, 1, 2] rfl
          refine vp_callSi (va_Run.run (va_runV (As := [.int (nI t1), .int (sRide (ki a0) (ru a0) (nI (st - 1)) + xWy (xYd st ho lg (st - 1)) pa), .int (if nI u < a3 then 12 else nI u), .int (sRide (ki a1) (ru a1) (nI (st - 1)) + xWy (xYd st ho lg (st - 1)) pa)]) (rest := [.int ((sWt (ne a0) (ch a0) (nI t1)) * (sWt (ne a1) (ch a1) (nI u))), .int (xAc2 (xPo (fun t => sWt (ne a0) (ch a0) (nI t)) (fun t u => sWt (ne a0) (ch a0) (nI t) * sWt (ne a1) (ch a1) (nI u) * sPH st (xWh st ho pa lg 0) li (nI t) (sRide (ki a0) (ru a0) (nI (st - 1)) + xWy (xYd st ho lg (st - 1)) pa) (if nI u < a3 then 12 else nI u) (sRide (ki a1) (ru a1) (nI (st - 1)) + xWy (xYd st ho lg (st - 1)) pa)) t1) ((fun t u => sWt (ne a0) (ch a0) (nI t) * sWt (ne a1) (ch a1) (nI u) * sPH st (xWh st ho pa lg 0) li (nI t) (sRide (ki a0) (ru a0) (nI (st - 1)) + xWy (xYd st ho lg (st - 1)) pa) (if nI u < a3 then 12 else nI u) (sRide (ki a1) (ru a1) (nI (st - 1)) + xWy (xYd st ho lg (st - 1)) pa)) t1) 0 u)]) ⟨hx, hb, hml, hown, hts⟩ (g_X4_pairHome l D cI cL cZ cC h0 rd dr kp pl tx nu rf_a nc hi pd r0 r1 st ho pa si li lc lg (nI t1) (sRide (ki a0) (ru a0) (nI (st - 1)) + xWy (xYd st ho lg (st - 1)) pa) (if nI u < a3 then 12 else nI u) (sRide (ki a1) (ru a1) (nI (st - 1)) + xWy (xYd st ho lg (st - 1)) pa) (by first | assumption | decide +kernel) (by first | assumption | decide +kernel)) (cwV 4 hts gX4_pairSum_X4_pairHome rfl rfl rfl (by decide +kernel) ⟨Nat.le_of_ble_eq_true rfl, Nat.le_of_ble_eq_true rfl⟩) ⟨xPc_bl, va_recv hK hPc (ci := 4) (q0 := 0) rfl rfl, xPc_use hPc hK⟩ rfl rfl hl.1 rfl (lv_room (Nat.le_of_ble_eq_true rfl)) dX4_pairSum_117 ⟨Nat.le_of_ble_eq_true rfl, Nat.le_of_ble_eq_true rfl⟩)) (fun r_9 er_9 => ?_)
          obtain rfl : (sPH st (xWh st ho pa lg 0) li (nI t1) (sRide (ki a0) (ru a0) (nI (st - 1)) + xWy (xYd st ho lg (st - 1)) pa) (if nI u < a3 then 12 else nI u) (sRide (ki a1) (ru a1) (nI (st - 1)) + xWy (xYd st ho lg (st - 1)) pa) : Int32) = r_9 := Eq.symm er_9
          refine lv_imul hx hb dX4_pairSum_120 ?_
          refine lv_iadd hx hb dX4_pairSum_121 ?_
          refine xv_int (y := xAc2 (xPo (fun t => sWt (ne a0) (ch a0) (nI t)) (fun t u => sWt (ne a0) (ch a0) (nI t) * sWt (ne a1) (ch a1) (nI u) * sPH st (xWh st ho pa lg 0) li (nI t) (sRide (ki a0) (ru a0) (nI (st - 1)) + xWy (xYd st ho lg (st - 1)) pa) (if nI u < a3 then 12 else nI u) (sRide (ki a1) (ru a1) (nI (st - 1)) + xWy (xYd st ho lg (st - 1)) pa)) t1) ((fun t u => sWt (ne a0) (ch a0) (nI t) * sWt (ne a1) (ch a1) (nI u) * sPH st (xWh st ho pa lg 0) li (nI t) (sRide (ki a0) (ru a0) (nI (st - 1)) + xWy (xYd st ho lg (st - 1)) pa) (if nI u < a3 then 12 else nI u) (sRide (ki a1) (ru a1) (nI (st - 1)) + xWy (xYd st ho lg (st - 1)) pa)) t1) 0 (u + 1)) (by simp only [xAc2, Nat.zero_add]) ?_
          refine lv_istore (lv' := [(8, .int (xAc2 (xPo (fun t => sWt (ne a0) (ch a0) (nI t)) (fun t u => sWt (ne a0) (ch a0) (nI t) * sWt (ne a1) (ch a1) (nI u) * sPH st (xWh st ho pa lg 0) li (nI t) (sRide (ki a0) (ru a0) (nI (st - 1)) + xWy (xYd st ho lg (st - 1)) pa) (if nI u < a3 then 12 else nI u) (sRide (ki a1) (ru a1) (nI (st - 1)) + xWy (xYd st ho lg (st - 1)) pa)) t1) ((fun t u => sWt (ne a0) (ch a0) (nI t) * sWt (ne a1) (ch a1) (nI u) * sPH st (xWh st ho pa lg 0) li (nI t) (sRide (ki a0) (ru a0) (nI (st - 1)) + xWy (xYd st ho lg (st - 1)) pa) (if nI u < a3 then 12 else nI u) (sRide (ki a1) (ru a1) (nI (st - 1)) + xWy (xYd st ho lg (st - 1)) pa)) t1) 0 (u + 1))), (12, .int (if nI u < a3 then 12 else nI u)), (11, .int (nI u)), (10, .int (sWt (ne a0) (ch a0) (nI t1))), (9, .int (nI t1)), (7, .int (sRide (ki a1) (ru a1) (nI (st - 1)) + xWy (xYd st ho lg (st - 1)) pa)), (6, .int (sRide (ki a0) (ru a0) (nI (st - 1)) + xWy (xYd st ho lg (st - 1)) pa)), (5, .ref (la a1)), (4, .ref (la a0)), (0, .ref h0), (1, .int (nI a0)), (2, .int (nI a1)), (3, .int a3)]) hx hb dX4_pairSum_122 hl (by decide) rfl (fun ls hl => ?_)
          refine lv_iinc (v := nI (u + 1)) (lv' := [(11, .int (nI (u + 1))), (8, .int (xAc2 (xPo (fun t => sWt (ne a0) (ch a0) (nI t)) (fun t u => sWt (ne a0) (ch a0) (nI t) * sWt (ne a1) (ch a1) (nI u) * sPH st (xWh st ho pa lg 0) li (nI t) (sRide (ki a0) (ru a0) (nI (st - 1)) + xWy (xYd st ho lg (st - 1)) pa) (if nI u < a3 then 12 else nI u) (sRide (ki a1) (ru a1) (nI (st - 1)) + xWy (xYd st ho lg (st - 1)) pa)) t1) ((fun t u => sWt (ne a0) (ch a0) (nI t) * sWt (ne a1) (ch a1) (nI u) * sPH st (xWh st ho pa lg 0) li (nI t) (sRide (ki a0) (ru a0) (nI (st - 1)) + xWy (xYd st ho lg (st - 1)) pa) (if nI u < a3 then 12 else nI u) (sRide (ki a1) (ru a1) (nI (st - 1)) + xWy (xYd st ho lg (st - 1)) pa)) t1) 0 (u + 1))), (12, .int (if nI u < a3 then 12 else nI u)), (10, .int (sWt (ne a0) (ch a0) (nI t1))), (9, .int (nI t1)), (7, .int (sRide (ki a1) (ru a1) (nI (st - 1)) + xWy (xYd st ho lg (st - 1)) pa)), (6, .int (sRide (ki a0) (ru a0) (nI (st - 1)) + xWy (xYd st ho lg (st - 1)) pa)), (5, .ref (la a1)), (4, .ref (la a0)), (0, .ref h0), (1, .int (nI a0)), (2, .int (nI a1)), (3, .int a3)]) hx hb dX4_pairSum_124 hl (k := 2) rfl (nI_1 u) (by decide) rfl (fun ls hl => ?_)
          refine lv_goto (tgt := 69) hx hb dX4_pairSum_127 (by decide) ?_
          have w : ¬ 12 < u := mt (nI_ltI (a := 12) (b := u) (by decide) (by omega)).mpr c_5
          exact ih_69 (u + 1) _ ⟨lv_sub hl [0, 3, 4, 1, 5, 6, 7, 8, 9, 10, 11, 12] rfl, by (try dsimp only); exact ⟨by omega, by omega, Or.inr (Int32.not_le.mp c_6)⟩⟩
        · refine lv_bipush (v := 12) hx hb dX4_pairSum_87 (by decide) ?_
          refine lv_goto (tgt := 94) hx hb dX4_pairSum_89 (by decide) ?_
          refine xv_int (y := if nI u < a3 then 12 else nI u) (by simp [(Int32.not_le.mp c_7)]) ?_
          refine lv_istore (lv' := [(12, .int (if nI u < a3 then 12 else nI u)), (11, .int (nI u)), (10, .int (sWt (ne a0) (ch a0) (nI t1))), (9, .int (nI t1)), (8, .int (xAc2 (xPo (fun t => sWt (ne a0) (ch a0) (nI t)) (fun t u => sWt (ne a0) (ch a0) (nI t) * sWt (ne a1) (ch a1) (nI u) * sPH st (xWh st ho pa lg 0) li (nI t) (sRide (ki a0) (ru a0) (nI (st - 1)) + xWy (xYd st ho lg (st - 1)) pa) (if nI u < a3 then 12 else nI u) (sRide (ki a1) (ru a1) (nI (st - 1)) + xWy (xYd st ho lg (st - 1)) pa)) t1) ((fun t u => sWt (ne a0) (ch a0) (nI t) * sWt (ne a1) (ch a1) (nI u) * sPH st (xWh st ho pa lg 0) li (nI t) (sRide (ki a0) (ru a0) (nI (st - 1)) + xWy (xYd st ho lg (st - 1)) pa) (if nI u < a3 then 12 else nI u) (sRide (ki a1) (ru a1) (nI (st - 1)) + xWy (xYd st ho lg (st - 1)) pa)) t1) 0 u)), (7, .int (sRide (ki a1) (ru a1) (nI (st - 1)) + xWy (xYd st ho lg (st - 1)) pa)), (6, .int (sRide (ki a0) (ru a0) (nI (st - 1)) + xWy (xYd st ho lg (st - 1)) pa)), (5, .ref (la a1)), (4, .ref (la a0)), (0, .ref h0), (1, .int (nI a0)), (2, .int (nI a1)), (3, .int a3)]) hx hb dX4_pairSum_94 hl (by decide) rfl (fun ls hl => ?_)
          refine lv_iload hx hb dX4_pairSum_96 (lv_at hl 4 rfl) ?_
          refine lv_iload hx hb dX4_pairSum_98 (lv_at hl 2 rfl) ?_
          refine lv_aload hx hb dX4_pairSum_100 (lv_at hl 7 rfl) ?_
          refine lv_iload hx hb dX4_pairSum_102 (lv_at hl 1 rfl) ?_
          have hPc := hPb.sub (ws' := [((la a1), .inr (0, [.int (ki a1), .int (ru a1), .int (ne a1), .ref (lk a1)])), ((lk a1), .inl (cI, 12, .inl (ch a1)))]) [0, 1] rfl
          refine vp_callSi (va_Run.run (va_runV (As := [.int (nI u)]) (rest := [.int (sWt (ne a0) (ch a0) (nI t1)), .int (xAc2 (xPo (fun t => sWt (ne a0) (ch a0) (nI t)) (fun t u => sWt (ne a0) (ch a0) (nI t) * sWt (ne a1) (ch a1) (nI u) * sPH st (xWh st ho pa lg 0) li (nI t) (sRide (ki a0) (ru a0) (nI (st - 1)) + xWy (xYd st ho lg (st - 1)) pa) (if nI u < a3 then 12 else nI u) (sRide (ki a1) (ru a1) (nI (st - 1)) + xWy (xYd st ho lg (st - 1)) pa)) t1) ((fun t u => sWt (ne a0) (ch a0) (nI t) * sWt (ne a1) (ch a1) (nI u) * sPH st (xWh st ho pa lg 0) li (nI t) (sRide (ki a0) (ru a0) (nI (st - 1)) + xWy (xYd st ho lg (st - 1)) pa) (if nI u < a3 then 12 else nI u) (sRide (ki a1) (ru a1) (nI (st - 1)) + xWy (xYd st ho lg (st - 1)) pa)) t1) 0 u)]) ⟨hx, hb, hml, hown, hts⟩ (g_X0_weight l D cI cL cZ cC (la a1) (lk a1) (ki a1) (ru a1) (ne a1) (ch a1) (nI u) ) (cwV 1 hts gX4_pairSum_X0_weight rfl rfl rfl (by decide +kernel) ⟨Nat.le_of_ble_eq_true rfl, Nat.le_of_ble_eq_true rfl⟩) ⟨xPc_bl, va_recv hK hPc (ci := 0) (q0 := 0) rfl rfl, xPc_use hPc hK⟩ rfl rfl hl.1 rfl (lv_room (Nat.le_of_ble_eq_true rfl)) dX4_pairSum_104 ⟨Nat.le_of_ble_eq_true rfl, Nat.le_of_ble_eq_true rfl⟩)) (fun r_10 er_10 => ?_)
          obtain rfl : (sWt (ne a1) (ch a1) (nI u) : Int32) = r_10 := Eq.symm er_10
          refine lv_imul hx hb dX4_pairSum_107 ?_
          refine lv_aload_n hx hb dX4_pairSum_108 rfl (lv_at hl 9 rfl) ?_
          refine lv_iload hx hb dX4_pairSum_109 (lv_at hl 3 rfl) ?_
          refine lv_iload hx hb dX4_pairSum_111 (lv_at hl 6 rfl) ?_
          refine lv_iload hx hb dX4_pairSum_113 (lv_at hl 0 rfl) ?_
          refine lv_iload hx hb dX4_pairSum_115 (lv_at hl 5 rfl) ?_
          have hPc := hP.sub (ws' := [(h0, .inr (4, [.ref rd, .ref dr, .ref kp, .ref pl, .ref tx, .ref nu, .ref rf_a, .int nc, .int hi, .int pd])), (rd, .inr (2, [.int (nI st), .int ho, .int pa, .int si, .int li, .int lc, .ref r0, .ref r1])), (r0, .inl (cI, 7, .inl lg))]) [0, 1, 2] rfl
          refine vp_callSi (va_Run.run (va_runV (As := [.int (nI t1), .int (sRide (ki a0) (ru a0) (nI (st - 1)) + xWy (xYd st ho lg (st - 1)) pa), .int (if nI u < a3 then 12 else nI u), .int (sRide (ki a1) (ru a1) (nI (st - 1)) + xWy (xYd st ho lg (st - 1)) pa)]) (rest := [.int ((sWt (ne a0) (ch a0) (nI t1)) * (sWt (ne a1) (ch a1) (nI u))), .int (xAc2 (xPo (fun t => sWt (ne a0) (ch a0) (nI t)) (fun t u => sWt (ne a0) (ch a0) (nI t) * sWt (ne a1) (ch a1) (nI u) * sPH st (xWh st ho pa lg 0) li (nI t) (sRide (ki a0) (ru a0) (nI (st - 1)) + xWy (xYd st ho lg (st - 1)) pa) (if nI u < a3 then 12 else nI u) (sRide (ki a1) (ru a1) (nI (st - 1)) + xWy (xYd st ho lg (st - 1)) pa)) t1) ((fun t u => sWt (ne a0) (ch a0) (nI t) * sWt (ne a1) (ch a1) (nI u) * sPH st (xWh st ho pa lg 0) li (nI t) (sRide (ki a0) (ru a0) (nI (st - 1)) + xWy (xYd st ho lg (st - 1)) pa) (if nI u < a3 then 12 else nI u) (sRide (ki a1) (ru a1) (nI (st - 1)) + xWy (xYd st ho lg (st - 1)) pa)) t1) 0 u)]) ⟨hx, hb, hml, hown, hts⟩ (g_X4_pairHome l D cI cL cZ cC h0 rd dr kp pl tx nu rf_a nc hi pd r0 r1 st ho pa si li lc lg (nI t1) (sRide (ki a0) (ru a0) (nI (st - 1)) + xWy (xYd st ho lg (st - 1)) pa) (if nI u < a3 then 12 else nI u) (sRide (ki a1) (ru a1) (nI (st - 1)) + xWy (xYd st ho lg (st - 1)) pa) (by first | assumption | decide +kernel) (by first | assumption | decide +kernel)) (cwV 4 hts gX4_pairSum_X4_pairHome rfl rfl rfl (by decide +kernel) ⟨Nat.le_of_ble_eq_true rfl, Nat.le_of_ble_eq_true rfl⟩) ⟨xPc_bl, va_recv hK hPc (ci := 4) (q0 := 0) rfl rfl, xPc_use hPc hK⟩ rfl rfl hl.1 rfl (lv_room (Nat.le_of_ble_eq_true rfl)) dX4_pairSum_117 ⟨Nat.le_of_ble_eq_true rfl, Nat.le_of_ble_eq_true rfl⟩)) (fun r_11 er_11 => ?_)
          obtain rfl : (sPH st (xWh st ho pa lg 0) li (nI t1) (sRide (ki a0) (ru a0) (nI (st - 1)) + xWy (xYd st ho lg (st - 1)) pa) (if nI u < a3 then 12 else nI u) (sRide (ki a1) (ru a1) (nI (st - 1)) + xWy (xYd st ho lg (st - 1)) pa) : Int32) = r_11 := Eq.symm er_11
          refine lv_imul hx hb dX4_pairSum_120 ?_
          refine lv_iadd hx hb dX4_pairSum_121 ?_
          refine xv_int (y := xAc2 (xPo (fun t => sWt (ne a0) (ch a0) (nI t)) (fun t u => sWt (ne a0) (ch a0) (nI t) * sWt (ne a1) (ch a1) (nI u) * sPH st (xWh st ho pa lg 0) li (nI t) (sRide (ki a0) (ru a0) (nI (st - 1)) + xWy (xYd st ho lg (st - 1)) pa) (if nI u < a3 then 12 else nI u) (sRide (ki a1) (ru a1) (nI (st - 1)) + xWy (xYd st ho lg (st - 1)) pa)) t1) ((fun t u => sWt (ne a0) (ch a0) (nI t) * sWt (ne a1) (ch a1) (nI u) * sPH st (xWh st ho pa lg 0) li (nI t) (sRide (ki a0) (ru a0) (nI (st - 1)) + xWy (xYd st ho lg (st - 1)) pa) (if nI u < a3 then 12 else nI u) (sRide (ki a1) (ru a1) (nI (st - 1)) + xWy (xYd st ho lg (st - 1)) pa)) t1) 0 (u + 1)) (by simp only [xAc2, Nat.zero_add]) ?_
          refine lv_istore (lv' := [(8, .int (xAc2 (xPo (fun t => sWt (ne a0) (ch a0) (nI t)) (fun t u => sWt (ne a0) (ch a0) (nI t) * sWt (ne a1) (ch a1) (nI u) * sPH st (xWh st ho pa lg 0) li (nI t) (sRide (ki a0) (ru a0) (nI (st - 1)) + xWy (xYd st ho lg (st - 1)) pa) (if nI u < a3 then 12 else nI u) (sRide (ki a1) (ru a1) (nI (st - 1)) + xWy (xYd st ho lg (st - 1)) pa)) t1) ((fun t u => sWt (ne a0) (ch a0) (nI t) * sWt (ne a1) (ch a1) (nI u) * sPH st (xWh st ho pa lg 0) li (nI t) (sRide (ki a0) (ru a0) (nI (st - 1)) + xWy (xYd st ho lg (st - 1)) pa) (if nI u < a3 then 12 else nI u) (sRide (ki a1) (ru a1) (nI (st - 1)) + xWy (xYd st ho lg (st - 1)) pa)) t1) 0 (u + 1))), (12, .int (if nI u < a3 then 12 else nI u)), (11, .int (nI u)), (10, .int (sWt (ne a0) (ch a0) (nI t1))), (9, .int (nI t1)), (7, .int (sRide (ki a1) (ru a1) (nI (st - 1)) + xWy (xYd st ho lg (st - 1)) pa)), (6, .int (sRide (ki a0) (ru a0) (nI (st - 1)) + xWy (xYd st ho lg (st - 1)) pa)), (5, .ref (la a1)), (4, .ref (la a0)), (0, .ref h0), (1, .int (nI a0)), (2, .int (nI a1)), (3, .int a3)]) hx hb dX4_pairSum_122 hl (by decide) rfl (fun ls hl => ?_)
          refine lv_iinc (v := nI (u + 1)) (lv' := [(11, .int (nI (u + 1))), (8, .int (xAc2 (xPo (fun t => sWt (ne a0) (ch a0) (nI t)) (fun t u => sWt (ne a0) (ch a0) (nI t) * sWt (ne a1) (ch a1) (nI u) * sPH st (xWh st ho pa lg 0) li (nI t) (sRide (ki a0) (ru a0) (nI (st - 1)) + xWy (xYd st ho lg (st - 1)) pa) (if nI u < a3 then 12 else nI u) (sRide (ki a1) (ru a1) (nI (st - 1)) + xWy (xYd st ho lg (st - 1)) pa)) t1) ((fun t u => sWt (ne a0) (ch a0) (nI t) * sWt (ne a1) (ch a1) (nI u) * sPH st (xWh st ho pa lg 0) li (nI t) (sRide (ki a0) (ru a0) (nI (st - 1)) + xWy (xYd st ho lg (st - 1)) pa) (if nI u < a3 then 12 else nI u) (sRide (ki a1) (ru a1) (nI (st - 1)) + xWy (xYd st ho lg (st - 1)) pa)) t1) 0 (u + 1))), (12, .int (if nI u < a3 then 12 else nI u)), (10, .int (sWt (ne a0) (ch a0) (nI t1))), (9, .int (nI t1)), (7, .int (sRide (ki a1) (ru a1) (nI (st - 1)) + xWy (xYd st ho lg (st - 1)) pa)), (6, .int (sRide (ki a0) (ru a0) (nI (st - 1)) + xWy (xYd st ho lg (st - 1)) pa)), (5, .ref (la a1)), (4, .ref (la a0)), (0, .ref h0), (1, .int (nI a0)), (2, .int (nI a1)), (3, .int a3)]) hx hb dX4_pairSum_124 hl (k := 2) rfl (nI_1 u) (by decide) rfl (fun ls hl => ?_)
          refine lv_goto (tgt := 69) hx hb dX4_pairSum_127 (by decide) ?_
          have w : ¬ 12 < u := mt (nI_ltI (a := 12) (b := u) (by decide) (by omega)).mpr c_5
          exact ih_69 (u + 1) _ ⟨lv_sub hl [0, 3, 4, 1, 5, 6, 7, 8, 9, 10, 11, 12] rfl, by (try dsimp only); exact ⟨by omega, by omega, Or.inr (Int32.not_le.mp c_6)⟩⟩

set_option maxHeartbeats 4000000 in
set_option maxRecDepth 100000 in
theorem g_X3_at (l : Launch) (D : va_G) (cI cL cZ cC : ClassId) (tx : Nat) (t0 : Nat) (len : Nat) (lt : Nat → Int32) (p0 : Nat) (hl96 : len ≤ 96) (hp : p0 ≤ 500) : Met l yX3_at wsX3_at ({ frames := 0, cells := 0, slots := 0, locals := 0 } : Room) (xPc D [.ref tx, .int (nI p0)] [(tx, .inr (3, [.ref t0, .int (nI len)])), (t0, .inl (cI, 96, .inl lt))] (xTy cI cL cZ cC)) (vp_Si (fun r : Int32 => r = xAt lt len p0)) 0 0 (fun _ => False) := by
  refine Met.ofW (cc := cX3_at) (maxL := 2) (ret := (some .int)) (by decide) rfl ?_
  intro p e s m args below meth c s₁ B hml hv
  obtain ⟨rfl, hP, hK⟩ := hv
  have hx := B.exec
  have hb := B.bytes
  have hr := B.returns
  have hts := atoms_spec (ws := wsX3_at) B.pre
  have hown : s.vm.findClass RX3 = some m.cls := findClass_of_methodNamed B.named
  have hlocks := B.notSynchronized
  have hwX3 : ∀ w ∈ u_ws RX3 TX3 2, w ∈ wsX3_at := fun _ h => List.mem_cons_of_mem _ (List.mem_append_right _ h)
  have hl := lv_entry ([.ref tx, .int (nI p0)]) (n := 2) (Nat.le_of_ble_eq_true rfl)
  rw [lg_entry_eq]
  generalize (lg_sl ([.ref tx, .int (nI p0)]) ++ List.replicate (2 - (lg_sl ([.ref tx, .int (nI p0)])).length) Slot.unset).toArray = ls at hl ⊢
  have hl : lv_has ls 2 [(0, .ref tx), (1, .int (nI p0))] := hl
  refine lv_iload_n hx hb dX3_at_0 rfl (lv_at hl 1 rfl) ?_
  refine lv_if_lt (tgt := 21) hx hb dX3_at_1 (by decide) (fun c_1 => absurd c_1 (nI_pos (by omega))) (fun c_1 => ?_)
  refine lv_iload_n hx hb dX3_at_4 rfl (lv_at hl 1 rfl) ?_
  refine lv_aload_n hx hb dX3_at_5 rfl (lv_at hl 0 rfl) ?_
  refine va_get (D := D) (ci := 3) (v := .int (nI len)) (C := RX3) (T := TX3) (N := 2) hx hb hts hwX3 hown hK hP 0 rfl rfl 1 (by decide) (hts (.fieldLink RX3 15 "WaitOrWalkOn$Text" "length" "I") (by decide +kernel)) (fun _ h9 => h9) rfl dX3_at_6 ?_
  refine lv_icmp_ge (tgt := 21) hx hb dX3_at_9 (by decide) (fun c_2 => ?_) (fun c_2 => ?_)
  · refine lv_iconst (v := -1) hx hb dX3_at_21 (by decide) ?_
    exact W.iret (v := -1) hx hb hr (fun t ht hW => ⟨_, rfl, (by have w := mt (nI_ltI (a := p0) (b := len) (by omega) (by omega)).mpr (Int32.not_lt.mpr c_2); exact (if_neg w).symm), ht⟩) (fun _ h => absurd h List.not_mem_nil) dX3_at_22
  · refine lv_aload_n hx hb dX3_at_12 rfl (lv_at hl 0 rfl) ?_
    refine va_get (D := D) (ci := 3) (v := .ref t0) (C := RX3) (T := TX3) (N := 2) hx hb hts hwX3 hown hK hP 0 rfl rfl 0 (by decide) (hts (.fieldLink RX3 9 "WaitOrWalkOn$Text" "letters" "[I") (by decide +kernel)) (fun _ h9 => h9) rfl dX3_at_13 ?_
    refine lv_iload_n hx hb dX3_at_16 rfl (lv_at hl 1 rfl) ?_
    refine va_iald (D := D) hx hb hK hP 1 0 rfl rfl (vp_in_nI (by have w := (nI_ltI (a := p0) (b := len) (by omega) (by omega)).mp (Int32.not_le.mp c_2); omega) (by decide)) dX3_at_17 ?_
    refine xv_int (y := lt p0) (by rw [nI_clamp (by omega)]) ?_
    refine lv_goto (tgt := 22) hx hb dX3_at_18 (by decide) ?_
    exact W.iret (v := lt p0) hx hb hr (fun t ht hW => ⟨_, rfl, (by have w := (nI_ltI (a := p0) (b := len) (by omega) (by omega)).mp (Int32.not_le.mp c_2); exact (if_pos w).symm), ht⟩) (fun _ h => absurd h List.not_mem_nil) dX3_at_22

set_option maxHeartbeats 4000000 in
set_option maxRecDepth 100000 in
theorem g_X3_isDigit (l : Launch) (D : va_G) (cI cL cZ cC : ClassId) (tx : Nat) (t0 : Nat) (len : Nat) (lt : Nat → Int32) (p0 : Nat) (hl96 : len ≤ 96) (hp : p0 ≤ 500) : Met l yX3_isDigit wsX3_isDigit ({ frames := 1, cells := 0, slots := 0, locals := 21 } : Room) (xPc D [.ref tx, .int (nI p0)] [(tx, .inr (3, [.ref t0, .int (nI len)])), (t0, .inl (cI, 96, .inl lt))] (xTy cI cL cZ cC)) (vp_Si (fun r : Int32 => r = xIsD lt len p0)) 0 0 (fun _ => False) := by
  refine Met.ofW (cc := cX3_isDigit) (maxL := 2) (ret := (some .boolean)) (by decide) rfl ?_
  intro p e s m args below meth c s₁ B hml hv
  obtain ⟨rfl, hP, hK⟩ := hv
  have hx := B.exec
  have hb := B.bytes
  have hr := B.returns
  have hts := atoms_spec (ws := wsX3_isDigit) B.pre
  have hown : s.vm.findClass RX3 = some m.cls := findClass_of_methodNamed B.named
  have hlocks := B.notSynchronized
  have hl := lv_entry ([.ref tx, .int (nI p0)]) (n := 2) (Nat.le_of_ble_eq_true rfl)
  rw [lg_entry_eq]
  generalize (lg_sl ([.ref tx, .int (nI p0)]) ++ List.replicate (2 - (lg_sl ([.ref tx, .int (nI p0)])).length) Slot.unset).toArray = ls at hl ⊢
  have hl : lv_has ls 2 [(0, .ref tx), (1, .int (nI p0))] := hl
  refine lv_aload_n hx hb dX3_isDigit_0 rfl (lv_at hl 0 rfl) ?_
  refine lv_iload_n hx hb dX3_isDigit_1 rfl (lv_at hl 1 rfl) ?_
  have hPc := hP.sub (ws' := [(tx, .inr (3, [.ref t0, .int (nI len)])), (t0, .inl (cI, 96, .inl lt))]) [0, 1] rfl
  refine vp_callSi (va_Run.run (va_runV (As := [.int (nI p0)]) (rest := []) ⟨hx, hb, hml, hown, hts⟩ (g_X3_at l D cI cL cZ cC tx t0 len lt p0 (by first | assumption | decide +kernel) (by first | assumption | decide +kernel)) (cwV 1 hts gX3_isDigit_X3_at rfl rfl rfl (by decide +kernel) ⟨Nat.le_of_ble_eq_true rfl, Nat.le_of_ble_eq_true rfl⟩) ⟨xPc_bl, va_recv hK hPc (ci := 3) (q0 := 0) rfl rfl, xPc_use hPc hK⟩ rfl rfl hl.1 rfl (lv_room (Nat.le_of_ble_eq_true rfl)) dX3_isDigit_2 ⟨Nat.le_of_ble_eq_true rfl, Nat.le_of_ble_eq_true rfl⟩)) (fun r_1 er_1 => ?_)
  obtain rfl : (xAt lt len p0 : Int32) = r_1 := Eq.symm er_1
  refine lv_bipush (v := 48) hx hb dX3_isDigit_5 (by decide) ?_
  refine lv_icmp_lt (tgt := 24) hx hb dX3_isDigit_7 (by decide) (fun c_2 => ?_) (fun c_2 => ?_)
  · refine lv_iconst (v := 0) hx hb dX3_isDigit_24 (by decide) ?_
    exact W.zret (v := 0) (ty := .boolean) hx hb hr (by decide +kernel) (fun t ht hW => ⟨_, rfl, by simp [xIsD, c_2], ht⟩) (fun _ h => absurd h List.not_mem_nil) dX3_isDigit_25
  · refine lv_aload_n hx hb dX3_isDigit_10 rfl (lv_at hl 0 rfl) ?_
    refine lv_iload_n hx hb dX3_isDigit_11 rfl (lv_at hl 1 rfl) ?_
    have hPc := hP.sub (ws' := [(tx, .inr (3, [.ref t0, .int (nI len)])), (t0, .inl (cI, 96, .inl lt))]) [0, 1] rfl
    refine vp_callSi (va_Run.run (va_runV (As := [.int (nI p0)]) (rest := []) ⟨hx, hb, hml, hown, hts⟩ (g_X3_at l D cI cL cZ cC tx t0 len lt p0 (by first | assumption | decide +kernel) (by first | assumption | decide +kernel)) (cwV 1 hts gX3_isDigit_X3_at rfl rfl rfl (by decide +kernel) ⟨Nat.le_of_ble_eq_true rfl, Nat.le_of_ble_eq_true rfl⟩) ⟨xPc_bl, va_recv hK hPc (ci := 3) (q0 := 0) rfl rfl, xPc_use hPc hK⟩ rfl rfl hl.1 rfl (lv_room (Nat.le_of_ble_eq_true rfl)) dX3_isDigit_12 ⟨Nat.le_of_ble_eq_true rfl, Nat.le_of_ble_eq_true rfl⟩)) (fun r_3 er_3 => ?_)
    obtain rfl : (xAt lt len p0 : Int32) = r_3 := Eq.symm er_3
    refine lv_bipush (v := 57) hx hb dX3_isDigit_15 (by decide) ?_
    refine lv_icmp_gt (tgt := 24) hx hb dX3_isDigit_17 (by decide) (fun c_4 => ?_) (fun c_4 => ?_)
    · refine lv_iconst (v := 0) hx hb dX3_isDigit_24 (by decide) ?_
      exact W.zret (v := 0) (ty := .boolean) hx hb hr (by decide +kernel) (fun t ht hW => ⟨_, rfl, by simp [xIsD, c_2, c_4], ht⟩) (fun _ h => absurd h List.not_mem_nil) dX3_isDigit_25
    · refine lv_iconst (v := 1) hx hb dX3_isDigit_20 (by decide) ?_
      refine lv_goto (tgt := 25) hx hb dX3_isDigit_21 (by decide) ?_
      exact W.zret (v := 1) (ty := .boolean) hx hb hr (by decide +kernel) (fun t ht hW => ⟨_, rfl, by simp [xIsD, c_2, c_4], ht⟩) (fun _ h => absurd h List.not_mem_nil) dX3_isDigit_25

set_option maxHeartbeats 4000000 in
set_option maxRecDepth 100000 in
theorem g_X3_digitsPlace (l : Launch) (D : va_G) (cI cL cZ cC : ClassId) (tx : Nat) (t0 : Nat) (len : Nat) (lt : Nat → Int32) (p0 : Nat) (hl96 : len ≤ 96) (hp : p0 ≤ 500) : Met l yX3_digitsPlace wsX3_digitsPlace ({ frames := 1, cells := 0, slots := 0, locals := 21 } : Room) (xPc D [.ref tx, .int (nI p0)] [(tx, .inr (3, [.ref t0, .int (nI len)])), (t0, .inl (cI, 96, .inl lt))] (xTy cI cL cZ cC)) (vp_Si (fun r : Int32 => r = nI (xDp lt len p0))) 0 0 (fun _ => False) := by
  refine Met.ofW (cc := cX3_digitsPlace) (maxL := 2) (ret := (some .int)) (by decide) rfl ?_
  intro p e s m args below meth c s₁ B hml hv
  obtain ⟨rfl, hP, hK⟩ := hv
  have hx := B.exec
  have hb := B.bytes
  have hr := B.returns
  have hts := atoms_spec (ws := wsX3_digitsPlace) B.pre
  have hown : s.vm.findClass RX3 = some m.cls := findClass_of_methodNamed B.named
  have hlocks := B.notSynchronized
  have hl := lv_entry ([.ref tx, .int (nI p0)]) (n := 2) (Nat.le_of_ble_eq_true rfl)
  rw [lg_entry_eq]
  generalize (lg_sl ([.ref tx, .int (nI p0)]) ++ List.replicate (2 - (lg_sl ([.ref tx, .int (nI p0)])).length) Slot.unset).toArray = ls at hl ⊢
  have hl : lv_has ls 2 [(0, .ref tx), (1, .int (nI p0))] := hl
  refine lv_aload_n hx hb dX3_digitsPlace_0 rfl (lv_at hl 0 rfl) ?_
  refine lv_iload_n hx hb dX3_digitsPlace_1 rfl (lv_at hl 1 rfl) ?_
  have hPc := hP.sub (ws' := [(tx, .inr (3, [.ref t0, .int (nI len)])), (t0, .inl (cI, 96, .inl lt))]) [0, 1] rfl
  refine vp_callSi (va_Run.run (va_runV (As := [.int (nI p0)]) (rest := []) ⟨hx, hb, hml, hown, hts⟩ (g_X3_at l D cI cL cZ cC tx t0 len lt p0 (by first | assumption | decide +kernel) (by first | assumption | decide +kernel)) (cwV 1 hts gX3_digitsPlace_X3_at rfl rfl rfl (by decide +kernel) ⟨Nat.le_of_ble_eq_true rfl, Nat.le_of_ble_eq_true rfl⟩) ⟨xPc_bl, va_recv hK hPc (ci := 3) (q0 := 0) rfl rfl, xPc_use hPc hK⟩ rfl rfl hl.1 rfl (lv_room (Nat.le_of_ble_eq_true rfl)) dX3_digitsPlace_2 ⟨Nat.le_of_ble_eq_true rfl, Nat.le_of_ble_eq_true rfl⟩)) (fun r_1 er_1 => ?_)
  obtain rfl : (xAt lt len p0 : Int32) = r_1 := Eq.symm er_1
  refine lv_bipush (v := 108) hx hb dX3_digitsPlace_5 (by decide) ?_
  refine lv_icmp_ne (tgt := 16) hx hb dX3_digitsPlace_7 (by decide) (fun c_2 => ?_) (fun c_2 => ?_)
  · refine lv_iload_n hx hb dX3_digitsPlace_16 rfl (lv_at hl 1 rfl) ?_
    refine lv_iconst (v := 1) hx hb dX3_digitsPlace_17 (by decide) ?_
    refine lv_iadd hx hb dX3_digitsPlace_18 ?_
    refine xv_int (y := nI (p0 + 1)) (nI_1 p0) ?_
    exact W.iret (v := nI (p0 + 1)) hx hb hr (fun t ht hW => ⟨_, rfl, (congrArg nI (if_neg c_2).symm), ht⟩) (fun _ h => absurd h List.not_mem_nil) dX3_digitsPlace_19
  · refine lv_iload_n hx hb dX3_digitsPlace_10 rfl (lv_at hl 1 rfl) ?_
    refine lv_iconst (v := 2) hx hb dX3_digitsPlace_11 (by decide) ?_
    refine lv_iadd hx hb dX3_digitsPlace_12 ?_
    refine xv_int (y := nI (p0 + 2)) (nI_add p0 2) ?_
    refine lv_goto (tgt := 19) hx hb dX3_digitsPlace_13 (by decide) ?_
    exact W.iret (v := nI (p0 + 2)) hx hb hr (fun t ht hW => ⟨_, rfl, (congrArg nI (if_pos c_2).symm), ht⟩) (fun _ h => absurd h List.not_mem_nil) dX3_digitsPlace_19

set_option maxHeartbeats 4000000 in
set_option maxRecDepth 100000 in
theorem g_X3_digitsEnd (l : Launch) (D : va_G) (cI cL cZ cC : ClassId) (tx : Nat) (t0 : Nat) (len : Nat) (lt : Nat → Int32) (p0 : Nat) (hl96 : len ≤ 96) (hp : p0 ≤ 500) : Met l yX3_digitsEnd wsX3_digitsEnd ({ frames := 2, cells := 0, slots := 0, locals := 42 } : Room) (xPc D [.ref tx, .int (nI p0)] [(tx, .inr (3, [.ref t0, .int (nI len)])), (t0, .inl (cI, 96, .inl lt))] (xTy cI cL cZ cC)) (vp_Si (fun r : Int32 => r = nI (xDe lt len p0))) 0 0 (fun _ => False) := by
  refine Met.ofW (cc := cX3_digitsEnd) (maxL := 3) (ret := (some .int)) (by decide) rfl ?_
  intro p e s m args below meth c s₁ B hml hv
  obtain ⟨rfl, hP, hK⟩ := hv
  have hx := B.exec
  have hb := B.bytes
  have hr := B.returns
  have hts := atoms_spec (ws := wsX3_digitsEnd) B.pre
  have hown : s.vm.findClass RX3 = some m.cls := findClass_of_methodNamed B.named
  have hlocks := B.notSynchronized
  have hwX3 : ∀ w ∈ u_ws RX3 TX3 2, w ∈ wsX3_digitsEnd := fun _ h => List.mem_cons_of_mem _ (List.mem_append_right _ h)
  have hl := lv_entry ([.ref tx, .int (nI p0)]) (n := 3) (Nat.le_of_ble_eq_true rfl)
  rw [lg_entry_eq]
  generalize (lg_sl ([.ref tx, .int (nI p0)]) ++ List.replicate (3 - (lg_sl ([.ref tx, .int (nI p0)])).length) Slot.unset).toArray = ls at hl ⊢
  have hl : lv_has ls 3 [(0, .ref tx), (1, .int (nI p0))] := hl
  have hdp := xDp_le lt len p0
  refine lv_aload_n hx hb dX3_digitsEnd_0 rfl (lv_at hl 0 rfl) ?_
  refine lv_iload_n hx hb dX3_digitsEnd_1 rfl (lv_at hl 1 rfl) ?_
  have hPc := hP.sub (ws' := [(tx, .inr (3, [.ref t0, .int (nI len)])), (t0, .inl (cI, 96, .inl lt))]) [0, 1] rfl
  refine vp_callSi (va_Run.run (va_runV (As := [.int (nI p0)]) (rest := []) ⟨hx, hb, hml, hown, hts⟩ (g_X3_digitsPlace l D cI cL cZ cC tx t0 len lt p0 (by first | assumption | decide +kernel) (by first | assumption | decide +kernel)) (cwV 1 hts gX3_digitsEnd_X3_digitsPlace rfl rfl rfl (by decide +kernel) ⟨Nat.le_of_ble_eq_true rfl, Nat.le_of_ble_eq_true rfl⟩) ⟨xPc_bl, va_recv hK hPc (ci := 3) (q0 := 0) rfl rfl, xPc_use hPc hK⟩ rfl rfl hl.1 rfl (lv_room (Nat.le_of_ble_eq_true rfl)) dX3_digitsEnd_2 ⟨Nat.le_of_ble_eq_true rfl, Nat.le_of_ble_eq_true rfl⟩)) (fun r_1 er_1 => ?_)
  obtain rfl : (nI (xDp lt len p0) : Int32) = r_1 := Eq.symm er_1
  refine lv_istore_n (lv' := [(2, .int (nI (xDp lt len p0))), (0, .ref tx), (1, .int (nI p0))]) hx hb dX3_digitsEnd_5 rfl hl (by decide) rfl (fun ls hl => ?_)
  refine xl_loop (σ := Nat) (fun n q ls => lv_has ls 3 [(2, .int (nI q)), (0, .ref tx), (1, .int (nI p0))] ∧ (len - q < n) ∧ (q ≤ 600) ∧ (xSc lt len (len - q) q = xSc lt len (len - xDp lt len p0) (xDp lt len p0))) (len + 1) (xDp lt len p0) ⟨lv_sub hl [0, 1, 2] rfl, by (try dsimp only); exact ⟨by omega, by omega, rfl⟩⟩ (fun q ls h => absurd h.2.1 (Nat.not_lt_zero _)) ?_
  intro n_6 q_6 ls ih_6 hI_6
  obtain ⟨hl, hI_6⟩ := hI_6
  obtain ⟨k, e_6⟩ : ∃ z, z = q_6 := ⟨_, rfl⟩
  subst e_6
  obtain ⟨h1, h2, h3⟩ := hI_6
  try dsimp only at hl h1 h2 h3
  refine lv_iload_n hx hb dX3_digitsEnd_6 rfl (lv_at hl 0 rfl) ?_
  refine lv_aload_n hx hb dX3_digitsEnd_7 rfl (lv_at hl 1 rfl) ?_
  refine va_get (D := D) (ci := 3) (v := .int (nI len)) (C := RX3) (T := TX3) (N := 2) hx hb hts hwX3 hown hK hP 0 rfl rfl 1 (by decide) (hts (.fieldLink RX3 15 "WaitOrWalkOn$Text" "length" "I") (by decide +kernel)) (fun _ h9 => h9) rfl dX3_digitsEnd_8 ?_
  refine lv_icmp_ge (tgt := 28) hx hb dX3_digitsEnd_11 (by decide) (fun c_2 => ?_) (fun c_2 => ?_)
  · refine lv_iload_n hx hb dX3_digitsEnd_28 rfl (lv_at hl 0 rfl) ?_
    exact W.iret (v := nI k) hx hb hr (fun t ht hW => ⟨_, rfl, (by have w := mt (nI_ltI (a := k) (b := len) (by omega) (by omega)).mpr (Int32.not_lt.mpr c_2); rw [xDe, ← h3, show len - k = 0 by omega]; rfl), ht⟩) (fun _ h => absurd h List.not_mem_nil) dX3_digitsEnd_29
  · refine lv_aload_n hx hb dX3_digitsEnd_14 rfl (lv_at hl 1 rfl) ?_
    refine lv_iload_n hx hb dX3_digitsEnd_15 rfl (lv_at hl 0 rfl) ?_
    have hPc := hP.sub (ws' := [(tx, .inr (3, [.ref t0, .int (nI len)])), (t0, .inl (cI, 96, .inl lt))]) [0, 1] rfl
    refine vp_callSi (va_Run.run (va_runV (As := [.int (nI k)]) (rest := []) ⟨hx, hb, hml, hown, hts⟩ (g_X3_isDigit l D cI cL cZ cC tx t0 len lt k (by first | assumption | decide +kernel) (by have w := (nI_ltI (a := k) (b := len) (by omega) (by omega)).mp (Int32.not_le.mp c_2); omega)) (cwV 1 hts gX3_digitsEnd_X3_isDigit rfl rfl rfl (by decide +kernel) ⟨Nat.le_of_ble_eq_true rfl, Nat.le_of_ble_eq_true rfl⟩) ⟨xPc_bl, va_recv hK hPc (ci := 3) (q0 := 0) rfl rfl, xPc_use hPc hK⟩ rfl rfl hl.1 rfl (lv_room (Nat.le_of_ble_eq_true rfl)) dX3_digitsEnd_16 ⟨Nat.le_of_ble_eq_true rfl, Nat.le_of_ble_eq_true rfl⟩)) (fun r_3 er_3 => ?_)
    obtain rfl : (xIsD lt len k : Int32) = r_3 := Eq.symm er_3
    refine lv_if_eq (tgt := 28) hx hb dX3_digitsEnd_19 (by decide) (fun c_4 => ?_) (fun c_4 => ?_)
    · refine lv_iload_n hx hb dX3_digitsEnd_28 rfl (lv_at hl 0 rfl) ?_
      exact W.iret (v := nI k) hx hb hr (fun t ht hW => ⟨_, rfl, (by have w := (nI_ltI (a := k) (b := len) (by omega) (by omega)).mp (Int32.not_le.mp c_2); rw [xDe, ← h3, xs1 w]; simp only [xSc]; rw [if_pos c_4]), ht⟩) (fun _ h => absurd h List.not_mem_nil) dX3_digitsEnd_29
    · refine lv_iinc (v := nI (k + 1)) (lv' := [(2, .int (nI (k + 1))), (0, .ref tx), (1, .int (nI p0))]) hx hb dX3_digitsEnd_22 hl (k := 0) rfl (nI_1 k) (by decide) rfl (fun ls hl => ?_)
      refine lv_goto (tgt := 6) hx hb dX3_digitsEnd_25 (by decide) ?_
      have w := (nI_ltI (a := k) (b := len) (by omega) (by omega)).mp (Int32.not_le.mp c_2)
      have e3 : xSc lt len (len - (k + 1)) (k + 1) = xSc lt len (len - xDp lt len p0) (xDp lt len p0) := by rw [← h3, xs1 w]; simp only [xSc]; rw [if_neg c_4]
      exact ih_6 (k + 1) _ ⟨lv_sub hl [0, 1, 2] rfl, by (try dsimp only); exact ⟨by omega, by omega, e3⟩⟩

set_option maxHeartbeats 4000000 in
set_option maxRecDepth 100000 in
theorem g_X3_digit (l : Launch) (D : va_G) (cI cL cZ cC : ClassId) (tx : Nat) (t0 : Nat) (len : Nat) (lt : Nat → Int32) (p0 : Nat) (hl96 : len ≤ 96) (hp : p0 ≤ 500) : Met l yX3_digit wsX3_digit ({ frames := 2, cells := 0, slots := 0, locals := 42 } : Room) (xPc D [.ref tx, .int (nI p0)] [(tx, .inr (3, [.ref t0, .int (nI len)])), (t0, .inl (cI, 96, .inl lt))] (xTy cI cL cZ cC)) (vp_Si (fun r : Int32 => r = xDg lt len p0)) 0 0 (fun _ => False) := by
  refine Met.ofW (cc := cX3_digit) (maxL := 2) (ret := (some .int)) (by decide) rfl ?_
  intro p e s m args below meth c s₁ B hml hv
  obtain ⟨rfl, hP, hK⟩ := hv
  have hx := B.exec
  have hb := B.bytes
  have hr := B.returns
  have hts := atoms_spec (ws := wsX3_digit) B.pre
  have hown : s.vm.findClass RX3 = some m.cls := findClass_of_methodNamed B.named
  have hlocks := B.notSynchronized
  have hl := lv_entry ([.ref tx, .int (nI p0)]) (n := 2) (Nat.le_of_ble_eq_true rfl)
  rw [lg_entry_eq]
  generalize (lg_sl ([.ref tx, .int (nI p0)]) ++ List.replicate (2 - (lg_sl ([.ref tx, .int (nI p0)])).length) Slot.unset).toArray = ls at hl ⊢
  have hl : lv_has ls 2 [(0, .ref tx), (1, .int (nI p0))] := hl
  refine lv_aload_n hx hb dX3_digit_0 rfl (lv_at hl 0 rfl) ?_
  refine lv_iload_n hx hb dX3_digit_1 rfl (lv_at hl 1 rfl) ?_
  have hPc := hP.sub (ws' := [(tx, .inr (3, [.ref t0, .int (nI len)])), (t0, .inl (cI, 96, .inl lt))]) [0, 1] rfl
  refine vp_callSi (va_Run.run (va_runV (As := [.int (nI p0)]) (rest := []) ⟨hx, hb, hml, hown, hts⟩ (g_X3_isDigit l D cI cL cZ cC tx t0 len lt p0 (by first | assumption | decide +kernel) (by first | assumption | decide +kernel)) (cwV 1 hts gX3_digit_X3_isDigit rfl rfl rfl (by decide +kernel) ⟨Nat.le_of_ble_eq_true rfl, Nat.le_of_ble_eq_true rfl⟩) ⟨xPc_bl, va_recv hK hPc (ci := 3) (q0 := 0) rfl rfl, xPc_use hPc hK⟩ rfl rfl hl.1 rfl (lv_room (Nat.le_of_ble_eq_true rfl)) dX3_digit_2 ⟨Nat.le_of_ble_eq_true rfl, Nat.le_of_ble_eq_true rfl⟩)) (fun r_1 er_1 => ?_)
  obtain rfl : (xIsD lt len p0 : Int32) = r_1 := Eq.symm er_1
  refine lv_if_eq (tgt := 19) hx hb dX3_digit_5 (by decide) (fun c_2 => ?_) (fun c_2 => ?_)
  · refine lv_iconst (v := 0) hx hb dX3_digit_19 (by decide) ?_
    exact W.iret (v := 0) hx hb hr (fun t ht hW => ⟨_, rfl, by simp [xDg, c_2], ht⟩) (fun _ h => absurd h List.not_mem_nil) dX3_digit_20
  · refine lv_aload_n hx hb dX3_digit_8 rfl (lv_at hl 0 rfl) ?_
    refine lv_iload_n hx hb dX3_digit_9 rfl (lv_at hl 1 rfl) ?_
    have hPc := hP.sub (ws' := [(tx, .inr (3, [.ref t0, .int (nI len)])), (t0, .inl (cI, 96, .inl lt))]) [0, 1] rfl
    refine vp_callSi (va_Run.run (va_runV (As := [.int (nI p0)]) (rest := []) ⟨hx, hb, hml, hown, hts⟩ (g_X3_at l D cI cL cZ cC tx t0 len lt p0 (by first | assumption | decide +kernel) (by first | assumption | decide +kernel)) (cwV 1 hts gX3_digit_X3_at rfl rfl rfl (by decide +kernel) ⟨Nat.le_of_ble_eq_true rfl, Nat.le_of_ble_eq_true rfl⟩) ⟨xPc_bl, va_recv hK hPc (ci := 3) (q0 := 0) rfl rfl, xPc_use hPc hK⟩ rfl rfl hl.1 rfl (lv_room (Nat.le_of_ble_eq_true rfl)) dX3_digit_10 ⟨Nat.le_of_ble_eq_true rfl, Nat.le_of_ble_eq_true rfl⟩)) (fun r_3 er_3 => ?_)
    obtain rfl : (xAt lt len p0 : Int32) = r_3 := Eq.symm er_3
    refine lv_bipush (v := 48) hx hb dX3_digit_13 (by decide) ?_
    refine lv_isub hx hb dX3_digit_15 ?_
    refine lv_goto (tgt := 20) hx hb dX3_digit_16 (by decide) ?_
    exact W.iret (v := (xAt lt len p0) - 48) hx hb hr (fun t ht hW => ⟨_, rfl, by simp [xDg, c_2], ht⟩) (fun _ h => absurd h List.not_mem_nil) dX3_digit_20

set_option maxHeartbeats 4000000 in
set_option maxRecDepth 100000 in
theorem g_X3_numberAt (l : Launch) (D : va_G) (cI cL cZ cC : ClassId) (tx : Nat) (t0 : Nat) (len : Nat) (lt : Nat → Int32) (p0 : Nat) (hl96 : len ≤ 96) (hp : p0 ≤ 500) : Met l yX3_numberAt wsX3_numberAt ({ frames := 3, cells := 0, slots := 0, locals := 64 } : Room) (xPc D [.ref tx, .int (nI p0)] [(tx, .inr (3, [.ref t0, .int (nI len)])), (t0, .inl (cI, 96, .inl lt))] (xTy cI cL cZ cC)) (vp_Si (fun r : Int32 => r = xNm lt len p0)) 0 0 (fun _ => False) := by
  refine Met.ofW (cc := cX3_numberAt) (maxL := 4) (ret := (some .int)) (by decide) rfl ?_
  intro p e s m args below meth c s₁ B hml hv
  obtain ⟨rfl, hP, hK⟩ := hv
  have hx := B.exec
  have hb := B.bytes
  have hr := B.returns
  have hts := atoms_spec (ws := wsX3_numberAt) B.pre
  have hown : s.vm.findClass RX3 = some m.cls := findClass_of_methodNamed B.named
  have hlocks := B.notSynchronized
  have hl := lv_entry ([.ref tx, .int (nI p0)]) (n := 4) (Nat.le_of_ble_eq_true rfl)
  rw [lg_entry_eq]
  generalize (lg_sl ([.ref tx, .int (nI p0)]) ++ List.replicate (4 - (lg_sl ([.ref tx, .int (nI p0)])).length) Slot.unset).toArray = ls at hl ⊢
  have hl : lv_has ls 4 [(0, .ref tx), (1, .int (nI p0))] := hl
  have hdp := xDp_le lt len p0
  have hde := xDe_le lt len p0
  refine lv_iconst (v := 0) hx hb dX3_numberAt_0 (by decide) ?_
  refine lv_istore_n (lv' := [(2, .int 0), (0, .ref tx), (1, .int (nI p0))]) hx hb dX3_numberAt_1 rfl hl (by decide) rfl (fun ls hl => ?_)
  refine lv_aload_n hx hb dX3_numberAt_2 rfl (lv_at hl 1 rfl) ?_
  refine lv_iload_n hx hb dX3_numberAt_3 rfl (lv_at hl 2 rfl) ?_
  have hPc := hP.sub (ws' := [(tx, .inr (3, [.ref t0, .int (nI len)])), (t0, .inl (cI, 96, .inl lt))]) [0, 1] rfl
  refine vp_callSi (va_Run.run (va_runV (As := [.int (nI p0)]) (rest := []) ⟨hx, hb, hml, hown, hts⟩ (g_X3_digitsPlace l D cI cL cZ cC tx t0 len lt p0 (by first | assumption | decide +kernel) (by first | assumption | decide +kernel)) (cwV 1 hts gX3_numberAt_X3_digitsPlace rfl rfl rfl (by decide +kernel) ⟨Nat.le_of_ble_eq_true rfl, Nat.le_of_ble_eq_true rfl⟩) ⟨xPc_bl, va_recv hK hPc (ci := 3) (q0 := 0) rfl rfl, xPc_use hPc hK⟩ rfl rfl hl.1 rfl (lv_room (Nat.le_of_ble_eq_true rfl)) dX3_numberAt_4 ⟨Nat.le_of_ble_eq_true rfl, Nat.le_of_ble_eq_true rfl⟩)) (fun r_1 er_1 => ?_)
  obtain rfl : (nI (xDp lt len p0) : Int32) = r_1 := Eq.symm er_1
  refine lv_istore_n (lv' := [(3, .int (nI (xDp lt len p0))), (2, .int 0), (0, .ref tx), (1, .int (nI p0))]) hx hb dX3_numberAt_7 rfl hl (by decide) rfl (fun ls hl => ?_)
  refine xl_loop (σ := Nat) (fun n q ls => lv_has ls 4 [(3, .int (nI (xDp lt len p0 + q))), (2, .int (xNu lt len (xDp lt len p0) q)), (0, .ref tx), (1, .int (nI p0))] ∧ (xDe lt len p0 - (xDp lt len p0 + q) < n) ∧ (q ≤ xDe lt len p0 - xDp lt len p0)) (xDe lt len p0 + 1) (0) ⟨lv_sub hl [0, 1, 2, 3] rfl, by (try dsimp only); exact ⟨by omega, by omega⟩⟩ (fun q ls h => absurd h.2.1 (Nat.not_lt_zero _)) ?_
  intro n_8 q_8 ls ih_8 hI_8
  obtain ⟨hl, hI_8⟩ := hI_8
  obtain ⟨k, e_8⟩ : ∃ z, z = q_8 := ⟨_, rfl⟩
  subst e_8
  obtain ⟨h1, h2⟩ := hI_8
  try dsimp only at hl h1 h2
  refine lv_iload_n hx hb dX3_numberAt_8 rfl (lv_at hl 0 rfl) ?_
  refine lv_aload_n hx hb dX3_numberAt_9 rfl (lv_at hl 2 rfl) ?_
  refine lv_iload_n hx hb dX3_numberAt_10 rfl (lv_at hl 3 rfl) ?_
  have hPc := hP.sub (ws' := [(tx, .inr (3, [.ref t0, .int (nI len)])), (t0, .inl (cI, 96, .inl lt))]) [0, 1] rfl
  refine vp_callSi (va_Run.run (va_runV (As := [.int (nI p0)]) (rest := [.int (nI (xDp lt len p0 + k))]) ⟨hx, hb, hml, hown, hts⟩ (g_X3_digitsEnd l D cI cL cZ cC tx t0 len lt p0 (by first | assumption | decide +kernel) (by first | assumption | decide +kernel)) (cwV 1 hts gX3_numberAt_X3_digitsEnd rfl rfl rfl (by decide +kernel) ⟨Nat.le_of_ble_eq_true rfl, Nat.le_of_ble_eq_true rfl⟩) ⟨xPc_bl, va_recv hK hPc (ci := 3) (q0 := 0) rfl rfl, xPc_use hPc hK⟩ rfl rfl hl.1 rfl (lv_room (Nat.le_of_ble_eq_true rfl)) dX3_numberAt_11 ⟨Nat.le_of_ble_eq_true rfl, Nat.le_of_ble_eq_true rfl⟩)) (fun r_2 er_2 => ?_)
  obtain rfl : (nI (xDe lt len p0) : Int32) = r_2 := Eq.symm er_2
  refine lv_icmp_ge (tgt := 34) hx hb dX3_numberAt_14 (by decide) (fun c_3 => ?_) (fun c_3 => ?_)
  · refine lv_iload_n hx hb dX3_numberAt_34 rfl (lv_at hl 1 rfl) ?_
    exact W.iret (v := xNu lt len (xDp lt len p0) k) hx hb hr (fun t ht hW => ⟨_, rfl, (by have w := mt (nI_ltI (a := xDp lt len p0 + k) (b := xDe lt len p0) (by omega) (by omega)).mpr (Int32.not_lt.mpr c_3); rw [xNm, show xDe lt len p0 - xDp lt len p0 = k by omega]), ht⟩) (fun _ h => absurd h List.not_mem_nil) dX3_numberAt_35
  · refine lv_iload_n hx hb dX3_numberAt_17 rfl (lv_at hl 1 rfl) ?_
    refine lv_bipush (v := 10) hx hb dX3_numberAt_18 (by decide) ?_
    refine lv_imul hx hb dX3_numberAt_20 ?_
    refine lv_aload_n hx hb dX3_numberAt_21 rfl (lv_at hl 2 rfl) ?_
    refine lv_iload_n hx hb dX3_numberAt_22 rfl (lv_at hl 0 rfl) ?_
    have hPc := hP.sub (ws' := [(tx, .inr (3, [.ref t0, .int (nI len)])), (t0, .inl (cI, 96, .inl lt))]) [0, 1] rfl
    refine vp_callSi (va_Run.run (va_runV (As := [.int (nI (xDp lt len p0 + k))]) (rest := [.int ((xNu lt len (xDp lt len p0) k) * 10)]) ⟨hx, hb, hml, hown, hts⟩ (g_X3_digit l D cI cL cZ cC tx t0 len lt (xDp lt len p0 + k) (by first | assumption | decide +kernel) (by have w := (nI_ltI (a := xDp lt len p0 + k) (b := xDe lt len p0) (by omega) (by omega)).mp (Int32.not_le.mp c_3); omega)) (cwV 1 hts gX3_numberAt_X3_digit rfl rfl rfl (by decide +kernel) ⟨Nat.le_of_ble_eq_true rfl, Nat.le_of_ble_eq_true rfl⟩) ⟨xPc_bl, va_recv hK hPc (ci := 3) (q0 := 0) rfl rfl, xPc_use hPc hK⟩ rfl rfl hl.1 rfl (lv_room (Nat.le_of_ble_eq_true rfl)) dX3_numberAt_23 ⟨Nat.le_of_ble_eq_true rfl, Nat.le_of_ble_eq_true rfl⟩)) (fun r_4 er_4 => ?_)
    obtain rfl : (xDg lt len (xDp lt len p0 + k) : Int32) = r_4 := Eq.symm er_4
    refine lv_iadd hx hb dX3_numberAt_26 ?_
    refine xv_int (y := xNu lt len (xDp lt len p0) (k + 1)) (rfl) ?_
    refine lv_istore_n (lv' := [(2, .int (xNu lt len (xDp lt len p0) (k + 1))), (3, .int (nI (xDp lt len p0 + k))), (0, .ref tx), (1, .int (nI p0))]) hx hb dX3_numberAt_27 rfl hl (by decide) rfl (fun ls hl => ?_)
    refine lv_iinc (v := nI (xDp lt len p0 + (k + 1))) (lv' := [(3, .int (nI (xDp lt len p0 + (k + 1)))), (2, .int (xNu lt len (xDp lt len p0) (k + 1))), (0, .ref tx), (1, .int (nI p0))]) hx hb dX3_numberAt_28 hl (k := 1) rfl (nI_1 (xDp lt len p0 + k)) (by decide) rfl (fun ls hl => ?_)
    refine lv_goto (tgt := 8) hx hb dX3_numberAt_31 (by decide) ?_
    have w := (nI_ltI (a := xDp lt len p0 + k) (b := xDe lt len p0) (by omega) (by omega)).mp (Int32.not_le.mp c_3)
    exact ih_8 (k + 1) _ ⟨lv_sub hl [0, 1, 2, 3] rfl, by (try dsimp only); exact ⟨by omega, by omega⟩⟩

set_option maxHeartbeats 4000000 in
set_option maxRecDepth 100000 in
theorem g_X3_leastDigits (l : Launch) (D : va_G) (cI cL cZ cC : ClassId) (x0 : Int32)  : Met l yX3_leastDigits wsX3_leastDigits ({ frames := 0, cells := 0, slots := 0, locals := 0 } : Room) (xPc D [.int x0] [] (xTy cI cL cZ cC)) (vp_Si (fun r : Int32 => r = sLd x0)) 0 0 (fun _ => False) := by
  refine Met.ofW (cc := cX3_leastDigits) (maxL := 1) (ret := (some .int)) (by decide) rfl ?_
  intro p e s m args below meth c s₁ B hml hv
  obtain ⟨rfl, hP, hK⟩ := hv
  have hx := B.exec
  have hb := B.bytes
  have hr := B.returns
  have hts := atoms_spec (ws := wsX3_leastDigits) B.pre
  have hown : s.vm.findClass RX3 = some m.cls := findClass_of_methodNamed B.named
  have hlocks := B.notSynchronized
  have hl := lv_entry ([.int x0]) (n := 1) (Nat.le_of_ble_eq_true rfl)
  rw [lg_entry_eq]
  generalize (lg_sl ([.int x0]) ++ List.replicate (1 - (lg_sl ([.int x0])).length) Slot.unset).toArray = ls at hl ⊢
  have hl : lv_has ls 1 [(0, .int x0)] := hl
  refine lv_iload_n hx hb dX3_leastDigits_0 rfl (lv_at hl 0 rfl) ?_
  by_cases c_1 : x0 = 108
  · refine lv_lookup (off := 29) (tgt := 30) hx hb dX3_leastDigits_1 (by decide +kernel) (by rw [c_1]; decide +kernel) (by decide) ?_
    refine lv_iconst (v := 3) hx hb dX3_leastDigits_30 (by decide) ?_
    exact W.iret (v := 3) hx hb hr (fun t ht hW => ⟨_, rfl, by simp [sLd, c_1], ht⟩) (fun _ h => absurd h List.not_mem_nil) dX3_leastDigits_31
  by_cases c_2 : x0 = 112
  · refine lv_lookup (off := 27) (tgt := 28) hx hb dX3_leastDigits_1 (by decide +kernel) (by rw [c_2]; decide +kernel) (by decide) ?_
    refine lv_iconst (v := 2) hx hb dX3_leastDigits_28 (by decide) ?_
    exact W.iret (v := 2) hx hb hr (fun t ht hW => ⟨_, rfl, by simp [sLd, c_1, c_2], ht⟩) (fun _ h => absurd h List.not_mem_nil) dX3_leastDigits_29
  refine lv_lookup (off := 31) (tgt := 32) hx hb dX3_leastDigits_1 (by decide +kernel) (by have q_1 : ¬ (x0).toInt = 108 := mt (xi_eq (x0) 108).mpr c_1; have q_2 : ¬ (x0).toInt = 112 := mt (xi_eq (x0) 112).mpr c_2; simp [Op.lookupswitch.offset, q_1, Ne.symm q_1, q_2, Ne.symm q_2]) (by decide) ?_
  refine lv_iconst (v := 1) hx hb dX3_leastDigits_32 (by decide) ?_
  exact W.iret (v := 1) hx hb hr (fun t ht hW => ⟨_, rfl, by simp [sLd, c_1, c_2], ht⟩) (fun _ h => absurd h List.not_mem_nil) dX3_leastDigits_33

set_option maxHeartbeats 4000000 in
set_option maxRecDepth 100000 in
theorem g_X3_mostDigits (l : Launch) (D : va_G) (cI cL cZ cC : ClassId) (x0 : Int32)  : Met l yX3_mostDigits wsX3_mostDigits ({ frames := 0, cells := 0, slots := 0, locals := 0 } : Room) (xPc D [.int x0] [] (xTy cI cL cZ cC)) (vp_Si (fun r : Int32 => r = sMd x0)) 0 0 (fun _ => False) := by
  refine Met.ofW (cc := cX3_mostDigits) (maxL := 1) (ret := (some .int)) (by decide) rfl ?_
  intro p e s m args below meth c s₁ B hml hv
  obtain ⟨rfl, hP, hK⟩ := hv
  have hx := B.exec
  have hb := B.bytes
  have hr := B.returns
  have hts := atoms_spec (ws := wsX3_mostDigits) B.pre
  have hown : s.vm.findClass RX3 = some m.cls := findClass_of_methodNamed B.named
  have hlocks := B.notSynchronized
  have hl := lv_entry ([.int x0]) (n := 1) (Nat.le_of_ble_eq_true rfl)
  rw [lg_entry_eq]
  generalize (lg_sl ([.int x0]) ++ List.replicate (1 - (lg_sl ([.int x0])).length) Slot.unset).toArray = ls at hl ⊢
  have hl : lv_has ls 1 [(0, .int x0)] := hl
  refine lv_iload_n hx hb dX3_mostDigits_0 rfl (lv_at hl 0 rfl) ?_
  by_cases c_1 : x0 = 101
  · refine lv_tableIn (off := 80) (tgt := 81) hx hb dX3_mostDigits_1 (by rw [c_1]; decide +kernel) (by rw [c_1]; decide +kernel) (by rw [c_1]; decide +kernel) (by decide) ?_
    refine lv_iconst (v := 1) hx hb dX3_mostDigits_81 (by decide) ?_
    exact W.iret (v := 1) hx hb hr (fun t ht hW => ⟨_, rfl, by simp [sMd, c_1], ht⟩) (fun _ h => absurd h List.not_mem_nil) dX3_mostDigits_82
  by_cases c_2 : x0 = 102
  · refine lv_tableIn (off := 84) (tgt := 85) hx hb dX3_mostDigits_1 (by rw [c_2]; decide +kernel) (by rw [c_2]; decide +kernel) (by rw [c_2]; decide +kernel) (by decide) ?_
    refine lv_iconst (v := 0) hx hb dX3_mostDigits_85 (by decide) ?_
    exact W.iret (v := 0) hx hb hr (fun t ht hW => ⟨_, rfl, by simp [sMd, c_1, c_2], ht⟩) (fun _ h => absurd h List.not_mem_nil) dX3_mostDigits_86
  by_cases c_3 : x0 = 103
  · refine lv_tableIn (off := 84) (tgt := 85) hx hb dX3_mostDigits_1 (by rw [c_3]; decide +kernel) (by rw [c_3]; decide +kernel) (by rw [c_3]; decide +kernel) (by decide) ?_
    refine lv_iconst (v := 0) hx hb dX3_mostDigits_85 (by decide) ?_
    exact W.iret (v := 0) hx hb hr (fun t ht hW => ⟨_, rfl, by simp [sMd, c_1, c_2, c_3], ht⟩) (fun _ h => absurd h List.not_mem_nil) dX3_mostDigits_86
  by_cases c_4 : x0 = 104
  · refine lv_tableIn (off := 75) (tgt := 76) hx hb dX3_mostDigits_1 (by rw [c_4]; decide +kernel) (by rw [c_4]; decide +kernel) (by rw [c_4]; decide +kernel) (by decide) ?_
    refine lv_iconst (v := 3) hx hb dX3_mostDigits_76 (by decide) ?_
    exact W.iret (v := 3) hx hb hr (fun t ht hW => ⟨_, rfl, by simp [sMd, c_1, c_2, c_3, c_4], ht⟩) (fun _ h => absurd h List.not_mem_nil) dX3_mostDigits_77
  by_cases c_5 : x0 = 105
  · refine lv_tableIn (off := 84) (tgt := 85) hx hb dX3_mostDigits_1 (by rw [c_5]; decide +kernel) (by rw [c_5]; decide +kernel) (by rw [c_5]; decide +kernel) (by decide) ?_
    refine lv_iconst (v := 0) hx hb dX3_mostDigits_85 (by decide) ?_
    exact W.iret (v := 0) hx hb hr (fun t ht hW => ⟨_, rfl, by simp [sMd, c_1, c_2, c_3, c_4, c_5], ht⟩) (fun _ h => absurd h List.not_mem_nil) dX3_mostDigits_86
  by_cases c_6 : x0 = 106
  · refine lv_tableIn (off := 84) (tgt := 85) hx hb dX3_mostDigits_1 (by rw [c_6]; decide +kernel) (by rw [c_6]; decide +kernel) (by rw [c_6]; decide +kernel) (by decide) ?_
    refine lv_iconst (v := 0) hx hb dX3_mostDigits_85 (by decide) ?_
    exact W.iret (v := 0) hx hb hr (fun t ht hW => ⟨_, rfl, by simp [sMd, c_1, c_2, c_3, c_4, c_5, c_6], ht⟩) (fun _ h => absurd h List.not_mem_nil) dX3_mostDigits_86
  by_cases c_7 : x0 = 107
  · refine lv_tableIn (off := 84) (tgt := 85) hx hb dX3_mostDigits_1 (by rw [c_7]; decide +kernel) (by rw [c_7]; decide +kernel) (by rw [c_7]; decide +kernel) (by decide) ?_
    refine lv_iconst (v := 0) hx hb dX3_mostDigits_85 (by decide) ?_
    exact W.iret (v := 0) hx hb hr (fun t ht hW => ⟨_, rfl, by simp [sMd, c_1, c_2, c_3, c_4, c_5, c_6, c_7], ht⟩) (fun _ h => absurd h List.not_mem_nil) dX3_mostDigits_86
  by_cases c_8 : x0 = 108
  · refine lv_tableIn (off := 77) (tgt := 78) hx hb dX3_mostDigits_1 (by rw [c_8]; decide +kernel) (by rw [c_8]; decide +kernel) (by rw [c_8]; decide +kernel) (by decide) ?_
    refine lv_bipush (v := 14) hx hb dX3_mostDigits_78 (by decide) ?_
    exact W.iret (v := 14) hx hb hr (fun t ht hW => ⟨_, rfl, by simp [sMd, c_1, c_2, c_3, c_4, c_5, c_6, c_7, c_8], ht⟩) (fun _ h => absurd h List.not_mem_nil) dX3_mostDigits_80
  by_cases c_9 : x0 = 109
  · refine lv_tableIn (off := 82) (tgt := 83) hx hb dX3_mostDigits_1 (by rw [c_9]; decide +kernel) (by rw [c_9]; decide +kernel) (by rw [c_9]; decide +kernel) (by decide) ?_
    refine lv_iconst (v := 2) hx hb dX3_mostDigits_83 (by decide) ?_
    exact W.iret (v := 2) hx hb hr (fun t ht hW => ⟨_, rfl, by simp [sMd, c_1, c_2, c_3, c_4, c_5, c_6, c_7, c_8, c_9], ht⟩) (fun _ h => absurd h List.not_mem_nil) dX3_mostDigits_84
  by_cases c_10 : x0 = 110
  · refine lv_tableIn (off := 84) (tgt := 85) hx hb dX3_mostDigits_1 (by rw [c_10]; decide +kernel) (by rw [c_10]; decide +kernel) (by rw [c_10]; decide +kernel) (by decide) ?_
    refine lv_iconst (v := 0) hx hb dX3_mostDigits_85 (by decide) ?_
    exact W.iret (v := 0) hx hb hr (fun t ht hW => ⟨_, rfl, by simp [sMd, c_1, c_2, c_3, c_4, c_5, c_6, c_7, c_8, c_9, c_10], ht⟩) (fun _ h => absurd h List.not_mem_nil) dX3_mostDigits_86
  by_cases c_11 : x0 = 111
  · refine lv_tableIn (off := 84) (tgt := 85) hx hb dX3_mostDigits_1 (by rw [c_11]; decide +kernel) (by rw [c_11]; decide +kernel) (by rw [c_11]; decide +kernel) (by decide) ?_
    refine lv_iconst (v := 0) hx hb dX3_mostDigits_85 (by decide) ?_
    exact W.iret (v := 0) hx hb hr (fun t ht hW => ⟨_, rfl, by simp [sMd, c_1, c_2, c_3, c_4, c_5, c_6, c_7, c_8, c_9, c_10, c_11], ht⟩) (fun _ h => absurd h List.not_mem_nil) dX3_mostDigits_86
  by_cases c_12 : x0 = 112
  · refine lv_tableIn (off := 75) (tgt := 76) hx hb dX3_mostDigits_1 (by rw [c_12]; decide +kernel) (by rw [c_12]; decide +kernel) (by rw [c_12]; decide +kernel) (by decide) ?_
    refine lv_iconst (v := 3) hx hb dX3_mostDigits_76 (by decide) ?_
    exact W.iret (v := 3) hx hb hr (fun t ht hW => ⟨_, rfl, by simp [sMd, c_1, c_2, c_3, c_4, c_5, c_6, c_7, c_8, c_9, c_10, c_11, c_12], ht⟩) (fun _ h => absurd h List.not_mem_nil) dX3_mostDigits_77
  by_cases c_13 : x0 = 113
  · refine lv_tableIn (off := 84) (tgt := 85) hx hb dX3_mostDigits_1 (by rw [c_13]; decide +kernel) (by rw [c_13]; decide +kernel) (by rw [c_13]; decide +kernel) (by decide) ?_
    refine lv_iconst (v := 0) hx hb dX3_mostDigits_85 (by decide) ?_
    exact W.iret (v := 0) hx hb hr (fun t ht hW => ⟨_, rfl, by simp [sMd, c_1, c_2, c_3, c_4, c_5, c_6, c_7, c_8, c_9, c_10, c_11, c_12, c_13], ht⟩) (fun _ h => absurd h List.not_mem_nil) dX3_mostDigits_86
  by_cases c_14 : x0 = 114
  · refine lv_tableIn (off := 84) (tgt := 85) hx hb dX3_mostDigits_1 (by rw [c_14]; decide +kernel) (by rw [c_14]; decide +kernel) (by rw [c_14]; decide +kernel) (by decide) ?_
    refine lv_iconst (v := 0) hx hb dX3_mostDigits_85 (by decide) ?_
    exact W.iret (v := 0) hx hb hr (fun t ht hW => ⟨_, rfl, by simp [sMd, c_1, c_2, c_3, c_4, c_5, c_6, c_7, c_8, c_9, c_10, c_11, c_12, c_13, c_14], ht⟩) (fun _ h => absurd h List.not_mem_nil) dX3_mostDigits_86
  by_cases c_15 : x0 = 115
  · refine lv_tableIn (off := 75) (tgt := 76) hx hb dX3_mostDigits_1 (by rw [c_15]; decide +kernel) (by rw [c_15]; decide +kernel) (by rw [c_15]; decide +kernel) (by decide) ?_
    refine lv_iconst (v := 3) hx hb dX3_mostDigits_76 (by decide) ?_
    exact W.iret (v := 3) hx hb hr (fun t ht hW => ⟨_, rfl, by simp [sMd, c_1, c_2, c_3, c_4, c_5, c_6, c_7, c_8, c_9, c_10, c_11, c_12, c_13, c_14, c_15], ht⟩) (fun _ h => absurd h List.not_mem_nil) dX3_mostDigits_77
  refine lv_tableOut (tgt := 85) hx hb dX3_mostDigits_1 (by have q_1 : ¬ (x0).toInt = 101 := mt (xi_eq (x0) 101).mpr c_1; have q_2 : ¬ (x0).toInt = 102 := mt (xi_eq (x0) 102).mpr c_2; have q_3 : ¬ (x0).toInt = 103 := mt (xi_eq (x0) 103).mpr c_3; have q_4 : ¬ (x0).toInt = 104 := mt (xi_eq (x0) 104).mpr c_4; have q_5 : ¬ (x0).toInt = 105 := mt (xi_eq (x0) 105).mpr c_5; have q_6 : ¬ (x0).toInt = 106 := mt (xi_eq (x0) 106).mpr c_6; have q_7 : ¬ (x0).toInt = 107 := mt (xi_eq (x0) 107).mpr c_7; have q_8 : ¬ (x0).toInt = 108 := mt (xi_eq (x0) 108).mpr c_8; have q_9 : ¬ (x0).toInt = 109 := mt (xi_eq (x0) 109).mpr c_9; have q_10 : ¬ (x0).toInt = 110 := mt (xi_eq (x0) 110).mpr c_10; have q_11 : ¬ (x0).toInt = 111 := mt (xi_eq (x0) 111).mpr c_11; have q_12 : ¬ (x0).toInt = 112 := mt (xi_eq (x0) 112).mpr c_12; have q_13 : ¬ (x0).toInt = 113 := mt (xi_eq (x0) 113).mpr c_13; have q_14 : ¬ (x0).toInt = 114 := mt (xi_eq (x0) 114).mpr c_14; have q_15 : ¬ (x0).toInt = 115 := mt (xi_eq (x0) 115).mpr c_15; omega) (by decide) ?_
  refine lv_iconst (v := 0) hx hb dX3_mostDigits_85 (by decide) ?_
  exact W.iret (v := 0) hx hb hr (fun t ht hW => ⟨_, rfl, by simp [sMd, c_1, c_2, c_3, c_4, c_5, c_6, c_7, c_8, c_9, c_10, c_11, c_12, c_13, c_14, c_15], ht⟩) (fun _ h => absurd h List.not_mem_nil) dX3_mostDigits_86

/-! what the class's writing methods make of a road -/
def sLe (q : Int32) : Int32 := if q = 1 then 20 else if q = 3 then 1 else 0
def sMo (q : Int32) : Int32 := if q = 0 then 999 else if q = 1 then 200 else if q = 2 then 9 else 60
def sSe (ho pa si li q : Int32) : Int32 := if q = 0 then ho else if q = 1 then pa else if q = 2 then si else li
/-- is a setting's number in range -/
def xOk (q v : Int32) : Bool := !decide (v < sLe q) && !decide (sMo q < v)
def sCh (q v : Int32) : Int32 := if v < sLe q then 0 else if sMo q < v then 0 else 1
def xCg (q v k old : Int32) : Int32 := if v < sLe q then old else if sMo q < v then old else if q = k then v else old
def xCl (q v old : Int32) : Int32 := if v < sLe q then old else if sMo q < v then old else if q = 0 then old else if q = 1 then old else if q = 2 then old else v
def sAs (st : Nat) (v : Int32) : Int32 := if v < 1 then 0 else if 999 < v then 0 else if st < 7 then 1 else 0
def xAsN (st : Nat) (v : Int32) : Nat := if v < 1 then st else if 999 < v then st else if st < 7 then st + 1 else st
def xAsL (st : Nat) (v : Int32) (lg : Nat → Int32) : Nat → Int32 := if v < 1 then lg else if 999 < v then lg else if st < 7 then upd lg st v else lg

theorem sCh_ok {q v : Int32} (h1 : ¬ v < sLe q) (h2 : ¬ sMo q < v) : sCh q v = 1 := by simp only [sCh, if_neg h1, if_neg h2]
theorem xCg_ok {q v k old : Int32} (h1 : ¬ v < sLe q) (h2 : ¬ sMo q < v) : xCg q v k old = if q = k then v else old := by simp only [xCg, if_neg h1, if_neg h2]
theorem xCl_ok {q v old : Int32} (h1 : ¬ v < sLe q) (h2 : ¬ sMo q < v) : xCl q v old = if q = 0 then old else if q = 1 then old else if q = 2 then old else v := by simp only [xCl, if_neg h1, if_neg h2]

set_option maxHeartbeats 4000000 in
set_option maxRecDepth 100000 in
theorem g_X2_least (l : Launch) (D : va_G) (cI cL cZ cC : ClassId) (q1 : Int32)  : Met l yX2_least wsX2_least ({ frames := 0, cells := 0, slots := 0, locals := 0 } : Room) (xPc D [.int q1] [] (xTy cI cL cZ cC)) (vp_Si (fun r : Int32 => r = sLe q1)) 0 0 (fun _ => False) := by
  refine Met.ofW (cc := cX2_least) (maxL := 1) (ret := (some .int)) (by decide) rfl ?_
  intro p e s m args below meth c s₁ B hml hv
  obtain ⟨rfl, hP, hK⟩ := hv
  have hx := B.exec
  have hb := B.bytes
  have hr := B.returns
  have hts := atoms_spec (ws := wsX2_least) B.pre
  have hown : s.vm.findClass RX2 = some m.cls := findClass_of_methodNamed B.named
  have hlocks := B.notSynchronized
  have hl := lv_entry ([.int q1]) (n := 1) (Nat.le_of_ble_eq_true rfl)
  rw [lg_entry_eq]
  generalize (lg_sl ([.int q1]) ++ List.replicate (1 - (lg_sl ([.int q1])).length) Slot.unset).toArray = ls at hl ⊢
  have hl : lv_has ls 1 [(0, .int q1)] := hl
  refine lv_iload_n hx hb dX2_least_0 rfl (lv_at hl 0 rfl) ?_
  by_cases c_1 : q1 = 1
  · refine lv_lookup (off := 27) (tgt := 28) hx hb dX2_least_1 (by decide +kernel) (by rw [c_1]; decide +kernel) (by decide) ?_
    refine lv_bipush (v := 20) hx hb dX2_least_28 (by decide) ?_
    exact W.iret (v := 20) hx hb hr (fun t ht hW => ⟨_, rfl, by simp [sLe, c_1], ht⟩) (fun _ h => absurd h List.not_mem_nil) dX2_least_30
  by_cases c_2 : q1 = 3
  · refine lv_lookup (off := 30) (tgt := 31) hx hb dX2_least_1 (by decide +kernel) (by rw [c_2]; decide +kernel) (by decide) ?_
    refine lv_iconst (v := 1) hx hb dX2_least_31 (by decide) ?_
    exact W.iret (v := 1) hx hb hr (fun t ht hW => ⟨_, rfl, by simp [sLe, c_1, c_2], ht⟩) (fun _ h => absurd h List.not_mem_nil) dX2_least_32
  refine lv_lookup (off := 32) (tgt := 33) hx hb dX2_least_1 (by decide +kernel) (by have q_1 : ¬ (q1).toInt = 1 := mt (xi_eq (q1) 1).mpr c_1; have q_2 : ¬ (q1).toInt = 3 := mt (xi_eq (q1) 3).mpr c_2; simp [Op.lookupswitch.offset, q_1, Ne.symm q_1, q_2, Ne.symm q_2]) (by decide) ?_
  refine lv_iconst (v := 0) hx hb dX2_least_33 (by decide) ?_
  exact W.iret (v := 0) hx hb hr (fun t ht hW => ⟨_, rfl, by simp [sLe, c_1, c_2], ht⟩) (fun _ h => absurd h List.not_mem_nil) dX2_least_34

set_option maxHeartbeats 4000000 in
set_option maxRecDepth 100000 in
theorem g_X2_most (l : Launch) (D : va_G) (cI cL cZ cC : ClassId) (q1 : Int32)  : Met l yX2_most wsX2_most ({ frames := 0, cells := 0, slots := 0, locals := 0 } : Room) (xPc D [.int q1] [] (xTy cI cL cZ cC)) (vp_Si (fun r : Int32 => r = sMo q1)) 0 0 (fun _ => False) := by
  refine Met.ofW (cc := cX2_most) (maxL := 1) (ret := (some .int)) (by decide) rfl ?_
  intro p e s m args below meth c s₁ B hml hv
  obtain ⟨rfl, hP, hK⟩ := hv
  have hx := B.exec
  have hb := B.bytes
  have hr := B.returns
  have hts := atoms_spec (ws := wsX2_most) B.pre
  have hown : s.vm.findClass RX2 = some m.cls := findClass_of_methodNamed B.named
  have hlocks := B.notSynchronized
  have hl := lv_entry ([.int q1]) (n := 1) (Nat.le_of_ble_eq_true rfl)
  rw [lg_entry_eq]
  generalize (lg_sl ([.int q1]) ++ List.replicate (1 - (lg_sl ([.int q1])).length) Slot.unset).toArray = ls at hl ⊢
  have hl : lv_has ls 1 [(0, .int q1)] := hl
  refine lv_iload_n hx hb dX2_most_0 rfl (lv_at hl 0 rfl) ?_
  by_cases c_1 : q1 = 0
  · refine lv_tableIn (off := 27) (tgt := 28) hx hb dX2_most_1 (by rw [c_1]; decide +kernel) (by rw [c_1]; decide +kernel) (by rw [c_1]; decide +kernel) (by decide) ?_
    refine lv_sipush (v := 999) hx hb dX2_most_28 (by decide) ?_
    exact W.iret (v := 999) hx hb hr (fun t ht hW => ⟨_, rfl, by simp [sMo, c_1], ht⟩) (fun _ h => absurd h List.not_mem_nil) dX2_most_31
  by_cases c_2 : q1 = 1
  · refine lv_tableIn (off := 31) (tgt := 32) hx hb dX2_most_1 (by rw [c_2]; decide +kernel) (by rw [c_2]; decide +kernel) (by rw [c_2]; decide +kernel) (by decide) ?_
    refine lv_sipush (v := 200) hx hb dX2_most_32 (by decide) ?_
    exact W.iret (v := 200) hx hb hr (fun t ht hW => ⟨_, rfl, by simp [sMo, c_1, c_2], ht⟩) (fun _ h => absurd h List.not_mem_nil) dX2_most_35
  by_cases c_3 : q1 = 2
  · refine lv_tableIn (off := 35) (tgt := 36) hx hb dX2_most_1 (by rw [c_3]; decide +kernel) (by rw [c_3]; decide +kernel) (by rw [c_3]; decide +kernel) (by decide) ?_
    refine lv_bipush (v := 9) hx hb dX2_most_36 (by decide) ?_
    exact W.iret (v := 9) hx hb hr (fun t ht hW => ⟨_, rfl, by simp [sMo, c_1, c_2, c_3], ht⟩) (fun _ h => absurd h List.not_mem_nil) dX2_most_38
  refine lv_tableOut (tgt := 39) hx hb dX2_most_1 (by have q_1 : ¬ (q1).toInt = 0 := mt (xi_eq (q1) 0).mpr c_1; have q_2 : ¬ (q1).toInt = 1 := mt (xi_eq (q1) 1).mpr c_2; have q_3 : ¬ (q1).toInt = 2 := mt (xi_eq (q1) 2).mpr c_3; omega) (by decide) ?_
  refine lv_bipush (v := 60) hx hb dX2_most_39 (by decide) ?_
  exact W.iret (v := 60) hx hb hr (fun t ht hW => ⟨_, rfl, by simp [sMo, c_1, c_2, c_3], ht⟩) (fun _ h => absurd h List.not_mem_nil) dX2_most_41

set_option maxHeartbeats 4000000 in
set_option maxRecDepth 100000 in
theorem g_X2_setting (l : Launch) (D : va_G) (cI cL cZ cC : ClassId) (rd : Nat) (r0 : Nat) (r1 : Nat) (s0 : Int32) (ho : Int32) (pa : Int32) (si : Int32) (li : Int32) (lc : Int32) (q1 : Int32)  : Met l yX2_setting wsX2_setting ({ frames := 0, cells := 0, slots := 0, locals := 0 } : Room) (xPc D [.ref rd, .int q1] [(rd, .inr (2, [.int s0, .int ho, .int pa, .int si, .int li, .int lc, .ref r0, .ref r1]))] (xTy cI cL cZ cC)) (vp_Si (fun r : Int32 => r = sSe ho pa si li q1)) 0 0 (fun _ => False) := by
  refine Met.ofW (cc := cX2_setting) (maxL := 2) (ret := (some .int)) (by decide) rfl ?_
  intro p e s m args below meth c s₁ B hml hv
  obtain ⟨rfl, hP, hK⟩ := hv
  have hx := B.exec
  have hb := B.bytes
  have hr := B.returns
  have hts := atoms_spec (ws := wsX2_setting) B.pre
  have hown : s.vm.findClass RX2 = some m.cls := findClass_of_methodNamed B.named
  have hlocks := B.notSynchronized
  have hwX2 : ∀ w ∈ u_ws RX2 TX2 8, w ∈ wsX2_setting := fun _ h => List.mem_cons_of_mem _ (List.mem_append_right _ h)
  have hl := lv_entry ([.ref rd, .int q1]) (n := 2) (Nat.le_of_ble_eq_true rfl)
  rw [lg_entry_eq]
  generalize (lg_sl ([.ref rd, .int q1]) ++ List.replicate (2 - (lg_sl ([.ref rd, .int q1])).length) Slot.unset).toArray = ls at hl ⊢
  have hl : lv_has ls 2 [(0, .ref rd), (1, .int q1)] := hl
  refine lv_iload_n hx hb dX2_setting_0 rfl (lv_at hl 1 rfl) ?_
  by_cases c_1 : q1 = 0
  · refine lv_tableIn (off := 27) (tgt := 28) hx hb dX2_setting_1 (by rw [c_1]; decide +kernel) (by rw [c_1]; decide +kernel) (by rw [c_1]; decide +kernel) (by decide) ?_
    refine lv_aload_n hx hb dX2_setting_28 rfl (lv_at hl 0 rfl) ?_
    refine va_get (D := D) (ci := 2) (v := .int ho) (C := RX2) (T := TX2) (N := 8) hx hb hts hwX2 hown hK hP 0 rfl rfl 1 (by decide) (hts (.fieldLink RX2 15 "WaitOrWalkOn$Road" "home" "I") (by decide +kernel)) (fun _ h9 => h9) rfl dX2_setting_29 ?_
    exact W.iret (v := ho) hx hb hr (fun t ht hW => ⟨_, rfl, by simp [sSe, c_1], ht⟩) (fun _ h => absurd h List.not_mem_nil) dX2_setting_32
  by_cases c_2 : q1 = 1
  · refine lv_tableIn (off := 32) (tgt := 33) hx hb dX2_setting_1 (by rw [c_2]; decide +kernel) (by rw [c_2]; decide +kernel) (by rw [c_2]; decide +kernel) (by decide) ?_
    refine lv_aload_n hx hb dX2_setting_33 rfl (lv_at hl 0 rfl) ?_
    refine va_get (D := D) (ci := 2) (v := .int pa) (C := RX2) (T := TX2) (N := 8) hx hb hts hwX2 hown hK hP 0 rfl rfl 2 (by decide) (hts (.fieldLink RX2 18 "WaitOrWalkOn$Road" "pace" "I") (by decide +kernel)) (fun _ h9 => h9) rfl dX2_setting_34 ?_
    exact W.iret (v := pa) hx hb hr (fun t ht hW => ⟨_, rfl, by simp [sSe, c_1, c_2], ht⟩) (fun _ h => absurd h List.not_mem_nil) dX2_setting_37
  by_cases c_3 : q1 = 2
  · refine lv_tableIn (off := 37) (tgt := 38) hx hb dX2_setting_1 (by rw [c_3]; decide +kernel) (by rw [c_3]; decide +kernel) (by rw [c_3]; decide +kernel) (by decide) ?_
    refine lv_aload_n hx hb dX2_setting_38 rfl (lv_at hl 0 rfl) ?_
    refine va_get (D := D) (ci := 2) (v := .int si) (C := RX2) (T := TX2) (N := 8) hx hb hts hwX2 hown hK hP 0 rfl rfl 3 (by decide) (hts (.fieldLink RX2 21 "WaitOrWalkOn$Road" "sight" "I") (by decide +kernel)) (fun _ h9 => h9) rfl dX2_setting_39 ?_
    exact W.iret (v := si) hx hb hr (fun t ht hW => ⟨_, rfl, by simp [sSe, c_1, c_2, c_3], ht⟩) (fun _ h => absurd h List.not_mem_nil) dX2_setting_42
  refine lv_tableOut (tgt := 43) hx hb dX2_setting_1 (by have q_1 : ¬ (q1).toInt = 0 := mt (xi_eq (q1) 0).mpr c_1; have q_2 : ¬ (q1).toInt = 1 := mt (xi_eq (q1) 1).mpr c_2; have q_3 : ¬ (q1).toInt = 2 := mt (xi_eq (q1) 2).mpr c_3; omega) (by decide) ?_
  refine lv_aload_n hx hb dX2_setting_43 rfl (lv_at hl 0 rfl) ?_
  refine va_get (D := D) (ci := 2) (v := .int li) (C := RX2) (T := TX2) (N := 8) hx hb hts hwX2 hown hK hP 0 rfl rfl 4 (by decide) (hts (.fieldLink RX2 24 "WaitOrWalkOn$Road" "limit" "I") (by decide +kernel)) (fun _ h9 => h9) rfl dX2_setting_44 ?_
  exact W.iret (v := li) hx hb hr (fun t ht hW => ⟨_, rfl, by simp [sSe, c_1, c_2, c_3], ht⟩) (fun _ h => absurd h List.not_mem_nil) dX2_setting_47

set_option maxHeartbeats 4000000 in
set_option maxRecDepth 100000 in
theorem g_X2_change (l : Launch) (D : va_G) (cI cL cZ cC : ClassId) (sz : Nat) (rd : Nat) (r0 : Nat) (r1 : Nat) (s0 : Int32) (ho : Int32) (pa : Int32) (si : Int32) (li : Int32) (lc : Int32) (q1 : Int32) (v1 : Int32)  : Met l yX2_change wsX2_change ({ frames := 1, cells := 0, slots := 0, locals := 20 } : Room) (wPc D [.ref rd, .int q1, .int v1] [(rd, .inr (2, [.int s0, .int ho, .int pa, .int si, .int li, .int lc, .ref r0, .ref r1]))] (xTy cI cL cZ cC) sz) (va_Qi (fun (r : Int32) (_ : Unit) => r = sCh q1 v1) (fun (_ : Unit) t => va_P D vwCl [(rd, .inr (2, [.int s0, .int (xCg q1 v1 0 ho), .int (xCg q1 v1 1 pa), .int (xCg q1 v1 2 si), .int (xCl q1 v1 li), .int lc, .ref r0, .ref r1]))] t.heap ∧ va_D (va_A [(rd, .inr (2, [.int s0, .int ho, .int pa, .int si, .int li, .int lc, .ref r0, .ref r1]))] sz) [(rd, .inr (2, [.int s0, .int (xCg q1 v1 0 ho), .int (xCg q1 v1 1 pa), .int (xCg q1 v1 2 si), .int (xCl q1 v1 li), .int lc, .ref r0, .ref r1]))]) (va_A [(rd, .inr (2, [.int s0, .int ho, .int pa, .int si, .int li, .int lc, .ref r0, .ref r1]))] sz)) 0 0 (va_A [(rd, .inr (2, [.int s0, .int ho, .int pa, .int si, .int li, .int lc, .ref r0, .ref r1]))] sz) := by
  refine Met.ofW (cc := cX2_change) (maxL := 3) (ret := (some .boolean)) (by decide) rfl ?_
  intro p e s m args below meth c s₁ B hml hv
  obtain ⟨rfl, hsz, hP, hK, hD0⟩ := hv
  have hx := B.exec
  have hb := B.bytes
  have hr := B.returns
  have hts := atoms_spec (ws := wsX2_change) B.pre
  have hown : s.vm.findClass RX2 = some m.cls := findClass_of_methodNamed B.named
  have hlocks := B.notSynchronized
  have hwX2 : ∀ w ∈ u_ws RX2 TX2 8, w ∈ wsX2_change := fun _ h => List.mem_cons_of_mem _ (List.mem_append_right _ h)
  subst hsz
  have hD := hD0.self (sz := s.heap.size)
  generalize hAe : va_A [(rd, .inr (2, [.int s0, .int ho, .int pa, .int si, .int li, .int lc, .ref r0, .ref r1]))] s.heap.size = A at hD ⊢
  have hA : ∀ q : Nat, s.heap.size ≤ q → A q := fun q h => by rw [← hAe]; exact Or.inr h
  have hS : va_S A s.heap s.heap [] := va_S.rf
  have hP : va_P D vwCl [(rd, .inr (2, [.int s0, .int ho, .int pa, .int si, .int li, .int lc, .ref r0, .ref r1]))] s.heap := hP
  have hl := lv_entry ([.ref rd, .int q1, .int v1]) (n := 3) (Nat.le_of_ble_eq_true rfl)
  rw [lg_entry_eq]
  generalize (lg_sl ([.ref rd, .int q1, .int v1]) ++ List.replicate (3 - (lg_sl ([.ref rd, .int q1, .int v1])).length) Slot.unset).toArray = ls at hl ⊢
  have hl : lv_has ls 3 [(0, .ref rd), (1, .int q1), (2, .int v1)] := hl
  refine lv_iload_n hx hb dX2_change_0 rfl (lv_at hl 2 rfl) ?_
  refine lv_iload_n hx hb dX2_change_1 rfl (lv_at hl 1 rfl) ?_
  have hPc := hP.sub (ws' := []) [] rfl
  refine vp_callSi (va_Run.run (va_runS (As := [.int q1]) (rest := [.int v1]) ⟨hx, hb, hml, hown, hts⟩ (g_X2_least l D cI cL cZ cC q1 ) (va_cwS 1 hts gX2_change_X2_least rfl rfl rfl (by decide +kernel) ⟨Nat.le_of_ble_eq_true rfl, Nat.le_of_ble_eq_true rfl⟩) ⟨xPc_bl, xPc_use hPc hK⟩ rfl rfl hl.1 rfl (lv_room (Nat.le_of_ble_eq_true rfl)) dX2_change_2 ⟨Nat.le_of_ble_eq_true rfl, Nat.le_of_ble_eq_true rfl⟩)) (fun r_1 er_1 => ?_)
  obtain rfl : (sLe q1 : Int32) = r_1 := Eq.symm er_1
  refine lv_icmp_lt (tgt := 16) hx hb dX2_change_5 (by decide) (fun c_2 => ?_) (fun c_2 => ?_)
  · refine lv_iconst (v := 0) hx hb dX2_change_16 (by decide) ?_
    have hP9 := hP.sub (ws' := [(rd, .inr (2, [.int s0, .int ho, .int pa, .int si, .int li, .int lc, .ref r0, .ref r1]))]) [0] rfl
    have hD9 := hD.sub (ws' := [(rd, .inr (2, [.int s0, .int ho, .int pa, .int si, .int li, .int lc, .ref r0, .ref r1]))]) [0] (by decide) rfl
    have hE9 : ([(rd, .inr (2, [.int s0, .int ho, .int pa, .int si, .int li, .int lc, .ref r0, .ref r1]))] : va_W) = [(rd, .inr (2, [.int s0, .int (xCg q1 v1 0 ho), .int (xCg q1 v1 1 pa), .int (xCg q1 v1 2 si), .int (xCl q1 v1 li), .int lc, .ref r0, .ref r1]))] := by simp [xCg, xCl, c_2]
    exact W.zret (v := 0) (ty := .boolean) hx hb hr (by decide +kernel) (fun t ht hW => ⟨⟨_, (), rfl, by simp [sCh, c_2], by rw [ht]; exact hE9 ▸ hP9, hE9 ▸ hD9⟩, hS.F ht⟩) hS.2.2 dX2_change_17
  · refine lv_iload_n hx hb dX2_change_8 rfl (lv_at hl 2 rfl) ?_
    refine lv_iload_n hx hb dX2_change_9 rfl (lv_at hl 1 rfl) ?_
    have hPc := hP.sub (ws' := []) [] rfl
    refine vp_callSi (va_Run.run (va_runS (As := [.int q1]) (rest := [.int v1]) ⟨hx, hb, hml, hown, hts⟩ (g_X2_most l D cI cL cZ cC q1 ) (va_cwS 1 hts gX2_change_X2_most rfl rfl rfl (by decide +kernel) ⟨Nat.le_of_ble_eq_true rfl, Nat.le_of_ble_eq_true rfl⟩) ⟨xPc_bl, xPc_use hPc hK⟩ rfl rfl hl.1 rfl (lv_room (Nat.le_of_ble_eq_true rfl)) dX2_change_10 ⟨Nat.le_of_ble_eq_true rfl, Nat.le_of_ble_eq_true rfl⟩)) (fun r_3 er_3 => ?_)
    obtain rfl : (sMo q1 : Int32) = r_3 := Eq.symm er_3
    refine lv_icmp_le (tgt := 18) hx hb dX2_change_13 (by decide) (fun c_4 => ?_) (fun c_4 => ?_)
    · refine lv_iload_n hx hb dX2_change_18 rfl (lv_at hl 1 rfl) ?_
      by_cases c_5 : q1 = 0
      · refine lv_tableIn (off := 25) (tgt := 44) hx hb dX2_change_19 (by rw [c_5]; decide +kernel) (by rw [c_5]; decide +kernel) (by rw [c_5]; decide +kernel) (by decide) ?_
        refine lv_aload_n hx hb dX2_change_44 rfl (lv_at hl 0 rfl) ?_
        refine lv_iload_n hx hb dX2_change_45 rfl (lv_at hl 2 rfl) ?_
        refine va_put (D := D) (ci := 2) (v := .int v1) (ty := .int) (C := RX2) (T := TX2) (N := 8) hx hb hts hwX2 tyX2 tyX2_ok nmX2 hown hK hP hD hS 0 rfl rfl 1 (by decide) (hts (.fieldLink RX2 15 "WaitOrWalkOn$Road" "home" "I") (by decide +kernel)) (fun _ h9 => h9) rfl (by decide +kernel) rfl rfl (Nat.le_of_ble_eq_true rfl) dX2_change_46 (fun H locs hP hD hS => ?_)
        have hP : va_P D vwCl [(rd, .inr (2, [.int s0, .int v1, .int pa, .int si, .int li, .int lc, .ref r0, .ref r1]))] H := hP
        have hD : va_D A [(rd, .inr (2, [.int s0, .int v1, .int pa, .int si, .int li, .int lc, .ref r0, .ref r1]))] := hD
        refine lv_goto (tgt := 73) hx hb dX2_change_49 (by decide) ?_
        refine lv_iconst (v := 1) hx hb dX2_change_73 (by decide) ?_
        have hP9 := hP.sub (ws' := [(rd, .inr (2, [.int s0, .int v1, .int pa, .int si, .int li, .int lc, .ref r0, .ref r1]))]) [0] rfl
        have hD9 := hD.sub (ws' := [(rd, .inr (2, [.int s0, .int v1, .int pa, .int si, .int li, .int lc, .ref r0, .ref r1]))]) [0] (by decide) rfl
        have hE9 : ([(rd, .inr (2, [.int s0, .int v1, .int pa, .int si, .int li, .int lc, .ref r0, .ref r1]))] : va_W) = [(rd, .inr (2, [.int s0, .int (xCg q1 v1 0 ho), .int (xCg q1 v1 1 pa), .int (xCg q1 v1 2 si), .int (xCl q1 v1 li), .int lc, .ref r0, .ref r1]))] := by rw [xCg_ok c_2 (Int32.not_lt.mpr c_4), xCg_ok c_2 (Int32.not_lt.mpr c_4), xCg_ok c_2 (Int32.not_lt.mpr c_4), xCl_ok c_2 (Int32.not_lt.mpr c_4)]; simp [c_5]
        exact W.zret (v := 1) (ty := .boolean) hx hb hr (by decide +kernel) (fun t ht hW => ⟨⟨_, (), rfl, (sCh_ok c_2 (Int32.not_lt.mpr c_4)).symm, by rw [ht]; exact hE9 ▸ hP9, hE9 ▸ hD9⟩, hS.F ht⟩) hS.2.2 dX2_change_74
      by_cases c_6 : q1 = 1
      · refine lv_tableIn (off := 33) (tgt := 52) hx hb dX2_change_19 (by rw [c_6]; decide +kernel) (by rw [c_6]; decide +kernel) (by rw [c_6]; decide +kernel) (by decide) ?_
        refine lv_aload_n hx hb dX2_change_52 rfl (lv_at hl 0 rfl) ?_
        refine lv_iload_n hx hb dX2_change_53 rfl (lv_at hl 2 rfl) ?_
        refine va_put (D := D) (ci := 2) (v := .int v1) (ty := .int) (C := RX2) (T := TX2) (N := 8) hx hb hts hwX2 tyX2 tyX2_ok nmX2 hown hK hP hD hS 0 rfl rfl 2 (by decide) (hts (.fieldLink RX2 18 "WaitOrWalkOn$Road" "pace" "I") (by decide +kernel)) (fun _ h9 => h9) rfl (by decide +kernel) rfl rfl (Nat.le_of_ble_eq_true rfl) dX2_change_54 (fun H locs hP hD hS => ?_)
        have hP : va_P D vwCl [(rd, .inr (2, [.int s0, .int ho, .int v1, .int si, .int li, .int lc, .ref r0, .ref r1]))] H := hP
        have hD : va_D A [(rd, .inr (2, [.int s0, .int ho, .int v1, .int si, .int li, .int lc, .ref r0, .ref r1]))] := hD
        refine lv_goto (tgt := 73) hx hb dX2_change_57 (by decide) ?_
        refine lv_iconst (v := 1) hx hb dX2_change_73 (by decide) ?_
        have hP9 := hP.sub (ws' := [(rd, .inr (2, [.int s0, .int ho, .int v1, .int si, .int li, .int lc, .ref r0, .ref r1]))]) [0] rfl
        have hD9 := hD.sub (ws' := [(rd, .inr (2, [.int s0, .int ho, .int v1, .int si, .int li, .int lc, .ref r0, .ref r1]))]) [0] (by decide) rfl
        have hE9 : ([(rd, .inr (2, [.int s0, .int ho, .int v1, .int si, .int li, .int lc, .ref r0, .ref r1]))] : va_W) = [(rd, .inr (2, [.int s0, .int (xCg q1 v1 0 ho), .int (xCg q1 v1 1 pa), .int (xCg q1 v1 2 si), .int (xCl q1 v1 li), .int lc, .ref r0, .ref r1]))] := by rw [xCg_ok c_2 (Int32.not_lt.mpr c_4), xCg_ok c_2 (Int32.not_lt.mpr c_4), xCg_ok c_2 (Int32.not_lt.mpr c_4), xCl_ok c_2 (Int32.not_lt.mpr c_4)]; simp [c_5, c_6]
        exact W.zret (v := 1) (ty := .boolean) hx hb hr (by decide +kernel) (fun t ht hW => ⟨⟨_, (), rfl, (sCh_ok c_2 (Int32.not_lt.mpr c_4)).symm, by rw [ht]; exact hE9 ▸ hP9, hE9 ▸ hD9⟩, hS.F ht⟩) hS.2.2 dX2_change_74
      by_cases c_7 : q1 = 2
      · refine lv_tableIn (off := 41) (tgt := 60) hx hb dX2_change_19 (by rw [c_7]; decide +kernel) (by rw [c_7]; decide +kernel) (by rw [c_7]; decide +kernel) (by decide) ?_
        refine lv_aload_n hx hb dX2_change_60 rfl (lv_at hl 0 rfl) ?_
        refine lv_iload_n hx hb dX2_change_61 rfl (lv_at hl 2 rfl) ?_
        refine va_put (D := D) (ci := 2) (v := .int v1) (ty := .int) (C := RX2) (T := TX2) (N := 8) hx hb hts hwX2 tyX2 tyX2_ok nmX2 hown hK hP hD hS 0 rfl rfl 3 (by decide) (hts (.fieldLink RX2 21 "WaitOrWalkOn$Road" "sight" "I") (by decide +kernel)) (fun _ h9 => h9) rfl (by decide +kernel) rfl rfl (Nat.le_of_ble_eq_true rfl) dX2_change_62 (fun H locs hP hD hS => ?_)
        have hP : va_P D vwCl [(rd, .inr (2, [.int s0, .int ho, .int pa, .int v1, .int li, .int lc, .ref r0, .ref r1]))] H := hP
        have hD : va_D A [(rd, .inr (2, [.int s0, .int ho, .int pa, .int v1, .int li, .int lc, .ref r0, .ref r1]))] := hD
        refine lv_goto (tgt := 73) hx hb dX2_change_65 (by decide) ?_
        refine lv_iconst (v := 1) hx hb dX2_change_73 (by decide) ?_
        have hP9 := hP.sub (ws' := [(rd, .inr (2, [.int s0, .int ho, .int pa, .int v1, .int li, .int lc, .ref r0, .ref r1]))]) [0] rfl
        have hD9 := hD.sub (ws' := [(rd, .inr (2, [.int s0, .int ho, .int pa, .int v1, .int li, .int lc, .ref r0, .ref r1]))]) [0] (by decide) rfl
        have hE9 : ([(rd, .inr (2, [.int s0, .int ho, .int pa, .int v1, .int li, .int lc, .ref r0, .ref r1]))] : va_W) = [(rd, .inr (2, [.int s0, .int (xCg q1 v1 0 ho), .int (xCg q1 v1 1 pa), .int (xCg q1 v1 2 si), .int (xCl q1 v1 li), .int lc, .ref r0, .ref r1]))] := by rw [xCg_ok c_2 (Int32.not_lt.mpr c_4), xCg_ok c_2 (Int32.not_lt.mpr c_4), xCg_ok c_2 (Int32.not_lt.mpr c_4), xCl_ok c_2 (Int32.not_lt.mpr c_4)]; simp [c_5, c_6, c_7]
        exact W.zret (v := 1) (ty := .boolean) hx hb hr (by decide +kernel) (fun t ht hW => ⟨⟨_, (), rfl, (sCh_ok c_2 (Int32.not_lt.mpr c_4)).symm, by rw [ht]; exact hE9 ▸ hP9, hE9 ▸ hD9⟩, hS.F ht⟩) hS.2.2 dX2_change_74
      refine lv_tableOut (tgt := 68) hx hb dX2_change_19 (by have q_5 : ¬ (q1).toInt = 0 := mt (xi_eq (q1) 0).mpr c_5; have q_6 : ¬ (q1).toInt = 1 := mt (xi_eq (q1) 1).mpr c_6; have q_7 : ¬ (q1).toInt = 2 := mt (xi_eq (q1) 2).mpr c_7; omega) (by decide) ?_
      refine lv_aload_n hx hb dX2_change_68 rfl (lv_at hl 0 rfl) ?_
      refine lv_iload_n hx hb dX2_change_69 rfl (lv_at hl 2 rfl) ?_
      refine va_put (D := D) (ci := 2) (v := .int v1) (ty := .int) (C := RX2) (T := TX2) (N := 8) hx hb hts hwX2 tyX2 tyX2_ok nmX2 hown hK hP hD hS 0 rfl rfl 4 (by decide) (hts (.fieldLink RX2 24 "WaitOrWalkOn$Road" "limit" "I") (by decide +kernel)) (fun _ h9 => h9) rfl (by decide +kernel) rfl rfl (Nat.le_of_ble_eq_true rfl) dX2_change_70 (fun H locs hP hD hS => ?_)
      have hP : va_P D vwCl [(rd, .inr (2, [.int s0, .int ho, .int pa, .int si, .int v1, .int lc, .ref r0, .ref r1]))] H := hP
      have hD : va_D A [(rd, .inr (2, [.int s0, .int ho, .int pa, .int si, .int v1, .int lc, .ref r0, .ref r1]))] := hD
      refine lv_iconst (v := 1) hx hb dX2_change_73 (by decide) ?_
      have hP9 := hP.sub (ws' := [(rd, .inr (2, [.int s0, .int ho, .int pa, .int si, .int v1, .int lc, .ref r0, .ref r1]))]) [0] rfl
      have hD9 := hD.sub (ws' := [(rd, .inr (2, [.int s0, .int ho, .int pa, .int si, .int v1, .int lc, .ref r0, .ref r1]))]) [0] (by decide) rfl
      have hE9 : ([(rd, .inr (2, [.int s0, .int ho, .int pa, .int si, .int v1, .int lc, .ref r0, .ref r1]))] : va_W) = [(rd, .inr (2, [.int s0, .int (xCg q1 v1 0 ho), .int (xCg q1 v1 1 pa), .int (xCg q1 v1 2 si), .int (xCl q1 v1 li), .int lc, .ref r0, .ref r1]))] := by rw [xCg_ok c_2 (Int32.not_lt.mpr c_4), xCg_ok c_2 (Int32.not_lt.mpr c_4), xCg_ok c_2 (Int32.not_lt.mpr c_4), xCl_ok c_2 (Int32.not_lt.mpr c_4)]; simp [c_5, c_6, c_7]
      exact W.zret (v := 1) (ty := .boolean) hx hb hr (by decide +kernel) (fun t ht hW => ⟨⟨_, (), rfl, (sCh_ok c_2 (Int32.not_lt.mpr c_4)).symm, by rw [ht]; exact hE9 ▸ hP9, hE9 ▸ hD9⟩, hS.F ht⟩) hS.2.2 dX2_change_74
    · refine lv_iconst (v := 0) hx hb dX2_change_16 (by decide) ?_
      have hP9 := hP.sub (ws' := [(rd, .inr (2, [.int s0, .int ho, .int pa, .int si, .int li, .int lc, .ref r0, .ref r1]))]) [0] rfl
      have hD9 := hD.sub (ws' := [(rd, .inr (2, [.int s0, .int ho, .int pa, .int si, .int li, .int lc, .ref r0, .ref r1]))]) [0] (by decide) rfl
      have hE9 : ([(rd, .inr (2, [.int s0, .int ho, .int pa, .int si, .int li, .int lc, .ref r0, .ref r1]))] : va_W) = [(rd, .inr (2, [.int s0, .int (xCg q1 v1 0 ho), .int (xCg q1 v1 1 pa), .int (xCg q1 v1 2 si), .int (xCl q1 v1 li), .int lc, .ref r0, .ref r1]))] := by simp [xCg, xCl, c_2, (Int32.not_le.mp c_4)]
      exact W.zret (v := 0) (ty := .boolean) hx hb hr (by decide +kernel) (fun t ht hW => ⟨⟨_, (), rfl, by simp [sCh, c_2, (Int32.not_le.mp c_4)], by rw [ht]; exact hE9 ▸ hP9, hE9 ▸ hD9⟩, hS.F ht⟩) hS.2.2 dX2_change_17

set_option maxHeartbeats 4000000 in
set_option maxRecDepth 100000 in
theorem g_X2_addStop (l : Launch) (D : va_G) (cI cL cZ cC : ClassId) (sz : Nat) (rd : Nat) (r0 : Nat) (r1 : Nat) (st : Nat) (ho : Int32) (pa : Int32) (si : Int32) (li : Int32) (lc : Int32) (lg : Nat → Int32) (v1 : Int32) (hs1 : 1 ≤ st) (hs7 : st ≤ 7) : Met l yX2_addStop wsX2_addStop ({ frames := 0, cells := 0, slots := 0, locals := 0 } : Room) (wPc D [.ref rd, .int v1] [(rd, .inr (2, [.int (nI st), .int ho, .int pa, .int si, .int li, .int lc, .ref r0, .ref r1])), (r0, .inl (cI, 7, .inl lg))] (xTy cI cL cZ cC) sz) (va_Qi (fun (r : Int32) (_ : Unit) => r = sAs st v1) (fun (_ : Unit) t => va_P D vwCl [(rd, .inr (2, [.int (nI (xAsN st v1)), .int ho, .int pa, .int si, .int li, .int lc, .ref r0, .ref r1])), (r0, .inl (cI, 7, .inl (xAsL st v1 lg)))] t.heap ∧ va_D (va_A [(rd, .inr (2, [.int (nI st), .int ho, .int pa, .int si, .int li, .int lc, .ref r0, .ref r1])), (r0, .inl (cI, 7, .inl lg))] sz) [(rd, .inr (2, [.int (nI (xAsN st v1)), .int ho, .int pa, .int si, .int li, .int lc, .ref r0, .ref r1])), (r0, .inl (cI, 7, .inl (xAsL st v1 lg)))]) (va_A [(rd, .inr (2, [.int (nI st), .int ho, .int pa, .int si, .int li, .int lc, .ref r0, .ref r1])), (r0, .inl (cI, 7, .inl lg))] sz)) 0 0 (va_A [(rd, .inr (2, [.int (nI st), .int ho, .int pa, .int si, .int li, .int lc, .ref r0, .ref r1])), (r0, .inl (cI, 7, .inl lg))] sz) := by
  refine Met.ofW (cc := cX2_addStop) (maxL := 2) (ret := (some .boolean)) (by decide) rfl ?_
  intro p e s m args below meth c s₁ B hml hv
  obtain ⟨rfl, hsz, hP, hK, hD0⟩ := hv
  have hx := B.exec
  have hb := B.bytes
  have hr := B.returns
  have hts := atoms_spec (ws := wsX2_addStop) B.pre
  have hown : s.vm.findClass RX2 = some m.cls := findClass_of_methodNamed B.named
  have hlocks := B.notSynchronized
  have hwX2 : ∀ w ∈ u_ws RX2 TX2 8, w ∈ wsX2_addStop := fun _ h => List.mem_cons_of_mem _ (List.mem_append_right _ h)
  subst hsz
  have hD := hD0.self (sz := s.heap.size)
  generalize hAe : va_A [(rd, .inr (2, [.int (nI st), .int ho, .int pa, .int si, .int li, .int lc, .ref r0, .ref r1])), (r0, .inl (cI, 7, .inl lg))] s.heap.size = A at hD ⊢
  have hA : ∀ q : Nat, s.heap.size ≤ q → A q := fun q h => by rw [← hAe]; exact Or.inr h
  have hS : va_S A s.heap s.heap [] := va_S.rf
  have hP : va_P D vwCl [(rd, .inr (2, [.int (nI st), .int ho, .int pa, .int si, .int li, .int lc, .ref r0, .ref r1])), (r0, .inl (cI, 7, .inl lg))] s.heap := hP
  have hl := lv_entry ([.ref rd, .int v1]) (n := 2) (Nat.le_of_ble_eq_true rfl)
  rw [lg_entry_eq]
  generalize (lg_sl ([.ref rd, .int v1]) ++ List.replicate (2 - (lg_sl ([.ref rd, .int v1])).length) Slot.unset).toArray = ls at hl ⊢
  have hl : lv_has ls 2 [(0, .ref rd), (1, .int v1)] := hl
  refine lv_iload_n hx hb dX2_addStop_0 rfl (lv_at hl 1 rfl) ?_
  refine lv_iconst (v := 1) hx hb dX2_addStop_1 (by decide) ?_
  refine lv_icmp_lt (tgt := 21) hx hb dX2_addStop_2 (by decide) (fun c_1 => ?_) (fun c_1 => ?_)
  · refine lv_iconst (v := 0) hx hb dX2_addStop_21 (by decide) ?_
    have hP9 := hP.sub (ws' := [(rd, .inr (2, [.int (nI st), .int ho, .int pa, .int si, .int li, .int lc, .ref r0, .ref r1])), (r0, .inl (cI, 7, .inl lg))]) [0, 1] rfl
    have hD9 := hD.sub (ws' := [(rd, .inr (2, [.int (nI st), .int ho, .int pa, .int si, .int li, .int lc, .ref r0, .ref r1])), (r0, .inl (cI, 7, .inl lg))]) [0, 1] (by decide) rfl
    have hE9 : ([(rd, .inr (2, [.int (nI st), .int ho, .int pa, .int si, .int li, .int lc, .ref r0, .ref r1])), (r0, .inl (cI, 7, .inl lg))] : va_W) = [(rd, .inr (2, [.int (nI (xAsN st v1)), .int ho, .int pa, .int si, .int li, .int lc, .ref r0, .ref r1])), (r0, .inl (cI, 7, .inl (xAsL st v1 lg)))] := by simp [xAsN, xAsL, c_1]
    exact W.zret (v := 0) (ty := .boolean) hx hb hr (by decide +kernel) (fun t ht hW => ⟨⟨_, (), rfl, by simp [sAs, c_1], by rw [ht]; exact hE9 ▸ hP9, hE9 ▸ hD9⟩, hS.F ht⟩) hS.2.2 dX2_addStop_22
  · refine lv_iload_n hx hb dX2_addStop_5 rfl (lv_at hl 1 rfl) ?_
    refine lv_sipush (v := 999) hx hb dX2_addStop_6 (by decide) ?_
    refine lv_icmp_gt (tgt := 21) hx hb dX2_addStop_9 (by decide) (fun c_2 => ?_) (fun c_2 => ?_)
    · refine lv_iconst (v := 0) hx hb dX2_addStop_21 (by decide) ?_
      have hP9 := hP.sub (ws' := [(rd, .inr (2, [.int (nI st), .int ho, .int pa, .int si, .int li, .int lc, .ref r0, .ref r1])), (r0, .inl (cI, 7, .inl lg))]) [0, 1] rfl
      have hD9 := hD.sub (ws' := [(rd, .inr (2, [.int (nI st), .int ho, .int pa, .int si, .int li, .int lc, .ref r0, .ref r1])), (r0, .inl (cI, 7, .inl lg))]) [0, 1] (by decide) rfl
      have hE9 : ([(rd, .inr (2, [.int (nI st), .int ho, .int pa, .int si, .int li, .int lc, .ref r0, .ref r1])), (r0, .inl (cI, 7, .inl lg))] : va_W) = [(rd, .inr (2, [.int (nI (xAsN st v1)), .int ho, .int pa, .int si, .int li, .int lc, .ref r0, .ref r1])), (r0, .inl (cI, 7, .inl (xAsL st v1 lg)))] := by simp [xAsN, xAsL, c_1, c_2]
      exact W.zret (v := 0) (ty := .boolean) hx hb hr (by decide +kernel) (fun t ht hW => ⟨⟨_, (), rfl, by simp [sAs, c_1, c_2], by rw [ht]; exact hE9 ▸ hP9, hE9 ▸ hD9⟩, hS.F ht⟩) hS.2.2 dX2_addStop_22
    · refine lv_aload_n hx hb dX2_addStop_12 rfl (lv_at hl 0 rfl) ?_
      refine va_get (D := D) (ci := 2) (v := .int (nI st)) (C := RX2) (T := TX2) (N := 8) hx hb hts hwX2 hown hK hP 0 rfl rfl 0 (by decide) (hts (.fieldLink RX2 9 "WaitOrWalkOn$Road" "stops" "I") (by decide +kernel)) (fun _ h9 => h9) rfl dX2_addStop_13 ?_
      refine lv_bipush (v := 7) hx hb dX2_addStop_16 (by decide) ?_
      refine lv_icmp_lt (tgt := 23) hx hb dX2_addStop_18 (by decide) (fun c_3 => ?_) (fun c_3 => ?_)
      · refine lv_aload_n hx hb dX2_addStop_23 rfl (lv_at hl 0 rfl) ?_
        refine va_get (D := D) (ci := 2) (v := .ref r0) (C := RX2) (T := TX2) (N := 8) hx hb hts hwX2 hown hK hP 0 rfl rfl 6 (by decide) (hts (.fieldLink RX2 30 "WaitOrWalkOn$Road" "legs" "[I") (by decide +kernel)) (fun _ h9 => h9) rfl dX2_addStop_24 ?_
        refine lv_aload_n hx hb dX2_addStop_27 rfl (lv_at hl 0 rfl) ?_
        refine va_get (D := D) (ci := 2) (v := .int (nI st)) (C := RX2) (T := TX2) (N := 8) hx hb hts hwX2 hown hK hP 0 rfl rfl 0 (by decide) (hts (.fieldLink RX2 9 "WaitOrWalkOn$Road" "stops" "I") (by decide +kernel)) (fun _ h9 => h9) rfl dX2_addStop_28 ?_
        refine lv_iload_n hx hb dX2_addStop_31 rfl (lv_at hl 1 rfl) ?_
        refine va_iast (D := D) hx hb hK hP hD hS 1 0 rfl rfl (vp_in_nI (by have w := (nI_ltI (a := st) (b := 7) (by omega) (by omega)).mp c_3; omega) (by decide)) dX2_addStop_32 (fun H locs hP hD hS => ?_)
        rw [nI_clamp (by omega)] at hP hD
        have hP : va_P D vwCl [(rd, .inr (2, [.int (nI st), .int ho, .int pa, .int si, .int li, .int lc, .ref r0, .ref r1])), (r0, .inl (cI, 7, .inl (upd lg st v1)))] H := hP
        have hD : va_D A [(rd, .inr (2, [.int (nI st), .int ho, .int pa, .int si, .int li, .int lc, .ref r0, .ref r1])), (r0, .inl (cI, 7, .inl (upd lg st v1)))] := hD
        refine lv_aload_n hx hb dX2_addStop_33 rfl (lv_at hl 0 rfl) ?_
        refine lv_dup hx hb dX2_addStop_34 rfl ?_
        refine va_get (D := D) (ci := 2) (v := .int (nI st)) (C := RX2) (T := TX2) (N := 8) hx hb hts hwX2 hown hK hP 0 rfl rfl 0 (by decide) (hts (.fieldLink RX2 9 "WaitOrWalkOn$Road" "stops" "I") (by decide +kernel)) (fun _ h9 => h9) rfl dX2_addStop_35 ?_
        refine lv_iconst (v := 1) hx hb dX2_addStop_38 (by decide) ?_
        refine lv_iadd hx hb dX2_addStop_39 ?_
        refine xv_int (y := nI (st + 1)) (nI_1 st) ?_
        refine va_put (D := D) (ci := 2) (v := .int (nI (st + 1))) (ty := .int) (C := RX2) (T := TX2) (N := 8) hx hb hts hwX2 tyX2 tyX2_ok nmX2 hown hK hP hD hS 0 rfl rfl 0 (by decide) (hts (.fieldLink RX2 9 "WaitOrWalkOn$Road" "stops" "I") (by decide +kernel)) (fun _ h9 => h9) rfl (by decide +kernel) rfl rfl (Nat.le_of_ble_eq_true rfl) dX2_addStop_40 (fun H locs hP hD hS => ?_)
        have hP : va_P D vwCl [(rd, .inr (2, [.int (nI (st + 1)), .int ho, .int pa, .int si, .int li, .int lc, .ref r0, .ref r1])), (r0, .inl (cI, 7, .inl (upd lg st v1)))] H := hP
        have hD : va_D A [(rd, .inr (2, [.int (nI (st + 1)), .int ho, .int pa, .int si, .int li, .int lc, .ref r0, .ref r1])), (r0, .inl (cI, 7, .inl (upd lg st v1)))] := hD
        refine lv_iconst (v := 1) hx hb dX2_addStop_43 (by decide) ?_
        have hP9 := hP.sub (ws' := [(rd, .inr (2, [.int (nI (st + 1)), .int ho, .int pa, .int si, .int li, .int lc, .ref r0, .ref r1])), (r0, .inl (cI, 7, .inl (upd lg st v1)))]) [0, 1] rfl
        have hD9 := hD.sub (ws' := [(rd, .inr (2, [.int (nI (st + 1)), .int ho, .int pa, .int si, .int li, .int lc, .ref r0, .ref r1])), (r0, .inl (cI, 7, .inl (upd lg st v1)))]) [0, 1] (by decide) rfl
        have hE9 : ([(rd, .inr (2, [.int (nI (st + 1)), .int ho, .int pa, .int si, .int li, .int lc, .ref r0, .ref r1])), (r0, .inl (cI, 7, .inl (upd lg st v1)))] : va_W) = [(rd, .inr (2, [.int (nI (xAsN st v1)), .int ho, .int pa, .int si, .int li, .int lc, .ref r0, .ref r1])), (r0, .inl (cI, 7, .inl (xAsL st v1 lg)))] := by simp [xAsN, xAsL, c_1, c_2, (nI_ltI (a := st) (b := 7) (by omega) (by omega)).mp c_3]
        exact W.zret (v := 1) (ty := .boolean) hx hb hr (by decide +kernel) (fun t ht hW => ⟨⟨_, (), rfl, by simp [sAs, c_1, c_2, (nI_ltI (a := st) (b := 7) (by omega) (by omega)).mp c_3], by rw [ht]; exact hE9 ▸ hP9, hE9 ▸ hD9⟩, hS.F ht⟩) hS.2.2 dX2_addStop_44
      · refine lv_iconst (v := 0) hx hb dX2_addStop_21 (by decide) ?_
        have hP9 := hP.sub (ws' := [(rd, .inr (2, [.int (nI st), .int ho, .int pa, .int si, .int li, .int lc, .ref r0, .ref r1])), (r0, .inl (cI, 7, .inl lg))]) [0, 1] rfl
        have hD9 := hD.sub (ws' := [(rd, .inr (2, [.int (nI st), .int ho, .int pa, .int si, .int li, .int lc, .ref r0, .ref r1])), (r0, .inl (cI, 7, .inl lg))]) [0, 1] (by decide) rfl
        have hE9 : ([(rd, .inr (2, [.int (nI st), .int ho, .int pa, .int si, .int li, .int lc, .ref r0, .ref r1])), (r0, .inl (cI, 7, .inl lg))] : va_W) = [(rd, .inr (2, [.int (nI (xAsN st v1)), .int ho, .int pa, .int si, .int li, .int lc, .ref r0, .ref r1])), (r0, .inl (cI, 7, .inl (xAsL st v1 lg)))] := by simp [xAsN, xAsL, c_1, c_2, mt (nI_ltI (a := st) (b := 7) (by omega) (by omega)).mpr c_3]
        exact W.zret (v := 0) (ty := .boolean) hx hb hr (by decide +kernel) (fun t ht hW => ⟨⟨_, (), rfl, by simp [sAs, c_1, c_2, mt (nI_ltI (a := st) (b := 7) (by omega) (by omega)).mpr c_3], by rw [ht]; exact hE9 ▸ hP9, hE9 ▸ hD9⟩, hS.F ht⟩) hS.2.2 dX2_addStop_22

set_option maxHeartbeats 4000000 in
set_option maxRecDepth 100000 in
theorem g_X4_refuse (l : Launch) (D : va_G) (cI cL cZ cC : ClassId) (sz : Nat) (h0 : Nat) (rd : Nat) (dr : Nat) (kp : Nat) (pl : Nat) (tx : Nat) (nu : Nat) (rf_a : Nat) (nc : Int32) (hi : Int32) (pd : Int32) (rf : Nat → Int32) (q1 : Int32) (h1 : 0 < -q1) (h2 : -q1 < 7) : Met l yX4_refuse wsX4_refuse ({ frames := 0, cells := 0, slots := 0, locals := 0 } : Room) (wPc D [.ref h0, .int q1] [(h0, .inr (4, [.ref rd, .ref dr, .ref kp, .ref pl, .ref tx, .ref nu, .ref rf_a, .int nc, .int hi, .int pd])), (rf_a, .inl (cI, 7, .inl rf))] (xTy cI cL cZ cC) sz) (va_Qi (fun (r : Int32) (_ : Unit) => r = q1) (fun (_ : Unit) t => va_P D vwCl [(h0, .inr (4, [.ref rd, .ref dr, .ref kp, .ref pl, .ref tx, .ref nu, .ref rf_a, .int nc, .int hi, .int pd])), (rf_a, .inl (cI, 7, .inl (xRf rf q1)))] t.heap ∧ va_D (va_A [(h0, .inr (4, [.ref rd, .ref dr, .ref kp, .ref pl, .ref tx, .ref nu, .ref rf_a, .int nc, .int hi, .int pd])), (rf_a, .inl (cI, 7, .inl rf))] sz) [(h0, .inr (4, [.ref rd, .ref dr, .ref kp, .ref pl, .ref tx, .ref nu, .ref rf_a, .int nc, .int hi, .int pd])), (rf_a, .inl (cI, 7, .inl (xRf rf q1)))]) (va_A [(h0, .inr (4, [.ref rd, .ref dr, .ref kp, .ref pl, .ref tx, .ref nu, .ref rf_a, .int nc, .int hi, .int pd])), (rf_a, .inl (cI, 7, .inl rf))] sz)) 0 0 (va_A [(h0, .inr (4, [.ref rd, .ref dr, .ref kp, .ref pl, .ref tx, .ref nu, .ref rf_a, .int nc, .int hi, .int pd])), (rf_a, .inl (cI, 7, .inl rf))] sz) := by
  refine Met.ofW (cc := cX4_refuse) (maxL := 3) (ret := (some .int)) (by decide) rfl ?_
  intro p e s m args below meth c s₁ B hml hv
  obtain ⟨rfl, hsz, hP, hK, hD0⟩ := hv
  have hx := B.exec
  have hb := B.bytes
  have hr := B.returns
  have hts := atoms_spec (ws := wsX4_refuse) B.pre
  have hown : s.vm.findClass RX4 = some m.cls := findClass_of_methodNamed B.named
  have hlocks := B.notSynchronized
  have hwX4 : ∀ w ∈ u_ws RX4 TX4 10, w ∈ wsX4_refuse := fun _ h => List.mem_cons_of_mem _ (List.mem_append_right _ h)
  subst hsz
  have hD := hD0.self (sz := s.heap.size)
  generalize hAe : va_A [(h0, .inr (4, [.ref rd, .ref dr, .ref kp, .ref pl, .ref tx, .ref nu, .ref rf_a, .int nc, .int hi, .int pd])), (rf_a, .inl (cI, 7, .inl rf))] s.heap.size = A at hD ⊢
  have hA : ∀ q : Nat, s.heap.size ≤ q → A q := fun q h => by rw [← hAe]; exact Or.inr h
  have hS : va_S A s.heap s.heap [] := va_S.rf
  have hP : va_P D vwCl [(h0, .inr (4, [.ref rd, .ref dr, .ref kp, .ref pl, .ref tx, .ref nu, .ref rf_a, .int nc, .int hi, .int pd])), (rf_a, .inl (cI, 7, .inl rf))] s.heap := hP
  have hl := lv_entry ([.ref h0, .int q1]) (n := 3) (Nat.le_of_ble_eq_true rfl)
  rw [lg_entry_eq]
  generalize (lg_sl ([.ref h0, .int q1]) ++ List.replicate (3 - (lg_sl ([.ref h0, .int q1])).length) Slot.unset).toArray = ls at hl ⊢
  have hl : lv_has ls 3 [(0, .ref h0), (1, .int q1)] := hl
  refine lv_iload_n hx hb dX4_refuse_0 rfl (lv_at hl 1 rfl) ?_
  refine lv_ineg hx hb dX4_refuse_1 ?_
  refine lv_istore_n (lv' := [(2, .int (-q1)), (0, .ref h0), (1, .int q1)]) hx hb dX4_refuse_2 rfl hl (by decide) rfl (fun ls hl => ?_)
  refine lv_iload_n hx hb dX4_refuse_3 rfl (lv_at hl 0 rfl) ?_
  refine lv_if_le (tgt := 26) hx hb dX4_refuse_4 (by decide) (fun c_1 => absurd h1 (Int32.not_lt.mpr c_1)) (fun c_1 => ?_)
  refine lv_iload_n hx hb dX4_refuse_7 rfl (lv_at hl 0 rfl) ?_
  refine lv_aload_n hx hb dX4_refuse_8 rfl (lv_at hl 1 rfl) ?_
  refine va_get (D := D) (ci := 4) (v := .ref rf_a) (C := RX4) (T := TX4) (N := 10) hx hb hts hwX4 hown hK hP 0 rfl rfl 6 (by decide) (hts (.fieldLink RX4 40 "WaitOrWalkOn" "refusals" "[I") (by decide +kernel)) (fun _ h9 => h9) rfl dX4_refuse_9 ?_
  refine va_alen (D := D) hx hb hK hP 1 0 rfl rfl (v := 7) rfl dX4_refuse_12 ?_
  refine lv_icmp_ge (tgt := 26) hx hb dX4_refuse_13 (by decide) (fun c_2 => absurd h2 (Int32.not_lt.mpr c_2)) (fun c_2 => ?_)
  refine lv_aload_n hx hb dX4_refuse_16 rfl (lv_at hl 1 rfl) ?_
  refine va_get (D := D) (ci := 4) (v := .ref rf_a) (C := RX4) (T := TX4) (N := 10) hx hb hts hwX4 hown hK hP 0 rfl rfl 6 (by decide) (hts (.fieldLink RX4 40 "WaitOrWalkOn" "refusals" "[I") (by decide +kernel)) (fun _ h9 => h9) rfl dX4_refuse_17 ?_
  refine lv_iload_n hx hb dX4_refuse_20 rfl (lv_at hl 0 rfl) ?_
  refine lv_dup2_11 hx hb dX4_refuse_21 rfl rfl ?_
  refine va_iald (D := D) hx hb hK hP 1 0 rfl rfl (by rw [vp_in_iff]; rw [xi_lt] at h1 h2; have e1 : ((0 : Int32)).toInt = 0 := rfl; have e2 : ((7 : Int32)).toInt = 7 := rfl; omega) dX4_refuse_22 ?_
  refine lv_iconst (v := 1) hx hb dX4_refuse_23 (by decide) ?_
  refine lv_iadd hx hb dX4_refuse_24 ?_
  refine va_iast (D := D) hx hb hK hP hD hS 1 0 rfl rfl (by rw [vp_in_iff]; rw [xi_lt] at h1 h2; have e1 : ((0 : Int32)).toInt = 0 := rfl; have e2 : ((7 : Int32)).toInt = 7 := rfl; omega) dX4_refuse_25 (fun H locs hP hD hS => ?_)
  have hP : va_P D vwCl [(h0, .inr (4, [.ref rd, .ref dr, .ref kp, .ref pl, .ref tx, .ref nu, .ref rf_a, .int nc, .int hi, .int pd])), (rf_a, .inl (cI, 7, .inl (upd rf ((-q1).toNatClampNeg) ((rf (-q1).toNatClampNeg) + 1))))] H := hP
  have hD : va_D A [(h0, .inr (4, [.ref rd, .ref dr, .ref kp, .ref pl, .ref tx, .ref nu, .ref rf_a, .int nc, .int hi, .int pd])), (rf_a, .inl (cI, 7, .inl (upd rf ((-q1).toNatClampNeg) ((rf (-q1).toNatClampNeg) + 1))))] := hD
  refine lv_iload_n hx hb dX4_refuse_26 rfl (lv_at hl 2 rfl) ?_
  have hP9 := hP.sub (ws' := [(h0, .inr (4, [.ref rd, .ref dr, .ref kp, .ref pl, .ref tx, .ref nu, .ref rf_a, .int nc, .int hi, .int pd])), (rf_a, .inl (cI, 7, .inl (upd rf ((-q1).toNatClampNeg) ((rf (-q1).toNatClampNeg) + 1))))]) [0, 1] rfl
  have hD9 := hD.sub (ws' := [(h0, .inr (4, [.ref rd, .ref dr, .ref kp, .ref pl, .ref tx, .ref nu, .ref rf_a, .int nc, .int hi, .int pd])), (rf_a, .inl (cI, 7, .inl (upd rf ((-q1).toNatClampNeg) ((rf (-q1).toNatClampNeg) + 1))))]) [0, 1] (by decide) rfl
  exact W.iret (v := q1) hx hb hr (fun t ht hW => ⟨⟨_, (), rfl, rfl, by rw [ht]; exact hP9, hD9⟩, hS.F ht⟩) hS.2.2 dX4_refuse_27

set_option maxHeartbeats 4000000 in
set_option maxRecDepth 100000 in
theorem g_X4_refuseLong (l : Launch) (D : va_G) (cI cL cZ cC : ClassId) (sz : Nat) (h0 : Nat) (rd : Nat) (dr : Nat) (kp : Nat) (pl : Nat) (tx : Nat) (nu : Nat) (rf_a : Nat) (nc : Int32) (hi : Int32) (pd : Int32) (rf : Nat → Int32) (q1 : Int32) (h1 : 0 < -q1) (h2 : -q1 < 7) : Met l yX4_refuseLong wsX4_refuseLong ({ frames := 1, cells := 0, slots := 0, locals := 22 } : Room) (wPc D [.ref h0, .int q1] [(h0, .inr (4, [.ref rd, .ref dr, .ref kp, .ref pl, .ref tx, .ref nu, .ref rf_a, .int nc, .int hi, .int pd])), (rf_a, .inl (cI, 7, .inl rf))] (xTy cI cL cZ cC) sz) (va_Ql (fun (r : Int64) (_ : Unit) => r = xLg q1) (fun (_ : Unit) t => va_P D vwCl [(h0, .inr (4, [.ref rd, .ref dr, .ref kp, .ref pl, .ref tx, .ref nu, .ref rf_a, .int nc, .int hi, .int pd])), (rf_a, .inl (cI, 7, .inl (xRf rf q1)))] t.heap ∧ va_D (va_A [(h0, .inr (4, [.ref rd, .ref dr, .ref kp, .ref pl, .ref tx, .ref nu, .ref rf_a, .int nc, .int hi, .int pd])), (rf_a, .inl (cI, 7, .inl rf))] sz) [(h0, .inr (4, [.ref rd, .ref dr, .ref kp, .ref pl, .ref tx, .ref nu, .ref rf_a, .int nc, .int hi, .int pd])), (rf_a, .inl (cI, 7, .inl (xRf rf q1)))]) (va_A [(h0, .inr (4, [.ref rd, .ref dr, .ref kp, .ref pl, .ref tx, .ref nu, .ref rf_a, .int nc, .int hi, .int pd])), (rf_a, .inl (cI, 7, .inl rf))] sz)) 0 0 (va_A [(h0, .inr (4, [.ref rd, .ref dr, .ref kp, .ref pl, .ref tx, .ref nu, .ref rf_a, .int nc, .int hi, .int pd])), (rf_a, .inl (cI, 7, .inl rf))] sz) := by
  refine Met.ofW (cc := cX4_refuseLong) (maxL := 2) (ret := (some .long)) (by decide) rfl ?_
  intro p e s m args below meth c s₁ B hml hv
  obtain ⟨rfl, hsz, hP, hK, hD0⟩ := hv
  have hx := B.exec
  have hb := B.bytes
  have hr := B.returns
  have hts := atoms_spec (ws := wsX4_refuseLong) B.pre
  have hown : s.vm.findClass RX4 = some m.cls := findClass_of_methodNamed B.named
  have hlocks := B.notSynchronized
  subst hsz
  have hD := hD0.self (sz := s.heap.size)
  generalize hAe : va_A [(h0, .inr (4, [.ref rd, .ref dr, .ref kp, .ref pl, .ref tx, .ref nu, .ref rf_a, .int nc, .int hi, .int pd])), (rf_a, .inl (cI, 7, .inl rf))] s.heap.size = A at hD ⊢
  have hA : ∀ q : Nat, s.heap.size ≤ q → A q := fun q h => by rw [← hAe]; exact Or.inr h
  have hS : va_S A s.heap s.heap [] := va_S.rf
  have hP : va_P D vwCl [(h0, .inr (4, [.ref rd, .ref dr, .ref kp, .ref pl, .ref tx, .ref nu, .ref rf_a, .int nc, .int hi, .int pd])), (rf_a, .inl (cI, 7, .inl rf))] s.heap := hP
  have hl := lv_entry ([.ref h0, .int q1]) (n := 2) (Nat.le_of_ble_eq_true rfl)
  rw [lg_entry_eq]
  generalize (lg_sl ([.ref h0, .int q1]) ++ List.replicate (2 - (lg_sl ([.ref h0, .int q1])).length) Slot.unset).toArray = ls at hl ⊢
  have hl : lv_has ls 2 [(0, .ref h0), (1, .int q1)] := hl
  refine lv_ldc2 hx hb hown (hts (.constantLong RX4 237 (4000000000000000000)) (by decide +kernel)) dX4_refuseLong_0 ?_
  refine lv_aload_n hx hb dX4_refuseLong_3 rfl (lv_at hl 0 rfl) ?_
  refine lv_iload_n hx hb dX4_refuseLong_4 rfl (lv_at hl 1 rfl) ?_
  have hPc := hP.sub (ws' := [(h0, .inr (4, [.ref rd, .ref dr, .ref kp, .ref pl, .ref tx, .ref nu, .ref rf_a, .int nc, .int hi, .int pd])), (rf_a, .inl (cI, 7, .inl rf))]) [0, 1] rfl
  have hDc := hD.sub (ws' := [(h0, .inr (4, [.ref rd, .ref dr, .ref kp, .ref pl, .ref tx, .ref nu, .ref rf_a, .int nc, .int hi, .int pd])), (rf_a, .inl (cI, 7, .inl rf))]) [0, 1] (by decide) rfl
  have hFc := va_free (wc := [(h0, .inr (4, [.ref rd, .ref dr, .ref kp, .ref pl, .ref tx, .ref nu, .ref rf_a, .int nc, .int hi, .int pd])), (rf_a, .inl (cI, 7, .inl rf))]) hD hS hA [0, 1] rfl
  refine va_calli (va_runV (As := [.int q1]) (rest := [.long 4000000000000000000]) ⟨hx, hb, hml, hown, hts⟩ (g_X4_refuse l D cI cL cZ cC _ h0 rd dr kp pl tx nu rf_a nc hi pd rf q1 (by first | assumption | decide +kernel) (by first | assumption | decide +kernel)) (cwV 1 hts gX4_refuseLong_X4_refuse rfl rfl rfl (by decide +kernel) ⟨Nat.le_of_ble_eq_true rfl, Nat.le_of_ble_eq_true rfl⟩) ⟨wPc_bl, va_recv hK hPc (ci := 4) (q0 := 0) rfl rfl, wPc_use hPc hK hDc⟩ rfl rfl hl.1 rfl (lv_room (Nat.le_of_ble_eq_true rfl)) dX4_refuseLong_5 ⟨Nat.le_of_ble_eq_true rfl, Nat.le_of_ble_eq_true rfl⟩) hS (fun q _ h => hFc q h) hFc (fun r_1 u_1 t H1 locs ht hvm hw hB hz1 hk1 hS => ?_)
  obtain ⟨hP1, hD1⟩ := hB
  rw [ht] at hP1
  obtain ⟨hP, hD⟩ := va_join (wr := []) (w1 := [(h0, .inr (4, [.ref rd, .ref dr, .ref kp, .ref pl, .ref tx, .ref nu, .ref rf_a, .int nc, .int hi, .int pd])), (rf_a, .inl (cI, 7, .inl (xRf rf q1)))]) hP hD [0, 1] [] rfl rfl (by decide) (by decide) hk1 hFc hP1 hD1
  generalize H1 = H at hP hS ⊢
  have hP : va_P D vwCl [(h0, .inr (4, [.ref rd, .ref dr, .ref kp, .ref pl, .ref tx, .ref nu, .ref rf_a, .int nc, .int hi, .int pd])), (rf_a, .inl (cI, 7, .inl (xRf rf q1)))] H := hP
  have hD : va_D A [(h0, .inr (4, [.ref rd, .ref dr, .ref kp, .ref pl, .ref tx, .ref nu, .ref rf_a, .int nc, .int hi, .int pd])), (rf_a, .inl (cI, 7, .inl (xRf rf q1)))] := hD
  obtain rfl : (q1 : Int32) = r_1 := Eq.symm hw
  refine lv_i2l (v := q1.toInt64) hx hb dX4_refuseLong_8 rfl ?_
  refine lv_lsub hx hb dX4_refuseLong_9 ?_
  have hP9 := hP.sub (ws' := [(h0, .inr (4, [.ref rd, .ref dr, .ref kp, .ref pl, .ref tx, .ref nu, .ref rf_a, .int nc, .int hi, .int pd])), (rf_a, .inl (cI, 7, .inl (xRf rf q1)))]) [0, 1] rfl
  have hD9 := hD.sub (ws' := [(h0, .inr (4, [.ref rd, .ref dr, .ref kp, .ref pl, .ref tx, .ref nu, .ref rf_a, .int nc, .int hi, .int pd])), (rf_a, .inl (cI, 7, .inl (xRf rf q1)))]) [0, 1] (by decide) rfl
  exact W.lret (v := 4000000000000000000 - q1.toInt64) hx hb hr (fun t ht hW => ⟨⟨_, (), rfl, rfl, by rw [ht]; exact hP9, hD9⟩, hS.F ht⟩) hS.2.2 dX4_refuseLong_10

set_option maxHeartbeats 4000000 in
set_option maxRecDepth 100000 in
theorem g_X5_no (l : Launch) (D : va_G) (cI cL cZ cC : ClassId) (sz : Nat) (g0 : Nat) (ra : Nat) (wa : Nat) (ta : Nat) (ma : Nat) (pa : Nat) (ba : Nat) (ka : Nat) (fa : Nat) (qa : Nat) (ea : Nat) (za : Nat) (ya : Nat) (kpt : Int32) (mkd : Int32) (tpd : Int32) (at0 : Int32) (wel : Int32) (srt : Int32) (wks : Int32) (rf : Nat → Int32) (q1 : Int32) (h1 : 0 < -q1) (h2 : -q1 < 7) : Met l yX5_no wsX5_no ({ frames := 0, cells := 0, slots := 0, locals := 0 } : Room) (wPc D [.ref g0, .int q1] [(g0, .inr (5, [.ref ra, .ref wa, .ref ta, .int kpt, .ref ma, .int mkd, .ref pa, .int tpd, .int at0, .int wel, .ref ba, .ref ka, .int srt, .ref fa, .ref qa, .ref ea, .ref za, .ref ya, .int wks])), (ra, .inl (cI, 7, .inl rf))] (xTy cI cL cZ cC) sz) (va_Qi (fun (r : Int32) (_ : Unit) => r = q1) (fun (_ : Unit) t => va_P D vwCl [(g0, .inr (5, [.ref ra, .ref wa, .ref ta, .int kpt, .ref ma, .int mkd, .ref pa, .int tpd, .int at0, .int wel, .ref ba, .ref ka, .int srt, .ref fa, .ref qa, .ref ea, .ref za, .ref ya, .int wks])), (ra, .inl (cI, 7, .inl (xRf rf q1)))] t.heap ∧ va_D (va_A [(g0, .inr (5, [.ref ra, .ref wa, .ref ta, .int kpt, .ref ma, .int mkd, .ref pa, .int tpd, .int at0, .int wel, .ref ba, .ref ka, .int srt, .ref fa, .ref qa, .ref ea, .ref za, .ref ya, .int wks])), (ra, .inl (cI, 7, .inl rf))] sz) [(g0, .inr (5, [.ref ra, .ref wa, .ref ta, .int kpt, .ref ma, .int mkd, .ref pa, .int tpd, .int at0, .int wel, .ref ba, .ref ka, .int srt, .ref fa, .ref qa, .ref ea, .ref za, .ref ya, .int wks])), (ra, .inl (cI, 7, .inl (xRf rf q1)))]) (va_A [(g0, .inr (5, [.ref ra, .ref wa, .ref ta, .int kpt, .ref ma, .int mkd, .ref pa, .int tpd, .int at0, .int wel, .ref ba, .ref ka, .int srt, .ref fa, .ref qa, .ref ea, .ref za, .ref ya, .int wks])), (ra, .inl (cI, 7, .inl rf))] sz)) 0 0 (va_A [(g0, .inr (5, [.ref ra, .ref wa, .ref ta, .int kpt, .ref ma, .int mkd, .ref pa, .int tpd, .int at0, .int wel, .ref ba, .ref ka, .int srt, .ref fa, .ref qa, .ref ea, .ref za, .ref ya, .int wks])), (ra, .inl (cI, 7, .inl rf))] sz) := by
  refine Met.ofW (cc := cX5_no) (maxL := 2) (ret := (some .int)) (by decide) rfl ?_
  intro p e s m args below meth c s₁ B hml hv
  obtain ⟨rfl, hsz, hP, hK, hD0⟩ := hv
  have hx := B.exec
  have hb := B.bytes
  have hr := B.returns
  have hts := atoms_spec (ws := wsX5_no) B.pre
  have hown : s.vm.findClass RX5 = some m.cls := findClass_of_methodNamed B.named
  have hlocks := B.notSynchronized
  have hwX5 : ∀ w ∈ u_ws RX5 TX5 19, w ∈ wsX5_no := fun _ h => List.mem_cons_of_mem _ (List.mem_append_right _ h)
  subst hsz
  have hD := hD0.self (sz := s.heap.size)
  generalize hAe : va_A [(g0, .inr (5, [.ref ra, .ref wa, .ref ta, .int kpt, .ref ma, .int mkd, .ref pa, .int tpd, .int at0, .int wel, .ref ba, .ref ka, .int srt, .ref fa, .ref qa, .ref ea, .ref za, .ref ya, .int wks])), (ra, .inl (cI, 7, .inl rf))] s.heap.size = A at hD ⊢
  have hA : ∀ q : Nat, s.heap.size ≤ q → A q := fun q h => by rw [← hAe]; exact Or.inr h
  have hS : va_S A s.heap s.heap [] := va_S.rf
  have hP : va_P D vwCl [(g0, .inr (5, [.ref ra, .ref wa, .ref ta, .int kpt, .ref ma, .int mkd, .ref pa, .int tpd, .int at0, .int wel, .ref ba, .ref ka, .int srt, .ref fa, .ref qa, .ref ea, .ref za, .ref ya, .int wks])), (ra, .inl (cI, 7, .inl rf))] s.heap := hP
  have hl := lv_entry ([.ref g0, .int q1]) (n := 2) (Nat.le_of_ble_eq_true rfl)
  rw [lg_entry_eq]
  generalize (lg_sl ([.ref g0, .int q1]) ++ List.replicate (2 - (lg_sl ([.ref g0, .int q1])).length) Slot.unset).toArray = ls at hl ⊢
  have hl : lv_has ls 2 [(0, .ref g0), (1, .int q1)] := hl
  refine lv_aload_n hx hb dX5_no_0 rfl (lv_at hl 0 rfl) ?_
  refine va_get (D := D) (ci := 5) (v := .ref ra) (C := RX5) (T := TX5) (N := 19) hx hb hts hwX5 hown hK hP 0 rfl rfl 0 (by decide) (hts (.fieldLink RX5 1 "WaitOrWalkOnModel" "refused" "[I") (by decide +kernel)) (fun _ h9 => h9) rfl dX5_no_1 ?_
  refine lv_iload_n hx hb dX5_no_4 rfl (lv_at hl 1 rfl) ?_
  refine lv_ineg hx hb dX5_no_5 ?_
  refine lv_dup2_11 hx hb dX5_no_6 rfl rfl ?_
  refine va_iald (D := D) hx hb hK hP 1 0 rfl rfl (by rw [vp_in_iff]; rw [xi_lt] at h1 h2; have e1 : ((0 : Int32)).toInt = 0 := rfl; have e2 : ((7 : Int32)).toInt = 7 := rfl; omega) dX5_no_7 ?_
  refine lv_iconst (v := 1) hx hb dX5_no_8 (by decide) ?_
  refine lv_iadd hx hb dX5_no_9 ?_
  refine va_iast (D := D) hx hb hK hP hD hS 1 0 rfl rfl (by rw [vp_in_iff]; rw [xi_lt] at h1 h2; have e1 : ((0 : Int32)).toInt = 0 := rfl; have e2 : ((7 : Int32)).toInt = 7 := rfl; omega) dX5_no_10 (fun H locs hP hD hS => ?_)
  have hP : va_P D vwCl [(g0, .inr (5, [.ref ra, .ref wa, .ref ta, .int kpt, .ref ma, .int mkd, .ref pa, .int tpd, .int at0, .int wel, .ref ba, .ref ka, .int srt, .ref fa, .ref qa, .ref ea, .ref za, .ref ya, .int wks])), (ra, .inl (cI, 7, .inl (upd rf ((-q1).toNatClampNeg) ((rf (-q1).toNatClampNeg) + 1))))] H := hP
  have hD : va_D A [(g0, .inr (5, [.ref ra, .ref wa, .ref ta, .int kpt, .ref ma, .int mkd, .ref pa, .int tpd, .int at0, .int wel, .ref ba, .ref ka, .int srt, .ref fa, .ref qa, .ref ea, .ref za, .ref ya, .int wks])), (ra, .inl (cI, 7, .inl (upd rf ((-q1).toNatClampNeg) ((rf (-q1).toNatClampNeg) + 1))))] := hD
  refine lv_iload_n hx hb dX5_no_11 rfl (lv_at hl 1 rfl) ?_
  have hP9 := hP.sub (ws' := [(g0, .inr (5, [.ref ra, .ref wa, .ref ta, .int kpt, .ref ma, .int mkd, .ref pa, .int tpd, .int at0, .int wel, .ref ba, .ref ka, .int srt, .ref fa, .ref qa, .ref ea, .ref za, .ref ya, .int wks])), (ra, .inl (cI, 7, .inl (upd rf ((-q1).toNatClampNeg) ((rf (-q1).toNatClampNeg) + 1))))]) [0, 1] rfl
  have hD9 := hD.sub (ws' := [(g0, .inr (5, [.ref ra, .ref wa, .ref ta, .int kpt, .ref ma, .int mkd, .ref pa, .int tpd, .int at0, .int wel, .ref ba, .ref ka, .int srt, .ref fa, .ref qa, .ref ea, .ref za, .ref ya, .int wks])), (ra, .inl (cI, 7, .inl (upd rf ((-q1).toNatClampNeg) ((rf (-q1).toNatClampNeg) + 1))))]) [0, 1] (by decide) rfl
  exact W.iret (v := q1) hx hb hr (fun t ht hW => ⟨⟨_, (), rfl, rfl, by rw [ht]; exact hP9, hD9⟩, hS.F ht⟩) hS.2.2 dX5_no_12

set_option maxHeartbeats 4000000 in
set_option maxRecDepth 100000 in
theorem g_X5_noLong (l : Launch) (D : va_G) (cI cL cZ cC : ClassId) (sz : Nat) (g0 : Nat) (ra : Nat) (wa : Nat) (ta : Nat) (ma : Nat) (pa : Nat) (ba : Nat) (ka : Nat) (fa : Nat) (qa : Nat) (ea : Nat) (za : Nat) (ya : Nat) (kpt : Int32) (mkd : Int32) (tpd : Int32) (at0 : Int32) (wel : Int32) (srt : Int32) (wks : Int32) (rf : Nat → Int32) (q1 : Int32) (h1 : 0 < -q1) (h2 : -q1 < 7) : Met l yX5_noLong wsX5_noLong ({ frames := 1, cells := 0, slots := 0, locals := 21 } : Room) (wPc D [.ref g0, .int q1] [(g0, .inr (5, [.ref ra, .ref wa, .ref ta, .int kpt, .ref ma, .int mkd, .ref pa, .int tpd, .int at0, .int wel, .ref ba, .ref ka, .int srt, .ref fa, .ref qa, .ref ea, .ref za, .ref ya, .int wks])), (ra, .inl (cI, 7, .inl rf))] (xTy cI cL cZ cC) sz) (va_Ql (fun (r : Int64) (_ : Unit) => r = xLg q1) (fun (_ : Unit) t => va_P D vwCl [(g0, .inr (5, [.ref ra, .ref wa, .ref ta, .int kpt, .ref ma, .int mkd, .ref pa, .int tpd, .int at0, .int wel, .ref ba, .ref ka, .int srt, .ref fa, .ref qa, .ref ea, .ref za, .ref ya, .int wks])), (ra, .inl (cI, 7, .inl (xRf rf q1)))] t.heap ∧ va_D (va_A [(g0, .inr (5, [.ref ra, .ref wa, .ref ta, .int kpt, .ref ma, .int mkd, .ref pa, .int tpd, .int at0, .int wel, .ref ba, .ref ka, .int srt, .ref fa, .ref qa, .ref ea, .ref za, .ref ya, .int wks])), (ra, .inl (cI, 7, .inl rf))] sz) [(g0, .inr (5, [.ref ra, .ref wa, .ref ta, .int kpt, .ref ma, .int mkd, .ref pa, .int tpd, .int at0, .int wel, .ref ba, .ref ka, .int srt, .ref fa, .ref qa, .ref ea, .ref za, .ref ya, .int wks])), (ra, .inl (cI, 7, .inl (xRf rf q1)))]) (va_A [(g0, .inr (5, [.ref ra, .ref wa, .ref ta, .int kpt, .ref ma, .int mkd, .ref pa, .int tpd, .int at0, .int wel, .ref ba, .ref ka, .int srt, .ref fa, .ref qa, .ref ea, .ref za, .ref ya, .int wks])), (ra, .inl (cI, 7, .inl rf))] sz)) 0 0 (va_A [(g0, .inr (5, [.ref ra, .ref wa, .ref ta, .int kpt, .ref ma, .int mkd, .ref pa, .int tpd, .int at0, .int wel, .ref ba, .ref ka, .int srt, .ref fa, .ref qa, .ref ea, .ref za, .ref ya, .int wks])), (ra, .inl (cI, 7, .inl rf))] sz) := by
  refine Met.ofW (cc := cX5_noLong) (maxL := 2) (ret := (some .long)) (by decide) rfl ?_
  intro p e s m args below meth c s₁ B hml hv
  obtain ⟨rfl, hsz, hP, hK, hD0⟩ := hv
  have hx := B.exec
  have hb := B.bytes
  have hr := B.returns
  have hts := atoms_spec (ws := wsX5_noLong) B.pre
  have hown : s.vm.findClass RX5 = some m.cls := findClass_of_methodNamed B.named
  have hlocks := B.notSynchronized
  subst hsz
  have hD := hD0.self (sz := s.heap.size)
  generalize hAe : va_A [(g0, .inr (5, [.ref ra, .ref wa, .ref ta, .int kpt, .ref ma, .int mkd, .ref pa, .int tpd, .int at0, .int wel, .ref ba, .ref ka, .int srt, .ref fa, .ref qa, .ref ea, .ref za, .ref ya, .int wks])), (ra, .inl (cI, 7, .inl rf))] s.heap.size = A at hD ⊢
  have hA : ∀ q : Nat, s.heap.size ≤ q → A q := fun q h => by rw [← hAe]; exact Or.inr h
  have hS : va_S A s.heap s.heap [] := va_S.rf
  have hP : va_P D vwCl [(g0, .inr (5, [.ref ra, .ref wa, .ref ta, .int kpt, .ref ma, .int mkd, .ref pa, .int tpd, .int at0, .int wel, .ref ba, .ref ka, .int srt, .ref fa, .ref qa, .ref ea, .ref za, .ref ya, .int wks])), (ra, .inl (cI, 7, .inl rf))] s.heap := hP
  have hl := lv_entry ([.ref g0, .int q1]) (n := 2) (Nat.le_of_ble_eq_true rfl)
  rw [lg_entry_eq]
  generalize (lg_sl ([.ref g0, .int q1]) ++ List.replicate (2 - (lg_sl ([.ref g0, .int q1])).length) Slot.unset).toArray = ls at hl ⊢
  have hl : lv_has ls 2 [(0, .ref g0), (1, .int q1)] := hl
  refine lv_ldc2 hx hb hown (hts (.constantLong RX5 7 (4000000000000000000)) (by decide +kernel)) dX5_noLong_0 ?_
  refine lv_aload_n hx hb dX5_noLong_3 rfl (lv_at hl 0 rfl) ?_
  refine lv_iload_n hx hb dX5_noLong_4 rfl (lv_at hl 1 rfl) ?_
  have hPc := hP.sub (ws' := [(g0, .inr (5, [.ref ra, .ref wa, .ref ta, .int kpt, .ref ma, .int mkd, .ref pa, .int tpd, .int at0, .int wel, .ref ba, .ref ka, .int srt, .ref fa, .ref qa, .ref ea, .ref za, .ref ya, .int wks])), (ra, .inl (cI, 7, .inl rf))]) [0, 1] rfl
  have hDc := hD.sub (ws' := [(g0, .inr (5, [.ref ra, .ref wa, .ref ta, .int kpt, .ref ma, .int mkd, .ref pa, .int tpd, .int at0, .int wel, .ref ba, .ref ka, .int srt, .ref fa, .ref qa, .ref ea, .ref za, .ref ya, .int wks])), (ra, .inl (cI, 7, .inl rf))]) [0, 1] (by decide) rfl
  have hFc := va_free (wc := [(g0, .inr (5, [.ref ra, .ref wa, .ref ta, .int kpt, .ref ma, .int mkd, .ref pa, .int tpd, .int at0, .int wel, .ref ba, .ref ka, .int srt, .ref fa, .ref qa, .ref ea, .ref za, .ref ya, .int wks])), (ra, .inl (cI, 7, .inl rf))]) hD hS hA [0, 1] rfl
  refine va_calli (va_runV (As := [.int q1]) (rest := [.long 4000000000000000000]) ⟨hx, hb, hml, hown, hts⟩ (g_X5_no l D cI cL cZ cC _ g0 ra wa ta ma pa ba ka fa qa ea za ya kpt mkd tpd at0 wel srt wks rf q1 (by first | assumption | decide +kernel) (by first | assumption | decide +kernel)) (cwV 1 hts gX5_noLong_X5_no rfl rfl rfl (by decide +kernel) ⟨Nat.le_of_ble_eq_true rfl, Nat.le_of_ble_eq_true rfl⟩) ⟨wPc_bl, va_recv hK hPc (ci := 5) (q0 := 0) rfl rfl, wPc_use hPc hK hDc⟩ rfl rfl hl.1 rfl (lv_room (Nat.le_of_ble_eq_true rfl)) dX5_noLong_5 ⟨Nat.le_of_ble_eq_true rfl, Nat.le_of_ble_eq_true rfl⟩) hS (fun q _ h => hFc q h) hFc (fun r_1 u_1 t H1 locs ht hvm hw hB hz1 hk1 hS => ?_)
  obtain ⟨hP1, hD1⟩ := hB
  rw [ht] at hP1
  obtain ⟨hP, hD⟩ := va_join (wr := []) (w1 := [(g0, .inr (5, [.ref ra, .ref wa, .ref ta, .int kpt, .ref ma, .int mkd, .ref pa, .int tpd, .int at0, .int wel, .ref ba, .ref ka, .int srt, .ref fa, .ref qa, .ref ea, .ref za, .ref ya, .int wks])), (ra, .inl (cI, 7, .inl (xRf rf q1)))]) hP hD [0, 1] [] rfl rfl (by decide) (by decide) hk1 hFc hP1 hD1
  generalize H1 = H at hP hS ⊢
  have hP : va_P D vwCl [(g0, .inr (5, [.ref ra, .ref wa, .ref ta, .int kpt, .ref ma, .int mkd, .ref pa, .int tpd, .int at0, .int wel, .ref ba, .ref ka, .int srt, .ref fa, .ref qa, .ref ea, .ref za, .ref ya, .int wks])), (ra, .inl (cI, 7, .inl (xRf rf q1)))] H := hP
  have hD : va_D A [(g0, .inr (5, [.ref ra, .ref wa, .ref ta, .int kpt, .ref ma, .int mkd, .ref pa, .int tpd, .int at0, .int wel, .ref ba, .ref ka, .int srt, .ref fa, .ref qa, .ref ea, .ref za, .ref ya, .int wks])), (ra, .inl (cI, 7, .inl (xRf rf q1)))] := hD
  obtain rfl : (q1 : Int32) = r_1 := Eq.symm hw
  refine lv_i2l (v := q1.toInt64) hx hb dX5_noLong_8 rfl ?_
  refine lv_lsub hx hb dX5_noLong_9 ?_
  have hP9 := hP.sub (ws' := [(g0, .inr (5, [.ref ra, .ref wa, .ref ta, .int kpt, .ref ma, .int mkd, .ref pa, .int tpd, .int at0, .int wel, .ref ba, .ref ka, .int srt, .ref fa, .ref qa, .ref ea, .ref za, .ref ya, .int wks])), (ra, .inl (cI, 7, .inl (xRf rf q1)))]) [0, 1] rfl
  have hD9 := hD.sub (ws' := [(g0, .inr (5, [.ref ra, .ref wa, .ref ta, .int kpt, .ref ma, .int mkd, .ref pa, .int tpd, .int at0, .int wel, .ref ba, .ref ka, .int srt, .ref fa, .ref qa, .ref ea, .ref za, .ref ya, .int wks])), (ra, .inl (cI, 7, .inl (xRf rf q1)))]) [0, 1] (by decide) rfl
  exact W.lret (v := 4000000000000000000 - q1.toInt64) hx hb hr (fun t ht hW => ⟨⟨_, (), rfl, rfl, by rw [ht]; exact hP9, hD9⟩, hS.F ht⟩) hS.2.2 dX5_noLong_10

/-! the class's tests of what it is given -/
def sPr (ln : Nat) (a b : Int32) : Int32 := if sNL ln a = 0 then (if sNL ln b = 0 then (if a = b then 1 else 0) else 1) else 1
def sGo (ln : Nat) (a1 a2 a3 a4 a5 : Int32) : Int32 := if sNL ln a1 = 0 then (if sNK a2 = 0 then (if a3 < 0 then -4 else if a4 < 0 then -4 else if 12 < a3 then -6 else if a5 < a4 then -6 else 0) else -2) else -1
def sPl (ln st : Nat) (a1 a2 a3 a4 : Int32) : Int32 := if sNL ln a1 = 0 then (if sNL st a2 = 0 then (if a3 < 0 then -4 else if a4 < a3 then -6 else 0) else -1) else -1
def qSt (st : Nat) (a1 a2 : Int32) : Int32 := if sNL st a1 = 0 then (if a2 = 0 then 0 else if a2 = 1 then 0 else if a2 = 2 then 0 else -2) else -1
def vSt (st : Nat) (ho pa : Int32) (lg : Nat → Int32) (a1 a2 : Int32) : Int32 := if a2 = 0 then lg a1.toNatClampNeg else if a2 = 1 then xWh st ho pa lg 0 - xWh st ho pa lg a1.toNatClampNeg else xWh st ho pa lg a1.toNatClampNeg
def qLi (ln : Nat) (a1 a2 : Int32) : Int32 := if sNL ln a1 = 0 then (if a2 = 0 then 0 else if a2 = 1 then 0 else if a2 = 2 then 0 else if a2 = 3 then 0 else if a2 = 4 then 0 else -2) else -1
def vLi (st : Nat) (ki ru ne : Nat → Int32) (ch : Nat → Nat → Int32) (a1 a2 : Int32) : Int32 := if a2 = 0 then ki a1.toNatClampNeg else if a2 = 1 then ru a1.toNatClampNeg else if a2 = 2 then ne a1.toNatClampNeg else if a2 = 3 then xSm (ch a1.toNatClampNeg) 12 + ne a1.toNatClampNeg else sRide (ki a1.toNatClampNeg) (ru a1.toNatClampNeg) (nI (st - 1))
def qCh (ln : Nat) (a1 a2 : Int32) : Int32 := if sNL ln a1 = 0 then (if a2 < 0 then -4 else if a2 < 12 then 0 else -6) else -1
def vCh (ne : Nat → Int32) (ch : Nat → Nat → Int32) (a1 a2 : Int32) : Int32 := sWt (ne a1.toNatClampNeg) (ch a1.toNatClampNeg) a2
