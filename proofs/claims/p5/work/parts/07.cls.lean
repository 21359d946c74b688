set_option maxHeartbeats 4000000 in
set_option maxRecDepth 100000 in
theorem g_X4_homeSum (l : Launch) (D : va_G) (cI cL cZ cC : ClassId) (h0 : Nat) (rd : Nat) (dr : Nat) (kp : Nat) (pl : Nat) (tx : Nat) (nu : Nat) (rf_a : Nat) (nc : Int32) (hi : Int32) (pd : Int32) (r0 : Nat) (r1 : Nat) (st : Nat) (ho : Int32) (pa : Int32) (si : Int32) (li : Int32) (lc : Int32) (lg : Nat → Int32) (b0 : Nat) (k0 : Nat) (ki : Int32) (ru : Int32) (ne : Int32) (ch : Nat → Int32) (a2 : Int32) (a3 : Int32) (hs1 : 1 ≤ st) (hs7 : st ≤ 7) : Met l yX4_homeSum wsX4_homeSum ({ frames := 3, cells := 0, slots := 0, locals := 75 } : Room) (xPc D [.ref h0, .ref b0, .int a2, .int a3] [(h0, .inr (4, [.ref rd, .ref dr, .ref kp, .ref pl, .ref tx, .ref nu, .ref rf_a, .int nc, .int hi, .int pd])), (rd, .inr (2, [.int (nI st), .int ho, .int pa, .int si, .int li, .int lc, .ref r0, .ref r1])), (r0, .inl (cI, 7, .inl lg)), (b0, .inr (0, [.int ki, .int ru, .int ne, .ref k0])), (k0, .inl (cI, 12, .inl ch))] (xTy cI cL cZ cC)) (vp_Si (fun r : Int32 => r = xSm (fun i => sWt ne ch (nI i) * xGh st ho pa si li lg ki ru a2 a3 (nI i)) 13)) 0 0 (fun _ => False) := by
  refine Met.ofW (cc := cX4_homeSum) (maxL := 6) (ret := (some .int)) (by decide) rfl ?_
  intro p e s m args below meth c s₁ B hml hv
  obtain ⟨rfl, hP, hK⟩ := hv
  have hx := B.exec
  have hb := B.bytes
  have hr := B.returns
  have hts := atoms_spec (ws := wsX4_homeSum) B.pre
  have hown : s.vm.findClass RX4 = some m.cls := findClass_of_methodNamed B.named
  have hlocks := B.notSynchronized
  have hl := lv_entry ([.ref h0, .ref b0, .int a2, .int a3]) (n := 6) (Nat.le_of_ble_eq_true rfl)
  rw [lg_entry_eq]
  generalize (lg_sl ([.ref h0, .ref b0, .int a2, .int a3]) ++ List.replicate (6 - (lg_sl ([.ref h0, .ref b0, .int a2, .int a3])).length) Slot.unset).toArray = ls at hl ⊢
  have hl : lv_has ls 6 [(0, .ref h0), (1, .ref b0), (2, .int a2), (3, .int a3)] := hl
  refine lv_iconst (v := 0) hx hb dX4_homeSum_0 (by decide) ?_
  refine lv_istore (lv' := [(4, .int 0), (0, .ref h0), (1, .ref b0), (2, .int a2), (3, .int a3)]) hx hb dX4_homeSum_1 hl (by decide) rfl (fun ls hl => ?_)
  refine lv_iconst (v := 0) hx hb dX4_homeSum_3 (by decide) ?_
  refine lv_istore (lv' := [(5, .int 0), (4, .int 0), (0, .ref h0), (1, .ref b0), (2, .int a2), (3, .int a3)]) hx hb dX4_homeSum_4 hl (by decide) rfl (fun ls hl => ?_)
  refine xl_loop (σ := Nat) (fun n q ls => lv_has ls 6 [(5, .int (nI q)), (4, .int (xSm (fun i => sWt ne ch (nI i) * xGh st ho pa si li lg ki ru a2 a3 (nI i)) q)), (0, .ref h0), (1, .ref b0), (2, .int a2), (3, .int a3)] ∧ (13 - q < n) ∧ (q ≤ 13)) (14) (0) ⟨lv_sub hl [0, 1, 2, 3, 4, 5] rfl, by (try dsimp only); exact ⟨by omega, by omega⟩⟩ (fun q ls h => absurd h.2.1 (Nat.not_lt_zero _)) ?_
  intro n_6 q_6 ls ih_6 hI_6
  obtain ⟨hl, hI_6⟩ := hI_6
  obtain ⟨k, e_6⟩ : ∃ z, z = q_6 := ⟨_, rfl⟩
  subst e_6
  obtain ⟨h1, h2⟩ := hI_6
  try dsimp only at hl h1 h2
  refine lv_iload hx hb dX4_homeSum_6 (lv_at hl 0 rfl) ?_
  refine lv_bipush (v := 12) hx hb dX4_homeSum_8 (by decide) ?_
  refine lv_icmp_gt (tgt := 40) hx hb dX4_homeSum_10 (by decide) (fun c_1 => ?_) (fun c_1 => ?_)
  · refine lv_iload hx hb dX4_homeSum_40 (lv_at hl 1 rfl) ?_
    exact W.iret (v := xSm (fun i => sWt ne ch (nI i) * xGh st ho pa si li lg ki ru a2 a3 (nI i)) k) hx hb hr (fun t ht hW => ⟨_, rfl, (by have w := (nI_ltI (a := 12) (b := k) (by decide) (by omega)).mp c_1; rw [show k = 13 by omega]), ht⟩) (fun _ h => absurd h List.not_mem_nil) dX4_homeSum_42
  · refine lv_iload hx hb dX4_homeSum_13 (lv_at hl 1 rfl) ?_
    refine lv_aload_n hx hb dX4_homeSum_15 rfl (lv_at hl 3 rfl) ?_
    refine lv_iload hx hb dX4_homeSum_16 (lv_at hl 0 rfl) ?_
    have hPc := hP.sub (ws' := [(b0, .inr (0, [.int ki, .int ru, .int ne, .ref k0])), (k0, .inl (cI, 12, .inl ch))]) [3, 4] rfl
    refine vp_callSi (va_Run.run (va_runV (As := [.int (nI k)]) (rest := [.int (xSm (fun i => sWt ne ch (nI i) * xGh st ho pa si li lg ki ru a2 a3 (nI i)) k)]) ⟨hx, hb, hml, hown, hts⟩ (g_X0_weight l D cI cL cZ cC b0 k0 ki ru ne ch (nI k) ) (cwV 1 hts gX4_homeSum_X0_weight rfl rfl rfl (by decide +kernel) ⟨Nat.le_of_ble_eq_true rfl, Nat.le_of_ble_eq_true rfl⟩) ⟨xPc_bl, va_recv hK hPc (ci := 0) (q0 := 0) rfl rfl, xPc_use hPc hK⟩ rfl rfl hl.1 rfl (lv_room (Nat.le_of_ble_eq_true rfl)) dX4_homeSum_18 ⟨Nat.le_of_ble_eq_true rfl, Nat.le_of_ble_eq_true rfl⟩)) (fun r_2 er_2 => ?_)
    obtain rfl : (sWt ne ch (nI k) : Int32) = r_2 := Eq.symm er_2
    refine lv_aload_n hx hb dX4_homeSum_21 rfl (lv_at hl 2 rfl) ?_
    refine lv_aload_n hx hb dX4_homeSum_22 rfl (lv_at hl 3 rfl) ?_
    refine lv_iload_n hx hb dX4_homeSum_23 rfl (lv_at hl 4 rfl) ?_
    refine lv_iload_n hx hb dX4_homeSum_24 rfl (lv_at hl 5 rfl) ?_
    refine lv_iload hx hb dX4_homeSum_25 (lv_at hl 0 rfl) ?_
    have hPc := hP.sub (ws' := [(h0, .inr (4, [.ref rd, .ref dr, .ref kp, .ref pl, .ref tx, .ref nu, .ref rf_a, .int nc, .int hi, .int pd])), (rd, .inr (2, [.int (nI st), .int ho, .int pa, .int si, .int li, .int lc, .ref r0, .ref r1])), (r0, .inl (cI, 7, .inl lg)), (b0, .inr (0, [.int ki, .int ru, .int ne, .ref k0])), (k0, .inl (cI, 12, .inl ch))]) [0, 1, 2, 3, 4] rfl
    refine vp_callSi (va_Run.run (va_runV (As := [.ref b0, .int a2, .int a3, .int (nI k)]) (rest := [.int (sWt ne ch (nI k)), .int (xSm (fun i => sWt ne ch (nI i) * xGh st ho pa si li lg ki ru a2 a3 (nI i)) k)]) ⟨hx, hb, hml, hown, hts⟩ (g_X4_goerHome l D cI cL cZ cC h0 rd dr kp pl tx nu rf_a nc hi pd r0 r1 st ho pa si li lc lg b0 k0 ki ru ne ch a2 a3 (nI k) (by first | assumption | decide +kernel) (by first | assumption | decide +kernel)) (cwV 4 hts gX4_homeSum_X4_goerHome rfl rfl rfl (by decide +kernel) ⟨Nat.le_of_ble_eq_true rfl, Nat.le_of_ble_eq_true rfl⟩) ⟨xPc_bl, va_recv hK hPc (ci := 4) (q0 := 0) rfl rfl, xPc_use hPc hK⟩ rfl rfl hl.1 rfl (lv_room (Nat.le_of_ble_eq_true rfl)) dX4_homeSum_27 ⟨Nat.le_of_ble_eq_true rfl, Nat.le_of_ble_eq_true rfl⟩)) (fun r_3 er_3 => ?_)
    obtain rfl : (xGh st ho pa si li lg ki ru a2 a3 (nI k) : Int32) = r_3 := Eq.symm er_3
    refine lv_imul hx hb dX4_homeSum_30 ?_
    refine lv_iadd hx hb dX4_homeSum_31 ?_
    refine xv_int (y := xSm (fun i => sWt ne ch (nI i) * xGh st ho pa si li lg ki ru a2 a3 (nI i)) (k + 1)) (rfl) ?_
    refine lv_istore (lv' := [(4, .int (xSm (fun i => sWt ne ch (nI i) * xGh st ho pa si li lg ki ru a2 a3 (nI i)) (k + 1))), (5, .int (nI k)), (0, .ref h0), (1, .ref b0), (2, .int a2), (3, .int a3)]) hx hb dX4_homeSum_32 hl (by decide) rfl (fun ls hl => ?_)
    refine lv_iinc (v := nI (k + 1)) (lv' := [(5, .int (nI (k + 1))), (4, .int (xSm (fun i => sWt ne ch (nI i) * xGh st ho pa si li lg ki ru a2 a3 (nI i)) (k + 1))), (0, .ref h0), (1, .ref b0), (2, .int a2), (3, .int a3)]) hx hb dX4_homeSum_34 hl (k := 1) rfl (nI_1 k) (by decide) rfl (fun ls hl => ?_)
    refine lv_goto (tgt := 6) hx hb dX4_homeSum_37 (by decide) ?_
    have w : ¬ 12 < k := mt (nI_ltI (a := 12) (b := k) (by decide) (by omega)).mpr c_1
    exact ih_6 (k + 1) _ ⟨lv_sub hl [0, 1, 2, 3, 4, 5] rfl, by (try dsimp only); exact ⟨by omega, by omega⟩⟩

set_option maxHeartbeats 4000000 in
set_option maxRecDepth 100000 in
theorem g_X4_informedSum (l : Launch) (D : va_G) (cI cL cZ cC : ClassId) (h0 : Nat) (rd : Nat) (dr : Nat) (kp : Nat) (pl : Nat) (tx : Nat) (nu : Nat) (rf_a : Nat) (nc : Int32) (hi : Int32) (pd : Int32) (r0 : Nat) (r1 : Nat) (st : Nat) (ho : Int32) (pa : Int32) (si : Int32) (li : Int32) (lc : Int32) (lg : Nat → Int32) (b0 : Nat) (k0 : Nat) (ki : Int32) (ru : Int32) (ne : Int32) (ch : Nat → Int32) (hs1 : 1 ≤ st) (hs7 : st ≤ 7) : Met l yX4_informedSum wsX4_informedSum ({ frames := 3, cells := 0, slots := 0, locals := 66 } : Room) (xPc D [.ref h0, .ref b0] [(h0, .inr (4, [.ref rd, .ref dr, .ref kp, .ref pl, .ref tx, .ref nu, .ref rf_a, .int nc, .int hi, .int pd])), (rd, .inr (2, [.int (nI st), .int ho, .int pa, .int si, .int li, .int lc, .ref r0, .ref r1])), (r0, .inl (cI, 7, .inl lg)), (b0, .inr (0, [.int ki, .int ru, .int ne, .ref k0])), (k0, .inl (cI, 12, .inl ch))] (xTy cI cL cZ cC)) (vp_Si (fun r : Int32 => r = xAc2 (sWt ne ch 12 * xWh st ho pa lg 0) (fun i => sWt ne ch (nI i) * (if nI i + (sRide ki ru (nI (st - 1)) + xWy (xYd st ho lg (st - 1)) pa) < xWh st ho pa lg 0 then nI i + (sRide ki ru (nI (st - 1)) + xWy (xYd st ho lg (st - 1)) pa) else xWh st ho pa lg 0)) 0 12)) 0 0 (fun _ => False) := by
  refine Met.ofW (cc := cX4_informedSum) (maxL := 5) (ret := (some .int)) (by decide) rfl ?_
  intro p e s m args below meth c s₁ B hml hv
  obtain ⟨rfl, hP, hK⟩ := hv
  have hx := B.exec
  have hb := B.bytes
  have hr := B.returns
  have hts := atoms_spec (ws := wsX4_informedSum) B.pre
  have hown : s.vm.findClass RX4 = some m.cls := findClass_of_methodNamed B.named
  have hlocks := B.notSynchronized
  have hwX4 : ∀ w ∈ u_ws RX4 TX4 10, w ∈ wsX4_informedSum := fun _ h => List.mem_cons_of_mem _ (List.mem_append_left _ (List.mem_append_left _ (List.mem_append_right _ h)))
  have hl := lv_entry ([.ref h0, .ref b0]) (n := 5) (Nat.le_of_ble_eq_true rfl)
  rw [lg_entry_eq]
  generalize (lg_sl ([.ref h0, .ref b0]) ++ List.replicate (5 - (lg_sl ([.ref h0, .ref b0])).length) Slot.unset).toArray = ls at hl ⊢
  have hl : lv_has ls 5 [(0, .ref h0), (1, .ref b0)] := hl
  refine lv_aload_n hx hb dX4_informedSum_0 rfl (lv_at hl 0 rfl) ?_
  refine va_get (D := D) (ci := 4) (v := .ref rd) (C := RX4) (T := TX4) (N := 10) hx hb hts hwX4 hown hK hP 0 rfl rfl 0 (by decide) (hts (.fieldLink RX4 10 "WaitOrWalkOn" "road" "LWaitOrWalkOn$Road;") (by decide +kernel)) (fun _ h9 => h9) rfl dX4_informedSum_1 ?_
  refine lv_iconst (v := 0) hx hb dX4_informedSum_4 (by decide) ?_
  have hPc := hP.sub (ws' := [(rd, .inr (2, [.int (nI st), .int ho, .int pa, .int si, .int li, .int lc, .ref r0, .ref r1])), (r0, .inl (cI, 7, .inl lg))]) [1, 2] rfl
  refine vp_callSi (va_Run.run (va_runV (As := [.int 0]) (rest := []) ⟨hx, hb, hml, hown, hts⟩ (g_X2_walkHome l D cI cL cZ cC rd r0 r1 st ho pa si li lc lg 0 (by first | assumption | decide +kernel) (by first | assumption | decide +kernel) (by omega)) (cwV 1 hts gX4_informedSum_X2_walkHome rfl rfl rfl (by decide +kernel) ⟨Nat.le_of_ble_eq_true rfl, Nat.le_of_ble_eq_true rfl⟩) ⟨xPc_bl, va_recv hK hPc (ci := 2) (q0 := 0) rfl rfl, xPc_use hPc hK⟩ rfl rfl hl.1 rfl (lv_room (Nat.le_of_ble_eq_true rfl)) dX4_informedSum_5 ⟨Nat.le_of_ble_eq_true rfl, Nat.le_of_ble_eq_true rfl⟩)) (fun r_1 er_1 => ?_)
  obtain rfl : (xWh st ho pa lg 0 : Int32) = r_1 := Eq.symm er_1
  refine lv_istore_n (lv' := [(2, .int (xWh st ho pa lg 0)), (0, .ref h0), (1, .ref b0)]) hx hb dX4_informedSum_8 rfl hl (by decide) rfl (fun ls hl => ?_)
  refine lv_aload_n hx hb dX4_informedSum_9 rfl (lv_at hl 2 rfl) ?_
  refine lv_bipush (v := 12) hx hb dX4_informedSum_10 (by decide) ?_
  have hPc := hP.sub (ws' := [(b0, .inr (0, [.int ki, .int ru, .int ne, .ref k0])), (k0, .inl (cI, 12, .inl ch))]) [3, 4] rfl
  refine vp_callSi (va_Run.run (va_runV (As := [.int 12]) (rest := []) ⟨hx, hb, hml, hown, hts⟩ (g_X0_weight l D cI cL cZ cC b0 k0 ki ru ne ch 12 ) (cwV 1 hts gX4_informedSum_X0_weight rfl rfl rfl (by decide +kernel) ⟨Nat.le_of_ble_eq_true rfl, Nat.le_of_ble_eq_true rfl⟩) ⟨xPc_bl, va_recv hK hPc (ci := 0) (q0 := 0) rfl rfl, xPc_use hPc hK⟩ rfl rfl hl.1 rfl (lv_room (Nat.le_of_ble_eq_true rfl)) dX4_informedSum_12 ⟨Nat.le_of_ble_eq_true rfl, Nat.le_of_ble_eq_true rfl⟩)) (fun r_2 er_2 => ?_)
  obtain rfl : (sWt ne ch (12 : Int32) : Int32) = r_2 := Eq.symm er_2
  refine lv_iload_n hx hb dX4_informedSum_15 rfl (lv_at hl 0 rfl) ?_
  refine lv_imul hx hb dX4_informedSum_16 ?_
  refine lv_istore_n (lv' := [(3, .int ((sWt ne ch (12 : Int32)) * (xWh st ho pa lg 0))), (2, .int (xWh st ho pa lg 0)), (0, .ref h0), (1, .ref b0)]) hx hb dX4_informedSum_17 rfl hl (by decide) rfl (fun ls hl => ?_)
  refine lv_iconst (v := 0) hx hb dX4_informedSum_18 (by decide) ?_
  refine lv_istore (lv' := [(4, .int 0), (3, .int ((sWt ne ch (12 : Int32)) * (xWh st ho pa lg 0))), (2, .int (xWh st ho pa lg 0)), (0, .ref h0), (1, .ref b0)]) hx hb dX4_informedSum_19 hl (by decide) rfl (fun ls hl => ?_)
  refine xl_loop (σ := Nat) (fun n q ls => lv_has ls 5 [(4, .int (nI q)), (3, .int (xAc2 (sWt ne ch 12 * xWh st ho pa lg 0) (fun i => sWt ne ch (nI i) * (if nI i + (sRide ki ru (nI (st - 1)) + xWy (xYd st ho lg (st - 1)) pa) < xWh st ho pa lg 0 then nI i + (sRide ki ru (nI (st - 1)) + xWy (xYd st ho lg (st - 1)) pa) else xWh st ho pa lg 0)) 0 q)), (2, .int (xWh st ho pa lg 0)), (0, .ref h0), (1, .ref b0)] ∧ (12 - q < n) ∧ (q ≤ 12)) (13) (0) ⟨lv_sub hl [0, 1, 2, 3, 4] rfl, by (try dsimp only); exact ⟨by omega, by omega⟩⟩ (fun q ls h => absurd h.2.1 (Nat.not_lt_zero _)) ?_
  intro n_21 q_21 ls ih_21 hI_21
  obtain ⟨hl, hI_21⟩ := hI_21
  obtain ⟨k, e_21⟩ : ∃ z, z = q_21 := ⟨_, rfl⟩
  subst e_21
  obtain ⟨h1, h2⟩ := hI_21
  try dsimp only at hl h1 h2
  refine lv_iload hx hb dX4_informedSum_21 (lv_at hl 0 rfl) ?_
  refine lv_bipush (v := 12) hx hb dX4_informedSum_23 (by decide) ?_
  refine lv_icmp_ge (tgt := 59) hx hb dX4_informedSum_25 (by decide) (fun c_3 => ?_) (fun c_3 => ?_)
  · refine lv_iload_n hx hb dX4_informedSum_59 rfl (lv_at hl 1 rfl) ?_
    exact W.iret (v := xAc2 (sWt ne ch 12 * xWh st ho pa lg 0) (fun i => sWt ne ch (nI i) * (if nI i + (sRide ki ru (nI (st - 1)) + xWy (xYd st ho lg (st - 1)) pa) < xWh st ho pa lg 0 then nI i + (sRide ki ru (nI (st - 1)) + xWy (xYd st ho lg (st - 1)) pa) else xWh st ho pa lg 0)) 0 k) hx hb hr (fun t ht hW => ⟨_, rfl, (by have w := mt (nI_ltI (a := k) (b := 12) (by omega) (by omega)).mpr (Int32.not_lt.mpr c_3); rw [show k = 12 by omega]), ht⟩) (fun _ h => absurd h List.not_mem_nil) dX4_informedSum_60
  · refine lv_iload_n hx hb dX4_informedSum_28 rfl (lv_at hl 1 rfl) ?_
    refine lv_aload_n hx hb dX4_informedSum_29 rfl (lv_at hl 4 rfl) ?_
    refine lv_iload hx hb dX4_informedSum_30 (lv_at hl 0 rfl) ?_
    have hPc := hP.sub (ws' := [(b0, .inr (0, [.int ki, .int ru, .int ne, .ref k0])), (k0, .inl (cI, 12, .inl ch))]) [3, 4] rfl
    refine vp_callSi (va_Run.run (va_runV (As := [.int (nI k)]) (rest := [.int (xAc2 (sWt ne ch 12 * xWh st ho pa lg 0) (fun i => sWt ne ch (nI i) * (if nI i + (sRide ki ru (nI (st - 1)) + xWy (xYd st ho lg (st - 1)) pa) < xWh st ho pa lg 0 then nI i + (sRide ki ru (nI (st - 1)) + xWy (xYd st ho lg (st - 1)) pa) else xWh st ho pa lg 0)) 0 k)]) ⟨hx, hb, hml, hown, hts⟩ (g_X0_weight l D cI cL cZ cC b0 k0 ki ru ne ch (nI k) ) (cwV 1 hts gX4_informedSum_X0_weight rfl rfl rfl (by decide +kernel) ⟨Nat.le_of_ble_eq_true rfl, Nat.le_of_ble_eq_true rfl⟩) ⟨xPc_bl, va_recv hK hPc (ci := 0) (q0 := 0) rfl rfl, xPc_use hPc hK⟩ rfl rfl hl.1 rfl (lv_room (Nat.le_of_ble_eq_true rfl)) dX4_informedSum_32 ⟨Nat.le_of_ble_eq_true rfl, Nat.le_of_ble_eq_true rfl⟩)) (fun r_4 er_4 => ?_)
    obtain rfl : (sWt ne ch (nI k) : Int32) = r_4 := Eq.symm er_4
    refine lv_iload_n hx hb dX4_informedSum_35 rfl (lv_at hl 2 rfl) ?_
    refine lv_iload hx hb dX4_informedSum_36 (lv_at hl 0 rfl) ?_
    refine lv_aload_n hx hb dX4_informedSum_38 rfl (lv_at hl 3 rfl) ?_
    refine va_get (D := D) (ci := 4) (v := .ref rd) (C := RX4) (T := TX4) (N := 10) hx hb hts hwX4 hown hK hP 0 rfl rfl 0 (by decide) (hts (.fieldLink RX4 10 "WaitOrWalkOn" "road" "LWaitOrWalkOn$Road;") (by decide +kernel)) (fun _ h9 => h9) rfl dX4_informedSum_39 ?_
    refine lv_aload_n hx hb dX4_informedSum_42 rfl (lv_at hl 4 rfl) ?_
    have hPc := hP.sub (ws' := [(rd, .inr (2, [.int (nI st), .int ho, .int pa, .int si, .int li, .int lc, .ref r0, .ref r1])), (r0, .inl (cI, 7, .inl lg)), (b0, .inr (0, [.int ki, .int ru, .int ne, .ref k0])), (k0, .inl (cI, 12, .inl ch))]) [1, 2, 3, 4] rfl
    refine vp_callSi (va_Run.run (va_runV (As := [.ref b0]) (rest := [.int (nI k), .int (xWh st ho pa lg 0), .int (sWt ne ch (nI k)), .int (xAc2 (sWt ne ch 12 * xWh st ho pa lg 0) (fun i => sWt ne ch (nI i) * (if nI i + (sRide ki ru (nI (st - 1)) + xWy (xYd st ho lg (st - 1)) pa) < xWh st ho pa lg 0 then nI i + (sRide ki ru (nI (st - 1)) + xWy (xYd st ho lg (st - 1)) pa) else xWh st ho pa lg 0)) 0 k)]) ⟨hx, hb, hml, hown, hts⟩ (g_X2_rideHome l D cI cL cZ cC rd r0 r1 st ho pa si li lc lg b0 k0 ki ru ne ch (by first | assumption | decide +kernel) (by first | assumption | decide +kernel)) (cwV 1 hts gX4_informedSum_X2_rideHome rfl rfl rfl (by decide +kernel) ⟨Nat.le_of_ble_eq_true rfl, Nat.le_of_ble_eq_true rfl⟩) ⟨xPc_bl, va_recv hK hPc (ci := 2) (q0 := 0) rfl rfl, xPc_use hPc hK⟩ rfl rfl hl.1 rfl (lv_room (Nat.le_of_ble_eq_true rfl)) dX4_informedSum_43 ⟨Nat.le_of_ble_eq_true rfl, Nat.le_of_ble_eq_true rfl⟩)) (fun r_5 er_5 => ?_)
    obtain rfl : (sRide ki ru (nI (st - 1)) + xWy (xYd st ho lg (st - 1)) pa : Int32) = r_5 := Eq.symm er_5
    refine lv_iadd hx hb dX4_informedSum_46 ?_
    refine va_mmin hx hb (hml.trans hl.1.symm) hown (hts (.methodLink RX4 188 Lib.Math.min.name) (by decide +kernel)) (hts (.static Lib.Math.min.name) (by decide +kernel)) (hts (.initialized "java/lang/Math") (by decide +kernel)) (hts (.code Lib.Math.min.name Lib.Math.min.code 2 (some .int)) (by decide +kernel)) (Nat.le_of_ble_eq_true rfl) (Nat.le_of_ble_eq_true rfl) (Nat.le_of_ble_eq_true rfl) (Nat.le_of_ble_eq_true rfl) dX4_informedSum_47 ?_
    refine lv_imul hx hb dX4_informedSum_50 ?_
    refine lv_iadd hx hb dX4_informedSum_51 ?_
    refine xv_int (y := xAc2 (sWt ne ch 12 * xWh st ho pa lg 0) (fun i => sWt ne ch (nI i) * (if nI i + (sRide ki ru (nI (st - 1)) + xWy (xYd st ho lg (st - 1)) pa) < xWh st ho pa lg 0 then nI i + (sRide ki ru (nI (st - 1)) + xWy (xYd st ho lg (st - 1)) pa) else xWh st ho pa lg 0)) 0 (k + 1)) (by simp only [xAc2, Nat.zero_add]) ?_
    refine lv_istore_n (lv' := [(3, .int (xAc2 (sWt ne ch 12 * xWh st ho pa lg 0) (fun i => sWt ne ch (nI i) * (if nI i + (sRide ki ru (nI (st - 1)) + xWy (xYd st ho lg (st - 1)) pa) < xWh st ho pa lg 0 then nI i + (sRide ki ru (nI (st - 1)) + xWy (xYd st ho lg (st - 1)) pa) else xWh st ho pa lg 0)) 0 (k + 1))), (4, .int (nI k)), (2, .int (xWh st ho pa lg 0)), (0, .ref h0), (1, .ref b0)]) hx hb dX4_informedSum_52 rfl hl (by decide) rfl (fun ls hl => ?_)
    refine lv_iinc (v := nI (k + 1)) (lv' := [(4, .int (nI (k + 1))), (3, .int (xAc2 (sWt ne ch 12 * xWh st ho pa lg 0) (fun i => sWt ne ch (nI i) * (if nI i + (sRide ki ru (nI (st - 1)) + xWy (xYd st ho lg (st - 1)) pa) < xWh st ho pa lg 0 then nI i + (sRide ki ru (nI (st - 1)) + xWy (xYd st ho lg (st - 1)) pa) else xWh st ho pa lg 0)) 0 (k + 1))), (2, .int (xWh st ho pa lg 0)), (0, .ref h0), (1, .ref b0)]) hx hb dX4_informedSum_53 hl (k := 1) rfl (nI_1 k) (by decide) rfl (fun ls hl => ?_)
    refine lv_goto (tgt := 21) hx hb dX4_informedSum_56 (by decide) ?_
    have w := (nI_ltI (a := k) (b := 12) (by omega) (by omega)).mp (Int32.not_le.mp c_3)
    exact ih_21 (k + 1) _ ⟨lv_sub hl [0, 1, 2, 3, 4] rfl, by (try dsimp only); exact ⟨by omega, by omega⟩⟩

set_option maxHeartbeats 4000000 in
set_option maxRecDepth 100000 in
theorem g_X4_pairHome (l : Launch) (D : va_G) (cI cL cZ cC : ClassId) (h0 : Nat) (rd : Nat) (dr : Nat) (kp : Nat) (pl : Nat) (tx : Nat) (nu : Nat) (rf_a : Nat) (nc : Int32) (hi : Int32) (pd : Int32) (r0 : Nat) (r1 : Nat) (st : Nat) (ho : Int32) (pa : Int32) (si : Int32) (li : Int32) (lc : Int32) (lg : Nat → Int32) (a1 : Int32) (a2 : Int32) (a3 : Int32) (a4 : Int32) (hs1 : 1 ≤ st) (hs7 : st ≤ 7) : Met l yX4_pairHome wsX4_pairHome ({ frames := 3, cells := 0, slots := 0, locals := 66 } : Room) (xPc D [.ref h0, .int a1, .int a2, .int a3, .int a4] [(h0, .inr (4, [.ref rd, .ref dr, .ref kp, .ref pl, .ref tx, .ref nu, .ref rf_a, .int nc, .int hi, .int pd])), (rd, .inr (2, [.int (nI st), .int ho, .int pa, .int si, .int li, .int lc, .ref r0, .ref r1])), (r0, .inl (cI, 7, .inl lg))] (xTy cI cL cZ cC)) (vp_Si (fun r : Int32 => r = sPH st (xWh st ho pa lg 0) li a1 a2 a3 a4)) 0 0 (fun _ => False) := by
  refine Met.ofW (cc := cX4_pairHome) (maxL := 5) (ret := (some .int)) (by decide) rfl ?_
  intro p e s m args below meth c s₁ B hml hv
  obtain ⟨rfl, hP, hK⟩ := hv
  have hx := B.exec
  have hb := B.bytes
  have hr := B.returns
  have hts := atoms_spec (ws := wsX4_pairHome) B.pre
  have hown : s.vm.findClass RX4 = some m.cls := findClass_of_methodNamed B.named
  have hlocks := B.notSynchronized
  have hwX2 : ∀ w ∈ u_ws RX2 TX2 8, w ∈ wsX4_pairHome := fun _ h => List.mem_cons_of_mem _ (List.mem_append_right _ h)
  have hwX4 : ∀ w ∈ u_ws RX4 TX4 10, w ∈ wsX4_pairHome := fun _ h => List.mem_cons_of_mem _ (List.mem_append_left _ (List.mem_append_right _ h))
  have hl := lv_entry ([.ref h0, .int a1, .int a2, .int a3, .int a4]) (n := 5) (Nat.le_of_ble_eq_true rfl)
  rw [lg_entry_eq]
  generalize (lg_sl ([.ref h0, .int a1, .int a2, .int a3, .int a4]) ++ List.replicate (5 - (lg_sl ([.ref h0, .int a1, .int a2, .int a3, .int a4])).length) Slot.unset).toArray = ls at hl ⊢
  have hl : lv_has ls 5 [(0, .ref h0), (1, .int a1), (2, .int a2), (3, .int a3), (4, .int a4)] := hl
  refine lv_aload_n hx hb dX4_pairHome_0 rfl (lv_at hl 0 rfl) ?_
  refine va_get (D := D) (ci := 4) (v := .ref rd) (C := RX4) (T := TX4) (N := 10) hx hb hts hwX4 hown hK hP 0 rfl rfl 0 (by decide) (hts (.fieldLink RX4 10 "WaitOrWalkOn" "road" "LWaitOrWalkOn$Road;") (by decide +kernel)) (fun _ h9 => h9) rfl dX4_pairHome_1 ?_
  have hPc := hP.sub (ws' := [(rd, .inr (2, [.int (nI st), .int ho, .int pa, .int si, .int li, .int lc, .ref r0, .ref r1])), (r0, .inl (cI, 7, .inl lg))]) [1, 2] rfl
  refine vp_callSi (va_Run.run (va_runV (As := []) (rest := []) ⟨hx, hb, hml, hown, hts⟩ (g_X2_last l D cI cL cZ cC rd r0 r1 st ho pa si li lc lg (by first | assumption | decide +kernel) (by first | assumption | decide +kernel)) (cwV 0 hts gX4_pairHome_X2_last rfl rfl rfl (by decide +kernel) ⟨Nat.le_of_ble_eq_true rfl, Nat.le_of_ble_eq_true rfl⟩) ⟨xPc_bl, va_recv hK hPc (ci := 2) (q0 := 0) rfl rfl, xPc_use hPc hK⟩ rfl rfl hl.1 rfl (lv_room (Nat.le_of_ble_eq_true rfl)) dX4_pairHome_4 ⟨Nat.le_of_ble_eq_true rfl, Nat.le_of_ble_eq_true rfl⟩)) (fun r_1 er_1 => ?_)
  obtain rfl : (nI (st - 1) : Int32) = r_1 := Eq.symm er_1
  refine lv_if_ne (tgt := 19) hx hb dX4_pairHome_7 (by decide) (fun c_2 => ?_) (fun c_2 => ?_)
  · refine lv_iload_n hx hb dX4_pairHome_19 rfl (lv_at hl 1 rfl) ?_
    refine lv_bipush (v := 12) hx hb dX4_pairHome_20 (by decide) ?_
    refine lv_icmp_ne (tgt := 48) hx hb dX4_pairHome_22 (by decide) (fun c_3 => ?_) (fun c_3 => ?_)
    · refine lv_iload_n hx hb dX4_pairHome_48 rfl (lv_at hl 1 rfl) ?_
      refine lv_iload_n hx hb dX4_pairHome_49 rfl (lv_at hl 3 rfl) ?_
      refine lv_icmp_ne (tgt := 62) hx hb dX4_pairHome_50 (by decide) (fun c_4 => ?_) (fun c_4 => ?_)
      · refine lv_iload_n hx hb dX4_pairHome_62 rfl (lv_at hl 1 rfl) ?_
        refine lv_iload_n hx hb dX4_pairHome_63 rfl (lv_at hl 3 rfl) ?_
        refine lv_icmp_ge (tgt := 73) hx hb dX4_pairHome_64 (by decide) (fun c_5 => ?_) (fun c_5 => ?_)
        · refine lv_iload_n hx hb dX4_pairHome_73 rfl (lv_at hl 3 rfl) ?_
          refine lv_iload hx hb dX4_pairHome_74 (lv_at hl 4 rfl) ?_
          refine lv_iadd hx hb dX4_pairHome_76 ?_
          exact W.iret (v := a3 + a4) hx hb hr (fun t ht hW => ⟨_, rfl, (by rw [sPH, if_neg (fun w => c_2 (by rw [w]; rfl)), if_neg (fun w => c_3 w.1), if_neg c_4, if_neg (Int32.not_lt.mpr c_5)]), ht⟩) (fun _ h => absurd h List.not_mem_nil) dX4_pairHome_77
        · refine lv_iload_n hx hb dX4_pairHome_67 rfl (lv_at hl 1 rfl) ?_
          refine lv_iload_n hx hb dX4_pairHome_68 rfl (lv_at hl 2 rfl) ?_
          refine lv_iadd hx hb dX4_pairHome_69 ?_
          refine lv_goto (tgt := 77) hx hb dX4_pairHome_70 (by decide) ?_
          exact W.iret (v := a1 + a2) hx hb hr (fun t ht hW => ⟨_, rfl, (by rw [sPH, if_neg (fun w => c_2 (by rw [w]; rfl)), if_neg (fun w => c_3 w.1), if_neg c_4, if_pos (Int32.not_le.mp c_5)]), ht⟩) (fun _ h => absurd h List.not_mem_nil) dX4_pairHome_77
      · refine lv_iload_n hx hb dX4_pairHome_53 rfl (lv_at hl 1 rfl) ?_
        refine lv_iload_n hx hb dX4_pairHome_54 rfl (lv_at hl 2 rfl) ?_
        refine lv_iload hx hb dX4_pairHome_55 (lv_at hl 4 rfl) ?_
        refine va_mmin hx hb (hml.trans hl.1.symm) hown (hts (.methodLink RX4 188 Lib.Math.min.name) (by decide +kernel)) (hts (.static Lib.Math.min.name) (by decide +kernel)) (hts (.initialized "java/lang/Math") (by decide +kernel)) (hts (.code Lib.Math.min.name Lib.Math.min.code 2 (some .int)) (by decide +kernel)) (Nat.le_of_ble_eq_true rfl) (Nat.le_of_ble_eq_true rfl) (Nat.le_of_ble_eq_true rfl) (Nat.le_of_ble_eq_true rfl) dX4_pairHome_57 ?_
        refine lv_iadd hx hb dX4_pairHome_60 ?_
        exact W.iret (v := a1 + (if a4 < a2 then a4 else a2)) hx hb hr (fun t ht hW => ⟨_, rfl, (by rw [sPH, if_neg (fun w => c_2 (by rw [w]; rfl)), if_neg (fun w => c_3 w.1), if_pos c_4]), ht⟩) (fun _ h => absurd h List.not_mem_nil) dX4_pairHome_61
    · refine lv_iload_n hx hb dX4_pairHome_25 rfl (lv_at hl 3 rfl) ?_
      refine lv_bipush (v := 12) hx hb dX4_pairHome_26 (by decide) ?_
      refine lv_icmp_ne (tgt := 48) hx hb dX4_pairHome_28 (by decide) (fun c_6 => ?_) (fun c_6 => ?_)
      · refine lv_iload_n hx hb dX4_pairHome_48 rfl (lv_at hl 1 rfl) ?_
        refine lv_iload_n hx hb dX4_pairHome_49 rfl (lv_at hl 3 rfl) ?_
        refine lv_icmp_ne (tgt := 62) hx hb dX4_pairHome_50 (by decide) (fun c_7 => ?_) (fun c_7 => ?_)
        · refine lv_iload_n hx hb dX4_pairHome_62 rfl (lv_at hl 1 rfl) ?_
          refine lv_iload_n hx hb dX4_pairHome_63 rfl (lv_at hl 3 rfl) ?_
          refine lv_icmp_ge (tgt := 73) hx hb dX4_pairHome_64 (by decide) (fun c_8 => ?_) (fun c_8 => ?_)
          · refine lv_iload_n hx hb dX4_pairHome_73 rfl (lv_at hl 3 rfl) ?_
            refine lv_iload hx hb dX4_pairHome_74 (lv_at hl 4 rfl) ?_
            refine lv_iadd hx hb dX4_pairHome_76 ?_
            exact W.iret (v := a3 + a4) hx hb hr (fun t ht hW => ⟨_, rfl, (by rw [sPH, if_neg (fun w => c_2 (by rw [w]; rfl)), if_neg (fun w => c_6 w.2), if_neg c_7, if_neg (Int32.not_lt.mpr c_8)]), ht⟩) (fun _ h => absurd h List.not_mem_nil) dX4_pairHome_77
          · refine lv_iload_n hx hb dX4_pairHome_67 rfl (lv_at hl 1 rfl) ?_
            refine lv_iload_n hx hb dX4_pairHome_68 rfl (lv_at hl 2 rfl) ?_
            refine lv_iadd hx hb dX4_pairHome_69 ?_
            refine lv_goto (tgt := 77) hx hb dX4_pairHome_70 (by decide) ?_
            exact W.iret (v := a1 + a2) hx hb hr (fun t ht hW => ⟨_, rfl, (by rw [sPH, if_neg (fun w => c_2 (by rw [w]; rfl)), if_neg (fun w => c_6 w.2), if_neg c_7, if_pos (Int32.not_le.mp c_8)]), ht⟩) (fun _ h => absurd h List.not_mem_nil) dX4_pairHome_77
        · refine lv_iload_n hx hb dX4_pairHome_53 rfl (lv_at hl 1 rfl) ?_
          refine lv_iload_n hx hb dX4_pairHome_54 rfl (lv_at hl 2 rfl) ?_
          refine lv_iload hx hb dX4_pairHome_55 (lv_at hl 4 rfl) ?_
          refine va_mmin hx hb (hml.trans hl.1.symm) hown (hts (.methodLink RX4 188 Lib.Math.min.name) (by decide +kernel)) (hts (.static Lib.Math.min.name) (by decide +kernel)) (hts (.initialized "java/lang/Math") (by decide +kernel)) (hts (.code Lib.Math.min.name Lib.Math.min.code 2 (some .int)) (by decide +kernel)) (Nat.le_of_ble_eq_true rfl) (Nat.le_of_ble_eq_true rfl) (Nat.le_of_ble_eq_true rfl) (Nat.le_of_ble_eq_true rfl) dX4_pairHome_57 ?_
          refine lv_iadd hx hb dX4_pairHome_60 ?_
          exact W.iret (v := a1 + (if a4 < a2 then a4 else a2)) hx hb hr (fun t ht hW => ⟨_, rfl, (by rw [sPH, if_neg (fun w => c_2 (by rw [w]; rfl)), if_neg (fun w => c_6 w.2), if_pos c_7]), ht⟩) (fun _ h => absurd h List.not_mem_nil) dX4_pairHome_61
      · refine lv_aload_n hx hb dX4_pairHome_31 rfl (lv_at hl 0 rfl) ?_
        refine va_get (D := D) (ci := 4) (v := .ref rd) (C := RX4) (T := TX4) (N := 10) hx hb hts hwX4 hown hK hP 0 rfl rfl 0 (by decide) (hts (.fieldLink RX4 10 "WaitOrWalkOn" "road" "LWaitOrWalkOn$Road;") (by decide +kernel)) (fun _ h9 => h9) rfl dX4_pairHome_32 ?_
        refine va_get (D := D) (ci := 2) (v := .int li) (C := RX2) (T := TX2) (N := 8) hx hb hts hwX2 hown hK hP 1 rfl rfl 4 (by decide) (hts (.fieldLink RX4 234 "WaitOrWalkOn$Road" "limit" "I") (by decide +kernel)) (fun _ h9 => h9) rfl dX4_pairHome_35 ?_
        refine lv_aload_n hx hb dX4_pairHome_38 rfl (lv_at hl 0 rfl) ?_
        refine va_get (D := D) (ci := 4) (v := .ref rd) (C := RX4) (T := TX4) (N := 10) hx hb hts hwX4 hown hK hP 0 rfl rfl 0 (by decide) (hts (.fieldLink RX4 10 "WaitOrWalkOn" "road" "LWaitOrWalkOn$Road;") (by decide +kernel)) (fun _ h9 => h9) rfl dX4_pairHome_39 ?_
        refine lv_iconst (v := 0) hx hb dX4_pairHome_42 (by decide) ?_
        have hPc := hP.sub (ws' := [(rd, .inr (2, [.int (nI st), .int ho, .int pa, .int si, .int li, .int lc, .ref r0, .ref r1])), (r0, .inl (cI, 7, .inl lg))]) [1, 2] rfl
        refine vp_callSi (va_Run.run (va_runV (As := [.int 0]) (rest := [.int li]) ⟨hx, hb, hml, hown, hts⟩ (g_X2_walkHome l D cI cL cZ cC rd r0 r1 st ho pa si li lc lg 0 (by first | assumption | decide +kernel) (by first | assumption | decide +kernel) (by omega)) (cwV 1 hts gX4_pairHome_X2_walkHome rfl rfl rfl (by decide +kernel) ⟨Nat.le_of_ble_eq_true rfl, Nat.le_of_ble_eq_true rfl⟩) ⟨xPc_bl, va_recv hK hPc (ci := 2) (q0 := 0) rfl rfl, xPc_use hPc hK⟩ rfl rfl hl.1 rfl (lv_room (Nat.le_of_ble_eq_true rfl)) dX4_pairHome_43 ⟨Nat.le_of_ble_eq_true rfl, Nat.le_of_ble_eq_true rfl⟩)) (fun r_9 er_9 => ?_)
        obtain rfl : (xWh st ho pa lg 0 : Int32) = r_9 := Eq.symm er_9
        refine lv_iadd hx hb dX4_pairHome_46 ?_
        exact W.iret (v := li + (xWh st ho pa lg 0)) hx hb hr (fun t ht hW => ⟨_, rfl, (by rw [sPH, if_neg (fun w => c_2 (by rw [w]; rfl)), if_pos ⟨c_3, c_6⟩]), ht⟩) (fun _ h => absurd h List.not_mem_nil) dX4_pairHome_47
  · refine lv_aload_n hx hb dX4_pairHome_10 rfl (lv_at hl 0 rfl) ?_
    refine va_get (D := D) (ci := 4) (v := .ref rd) (C := RX4) (T := TX4) (N := 10) hx hb hts hwX4 hown hK hP 0 rfl rfl 0 (by decide) (hts (.fieldLink RX4 10 "WaitOrWalkOn" "road" "LWaitOrWalkOn$Road;") (by decide +kernel)) (fun _ h9 => h9) rfl dX4_pairHome_11 ?_
    refine lv_iconst (v := 0) hx hb dX4_pairHome_14 (by decide) ?_
    have hPc := hP.sub (ws' := [(rd, .inr (2, [.int (nI st), .int ho, .int pa, .int si, .int li, .int lc, .ref r0, .ref r1])), (r0, .inl (cI, 7, .inl lg))]) [1, 2] rfl
    refine vp_callSi (va_Run.run (va_runV (As := [.int 0]) (rest := []) ⟨hx, hb, hml, hown, hts⟩ (g_X2_walkHome l D cI cL cZ cC rd r0 r1 st ho pa si li lc lg 0 (by first | assumption | decide +kernel) (by first | assumption | decide +kernel) (by omega)) (cwV 1 hts gX4_pairHome_X2_walkHome rfl rfl rfl (by decide +kernel) ⟨Nat.le_of_ble_eq_true rfl, Nat.le_of_ble_eq_true rfl⟩) ⟨xPc_bl, va_recv hK hPc (ci := 2) (q0 := 0) rfl rfl, xPc_use hPc hK⟩ rfl rfl hl.1 rfl (lv_room (Nat.le_of_ble_eq_true rfl)) dX4_pairHome_15 ⟨Nat.le_of_ble_eq_true rfl, Nat.le_of_ble_eq_true rfl⟩)) (fun r_10 er_10 => ?_)
    obtain rfl : (xWh st ho pa lg 0 : Int32) = r_10 := Eq.symm er_10
    exact W.iret (v := xWh st ho pa lg 0) hx hb hr (fun t ht hW => ⟨_, rfl, (by rw [sPH, if_pos (show st = 1 by have w : st - 1 = 0 := (nI_eq (a := st - 1) (b := 0) (by omega) (by decide)).mp c_2; omega)]), ht⟩) (fun _ h => absurd h List.not_mem_nil) dX4_pairHome_18

set_option maxHeartbeats 4000000 in
set_option maxRecDepth 100000 in
theorem g_X4_pairSum (l : Launch) (D : va_G) (cI cL cZ cC : ClassId) (h0 : Nat) (rd : Nat) (dr : Nat) (kp : Nat) (pl : Nat) (tx : Nat) (nu : Nat) (rf_a : Nat) (nc : Int32) (hi : Int32) (pd : Int32) (r0 : Nat) (r1 : Nat) (st : Nat) (ho : Int32) (pa : Int32) (si : Int32) (li : Int32) (lc : Int32) (lg : Nat → Int32) (la : Nat → Nat) (lk : Nat → Nat) (ki : Nat → Int32) (ru : Nat → Int32) (ne : Nat → Int32) (ch : Nat → Nat → Int32) (a0 : Nat) (a1 : Nat) (a3 : Int32) (hs1 : 1 ≤ st) (hs7 : st ≤ 7) (ha : a0 ≤ 2) (hb0 : a1 ≤ 2) : Met l yX4_pairSum wsX4_pairSum ({ frames := 4, cells := 0, slots := 0, locals := 90 } : Room) (xPc D [.ref h0, .int (nI a0), .int (nI a1), .int a3] [(h0, .inr (4, [.ref rd, .ref dr, .ref kp, .ref pl, .ref tx, .ref nu, .ref rf_a, .int nc, .int hi, .int pd])), (rd, .inr (2, [.int (nI st), .int ho, .int pa, .int si, .int li, .int lc, .ref r0, .ref r1])), (r0, .inl (cI, 7, .inl lg)), (r1, .inl (cL, 3, .inr (.inr (.inr (.inr (xL3 (la 0) (la 1) (la 2))))))), (la 0, .inr (0, [.int (ki 0), .int (ru 0), .int (ne 0), .ref (lk 0)])), (lk 0, .inl (cI, 12, .inl (ch 0))), (la 1, .inr (0, [.int (ki 1), .int (ru 1), .int (ne 1), .ref (lk 1)])), (lk 1, .inl (cI, 12, .inl (ch 1))), (la 2, .inr (0, [.int (ki 2), .int (ru 2), .int (ne 2), .ref (lk 2)])), (lk 2, .inl (cI, 12, .inl (ch 2)))] (xTy cI cL cZ cC)) (vp_Si (fun r : Int32 => r = xPo (fun t => sWt (ne a0) (ch a0) (nI t)) (fun t u => sWt (ne a0) (ch a0) (nI t) * sWt (ne a1) (ch a1) (nI u) * sPH st (xWh st ho pa lg 0) li (nI t) (sRide (ki a0) (ru a0) (nI (st - 1)) + xWy (xYd st ho lg (st - 1)) pa) (if nI u < a3 then 12 else nI u) (sRide (ki a1) (ru a1) (nI (st - 1)) + xWy (xYd st ho lg (st - 1)) pa)) 13)) 0 0 (fun _ => False) := by
  refine Met.ofW (cc := cX4_pairSum) (maxL := 13) (ret := (some .int)) (by decide) rfl ?_
  intro p e s m args below meth c s₁ B hml hv
  obtain ⟨rfl, hP, hK⟩ := hv
  have hx := B.exec
  have hb := B.bytes
  have hr := B.returns
  have hts := atoms_spec (ws := wsX4_pairSum) B.pre
  have hown : s.vm.findClass RX4 = some m.cls := findClass_of_methodNamed B.named
  have hlocks := B.notSynchronized
  have hwX2 : ∀ w ∈ u_ws RX2 TX2 8, w ∈ wsX4_pairSum := fun _ h => List.mem_cons_of_mem _ (List.mem_append_left _ (List.mem_append_right _ h))
  have hwX4 : ∀ w ∈ u_ws RX4 TX4 10, w ∈ wsX4_pairSum := fun _ h => List.mem_cons_of_mem _ (List.mem_append_left _ (List.mem_append_left _ (List.mem_append_right _ h)))
  have hl := lv_entry ([.ref h0, .int (nI a0), .int (nI a1), .int a3]) (n := 13) (Nat.le_of_ble_eq_true rfl)
  rw [lg_entry_eq]
  generalize (lg_sl ([.ref h0, .int (nI a0), .int (nI a1), .int a3]) ++ List.replicate (13 - (lg_sl ([.ref h0, .int (nI a0), .int (nI a1), .int a3])).length) Slot.unset).toArray = ls at hl ⊢
  have hl : lv_has ls 13 [(0, .ref h0), (1, .int (nI a0)), (2, .int (nI a1)), (3, .int a3)] := hl
  have hPa : va_P D vwCl [(la a0, .inr (0, [.int (ki a0), .int (ru a0), .int (ne a0), .ref (lk a0)])), (lk a0, .inl (cI, 12, .inl (ch a0)))] s.heap := by rcases (show a0 = 0 ∨ a0 = 1 ∨ a0 = 2 by omega) with rfl | rfl | rfl; exact hP.sub [4, 5] rfl; exact hP.sub [6, 7] rfl; exact hP.sub [8, 9] rfl
  have hPb : va_P D vwCl [(la a1, .inr (0, [.int (ki a1), .int (ru a1), .int (ne a1), .ref (lk a1)])), (lk a1, .inl (cI, 12, .inl (ch a1)))] s.heap := by rcases (show a1 = 0 ∨ a1 = 1 ∨ a1 = 2 by omega) with rfl | rfl | rfl; exact hP.sub [4, 5] rfl; exact hP.sub [6, 7] rfl; exact hP.sub [8, 9] rfl
  refine lv_aload_n hx hb dX4_pairSum_0 rfl (lv_at hl 0 rfl) ?_
  refine va_get (D := D) (ci := 4) (v := .ref rd) (C := RX4) (T := TX4) (N := 10) hx hb hts hwX4 hown hK hP 0 rfl rfl 0 (by decide) (hts (.fieldLink RX4 10 "WaitOrWalkOn" "road" "LWaitOrWalkOn$Road;") (by decide +kernel)) (fun _ h9 => h9) rfl dX4_pairSum_1 ?_
  refine va_get (D := D) (ci := 2) (v := .ref r1) (C := RX2) (T := TX2) (N := 8) hx hb hts hwX2 hown hK hP 1 rfl rfl 7 (by decide) (hts (.fieldLink RX4 79 "WaitOrWalkOn$Road" "lines" "[LWaitOrWalkOn$Line;") (by decide +kernel)) (fun _ h9 => h9) rfl dX4_pairSum_4 ?_
  refine lv_iload_n hx hb dX4_pairSum_7 rfl (lv_at hl 1 rfl) ?_
  refine va_aldq (D := D) hx hb hK hP 3 1 rfl rfl (vp_in_nI (by omega) (by decide)) dX4_pairSum_8 ?_
  refine xv_ref (y := la a0) (xL3_at (by omega)) ?_
  refine lv_astore (lv' := [(4, .ref (la a0)), (0, .ref h0), (1, .int (nI a0)), (2, .int (nI a1)), (3, .int a3)]) hx hb dX4_pairSum_9 hl (by decide) rfl (fun ls hl => ?_)
  refine lv_aload_n hx hb dX4_pairSum_11 rfl (lv_at hl 1 rfl) ?_
  refine va_get (D := D) (ci := 4) (v := .ref rd) (C := RX4) (T := TX4) (N := 10) hx hb hts hwX4 hown hK hP 0 rfl rfl 0 (by decide) (hts (.fieldLink RX4 10 "WaitOrWalkOn" "road" "LWaitOrWalkOn$Road;") (by decide +kernel)) (fun _ h9 => h9) rfl dX4_pairSum_12 ?_
  refine va_get (D := D) (ci := 2) (v := .ref r1) (C := RX2) (T := TX2) (N := 8) hx hb hts hwX2 hown hK hP 1 rfl rfl 7 (by decide) (hts (.fieldLink RX4 79 "WaitOrWalkOn$Road" "lines" "[LWaitOrWalkOn$Line;") (by decide +kernel)) (fun _ h9 => h9) rfl dX4_pairSum_15 ?_
  refine lv_iload_n hx hb dX4_pairSum_18 rfl (lv_at hl 3 rfl) ?_
  refine va_aldq (D := D) hx hb hK hP 3 1 rfl rfl (vp_in_nI (by omega) (by decide)) dX4_pairSum_19 ?_
  refine xv_ref (y := la a1) (xL3_at (by omega)) ?_
  refine lv_astore (lv' := [(5, .ref (la a1)), (4, .ref (la a0)), (0, .ref h0), (1, .int (nI a0)), (2, .int (nI a1)), (3, .int a3)]) hx hb dX4_pairSum_20 hl (by decide) rfl (fun ls hl => ?_)
  refine lv_aload_n hx hb dX4_pairSum_22 rfl (lv_at hl 2 rfl) ?_
  refine va_get (D := D) (ci := 4) (v := .ref rd) (C := RX4) (T := TX4) (N := 10) hx hb hts hwX4 hown hK hP 0 rfl rfl 0 (by decide) (hts (.fieldLink RX4 10 "WaitOrWalkOn" "road" "LWaitOrWalkOn$Road;") (by decide +kernel)) (fun _ h9 => h9) rfl dX4_pairSum_23 ?_
  refine lv_aload hx hb dX4_pairSum_26 (lv_at hl 1 rfl) ?_
  have hPc := (va_P.app (hP.sub (ws' := [(rd, .inr (2, [.int (nI st), .int ho, .int pa, .int si, .int li, .int lc, .ref r0, .ref r1])), (r0, .inl (cI, 7, .inl lg))]) [1, 2] rfl) (hPa.sub (ws' := [((la a0), .inr (0, [.int (ki a0), .int (ru a0), .int (ne a0), .ref (lk a0)])), ((lk a0), .inl (cI, 12, .inl (ch a0)))]) [0, 1] rfl))
  refine vp_callSi (va_Run.run (va_runV (As := [.ref (la a0)]) (rest := []) ⟨hx, hb, hml, hown, hts⟩ (g_X2_rideHome l D cI cL cZ cC rd r0 r1 st ho pa si li lc lg (la a0) (lk a0) (ki a0) (ru a0) (ne a0) (ch a0) (by first | assumption | decide +kernel) (by first | assumption | decide +kernel)) (cwV 1 hts gX4_pairSum_X2_rideHome rfl rfl rfl (by decide +kernel) ⟨Nat.le_of_ble_eq_true rfl, Nat.le_of_ble_eq_true rfl⟩) ⟨xPc_bl, va_recv hK hPc (ci := 2) (q0 := 0) rfl rfl, xPc_use hPc hK⟩ rfl rfl hl.1 rfl (lv_room (Nat.le_of_ble_eq_true rfl)) dX4_pairSum_28 ⟨Nat.le_of_ble_eq_true rfl, Nat.le_of_ble_eq_true rfl⟩)) (fun r_1 er_1 => ?_)
  obtain rfl : (sRide (ki a0) (ru a0) (nI (st - 1)) + xWy (xYd st ho lg (st - 1)) pa : Int32) = r_1 := Eq.symm er_1
  refine lv_istore (lv' := [(6, .int (sRide (ki a0) (ru a0) (nI (st - 1)) + xWy (xYd st ho lg (st - 1)) pa)), (5, .ref (la a1)), (4, .ref (la a0)), (0, .ref h0), (1, .int (nI a0)), (2, .int (nI a1)), (3, .int a3)]) hx hb dX4_pairSum_31 hl (by decide) rfl (fun ls hl => ?_)
  refine lv_aload_n hx hb dX4_pairSum_33 rfl (lv_at hl 3 rfl) ?_
  refine va_get (D := D) (ci := 4) (v := .ref rd) (C := RX4) (T := TX4) (N := 10) hx hb hts hwX4 hown hK hP 0 rfl rfl 0 (by decide) (hts (.fieldLink RX4 10 "WaitOrWalkOn" "road" "LWaitOrWalkOn$Road;") (by decide +kernel)) (fun _ h9 => h9) rfl dX4_pairSum_34 ?_
  refine lv_aload hx hb dX4_pairSum_37 (lv_at hl 1 rfl) ?_
  have hPc := (va_P.app (hP.sub (ws' := [(rd, .inr (2, [.int (nI st), .int ho, .int pa, .int si, .int li, .int lc, .ref r0, .ref r1])), (r0, .inl (cI, 7, .inl lg))]) [1, 2] rfl) (hPb.sub (ws' := [((la a1), .inr (0, [.int (ki a1), .int (ru a1), .int (ne a1), .ref (lk a1)])), ((lk a1), .inl (cI, 12, .inl (ch a1)))]) [0, 1] rfl))
  refine vp_callSi (va_Run.run (va_runV (As := [.ref (la a1)]) (rest := []) ⟨hx, hb, hml, hown, hts⟩ (g_X2_rideHome l D cI cL cZ cC rd r0 r1 st ho pa si li lc lg (la a1) (lk a1) (ki a1) (ru a1) (ne a1) (ch a1) (by first | assumption | decide +kernel) (by first | assumption | decide +kernel)) (cwV 1 hts gX4_pairSum_X2_rideHome rfl rfl rfl (by decide +kernel) ⟨Nat.le_of_ble_eq_true rfl, Nat.le_of_ble_eq_true rfl⟩) ⟨xPc_bl, va_recv hK hPc (ci := 2) (q0 := 0) rfl rfl, xPc_use hPc hK⟩ rfl rfl hl.1 rfl (lv_room (Nat.le_of_ble_eq_true rfl)) dX4_pairSum_39 ⟨Nat.le_of_ble_eq_true rfl, Nat.le_of_ble_eq_true rfl⟩)) (fun r_2 er_2 => ?_)
  obtain rfl : (sRide (ki a1) (ru a1) (nI (st - 1)) + xWy (xYd st ho lg (st - 1)) pa : Int32) = r_2 := Eq.symm er_2
  refine lv_istore (lv' := [(7, .int (sRide (ki a1) (ru a1) (nI (st - 1)) + xWy (xYd st ho lg (st - 1)) pa)), (6, .int (sRide (ki a0) (ru a0) (nI (st - 1)) + xWy (xYd st ho lg (st - 1)) pa)), (5, .ref (la a1)), (4, .ref (la a0)), (0, .ref h0), (1, .int (nI a0)), (2, .int (nI a1)), (3, .int a3)]) hx hb dX4_pairSum_42 hl (by decide) rfl (fun ls hl => ?_)
  refine lv_iconst (v := 0) hx hb dX4_pairSum_44 (by decide) ?_
  refine lv_istore (lv' := [(8, .int 0), (7, .int (sRide (ki a1) (ru a1) (nI (st - 1)) + xWy (xYd st ho lg (st - 1)) pa)), (6, .int (sRide (ki a0) (ru a0) (nI (st - 1)) + xWy (xYd st ho lg (st - 1)) pa)), (5, .ref (la a1)), (4, .ref (la a0)), (0, .ref h0), (1, .int (nI a0)), (2, .int (nI a1)), (3, .int a3)]) hx hb dX4_pairSum_45 hl (by decide) rfl (fun ls hl => ?_)
  refine lv_iconst (v := 0) hx hb dX4_pairSum_47 (by decide) ?_
  refine lv_istore (lv' := [(9, .int 0), (8, .int 0), (7, .int (sRide (ki a1) (ru a1) (nI (st - 1)) + xWy (xYd st ho lg (st - 1)) pa)), (6, .int (sRide (ki a0) (ru a0) (nI (st - 1)) + xWy (xYd st ho lg (st - 1)) pa)), (5, .ref (la a1)), (4, .ref (la a0)), (0, .ref h0), (1, .int (nI a0)), (2, .int (nI a1)), (3, .int a3)]) hx hb dX4_pairSum_48 hl (by decide) rfl (fun ls hl => ?_)
  refine xl_loop (σ := Nat) (fun n q ls => lv_has ls 13 [(9, .int (nI q)), (8, .int (xPo (fun t => sWt (ne a0) (ch a0) (nI t)) (fun t u => sWt (ne a0) (ch a0) (nI t) * sWt (ne a1) (ch a1) (nI u) * sPH st (xWh st ho pa lg 0) li (nI t) (sRide (ki a0) (ru a0) (nI (st - 1)) + xWy (xYd st ho lg (st - 1)) pa) (if nI u < a3 then 12 else nI u) (sRide (ki a1) (ru a1) (nI (st - 1)) + xWy (xYd st ho lg (st - 1)) pa)) q)), (7, .int (sRide (ki a1) (ru a1) (nI (st - 1)) + xWy (xYd st ho lg (st - 1)) pa)), (6, .int (sRide (ki a0) (ru a0) (nI (st - 1)) + xWy (xYd st ho lg (st - 1)) pa)), (5, .ref (la a1)), (4, .ref (la a0)), (0, .ref h0), (1, .int (nI a0)), (2, .int (nI a1)), (3, .int a3)] ∧ (13 - q < n) ∧ (q ≤ 13)) (14) (0) ⟨lv_sub hl [0, 1, 2, 3, 4, 5, 6, 7, 8, 9] rfl, by (try dsimp only); exact ⟨by omega, by omega⟩⟩ (fun q ls h => absurd h.2.1 (Nat.not_lt_zero _)) ?_
  intro n_50 q_50 ls ih_50 hI_50
  obtain ⟨hl, hI_50⟩ := hI_50
  obtain ⟨t1, e_50⟩ : ∃ z, z = q_50 := ⟨_, rfl⟩
  subst e_50
  obtain ⟨h1, h2⟩ := hI_50
  try dsimp only at hl h1 h2
  refine lv_iload hx hb dX4_pairSum_50 (lv_at hl 0 rfl) ?_
  refine lv_bipush (v := 12) hx hb dX4_pairSum_52 (by decide) ?_
  refine lv_icmp_gt (tgt := 136) hx hb dX4_pairSum_54 (by decide) (fun c_3 => ?_) (fun c_3 => ?_)
  · refine lv_iload hx hb dX4_pairSum_136 (lv_at hl 1 rfl) ?_
    exact W.iret (v := xPo (fun t => sWt (ne a0) (ch a0) (nI t)) (fun t u => sWt (ne a0) (ch a0) (nI t) * sWt (ne a1) (ch a1) (nI u) * sPH st (xWh st ho pa lg 0) li (nI t) (sRide (ki a0) (ru a0) (nI (st - 1)) + xWy (xYd st ho lg (st - 1)) pa) (if nI u < a3 then 12 else nI u) (sRide (ki a1) (ru a1) (nI (st - 1)) + xWy (xYd st ho lg (st - 1)) pa)) t1) hx hb hr (fun t ht hW => ⟨_, rfl, (by have w := (nI_ltI (a := 12) (b := t1) (by decide) (by omega)).mp c_3; rw [show t1 = 13 by omega]), ht⟩) (fun _ h => absurd h List.not_mem_nil) dX4_pairSum_138
  · refine lv_aload hx hb dX4_pairSum_57 (lv_at hl 5 rfl) ?_
    refine lv_iload hx hb dX4_pairSum_59 (lv_at hl 0 rfl) ?_
    have hPc := hPa.sub (ws' := [((la a0), .inr (0, [.int (ki a0), .int (ru a0), .int (ne a0), .ref (lk a0)])), ((lk a0), .inl (cI, 12, .inl (ch a0)))]) [0, 1] rfl
    refine vp_callSi (va_Run.run (va_runV (As := [.int (nI t1)]) (rest := []) ⟨hx, hb, hml, hown, hts⟩ (g_X0_weight l D cI cL cZ cC (la a0) (lk a0) (ki a0) (ru a0) (ne a0) (ch a0) (nI t1) ) (cwV 1 hts gX4_pairSum_X0_weight rfl rfl rfl (by decide +kernel) ⟨Nat.le_of_ble_eq_true rfl, Nat.le_of_ble_eq_true rfl⟩) ⟨xPc_bl, va_recv hK hPc (ci := 0) (q0 := 0) rfl rfl, xPc_use hPc hK⟩ rfl rfl hl.1 rfl (lv_room (Nat.le_of_ble_eq_true rfl)) dX4_pairSum_61 ⟨Nat.le_of_ble_eq_true rfl, Nat.le_of_ble_eq_true rfl⟩)) (fun r_4 er_4 => ?_)
    obtain rfl : (sWt (ne a0) (ch a0) (nI t1) : Int32) = r_4 := Eq.symm er_4
    refine lv_istore (lv' := [(10, .int (sWt (ne a0) (ch a0) (nI t1))), (9, .int (nI t1)), (8, .int (xPo (fun t => sWt (ne a0) (ch a0) (nI t)) (fun t u => sWt (ne a0) (ch a0) (nI t) * sWt (ne a1) (ch a1) (nI u) * sPH st (xWh st ho pa lg 0) li (nI t) (sRide (ki a0) (ru a0) (nI (st - 1)) + xWy (xYd st ho lg (st - 1)) pa) (if nI u < a3 then 12 else nI u) (sRide (ki a1) (ru a1) (nI (st - 1)) + xWy (xYd st ho lg (st - 1)) pa)) t1)), (7, .int (sRide (ki a1) (ru a1) (nI (st - 1)) + xWy (xYd st ho lg (st - 1)) pa)), (6, .int (sRide (ki a0) (ru a0) (nI (st - 1)) + xWy (xYd st ho lg (st - 1)) pa)), (5, .ref (la a1)), (4, .ref (la a0)), (0, .ref h0), (1, .int (nI a0)), (2, .int (nI a1)), (3, .int a3)]) hx hb dX4_pairSum_64 hl (by decide) rfl (fun ls hl => ?_)
    refine lv_iconst (v := 0) hx hb dX4_pairSum_66 (by decide) ?_
    refine lv_istore (lv' := [(11, .int 0), (10, .int (sWt (ne a0) (ch a0) (nI t1))), (9, .int (nI t1)), (8, .int (xPo (fun t => sWt (ne a0) (ch a0) (nI t)) (fun t u => sWt (ne a0) (ch a0) (nI t) * sWt (ne a1) (ch a1) (nI u) * sPH st (xWh st ho pa lg 0) li (nI t) (sRide (ki a0) (ru a0) (nI (st - 1)) + xWy (xYd st ho lg (st - 1)) pa) (if nI u < a3 then 12 else nI u) (sRide (ki a1) (ru a1) (nI (st - 1)) + xWy (xYd st ho lg (st - 1)) pa)) t1)), (7, .int (sRide (ki a1) (ru a1) (nI (st - 1)) + xWy (xYd st ho lg (st - 1)) pa)), (6, .int (sRide (ki a0) (ru a0) (nI (st - 1)) + xWy (xYd st ho lg (st - 1)) pa)), (5, .ref (la a1)), (4, .ref (la a0)), (0, .ref h0), (1, .int (nI a0)), (2, .int (nI a1)), (3, .int a3)]) hx hb dX4_pairSum_67 hl (by decide) rfl (fun ls hl => ?_)
    refine xl_loop (σ := Nat) (fun n q ls => lv_has ls 13 [(11, .int (nI q)), (10, .int (sWt (ne a0) (ch a0) (nI t1))), (9, .int (nI t1)), (8, .int (xAc2 (xPo (fun t => sWt (ne a0) (ch a0) (nI t)) (fun t q => sWt (ne a0) (ch a0) (nI t) * sWt (ne a1) (ch a1) (nI q) * sPH st (xWh st ho pa lg 0) li (nI t) (sRide (ki a0) (ru a0) (nI (st - 1)) + xWy (xYd st ho lg (st - 1)) pa) (if nI q < a3 then 12 else nI q) (sRide (ki a1) (ru a1) (nI (st - 1)) + xWy (xYd st ho lg (st - 1)) pa)) t1) ((fun t q => sWt (ne a0) (ch a0) (nI t) * sWt (ne a1) (ch a1) (nI q) * sPH st (xWh st ho pa lg 0) li (nI t) (sRide (ki a0) (ru a0) (nI (st - 1)) + xWy (xYd st ho lg (st - 1)) pa) (if nI q < a3 then 12 else nI q) (sRide (ki a1) (ru a1) (nI (st - 1)) + xWy (xYd st ho lg (st - 1)) pa)) t1) 0 q)), (7, .int (sRide (ki a1) (ru a1) (nI (st - 1)) + xWy (xYd st ho lg (st - 1)) pa)), (6, .int (sRide (ki a0) (ru a0) (nI (st - 1)) + xWy (xYd st ho lg (st - 1)) pa)), (5, .ref (la a1)), (4, .ref (la a0)), (0, .ref h0), (1, .int (nI a0)), (2, .int (nI a1)), (3, .int a3)] ∧ (13 - q < n) ∧ (q ≤ 13) ∧ (q = 0 ∨ 0 < sWt (ne a0) (ch a0) (nI t1))) (14) (0) ⟨lv_sub hl [0, 1, 2, 3, 4, 5, 6, 7, 8, 9, 10, 11] rfl, by (try dsimp only); exact ⟨by omega, by omega, Or.inl rfl⟩⟩ (fun q ls h => absurd h.2.1 (Nat.not_lt_zero _)) ?_
    intro n_69 q_69 ls ih_69 hI_69
    obtain ⟨hl, hI_69⟩ := hI_69
    obtain ⟨u, e_69⟩ : ∃ z, z = q_69 := ⟨_, rfl⟩
    subst e_69
    obtain ⟨i1, i2, i3⟩ := hI_69
    try dsimp only at hl i1 i2 i3
    refine lv_iload hx hb dX4_pairSum_69 (lv_at hl 0 rfl) ?_
    refine lv_bipush (v := 12) hx hb dX4_pairSum_71 (by decide) ?_
    refine lv_icmp_gt (tgt := 130) hx hb dX4_pairSum_73 (by decide) (fun c_5 => ?_) (fun c_5 => ?_)
    · have e9 : xAc2 (xPo (fun t => sWt (ne a0) (ch a0) (nI t)) (fun t u => sWt (ne a0) (ch a0) (nI t) * sWt (ne a1) (ch a1) (nI u) * sPH st (xWh st ho pa lg 0) li (nI t) (sRide (ki a0) (ru a0) (nI (st - 1)) + xWy (xYd st ho lg (st - 1)) pa) (if nI u < a3 then 12 else nI u) (sRide (ki a1) (ru a1) (nI (st - 1)) + xWy (xYd st ho lg (st - 1)) pa)) t1) ((fun t u => sWt (ne a0) (ch a0) (nI t) * sWt (ne a1) (ch a1) (nI u) * sPH st (xWh st ho pa lg 0) li (nI t) (sRide (ki a0) (ru a0) (nI (st - 1)) + xWy (xYd st ho lg (st - 1)) pa) (if nI u < a3 then 12 else nI u) (sRide (ki a1) (ru a1) (nI (st - 1)) + xWy (xYd st ho lg (st - 1)) pa)) t1) 0 u = xPo (fun t => sWt (ne a0) (ch a0) (nI t)) (fun t u => sWt (ne a0) (ch a0) (nI t) * sWt (ne a1) (ch a1) (nI u) * sPH st (xWh st ho pa lg 0) li (nI t) (sRide (ki a0) (ru a0) (nI (st - 1)) + xWy (xYd st ho lg (st - 1)) pa) (if nI u < a3 then 12 else nI u) (sRide (ki a1) (ru a1) (nI (st - 1)) + xWy (xYd st ho lg (st - 1)) pa)) (t1 + 1) := by have w := (nI_ltI (a := 12) (b := u) (by decide) (by omega)).mp c_5; rw [show u = 13 by omega]; have hw := i3.resolve_left (by omega); simp only [xPo]; rw [if_pos hw]
      rw [e9] at hl
      refine lv_iinc (v := nI (t1 + 1)) (lv' := [(9, .int (nI (t1 + 1))), (11, .int (nI u)), (10, .int (sWt (ne a0) (ch a0) (nI t1))), (8, .int (xPo (fun t => sWt (ne a0) (ch a0) (nI t)) (fun t u => sWt (ne a0) (ch a0) (nI t) * sWt (ne a1) (ch a1) (nI u) * sPH st (xWh st ho pa lg 0) li (nI t) (sRide (ki a0) (ru a0) (nI (st - 1)) + xWy (xYd st ho lg (st - 1)) pa) (if nI u < a3 then 12 else nI u) (sRide (ki a1) (ru a1) (nI (st - 1)) + xWy (xYd st ho lg (st - 1)) pa)) (t1 + 1))), (7, .int (sRide (ki a1) (ru a1) (nI (st - 1)) + xWy (xYd st ho lg (st - 1)) pa)), (6, .int (sRide (ki a0) (ru a0) (nI (st - 1)) + xWy (xYd st ho lg (st - 1)) pa)), (5, .ref (la a1)), (4, .ref (la a0)), (0, .ref h0), (1, .int (nI a0)), (2, .int (nI a1)), (3, .int a3)]) hx hb dX4_pairSum_130 hl (k := 2) rfl (nI_1 t1) (by decide) rfl (fun ls hl => ?_)
      refine lv_goto (tgt := 50) hx hb dX4_pairSum_133 (by decide) ?_
      have w : ¬ 12 < t1 := mt (nI_ltI (a := 12) (b := t1) (by decide) (by omega)).mpr c_3
      exact ih_50 (t1 + 1) _ ⟨lv_sub hl [0, 3, 4, 5, 6, 7, 8, 9, 10, 11] rfl, by (try dsimp only); exact ⟨by omega, by omega⟩⟩
    · refine lv_iload hx hb dX4_pairSum_76 (lv_at hl 1 rfl) ?_
      refine lv_if_le (tgt := 130) hx hb dX4_pairSum_78 (by decide) (fun c_6 => ?_) (fun c_6 => ?_)
      · have e9 : xAc2 (xPo (fun t => sWt (ne a0) (ch a0) (nI t)) (fun t u => sWt (ne a0) (ch a0) (nI t) * sWt (ne a1) (ch a1) (nI u) * sPH st (xWh st ho pa lg 0) li (nI t) (sRide (ki a0) (ru a0) (nI (st - 1)) + xWy (xYd st ho lg (st - 1)) pa) (if nI u < a3 then 12 else nI u) (sRide (ki a1) (ru a1) (nI (st - 1)) + xWy (xYd st ho lg (st - 1)) pa)) t1) ((fun t u => sWt (ne a0) (ch a0) (nI t) * sWt (ne a1) (ch a1) (nI u) * sPH st (xWh st ho pa lg 0) li (nI t) (sRide (ki a0) (ru a0) (nI (st - 1)) + xWy (xYd st ho lg (st - 1)) pa) (if nI u < a3 then 12 else nI u) (sRide (ki a1) (ru a1) (nI (st - 1)) + xWy (xYd st ho lg (st - 1)) pa)) t1) 0 u = xPo (fun t => sWt (ne a0) (ch a0) (nI t)) (fun t u => sWt (ne a0) (ch a0) (nI t) * sWt (ne a1) (ch a1) (nI u) * sPH st (xWh st ho pa lg 0) li (nI t) (sRide (ki a0) (ru a0) (nI (st - 1)) + xWy (xYd st ho lg (st - 1)) pa) (if nI u < a3 then 12 else nI u) (sRide (ki a1) (ru a1) (nI (st - 1)) + xWy (xYd st ho lg (st - 1)) pa)) (t1 + 1) := by have hu : u = 0 := i3.resolve_right (Int32.not_lt.mpr c_6); rw [hu]; simp only [xPo, xAc2]; rw [if_neg (Int32.not_lt.mpr c_6)]
        rw [e9] at hl
        refine lv_iinc (v := nI (t1 + 1)) (lv' := [(9, .int (nI (t1 + 1))), (11, .int (nI u)), (10, .int (sWt (ne a0) (ch a0) (nI t1))), (8, .int (xPo (fun t => sWt (ne a0) (ch a0) (nI t)) (fun t u => sWt (ne a0) (ch a0) (nI t) * sWt (ne a1) (ch a1) (nI u) * sPH st (xWh st ho pa lg 0) li (nI t) (sRide (ki a0) (ru a0) (nI (st - 1)) + xWy (xYd st ho lg (st - 1)) pa) (if nI u < a3 then 12 else nI u) (sRide (ki a1) (ru a1) (nI (st - 1)) + xWy (xYd st ho lg (st - 1)) pa)) (t1 + 1))), (7, .int (sRide (ki a1) (ru a1) (nI (st - 1)) + xWy (xYd st ho lg (st - 1)) pa)), (6, .int (sRide (ki a0) (ru a0) (nI (st - 1)) + xWy (xYd st ho lg (st - 1)) pa)), (5, .ref (la a1)), (4, .ref (la a0)), (0, .ref h0), (1, .int (nI a0)), (2, .int (nI a1)), (3, .int a3)]) hx hb dX4_pairSum_130 hl (k := 2) rfl (nI_1 t1) (by decide) rfl (fun ls hl => ?_)
        refine lv_goto (tgt := 50) hx hb dX4_pairSum_133 (by decide) ?_
        have w : ¬ 12 < t1 := mt (nI_ltI (a := 12) (b := t1) (by decide) (by omega)).mpr c_3
        exact ih_50 (t1 + 1) _ ⟨lv_sub hl [0, 3, 4, 5, 6, 7, 8, 9, 10, 11] rfl, by (try dsimp only); exact ⟨by omega, by omega⟩⟩
      · refine lv_iload hx hb dX4_pairSum_81 (lv_at hl 0 rfl) ?_
        refine lv_iload_n hx hb dX4_pairSum_83 rfl (lv_at hl 11 rfl) ?_
        refine lv_icmp_ge (tgt := 92) hx hb dX4_pairSum_84 (by decide) (fun c_7 => ?_) (fun c_7 => ?_)
        · refine lv_iload hx hb dX4_pairSum_92 (lv_at hl 0 rfl) ?_
          refine xv_int (y := if nI u < a3 then 12 else nI u) (by simp [(Int32.not_lt.mpr c_7)]) ?_
          refine lv_istore (lv' := [(12, .int (if nI u < a3 then 12 else nI u)), (11, .int (nI u)), (10, .int (sWt (ne a0) (ch a0) (nI t1))), (9, .int (nI t1)), (8, .int (xAc2 (xPo (fun t => sWt (ne a0) (ch a0) (nI t)) (fun t u => sWt (ne a0) (ch a0) (nI t) * sWt (ne a1) (ch a1) (nI u) * sPH st (xWh st ho pa lg 0) li (nI t) (sRide (ki a0) (ru a0) (nI (st - 1)) + xWy (xYd st ho lg (st - 1)) pa) (if nI u < a3 then 12 else nI u) (sRide (ki a1) (ru a1) (nI (st - 1)) + xWy (xYd st ho lg (st - 1)) pa)) t1) ((fun t u => sWt (ne a0) (ch a0) (nI t) * sWt (ne a1) (ch a1) (nI u) * sPH st (xWh st ho pa lg 0) li (nI t) (sRide (ki a0) (ru a0) (nI (st - 1)) + xWy (xYd st ho lg (st - 1)) pa) (if nI u < a3 then 12 else nI u) (sRide (ki a1) (ru a1) (nI (st - 1)) + xWy (xYd st ho lg (st - 1)) pa)) t1) 0 u)), (7, .int (sRide (ki a1) (ru a1) (nI (st - 1)) + xWy (xYd st ho lg (st - 1)) pa)), (6, .int (sRide (ki a0) (ru a0) (nI (st - 1)) + xWy (xYd st ho lg (st - 1)) pa)), (5, .ref (la a1)), (4, .ref (la a0)), (0, .ref h0), (1, .int (nI a0)), (2, .int (nI a1)), (3, .int a3)]) hx hb dX4_pairSum_94 hl (by decide) rfl (fun ls hl => ?_)
          refine lv_iload hx hb dX4_pairSum_96 (lv_at hl 4 rfl) ?_
          refine lv_iload hx hb dX4_pairSum_98 (lv_at hl 2 rfl) ?_
          refine lv_aload hx hb dX4_pairSum_100 (lv_at hl 7 rfl) ?_
          refine lv_iload hx hb dX4_pairSum_102 (lv_at hl 1 rfl) ?_
          have hPc := hPb.sub (ws' := [((la a1), .inr (0, [.int (ki a1), .int (ru a1), .int (ne a1), .ref (lk a1)])), ((lk a1), .inl (cI, 12, .inl (ch a1)))]) [0, 1] rfl
          refine vp_callSi (va_Run.run (va_runV (As := [.int (nI u)]) (rest := [.int (sWt (ne a0) (ch a0) (nI t1)), .int (xAc2 (xPo (fun t => sWt (ne a0) (ch a0) (nI t)) (fun t u => sWt (ne a0) (ch a0) (nI t) * sWt (ne a1) (ch a1) (nI u) * sPH st (xWh st ho pa lg 0) li (nI t) (sRide (ki a0) (ru a0) (nI (st - 1)) + xWy (xYd st ho lg (st - 1)) pa) (if nI u < a3 then 12 else nI u) (sRide (ki a1) (ru a1) (nI (st - 1)) + xWy (xYd st ho lg (st - 1)) pa)) t1) ((fun t u => sWt (ne a0) (ch a0) (nI t) * sWt (ne a1) (ch a1) (nI u) * sPH st (xWh st ho pa lg 0) li (nI t) (sRide (ki a0) (ru a0) (nI (st - 1)) + xWy (xYd st ho lg (st - 1)) pa) (if nI u < a3 then 12 else nI u) (sRide (ki a1) (ru a1) (nI (st - 1)) + xWy (xYd st ho lg (st - 1)) pa)) t1) 0 u)]) ⟨hx, hb, hml, hown, hts⟩ (g_X0_weight l D cI cL cZ cC (la a1) (lk a1) (ki a1) (ru a1) (ne a1) (ch a1) (nI u) ) (cwV 1 hts gX4_pairSum_X0_weight rfl rfl rfl (by decide +kernel) ⟨Nat.le_of_ble_eq_true rfl, Nat.le_of_ble_eq_true rfl⟩) ⟨xPc_bl, va_recv hK hPc (ci := 0) (q0 := 0) rfl rfl, xPc_use hPc hK⟩ rfl rfl hl.1 rfl (lv_room (Nat.le_of_ble_eq_true rfl)) dX4_pairSum_104 ⟨Nat.le_of_ble_eq_true rfl, Nat.le_of_ble_eq_true rfl⟩)) (fun r_8 er_8 => ?_)
          obtain rfl : (sWt (ne a1) (ch a1) (nI u) : Int32) = r_8 := Eq.symm er_8
          refine lv_imul hx hb dX4_pairSum_107 ?_
          refine lv_aload_n hx hb dX4_pairSum_108 rfl (lv_at hl 9 rfl) ?_
          refine lv_iload hx hb dX4_pairSum_109 (lv_at hl 3 rfl) ?_
          refine lv_iload hx hb dX4_pairSum_111 (lv_at hl 6 rfl) ?_
          refine lv_iload hx hb dX4_pairSum_113 (lv_at hl 0 rfl) ?_
          refine lv_iload hx hb dX4_pairSum_115 (lv_at hl 5 rfl) ?_
          have hPc := hP.sub (ws' := [(h0, .inr (4, [.ref rd, .ref dr, .ref kp, .ref pl, .ref tx, .ref nu, .ref rf_a, .int nc, .int hi, .int pd])), (rd, .inr (2, [.int (nI st), .int ho, .int pa, .int si, .int li, .int lc, .ref r0, .ref r1])), (r0, .inl (cI, 7, .inl lg))]) [0, 1, 2] rfl
          refine vp_callSi (va_Run.run (va_runV (As := [.int (nI t1), .int (sRide (ki a0) (ru a0) (nI (st - 1)) + xWy (xYd st ho lg (st - 1)) pa), .int (if nI u < a3 then 12 else nI u), .int (sRide (ki a1) (ru a1) (nI (st - 1)) + xWy (xYd st ho lg (st - 1)) pa)]) (rest := [.int ((sWt (ne a0) (ch a0) (nI t1)) * (sWt (ne a1) (ch a1) (nI u))), .int (xAc2 (xPo (fun t => sWt (ne a0) (ch a0) (nI t)) (fun t u => sWt (ne a0) (ch a0) (nI t) * sWt (ne a1) (ch a1) (nI u) * sPH st (xWh st ho pa lg 0) li (nI t) (sRide (ki a0) (ru a0) (nI (st - 1)) + xWy (xYd st ho lg (st - 1)) pa) (if nI u < a3 then 12 else nI u) (sRide (ki a1) (ru a1) (nI (st - 1)) + xWy (xYd st ho lg (st - 1)) pa)) t1) ((fun t u => sWt (ne a0) (ch a0) (nI t) * sWt (ne a1) (ch a1) (nI u) * sPH st (xWh st ho pa lg 0) li (nI t) (sRide (ki a0) (ru a0) (nI (st - 1)) + xWy (xYd st ho lg (st - 1)) pa) (if nI u < a3 then 12 else nI u) (sRide (ki a1) (ru a1) (nI (st - 1)) + xWy (xYd st ho lg (st - 1)) pa)) t1) 0 u)]) ⟨hx, hb, hml, hown, hts⟩ (g_X4_pairHome l D cI cL cZ cC h0 rd dr kp pl tx nu rf_a nc hi pd r0 r1 st ho pa si li lc lg (nI t1) (sRide (ki a0) (ru a0) (nI (st - 1)) + xWy (xYd st ho lg (st - 1)) pa) (if nI u < a3 then 12 else nI u) (sRide (ki a1) (ru a1) (nI (st - 1)) + xWy (xYd st ho lg (st - 1)) pa) (by first | assumption | decide +kernel) (by first | assumption | decide +kernel)) (cwV 4 hts gX4_pairSum_X4_pairHome rfl rfl rfl (by decide +kernel) ⟨Nat.le_of_ble_eq_true rfl, Nat.le_of_ble_eq_true rfl⟩) ⟨xPc_bl, va_recv hK hPc (ci := 4) (q0 := 0) rfl rfl, xPc_use hPc hK⟩ rfl rfl hl.1 rfl (lv_room (Nat.le_of_ble_eq_true rfl)) dX4_pairSum_117 ⟨Nat.le_of_ble_eq_true rfl, Nat.le_of_ble_eq_true rfl⟩)) (fun r_9 er_9 => ?_)
          obtain rfl : (sPH st (xWh st ho pa lg 0) li (nI t1) (sRide (ki a0) (ru a0) (nI (st - 1)) + xWy (xYd st ho lg (st - 1)) pa) (if nI u < a3 then 12 else nI u) (sRide (ki a1) (ru a1) (nI (st - 1)) + xWy (xYd st ho lg (st - 1)) pa) : Int32) = r_9 := Eq.symm er_9
          refine lv_imul hx hb dX4_pairSum_120 ?_
          refine lv_iadd hx hb dX4_pairSum_121 ?_
          refine xv_int (y := xAc2 (xPo (fun t => sWt (ne a0) (ch a0) (nI t)) (fun t u => sWt (ne a0) (ch a0) (nI t) * sWt (ne a1) (ch a1) (nI u) * sPH st (xWh st ho pa lg 0) li (nI t) (sRide (ki a0) (ru a0) (nI (st - 1)) + xWy (xYd st ho lg (st - 1)) pa) (if nI u < a3 then 12 else nI u) (sRide (ki a1) (ru a1) (nI (st - 1)) + xWy (xYd st ho lg (st - 1)) pa)) t1) ((fun t u => sWt (ne a0) (ch a0) (nI t) * sWt (ne a1) (ch a1) (nI u) * sPH st (xWh st ho pa lg 0) li (nI t) (sRide (ki a0) (ru a0) (nI (st - 1)) + xWy (xYd st ho lg (st - 1)) pa) (if nI u < a3 then 12 else nI u) (sRide (ki a1) (ru a1) (nI (st - 1)) + xWy (xYd st ho lg (st - 1)) pa)) t1) 0 (u + 1)) (by simp only [xAc2, Nat.zero_add]) ?_
          refine lv_istore (lv' := [(8, .int (xAc2 (xPo (fun t => sWt (ne a0) (ch a0) (nI t)) (fun t u => sWt (ne a0) (ch a0) (nI t) * sWt (ne a1) (ch a1) (nI u) * sPH st (xWh st ho pa lg 0) li (nI t) (sRide (ki a0) (ru a0) (nI (st - 1)) + xWy (xYd st ho lg (st - 1)) pa) (if nI u < a3 then 12 else nI u) (sRide (ki a1) (ru a1) (nI (st - 1)) + xWy (xYd st ho lg (st - 1)) pa)) t1) ((fun t u => sWt (ne a0) (ch a0) (nI t) * sWt (ne a1) (ch a1) (nI u) * sPH st (xWh st ho pa lg 0) li (nI t) (sRide (ki a0) (ru a0) (nI (st - 1)) + xWy (xYd st ho lg (st - 1)) pa) (if nI u < a3 then 12 else nI u) (sRide (ki a1) (ru a1) (nI (st - 1)) + xWy (xYd st ho lg (st - 1)) pa)) t1) 0 (u + 1))), (12, .int (if nI u < a3 then 12 else nI u)), (11, .int (nI u)), (10, .int (sWt (ne a0) (ch a0) (nI t1))), (9, .int (nI t1)), (7, .int (sRide (ki a1) (ru a1) (nI (st - 1)) + xWy (xYd st ho lg (st - 1)) pa)), (6, .int (sRide (ki a0) (ru a0) (nI (st - 1)) + xWy (xYd st ho lg (st - 1)) pa)), (5, .ref (la a1)), (4, .ref (la a0)), (0, .ref h0), (1, .int (nI a0)), (2, .int (nI a1)), (3, .int a3)]) hx hb dX4_pairSum_122 hl (by decide) rfl (fun ls hl => ?_)
          refine lv_iinc (v := nI (u + 1)) (lv' := [(11, .int (nI (u + 1))), (8, .int (xAc2 (xPo (fun t => sWt (ne a0) (ch a0) (nI t)) (fun t u => sWt (ne a0) (ch a0) (nI t) * sWt (ne a1) (ch a1) (nI u) * sPH st (xWh st ho pa lg 0) li (nI t) (sRide (ki a0) (ru a0) (nI (st - 1)) + xWy (xYd st ho lg (st - 1)) pa) (if nI u < a3 then 12 else nI u) (sRide (ki a1) (ru a1) (nI (st - 1)) + xWy (xYd st ho lg (st - 1)) pa)) t1) ((fun t u => sWt (ne a0) (ch a0) (nI t) * sWt (ne a1) (ch a1) (nI u) * sPH st (xWh st ho pa lg 0) li (nI t) (sRide (ki a0) (ru a0) (nI (st - 1)) + xWy (xYd st ho lg (st - 1)) pa) (if nI u < a3 then 12 else nI u) (sRide (ki a1) (ru a1) (nI (st - 1)) + xWy (xYd st ho lg (st - 1)) pa)) t1) 0 (u + 1))), (12, .int (if nI u < a3 then 12 else nI u)), (10, .int (sWt (ne a0) (ch a0) (nI t1))), (9, .int (nI t1)), (7, .int (sRide (ki a1) (ru a1) (nI (st - 1)) + xWy (xYd st ho lg (st - 1)) pa)), (6, .int (sRide (ki a0) (ru a0) (nI (st - 1)) + xWy (xYd st ho lg (st - 1)) pa)), (5, .ref (la a1)), (4, .ref (la a0)), (0, .ref h0), (1, .int (nI a0)), (2, .int (nI a1)), (3, .int a3)]) hx hb dX4_pairSum_124 hl (k := 2) rfl (nI_1 u) (by decide) rfl (fun ls hl => ?_)
          refine lv_goto (tgt := 69) hx hb dX4_pairSum_127 (by decide) ?_
          have w : ¬ 12 < u := mt (nI_ltI (a := 12) (b := u) (by decide) (by omega)).mpr c_5
          exact ih_69 (u + 1) _ ⟨lv_sub hl [0, 3, 4, 1, 5, 6, 7, 8, 9, 10, 11, 12] rfl, by (try dsimp only); exact ⟨by omega, by omega, Or.inr (Int32.not_le.mp c_6)⟩⟩
        · refine lv_bipush (v := 12) hx hb dX4_pairSum_87 (by decide) ?_
          refine lv_goto (tgt := 94) hx hb dX4_pairSum_89 (by decide) ?_
          refine xv_int (y := if nI u < a3 then 12 else nI u) (by simp [(Int32.not_le.mp c_7)]) ?_
          refine lv_istore (lv' := [(12, .int (if nI u < a3 then 12 else nI u)), (11, .int (nI u)), (10, .int (sWt (ne a0) (ch a0) (nI t1))), (9, .int (nI t1)), (8, .int (xAc2 (xPo (fun t => sWt (ne a0) (ch a0) (nI t)) (fun t u => sWt (ne a0) (ch a0) (nI t) * sWt (ne a1) (ch a1) (nI u) * sPH st (xWh st ho pa lg 0) li (nI t) (sRide (ki a0) (ru a0) (nI (st - 1)) + xWy (xYd st ho lg (st - 1)) pa) (if nI u < a3 then 12 else nI u) (sRide (ki a1) (ru a1) (nI (st - 1)) + xWy (xYd st ho lg (st - 1)) pa)) t1) ((fun t u => sWt (ne a0) (ch a0) (nI t) * sWt (ne a1) (ch a1) (nI u) * sPH st (xWh st ho pa lg 0) li (nI t) (sRide (ki a0) (ru a0) (nI (st - 1)) + xWy (xYd st ho lg (st - 1)) pa) (if nI u < a3 then 12 else nI u) (sRide (ki a1) (ru a1) (nI (st - 1)) + xWy (xYd st ho lg (st - 1)) pa)) t1) 0 u)), (7, .int (sRide (ki a1) (ru a1) (nI (st - 1)) + xWy (xYd st ho lg (st - 1)) pa)), (6, .int (sRide (ki a0) (ru a0) (nI (st - 1)) + xWy (xYd st ho lg (st - 1)) pa)), (5, .ref (la a1)), (4, .ref (la a0)), (0, .ref h0), (1, .int (nI a0)), (2, .int (nI a1)), (3, .int a3)]) hx hb dX4_pairSum_94 hl (by decide) rfl (fun ls hl => ?_)
          refine lv_iload hx hb dX4_pairSum_96 (lv_at hl 4 rfl) ?_
          refine lv_iload hx hb dX4_pairSum_98 (lv_at hl 2 rfl) ?_
          refine lv_aload hx hb dX4_pairSum_100 (lv_at hl 7 rfl) ?_
          refine lv_iload hx hb dX4_pairSum_102 (lv_at hl 1 rfl) ?_
          have hPc := hPb.sub (ws' := [((la a1), .inr (0, [.int (ki a1), .int (ru a1), .int (ne a1), .ref (lk a1)])), ((lk a1), .inl (cI, 12, .inl (ch a1)))]) [0, 1] rfl
          refine vp_callSi (va_Run.run (va_runV (As := [.int (nI u)]) (rest := [.int (sWt (ne a0) (ch a0) (nI t1)), .int (xAc2 (xPo (fun t => sWt (ne a0) (ch a0) (nI t)) (fun t u => sWt (ne a0) (ch a0) (nI t) * sWt (ne a1) (ch a1) (nI u) * sPH st (xWh st ho pa lg 0) li (nI t) (sRide (ki a0) (ru a0) (nI (st - 1)) + xWy (xYd st ho lg (st - 1)) pa) (if nI u < a3 then 12 else nI u) (sRide (ki a1) (ru a1) (nI (st - 1)) + xWy (xYd st ho lg (st - 1)) pa)) t1) ((fun t u => sWt (ne a0) (ch a0) (nI t) * sWt (ne a1) (ch a1) (nI u) * sPH st (xWh st ho pa lg 0) li (nI t) (sRide (ki a0) (ru a0) (nI (st - 1)) + xWy (xYd st ho lg (st - 1)) pa) (if nI u < a3 then 12 else nI u) (sRide (ki a1) (ru a1) (nI (st - 1)) + xWy (xYd st ho lg (st - 1)) pa)) t1) 0 u)]) ⟨hx, hb, hml, hown, hts⟩ (g_X0_weight l D cI cL cZ cC (la a1) (lk a1) (ki a1) (ru a1) (ne a1) (ch a1) (nI u) ) (cwV 1 hts gX4_pairSum_X0_weight rfl rfl rfl (by decide +kernel) ⟨Nat.le_of_ble_eq_true rfl, Nat.le_of_ble_eq_true rfl⟩) ⟨xPc_bl, va_recv hK hPc (ci := 0) (q0 := 0) rfl rfl, xPc_use hPc hK⟩ rfl rfl hl.1 rfl (lv_room (Nat.le_of_ble_eq_true rfl)) dX4_pairSum_104 ⟨Nat.le_of_ble_eq_true rfl, Nat.le_of_ble_eq_true rfl⟩)) (fun r_10 er_10 => ?_)
          obtain rfl : (sWt (ne a1) (ch a1) (nI u) : Int32) = r_10 := Eq.symm er_10
          refine lv_imul hx hb dX4_pairSum_107 ?_
          refine lv_aload_n hx hb dX4_pairSum_108 rfl (lv_at hl 9 rfl) ?_
          refine lv_iload hx hb dX4_pairSum_109 (lv_at hl 3 rfl) ?_
          refine lv_iload hx hb dX4_pairSum_111 (lv_at hl 6 rfl) ?_
          refine lv_iload hx hb dX4_pairSum_113 (lv_at hl 0 rfl) ?_
          refine lv_iload hx hb dX4_pairSum_115 (lv_at hl 5 rfl) ?_
          have hPc := hP.sub (ws' := [(h0, .inr (4, [.ref rd, .ref dr, .ref kp, .ref pl, .ref tx, .ref nu, .ref rf_a, .int nc, .int hi, .int pd])), (rd, .inr (2, [.int (nI st), .int ho, .int pa, .int si, .int li, .int lc, .ref r0, .ref r1])), (r0, .inl (cI, 7, .inl lg))]) [0, 1, 2] rfl
          refine vp_callSi (va_Run.run (va_runV (As := [.int (nI t1), .int (sRide (ki a0) (ru a0) (nI (st - 1)) + xWy (xYd st ho lg (st - 1)) pa), .int (if nI u < a3 then 12 else nI u), .int (sRide (ki a1) (ru a1) (nI (st - 1)) + xWy (xYd st ho lg (st - 1)) pa)]) (rest := [.int ((sWt (ne a0) (ch a0) (nI t1)) * (sWt (ne a1) (ch a1) (nI u))), .int (xAc2 (xPo (fun t => sWt (ne a0) (ch a0) (nI t)) (fun t u => sWt (ne a0) (ch a0) (nI t) * sWt (ne a1) (ch a1) (nI u) * sPH st (xWh st ho pa lg 0) li (nI t) (sRide (ki a0) (ru a0) (nI (st - 1)) + xWy (xYd st ho lg (st - 1)) pa) (if nI u < a3 then 12 else nI u) (sRide (ki a1) (ru a1) (nI (st - 1)) + xWy (xYd st ho lg (st - 1)) pa)) t1) ((fun t u => sWt (ne a0) (ch a0) (nI t) * sWt (ne a1) (ch a1) (nI u) * sPH st (xWh st ho pa lg 0) li (nI t) (sRide (ki a0) (ru a0) (nI (st - 1)) + xWy (xYd st ho lg (st - 1)) pa) (if nI u < a3 then 12 else nI u) (sRide (ki a1) (ru a1) (nI (st - 1)) + xWy (xYd st ho lg (st - 1)) pa)) t1) 0 u)]) ⟨hx, hb, hml, hown, hts⟩ (g_X4_pairHome l D cI cL cZ cC h0 rd dr kp pl tx nu rf_a nc hi pd r0 r1 st ho pa si li lc lg (nI t1) (sRide (ki a0) (ru a0) (nI (st - 1)) + xWy (xYd st ho lg (st - 1)) pa) (if nI u < a3 then 12 else nI u) (sRide (ki a1) (ru a1) (nI (st - 1)) + xWy (xYd st ho lg (st - 1)) pa) (by first | assumption | decide +kernel) (by first | assumption | decide +kernel)) (cwV 4 hts gX4_pairSum_X4_pairHome rfl rfl rfl (by decide +kernel) ⟨Nat.le_of_ble_eq_true rfl, Nat.le_of_ble_eq_true rfl⟩) ⟨xPc_bl, va_recv hK hPc (ci := 4) (q0 := 0) rfl rfl, xPc_use hPc hK⟩ rfl rfl hl.1 rfl (lv_room (Nat.le_of_ble_eq_true rfl)) dX4_pairSum_117 ⟨Nat.le_of_ble_eq_true rfl, Nat.le_of_ble_eq_true rfl⟩)) (fun r_11 er_11 => ?_)
          obtain rfl : (sPH st (xWh st ho pa lg 0) li (nI t1) (sRide (ki a0) (ru a0) (nI (st - 1)) + xWy (xYd st ho lg (st - 1)) pa) (if nI u < a3 then 12 else nI u) (sRide (ki a1) (ru a1) (nI (st - 1)) + xWy (xYd st ho lg (st - 1)) pa) : Int32) = r_11 := Eq.symm er_11
          refine lv_imul hx hb dX4_pairSum_120 ?_
          refine lv_iadd hx hb dX4_pairSum_121 ?_
          refine xv_int (y := xAc2 (xPo (fun t => sWt (ne a0) (ch a0) (nI t)) (fun t u => sWt (ne a0) (ch a0) (nI t) * sWt (ne a1) (ch a1) (nI u) * sPH st (xWh st ho pa lg 0) li (nI t) (sRide (ki a0) (ru a0) (nI (st - 1)) + xWy (xYd st ho lg (st - 1)) pa) (if nI u < a3 then 12 else nI u) (sRide (ki a1) (ru a1) (nI (st - 1)) + xWy (xYd st ho lg (st - 1)) pa)) t1) ((fun t u => sWt (ne a0) (ch a0) (nI t) * sWt (ne a1) (ch a1) (nI u) * sPH st (xWh st ho pa lg 0) li (nI t) (sRide (ki a0) (ru a0) (nI (st - 1)) + xWy (xYd st ho lg (st - 1)) pa) (if nI u < a3 then 12 else nI u) (sRide (ki a1) (ru a1) (nI (st - 1)) + xWy (xYd st ho lg (st - 1)) pa)) t1) 0 (u + 1)) (by simp only [xAc2, Nat.zero_add]) ?_
          refine lv_istore (lv' := [(8, .int (xAc2 (xPo (fun t => sWt (ne a0) (ch a0) (nI t)) (fun t u => sWt (ne a0) (ch a0) (nI t) * sWt (ne a1) (ch a1) (nI u) * sPH st (xWh st ho pa lg 0) li (nI t) (sRide (ki a0) (ru a0) (nI (st - 1)) + xWy (xYd st ho lg (st - 1)) pa) (if nI u < a3 then 12 else nI u) (sRide (ki a1) (ru a1) (nI (st - 1)) + xWy (xYd st ho lg (st - 1)) pa)) t1) ((fun t u => sWt (ne a0) (ch a0) (nI t) * sWt (ne a1) (ch a1) (nI u) * sPH st (xWh st ho pa lg 0) li (nI t) (sRide (ki a0) (ru a0) (nI (st - 1)) + xWy (xYd st ho lg (st - 1)) pa) (if nI u < a3 then 12 else nI u) (sRide (ki a1) (ru a1) (nI (st - 1)) + xWy (xYd st ho lg (st - 1)) pa)) t1) 0 (u + 1))), (12, .int (if nI u < a3 then 12 else nI u)), (11, .int (nI u)), (10, .int (sWt (ne a0) (ch a0) (nI t1))), (9, .int (nI t1)), (7, .int (sRide (ki a1) (ru a1) (nI (st - 1)) + xWy (xYd st ho lg (st - 1)) pa)), (6, .int (sRide (ki a0) (ru a0) (nI (st - 1)) + xWy (xYd st ho lg (st - 1)) pa)), (5, .ref (la a1)), (4, .ref (la a0)), (0, .ref h0), (1, .int (nI a0)), (2, .int (nI a1)), (3, .int a3)]) hx hb dX4_pairSum_122 hl (by decide) rfl (fun ls hl => ?_)
          refine lv_iinc (v := nI (u + 1)) (lv' := [(11, .int (nI (u + 1))), (8, .int (xAc2 (xPo (fun t => sWt (ne a0) (ch a0) (nI t)) (fun t u => sWt (ne a0) (ch a0) (nI t) * sWt (ne a1) (ch a1) (nI u) * sPH st (xWh st ho pa lg 0) li (nI t) (sRide (ki a0) (ru a0) (nI (st - 1)) + xWy (xYd st ho lg (st - 1)) pa) (if nI u < a3 then 12 else nI u) (sRide (ki a1) (ru a1) (nI (st - 1)) + xWy (xYd st ho lg (st - 1)) pa)) t1) ((fun t u => sWt (ne a0) (ch a0) (nI t) * sWt (ne a1) (ch a1) (nI u) * sPH st (xWh st ho pa lg 0) li (nI t) (sRide (ki a0) (ru a0) (nI (st - 1)) + xWy (xYd st ho lg (st - 1)) pa) (if nI u < a3 then 12 else nI u) (sRide (ki a1) (ru a1) (nI (st - 1)) + xWy (xYd st ho lg (st - 1)) pa)) t1) 0 (u + 1))), (12, .int (if nI u < a3 then 12 else nI u)), (10, .int (sWt (ne a0) (ch a0) (nI t1))), (9, .int (nI t1)), (7, .int (sRide (ki a1) (ru a1) (nI (st - 1)) + xWy (xYd st ho lg (st - 1)) pa)), (6, .int (sRide (ki a0) (ru a0) (nI (st - 1)) + xWy (xYd st ho lg (st - 1)) pa)), (5, .ref (la a1)), (4, .ref (la a0)), (0, .ref h0), (1, .int (nI a0)), (2, .int (nI a1)), (3, .int a3)]) hx hb dX4_pairSum_124 hl (k := 2) rfl (nI_1 u) (by decide) rfl (fun ls hl => ?_)
          refine lv_goto (tgt := 69) hx hb dX4_pairSum_127 (by decide) ?_
          have w : ¬ 12 < u := mt (nI_ltI (a := 12) (b := u) (by decide) (by omega)).mpr c_5
          exact ih_69 (u + 1) _ ⟨lv_sub hl [0, 3, 4, 1, 5, 6, 7, 8, 9, 10, 11, 12] rfl, by (try dsimp only); exact ⟨by omega, by omega, Or.inr (Int32.not_le.mp c_6)⟩⟩
