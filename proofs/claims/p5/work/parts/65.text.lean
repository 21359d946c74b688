set_option maxHeartbeats 4000000 in
set_option maxRecDepth 100000 in
theorem g_X3_wrongPlace (l : Launch) (D : va_G) (cI cL cZ cC : ClassId) (ad : Nat) (av : Nat) (tx : Nat) (t0 : Nat) (len : Nat) (lt : Nat → Int32) (p0 : Nat) (hl96 : len ≤ 96) (hp : p0 ≤ 400) : Met l yX3_wrongPlace wsX3_wrongPlace ({ frames := 5, cells := 0, slots := 0, locals := 112 } : Room) (sPc D ad av [.ref tx, .int (nI p0)] [(tx, .inr (3, [.ref t0, .int (nI len)])), (t0, .inl (cI, 96, .inl lt))] (xTy cI cL cZ cC)) (vp_Si (fun r : Int32 => r = xWp lt len p0)) 0 0 (fun _ => False) := by
  refine Met.ofW (cc := cX3_wrongPlace) (maxL := 5) (ret := (some .int)) (by decide) rfl ?_
  intro p e s m args below meth c s₁ B hml hv
  obtain ⟨rfl, hP, hK, hX9⟩ := hv
  have hx := B.exec
  have hb := B.bytes
  have hr := B.returns
  have hts := atoms_spec (ws := wsX3_wrongPlace) B.pre
  have hown : s.vm.findClass RX3 = some m.cls := findClass_of_methodNamed B.named
  have hlocks := B.notSynchronized
  have hl := lv_entry ([.ref tx, .int (nI p0)]) (n := 5) (Nat.le_of_ble_eq_true rfl)
  rw [lg_entry_eq]
  generalize (lg_sl ([.ref tx, .int (nI p0)]) ++ List.replicate (5 - (lg_sl ([.ref tx, .int (nI p0)])).length) Slot.unset).toArray = ls at hl ⊢
  have hl : lv_has ls 5 [(0, .ref tx), (1, .int (nI p0))] := hl
  have hdp := xDp_le lt len p0
  have hde := xDe_le lt len p0
  refine lv_aload_n hx hb dX3_wrongPlace_0 rfl (lv_at hl 0 rfl) ?_
  refine lv_iload_n hx hb dX3_wrongPlace_1 rfl (lv_at hl 1 rfl) ?_
  have hPc := hP.sub (ws' := [(tx, .inr (3, [.ref t0, .int (nI len)])), (t0, .inl (cI, 96, .inl lt))]) [0, 1] rfl
  refine vp_callSi (va_Run.run (va_runV (As := [.int (nI p0)]) (rest := []) ⟨hx, hb, hml, hown, hts⟩ (g_X3_at l D cI cL cZ cC tx t0 len lt p0 (by first | assumption | decide +kernel) (by omega)) (cwV 1 hts gX3_wrongPlace_X3_at rfl rfl rfl (by decide +kernel) ⟨Nat.le_of_ble_eq_true rfl, Nat.le_of_ble_eq_true rfl⟩) ⟨xPc_bl, va_recv hK hPc (ci := 3) (q0 := 0) rfl rfl, xPc_use hPc hK⟩ rfl rfl hl.1 rfl (lv_room (Nat.le_of_ble_eq_true rfl)) dX3_wrongPlace_2 ⟨Nat.le_of_ble_eq_true rfl, Nat.le_of_ble_eq_true rfl⟩)) (fun r_1 er_1 => ?_)
  obtain rfl : (xAt lt len p0 : Int32) = r_1 := Eq.symm er_1
  have hPc := hP.sub (ws' := []) [] rfl
  refine vp_callSi (va_Run.run (va_runS (As := [.int (xAt lt len p0)]) (rest := []) ⟨hx, hb, hml, hown, hts⟩ (g_X3_mostDigits l D cI cL cZ cC (xAt lt len p0) ) (va_cwS 1 hts gX3_wrongPlace_X3_mostDigits rfl rfl rfl (by decide +kernel) ⟨Nat.le_of_ble_eq_true rfl, Nat.le_of_ble_eq_true rfl⟩) ⟨xPc_bl, xPc_use hPc hK⟩ rfl rfl hl.1 rfl (lv_room (Nat.le_of_ble_eq_true rfl)) dX3_wrongPlace_5 ⟨Nat.le_of_ble_eq_true rfl, Nat.le_of_ble_eq_true rfl⟩)) (fun r_2 er_2 => ?_)
  obtain rfl : (sMd (xAt lt len p0) : Int32) = r_2 := Eq.symm er_2
  refine lv_istore_n (lv' := [(2, .int (sMd (xAt lt len p0))), (0, .ref tx), (1, .int (nI p0))]) hx hb dX3_wrongPlace_8 rfl hl (by decide) rfl (fun ls hl => ?_)
  refine lv_iload_n hx hb dX3_wrongPlace_9 rfl (lv_at hl 0 rfl) ?_
  refine lv_if_ne (tgt := 15) hx hb dX3_wrongPlace_10 (by decide) (fun c_3 => ?_) (fun c_3 => ?_)
  · refine lv_aload_n hx hb dX3_wrongPlace_15 rfl (lv_at hl 1 rfl) ?_
    refine lv_iload_n hx hb dX3_wrongPlace_16 rfl (lv_at hl 2 rfl) ?_
    have hPc := hP.sub (ws' := [(tx, .inr (3, [.ref t0, .int (nI len)])), (t0, .inl (cI, 96, .inl lt))]) [0, 1] rfl
    refine vp_callSi (va_Run.run (va_runV (As := [.int (nI p0)]) (rest := []) ⟨hx, hb, hml, hown, hts⟩ (g_X3_digitsPlace l D cI cL cZ cC tx t0 len lt p0 (by first | assumption | decide +kernel) (by omega)) (cwV 1 hts gX3_wrongPlace_X3_digitsPlace rfl rfl rfl (by decide +kernel) ⟨Nat.le_of_ble_eq_true rfl, Nat.le_of_ble_eq_true rfl⟩) ⟨xPc_bl, va_recv hK hPc (ci := 3) (q0 := 0) rfl rfl, xPc_use hPc hK⟩ rfl rfl hl.1 rfl (lv_room (Nat.le_of_ble_eq_true rfl)) dX3_wrongPlace_17 ⟨Nat.le_of_ble_eq_true rfl, Nat.le_of_ble_eq_true rfl⟩)) (fun r_4 er_4 => ?_)
    obtain rfl : (nI (xDp lt len p0) : Int32) = r_4 := Eq.symm er_4
    refine lv_istore_n (lv' := [(3, .int (nI (xDp lt len p0))), (2, .int (sMd (xAt lt len p0))), (0, .ref tx), (1, .int (nI p0))]) hx hb dX3_wrongPlace_20 rfl hl (by decide) rfl (fun ls hl => ?_)
    refine lv_iload_n hx hb dX3_wrongPlace_21 rfl (lv_at hl 0 rfl) ?_
    refine lv_iload_n hx hb dX3_wrongPlace_22 rfl (lv_at hl 3 rfl) ?_
    refine lv_iconst (v := 1) hx hb dX3_wrongPlace_23 (by decide) ?_
    refine lv_iadd hx hb dX3_wrongPlace_24 ?_
    refine xv_int (y := nI (p0 + 1)) (nI_1 p0) ?_
    refine lv_icmp_le (tgt := 42) hx hb dX3_wrongPlace_25 (by decide) (fun c_5 => ?_) (fun c_5 => ?_)
    · refine lv_aload_n hx hb dX3_wrongPlace_42 rfl (lv_at hl 2 rfl) ?_
      refine lv_iload_n hx hb dX3_wrongPlace_43 rfl (lv_at hl 3 rfl) ?_
      have hPc := hP.sub (ws' := [(tx, .inr (3, [.ref t0, .int (nI len)])), (t0, .inl (cI, 96, .inl lt))]) [0, 1] rfl
      refine vp_callSi (va_Run.run (va_runV (As := [.int (nI p0)]) (rest := []) ⟨hx, hb, hml, hown, hts⟩ (g_X3_digitsEnd l D cI cL cZ cC tx t0 len lt p0 (by first | assumption | decide +kernel) (by omega)) (cwV 1 hts gX3_wrongPlace_X3_digitsEnd rfl rfl rfl (by decide +kernel) ⟨Nat.le_of_ble_eq_true rfl, Nat.le_of_ble_eq_true rfl⟩) ⟨xPc_bl, va_recv hK hPc (ci := 3) (q0 := 0) rfl rfl, xPc_use hPc hK⟩ rfl rfl hl.1 rfl (lv_room (Nat.le_of_ble_eq_true rfl)) dX3_wrongPlace_44 ⟨Nat.le_of_ble_eq_true rfl, Nat.le_of_ble_eq_true rfl⟩)) (fun r_6 er_6 => ?_)
      obtain rfl : (nI (xDe lt len p0) : Int32) = r_6 := Eq.symm er_6
      refine lv_istore (lv' := [(4, .int (nI (xDe lt len p0))), (3, .int (nI (xDp lt len p0))), (2, .int (sMd (xAt lt len p0))), (0, .ref tx), (1, .int (nI p0))]) hx hb dX3_wrongPlace_47 hl (by decide) rfl (fun ls hl => ?_)
      refine lv_iload hx hb dX3_wrongPlace_49 (lv_at hl 0 rfl) ?_
      refine lv_iload_n hx hb dX3_wrongPlace_51 rfl (lv_at hl 1 rfl) ?_
      refine lv_isub hx hb dX3_wrongPlace_52 ?_
      refine xv_int (y := nI (xDe lt len p0 - xDp lt len p0)) (pk_sub hde.1) ?_
      refine lv_iload_n hx hb dX3_wrongPlace_53 rfl (lv_at hl 2 rfl) ?_
      refine lv_icmp_le (tgt := 61) hx hb dX3_wrongPlace_54 (by decide) (fun c_7 => ?_) (fun c_7 => ?_)
      · refine lv_iload hx hb dX3_wrongPlace_61 (lv_at hl 0 rfl) ?_
        refine lv_iload_n hx hb dX3_wrongPlace_63 rfl (lv_at hl 1 rfl) ?_
        refine lv_isub hx hb dX3_wrongPlace_64 ?_
        refine xv_int (y := nI (xDe lt len p0 - xDp lt len p0)) (pk_sub hde.1) ?_
        refine lv_aload_n hx hb dX3_wrongPlace_65 rfl (lv_at hl 3 rfl) ?_
        refine lv_iload_n hx hb dX3_wrongPlace_66 rfl (lv_at hl 4 rfl) ?_
        have hPc := hP.sub (ws' := [(tx, .inr (3, [.ref t0, .int (nI len)])), (t0, .inl (cI, 96, .inl lt))]) [0, 1] rfl
        refine vp_callSi (va_Run.run (va_runV (As := [.int (nI p0)]) (rest := [.int (nI (xDe lt len p0 - xDp lt len p0))]) ⟨hx, hb, hml, hown, hts⟩ (g_X3_at l D cI cL cZ cC tx t0 len lt p0 (by first | assumption | decide +kernel) (by omega)) (cwV 1 hts gX3_wrongPlace_X3_at rfl rfl rfl (by decide +kernel) ⟨Nat.le_of_ble_eq_true rfl, Nat.le_of_ble_eq_true rfl⟩) ⟨xPc_bl, va_recv hK hPc (ci := 3) (q0 := 0) rfl rfl, xPc_use hPc hK⟩ rfl rfl hl.1 rfl (lv_room (Nat.le_of_ble_eq_true rfl)) dX3_wrongPlace_67 ⟨Nat.le_of_ble_eq_true rfl, Nat.le_of_ble_eq_true rfl⟩)) (fun r_8 er_8 => ?_)
        obtain rfl : (xAt lt len p0 : Int32) = r_8 := Eq.symm er_8
        have hPc := hP.sub (ws' := []) [] rfl
        refine vp_callSi (va_Run.run (va_runS (As := [.int (xAt lt len p0)]) (rest := [.int (nI (xDe lt len p0 - xDp lt len p0))]) ⟨hx, hb, hml, hown, hts⟩ (g_X3_leastDigits l D cI cL cZ cC (xAt lt len p0) ) (va_cwS 1 hts gX3_wrongPlace_X3_leastDigits rfl rfl rfl (by decide +kernel) ⟨Nat.le_of_ble_eq_true rfl, Nat.le_of_ble_eq_true rfl⟩) ⟨xPc_bl, xPc_use hPc hK⟩ rfl rfl hl.1 rfl (lv_room (Nat.le_of_ble_eq_true rfl)) dX3_wrongPlace_70 ⟨Nat.le_of_ble_eq_true rfl, Nat.le_of_ble_eq_true rfl⟩)) (fun r_9 er_9 => ?_)
        obtain rfl : (sLd (xAt lt len p0) : Int32) = r_9 := Eq.symm er_9
        refine lv_icmp_lt (tgt := 87) hx hb dX3_wrongPlace_73 (by decide) (fun c_10 => ?_) (fun c_10 => ?_)
        · refine lv_iload hx hb dX3_wrongPlace_87 (lv_at hl 0 rfl) ?_
          refine lv_goto (tgt := 93) hx hb dX3_wrongPlace_89 (by decide) ?_
          exact W.iret (v := nI (xDe lt len p0)) hx hb hr (fun t ht hW => ⟨_, rfl, (by rw [xWp, if_neg c_3, if_neg (Int32.not_lt.mpr c_5), xWp2, if_neg (Int32.not_lt.mpr c_7), if_pos c_10]), ht⟩) (fun _ h => absurd h List.not_mem_nil) dX3_wrongPlace_93
        · refine lv_aload_n hx hb dX3_wrongPlace_76 rfl (lv_at hl 3 rfl) ?_
          refine lv_iload hx hb dX3_wrongPlace_77 (lv_at hl 0 rfl) ?_
          have hPc := hP.sub (ws' := [(tx, .inr (3, [.ref t0, .int (nI len)])), (t0, .inl (cI, 96, .inl lt))]) [0, 1] rfl
          refine vp_callSi (va_Run.run (va_runV (As := [.int (nI (xDe lt len p0))]) (rest := []) ⟨hx, hb, hml, hown, hts⟩ (g_X3_at l D cI cL cZ cC tx t0 len lt (xDe lt len p0) (by first | assumption | decide +kernel) (by omega)) (cwV 1 hts gX3_wrongPlace_X3_at rfl rfl rfl (by decide +kernel) ⟨Nat.le_of_ble_eq_true rfl, Nat.le_of_ble_eq_true rfl⟩) ⟨xPc_bl, va_recv hK hPc (ci := 3) (q0 := 0) rfl rfl, xPc_use hPc hK⟩ rfl rfl hl.1 rfl (lv_room (Nat.le_of_ble_eq_true rfl)) dX3_wrongPlace_79 ⟨Nat.le_of_ble_eq_true rfl, Nat.le_of_ble_eq_true rfl⟩)) (fun r_11 er_11 => ?_)
          obtain rfl : (xAt lt len (xDe lt len p0) : Int32) = r_11 := Eq.symm er_11
          refine lv_bipush (v := 59) hx hb dX3_wrongPlace_82 (by decide) ?_
          refine lv_icmp_eq (tgt := 92) hx hb dX3_wrongPlace_84 (by decide) (fun c_12 => ?_) (fun c_12 => ?_)
          · refine lv_iconst (v := -1) hx hb dX3_wrongPlace_92 (by decide) ?_
            exact W.iret (v := -1) hx hb hr (fun t ht hW => ⟨_, rfl, (by rw [xWp, if_neg c_3, if_neg (Int32.not_lt.mpr c_5), xWp2, if_neg (Int32.not_lt.mpr c_7), if_neg c_10, if_pos c_12]), ht⟩) (fun _ h => absurd h List.not_mem_nil) dX3_wrongPlace_93
          · refine lv_iload hx hb dX3_wrongPlace_87 (lv_at hl 0 rfl) ?_
            refine lv_goto (tgt := 93) hx hb dX3_wrongPlace_89 (by decide) ?_
            exact W.iret (v := nI (xDe lt len p0)) hx hb hr (fun t ht hW => ⟨_, rfl, (by rw [xWp, if_neg c_3, if_neg (Int32.not_lt.mpr c_5), xWp2, if_neg (Int32.not_lt.mpr c_7), if_neg c_10, if_neg c_12]), ht⟩) (fun _ h => absurd h List.not_mem_nil) dX3_wrongPlace_93
      · refine lv_iload_n hx hb dX3_wrongPlace_57 rfl (lv_at hl 1 rfl) ?_
        refine lv_iload_n hx hb dX3_wrongPlace_58 rfl (lv_at hl 2 rfl) ?_
        refine lv_iadd hx hb dX3_wrongPlace_59 ?_
        exact W.iret (v := (nI (xDp lt len p0)) + (sMd (xAt lt len p0))) hx hb hr (fun t ht hW => ⟨_, rfl, (by rw [xWp, if_neg c_3, if_neg (Int32.not_lt.mpr c_5), xWp2, if_pos (Int32.not_le.mp c_7)]), ht⟩) (fun _ h => absurd h List.not_mem_nil) dX3_wrongPlace_60
    · refine lv_aload_n hx hb dX3_wrongPlace_28 rfl (lv_at hl 2 rfl) ?_
      refine lv_iload_n hx hb dX3_wrongPlace_29 rfl (lv_at hl 3 rfl) ?_
      refine lv_iconst (v := 1) hx hb dX3_wrongPlace_30 (by decide) ?_
      refine lv_iadd hx hb dX3_wrongPlace_31 ?_
      refine xv_int (y := nI (p0 + 1)) (nI_1 p0) ?_
      have hPc := hP.sub (ws' := [(tx, .inr (3, [.ref t0, .int (nI len)])), (t0, .inl (cI, 96, .inl lt))]) [0, 1] rfl
      refine vp_callSi (va_Run.run (va_runV (As := [.int (nI (p0 + 1))]) (rest := []) ⟨hx, hb, hml, hown, hts⟩ (g_X3_kindAt l D cI cL cZ cC ad av tx t0 len lt (p0 + 1) (by first | assumption | decide +kernel) (by omega)) (cwV 1 hts gX3_wrongPlace_X3_kindAt rfl rfl rfl (by decide +kernel) ⟨Nat.le_of_ble_eq_true rfl, Nat.le_of_ble_eq_true rfl⟩) ⟨sPc_bl, va_recv hK hPc (ci := 3) (q0 := 0) rfl rfl, sPc_use hPc hK (xKs_use hX9 va_S.rf (fun _ h => h))⟩ rfl rfl hl.1 rfl (lv_room (Nat.le_of_ble_eq_true rfl)) dX3_wrongPlace_32 ⟨Nat.le_of_ble_eq_true rfl, Nat.le_of_ble_eq_true rfl⟩)) (fun r_13 er_13 => ?_)
      obtain rfl : (xKd lt len (p0 + 1) : Int32) = r_13 := Eq.symm er_13
      refine lv_if_ge (tgt := 42) hx hb dX3_wrongPlace_35 (by decide) (fun c_14 => ?_) (fun c_14 => ?_)
      · refine lv_aload_n hx hb dX3_wrongPlace_42 rfl (lv_at hl 2 rfl) ?_
        refine lv_iload_n hx hb dX3_wrongPlace_43 rfl (lv_at hl 3 rfl) ?_
        have hPc := hP.sub (ws' := [(tx, .inr (3, [.ref t0, .int (nI len)])), (t0, .inl (cI, 96, .inl lt))]) [0, 1] rfl
        refine vp_callSi (va_Run.run (va_runV (As := [.int (nI p0)]) (rest := []) ⟨hx, hb, hml, hown, hts⟩ (g_X3_digitsEnd l D cI cL cZ cC tx t0 len lt p0 (by first | assumption | decide +kernel) (by omega)) (cwV 1 hts gX3_wrongPlace_X3_digitsEnd rfl rfl rfl (by decide +kernel) ⟨Nat.le_of_ble_eq_true rfl, Nat.le_of_ble_eq_true rfl⟩) ⟨xPc_bl, va_recv hK hPc (ci := 3) (q0 := 0) rfl rfl, xPc_use hPc hK⟩ rfl rfl hl.1 rfl (lv_room (Nat.le_of_ble_eq_true rfl)) dX3_wrongPlace_44 ⟨Nat.le_of_ble_eq_true rfl, Nat.le_of_ble_eq_true rfl⟩)) (fun r_15 er_15 => ?_)
        obtain rfl : (nI (xDe lt len p0) : Int32) = r_15 := Eq.symm er_15
        refine lv_istore (lv' := [(4, .int (nI (xDe lt len p0))), (3, .int (nI (xDp lt len p0))), (2, .int (sMd (xAt lt len p0))), (0, .ref tx), (1, .int (nI p0))]) hx hb dX3_wrongPlace_47 hl (by decide) rfl (fun ls hl => ?_)
        refine lv_iload hx hb dX3_wrongPlace_49 (lv_at hl 0 rfl) ?_
        refine lv_iload_n hx hb dX3_wrongPlace_51 rfl (lv_at hl 1 rfl) ?_
        refine lv_isub hx hb dX3_wrongPlace_52 ?_
        refine xv_int (y := nI (xDe lt len p0 - xDp lt len p0)) (pk_sub hde.1) ?_
        refine lv_iload_n hx hb dX3_wrongPlace_53 rfl (lv_at hl 2 rfl) ?_
        refine lv_icmp_le (tgt := 61) hx hb dX3_wrongPlace_54 (by decide) (fun c_16 => ?_) (fun c_16 => ?_)
        · refine lv_iload hx hb dX3_wrongPlace_61 (lv_at hl 0 rfl) ?_
          refine lv_iload_n hx hb dX3_wrongPlace_63 rfl (lv_at hl 1 rfl) ?_
          refine lv_isub hx hb dX3_wrongPlace_64 ?_
          refine xv_int (y := nI (xDe lt len p0 - xDp lt len p0)) (pk_sub hde.1) ?_
          refine lv_aload_n hx hb dX3_wrongPlace_65 rfl (lv_at hl 3 rfl) ?_
          refine lv_iload_n hx hb dX3_wrongPlace_66 rfl (lv_at hl 4 rfl) ?_
          have hPc := hP.sub (ws' := [(tx, .inr (3, [.ref t0, .int (nI len)])), (t0, .inl (cI, 96, .inl lt))]) [0, 1] rfl
          refine vp_callSi (va_Run.run (va_runV (As := [.int (nI p0)]) (rest := [.int (nI (xDe lt len p0 - xDp lt len p0))]) ⟨hx, hb, hml, hown, hts⟩ (g_X3_at l D cI cL cZ cC tx t0 len lt p0 (by first | assumption | decide +kernel) (by omega)) (cwV 1 hts gX3_wrongPlace_X3_at rfl rfl rfl (by decide +kernel) ⟨Nat.le_of_ble_eq_true rfl, Nat.le_of_ble_eq_true rfl⟩) ⟨xPc_bl, va_recv hK hPc (ci := 3) (q0 := 0) rfl rfl, xPc_use hPc hK⟩ rfl rfl hl.1 rfl (lv_room (Nat.le_of_ble_eq_true rfl)) dX3_wrongPlace_67 ⟨Nat.le_of_ble_eq_true rfl, Nat.le_of_ble_eq_true rfl⟩)) (fun r_17 er_17 => ?_)
          obtain rfl : (xAt lt len p0 : Int32) = r_17 := Eq.symm er_17
          have hPc := hP.sub (ws' := []) [] rfl
          refine vp_callSi (va_Run.run (va_runS (As := [.int (xAt lt len p0)]) (rest := [.int (nI (xDe lt len p0 - xDp lt len p0))]) ⟨hx, hb, hml, hown, hts⟩ (g_X3_leastDigits l D cI cL cZ cC (xAt lt len p0) ) (va_cwS 1 hts gX3_wrongPlace_X3_leastDigits rfl rfl rfl (by decide +kernel) ⟨Nat.le_of_ble_eq_true rfl, Nat.le_of_ble_eq_true rfl⟩) ⟨xPc_bl, xPc_use hPc hK⟩ rfl rfl hl.1 rfl (lv_room (Nat.le_of_ble_eq_true rfl)) dX3_wrongPlace_70 ⟨Nat.le_of_ble_eq_true rfl, Nat.le_of_ble_eq_true rfl⟩)) (fun r_18 er_18 => ?_)
          obtain rfl : (sLd (xAt lt len p0) : Int32) = r_18 := Eq.symm er_18
          refine lv_icmp_lt (tgt := 87) hx hb dX3_wrongPlace_73 (by decide) (fun c_19 => ?_) (fun c_19 => ?_)
          · refine lv_iload hx hb dX3_wrongPlace_87 (lv_at hl 0 rfl) ?_
            refine lv_goto (tgt := 93) hx hb dX3_wrongPlace_89 (by decide) ?_
            exact W.iret (v := nI (xDe lt len p0)) hx hb hr (fun t ht hW => ⟨_, rfl, (by rw [xWp, if_neg c_3, if_pos (Int32.not_le.mp c_5), if_neg (Int32.not_lt.mpr c_14), xWp2, if_neg (Int32.not_lt.mpr c_16), if_pos c_19]), ht⟩) (fun _ h => absurd h List.not_mem_nil) dX3_wrongPlace_93
          · refine lv_aload_n hx hb dX3_wrongPlace_76 rfl (lv_at hl 3 rfl) ?_
            refine lv_iload hx hb dX3_wrongPlace_77 (lv_at hl 0 rfl) ?_
            have hPc := hP.sub (ws' := [(tx, .inr (3, [.ref t0, .int (nI len)])), (t0, .inl (cI, 96, .inl lt))]) [0, 1] rfl
            refine vp_callSi (va_Run.run (va_runV (As := [.int (nI (xDe lt len p0))]) (rest := []) ⟨hx, hb, hml, hown, hts⟩ (g_X3_at l D cI cL cZ cC tx t0 len lt (xDe lt len p0) (by first | assumption | decide +kernel) (by omega)) (cwV 1 hts gX3_wrongPlace_X3_at rfl rfl rfl (by decide +kernel) ⟨Nat.le_of_ble_eq_true rfl, Nat.le_of_ble_eq_true rfl⟩) ⟨xPc_bl, va_recv hK hPc (ci := 3) (q0 := 0) rfl rfl, xPc_use hPc hK⟩ rfl rfl hl.1 rfl (lv_room (Nat.le_of_ble_eq_true rfl)) dX3_wrongPlace_79 ⟨Nat.le_of_ble_eq_true rfl, Nat.le_of_ble_eq_true rfl⟩)) (fun r_20 er_20 => ?_)
            obtain rfl : (xAt lt len (xDe lt len p0) : Int32) = r_20 := Eq.symm er_20
            refine lv_bipush (v := 59) hx hb dX3_wrongPlace_82 (by decide) ?_
            refine lv_icmp_eq (tgt := 92) hx hb dX3_wrongPlace_84 (by decide) (fun c_21 => ?_) (fun c_21 => ?_)
            · refine lv_iconst (v := -1) hx hb dX3_wrongPlace_92 (by decide) ?_
              exact W.iret (v := -1) hx hb hr (fun t ht hW => ⟨_, rfl, (by rw [xWp, if_neg c_3, if_pos (Int32.not_le.mp c_5), if_neg (Int32.not_lt.mpr c_14), xWp2, if_neg (Int32.not_lt.mpr c_16), if_neg c_19, if_pos c_21]), ht⟩) (fun _ h => absurd h List.not_mem_nil) dX3_wrongPlace_93
            · refine lv_iload hx hb dX3_wrongPlace_87 (lv_at hl 0 rfl) ?_
              refine lv_goto (tgt := 93) hx hb dX3_wrongPlace_89 (by decide) ?_
              exact W.iret (v := nI (xDe lt len p0)) hx hb hr (fun t ht hW => ⟨_, rfl, (by rw [xWp, if_neg c_3, if_pos (Int32.not_le.mp c_5), if_neg (Int32.not_lt.mpr c_14), xWp2, if_neg (Int32.not_lt.mpr c_16), if_neg c_19, if_neg c_21]), ht⟩) (fun _ h => absurd h List.not_mem_nil) dX3_wrongPlace_93
        · refine lv_iload_n hx hb dX3_wrongPlace_57 rfl (lv_at hl 1 rfl) ?_
          refine lv_iload_n hx hb dX3_wrongPlace_58 rfl (lv_at hl 2 rfl) ?_
          refine lv_iadd hx hb dX3_wrongPlace_59 ?_
          exact W.iret (v := (nI (xDp lt len p0)) + (sMd (xAt lt len p0))) hx hb hr (fun t ht hW => ⟨_, rfl, (by rw [xWp, if_neg c_3, if_pos (Int32.not_le.mp c_5), if_neg (Int32.not_lt.mpr c_14), xWp2, if_pos (Int32.not_le.mp c_16)]), ht⟩) (fun _ h => absurd h List.not_mem_nil) dX3_wrongPlace_60
      · refine lv_iload_n hx hb dX3_wrongPlace_38 rfl (lv_at hl 3 rfl) ?_
        refine lv_iconst (v := 1) hx hb dX3_wrongPlace_39 (by decide) ?_
        refine lv_iadd hx hb dX3_wrongPlace_40 ?_
        refine xv_int (y := nI (p0 + 1)) (nI_1 p0) ?_
        exact W.iret (v := nI (p0 + 1)) hx hb hr (fun t ht hW => ⟨_, rfl, (by rw [xWp, if_neg c_3, if_pos (Int32.not_le.mp c_5), if_pos (Int32.not_le.mp c_14)]), ht⟩) (fun _ h => absurd h List.not_mem_nil) dX3_wrongPlace_41
  · refine lv_iload_n hx hb dX3_wrongPlace_13 rfl (lv_at hl 2 rfl) ?_
    exact W.iret (v := nI p0) hx hb hr (fun t ht hW => ⟨_, rfl, (by rw [xWp, if_pos c_3]), ht⟩) (fun _ h => absurd h List.not_mem_nil) dX3_wrongPlace_14

set_option maxHeartbeats 4000000 in
set_option maxRecDepth 100000 in
theorem g_X3_firstWrongPlace (l : Launch) (D : va_G) (cI cL cZ cC : ClassId) (ad : Nat) (av : Nat) (tx : Nat) (t0 : Nat) (len : Nat) (lt : Nat → Int32) (hl96 : len ≤ 96) : Met l yX3_firstWrongPlace wsX3_firstWrongPlace ({ frames := 6, cells := 0, slots := 0, locals := 136 } : Room) (sPc D ad av [.ref tx] [(tx, .inr (3, [.ref t0, .int (nI len)])), (t0, .inl (cI, 96, .inl lt))] (xTy cI cL cZ cC)) (vp_Si (fun r : Int32 => r = xF0 lt len)) 0 0 (fun _ => False) := by
  refine Met.ofW (cc := cX3_firstWrongPlace) (maxL := 4) (ret := (some .int)) (by decide) rfl ?_
  intro p e s m args below meth c s₁ B hml hv
  obtain ⟨rfl, hP, hK, hX9⟩ := hv
  have hx := B.exec
  have hb := B.bytes
  have hr := B.returns
  have hts := atoms_spec (ws := wsX3_firstWrongPlace) B.pre
  have hown : s.vm.findClass RX3 = some m.cls := findClass_of_methodNamed B.named
  have hlocks := B.notSynchronized
  have hwX3 : ∀ w ∈ u_ws RX3 TX3 2, w ∈ wsX3_firstWrongPlace := fun _ h => List.mem_cons_of_mem _ (List.mem_append_right _ h)
  have hl := lv_entry ([.ref tx]) (n := 4) (Nat.le_of_ble_eq_true rfl)
  rw [lg_entry_eq]
  generalize (lg_sl ([.ref tx]) ++ List.replicate (4 - (lg_sl ([.ref tx])).length) Slot.unset).toArray = ls at hl ⊢
  have hl : lv_has ls 4 [(0, .ref tx)] := hl
  have hdp := xDp_le lt len 0
  have hde := xDe_le lt len 0
  refine lv_aload_n hx hb dX3_firstWrongPlace_0 rfl (lv_at hl 0 rfl) ?_
  refine lv_iconst (v := 0) hx hb dX3_firstWrongPlace_1 (by decide) ?_
  have hPc := hP.sub (ws' := [(tx, .inr (3, [.ref t0, .int (nI len)])), (t0, .inl (cI, 96, .inl lt))]) [0, 1] rfl
  refine vp_callSi (va_Run.run (va_runV (As := [.int 0]) (rest := []) ⟨hx, hb, hml, hown, hts⟩ (g_X3_wrongPlace l D cI cL cZ cC ad av tx t0 len lt 0 (by first | assumption | decide +kernel) (by omega)) (cwV 1 hts gX3_firstWrongPlace_X3_wrongPlace rfl rfl rfl (by decide +kernel) ⟨Nat.le_of_ble_eq_true rfl, Nat.le_of_ble_eq_true rfl⟩) ⟨sPc_bl, va_recv hK hPc (ci := 3) (q0 := 0) rfl rfl, sPc_use hPc hK (xKs_use hX9 va_S.rf (fun _ h => h))⟩ rfl rfl hl.1 rfl (lv_room (Nat.le_of_ble_eq_true rfl)) dX3_firstWrongPlace_2 ⟨Nat.le_of_ble_eq_true rfl, Nat.le_of_ble_eq_true rfl⟩)) (fun r_1 er_1 => ?_)
  obtain rfl : (xWp lt len 0 : Int32) = r_1 := Eq.symm er_1
  refine lv_istore_n (lv' := [(1, .int (xWp lt len 0)), (0, .ref tx)]) hx hb dX3_firstWrongPlace_5 rfl hl (by decide) rfl (fun ls hl => ?_)
  refine lv_aload_n hx hb dX3_firstWrongPlace_6 rfl (lv_at hl 1 rfl) ?_
  refine lv_iconst (v := 0) hx hb dX3_firstWrongPlace_7 (by decide) ?_
  have hPc := hP.sub (ws' := [(tx, .inr (3, [.ref t0, .int (nI len)])), (t0, .inl (cI, 96, .inl lt))]) [0, 1] rfl
  refine vp_callSi (va_Run.run (va_runV (As := [.int 0]) (rest := []) ⟨hx, hb, hml, hown, hts⟩ (g_X3_digitsEnd l D cI cL cZ cC tx t0 len lt 0 (by first | assumption | decide +kernel) (by omega)) (cwV 1 hts gX3_firstWrongPlace_X3_digitsEnd rfl rfl rfl (by decide +kernel) ⟨Nat.le_of_ble_eq_true rfl, Nat.le_of_ble_eq_true rfl⟩) ⟨xPc_bl, va_recv hK hPc (ci := 3) (q0 := 0) rfl rfl, xPc_use hPc hK⟩ rfl rfl hl.1 rfl (lv_room (Nat.le_of_ble_eq_true rfl)) dX3_firstWrongPlace_8 ⟨Nat.le_of_ble_eq_true rfl, Nat.le_of_ble_eq_true rfl⟩)) (fun r_2 er_2 => ?_)
  obtain rfl : (nI (xDe lt len 0) : Int32) = r_2 := Eq.symm er_2
  refine lv_iconst (v := 1) hx hb dX3_firstWrongPlace_11 (by decide) ?_
  refine lv_iadd hx hb dX3_firstWrongPlace_12 ?_
  refine xv_int (y := nI (xDe lt len 0 + 1)) (nI_1 _) ?_
  refine lv_istore_n (lv' := [(2, .int (nI (xDe lt len 0 + 1))), (1, .int (xWp lt len 0)), (0, .ref tx)]) hx hb dX3_firstWrongPlace_13 rfl hl (by decide) rfl (fun ls hl => ?_)
  refine lv_iconst (v := 0) hx hb dX3_firstWrongPlace_14 (by decide) ?_
  refine lv_istore_n (lv' := [(3, .int 0), (2, .int (nI (xDe lt len 0 + 1))), (1, .int (xWp lt len 0)), (0, .ref tx)]) hx hb dX3_firstWrongPlace_15 rfl hl (by decide) rfl (fun ls hl => ?_)
  refine xl_loop (σ := Nat × Nat × Int32) (fun n q ls => lv_has ls 4 [(3, .int (nI q.1)), (2, .int (nI q.2.1)), (1, .int q.2.2), (0, .ref tx)] ∧ (len - q.1 < n) ∧ (q.1 ≤ len) ∧ (q.2.1 ≤ 110) ∧ (xFw lt len (len - q.1) q.2.1 q.2.2 = xF0 lt len)) (len + 1) (0, xDe lt len 0 + 1, xWp lt len 0) ⟨lv_sub hl [0, 1, 2, 3] rfl, by (try dsimp only); exact ⟨by omega, by omega, by omega, rfl⟩⟩ (fun q ls h => absurd h.2.1 (Nat.not_lt_zero _)) ?_
  intro n_16 q_16 ls ih_16 hI_16
  obtain ⟨hl, hI_16⟩ := hI_16
  obtain ⟨i, p9, w9⟩ := q_16
  obtain ⟨h1, h2, h3, h4⟩ := hI_16
  try dsimp only at hl h1 h2 h3 h4
  refine lv_iload_n hx hb dX3_firstWrongPlace_16 rfl (lv_at hl 0 rfl) ?_
  refine lv_aload_n hx hb dX3_firstWrongPlace_17 rfl (lv_at hl 3 rfl) ?_
  refine va_get (D := D) (ci := 3) (v := .int (nI len)) (C := RX3) (T := TX3) (N := 2) hx hb hts hwX3 hown hK hP 0 rfl rfl 1 (by decide) (hts (.fieldLink RX3 15 "WaitOrWalkOn$Text" "length" "I") (by decide +kernel)) (fun _ h9 => h9) rfl dX3_firstWrongPlace_18 ?_
  refine lv_icmp_ge (tgt := 56) hx hb dX3_firstWrongPlace_21 (by decide) (fun c_3 => ?_) (fun c_3 => ?_)
  · refine lv_iload_n hx hb dX3_firstWrongPlace_56 rfl (lv_at hl 2 rfl) ?_
    exact W.iret (v := w9) hx hb hr (fun t ht hW => ⟨_, rfl, (by have w := mt (nI_ltI (a := i) (b := len) (by omega) (by omega)).mpr (Int32.not_lt.mpr c_3); exact (xFw_z (by omega)).symm.trans h4), ht⟩) (fun _ h => absurd h List.not_mem_nil) dX3_firstWrongPlace_57
  · refine lv_iload_n hx hb dX3_firstWrongPlace_24 rfl (lv_at hl 1 rfl) ?_
    refine lv_aload_n hx hb dX3_firstWrongPlace_25 rfl (lv_at hl 3 rfl) ?_
    refine va_get (D := D) (ci := 3) (v := .int (nI len)) (C := RX3) (T := TX3) (N := 2) hx hb hts hwX3 hown hK hP 0 rfl rfl 1 (by decide) (hts (.fieldLink RX3 15 "WaitOrWalkOn$Text" "length" "I") (by decide +kernel)) (fun _ h9 => h9) rfl dX3_firstWrongPlace_26 ?_
    refine lv_icmp_ge (tgt := 56) hx hb dX3_firstWrongPlace_29 (by decide) (fun c_4 => ?_) (fun c_4 => ?_)
    · refine lv_iload_n hx hb dX3_firstWrongPlace_56 rfl (lv_at hl 2 rfl) ?_
      exact W.iret (v := w9) hx hb hr (fun t ht hW => ⟨_, rfl, (by have w1 := (nI_ltI (a := i) (b := len) (by omega) (by omega)).mp (Int32.not_le.mp c_3); have w2 := mt (nI_ltI (a := p9) (b := len) (by omega) (by omega)).mpr (Int32.not_lt.mpr c_4); exact (xFw_p w1 w2).symm.trans h4), ht⟩) (fun _ h => absurd h List.not_mem_nil) dX3_firstWrongPlace_57
    · refine lv_iload_n hx hb dX3_firstWrongPlace_32 rfl (lv_at hl 2 rfl) ?_
      refine lv_if_ge (tgt := 56) hx hb dX3_firstWrongPlace_33 (by decide) (fun c_5 => ?_) (fun c_5 => ?_)
      · refine lv_iload_n hx hb dX3_firstWrongPlace_56 rfl (lv_at hl 2 rfl) ?_
        exact W.iret (v := w9) hx hb hr (fun t ht hW => ⟨_, rfl, (by have w1 := (nI_ltI (a := i) (b := len) (by omega) (by omega)).mp (Int32.not_le.mp c_3); have w2 := (nI_ltI (a := p9) (b := len) (by omega) (by omega)).mp (Int32.not_le.mp c_4); exact (xFw_w w1 w2 (Int32.not_lt.mpr c_5)).symm.trans h4), ht⟩) (fun _ h => absurd h List.not_mem_nil) dX3_firstWrongPlace_57
      · refine lv_aload_n hx hb dX3_firstWrongPlace_36 rfl (lv_at hl 3 rfl) ?_
        refine lv_iload_n hx hb dX3_firstWrongPlace_37 rfl (lv_at hl 1 rfl) ?_
        have hPc := hP.sub (ws' := [(tx, .inr (3, [.ref t0, .int (nI len)])), (t0, .inl (cI, 96, .inl lt))]) [0, 1] rfl
        refine vp_callSi (va_Run.run (va_runV (As := [.int (nI p9)]) (rest := []) ⟨hx, hb, hml, hown, hts⟩ (g_X3_wrongPlace l D cI cL cZ cC ad av tx t0 len lt p9 (by first | assumption | decide +kernel) (by omega)) (cwV 1 hts gX3_firstWrongPlace_X3_wrongPlace rfl rfl rfl (by decide +kernel) ⟨Nat.le_of_ble_eq_true rfl, Nat.le_of_ble_eq_true rfl⟩) ⟨sPc_bl, va_recv hK hPc (ci := 3) (q0 := 0) rfl rfl, sPc_use hPc hK (xKs_use hX9 va_S.rf (fun _ h => h))⟩ rfl rfl hl.1 rfl (lv_room (Nat.le_of_ble_eq_true rfl)) dX3_firstWrongPlace_38 ⟨Nat.le_of_ble_eq_true rfl, Nat.le_of_ble_eq_true rfl⟩)) (fun r_6 er_6 => ?_)
        obtain rfl : (xWp lt len p9 : Int32) = r_6 := Eq.symm er_6
        refine lv_istore_n (lv' := [(1, .int (xWp lt len p9)), (3, .int (nI i)), (2, .int (nI p9)), (0, .ref tx)]) hx hb dX3_firstWrongPlace_41 rfl hl (by decide) rfl (fun ls hl => ?_)
        refine lv_aload_n hx hb dX3_firstWrongPlace_42 rfl (lv_at hl 3 rfl) ?_
        refine lv_iload_n hx hb dX3_firstWrongPlace_43 rfl (lv_at hl 2 rfl) ?_
        have hPc := hP.sub (ws' := [(tx, .inr (3, [.ref t0, .int (nI len)])), (t0, .inl (cI, 96, .inl lt))]) [0, 1] rfl
        refine vp_callSi (va_Run.run (va_runV (As := [.int (nI p9)]) (rest := []) ⟨hx, hb, hml, hown, hts⟩ (g_X3_digitsEnd l D cI cL cZ cC tx t0 len lt p9 (by first | assumption | decide +kernel) (by omega)) (cwV 1 hts gX3_firstWrongPlace_X3_digitsEnd rfl rfl rfl (by decide +kernel) ⟨Nat.le_of_ble_eq_true rfl, Nat.le_of_ble_eq_true rfl⟩) ⟨xPc_bl, va_recv hK hPc (ci := 3) (q0 := 0) rfl rfl, xPc_use hPc hK⟩ rfl rfl hl.1 rfl (lv_room (Nat.le_of_ble_eq_true rfl)) dX3_firstWrongPlace_44 ⟨Nat.le_of_ble_eq_true rfl, Nat.le_of_ble_eq_true rfl⟩)) (fun r_7 er_7 => ?_)
        obtain rfl : (nI (xDe lt len p9) : Int32) = r_7 := Eq.symm er_7
        refine lv_iconst (v := 1) hx hb dX3_firstWrongPlace_47 (by decide) ?_
        refine lv_iadd hx hb dX3_firstWrongPlace_48 ?_
        refine xv_int (y := nI (xDe lt len p9 + 1)) (nI_1 _) ?_
        refine lv_istore_n (lv' := [(2, .int (nI (xDe lt len p9 + 1))), (1, .int (xWp lt len p9)), (3, .int (nI i)), (0, .ref tx)]) hx hb dX3_firstWrongPlace_49 rfl hl (by decide) rfl (fun ls hl => ?_)
        refine lv_iinc (v := nI (i + 1)) (lv' := [(3, .int (nI (i + 1))), (2, .int (nI (xDe lt len p9 + 1))), (1, .int (xWp lt len p9)), (0, .ref tx)]) hx hb dX3_firstWrongPlace_50 hl (k := 2) rfl (nI_1 i) (by decide) rfl (fun ls hl => ?_)
        refine lv_goto (tgt := 16) hx hb dX3_firstWrongPlace_53 (by decide) ?_
        have w1 := (nI_ltI (a := i) (b := len) (by omega) (by omega)).mp (Int32.not_le.mp c_3)
        have w2 := (nI_ltI (a := p9) (b := len) (by omega) (by omega)).mp (Int32.not_le.mp c_4)
        have hdp := xDp_le lt len p9
        have hde := xDe_le lt len p9
        have e4 := (xFw_s w1 w2 (Int32.not_le.mp c_5)).trans h4
        exact ih_16 (i + 1, xDe lt len p9 + 1, xWp lt len p9) _ ⟨lv_sub hl [0, 1, 2, 3] rfl, by (try dsimp only); exact ⟨by omega, by omega, by omega, e4⟩⟩
