set_option maxHeartbeats 4000000 in
set_option maxRecDepth 100000 in
theorem g_X2_least (l : Launch) (D : va_G) (cI cL cZ cC : ClassId) (q1 : Int32)  : Met l yX2_least wsX2_least ({ frames := 0, cells := 0, slots := 0, locals := 0 } : Room) (xPc D [.int q1] [] (xTy cI cL cZ cC)) (vp_Si (fun r : Int32 => r = sLe q1)) 0 0 (fun _ => False) := by
  refine Met.ofW (cc := cX2_least) (maxL := 1) (ret := (some .int)) (by decide) rfl ?_
  intro p e s m args below meth c s₁ B hml hv
  obtain ⟨rfl, hP, hK⟩ := hv
  have hx := B.exec
  have hb := B.bytes
  have hr := B.returns
  have hts := atoms_spec (ws := wsX2_least) B.pre
  have hown : s.vm.findClass RX2 = some m.cls := findClass_of_methodNamed B.named
  have hlocks := B.notSynchronized
  have hl := lv_entry ([.int q1]) (n := 1) (Nat.le_of_ble_eq_true rfl)
  rw [lg_entry_eq]
  generalize (lg_sl ([.int q1]) ++ List.replicate (1 - (lg_sl ([.int q1])).length) Slot.unset).toArray = ls at hl ⊢
  have hl : lv_has ls 1 [(0, .int q1)] := hl
  refine lv_iload_n hx hb dX2_least_0 rfl (lv_at hl 0 rfl) ?_
  by_cases c_1 : q1 = 1
  · refine lv_lookup (off := 27) (tgt := 28) hx hb dX2_least_1 (by decide +kernel) (by rw [c_1]; decide +kernel) (by decide) ?_
    refine lv_bipush (v := 20) hx hb dX2_least_28 (by decide) ?_
    exact W.iret (v := 20) hx hb hr (fun t ht hW => ⟨_, rfl, by simp [sLe, c_1], ht⟩) (fun _ h => absurd h List.not_mem_nil) dX2_least_30
  by_cases c_2 : q1 = 3
  · refine lv_lookup (off := 30) (tgt := 31) hx hb dX2_least_1 (by decide +kernel) (by rw [c_2]; decide +kernel) (by decide) ?_
    refine lv_iconst (v := 1) hx hb dX2_least_31 (by decide) ?_
    exact W.iret (v := 1) hx hb hr (fun t ht hW => ⟨_, rfl, by simp [sLe, c_1, c_2], ht⟩) (fun _ h => absurd h List.not_mem_nil) dX2_least_32
  refine lv_lookup (off := 32) (tgt := 33) hx hb dX2_least_1 (by decide +kernel) (by have q_1 : ¬ (q1).toInt = 1 := mt (xi_eq (q1) 1).mpr c_1; have q_2 : ¬ (q1).toInt = 3 := mt (xi_eq (q1) 3).mpr c_2; simp [Op.lookupswitch.offset, q_1, Ne.symm q_1, q_2, Ne.symm q_2]) (by decide) ?_
  refine lv_iconst (v := 0) hx hb dX2_least_33 (by decide) ?_
  exact W.iret (v := 0) hx hb hr (fun t ht hW => ⟨_, rfl, by simp [sLe, c_1, c_2], ht⟩) (fun _ h => absurd h List.not_mem_nil) dX2_least_34

set_option maxHeartbeats 4000000 in
set_option maxRecDepth 100000 in
theorem g_X2_most (l : Launch) (D : va_G) (cI cL cZ cC : ClassId) (q1 : Int32)  : Met l yX2_most wsX2_most ({ frames := 0, cells := 0, slots := 0, locals := 0 } : Room) (xPc D [.int q1] [] (xTy cI cL cZ cC)) (vp_Si (fun r : Int32 => r = sMo q1)) 0 0 (fun _ => False) := by
  refine Met.ofW (cc := cX2_most) (maxL := 1) (ret := (some .int)) (by decide) rfl ?_
  intro p e s m args below meth c s₁ B hml hv
  obtain ⟨rfl, hP, hK⟩ := hv
  have hx := B.exec
  have hb := B.bytes
  have hr := B.returns
  have hts := atoms_spec (ws := wsX2_most) B.pre
  have hown : s.vm.findClass RX2 = some m.cls := findClass_of_methodNamed B.named
  have hlocks := B.notSynchronized
  have hl := lv_entry ([.int q1]) (n := 1) (Nat.le_of_ble_eq_true rfl)
  rw [lg_entry_eq]
  generalize (lg_sl ([.int q1]) ++ List.replicate (1 - (lg_sl ([.int q1])).length) Slot.unset).toArray = ls at hl ⊢
  have hl : lv_has ls 1 [(0, .int q1)] := hl
  refine lv_iload_n hx hb dX2_most_0 rfl (lv_at hl 0 rfl) ?_
  by_cases c_1 : q1 = 0
  · refine lv_tableIn (off := 27) (tgt := 28) hx hb dX2_most_1 (by rw [c_1]; decide +kernel) (by rw [c_1]; decide +kernel) (by rw [c_1]; decide +kernel) (by decide) ?_
    refine lv_sipush (v := 999) hx hb dX2_most_28 (by decide) ?_
    exact W.iret (v := 999) hx hb hr (fun t ht hW => ⟨_, rfl, by simp [sMo, c_1], ht⟩) (fun _ h => absurd h List.not_mem_nil) dX2_most_31
  by_cases c_2 : q1 = 1
  · refine lv_tableIn (off := 31) (tgt := 32) hx hb dX2_most_1 (by rw [c_2]; decide +kernel) (by rw [c_2]; decide +kernel) (by rw [c_2]; decide +kernel) (by decide) ?_
    refine lv_sipush (v := 200) hx hb dX2_most_32 (by decide) ?_
    exact W.iret (v := 200) hx hb hr (fun t ht hW => ⟨_, rfl, by simp [sMo, c_1, c_2], ht⟩) (fun _ h => absurd h List.not_mem_nil) dX2_most_35
  by_cases c_3 : q1 = 2
  · refine lv_tableIn (off := 35) (tgt := 36) hx hb dX2_most_1 (by rw [c_3]; decide +kernel) (by rw [c_3]; decide +kernel) (by rw [c_3]; decide +kernel) (by decide) ?_
    refine lv_bipush (v := 9) hx hb dX2_most_36 (by decide) ?_
    exact W.iret (v := 9) hx hb hr (fun t ht hW => ⟨_, rfl, by simp [sMo, c_1, c_2, c_3], ht⟩) (fun _ h => absurd h List.not_mem_nil) dX2_most_38
  refine lv_tableOut (tgt := 39) hx hb dX2_most_1 (by have q_1 : ¬ (q1).toInt = 0 := mt (xi_eq (q1) 0).mpr c_1; have q_2 : ¬ (q1).toInt = 1 := mt (xi_eq (q1) 1).mpr c_2; have q_3 : ¬ (q1).toInt = 2 := mt (xi_eq (q1) 2).mpr c_3; omega) (by decide) ?_
  refine lv_bipush (v := 60) hx hb dX2_most_39 (by decide) ?_
  exact W.iret (v := 60) hx hb hr (fun t ht hW => ⟨_, rfl, by simp [sMo, c_1, c_2, c_3], ht⟩) (fun _ h => absurd h List.not_mem_nil) dX2_most_41

set_option maxHeartbeats 4000000 in
set_option maxRecDepth 100000 in
theorem g_X2_setting (l : Launch) (D : va_G) (cI cL cZ cC : ClassId) (rd : Nat) (r0 : Nat) (r1 : Nat) (s0 : Int32) (ho : Int32) (pa : Int32) (si : Int32) (li : Int32) (lc : Int32) (q1 : Int32)  : Met l yX2_setting wsX2_setting ({ frames := 0, cells := 0, slots := 0, locals := 0 } : Room) (xPc D [.ref rd, .int q1] [(rd, .inr (2, [.int s0, .int ho, .int pa, .int si, .int li, .int lc, .ref r0, .ref r1]))] (xTy cI cL cZ cC)) (vp_Si (fun r : Int32 => r = sSe ho pa si li q1)) 0 0 (fun _ => False) := by
  refine Met.ofW (cc := cX2_setting) (maxL := 2) (ret := (some .int)) (by decide) rfl ?_
  intro p e s m args below meth c s₁ B hml hv
  obtain ⟨rfl, hP, hK⟩ := hv
  have hx := B.exec
  have hb := B.bytes
  have hr := B.returns
  have hts := atoms_spec (ws := wsX2_setting) B.pre
  have hown : s.vm.findClass RX2 = some m.cls := findClass_of_methodNamed B.named
  have hlocks := B.notSynchronized
  have hwX2 : ∀ w ∈ u_ws RX2 TX2 8, w ∈ wsX2_setting := fun _ h => List.mem_cons_of_mem _ (List.mem_append_right _ h)
  have hl := lv_entry ([.ref rd, .int q1]) (n := 2) (Nat.le_of_ble_eq_true rfl)
  rw [lg_entry_eq]
  generalize (lg_sl ([.ref rd, .int q1]) ++ List.replicate (2 - (lg_sl ([.ref rd, .int q1])).length) Slot.unset).toArray = ls at hl ⊢
  have hl : lv_has ls 2 [(0, .ref rd), (1, .int q1)] := hl
  refine lv_iload_n hx hb dX2_setting_0 rfl (lv_at hl 1 rfl) ?_
  by_cases c_1 : q1 = 0
  · refine lv_tableIn (off := 27) (tgt := 28) hx hb dX2_setting_1 (by rw [c_1]; decide +kernel) (by rw [c_1]; decide +kernel) (by rw [c_1]; decide +kernel) (by decide) ?_
    refine lv_aload_n hx hb dX2_setting_28 rfl (lv_at hl 0 rfl) ?_
    refine va_get (D := D) (ci := 2) (v := .int ho) (C := RX2) (T := TX2) (N := 8) hx hb hts hwX2 hown hK hP 0 rfl rfl 1 (by decide) (hts (.fieldLink RX2 15 "WaitOrWalkOn$Road" "home" "I") (by decide +kernel)) (fun _ h9 => h9) rfl dX2_setting_29 ?_
    exact W.iret (v := ho) hx hb hr (fun t ht hW => ⟨_, rfl, by simp [sSe, c_1], ht⟩) (fun _ h => absurd h List.not_mem_nil) dX2_setting_32
  by_cases c_2 : q1 = 1
  · refine lv_tableIn (off := 32) (tgt := 33) hx hb dX2_setting_1 (by rw [c_2]; decide +kernel) (by rw [c_2]; decide +kernel) (by rw [c_2]; decide +kernel) (by decide) ?_
    refine lv_aload_n hx hb dX2_setting_33 rfl (lv_at hl 0 rfl) ?_
    refine va_get (D := D) (ci := 2) (v := .int pa) (C := RX2) (T := TX2) (N := 8) hx hb hts hwX2 hown hK hP 0 rfl rfl 2 (by decide) (hts (.fieldLink RX2 18 "WaitOrWalkOn$Road" "pace" "I") (by decide +kernel)) (fun _ h9 => h9) rfl dX2_setting_34 ?_
    exact W.iret (v := pa) hx hb hr (fun t ht hW => ⟨_, rfl, by simp [sSe, c_1, c_2], ht⟩) (fun _ h => absurd h List.not_mem_nil) dX2_setting_37
  by_cases c_3 : q1 = 2
  · refine lv_tableIn (off := 37) (tgt := 38) hx hb dX2_setting_1 (by rw [c_3]; decide +kernel) (by rw [c_3]; decide +kernel) (by rw [c_3]; decide +kernel) (by decide) ?_
    refine lv_aload_n hx hb dX2_setting_38 rfl (lv_at hl 0 rfl) ?_
    refine va_get (D := D) (ci := 2) (v := .int si) (C := RX2) (T := TX2) (N := 8) hx hb hts hwX2 hown hK hP 0 rfl rfl 3 (by decide) (hts (.fieldLink RX2 21 "WaitOrWalkOn$Road" "sight" "I") (by decide +kernel)) (fun _ h9 => h9) rfl dX2_setting_39 ?_
    exact W.iret (v := si) hx hb hr (fun t ht hW => ⟨_, rfl, by simp [sSe, c_1, c_2, c_3], ht⟩) (fun _ h => absurd h List.not_mem_nil) dX2_setting_42
  refine lv_tableOut (tgt := 43) hx hb dX2_setting_1 (by have q_1 : ¬ (q1).toInt = 0 := mt (xi_eq (q1) 0).mpr c_1; have q_2 : ¬ (q1).toInt = 1 := mt (xi_eq (q1) 1).mpr c_2; have q_3 : ¬ (q1).toInt = 2 := mt (xi_eq (q1) 2).mpr c_3; omega) (by decide) ?_
  refine lv_aload_n hx hb dX2_setting_43 rfl (lv_at hl 0 rfl) ?_
  refine va_get (D := D) (ci := 2) (v := .int li) (C := RX2) (T := TX2) (N := 8) hx hb hts hwX2 hown hK hP 0 rfl rfl 4 (by decide) (hts (.fieldLink RX2 24 "WaitOrWalkOn$Road" "limit" "I") (by decide +kernel)) (fun _ h9 => h9) rfl dX2_setting_44 ?_
  exact W.iret (v := li) hx hb hr (fun t ht hW => ⟨_, rfl, by simp [sSe, c_1, c_2, c_3], ht⟩) (fun _ h => absurd h List.not_mem_nil) dX2_setting_47

set_option maxHeartbeats 4000000 in
set_option maxRecDepth 100000 in
theorem g_X2_change (l : Launch) (D : va_G) (cI cL cZ cC : ClassId) (sz : Nat) (rd : Nat) (r0 : Nat) (r1 : Nat) (s0 : Int32) (ho : Int32) (pa : Int32) (si : Int32) (li : Int32) (lc : Int32) (q1 : Int32) (v1 : Int32)  : Met l yX2_change wsX2_change ({ frames := 1, cells := 0, slots := 0, locals := 20 } : Room) (wPc D [.ref rd, .int q1, .int v1] [(rd, .inr (2, [.int s0, .int ho, .int pa, .int si, .int li, .int lc, .ref r0, .ref r1]))] (xTy cI cL cZ cC) sz) (va_Qi (fun (r : Int32) (_ : Unit) => r = sCh q1 v1) (fun (_ : Unit) t => va_P D vwCl [(rd, .inr (2, [.int s0, .int (xCg q1 v1 0 ho), .int (xCg q1 v1 1 pa), .int (xCg q1 v1 2 si), .int (xCl q1 v1 li), .int lc, .ref r0, .ref r1]))] t.heap ∧ va_D (va_A [(rd, .inr (2, [.int s0, .int ho, .int pa, .int si, .int li, .int lc, .ref r0, .ref r1]))] sz) [(rd, .inr (2, [.int s0, .int (xCg q1 v1 0 ho), .int (xCg q1 v1 1 pa), .int (xCg q1 v1 2 si), .int (xCl q1 v1 li), .int lc, .ref r0, .ref r1]))]) (va_A [(rd, .inr (2, [.int s0, .int ho, .int pa, .int si, .int li, .int lc, .ref r0, .ref r1]))] sz)) 0 0 (va_A [(rd, .inr (2, [.int s0, .int ho, .int pa, .int si, .int li, .int lc, .ref r0, .ref r1]))] sz) := by
  refine Met.ofW (cc := cX2_change) (maxL := 3) (ret := (some .boolean)) (by decide) rfl ?_
  intro p e s m args below meth c s₁ B hml hv
  obtain ⟨rfl, hsz, hP, hK, hD0⟩ := hv
  have hx := B.exec
  have hb := B.bytes
  have hr := B.returns
  have hts := atoms_spec (ws := wsX2_change) B.pre
  have hown : s.vm.findClass RX2 = some m.cls := findClass_of_methodNamed B.named
  have hlocks := B.notSynchronized
  have hwX2 : ∀ w ∈ u_ws RX2 TX2 8, w ∈ wsX2_change := fun _ h => List.mem_cons_of_mem _ (List.mem_append_right _ h)
  subst hsz
  have hD := hD0.self (sz := s.heap.size)
  generalize hAe : va_A [(rd, .inr (2, [.int s0, .int ho, .int pa, .int si, .int li, .int lc, .ref r0, .ref r1]))] s.heap.size = A at hD ⊢
  have hA : ∀ q : Nat, s.heap.size ≤ q → A q := fun q h => by rw [← hAe]; exact Or.inr h
  have hS : va_S A s.heap s.heap [] := va_S.rf
  have hP : va_P D vwCl [(rd, .inr (2, [.int s0, .int ho, .int pa, .int si, .int li, .int lc, .ref r0, .ref r1]))] s.heap := hP
  have hl := lv_entry ([.ref rd, .int q1, .int v1]) (n := 3) (Nat.le_of_ble_eq_true rfl)
  rw [lg_entry_eq]
  generalize (lg_sl ([.ref rd, .int q1, .int v1]) ++ List.replicate (3 - (lg_sl ([.ref rd, .int q1, .int v1])).length) Slot.unset).toArray = ls at hl ⊢
  have hl : lv_has ls 3 [(0, .ref rd), (1, .int q1), (2, .int v1)] := hl
  refine lv_iload_n hx hb dX2_change_0 rfl (lv_at hl 2 rfl) ?_
  refine lv_iload_n hx hb dX2_change_1 rfl (lv_at hl 1 rfl) ?_
  have hPc := hP.sub (ws' := []) [] rfl
  refine vp_callSi (va_Run.run (va_runS (As := [.int q1]) (rest := [.int v1]) ⟨hx, hb, hml, hown, hts⟩ (g_X2_least l D cI cL cZ cC q1 ) (va_cwS 1 hts gX2_change_X2_least rfl rfl rfl (by decide +kernel) ⟨Nat.le_of_ble_eq_true rfl, Nat.le_of_ble_eq_true rfl⟩) ⟨xPc_bl, xPc_use hPc hK⟩ rfl rfl hl.1 rfl (lv_room (Nat.le_of_ble_eq_true rfl)) dX2_change_2 ⟨Nat.le_of_ble_eq_true rfl, Nat.le_of_ble_eq_true rfl⟩)) (fun r_1 er_1 => ?_)
  obtain rfl : (sLe q1 : Int32) = r_1 := Eq.symm er_1
  refine lv_icmp_lt (tgt := 16) hx hb dX2_change_5 (by decide) (fun c_2 => ?_) (fun c_2 => ?_)
  · refine lv_iconst (v := 0) hx hb dX2_change_16 (by decide) ?_
    have hP9 := hP.sub (ws' := [(rd, .inr (2, [.int s0, .int ho, .int pa, .int si, .int li, .int lc, .ref r0, .ref r1]))]) [0] rfl
    have hD9 := hD.sub (ws' := [(rd, .inr (2, [.int s0, .int ho, .int pa, .int si, .int li, .int lc, .ref r0, .ref r1]))]) [0] (by decide) rfl
    have hE9 : ([(rd, .inr (2, [.int s0, .int ho, .int pa, .int si, .int li, .int lc, .ref r0, .ref r1]))] : va_W) = [(rd, .inr (2, [.int s0, .int (xCg q1 v1 0 ho), .int (xCg q1 v1 1 pa), .int (xCg q1 v1 2 si), .int (xCl q1 v1 li), .int lc, .ref r0, .ref r1]))] := by simp [xCg, xCl, c_2]
    exact W.zret (v := 0) (ty := .boolean) hx hb hr (by decide +kernel) (fun t ht hW => ⟨⟨_, (), rfl, by simp [sCh, c_2], by rw [ht]; exact hE9 ▸ hP9, hE9 ▸ hD9⟩, hS.F ht⟩) hS.2.2 dX2_change_17
  · refine lv_iload_n hx hb dX2_change_8 rfl (lv_at hl 2 rfl) ?_
    refine lv_iload_n hx hb dX2_change_9 rfl (lv_at hl 1 rfl) ?_
    have hPc := hP.sub (ws' := []) [] rfl
    refine vp_callSi (va_Run.run (va_runS (As := [.int q1]) (rest := [.int v1]) ⟨hx, hb, hml, hown, hts⟩ (g_X2_most l D cI cL cZ cC q1 ) (va_cwS 1 hts gX2_change_X2_most rfl rfl rfl (by decide +kernel) ⟨Nat.le_of_ble_eq_true rfl, Nat.le_of_ble_eq_true rfl⟩) ⟨xPc_bl, xPc_use hPc hK⟩ rfl rfl hl.1 rfl (lv_room (Nat.le_of_ble_eq_true rfl)) dX2_change_10 ⟨Nat.le_of_ble_eq_true rfl, Nat.le_of_ble_eq_true rfl⟩)) (fun r_3 er_3 => ?_)
    obtain rfl : (sMo q1 : Int32) = r_3 := Eq.symm er_3
    refine lv_icmp_le (tgt := 18) hx hb dX2_change_13 (by decide) (fun c_4 => ?_) (fun c_4 => ?_)
    · refine lv_iload_n hx hb dX2_change_18 rfl (lv_at hl 1 rfl) ?_
      by_cases c_5 : q1 = 0
      · refine lv_tableIn (off := 25) (tgt := 44) hx hb dX2_change_19 (by rw [c_5]; decide +kernel) (by rw [c_5]; decide +kernel) (by rw [c_5]; decide +kernel) (by decide) ?_
        refine lv_aload_n hx hb dX2_change_44 rfl (lv_at hl 0 rfl) ?_
        refine lv_iload_n hx hb dX2_change_45 rfl (lv_at hl 2 rfl) ?_
        refine va_put (D := D) (ci := 2) (v := .int v1) (ty := .int) (C := RX2) (T := TX2) (N := 8) hx hb hts hwX2 tyX2 tyX2_ok nmX2 hown hK hP hD hS 0 rfl rfl 1 (by decide) (hts (.fieldLink RX2 15 "WaitOrWalkOn$Road" "home" "I") (by decide +kernel)) (fun _ h9 => h9) rfl (by decide +kernel) rfl rfl (Nat.le_of_ble_eq_true rfl) dX2_change_46 (fun H locs hP hD hS => ?_)
        have hP : va_P D vwCl [(rd, .inr (2, [.int s0, .int v1, .int pa, .int si, .int li, .int lc, .ref r0, .ref r1]))] H := hP
        have hD : va_D A [(rd, .inr (2, [.int s0, .int v1, .int pa, .int si, .int li, .int lc, .ref r0, .ref r1]))] := hD
        refine lv_goto (tgt := 73) hx hb dX2_change_49 (by decide) ?_
        refine lv_iconst (v := 1) hx hb dX2_change_73 (by decide) ?_
        have hP9 := hP.sub (ws' := [(rd, .inr (2, [.int s0, .int v1, .int pa, .int si, .int li, .int lc, .ref r0, .ref r1]))]) [0] rfl
        have hD9 := hD.sub (ws' := [(rd, .inr (2, [.int s0, .int v1, .int pa, .int si, .int li, .int lc, .ref r0, .ref r1]))]) [0] (by decide) rfl
        have hE9 : ([(rd, .inr (2, [.int s0, .int v1, .int pa, .int si, .int li, .int lc, .ref r0, .ref r1]))] : va_W) = [(rd, .inr (2, [.int s0, .int (xCg q1 v1 0 ho), .int (xCg q1 v1 1 pa), .int (xCg q1 v1 2 si), .int (xCl q1 v1 li), .int lc, .ref r0, .ref r1]))] := by rw [xCg_ok c_2 (Int32.not_lt.mpr c_4), xCg_ok c_2 (Int32.not_lt.mpr c_4), xCg_ok c_2 (Int32.not_lt.mpr c_4), xCl_ok c_2 (Int32.not_lt.mpr c_4)]; simp [c_5]
        exact W.zret (v := 1) (ty := .boolean) hx hb hr (by decide +kernel) (fun t ht hW => ⟨⟨_, (), rfl, (sCh_ok c_2 (Int32.not_lt.mpr c_4)).symm, by rw [ht]; exact hE9 ▸ hP9, hE9 ▸ hD9⟩, hS.F ht⟩) hS.2.2 dX2_change_74
      by_cases c_6 : q1 = 1
      · refine lv_tableIn (off := 33) (tgt := 52) hx hb dX2_change_19 (by rw [c_6]; decide +kernel) (by rw [c_6]; decide +kernel) (by rw [c_6]; decide +kernel) (by decide) ?_
        refine lv_aload_n hx hb dX2_change_52 rfl (lv_at hl 0 rfl) ?_
        refine lv_iload_n hx hb dX2_change_53 rfl (lv_at hl 2 rfl) ?_
        refine va_put (D := D) (ci := 2) (v := .int v1) (ty := .int) (C := RX2) (T := TX2) (N := 8) hx hb hts hwX2 tyX2 tyX2_ok nmX2 hown hK hP hD hS 0 rfl rfl 2 (by decide) (hts (.fieldLink RX2 18 "WaitOrWalkOn$Road" "pace" "I") (by decide +kernel)) (fun _ h9 => h9) rfl (by decide +kernel) rfl rfl (Nat.le_of_ble_eq_true rfl) dX2_change_54 (fun H locs hP hD hS => ?_)
        have hP : va_P D vwCl [(rd, .inr (2, [.int s0, .int ho, .int v1, .int si, .int li, .int lc, .ref r0, .ref r1]))] H := hP
        have hD : va_D A [(rd, .inr (2, [.int s0, .int ho, .int v1, .int si, .int li, .int lc, .ref r0, .ref r1]))] := hD
        refine lv_goto (tgt := 73) hx hb dX2_change_57 (by decide) ?_
        refine lv_iconst (v := 1) hx hb dX2_change_73 (by decide) ?_
        have hP9 := hP.sub (ws' := [(rd, .inr (2, [.int s0, .int ho, .int v1, .int si, .int li, .int lc, .ref r0, .ref r1]))]) [0] rfl
        have hD9 := hD.sub (ws' := [(rd, .inr (2, [.int s0, .int ho, .int v1, .int si, .int li, .int lc, .ref r0, .ref r1]))]) [0] (by decide) rfl
        have hE9 : ([(rd, .inr (2, [.int s0, .int ho, .int v1, .int si, .int li, .int lc, .ref r0, .ref r1]))] : va_W) = [(rd, .inr (2, [.int s0, .int (xCg q1 v1 0 ho), .int (xCg q1 v1 1 pa), .int (xCg q1 v1 2 si), .int (xCl q1 v1 li), .int lc, .ref r0, .ref r1]))] := by rw [xCg_ok c_2 (Int32.not_lt.mpr c_4), xCg_ok c_2 (Int32.not_lt.mpr c_4), xCg_ok c_2 (Int32.not_lt.mpr c_4), xCl_ok c_2 (Int32.not_lt.mpr c_4)]; simp [c_5, c_6]
        exact W.zret (v := 1) (ty := .boolean) hx hb hr (by decide +kernel) (fun t ht hW => ⟨⟨_, (), rfl, (sCh_ok c_2 (Int32.not_lt.mpr c_4)).symm, by rw [ht]; exact hE9 ▸ hP9, hE9 ▸ hD9⟩, hS.F ht⟩) hS.2.2 dX2_change_74
      by_cases c_7 : q1 = 2
      · refine lv_tableIn (off := 41) (tgt := 60) hx hb dX2_change_19 (by rw [c_7]; decide +kernel) (by rw [c_7]; decide +kernel) (by rw [c_7]; decide +kernel) (by decide) ?_
        refine lv_aload_n hx hb dX2_change_60 rfl (lv_at hl 0 rfl) ?_
        refine lv_iload_n hx hb dX2_change_61 rfl (lv_at hl 2 rfl) ?_
        refine va_put (D := D) (ci := 2) (v := .int v1) (ty := .int) (C := RX2) (T := TX2) (N := 8) hx hb hts hwX2 tyX2 tyX2_ok nmX2 hown hK hP hD hS 0 rfl rfl 3 (by decide) (hts (.fieldLink RX2 21 "WaitOrWalkOn$Road" "sight" "I") (by decide +kernel)) (fun _ h9 => h9) rfl (by decide +kernel) rfl rfl (Nat.le_of_ble_eq_true rfl) dX2_change_62 (fun H locs hP hD hS => ?_)
        have hP : va_P D vwCl [(rd, .inr (2, [.int s0, .int ho, .int pa, .int v1, .int li, .int lc, .ref r0, .ref r1]))] H := hP
        have hD : va_D A [(rd, .inr (2, [.int s0, .int ho, .int pa, .int v1, .int li, .int lc, .ref r0, .ref r1]))] := hD
        refine lv_goto (tgt := 73) hx hb dX2_change_65 (by decide) ?_
        refine lv_iconst (v := 1) hx hb dX2_change_73 (by decide) ?_
        have hP9 := hP.sub (ws' := [(rd, .inr (2, [.int s0, .int ho, .int pa, .int v1, .int li, .int lc, .ref r0, .ref r1]))]) [0] rfl
        have hD9 := hD.sub (ws' := [(rd, .inr (2, [.int s0, .int ho, .int pa, .int v1, .int li, .int lc, .ref r0, .ref r1]))]) [0] (by decide) rfl
        have hE9 : ([(rd, .inr (2, [.int s0, .int ho, .int pa, .int v1, .int li, .int lc, .ref r0, .ref r1]))] : va_W) = [(rd, .inr (2, [.int s0, .int (xCg q1 v1 0 ho), .int (xCg q1 v1 1 pa), .int (xCg q1 v1 2 si), .int (xCl q1 v1 li), .int lc, .ref r0, .ref r1]))] := by rw [xCg_ok c_2 (Int32.not_lt.mpr c_4), xCg_ok c_2 (Int32.not_lt.mpr c_4), xCg_ok c_2 (Int32.not_lt.mpr c_4), xCl_ok c_2 (Int32.not_lt.mpr c_4)]; simp [c_5, c_6, c_7]
        exact W.zret (v := 1) (ty := .boolean) hx hb hr (by decide +kernel) (fun t ht hW => ⟨⟨_, (), rfl, (sCh_ok c_2 (Int32.not_lt.mpr c_4)).symm, by rw [ht]; exact hE9 ▸ hP9, hE9 ▸ hD9⟩, hS.F ht⟩) hS.2.2 dX2_change_74
      refine lv_tableOut (tgt := 68) hx hb dX2_change_19 (by have q_5 : ¬ (q1).toInt = 0 := mt (xi_eq (q1) 0).mpr c_5; have q_6 : ¬ (q1).toInt = 1 := mt (xi_eq (q1) 1).mpr c_6; have q_7 : ¬ (q1).toInt = 2 := mt (xi_eq (q1) 2).mpr c_7; omega) (by decide) ?_
      refine lv_aload_n hx hb dX2_change_68 rfl (lv_at hl 0 rfl) ?_
      refine lv_iload_n hx hb dX2_change_69 rfl (lv_at hl 2 rfl) ?_
      refine va_put (D := D) (ci := 2) (v := .int v1) (ty := .int) (C := RX2) (T := TX2) (N := 8) hx hb hts hwX2 tyX2 tyX2_ok nmX2 hown hK hP hD hS 0 rfl rfl 4 (by decide) (hts (.fieldLink RX2 24 "WaitOrWalkOn$Road" "limit" "I") (by decide +kernel)) (fun _ h9 => h9) rfl (by decide +kernel) rfl rfl (Nat.le_of_ble_eq_true rfl) dX2_change_70 (fun H locs hP hD hS => ?_)
      have hP : va_P D vwCl [(rd, .inr (2, [.int s0, .int ho, .int pa, .int si, .int v1, .int lc, .ref r0, .ref r1]))] H := hP
      have hD : va_D A [(rd, .inr (2, [.int s0, .int ho, .int pa, .int si, .int v1, .int lc, .ref r0, .ref r1]))] := hD
      refine lv_iconst (v := 1) hx hb dX2_change_73 (by decide) ?_
      have hP9 := hP.sub (ws' := [(rd, .inr (2, [.int s0, .int ho, .int pa, .int si, .int v1, .int lc, .ref r0, .ref r1]))]) [0] rfl
      have hD9 := hD.sub (ws' := [(rd, .inr (2, [.int s0, .int ho, .int pa, .int si, .int v1, .int lc, .ref r0, .ref r1]))]) [0] (by decide) rfl
      have hE9 : ([(rd, .inr (2, [.int s0, .int ho, .int pa, .int si, .int v1, .int lc, .ref r0, .ref r1]))] : va_W) = [(rd, .inr (2, [.int s0, .int (xCg q1 v1 0 ho), .int (xCg q1 v1 1 pa), .int (xCg q1 v1 2 si), .int (xCl q1 v1 li), .int lc, .ref r0, .ref r1]))] := by rw [xCg_ok c_2 (Int32.not_lt.mpr c_4), xCg_ok c_2 (Int32.not_lt.mpr c_4), xCg_ok c_2 (Int32.not_lt.mpr c_4), xCl_ok c_2 (Int32.not_lt.mpr c_4)]; simp [c_5, c_6, c_7]
      exact W.zret (v := 1) (ty := .boolean) hx hb hr (by decide +kernel) (fun t ht hW => ⟨⟨_, (), rfl, (sCh_ok c_2 (Int32.not_lt.mpr c_4)).symm, by rw [ht]; exact hE9 ▸ hP9, hE9 ▸ hD9⟩, hS.F ht⟩) hS.2.2 dX2_change_74
    · refine lv_iconst (v := 0) hx hb dX2_change_16 (by decide) ?_
      have hP9 := hP.sub (ws' := [(rd, .inr (2, [.int s0, .int ho, .int pa, .int si, .int li, .int lc, .ref r0, .ref r1]))]) [0] rfl
      have hD9 := hD.sub (ws' := [(rd, .inr (2, [.int s0, .int ho, .int pa, .int si, .int li, .int lc, .ref r0, .ref r1]))]) [0] (by decide) rfl
      have hE9 : ([(rd, .inr (2, [.int s0, .int ho, .int pa, .int si, .int li, .int lc, .ref r0, .ref r1]))] : va_W) = [(rd, .inr (2, [.int s0, .int (xCg q1 v1 0 ho), .int (xCg q1 v1 1 pa), .int (xCg q1 v1 2 si), .int (xCl q1 v1 li), .int lc, .ref r0, .ref r1]))] := by simp [xCg, xCl, c_2, (Int32.not_le.mp c_4)]
      exact W.zret (v := 0) (ty := .boolean) hx hb hr (by decide +kernel) (fun t ht hW => ⟨⟨_, (), rfl, by simp [sCh, c_2, (Int32.not_le.mp c_4)], by rw [ht]; exact hE9 ▸ hP9, hE9 ▸ hD9⟩, hS.F ht⟩) hS.2.2 dX2_change_17

set_option maxHeartbeats 4000000 in
set_option maxRecDepth 100000 in
theorem g_X2_addStop (l : Launch) (D : va_G) (cI cL cZ cC : ClassId) (sz : Nat) (rd : Nat) (r0 : Nat) (r1 : Nat) (st : Nat) (ho : Int32) (pa : Int32) (si : Int32) (li : Int32) (lc : Int32) (lg : Nat → Int32) (v1 : Int32) (hs1 : 1 ≤ st) (hs7 : st ≤ 7) : Met l yX2_addStop wsX2_addStop ({ frames := 0, cells := 0, slots := 0, locals := 0 } : Room) (wPc D [.ref rd, .int v1] [(rd, .inr (2, [.int (nI st), .int ho, .int pa, .int si, .int li, .int lc, .ref r0, .ref r1])), (r0, .inl (cI, 7, .inl lg))] (xTy cI cL cZ cC) sz) (va_Qi (fun (r : Int32) (_ : Unit) => r = sAs st v1) (fun (_ : Unit) t => va_P D vwCl [(rd, .inr (2, [.int (nI (xAsN st v1)), .int ho, .int pa, .int si, .int li, .int lc, .ref r0, .ref r1])), (r0, .inl (cI, 7, .inl (xAsL st v1 lg)))] t.heap ∧ va_D (va_A [(rd, .inr (2, [.int (nI st), .int ho, .int pa, .int si, .int li, .int lc, .ref r0, .ref r1])), (r0, .inl (cI, 7, .inl lg))] sz) [(rd, .inr (2, [.int (nI (xAsN st v1)), .int ho, .int pa, .int si, .int li, .int lc, .ref r0, .ref r1])), (r0, .inl (cI, 7, .inl (xAsL st v1 lg)))]) (va_A [(rd, .inr (2, [.int (nI st), .int ho, .int pa, .int si, .int li, .int lc, .ref r0, .ref r1])), (r0, .inl (cI, 7, .inl lg))] sz)) 0 0 (va_A [(rd, .inr (2, [.int (nI st), .int ho, .int pa, .int si, .int li, .int lc, .ref r0, .ref r1])), (r0, .inl (cI, 7, .inl lg))] sz) := by
  refine Met.ofW (cc := cX2_addStop) (maxL := 2) (ret := (some .boolean)) (by decide) rfl ?_
  intro p e s m args below meth c s₁ B hml hv
  obtain ⟨rfl, hsz, hP, hK, hD0⟩ := hv
  have hx := B.exec
  have hb := B.bytes
  have hr := B.returns
  have hts := atoms_spec (ws := wsX2_addStop) B.pre
  have hown : s.vm.findClass RX2 = some m.cls := findClass_of_methodNamed B.named
  have hlocks := B.notSynchronized
  have hwX2 : ∀ w ∈ u_ws RX2 TX2 8, w ∈ wsX2_addStop := fun _ h => List.mem_cons_of_mem _ (List.mem_append_right _ h)
  subst hsz
  have hD := hD0.self (sz := s.heap.size)
  generalize hAe : va_A [(rd, .inr (2, [.int (nI st), .int ho, .int pa, .int si, .int li, .int lc, .ref r0, .ref r1])), (r0, .inl (cI, 7, .inl lg))] s.heap.size = A at hD ⊢
  have hA : ∀ q : Nat, s.heap.size ≤ q → A q := fun q h => by rw [← hAe]; exact Or.inr h
  have hS : va_S A s.heap s.heap [] := va_S.rf
  have hP : va_P D vwCl [(rd, .inr (2, [.int (nI st), .int ho, .int pa, .int si, .int li, .int lc, .ref r0, .ref r1])), (r0, .inl (cI, 7, .inl lg))] s.heap := hP
  have hl := lv_entry ([.ref rd, .int v1]) (n := 2) (Nat.le_of_ble_eq_true rfl)
  rw [lg_entry_eq]
  generalize (lg_sl ([.ref rd, .int v1]) ++ List.replicate (2 - (lg_sl ([.ref rd, .int v1])).length) Slot.unset).toArray = ls at hl ⊢
  have hl : lv_has ls 2 [(0, .ref rd), (1, .int v1)] := hl
  refine lv_iload_n hx hb dX2_addStop_0 rfl (lv_at hl 1 rfl) ?_
  refine lv_iconst (v := 1) hx hb dX2_addStop_1 (by decide) ?_
  refine lv_icmp_lt (tgt := 21) hx hb dX2_addStop_2 (by decide) (fun c_1 => ?_) (fun c_1 => ?_)
  · refine lv_iconst (v := 0) hx hb dX2_addStop_21 (by decide) ?_
    have hP9 := hP.sub (ws' := [(rd, .inr (2, [.int (nI st), .int ho, .int pa, .int si, .int li, .int lc, .ref r0, .ref r1])), (r0, .inl (cI, 7, .inl lg))]) [0, 1] rfl
    have hD9 := hD.sub (ws' := [(rd, .inr (2, [.int (nI st), .int ho, .int pa, .int si, .int li, .int lc, .ref r0, .ref r1])), (r0, .inl (cI, 7, .inl lg))]) [0, 1] (by decide) rfl
    have hE9 : ([(rd, .inr (2, [.int (nI st), .int ho, .int pa, .int si, .int li, .int lc, .ref r0, .ref r1])), (r0, .inl (cI, 7, .inl lg))] : va_W) = [(rd, .inr (2, [.int (nI (xAsN st v1)), .int ho, .int pa, .int si, .int li, .int lc, .ref r0, .ref r1])), (r0, .inl (cI, 7, .inl (xAsL st v1 lg)))] := by simp [xAsN, xAsL, c_1]
    exact W.zret (v := 0) (ty := .boolean) hx hb hr (by decide +kernel) (fun t ht hW => ⟨⟨_, (), rfl, by simp [sAs, c_1], by rw [ht]; exact hE9 ▸ hP9, hE9 ▸ hD9⟩, hS.F ht⟩) hS.2.2 dX2_addStop_22
  · refine lv_iload_n hx hb dX2_addStop_5 rfl (lv_at hl 1 rfl) ?_
    refine lv_sipush (v := 999) hx hb dX2_addStop_6 (by decide) ?_
    refine lv_icmp_gt (tgt := 21) hx hb dX2_addStop_9 (by decide) (fun c_2 => ?_) (fun c_2 => ?_)
    · refine lv_iconst (v := 0) hx hb dX2_addStop_21 (by decide) ?_
      have hP9 := hP.sub (ws' := [(rd, .inr (2, [.int (nI st), .int ho, .int pa, .int si, .int li, .int lc, .ref r0, .ref r1])), (r0, .inl (cI, 7, .inl lg))]) [0, 1] rfl
      have hD9 := hD.sub (ws' := [(rd, .inr (2, [.int (nI st), .int ho, .int pa, .int si, .int li, .int lc, .ref r0, .ref r1])), (r0, .inl (cI, 7, .inl lg))]) [0, 1] (by decide) rfl
      have hE9 : ([(rd, .inr (2, [.int (nI st), .int ho, .int pa, .int si, .int li, .int lc, .ref r0, .ref r1])), (r0, .inl (cI, 7, .inl lg))] : va_W) = [(rd, .inr (2, [.int (nI (xAsN st v1)), .int ho, .int pa, .int si, .int li, .int lc, .ref r0, .ref r1])), (r0, .inl (cI, 7, .inl (xAsL st v1 lg)))] := by simp [xAsN, xAsL, c_1, c_2]
      exact W.zret (v := 0) (ty := .boolean) hx hb hr (by decide +kernel) (fun t ht hW => ⟨⟨_, (), rfl, by simp [sAs, c_1, c_2], by rw [ht]; exact hE9 ▸ hP9, hE9 ▸ hD9⟩, hS.F ht⟩) hS.2.2 dX2_addStop_22
    · refine lv_aload_n hx hb dX2_addStop_12 rfl (lv_at hl 0 rfl) ?_
      refine va_get (D := D) (ci := 2) (v := .int (nI st)) (C := RX2) (T := TX2) (N := 8) hx hb hts hwX2 hown hK hP 0 rfl rfl 0 (by decide) (hts (.fieldLink RX2 9 "WaitOrWalkOn$Road" "stops" "I") (by decide +kernel)) (fun _ h9 => h9) rfl dX2_addStop_13 ?_
      refine lv_bipush (v := 7) hx hb dX2_addStop_16 (by decide) ?_
      refine lv_icmp_lt (tgt := 23) hx hb dX2_addStop_18 (by decide) (fun c_3 => ?_) (fun c_3 => ?_)
      · refine lv_aload_n hx hb dX2_addStop_23 rfl (lv_at hl 0 rfl) ?_
        refine va_get (D := D) (ci := 2) (v := .ref r0) (C := RX2) (T := TX2) (N := 8) hx hb hts hwX2 hown hK hP 0 rfl rfl 6 (by decide) (hts (.fieldLink RX2 30 "WaitOrWalkOn$Road" "legs" "[I") (by decide +kernel)) (fun _ h9 => h9) rfl dX2_addStop_24 ?_
        refine lv_aload_n hx hb dX2_addStop_27 rfl (lv_at hl 0 rfl) ?_
        refine va_get (D := D) (ci := 2) (v := .int (nI st)) (C := RX2) (T := TX2) (N := 8) hx hb hts hwX2 hown hK hP 0 rfl rfl 0 (by decide) (hts (.fieldLink RX2 9 "WaitOrWalkOn$Road" "stops" "I") (by decide +kernel)) (fun _ h9 => h9) rfl dX2_addStop_28 ?_
        refine lv_iload_n hx hb dX2_addStop_31 rfl (lv_at hl 1 rfl) ?_
        refine va_iast (D := D) hx hb hK hP hD hS 1 0 rfl rfl (vp_in_nI (by have w := (nI_ltI (a := st) (b := 7) (by omega) (by omega)).mp c_3; omega) (by decide)) dX2_addStop_32 (fun H locs hP hD hS => ?_)
        rw [nI_clamp (by omega)] at hP hD
        have hP : va_P D vwCl [(rd, .inr (2, [.int (nI st), .int ho, .int pa, .int si, .int li, .int lc, .ref r0, .ref r1])), (r0, .inl (cI, 7, .inl (upd lg st v1)))] H := hP
        have hD : va_D A [(rd, .inr (2, [.int (nI st), .int ho, .int pa, .int si, .int li, .int lc, .ref r0, .ref r1])), (r0, .inl (cI, 7, .inl (upd lg st v1)))] := hD
        refine lv_aload_n hx hb dX2_addStop_33 rfl (lv_at hl 0 rfl) ?_
        refine lv_dup hx hb dX2_addStop_34 rfl ?_
        refine va_get (D := D) (ci := 2) (v := .int (nI st)) (C := RX2) (T := TX2) (N := 8) hx hb hts hwX2 hown hK hP 0 rfl rfl 0 (by decide) (hts (.fieldLink RX2 9 "WaitOrWalkOn$Road" "stops" "I") (by decide +kernel)) (fun _ h9 => h9) rfl dX2_addStop_35 ?_
        refine lv_iconst (v := 1) hx hb dX2_addStop_38 (by decide) ?_
        refine lv_iadd hx hb dX2_addStop_39 ?_
        refine xv_int (y := nI (st + 1)) (nI_1 st) ?_
        refine va_put (D := D) (ci := 2) (v := .int (nI (st + 1))) (ty := .int) (C := RX2) (T := TX2) (N := 8) hx hb hts hwX2 tyX2 tyX2_ok nmX2 hown hK hP hD hS 0 rfl rfl 0 (by decide) (hts (.fieldLink RX2 9 "WaitOrWalkOn$Road" "stops" "I") (by decide +kernel)) (fun _ h9 => h9) rfl (by decide +kernel) rfl rfl (Nat.le_of_ble_eq_true rfl) dX2_addStop_40 (fun H locs hP hD hS => ?_)
        have hP : va_P D vwCl [(rd, .inr (2, [.int (nI (st + 1)), .int ho, .int pa, .int si, .int li, .int lc, .ref r0, .ref r1])), (r0, .inl (cI, 7, .inl (upd lg st v1)))] H := hP
        have hD : va_D A [(rd, .inr (2, [.int (nI (st + 1)), .int ho, .int pa, .int si, .int li, .int lc, .ref r0, .ref r1])), (r0, .inl (cI, 7, .inl (upd lg st v1)))] := hD
        refine lv_iconst (v := 1) hx hb dX2_addStop_43 (by decide) ?_
        have hP9 := hP.sub (ws' := [(rd, .inr (2, [.int (nI (st + 1)), .int ho, .int pa, .int si, .int li, .int lc, .ref r0, .ref r1])), (r0, .inl (cI, 7, .inl (upd lg st v1)))]) [0, 1] rfl
        have hD9 := hD.sub (ws' := [(rd, .inr (2, [.int (nI (st + 1)), .int ho, .int pa, .int si, .int li, .int lc, .ref r0, .ref r1])), (r0, .inl (cI, 7, .inl (upd lg st v1)))]) [0, 1] (by decide) rfl
        have hE9 : ([(rd, .inr (2, [.int (nI (st + 1)), .int ho, .int pa, .int si, .int li, .int lc, .ref r0, .ref r1])), (r0, .inl (cI, 7, .inl (upd lg st v1)))] : va_W) = [(rd, .inr (2, [.int (nI (xAsN st v1)), .int ho, .int pa, .int si, .int li, .int lc, .ref r0, .ref r1])), (r0, .inl (cI, 7, .inl (xAsL st v1 lg)))] := by simp [xAsN, xAsL, c_1, c_2, (nI_ltI (a := st) (b := 7) (by omega) (by omega)).mp c_3]
        exact W.zret (v := 1) (ty := .boolean) hx hb hr (by decide +kernel) (fun t ht hW => ⟨⟨_, (), rfl, by simp [sAs, c_1, c_2, (nI_ltI (a := st) (b := 7) (by omega) (by omega)).mp c_3], by rw [ht]; exact hE9 ▸ hP9, hE9 ▸ hD9⟩, hS.F ht⟩) hS.2.2 dX2_addStop_44
      · refine lv_iconst (v := 0) hx hb dX2_addStop_21 (by decide) ?_
        have hP9 := hP.sub (ws' := [(rd, .inr (2, [.int (nI st), .int ho, .int pa, .int si, .int li, .int lc, .ref r0, .ref r1])), (r0, .inl (cI, 7, .inl lg))]) [0, 1] rfl
        have hD9 := hD.sub (ws' := [(rd, .inr (2, [.int (nI st), .int ho, .int pa, .int si, .int li, .int lc, .ref r0, .ref r1])), (r0, .inl (cI, 7, .inl lg))]) [0, 1] (by decide) rfl
        have hE9 : ([(rd, .inr (2, [.int (nI st), .int ho, .int pa, .int si, .int li, .int lc, .ref r0, .ref r1])), (r0, .inl (cI, 7, .inl lg))] : va_W) = [(rd, .inr (2, [.int (nI (xAsN st v1)), .int ho, .int pa, .int si, .int li, .int lc, .ref r0, .ref r1])), (r0, .inl (cI, 7, .inl (xAsL st v1 lg)))] := by simp [xAsN, xAsL, c_1, c_2, mt (nI_ltI (a := st) (b := 7) (by omega) (by omega)).mpr c_3]
        exact W.zret (v := 0) (ty := .boolean) hx hb hr (by decide +kernel) (fun t ht hW => ⟨⟨_, (), rfl, by simp [sAs, c_1, c_2, mt (nI_ltI (a := st) (b := 7) (by omega) (by omega)).mpr c_3], by rw [ht]; exact hE9 ▸ hP9, hE9 ▸ hD9⟩, hS.F ht⟩) hS.2.2 dX2_addStop_22

set_option maxHeartbeats 4000000 in
set_option maxRecDepth 100000 in
theorem g_X4_refuse (l : Launch) (D : va_G) (cI cL cZ cC : ClassId) (sz : Nat) (h0 : Nat) (rd : Nat) (dr : Nat) (kp : Nat) (pl : Nat) (tx : Nat) (nu : Nat) (rf_a : Nat) (nc : Int32) (hi : Int32) (pd : Int32) (rf : Nat → Int32) (q1 : Int32) (h1 : 0 < -q1) (h2 : -q1 < 7) : Met l yX4_refuse wsX4_refuse ({ frames := 0, cells := 0, slots := 0, locals := 0 } : Room) (wPc D [.ref h0, .int q1] [(h0, .inr (4, [.ref rd, .ref dr, .ref kp, .ref pl, .ref tx, .ref nu, .ref rf_a, .int nc, .int hi, .int pd])), (rf_a, .inl (cI, 7, .inl rf))] (xTy cI cL cZ cC) sz) (va_Qi (fun (r : Int32) (_ : Unit) => r = q1) (fun (_ : Unit) t => va_P D vwCl [(h0, .inr (4, [.ref rd, .ref dr, .ref kp, .ref pl, .ref tx, .ref nu, .ref rf_a, .int nc, .int hi, .int pd])), (rf_a, .inl (cI, 7, .inl (xRf rf q1)))] t.heap ∧ va_D (va_A [(h0, .inr (4, [.ref rd, .ref dr, .ref kp, .ref pl, .ref tx, .ref nu, .ref rf_a, .int nc, .int hi, .int pd])), (rf_a, .inl (cI, 7, .inl rf))] sz) [(h0, .inr (4, [.ref rd, .ref dr, .ref kp, .ref pl, .ref tx, .ref nu, .ref rf_a, .int nc, .int hi, .int pd])), (rf_a, .inl (cI, 7, .inl (xRf rf q1)))]) (va_A [(h0, .inr (4, [.ref rd, .ref dr, .ref kp, .ref pl, .ref tx, .ref nu, .ref rf_a, .int nc, .int hi, .int pd])), (rf_a, .inl (cI, 7, .inl rf))] sz)) 0 0 (va_A [(h0, .inr (4, [.ref rd, .ref dr, .ref kp, .ref pl, .ref tx, .ref nu, .ref rf_a, .int nc, .int hi, .int pd])), (rf_a, .inl (cI, 7, .inl rf))] sz) := by
  refine Met.ofW (cc := cX4_refuse) (maxL := 3) (ret := (some .int)) (by decide) rfl ?_
  intro p e s m args below meth c s₁ B hml hv
  obtain ⟨rfl, hsz, hP, hK, hD0⟩ := hv
  have hx := B.exec
  have hb := B.bytes
  have hr := B.returns
  have hts := atoms_spec (ws := wsX4_refuse) B.pre
  have hown : s.vm.findClass RX4 = some m.cls := findClass_of_methodNamed B.named
  have hlocks := B.notSynchronized
  have hwX4 : ∀ w ∈ u_ws RX4 TX4 10, w ∈ wsX4_refuse := fun _ h => List.mem_cons_of_mem _ (List.mem_append_right _ h)
  subst hsz
  have hD := hD0.self (sz := s.heap.size)
  generalize hAe : va_A [(h0, .inr (4, [.ref rd, .ref dr, .ref kp, .ref pl, .ref tx, .ref nu, .ref rf_a, .int nc, .int hi, .int pd])), (rf_a, .inl (cI, 7, .inl rf))] s.heap.size = A at hD ⊢
  have hA : ∀ q : Nat, s.heap.size ≤ q → A q := fun q h => by rw [← hAe]; exact Or.inr h
  have hS : va_S A s.heap s.heap [] := va_S.rf
  have hP : va_P D vwCl [(h0, .inr (4, [.ref rd, .ref dr, .ref kp, .ref pl, .ref tx, .ref nu, .ref rf_a, .int nc, .int hi, .int pd])), (rf_a, .inl (cI, 7, .inl rf))] s.heap := hP
  have hl := lv_entry ([.ref h0, .int q1]) (n := 3) (Nat.le_of_ble_eq_true rfl)
  rw [lg_entry_eq]
  generalize (lg_sl ([.ref h0, .int q1]) ++ List.replicate (3 - (lg_sl ([.ref h0, .int q1])).length) Slot.unset).toArray = ls at hl ⊢
  have hl : lv_has ls 3 [(0, .ref h0), (1, .int q1)] := hl
  refine lv_iload_n hx hb dX4_refuse_0 rfl (lv_at hl 1 rfl) ?_
  refine lv_ineg hx hb dX4_refuse_1 ?_
  refine lv_istore_n (lv' := [(2, .int (-q1)), (0, .ref h0), (1, .int q1)]) hx hb dX4_refuse_2 rfl hl (by decide) rfl (fun ls hl => ?_)
  refine lv_iload_n hx hb dX4_refuse_3 rfl (lv_at hl 0 rfl) ?_
  refine lv_if_le (tgt := 26) hx hb dX4_refuse_4 (by decide) (fun c_1 => absurd h1 (Int32.not_lt.mpr c_1)) (fun c_1 => ?_)
  refine lv_iload_n hx hb dX4_refuse_7 rfl (lv_at hl 0 rfl) ?_
  refine lv_aload_n hx hb dX4_refuse_8 rfl (lv_at hl 1 rfl) ?_
  refine va_get (D := D) (ci := 4) (v := .ref rf_a) (C := RX4) (T := TX4) (N := 10) hx hb hts hwX4 hown hK hP 0 rfl rfl 6 (by decide) (hts (.fieldLink RX4 40 "WaitOrWalkOn" "refusals" "[I") (by decide +kernel)) (fun _ h9 => h9) rfl dX4_refuse_9 ?_
  refine va_alen (D := D) hx hb hK hP 1 0 rfl rfl (v := 7) rfl dX4_refuse_12 ?_
  refine lv_icmp_ge (tgt := 26) hx hb dX4_refuse_13 (by decide) (fun c_2 => absurd h2 (Int32.not_lt.mpr c_2)) (fun c_2 => ?_)
  refine lv_aload_n hx hb dX4_refuse_16 rfl (lv_at hl 1 rfl) ?_
  refine va_get (D := D) (ci := 4) (v := .ref rf_a) (C := RX4) (T := TX4) (N := 10) hx hb hts hwX4 hown hK hP 0 rfl rfl 6 (by decide) (hts (.fieldLink RX4 40 "WaitOrWalkOn" "refusals" "[I") (by decide +kernel)) (fun _ h9 => h9) rfl dX4_refuse_17 ?_
  refine lv_iload_n hx hb dX4_refuse_20 rfl (lv_at hl 0 rfl) ?_
  refine lv_dup2_11 hx hb dX4_refuse_21 rfl rfl ?_
  refine va_iald (D := D) hx hb hK hP 1 0 rfl rfl (by rw [vp_in_iff]; rw [xi_lt] at h1 h2; have e1 : ((0 : Int32)).toInt = 0 := rfl; have e2 : ((7 : Int32)).toInt = 7 := rfl; omega) dX4_refuse_22 ?_
  refine lv_iconst (v := 1) hx hb dX4_refuse_23 (by decide) ?_
  refine lv_iadd hx hb dX4_refuse_24 ?_
  refine va_iast (D := D) hx hb hK hP hD hS 1 0 rfl rfl (by rw [vp_in_iff]; rw [xi_lt] at h1 h2; have e1 : ((0 : Int32)).toInt = 0 := rfl; have e2 : ((7 : Int32)).toInt = 7 := rfl; omega) dX4_refuse_25 (fun H locs hP hD hS => ?_)
  have hP : va_P D vwCl [(h0, .inr (4, [.ref rd, .ref dr, .ref kp, .ref pl, .ref tx, .ref nu, .ref rf_a, .int nc, .int hi, .int pd])), (rf_a, .inl (cI, 7, .inl (upd rf ((-q1).toNatClampNeg) ((rf (-q1).toNatClampNeg) + 1))))] H := hP
  have hD : va_D A [(h0, .inr (4, [.ref rd, .ref dr, .ref kp, .ref pl, .ref tx, .ref nu, .ref rf_a, .int nc, .int hi, .int pd])), (rf_a, .inl (cI, 7, .inl (upd rf ((-q1).toNatClampNeg) ((rf (-q1).toNatClampNeg) + 1))))] := hD
  refine lv_iload_n hx hb dX4_refuse_26 rfl (lv_at hl 2 rfl) ?_
  have hP9 := hP.sub (ws' := [(h0, .inr (4, [.ref rd, .ref dr, .ref kp, .ref pl, .ref tx, .ref nu, .ref rf_a, .int nc, .int hi, .int pd])), (rf_a, .inl (cI, 7, .inl (upd rf ((-q1).toNatClampNeg) ((rf (-q1).toNatClampNeg) + 1))))]) [0, 1] rfl
  have hD9 := hD.sub (ws' := [(h0, .inr (4, [.ref rd, .ref dr, .ref kp, .ref pl, .ref tx, .ref nu, .ref rf_a, .int nc, .int hi, .int pd])), (rf_a, .inl (cI, 7, .inl (upd rf ((-q1).toNatClampNeg) ((rf (-q1).toNatClampNeg) + 1))))]) [0, 1] (by decide) rfl
  exact W.iret (v := q1) hx hb hr (fun t ht hW => ⟨⟨_, (), rfl, rfl, by rw [ht]; exact hP9, hD9⟩, hS.F ht⟩) hS.2.2 dX4_refuse_27

set_option maxHeartbeats 4000000 in
set_option maxRecDepth 100000 in
theorem g_X4_refuseLong (l : Launch) (D : va_G) (cI cL cZ cC : ClassId) (sz : Nat) (h0 : Nat) (rd : Nat) (dr : Nat) (kp : Nat) (pl : Nat) (tx : Nat) (nu : Nat) (rf_a : Nat) (nc : Int32) (hi : Int32) (pd : Int32) (rf : Nat → Int32) (q1 : Int32) (h1 : 0 < -q1) (h2 : -q1 < 7) : Met l yX4_refuseLong wsX4_refuseLong ({ frames := 1, cells := 0, slots := 0, locals := 22 } : Room) (wPc D [.ref h0, .int q1] [(h0, .inr (4, [.ref rd, .ref dr, .ref kp, .ref pl, .ref tx, .ref nu, .ref rf_a, .int nc, .int hi, .int pd])), (rf_a, .inl (cI, 7, .inl rf))] (xTy cI cL cZ cC) sz) (va_Ql (fun (r : Int64) (_ : Unit) => r = xLg q1) (fun (_ : Unit) t => va_P D vwCl [(h0, .inr (4, [.ref rd, .ref dr, .ref kp, .ref pl, .ref tx, .ref nu, .ref rf_a, .int nc, .int hi, .int pd])), (rf_a, .inl (cI, 7, .inl (xRf rf q1)))] t.heap ∧ va_D (va_A [(h0, .inr (4, [.ref rd, .ref dr, .ref kp, .ref pl, .ref tx, .ref nu, .ref rf_a, .int nc, .int hi, .int pd])), (rf_a, .inl (cI, 7, .inl rf))] sz) [(h0, .inr (4, [.ref rd, .ref dr, .ref kp, .ref pl, .ref tx, .ref nu, .ref rf_a, .int nc, .int hi, .int pd])), (rf_a, .inl (cI, 7, .inl (xRf rf q1)))]) (va_A [(h0, .inr (4, [.ref rd, .ref dr, .ref kp, .ref pl, .ref tx, .ref nu, .ref rf_a, .int nc, .int hi, .int pd])), (rf_a, .inl (cI, 7, .inl rf))] sz)) 0 0 (va_A [(h0, .inr (4, [.ref rd, .ref dr, .ref kp, .ref pl, .ref tx, .ref nu, .ref rf_a, .int nc, .int hi, .int pd])), (rf_a, .inl (cI, 7, .inl rf))] sz) := by
  refine Met.ofW (cc := cX4_refuseLong) (maxL := 2) (ret := (some .long)) (by decide) rfl ?_
  intro p e s m args below meth c s₁ B hml hv
  obtain ⟨rfl, hsz, hP, hK, hD0⟩ := hv
  have hx := B.exec
  have hb := B.bytes
  have hr := B.returns
  have hts := atoms_spec (ws := wsX4_refuseLong) B.pre
  have hown : s.vm.findClass RX4 = some m.cls := findClass_of_methodNamed B.named
  have hlocks := B.notSynchronized
  subst hsz
  have hD := hD0.self (sz := s.heap.size)
  generalize hAe : va_A [(h0, .inr (4, [.ref rd, .ref dr, .ref kp, .ref pl, .ref tx, .ref nu, .ref rf_a, .int nc, .int hi, .int pd])), (rf_a, .inl (cI, 7, .inl rf))] s.heap.size = A at hD ⊢
  have hA : ∀ q : Nat, s.heap.size ≤ q → A q := fun q h => by rw [← hAe]; exact Or.inr h
  have hS : va_S A s.heap s.heap [] := va_S.rf
  have hP : va_P D vwCl [(h0, .inr (4, [.ref rd, .ref dr, .ref kp, .ref pl, .ref tx, .ref nu, .ref rf_a, .int nc, .int hi, .int pd])), (rf_a, .inl (cI, 7, .inl rf))] s.heap := hP
  have hl := lv_entry ([.ref h0, .int q1]) (n := 2) (Nat.le_of_ble_eq_true rfl)
  rw [lg_entry_eq]
  generalize (lg_sl ([.ref h0, .int q1]) ++ List.replicate (2 - (lg_sl ([.ref h0, .int q1])).length) Slot.unset).toArray = ls at hl ⊢
  have hl : lv_has ls 2 [(0, .ref h0), (1, .int q1)] := hl
  refine lv_ldc2 hx hb hown (hts (.constantLong RX4 237 (4000000000000000000)) (by decide +kernel)) dX4_refuseLong_0 ?_
  refine lv_aload_n hx hb dX4_refuseLong_3 rfl (lv_at hl 0 rfl) ?_
  refine lv_iload_n hx hb dX4_refuseLong_4 rfl (lv_at hl 1 rfl) ?_
  have hPc := hP.sub (ws' := [(h0, .inr (4, [.ref rd, .ref dr, .ref kp, .ref pl, .ref tx, .ref nu, .ref rf_a, .int nc, .int hi, .int pd])), (rf_a, .inl (cI, 7, .inl rf))]) [0, 1] rfl
  have hDc := hD.sub (ws' := [(h0, .inr (4, [.ref rd, .ref dr, .ref kp, .ref pl, .ref tx, .ref nu, .ref rf_a, .int nc, .int hi, .int pd])), (rf_a, .inl (cI, 7, .inl rf))]) [0, 1] (by decide) rfl
  have hFc := va_free (wc := [(h0, .inr (4, [.ref rd, .ref dr, .ref kp, .ref pl, .ref tx, .ref nu, .ref rf_a, .int nc, .int hi, .int pd])), (rf_a, .inl (cI, 7, .inl rf))]) hD hS hA [0, 1] rfl
  refine va_calli (va_runV (As := [.int q1]) (rest := [.long 4000000000000000000]) ⟨hx, hb, hml, hown, hts⟩ (g_X4_refuse l D cI cL cZ cC _ h0 rd dr kp pl tx nu rf_a nc hi pd rf q1 (by first | assumption | decide +kernel) (by first | assumption | decide +kernel)) (cwV 1 hts gX4_refuseLong_X4_refuse rfl rfl rfl (by decide +kernel) ⟨Nat.le_of_ble_eq_true rfl, Nat.le_of_ble_eq_true rfl⟩) ⟨wPc_bl, va_recv hK hPc (ci := 4) (q0 := 0) rfl rfl, wPc_use hPc hK hDc⟩ rfl rfl hl.1 rfl (lv_room (Nat.le_of_ble_eq_true rfl)) dX4_refuseLong_5 ⟨Nat.le_of_ble_eq_true rfl, Nat.le_of_ble_eq_true rfl⟩) hS (fun q _ h => hFc q h) hFc (fun r_1 u_1 t H1 locs ht hvm hw hB hz1 hk1 hS => ?_)
  obtain ⟨hP1, hD1⟩ := hB
  rw [ht] at hP1
  obtain ⟨hP, hD⟩ := va_join (wr := []) (w1 := [(h0, .inr (4, [.ref rd, .ref dr, .ref kp, .ref pl, .ref tx, .ref nu, .ref rf_a, .int nc, .int hi, .int pd])), (rf_a, .inl (cI, 7, .inl (xRf rf q1)))]) hP hD [0, 1] [] rfl rfl (by decide) (by decide) hk1 hFc hP1 hD1
  generalize H1 = H at hP hS ⊢
  have hP : va_P D vwCl [(h0, .inr (4, [.ref rd, .ref dr, .ref kp, .ref pl, .ref tx, .ref nu, .ref rf_a, .int nc, .int hi, .int pd])), (rf_a, .inl (cI, 7, .inl (xRf rf q1)))] H := hP
  have hD : va_D A [(h0, .inr (4, [.ref rd, .ref dr, .ref kp, .ref pl, .ref tx, .ref nu, .ref rf_a, .int nc, .int hi, .int pd])), (rf_a, .inl (cI, 7, .inl (xRf rf q1)))] := hD
  obtain rfl : (q1 : Int32) = r_1 := Eq.symm hw
  refine lv_i2l (v := q1.toInt64) hx hb dX4_refuseLong_8 rfl ?_
  refine lv_lsub hx hb dX4_refuseLong_9 ?_
  have hP9 := hP.sub (ws' := [(h0, .inr (4, [.ref rd, .ref dr, .ref kp, .ref pl, .ref tx, .ref nu, .ref rf_a, .int nc, .int hi, .int pd])), (rf_a, .inl (cI, 7, .inl (xRf rf q1)))]) [0, 1] rfl
  have hD9 := hD.sub (ws' := [(h0, .inr (4, [.ref rd, .ref dr, .ref kp, .ref pl, .ref tx, .ref nu, .ref rf_a, .int nc, .int hi, .int pd])), (rf_a, .inl (cI, 7, .inl (xRf rf q1)))]) [0, 1] (by decide) rfl
  exact W.lret (v := 4000000000000000000 - q1.toInt64) hx hb hr (fun t ht hW => ⟨⟨_, (), rfl, rfl, by rw [ht]; exact hP9, hD9⟩, hS.F ht⟩) hS.2.2 dX4_refuseLong_10

set_option maxHeartbeats 4000000 in
set_option maxRecDepth 100000 in
theorem g_X5_no (l : Launch) (D : va_G) (cI cL cZ cC : ClassId) (sz : Nat) (g0 : Nat) (ra : Nat) (wa : Nat) (ta : Nat) (ma : Nat) (pa : Nat) (ba : Nat) (ka : Nat) (fa : Nat) (qa : Nat) (ea : Nat) (za : Nat) (ya : Nat) (kpt : Int32) (mkd : Int32) (tpd : Int32) (at0 : Int32) (wel : Int32) (srt : Int32) (wks : Int32) (rf : Nat → Int32) (q1 : Int32) (h1 : 0 < -q1) (h2 : -q1 < 7) : Met l yX5_no wsX5_no ({ frames := 0, cells := 0, slots := 0, locals := 0 } : Room) (wPc D [.ref g0, .int q1] [(g0, .inr (5, [.ref ra, .ref wa, .ref ta, .int kpt, .ref ma, .int mkd, .ref pa, .int tpd, .int at0, .int wel, .ref ba, .ref ka, .int srt, .ref fa, .ref qa, .ref ea, .ref za, .ref ya, .int wks])), (ra, .inl (cI, 7, .inl rf))] (xTy cI cL cZ cC) sz) (va_Qi (fun (r : Int32) (_ : Unit) => r = q1) (fun (_ : Unit) t => va_P D vwCl [(g0, .inr (5, [.ref ra, .ref wa, .ref ta, .int kpt, .ref ma, .int mkd, .ref pa, .int tpd, .int at0, .int wel, .ref ba, .ref ka, .int srt, .ref fa, .ref qa, .ref ea, .ref za, .ref ya, .int wks])), (ra, .inl (cI, 7, .inl (xRf rf q1)))] t.heap ∧ va_D (va_A [(g0, .inr (5, [.ref ra, .ref wa, .ref ta, .int kpt, .ref ma, .int mkd, .ref pa, .int tpd, .int at0, .int wel, .ref ba, .ref ka, .int srt, .ref fa, .ref qa, .ref ea, .ref za, .ref ya, .int wks])), (ra, .inl (cI, 7, .inl rf))] sz) [(g0, .inr (5, [.ref ra, .ref wa, .ref ta, .int kpt, .ref ma, .int mkd, .ref pa, .int tpd, .int at0, .int wel, .ref ba, .ref ka, .int srt, .ref fa, .ref qa, .ref ea, .ref za, .ref ya, .int wks])), (ra, .inl (cI, 7, .inl (xRf rf q1)))]) (va_A [(g0, .inr (5, [.ref ra, .ref wa, .ref ta, .int kpt, .ref ma, .int mkd, .ref pa, .int tpd, .int at0, .int wel, .ref ba, .ref ka, .int srt, .ref fa, .ref qa, .ref ea, .ref za, .ref ya, .int wks])), (ra, .inl (cI, 7, .inl rf))] sz)) 0 0 (va_A [(g0, .inr (5, [.ref ra, .ref wa, .ref ta, .int kpt, .ref ma, .int mkd, .ref pa, .int tpd, .int at0, .int wel, .ref ba, .ref ka, .int srt, .ref fa, .ref qa, .ref ea, .ref za, .ref ya, .int wks])), (ra, .inl (cI, 7, .inl rf))] sz) := by
  refine Met.ofW (cc := cX5_no) (maxL := 2) (ret := (some .int)) (by decide) rfl ?_
  intro p e s m args below meth c s₁ B hml hv
  obtain ⟨rfl, hsz, hP, hK, hD0⟩ := hv
  have hx := B.exec
  have hb := B.bytes
  have hr := B.returns
  have hts := atoms_spec (ws := wsX5_no) B.pre
  have hown : s.vm.findClass RX5 = some m.cls := findClass_of_methodNamed B.named
  have hlocks := B.notSynchronized
  have hwX5 : ∀ w ∈ u_ws RX5 TX5 19, w ∈ wsX5_no := fun _ h => List.mem_cons_of_mem _ (List.mem_append_right _ h)
  subst hsz
  have hD := hD0.self (sz := s.heap.size)
  generalize hAe : va_A [(g0, .inr (5, [.ref ra, .ref wa, .ref ta, .int kpt, .ref ma, .int mkd, .ref pa, .int tpd, .int at0, .int wel, .ref ba, .ref ka, .int srt, .ref fa, .ref qa, .ref ea, .ref za, .ref ya, .int wks])), (ra, .inl (cI, 7, .inl rf))] s.heap.size = A at hD ⊢
  have hA : ∀ q : Nat, s.heap.size ≤ q → A q := fun q h => by rw [← hAe]; exact Or.inr h
  have hS : va_S A s.heap s.heap [] := va_S.rf
  have hP : va_P D vwCl [(g0, .inr (5, [.ref ra, .ref wa, .ref ta, .int kpt, .ref ma, .int mkd, .ref pa, .int tpd, .int at0, .int wel, .ref ba, .ref ka, .int srt, .ref fa, .ref qa, .ref ea, .ref za, .ref ya, .int wks])), (ra, .inl (cI, 7, .inl rf))] s.heap := hP
  have hl := lv_entry ([.ref g0, .int q1]) (n := 2) (Nat.le_of_ble_eq_true rfl)
  rw [lg_entry_eq]
  generalize (lg_sl ([.ref g0, .int q1]) ++ List.replicate (2 - (lg_sl ([.ref g0, .int q1])).length) Slot.unset).toArray = ls at hl ⊢
  have hl : lv_has ls 2 [(0, .ref g0), (1, .int q1)] := hl
  refine lv_aload_n hx hb dX5_no_0 rfl (lv_at hl 0 rfl) ?_
  refine va_get (D := D) (ci := 5) (v := .ref ra) (C := RX5) (T := TX5) (N := 19) hx hb hts hwX5 hown hK hP 0 rfl rfl 0 (by decide) (hts (.fieldLink RX5 1 "WaitOrWalkOnModel" "refused" "[I") (by decide +kernel)) (fun _ h9 => h9) rfl dX5_no_1 ?_
  refine lv_iload_n hx hb dX5_no_4 rfl (lv_at hl 1 rfl) ?_
  refine lv_ineg hx hb dX5_no_5 ?_
  refine lv_dup2_11 hx hb dX5_no_6 rfl rfl ?_
  refine va_iald (D := D) hx hb hK hP 1 0 rfl rfl (by rw [vp_in_iff]; rw [xi_lt] at h1 h2; have e1 : ((0 : Int32)).toInt = 0 := rfl; have e2 : ((7 : Int32)).toInt = 7 := rfl; omega) dX5_no_7 ?_
  refine lv_iconst (v := 1) hx hb dX5_no_8 (by decide) ?_
  refine lv_iadd hx hb dX5_no_9 ?_
  refine va_iast (D := D) hx hb hK hP hD hS 1 0 rfl rfl (by rw [vp_in_iff]; rw [xi_lt] at h1 h2; have e1 : ((0 : Int32)).toInt = 0 := rfl; have e2 : ((7 : Int32)).toInt = 7 := rfl; omega) dX5_no_10 (fun H locs hP hD hS => ?_)
  have hP : va_P D vwCl [(g0, .inr (5, [.ref ra, .ref wa, .ref ta, .int kpt, .ref ma, .int mkd, .ref pa, .int tpd, .int at0, .int wel, .ref ba, .ref ka, .int srt, .ref fa, .ref qa, .ref ea, .ref za, .ref ya, .int wks])), (ra, .inl (cI, 7, .inl (upd rf ((-q1).toNatClampNeg) ((rf (-q1).toNatClampNeg) + 1))))] H := hP
  have hD : va_D A [(g0, .inr (5, [.ref ra, .ref wa, .ref ta, .int kpt, .ref ma, .int mkd, .ref pa, .int tpd, .int at0, .int wel, .ref ba, .ref ka, .int srt, .ref fa, .ref qa, .ref ea, .ref za, .ref ya, .int wks])), (ra, .inl (cI, 7, .inl (upd rf ((-q1).toNatClampNeg) ((rf (-q1).toNatClampNeg) + 1))))] := hD
  refine lv_iload_n hx hb dX5_no_11 rfl (lv_at hl 1 rfl) ?_
  have hP9 := hP.sub (ws' := [(g0, .inr (5, [.ref ra, .ref wa, .ref ta, .int kpt, .ref ma, .int mkd, .ref pa, .int tpd, .int at0, .int wel, .ref ba, .ref ka, .int srt, .ref fa, .ref qa, .ref ea, .ref za, .ref ya, .int wks])), (ra, .inl (cI, 7, .inl (upd rf ((-q1).toNatClampNeg) ((rf (-q1).toNatClampNeg) + 1))))]) [0, 1] rfl
  have hD9 := hD.sub (ws' := [(g0, .inr (5, [.ref ra, .ref wa, .ref ta, .int kpt, .ref ma, .int mkd, .ref pa, .int tpd, .int at0, .int wel, .ref ba, .ref ka, .int srt, .ref fa, .ref qa, .ref ea, .ref za, .ref ya, .int wks])), (ra, .inl (cI, 7, .inl (upd rf ((-q1).toNatClampNeg) ((rf (-q1).toNatClampNeg) + 1))))]) [0, 1] (by decide) rfl
  exact W.iret (v := q1) hx hb hr (fun t ht hW => ⟨⟨_, (), rfl, rfl, by rw [ht]; exact hP9, hD9⟩, hS.F ht⟩) hS.2.2 dX5_no_12

set_option maxHeartbeats 4000000 in
set_option maxRecDepth 100000 in
theorem g_X5_noLong (l : Launch) (D : va_G) (cI cL cZ cC : ClassId) (sz : Nat) (g0 : Nat) (ra : Nat) (wa : Nat) (ta : Nat) (ma : Nat) (pa : Nat) (ba : Nat) (ka : Nat) (fa : Nat) (qa : Nat) (ea : Nat) (za : Nat) (ya : Nat) (kpt : Int32) (mkd : Int32) (tpd : Int32) (at0 : Int32) (wel : Int32) (srt : Int32) (wks : Int32) (rf : Nat → Int32) (q1 : Int32) (h1 : 0 < -q1) (h2 : -q1 < 7) : Met l yX5_noLong wsX5_noLong ({ frames := 1, cells := 0, slots := 0, locals := 21 } : Room) (wPc D [.ref g0, .int q1] [(g0, .inr (5, [.ref ra, .ref wa, .ref ta, .int kpt, .ref ma, .int mkd, .ref pa, .int tpd, .int at0, .int wel, .ref ba, .ref ka, .int srt, .ref fa, .ref qa, .ref ea, .ref za, .ref ya, .int wks])), (ra, .inl (cI, 7, .inl rf))] (xTy cI cL cZ cC) sz) (va_Ql (fun (r : Int64) (_ : Unit) => r = xLg q1) (fun (_ : Unit) t => va_P D vwCl [(g0, .inr (5, [.ref ra, .ref wa, .ref ta, .int kpt, .ref ma, .int mkd, .ref pa, .int tpd, .int at0, .int wel, .ref ba, .ref ka, .int srt, .ref fa, .ref qa, .ref ea, .ref za, .ref ya, .int wks])), (ra, .inl (cI, 7, .inl (xRf rf q1)))] t.heap ∧ va_D (va_A [(g0, .inr (5, [.ref ra, .ref wa, .ref ta, .int kpt, .ref ma, .int mkd, .ref pa, .int tpd, .int at0, .int wel, .ref ba, .ref ka, .int srt, .ref fa, .ref qa, .ref ea, .ref za, .ref ya, .int wks])), (ra, .inl (cI, 7, .inl rf))] sz) [(g0, .inr (5, [.ref ra, .ref wa, .ref ta, .int kpt, .ref ma, .int mkd, .ref pa, .int tpd, .int at0, .int wel, .ref ba, .ref ka, .int srt, .ref fa, .ref qa, .ref ea, .ref za, .ref ya, .int wks])), (ra, .inl (cI, 7, .inl (xRf rf q1)))]) (va_A [(g0, .inr (5, [.ref ra, .ref wa, .ref ta, .int kpt, .ref ma, .int mkd, .ref pa, .int tpd, .int at0, .int wel, .ref ba, .ref ka, .int srt, .ref fa, .ref qa, .ref ea, .ref za, .ref ya, .int wks])), (ra, .inl (cI, 7, .inl rf))] sz)) 0 0 (va_A [(g0, .inr (5, [.ref ra, .ref wa, .ref ta, .int kpt, .ref ma, .int mkd, .ref pa, .int tpd, .int at0, .int wel, .ref ba, .ref ka, .int srt, .ref fa, .ref qa, .ref ea, .ref za, .ref ya, .int wks])), (ra, .inl (cI, 7, .inl rf))] sz) := by
  refine Met.ofW (cc := cX5_noLong) (maxL := 2) (ret := (some .long)) (by decide) rfl ?_
  intro p e s m args below meth c s₁ B hml hv
  obtain ⟨rfl, hsz, hP, hK, hD0⟩ := hv
  have hx := B.exec
  have hb := B.bytes
  have hr := B.returns
  have hts := atoms_spec (ws := wsX5_noLong) B.pre
  have hown : s.vm.findClass RX5 = some m.cls := findClass_of_methodNamed B.named
  have hlocks := B.notSynchronized
  subst hsz
  have hD := hD0.self (sz := s.heap.size)
  generalize hAe : va_A [(g0, .inr (5, [.ref ra, .ref wa, .ref ta, .int kpt, .ref ma, .int mkd, .ref pa, .int tpd, .int at0, .int wel, .ref ba, .ref ka, .int srt, .ref fa, .ref qa, .ref ea, .ref za, .ref ya, .int wks])), (ra, .inl (cI, 7, .inl rf))] s.heap.size = A at hD ⊢
  have hA : ∀ q : Nat, s.heap.size ≤ q → A q := fun q h => by rw [← hAe]; exact Or.inr h
  have hS : va_S A s.heap s.heap [] := va_S.rf
  have hP : va_P D vwCl [(g0, .inr (5, [.ref ra, .ref wa, .ref ta, .int kpt, .ref ma, .int mkd, .ref pa, .int tpd, .int at0, .int wel, .ref ba, .ref ka, .int srt, .ref fa, .ref qa, .ref ea, .ref za, .ref ya, .int wks])), (ra, .inl (cI, 7, .inl rf))] s.heap := hP
  have hl := lv_entry ([.ref g0, .int q1]) (n := 2) (Nat.le_of_ble_eq_true rfl)
  rw [lg_entry_eq]
  generalize (lg_sl ([.ref g0, .int q1]) ++ List.replicate (2 - (lg_sl ([.ref g0, .int q1])).length) Slot.unset).toArray = ls at hl ⊢
  have hl : lv_has ls 2 [(0, .ref g0), (1, .int q1)] := hl
  refine lv_ldc2 hx hb hown (hts (.constantLong RX5 7 (4000000000000000000)) (by decide +kernel)) dX5_noLong_0 ?_
  refine lv_aload_n hx hb dX5_noLong_3 rfl (lv_at hl 0 rfl) ?_
  refine lv_iload_n hx hb dX5_noLong_4 rfl (lv_at hl 1 rfl) ?_
  have hPc := hP.sub (ws' := [(g0, .inr (5, [.ref ra, .ref wa, .ref ta, .int kpt, .ref ma, .int mkd, .ref pa, .int tpd, .int at0, .int wel, .ref ba, .ref ka, .int srt, .ref fa, .ref qa, .ref ea, .ref za, .ref ya, .int wks])), (ra, .inl (cI, 7, .inl rf))]) [0, 1] rfl
  have hDc := hD.sub (ws' := [(g0, .inr (5, [.ref ra, .ref wa, .ref ta, .int kpt, .ref ma, .int mkd, .ref pa, .int tpd, .int at0, .int wel, .ref ba, .ref ka, .int srt, .ref fa, .ref qa, .ref ea, .ref za, .ref ya, .int wks])), (ra, .inl (cI, 7, .inl rf))]) [0, 1] (by decide) rfl
  have hFc := va_free (wc := [(g0, .inr (5, [.ref ra, .ref wa, .ref ta, .int kpt, .ref ma, .int mkd, .ref pa, .int tpd, .int at0, .int wel, .ref ba, .ref ka, .int srt, .ref fa, .ref qa, .ref ea, .ref za, .ref ya, .int wks])), (ra, .inl (cI, 7, .inl rf))]) hD hS hA [0, 1] rfl
  refine va_calli (va_runV (As := [.int q1]) (rest := [.long 4000000000000000000]) ⟨hx, hb, hml, hown, hts⟩ (g_X5_no l D cI cL cZ cC _ g0 ra wa ta ma pa ba ka fa qa ea za ya kpt mkd tpd at0 wel srt wks rf q1 (by first | assumption | decide +kernel) (by first | assumption | decide +kernel)) (cwV 1 hts gX5_noLong_X5_no rfl rfl rfl (by decide +kernel) ⟨Nat.le_of_ble_eq_true rfl, Nat.le_of_ble_eq_true rfl⟩) ⟨wPc_bl, va_recv hK hPc (ci := 5) (q0 := 0) rfl rfl, wPc_use hPc hK hDc⟩ rfl rfl hl.1 rfl (lv_room (Nat.le_of_ble_eq_true rfl)) dX5_noLong_5 ⟨Nat.le_of_ble_eq_true rfl, Nat.le_of_ble_eq_true rfl⟩) hS (fun q _ h => hFc q h) hFc (fun r_1 u_1 t H1 locs ht hvm hw hB hz1 hk1 hS => ?_)
  obtain ⟨hP1, hD1⟩ := hB
  rw [ht] at hP1
  obtain ⟨hP, hD⟩ := va_join (wr := []) (w1 := [(g0, .inr (5, [.ref ra, .ref wa, .ref ta, .int kpt, .ref ma, .int mkd, .ref pa, .int tpd, .int at0, .int wel, .ref ba, .ref ka, .int srt, .ref fa, .ref qa, .ref ea, .ref za, .ref ya, .int wks])), (ra, .inl (cI, 7, .inl (xRf rf q1)))]) hP hD [0, 1] [] rfl rfl (by decide) (by decide) hk1 hFc hP1 hD1
  generalize H1 = H at hP hS ⊢
  have hP : va_P D vwCl [(g0, .inr (5, [.ref ra, .ref wa, .ref ta, .int kpt, .ref ma, .int mkd, .ref pa, .int tpd, .int at0, .int wel, .ref ba, .ref ka, .int srt, .ref fa, .ref qa, .ref ea, .ref za, .ref ya, .int wks])), (ra, .inl (cI, 7, .inl (xRf rf q1)))] H := hP
  have hD : va_D A [(g0, .inr (5, [.ref ra, .ref wa, .ref ta, .int kpt, .ref ma, .int mkd, .ref pa, .int tpd, .int at0, .int wel, .ref ba, .ref ka, .int srt, .ref fa, .ref qa, .ref ea, .ref za, .ref ya, .int wks])), (ra, .inl (cI, 7, .inl (xRf rf q1)))] := hD
  obtain rfl : (q1 : Int32) = r_1 := Eq.symm hw
  refine lv_i2l (v := q1.toInt64) hx hb dX5_noLong_8 rfl ?_
  refine lv_lsub hx hb dX5_noLong_9 ?_
  have hP9 := hP.sub (ws' := [(g0, .inr (5, [.ref ra, .ref wa, .ref ta, .int kpt, .ref ma, .int mkd, .ref pa, .int tpd, .int at0, .int wel, .ref ba, .ref ka, .int srt, .ref fa, .ref qa, .ref ea, .ref za, .ref ya, .int wks])), (ra, .inl (cI, 7, .inl (xRf rf q1)))]) [0, 1] rfl
  have hD9 := hD.sub (ws' := [(g0, .inr (5, [.ref ra, .ref wa, .ref ta, .int kpt, .ref ma, .int mkd, .ref pa, .int tpd, .int at0, .int wel, .ref ba, .ref ka, .int srt, .ref fa, .ref qa, .ref ea, .ref za, .ref ya, .int wks])), (ra, .inl (cI, 7, .inl (xRf rf q1)))]) [0, 1] (by decide) rfl
  exact W.lret (v := 4000000000000000000 - q1.toInt64) hx hb hr (fun t ht hW => ⟨⟨_, (), rfl, rfl, by rw [ht]; exact hP9, hD9⟩, hS.F ht⟩) hS.2.2 dX5_noLong_10
