set_option maxHeartbeats 4000000 in
set_option maxRecDepth 100000 in
theorem g_X4_noStop (l : Launch) (D : va_G) (cI cL cZ cC : ClassId) (h0 : Nat) (rd : Nat) (dr : Nat) (kp : Nat) (pl : Nat) (tx : Nat) (nu : Nat) (rf_a : Nat) (nc : Int32) (hi : Int32) (pd : Int32) (r0 : Nat) (r1 : Nat) (st : Nat) (ln : Nat) (ho : Int32) (pa : Int32) (si : Int32) (li : Int32) (a1 : Int32)  : Met l yX4_noStop wsX4_noStop ({ frames := 0, cells := 0, slots := 0, locals := 0 } : Room) (xPc D [.ref h0, .int a1] [(h0, .inr (4, [.ref rd, .ref dr, .ref kp, .ref pl, .ref tx, .ref nu, .ref rf_a, .int nc, .int hi, .int pd])), (rd, .inr (2, [.int (nI st), .int ho, .int pa, .int si, .int li, .int (nI ln), .ref r0, .ref r1]))] (xTy cI cL cZ cC)) (vp_Si (fun r : Int32 => r = sNL st a1)) 0 0 (fun _ => False) := by
  refine Met.ofW (cc := cX4_noStop) (maxL := 2) (ret := (some .boolean)) (by decide) rfl ?_
  intro p e s m args below meth c s₁ B hml hv
  obtain ⟨rfl, hP, hK⟩ := hv
  have hx := B.exec
  have hb := B.bytes
  have hr := B.returns
  have hts := atoms_spec (ws := wsX4_noStop) B.pre
  have hown : s.vm.findClass RX4 = some m.cls := findClass_of_methodNamed B.named
  have hlocks := B.notSynchronized
  have hwX2 : ∀ w ∈ u_ws RX2 TX2 8, w ∈ wsX4_noStop := fun _ h => List.mem_cons_of_mem _ (List.mem_append_right _ h)
  have hwX4 : ∀ w ∈ u_ws RX4 TX4 10, w ∈ wsX4_noStop := fun _ h => List.mem_cons_of_mem _ (List.mem_append_left _ (List.mem_append_right _ h))
  have hl := lv_entry ([.ref h0, .int a1]) (n := 2) (Nat.le_of_ble_eq_true rfl)
  rw [lg_entry_eq]
  generalize (lg_sl ([.ref h0, .int a1]) ++ List.replicate (2 - (lg_sl ([.ref h0, .int a1])).length) Slot.unset).toArray = ls at hl ⊢
  have hl : lv_has ls 2 [(0, .ref h0), (1, .int a1)] := hl
  refine lv_iload_n hx hb dX4_noStop_0 rfl (lv_at hl 1 rfl) ?_
  refine lv_if_lt (tgt := 15) hx hb dX4_noStop_1 (by decide) (fun c_1 => ?_) (fun c_1 => ?_)
  · refine lv_iconst (v := 1) hx hb dX4_noStop_15 (by decide) ?_
    refine lv_goto (tgt := 20) hx hb dX4_noStop_16 (by decide) ?_
    exact W.zret (v := 1) (ty := .boolean) hx hb hr (by decide +kernel) (fun t ht hW => ⟨_, rfl, by simp [sNL, c_1], ht⟩) (fun _ h => absurd h List.not_mem_nil) dX4_noStop_20
  · refine lv_iload_n hx hb dX4_noStop_4 rfl (lv_at hl 1 rfl) ?_
    refine lv_aload_n hx hb dX4_noStop_5 rfl (lv_at hl 0 rfl) ?_
    refine va_get (D := D) (ci := 4) (v := .ref rd) (C := RX4) (T := TX4) (N := 10) hx hb hts hwX4 hown hK hP 0 rfl rfl 0 (by decide) (hts (.fieldLink RX4 10 "WaitOrWalkOn" "road" "LWaitOrWalkOn$Road;") (by decide +kernel)) (fun _ h9 => h9) rfl dX4_noStop_6 ?_
    refine va_get (D := D) (ci := 2) (v := .int (nI st)) (C := RX2) (T := TX2) (N := 8) hx hb hts hwX2 hown hK hP 1 rfl rfl 0 (by decide) (hts (.fieldLink RX4 222 "WaitOrWalkOn$Road" "stops" "I") (by decide +kernel)) (fun _ h9 => h9) rfl dX4_noStop_9 ?_
    refine lv_icmp_lt (tgt := 19) hx hb dX4_noStop_12 (by decide) (fun c_2 => ?_) (fun c_2 => ?_)
    · refine lv_iconst (v := 0) hx hb dX4_noStop_19 (by decide) ?_
      exact W.zret (v := 0) (ty := .boolean) hx hb hr (by decide +kernel) (fun t ht hW => ⟨_, rfl, by simp [sNL, c_1, c_2], ht⟩) (fun _ h => absurd h List.not_mem_nil) dX4_noStop_20
    · refine lv_iconst (v := 1) hx hb dX4_noStop_15 (by decide) ?_
      refine lv_goto (tgt := 20) hx hb dX4_noStop_16 (by decide) ?_
      exact W.zret (v := 1) (ty := .boolean) hx hb hr (by decide +kernel) (fun t ht hW => ⟨_, rfl, by simp [sNL, c_1, c_2], ht⟩) (fun _ h => absurd h List.not_mem_nil) dX4_noStop_20

set_option maxHeartbeats 4000000 in
set_option maxRecDepth 100000 in
theorem g_X4_noLine (l : Launch) (D : va_G) (cI cL cZ cC : ClassId) (h0 : Nat) (rd : Nat) (dr : Nat) (kp : Nat) (pl : Nat) (tx : Nat) (nu : Nat) (rf_a : Nat) (nc : Int32) (hi : Int32) (pd : Int32) (r0 : Nat) (r1 : Nat) (st : Nat) (ln : Nat) (ho : Int32) (pa : Int32) (si : Int32) (li : Int32) (a1 : Int32)  : Met l yX4_noLine wsX4_noLine ({ frames := 0, cells := 0, slots := 0, locals := 0 } : Room) (xPc D [.ref h0, .int a1] [(h0, .inr (4, [.ref rd, .ref dr, .ref kp, .ref pl, .ref tx, .ref nu, .ref rf_a, .int nc, .int hi, .int pd])), (rd, .inr (2, [.int (nI st), .int ho, .int pa, .int si, .int li, .int (nI ln), .ref r0, .ref r1]))] (xTy cI cL cZ cC)) (vp_Si (fun r : Int32 => r = sNL ln a1)) 0 0 (fun _ => False) := by
  refine Met.ofW (cc := cX4_noLine) (maxL := 2) (ret := (some .boolean)) (by decide) rfl ?_
  intro p e s m args below meth c s₁ B hml hv
  obtain ⟨rfl, hP, hK⟩ := hv
  have hx := B.exec
  have hb := B.bytes
  have hr := B.returns
  have hts := atoms_spec (ws := wsX4_noLine) B.pre
  have hown : s.vm.findClass RX4 = some m.cls := findClass_of_methodNamed B.named
  have hlocks := B.notSynchronized
  have hwX2 : ∀ w ∈ u_ws RX2 TX2 8, w ∈ wsX4_noLine := fun _ h => List.mem_cons_of_mem _ (List.mem_append_right _ h)
  have hwX4 : ∀ w ∈ u_ws RX4 TX4 10, w ∈ wsX4_noLine := fun _ h => List.mem_cons_of_mem _ (List.mem_append_left _ (List.mem_append_right _ h))
  have hl := lv_entry ([.ref h0, .int a1]) (n := 2) (Nat.le_of_ble_eq_true rfl)
  rw [lg_entry_eq]
  generalize (lg_sl ([.ref h0, .int a1]) ++ List.replicate (2 - (lg_sl ([.ref h0, .int a1])).length) Slot.unset).toArray = ls at hl ⊢
  have hl : lv_has ls 2 [(0, .ref h0), (1, .int a1)] := hl
  refine lv_iload_n hx hb dX4_noLine_0 rfl (lv_at hl 1 rfl) ?_
  refine lv_if_lt (tgt := 15) hx hb dX4_noLine_1 (by decide) (fun c_1 => ?_) (fun c_1 => ?_)
  · refine lv_iconst (v := 1) hx hb dX4_noLine_15 (by decide) ?_
    refine lv_goto (tgt := 20) hx hb dX4_noLine_16 (by decide) ?_
    exact W.zret (v := 1) (ty := .boolean) hx hb hr (by decide +kernel) (fun t ht hW => ⟨_, rfl, by simp [sNL, c_1], ht⟩) (fun _ h => absurd h List.not_mem_nil) dX4_noLine_20
  · refine lv_iload_n hx hb dX4_noLine_4 rfl (lv_at hl 1 rfl) ?_
    refine lv_aload_n hx hb dX4_noLine_5 rfl (lv_at hl 0 rfl) ?_
    refine va_get (D := D) (ci := 4) (v := .ref rd) (C := RX4) (T := TX4) (N := 10) hx hb hts hwX4 hown hK hP 0 rfl rfl 0 (by decide) (hts (.fieldLink RX4 10 "WaitOrWalkOn" "road" "LWaitOrWalkOn$Road;") (by decide +kernel)) (fun _ h9 => h9) rfl dX4_noLine_6 ?_
    refine va_get (D := D) (ci := 2) (v := .int (nI ln)) (C := RX2) (T := TX2) (N := 8) hx hb hts hwX2 hown hK hP 1 rfl rfl 5 (by decide) (hts (.fieldLink RX4 225 "WaitOrWalkOn$Road" "lineCount" "I") (by decide +kernel)) (fun _ h9 => h9) rfl dX4_noLine_9 ?_
    refine lv_icmp_lt (tgt := 19) hx hb dX4_noLine_12 (by decide) (fun c_2 => ?_) (fun c_2 => ?_)
    · refine lv_iconst (v := 0) hx hb dX4_noLine_19 (by decide) ?_
      exact W.zret (v := 0) (ty := .boolean) hx hb hr (by decide +kernel) (fun t ht hW => ⟨_, rfl, by simp [sNL, c_1, c_2], ht⟩) (fun _ h => absurd h List.not_mem_nil) dX4_noLine_20
    · refine lv_iconst (v := 1) hx hb dX4_noLine_15 (by decide) ?_
      refine lv_goto (tgt := 20) hx hb dX4_noLine_16 (by decide) ?_
      exact W.zret (v := 1) (ty := .boolean) hx hb hr (by decide +kernel) (fun t ht hW => ⟨_, rfl, by simp [sNL, c_1, c_2], ht⟩) (fun _ h => absurd h List.not_mem_nil) dX4_noLine_20

set_option maxHeartbeats 4000000 in
set_option maxRecDepth 100000 in
theorem g_X4_noKind (l : Launch) (D : va_G) (cI cL cZ cC : ClassId) (a1 : Int32)  : Met l yX4_noKind wsX4_noKind ({ frames := 0, cells := 0, slots := 0, locals := 0 } : Room) (xPc D [.int a1] [] (xTy cI cL cZ cC)) (vp_Si (fun r : Int32 => r = sNK a1)) 0 0 (fun _ => False) := by
  refine Met.ofW (cc := cX4_noKind) (maxL := 1) (ret := (some .boolean)) (by decide) rfl ?_
  intro p e s m args below meth c s₁ B hml hv
  obtain ⟨rfl, hP, hK⟩ := hv
  have hx := B.exec
  have hb := B.bytes
  have hr := B.returns
  have hts := atoms_spec (ws := wsX4_noKind) B.pre
  have hown : s.vm.findClass RX4 = some m.cls := findClass_of_methodNamed B.named
  have hlocks := B.notSynchronized
  have hl := lv_entry ([.int a1]) (n := 1) (Nat.le_of_ble_eq_true rfl)
  rw [lg_entry_eq]
  generalize (lg_sl ([.int a1]) ++ List.replicate (1 - (lg_sl ([.int a1])).length) Slot.unset).toArray = ls at hl ⊢
  have hl : lv_has ls 1 [(0, .int a1)] := hl
  refine lv_iload_n hx hb dX4_noKind_0 rfl (lv_at hl 0 rfl) ?_
  refine lv_if_lt (tgt := 9) hx hb dX4_noKind_1 (by decide) (fun c_1 => ?_) (fun c_1 => ?_)
  · refine lv_iconst (v := 1) hx hb dX4_noKind_9 (by decide) ?_
    refine lv_goto (tgt := 14) hx hb dX4_noKind_10 (by decide) ?_
    exact W.zret (v := 1) (ty := .boolean) hx hb hr (by decide +kernel) (fun t ht hW => ⟨_, rfl, by simp [sNK, c_1], ht⟩) (fun _ h => absurd h List.not_mem_nil) dX4_noKind_14
  · refine lv_iload_n hx hb dX4_noKind_4 rfl (lv_at hl 0 rfl) ?_
    refine lv_iconst (v := 5) hx hb dX4_noKind_5 (by decide) ?_
    refine lv_icmp_le (tgt := 13) hx hb dX4_noKind_6 (by decide) (fun c_2 => ?_) (fun c_2 => ?_)
    · refine lv_iconst (v := 0) hx hb dX4_noKind_13 (by decide) ?_
      exact W.zret (v := 0) (ty := .boolean) hx hb hr (by decide +kernel) (fun t ht hW => ⟨_, rfl, by simp [sNK, c_1, (Int32.not_lt.mpr c_2)], ht⟩) (fun _ h => absurd h List.not_mem_nil) dX4_noKind_14
    · refine lv_iconst (v := 1) hx hb dX4_noKind_9 (by decide) ?_
      refine lv_goto (tgt := 14) hx hb dX4_noKind_10 (by decide) ?_
      exact W.zret (v := 1) (ty := .boolean) hx hb hr (by decide +kernel) (fun t ht hW => ⟨_, rfl, by simp [sNK, c_1, (Int32.not_le.mp c_2)], ht⟩) (fun _ h => absurd h List.not_mem_nil) dX4_noKind_14

set_option maxHeartbeats 4000000 in
set_option maxRecDepth 100000 in
theorem g_X4_noPart (l : Launch) (D : va_G) (cI cL cZ cC : ClassId) (a1 : Int32)  : Met l yX4_noPart wsX4_noPart ({ frames := 0, cells := 0, slots := 0, locals := 0 } : Room) (xPc D [.int a1] [] (xTy cI cL cZ cC)) (vp_Si (fun r : Int32 => r = sNP a1)) 0 0 (fun _ => False) := by
  refine Met.ofW (cc := cX4_noPart) (maxL := 1) (ret := (some .boolean)) (by decide) rfl ?_
  intro p e s m args below meth c s₁ B hml hv
  obtain ⟨rfl, hP, hK⟩ := hv
  have hx := B.exec
  have hb := B.bytes
  have hr := B.returns
  have hts := atoms_spec (ws := wsX4_noPart) B.pre
  have hown : s.vm.findClass RX4 = some m.cls := findClass_of_methodNamed B.named
  have hlocks := B.notSynchronized
  have hl := lv_entry ([.int a1]) (n := 1) (Nat.le_of_ble_eq_true rfl)
  rw [lg_entry_eq]
  generalize (lg_sl ([.int a1]) ++ List.replicate (1 - (lg_sl ([.int a1])).length) Slot.unset).toArray = ls at hl ⊢
  have hl : lv_has ls 1 [(0, .int a1)] := hl
  refine lv_iload_n hx hb dX4_noPart_0 rfl (lv_at hl 0 rfl) ?_
  refine lv_if_lt (tgt := 9) hx hb dX4_noPart_1 (by decide) (fun c_1 => ?_) (fun c_1 => ?_)
  · refine lv_iconst (v := 1) hx hb dX4_noPart_9 (by decide) ?_
    refine lv_goto (tgt := 14) hx hb dX4_noPart_10 (by decide) ?_
    exact W.zret (v := 1) (ty := .boolean) hx hb hr (by decide +kernel) (fun t ht hW => ⟨_, rfl, by simp [sNP, c_1], ht⟩) (fun _ h => absurd h List.not_mem_nil) dX4_noPart_14
  · refine lv_iload_n hx hb dX4_noPart_4 rfl (lv_at hl 0 rfl) ?_
    refine lv_iconst (v := 1) hx hb dX4_noPart_5 (by decide) ?_
    refine lv_icmp_le (tgt := 13) hx hb dX4_noPart_6 (by decide) (fun c_2 => ?_) (fun c_2 => ?_)
    · refine lv_iconst (v := 0) hx hb dX4_noPart_13 (by decide) ?_
      exact W.zret (v := 0) (ty := .boolean) hx hb hr (by decide +kernel) (fun t ht hW => ⟨_, rfl, by simp [sNP, c_1, (Int32.not_lt.mpr c_2)], ht⟩) (fun _ h => absurd h List.not_mem_nil) dX4_noPart_14
    · refine lv_iconst (v := 1) hx hb dX4_noPart_9 (by decide) ?_
      refine lv_goto (tgt := 14) hx hb dX4_noPart_10 (by decide) ?_
      exact W.zret (v := 1) (ty := .boolean) hx hb hr (by decide +kernel) (fun t ht hW => ⟨_, rfl, by simp [sNP, c_1, (Int32.not_le.mp c_2)], ht⟩) (fun _ h => absurd h List.not_mem_nil) dX4_noPart_14

set_option maxHeartbeats 4000000 in
set_option maxRecDepth 100000 in
theorem g_X4_waitOf (l : Launch) (D : va_G) (cI cL cZ cC : ClassId) (h0 : Nat) (rd : Nat) (dr : Nat) (kp : Nat) (pl : Nat) (tx : Nat) (nu : Nat) (rf_a : Nat) (nc : Int32) (hi : Int32) (pd : Int32) (r0 : Nat) (r1 : Nat) (st : Nat) (ho : Int32) (pa : Int32) (si : Int32) (li : Int32) (lc : Int32) (a1 : Int32) (a2 : Int32) (a3 : Int32)  : Met l yX4_waitOf wsX4_waitOf ({ frames := 0, cells := 0, slots := 0, locals := 0 } : Room) (xPc D [.ref h0, .int a1, .int a2, .int a3] [(h0, .inr (4, [.ref rd, .ref dr, .ref kp, .ref pl, .ref tx, .ref nu, .ref rf_a, .int nc, .int hi, .int pd])), (rd, .inr (2, [.int (nI st), .int ho, .int pa, .int si, .int li, .int lc, .ref r0, .ref r1]))] (xTy cI cL cZ cC)) (vp_Si (fun r : Int32 => r = sWait li a1 a2 a3)) 0 0 (fun _ => False) := by
  refine Met.ofW (cc := cX4_waitOf) (maxL := 4) (ret := (some .int)) (by decide) rfl ?_
  intro p e s m args below meth c s₁ B hml hv
  obtain ⟨rfl, hP, hK⟩ := hv
  have hx := B.exec
  have hb := B.bytes
  have hr := B.returns
  have hts := atoms_spec (ws := wsX4_waitOf) B.pre
  have hown : s.vm.findClass RX4 = some m.cls := findClass_of_methodNamed B.named
  have hlocks := B.notSynchronized
  have hwX2 : ∀ w ∈ u_ws RX2 TX2 8, w ∈ wsX4_waitOf := fun _ h => List.mem_cons_of_mem _ (List.mem_append_right _ h)
  have hwX4 : ∀ w ∈ u_ws RX4 TX4 10, w ∈ wsX4_waitOf := fun _ h => List.mem_cons_of_mem _ (List.mem_append_left _ (List.mem_append_right _ h))
  have hl := lv_entry ([.ref h0, .int a1, .int a2, .int a3]) (n := 4) (Nat.le_of_ble_eq_true rfl)
  rw [lg_entry_eq]
  generalize (lg_sl ([.ref h0, .int a1, .int a2, .int a3]) ++ List.replicate (4 - (lg_sl ([.ref h0, .int a1, .int a2, .int a3])).length) Slot.unset).toArray = ls at hl ⊢
  have hl : lv_has ls 4 [(0, .ref h0), (1, .int a1), (2, .int a2), (3, .int a3)] := hl
  refine lv_iload_n hx hb dX4_waitOf_0 rfl (lv_at hl 1 rfl) ?_
  by_cases c_1 : a1 = 0
  · refine lv_lookup (off := 35) (tgt := 36) hx hb dX4_waitOf_1 (by decide +kernel) (by rw [c_1]; decide +kernel) (by decide) ?_
    refine lv_iload_n hx hb dX4_waitOf_36 rfl (lv_at hl 3 rfl) ?_
    refine lv_if_ne (tgt := 50) hx hb dX4_waitOf_37 (by decide) (fun c_2 => ?_) (fun c_2 => ?_)
    · refine lv_iconst (v := 0) hx hb dX4_waitOf_50 (by decide) ?_
      exact W.iret (v := 0) hx hb hr (fun t ht hW => ⟨_, rfl, by simp [sWait, c_1, c_2], ht⟩) (fun _ h => absurd h List.not_mem_nil) dX4_waitOf_51
    · refine lv_aload_n hx hb dX4_waitOf_40 rfl (lv_at hl 0 rfl) ?_
      refine va_get (D := D) (ci := 4) (v := .ref rd) (C := RX4) (T := TX4) (N := 10) hx hb hts hwX4 hown hK hP 0 rfl rfl 0 (by decide) (hts (.fieldLink RX4 10 "WaitOrWalkOn" "road" "LWaitOrWalkOn$Road;") (by decide +kernel)) (fun _ h9 => h9) rfl dX4_waitOf_41 ?_
      refine va_get (D := D) (ci := 2) (v := .int li) (C := RX2) (T := TX2) (N := 8) hx hb hts hwX2 hown hK hP 1 rfl rfl 4 (by decide) (hts (.fieldLink RX4 234 "WaitOrWalkOn$Road" "limit" "I") (by decide +kernel)) (fun _ h9 => h9) rfl dX4_waitOf_44 ?_
      refine lv_goto (tgt := 51) hx hb dX4_waitOf_47 (by decide) ?_
      exact W.iret (v := li) hx hb hr (fun t ht hW => ⟨_, rfl, by simp [sWait, c_1, c_2], ht⟩) (fun _ h => absurd h List.not_mem_nil) dX4_waitOf_51
  by_cases c_3 : a1 = 3
  · refine lv_lookup (off := 51) (tgt := 52) hx hb dX4_waitOf_1 (by decide +kernel) (by rw [c_3]; decide +kernel) (by decide) ?_
    refine lv_iload_n hx hb dX4_waitOf_52 rfl (lv_at hl 3 rfl) ?_
    refine lv_if_ne (tgt := 60) hx hb dX4_waitOf_53 (by decide) (fun c_4 => ?_) (fun c_4 => ?_)
    · refine lv_iconst (v := 0) hx hb dX4_waitOf_60 (by decide) ?_
      exact W.iret (v := 0) hx hb hr (fun t ht hW => ⟨_, rfl, by simp [sWait, c_1, c_3, c_4], ht⟩) (fun _ h => absurd h List.not_mem_nil) dX4_waitOf_61
    · refine lv_iload_n hx hb dX4_waitOf_56 rfl (lv_at hl 2 rfl) ?_
      refine lv_goto (tgt := 61) hx hb dX4_waitOf_57 (by decide) ?_
      exact W.iret (v := a2) hx hb hr (fun t ht hW => ⟨_, rfl, by simp [sWait, c_1, c_3, c_4], ht⟩) (fun _ h => absurd h List.not_mem_nil) dX4_waitOf_61
  by_cases c_5 : a1 = 5
  · refine lv_lookup (off := 61) (tgt := 62) hx hb dX4_waitOf_1 (by decide +kernel) (by rw [c_5]; decide +kernel) (by decide) ?_
    refine lv_iload_n hx hb dX4_waitOf_62 rfl (lv_at hl 3 rfl) ?_
    refine lv_if_ne (tgt := 72) hx hb dX4_waitOf_63 (by decide) (fun c_6 => ?_) (fun c_6 => ?_)
    · refine lv_iload_n hx hb dX4_waitOf_72 rfl (lv_at hl 2 rfl) ?_
      exact W.iret (v := a2) hx hb hr (fun t ht hW => ⟨_, rfl, by simp [sWait, c_1, c_3, c_5, c_6], ht⟩) (fun _ h => absurd h List.not_mem_nil) dX4_waitOf_73
    · refine lv_iconst (v := 2) hx hb dX4_waitOf_66 (by decide) ?_
      refine lv_iload_n hx hb dX4_waitOf_67 rfl (lv_at hl 2 rfl) ?_
      refine lv_imul hx hb dX4_waitOf_68 ?_
      refine lv_goto (tgt := 73) hx hb dX4_waitOf_69 (by decide) ?_
      exact W.iret (v := 2 * a2) hx hb hr (fun t ht hW => ⟨_, rfl, by simp [sWait, c_1, c_3, c_5, c_6], ht⟩) (fun _ h => absurd h List.not_mem_nil) dX4_waitOf_73
  refine lv_lookup (off := 73) (tgt := 74) hx hb dX4_waitOf_1 (by decide +kernel) (by have q_1 : ¬ (a1).toInt = 0 := mt (xi_eq (a1) 0).mpr c_1; have q_3 : ¬ (a1).toInt = 3 := mt (xi_eq (a1) 3).mpr c_3; have q_5 : ¬ (a1).toInt = 5 := mt (xi_eq (a1) 5).mpr c_5; simp [Op.lookupswitch.offset, q_1, Ne.symm q_1, q_3, Ne.symm q_3, q_5, Ne.symm q_5]) (by decide) ?_
  refine lv_iconst (v := 0) hx hb dX4_waitOf_74 (by decide) ?_
  exact W.iret (v := 0) hx hb hr (fun t ht hW => ⟨_, rfl, by simp [sWait, c_1, c_3, c_5], ht⟩) (fun _ h => absurd h List.not_mem_nil) dX4_waitOf_75

set_option maxHeartbeats 4000000 in
set_option maxRecDepth 100000 in
theorem g_X4_fraction (l : Launch) (D : va_G) (cI cL cZ cC : ClassId) (a1 : Int32) (a2 : Int32) (a3 : Int32)  : Met l yX4_fraction wsX4_fraction ({ frames := 0, cells := 0, slots := 0, locals := 0 } : Room) (xPc D [.int a1, .int a2, .int a3] [] (xTy cI cL cZ cC)) (vp_Sl (fun r : Int64 => r = xFr a1 a2 a3)) 0 0 (fun _ => False) := by
  refine Met.ofW (cc := cX4_fraction) (maxL := 7) (ret := (some .long)) (by decide) rfl ?_
  intro p e s m args below meth c s₁ B hml hv
  obtain ⟨rfl, hP, hK⟩ := hv
  have hx := B.exec
  have hb := B.bytes
  have hr := B.returns
  have hts := atoms_spec (ws := wsX4_fraction) B.pre
  have hown : s.vm.findClass RX4 = some m.cls := findClass_of_methodNamed B.named
  have hlocks := B.notSynchronized
  have hl := lv_entry ([.int a1, .int a2, .int a3]) (n := 7) (Nat.le_of_ble_eq_true rfl)
  rw [lg_entry_eq]
  generalize (lg_sl ([.int a1, .int a2, .int a3]) ++ List.replicate (7 - (lg_sl ([.int a1, .int a2, .int a3])).length) Slot.unset).toArray = ls at hl ⊢
  have hl : lv_has ls 7 [(0, .int a1), (1, .int a2), (2, .int a3)] := hl
  refine lv_iload_n hx hb dX4_fraction_0 rfl (lv_at hl 0 rfl) ?_
  refine lv_if_le (tgt := 8) hx hb dX4_fraction_1 (by decide) (fun c_1 => ?_) (fun c_1 => ?_)
  · refine lv_iload_n hx hb dX4_fraction_8 rfl (lv_at hl 2 rfl) ?_
    refine lv_if_ne (tgt := 16) hx hb dX4_fraction_9 (by decide) (fun c_2 => ?_) (fun c_2 => ?_)
    · refine lv_lconst (v := 1) hx hb dX4_fraction_16 (by decide) ?_
      exact W.lret (v := 1) hx hb hr (fun t ht hW => ⟨_, rfl, by simp [xFr, (Int32.not_lt.mpr c_1), c_2], ht⟩) (fun _ h => absurd h List.not_mem_nil) dX4_fraction_17
    · refine lv_lconst (v := 0) hx hb dX4_fraction_12 (by decide) ?_
      refine lv_goto (tgt := 17) hx hb dX4_fraction_13 (by decide) ?_
      exact W.lret (v := 0) hx hb hr (fun t ht hW => ⟨_, rfl, by simp [xFr, (Int32.not_lt.mpr c_1), c_2], ht⟩) (fun _ h => absurd h List.not_mem_nil) dX4_fraction_17
  · refine lv_iload_n hx hb dX4_fraction_4 rfl (lv_at hl 1 rfl) ?_
    refine lv_if_gt (tgt := 18) hx hb dX4_fraction_5 (by decide) (fun c_3 => ?_) (fun c_3 => ?_)
    · refine lv_iload_n hx hb dX4_fraction_18 rfl (lv_at hl 1 rfl) ?_
      refine lv_istore_n (lv' := [(3, .int a2), (0, .int a1), (1, .int a2), (2, .int a3)]) hx hb dX4_fraction_19 rfl hl (by decide) rfl (fun ls hl => ?_)
      refine lv_iload_n hx hb dX4_fraction_20 rfl (lv_at hl 1 rfl) ?_
      refine lv_iload_n hx hb dX4_fraction_21 rfl (lv_at hl 2 rfl) ?_
      refine lv_irem hx hb dX4_fraction_22 (xpos_ne c_3) ?_
      refine lv_istore (lv' := [(4, .int (a1 - a1 / a2 * a2)), (3, .int a2), (0, .int a1), (1, .int a2), (2, .int a3)]) hx hb dX4_fraction_23 hl (by decide) rfl (fun ls hl => ?_)
      refine lv_iconst (v := 0) hx hb dX4_fraction_25 (by decide) ?_
      refine lv_istore (lv' := [(5, .int 0), (4, .int (a1 - a1 / a2 * a2)), (3, .int a2), (0, .int a1), (1, .int a2), (2, .int a3)]) hx hb dX4_fraction_26 hl (by decide) rfl (fun ls hl => ?_)
      refine xl_loop (σ := Nat × Int32 × Int32) (fun n q ls => lv_has ls 7 [(5, .int (nI q.1)), (4, .int q.2.2), (3, .int q.2.1), (0, .int a1), (1, .int a2), (2, .int a3)] ∧ (100 - q.1 < n) ∧ (q.1 ≤ 100) ∧ (xGl (100 - q.1) q.2.1 q.2.2 = xGl 100 a2 (a1 - a1 / a2 * a2)) ∧ (0 < q.2.1)) (101) (0, a2, a1 - a1 / a2 * a2) ⟨lv_sub hl [0, 1, 2, 3, 4, 5] rfl, by (try dsimp only); exact ⟨by omega, by omega, rfl, c_3⟩⟩ (fun q ls h => absurd h.2.1 (Nat.not_lt_zero _)) ?_
      intro n_28 q_28 ls ih_28 hI_28
      obtain ⟨hl, hI_28⟩ := hI_28
      obtain ⟨k, d1, r1⟩ := q_28
      obtain ⟨h1, h2, h3, h4⟩ := hI_28
      try dsimp only at hl h1 h2 h3 h4
      refine lv_iload hx hb dX4_fraction_28 (lv_at hl 0 rfl) ?_
      refine lv_bipush (v := 100) hx hb dX4_fraction_30 (by decide) ?_
      refine lv_icmp_ge (tgt := 59) hx hb dX4_fraction_32 (by decide) (fun c_4 => ?_) (fun c_4 => ?_)
      · have hd9 : xGl 100 a2 (a1 - a1 / a2 * a2) = d1 := by have w := mt (nI_ltI (a := k) (b := 100) (by omega) (by omega)).mpr (Int32.not_lt.mpr c_4); rw [← h3, show 100 - k = 0 by omega]; rfl
        refine lv_iload_n hx hb dX4_fraction_59 rfl (lv_at hl 5 rfl) ?_
        refine lv_if_ne (tgt := 70) hx hb dX4_fraction_60 (by decide) (fun c_5 => ?_) (fun c_5 => ?_)
        · refine lv_iload_n hx hb dX4_fraction_70 rfl (lv_at hl 4 rfl) ?_
          refine lv_iload_n hx hb dX4_fraction_71 rfl (lv_at hl 2 rfl) ?_
          refine lv_idiv hx hb dX4_fraction_72 (xpos_ne h4) ?_
          refine lv_i2l (v := (a2 / d1).toInt64) hx hb dX4_fraction_73 rfl ?_
          exact W.lret (v := (a2 / d1).toInt64) hx hb hr (fun t ht hW => ⟨_, rfl, (by rw [xFr, if_neg (fun w => w (Int32.not_le.mp c_1)), if_neg (fun w => w c_3), if_neg c_5, hd9]), ht⟩) (fun _ h => absurd h List.not_mem_nil) dX4_fraction_74
        · refine lv_iload_n hx hb dX4_fraction_63 rfl (lv_at hl 3 rfl) ?_
          refine lv_iload_n hx hb dX4_fraction_64 rfl (lv_at hl 2 rfl) ?_
          refine lv_idiv hx hb dX4_fraction_65 (xpos_ne h4) ?_
          refine lv_i2l (v := (a1 / d1).toInt64) hx hb dX4_fraction_66 rfl ?_
          refine lv_goto (tgt := 74) hx hb dX4_fraction_67 (by decide) ?_
          exact W.lret (v := (a1 / d1).toInt64) hx hb hr (fun t ht hW => ⟨_, rfl, (by rw [xFr, if_neg (fun w => w (Int32.not_le.mp c_1)), if_neg (fun w => w c_3), if_pos c_5, hd9]), ht⟩) (fun _ h => absurd h List.not_mem_nil) dX4_fraction_74
      · refine lv_iload hx hb dX4_fraction_35 (lv_at hl 1 rfl) ?_
        refine lv_if_le (tgt := 59) hx hb dX4_fraction_37 (by decide) (fun c_6 => ?_) (fun c_6 => ?_)
        · have hd9 : xGl 100 a2 (a1 - a1 / a2 * a2) = d1 := by have w := (nI_ltI (a := k) (b := 100) (by omega) (by omega)).mp (Int32.not_le.mp c_4); rw [← h3, xs1 w]; simp only [xGl]; exact if_neg (Int32.not_lt.mpr c_6)
          refine lv_iload_n hx hb dX4_fraction_59 rfl (lv_at hl 5 rfl) ?_
          refine lv_if_ne (tgt := 70) hx hb dX4_fraction_60 (by decide) (fun c_7 => ?_) (fun c_7 => ?_)
          · refine lv_iload_n hx hb dX4_fraction_70 rfl (lv_at hl 4 rfl) ?_
            refine lv_iload_n hx hb dX4_fraction_71 rfl (lv_at hl 2 rfl) ?_
            refine lv_idiv hx hb dX4_fraction_72 (xpos_ne h4) ?_
            refine lv_i2l (v := (a2 / d1).toInt64) hx hb dX4_fraction_73 rfl ?_
            exact W.lret (v := (a2 / d1).toInt64) hx hb hr (fun t ht hW => ⟨_, rfl, (by rw [xFr, if_neg (fun w => w (Int32.not_le.mp c_1)), if_neg (fun w => w c_3), if_neg c_7, hd9]), ht⟩) (fun _ h => absurd h List.not_mem_nil) dX4_fraction_74
          · refine lv_iload_n hx hb dX4_fraction_63 rfl (lv_at hl 3 rfl) ?_
            refine lv_iload_n hx hb dX4_fraction_64 rfl (lv_at hl 2 rfl) ?_
            refine lv_idiv hx hb dX4_fraction_65 (xpos_ne h4) ?_
            refine lv_i2l (v := (a1 / d1).toInt64) hx hb dX4_fraction_66 rfl ?_
            refine lv_goto (tgt := 74) hx hb dX4_fraction_67 (by decide) ?_
            exact W.lret (v := (a1 / d1).toInt64) hx hb hr (fun t ht hW => ⟨_, rfl, (by rw [xFr, if_neg (fun w => w (Int32.not_le.mp c_1)), if_neg (fun w => w c_3), if_pos c_7, hd9]), ht⟩) (fun _ h => absurd h List.not_mem_nil) dX4_fraction_74
        · refine lv_iload_n hx hb dX4_fraction_40 rfl (lv_at hl 2 rfl) ?_
          refine lv_iload hx hb dX4_fraction_41 (lv_at hl 1 rfl) ?_
          refine lv_irem hx hb dX4_fraction_43 (xpos_ne (Int32.not_le.mp c_6)) ?_
          refine lv_istore (lv' := [(6, .int (d1 - d1 / r1 * r1)), (5, .int (nI k)), (4, .int r1), (3, .int d1), (0, .int a1), (1, .int a2), (2, .int a3)]) hx hb dX4_fraction_44 hl (by decide) rfl (fun ls hl => ?_)
          refine lv_iload hx hb dX4_fraction_46 (lv_at hl 2 rfl) ?_
          refine lv_istore_n (lv' := [(3, .int r1), (6, .int (d1 - d1 / r1 * r1)), (5, .int (nI k)), (4, .int r1), (0, .int a1), (1, .int a2), (2, .int a3)]) hx hb dX4_fraction_48 rfl hl (by decide) rfl (fun ls hl => ?_)
          refine lv_iload hx hb dX4_fraction_49 (lv_at hl 1 rfl) ?_
          refine lv_istore (lv' := [(4, .int (d1 - d1 / r1 * r1)), (3, .int r1), (6, .int (d1 - d1 / r1 * r1)), (5, .int (nI k)), (0, .int a1), (1, .int a2), (2, .int a3)]) hx hb dX4_fraction_51 hl (by decide) rfl (fun ls hl => ?_)
          refine lv_iinc (v := nI (k + 1)) (lv' := [(5, .int (nI (k + 1))), (4, .int (d1 - d1 / r1 * r1)), (3, .int r1), (6, .int (d1 - d1 / r1 * r1)), (0, .int a1), (1, .int a2), (2, .int a3)]) hx hb dX4_fraction_53 hl (k := 3) rfl (nI_1 k) (by decide) rfl (fun ls hl => ?_)
          refine lv_goto (tgt := 28) hx hb dX4_fraction_56 (by decide) ?_
          have w := (nI_ltI (a := k) (b := 100) (by omega) (by omega)).mp (Int32.not_le.mp c_4)
          have e3 : xGl (100 - (k + 1)) r1 (d1 - d1 / r1 * r1) = xGl 100 a2 (a1 - a1 / a2 * a2) := by rw [← h3, xs1 w]; simp only [xGl]; exact (if_pos (Int32.not_le.mp c_6)).symm
          exact ih_28 (k + 1, r1, d1 - d1 / r1 * r1) _ ⟨lv_sub hl [0, 1, 2, 4, 5, 6] rfl, by (try dsimp only); exact ⟨by omega, by omega, e3, (Int32.not_le.mp c_6)⟩⟩
    · refine lv_iload_n hx hb dX4_fraction_8 rfl (lv_at hl 2 rfl) ?_
      refine lv_if_ne (tgt := 16) hx hb dX4_fraction_9 (by decide) (fun c_8 => ?_) (fun c_8 => ?_)
      · refine lv_lconst (v := 1) hx hb dX4_fraction_16 (by decide) ?_
        exact W.lret (v := 1) hx hb hr (fun t ht hW => ⟨_, rfl, by simp [xFr, (Int32.not_le.mp c_1), c_3, c_8], ht⟩) (fun _ h => absurd h List.not_mem_nil) dX4_fraction_17
      · refine lv_lconst (v := 0) hx hb dX4_fraction_12 (by decide) ?_
        refine lv_goto (tgt := 17) hx hb dX4_fraction_13 (by decide) ?_
        exact W.lret (v := 0) hx hb hr (fun t ht hW => ⟨_, rfl, by simp [xFr, (Int32.not_le.mp c_1), c_3, c_8], ht⟩) (fun _ h => absurd h List.not_mem_nil) dX4_fraction_17

set_option maxHeartbeats 4000000 in
set_option maxRecDepth 100000 in
theorem g_X4_goerHome (l : Launch) (D : va_G) (cI cL cZ cC : ClassId) (h0 : Nat) (rd : Nat) (dr : Nat) (kp : Nat) (pl : Nat) (tx : Nat) (nu : Nat) (rf_a : Nat) (nc : Int32) (hi : Int32) (pd : Int32) (r0 : Nat) (r1 : Nat) (st : Nat) (ho : Int32) (pa : Int32) (si : Int32) (li : Int32) (lc : Int32) (lg : Nat → Int32) (b0 : Nat) (k0 : Nat) (ki : Int32) (ru : Int32) (ne : Int32) (ch : Nat → Int32) (a2 : Int32) (a3 : Int32) (a4 : Int32) (hs1 : 1 ≤ st) (hs7 : st ≤ 7) : Met l yX4_goerHome wsX4_goerHome ({ frames := 2, cells := 0, slots := 0, locals := 43 } : Room) (xPc D [.ref h0, .ref b0, .int a2, .int a3, .int a4] [(h0, .inr (4, [.ref rd, .ref dr, .ref kp, .ref pl, .ref tx, .ref nu, .ref rf_a, .int nc, .int hi, .int pd])), (rd, .inr (2, [.int (nI st), .int ho, .int pa, .int si, .int li, .int lc, .ref r0, .ref r1])), (r0, .inl (cI, 7, .inl lg)), (b0, .inr (0, [.int ki, .int ru, .int ne, .ref k0])), (k0, .inl (cI, 12, .inl ch))] (xTy cI cL cZ cC)) (vp_Si (fun r : Int32 => r = xGh st ho pa si li lg ki ru a2 a3 a4)) 0 0 (fun _ => False) := by
  refine Met.ofW (cc := cX4_goerHome) (maxL := 13) (ret := (some .int)) (by decide) rfl ?_
  intro p e s m args below meth c s₁ B hml hv
  obtain ⟨rfl, hP, hK⟩ := hv
  have hx := B.exec
  have hb := B.bytes
  have hr := B.returns
  have hts := atoms_spec (ws := wsX4_goerHome) B.pre
  have hown : s.vm.findClass RX4 = some m.cls := findClass_of_methodNamed B.named
  have hlocks := B.notSynchronized
  have hwX2 : ∀ w ∈ u_ws RX2 TX2 8, w ∈ wsX4_goerHome := fun _ h => List.mem_cons_of_mem _ (List.mem_append_left _ (List.mem_append_right _ h))
  have hwX4 : ∀ w ∈ u_ws RX4 TX4 10, w ∈ wsX4_goerHome := fun _ h => List.mem_cons_of_mem _ (List.mem_append_left _ (List.mem_append_left _ (List.mem_append_right _ h)))
  have hl := lv_entry ([.ref h0, .ref b0, .int a2, .int a3, .int a4]) (n := 13) (Nat.le_of_ble_eq_true rfl)
  rw [lg_entry_eq]
  generalize (lg_sl ([.ref h0, .ref b0, .int a2, .int a3, .int a4]) ++ List.replicate (13 - (lg_sl ([.ref h0, .ref b0, .int a2, .int a3, .int a4])).length) Slot.unset).toArray = ls at hl ⊢
  have hl : lv_has ls 13 [(0, .ref h0), (1, .ref b0), (2, .int a2), (3, .int a3), (4, .int a4)] := hl
  obtain ⟨GO, hg0, hg1, hg2, hg3⟩ := xGh_spec st ho pa si li lg ki ru a2 a3 a4
  refine lv_aload_n hx hb dX4_goerHome_0 rfl (lv_at hl 0 rfl) ?_
  refine va_get (D := D) (ci := 4) (v := .ref rd) (C := RX4) (T := TX4) (N := 10) hx hb hts hwX4 hown hK hP 0 rfl rfl 0 (by decide) (hts (.fieldLink RX4 10 "WaitOrWalkOn" "road" "LWaitOrWalkOn$Road;") (by decide +kernel)) (fun _ h9 => h9) rfl dX4_goerHome_1 ?_
  have hPc := hP.sub (ws' := [(rd, .inr (2, [.int (nI st), .int ho, .int pa, .int si, .int li, .int lc, .ref r0, .ref r1])), (r0, .inl (cI, 7, .inl lg))]) [1, 2] rfl
  refine vp_callSi (va_Run.run (va_runV (As := []) (rest := []) ⟨hx, hb, hml, hown, hts⟩ (g_X2_last l D cI cL cZ cC rd r0 r1 st ho pa si li lc lg (by first | assumption | decide +kernel) (by first | assumption | decide +kernel)) (cwV 0 hts gX4_goerHome_X2_last rfl rfl rfl (by decide +kernel) ⟨Nat.le_of_ble_eq_true rfl, Nat.le_of_ble_eq_true rfl⟩) ⟨xPc_bl, va_recv hK hPc (ci := 2) (q0 := 0) rfl rfl, xPc_use hPc hK⟩ rfl rfl hl.1 rfl (lv_room (Nat.le_of_ble_eq_true rfl)) dX4_goerHome_4 ⟨Nat.le_of_ble_eq_true rfl, Nat.le_of_ble_eq_true rfl⟩)) (fun r_1 er_1 => ?_)
  obtain rfl : (nI (st - 1) : Int32) = r_1 := Eq.symm er_1
  refine lv_istore (lv' := [(5, .int (nI (st - 1))), (0, .ref h0), (1, .ref b0), (2, .int a2), (3, .int a3), (4, .int a4)]) hx hb dX4_goerHome_7 hl (by decide) rfl (fun ls hl => ?_)
  refine xl_cut (σ := Unit) 33 (fun _ => [.int (xPc2 pa a2)]) (fun _ ls => lv_has ls 13 [(5, .int (nI (st - 1))), (0, .ref h0), (1, .ref b0), (2, .int a2), (3, .int a3), (4, .int a4)]) ?_ ?_
  · intro _ ls hl
    refine lv_istore (lv' := [(6, .int (xPc2 pa a2)), (5, .int (nI (st - 1))), (0, .ref h0), (1, .ref b0), (2, .int a2), (3, .int a3), (4, .int a4)]) hx hb dX4_goerHome_33 hl (by decide) rfl (fun ls hl => ?_)
    refine lv_aload_n hx hb dX4_goerHome_35 rfl (lv_at hl 2 rfl) ?_
    refine va_get (D := D) (ci := 4) (v := .ref rd) (C := RX4) (T := TX4) (N := 10) hx hb hts hwX4 hown hK hP 0 rfl rfl 0 (by decide) (hts (.fieldLink RX4 10 "WaitOrWalkOn" "road" "LWaitOrWalkOn$Road;") (by decide +kernel)) (fun _ h9 => h9) rfl dX4_goerHome_36 ?_
    refine lv_iload hx hb dX4_goerHome_39 (lv_at hl 1 rfl) ?_
    refine lv_iload hx hb dX4_goerHome_41 (lv_at hl 0 rfl) ?_
    have hPc := hP.sub (ws' := [(rd, .inr (2, [.int (nI st), .int ho, .int pa, .int si, .int li, .int lc, .ref r0, .ref r1])), (r0, .inl (cI, 7, .inl lg))]) [1, 2] rfl
    refine vp_callSi (va_Run.run (va_runV (As := [.int (nI (st - 1)), .int (xPc2 pa a2)]) (rest := []) ⟨hx, hb, hml, hown, hts⟩ (g_X2_wayFrom l D cI cL cZ cC rd r0 r1 st ho pa si li lc lg (st - 1) (xPc2 pa a2) (by first | assumption | decide +kernel) (by first | assumption | decide +kernel) (by omega)) (cwV 2 hts gX4_goerHome_X2_wayFrom rfl rfl rfl (by decide +kernel) ⟨Nat.le_of_ble_eq_true rfl, Nat.le_of_ble_eq_true rfl⟩) ⟨xPc_bl, va_recv hK hPc (ci := 2) (q0 := 0) rfl rfl, xPc_use hPc hK⟩ rfl rfl hl.1 rfl (lv_room (Nat.le_of_ble_eq_true rfl)) dX4_goerHome_43 ⟨Nat.le_of_ble_eq_true rfl, Nat.le_of_ble_eq_true rfl⟩)) (fun r_2 er_2 => ?_)
    obtain rfl : (xWy (xYd st ho lg (st - 1)) (xPc2 pa a2) : Int32) = r_2 := Eq.symm er_2
    refine lv_istore (lv' := [(7, .int (xWy (xYd st ho lg (st - 1)) (xPc2 pa a2))), (6, .int (xPc2 pa a2)), (5, .int (nI (st - 1))), (0, .ref h0), (1, .ref b0), (2, .int a2), (3, .int a3), (4, .int a4)]) hx hb dX4_goerHome_46 hl (by decide) rfl (fun ls hl => ?_)
    refine xl_cut (σ := Unit) 74 (fun _ => [.int (xLk si a2)]) (fun _ ls => lv_has ls 13 [(7, .int (xWy (xYd st ho lg (st - 1)) (xPc2 pa a2))), (6, .int (xPc2 pa a2)), (5, .int (nI (st - 1))), (0, .ref h0), (1, .ref b0), (2, .int a2), (3, .int a3), (4, .int a4)]) ?_ ?_
    · intro _ ls hl
      refine lv_istore (lv' := [(8, .int (xLk si a2)), (7, .int (xWy (xYd st ho lg (st - 1)) (xPc2 pa a2))), (6, .int (xPc2 pa a2)), (5, .int (nI (st - 1))), (0, .ref h0), (1, .ref b0), (2, .int a2), (3, .int a3), (4, .int a4)]) hx hb dX4_goerHome_74 hl (by decide) rfl (fun ls hl => ?_)
      refine lv_iconst (v := 0) hx hb dX4_goerHome_76 (by decide) ?_
      refine lv_istore (lv' := [(9, .int 0), (8, .int (xLk si a2)), (7, .int (xWy (xYd st ho lg (st - 1)) (xPc2 pa a2))), (6, .int (xPc2 pa a2)), (5, .int (nI (st - 1))), (0, .ref h0), (1, .ref b0), (2, .int a2), (3, .int a3), (4, .int a4)]) hx hb dX4_goerHome_77 hl (by decide) rfl (fun ls hl => ?_)
      refine lv_iconst (v := 0) hx hb dX4_goerHome_79 (by decide) ?_
      refine lv_istore (lv' := [(10, .int 0), (9, .int 0), (8, .int (xLk si a2)), (7, .int (xWy (xYd st ho lg (st - 1)) (xPc2 pa a2))), (6, .int (xPc2 pa a2)), (5, .int (nI (st - 1))), (0, .ref h0), (1, .ref b0), (2, .int a2), (3, .int a3), (4, .int a4)]) hx hb dX4_goerHome_80 hl (by decide) rfl (fun ls hl => ?_)
      refine xl_loop (σ := Nat × Int32) (fun n q ls => lv_has ls 13 [(10, .int (nI q.1)), (9, .int q.2), (8, .int (xLk si a2)), (7, .int (xWy (xYd st ho lg (st - 1)) (xPc2 pa a2))), (6, .int (xPc2 pa a2)), (5, .int (nI (st - 1))), (0, .ref h0), (1, .ref b0), (2, .int a2), (3, .int a3), (4, .int a4)] ∧ (st - 1 - q.1 < n) ∧ (q.1 ≤ st - 1) ∧ (GO (st - 1 - q.1) q.1 q.2 = GO (st - 1) 0 0)) (st) (0, 0) ⟨lv_sub hl [0, 1, 2, 3, 4, 5, 6, 7, 8, 9, 10] rfl, by (try dsimp only); exact ⟨by omega, by omega, rfl⟩⟩ (fun q ls h => absurd h.2.1 (Nat.not_lt_zero _)) ?_
      intro n_82 q_82 ls ih_82 hI_82
      obtain ⟨hl, hI_82⟩ := hI_82
      obtain ⟨k, mi⟩ := q_82
      obtain ⟨h1, h2, h3⟩ := hI_82
      try dsimp only at hl h1 h2 h3
      refine lv_iload hx hb dX4_goerHome_82 (lv_at hl 0 rfl) ?_
      refine lv_iload hx hb dX4_goerHome_84 (lv_at hl 5 rfl) ?_
      refine lv_icmp_ge (tgt := 183) hx hb dX4_goerHome_86 (by decide) (fun c_3 => ?_) (fun c_3 => ?_)
      · refine lv_iload hx hb dX4_goerHome_183 (lv_at hl 1 rfl) ?_
        refine lv_iload hx hb dX4_goerHome_185 (lv_at hl 3 rfl) ?_
        refine lv_iadd hx hb dX4_goerHome_187 ?_
        exact W.iret (v := mi + (xWy (xYd st ho lg (st - 1)) (xPc2 pa a2))) hx hb hr (fun t ht hW => ⟨_, rfl, (by have w := mt (nI_ltI (a := k) (b := st - 1) (by omega) (by omega)).mpr (Int32.not_lt.mpr c_3); rw [hg0, ← h3, show st - 1 - k = 0 by omega]; exact (hg1 _ _).symm), ht⟩) (fun _ h => absurd h List.not_mem_nil) dX4_goerHome_188
      · refine lv_iload hx hb dX4_goerHome_89 (lv_at hl 1 rfl) ?_
        refine lv_aload_n hx hb dX4_goerHome_91 rfl (lv_at hl 6 rfl) ?_
        refine lv_iload_n hx hb dX4_goerHome_92 rfl (lv_at hl 8 rfl) ?_
        refine lv_iload_n hx hb dX4_goerHome_93 rfl (lv_at hl 9 rfl) ?_
        refine lv_iload hx hb dX4_goerHome_94 (lv_at hl 0 rfl) ?_
        have hPc := hP.sub (ws' := [(h0, .inr (4, [.ref rd, .ref dr, .ref kp, .ref pl, .ref tx, .ref nu, .ref rf_a, .int nc, .int hi, .int pd])), (rd, .inr (2, [.int (nI st), .int ho, .int pa, .int si, .int li, .int lc, .ref r0, .ref r1]))]) [0, 1] rfl
        refine vp_callSi (va_Run.run (va_runV (As := [.int a2, .int a3, .int (nI k)]) (rest := [.int mi]) ⟨hx, hb, hml, hown, hts⟩ (g_X4_waitOf l D cI cL cZ cC h0 rd dr kp pl tx nu rf_a nc hi pd r0 r1 st ho pa si li lc a2 a3 (nI k) ) (cwV 3 hts gX4_goerHome_X4_waitOf rfl rfl rfl (by decide +kernel) ⟨Nat.le_of_ble_eq_true rfl, Nat.le_of_ble_eq_true rfl⟩) ⟨xPc_bl, va_recv hK hPc (ci := 4) (q0 := 0) rfl rfl, xPc_use hPc hK⟩ rfl rfl hl.1 rfl (lv_room (Nat.le_of_ble_eq_true rfl)) dX4_goerHome_96 ⟨Nat.le_of_ble_eq_true rfl, Nat.le_of_ble_eq_true rfl⟩)) (fun r_4 er_4 => ?_)
        obtain rfl : (sWait li a2 a3 (nI k) : Int32) = r_4 := Eq.symm er_4
        refine lv_iadd hx hb dX4_goerHome_99 ?_
        refine lv_istore (lv' := [(11, .int (mi + (sWait li a2 a3 (nI k)))), (10, .int (nI k)), (9, .int mi), (8, .int (xLk si a2)), (7, .int (xWy (xYd st ho lg (st - 1)) (xPc2 pa a2))), (6, .int (xPc2 pa a2)), (5, .int (nI (st - 1))), (0, .ref h0), (1, .ref b0), (2, .int a2), (3, .int a3), (4, .int a4)]) hx hb dX4_goerHome_100 hl (by decide) rfl (fun ls hl => ?_)
        refine lv_iload hx hb dX4_goerHome_102 (lv_at hl 11 rfl) ?_
        refine lv_aload_n hx hb dX4_goerHome_104 rfl (lv_at hl 8 rfl) ?_
        refine lv_iload hx hb dX4_goerHome_105 (lv_at hl 1 rfl) ?_
        have hPc := hP.sub (ws' := [(b0, .inr (0, [.int ki, .int ru, .int ne, .ref k0])), (k0, .inl (cI, 12, .inl ch))]) [3, 4] rfl
        refine vp_callSi (va_Run.run (va_runV (As := [.int (nI k)]) (rest := [.int a4]) ⟨hx, hb, hml, hown, hts⟩ (g_X0_rideTo l D cI cL cZ cC b0 k0 ki ru ne ch (nI k) ) (cwV 1 hts gX4_goerHome_X0_rideTo rfl rfl rfl (by decide +kernel) ⟨Nat.le_of_ble_eq_true rfl, Nat.le_of_ble_eq_true rfl⟩) ⟨xPc_bl, va_recv hK hPc (ci := 0) (q0 := 0) rfl rfl, xPc_use hPc hK⟩ rfl rfl hl.1 rfl (lv_room (Nat.le_of_ble_eq_true rfl)) dX4_goerHome_107 ⟨Nat.le_of_ble_eq_true rfl, Nat.le_of_ble_eq_true rfl⟩)) (fun r_5 er_5 => ?_)
        obtain rfl : (sRide ki ru (nI k) : Int32) = r_5 := Eq.symm er_5
        refine lv_iadd hx hb dX4_goerHome_110 ?_
        refine lv_istore (lv' := [(12, .int (a4 + (sRide ki ru (nI k)))), (11, .int (mi + (sWait li a2 a3 (nI k)))), (10, .int (nI k)), (9, .int mi), (8, .int (xLk si a2)), (7, .int (xWy (xYd st ho lg (st - 1)) (xPc2 pa a2))), (6, .int (xPc2 pa a2)), (5, .int (nI (st - 1))), (0, .ref h0), (1, .ref b0), (2, .int a2), (3, .int a3), (4, .int a4)]) hx hb dX4_goerHome_111 hl (by decide) rfl (fun ls hl => ?_)
        refine lv_iload hx hb dX4_goerHome_113 (lv_at hl 12 rfl) ?_
        refine lv_bipush (v := 12) hx hb dX4_goerHome_115 (by decide) ?_
        refine lv_icmp_ge (tgt := 161) hx hb dX4_goerHome_117 (by decide) (fun c_6 => ?_) (fun c_6 => ?_)
        · refine lv_iload hx hb dX4_goerHome_161 (lv_at hl 1 rfl) ?_
          refine lv_aload_n hx hb dX4_goerHome_163 rfl (lv_at hl 8 rfl) ?_
          refine va_get (D := D) (ci := 4) (v := .ref rd) (C := RX4) (T := TX4) (N := 10) hx hb hts hwX4 hown hK hP 0 rfl rfl 0 (by decide) (hts (.fieldLink RX4 10 "WaitOrWalkOn" "road" "LWaitOrWalkOn$Road;") (by decide +kernel)) (fun _ h9 => h9) rfl dX4_goerHome_164 ?_
          refine lv_iload hx hb dX4_goerHome_167 (lv_at hl 2 rfl) ?_
          refine lv_iload hx hb dX4_goerHome_169 (lv_at hl 6 rfl) ?_
          have hPc := hP.sub (ws' := [(rd, .inr (2, [.int (nI st), .int ho, .int pa, .int si, .int li, .int lc, .ref r0, .ref r1])), (r0, .inl (cI, 7, .inl lg))]) [1, 2] rfl
          refine vp_callSi (va_Run.run (va_runV (As := [.int (nI k), .int (xPc2 pa a2)]) (rest := [.int (mi + (sWait li a2 a3 (nI k)))]) ⟨hx, hb, hml, hown, hts⟩ (g_X2_wayFrom l D cI cL cZ cC rd r0 r1 st ho pa si li lc lg k (xPc2 pa a2) (by first | assumption | decide +kernel) (by first | assumption | decide +kernel) (by have w := (nI_ltI (a := k) (b := st - 1) (by omega) (by omega)).mp (Int32.not_le.mp c_3); omega)) (cwV 2 hts gX4_goerHome_X2_wayFrom rfl rfl rfl (by decide +kernel) ⟨Nat.le_of_ble_eq_true rfl, Nat.le_of_ble_eq_true rfl⟩) ⟨xPc_bl, va_recv hK hPc (ci := 2) (q0 := 0) rfl rfl, xPc_use hPc hK⟩ rfl rfl hl.1 rfl (lv_room (Nat.le_of_ble_eq_true rfl)) dX4_goerHome_171 ⟨Nat.le_of_ble_eq_true rfl, Nat.le_of_ble_eq_true rfl⟩)) (fun r_7 er_7 => ?_)
          obtain rfl : (xWy (xYd st ho lg k) (xPc2 pa a2) : Int32) = r_7 := Eq.symm er_7
          refine lv_iadd hx hb dX4_goerHome_174 ?_
          refine lv_istore (lv' := [(9, .int ((mi + (sWait li a2 a3 (nI k))) + (xWy (xYd st ho lg k) (xPc2 pa a2)))), (12, .int (a4 + (sRide ki ru (nI k)))), (11, .int (mi + (sWait li a2 a3 (nI k)))), (10, .int (nI k)), (8, .int (xLk si a2)), (7, .int (xWy (xYd st ho lg (st - 1)) (xPc2 pa a2))), (6, .int (xPc2 pa a2)), (5, .int (nI (st - 1))), (0, .ref h0), (1, .ref b0), (2, .int a2), (3, .int a3), (4, .int a4)]) hx hb dX4_goerHome_175 hl (by decide) rfl (fun ls hl => ?_)
          refine lv_iinc (v := nI (k + 1)) (lv' := [(10, .int (nI (k + 1))), (9, .int ((mi + (sWait li a2 a3 (nI k))) + (xWy (xYd st ho lg k) (xPc2 pa a2)))), (12, .int (a4 + (sRide ki ru (nI k)))), (11, .int (mi + (sWait li a2 a3 (nI k)))), (8, .int (xLk si a2)), (7, .int (xWy (xYd st ho lg (st - 1)) (xPc2 pa a2))), (6, .int (xPc2 pa a2)), (5, .int (nI (st - 1))), (0, .ref h0), (1, .ref b0), (2, .int a2), (3, .int a3), (4, .int a4)]) hx hb dX4_goerHome_177 hl (k := 3) rfl (nI_1 k) (by decide) rfl (fun ls hl => ?_)
          refine lv_goto (tgt := 82) hx hb dX4_goerHome_180 (by decide) ?_
          have w := (nI_ltI (a := k) (b := st - 1) (by omega) (by omega)).mp (Int32.not_le.mp c_3)
          have e3 : GO (st - 1 - (k + 1)) (k + 1) (mi + sWait li a2 a3 (nI k) + xWy (xYd st ho lg k) (xPc2 pa a2)) = GO (st - 1) 0 0 := by rw [← h3, xs1 w]; exact (hg3 _ _ _ (fun q => (Int32.not_lt.mpr c_6) q.1)).symm
          exact ih_82 (k + 1, mi + sWait li a2 a3 (nI k) + xWy (xYd st ho lg k) (xPc2 pa a2)) _ ⟨lv_sub hl [0, 1, 4, 5, 6, 7, 8, 9, 10, 11, 12] rfl, by (try dsimp only); exact ⟨by omega, by omega, e3⟩⟩
        · refine lv_aload_n hx hb dX4_goerHome_120 rfl (lv_at hl 9 rfl) ?_
          refine lv_iload hx hb dX4_goerHome_121 (lv_at hl 2 rfl) ?_
          refine lv_iload hx hb dX4_goerHome_123 (lv_at hl 7 rfl) ?_
          have hPc := hP.sub (ws' := [(b0, .inr (0, [.int ki, .int ru, .int ne, .ref k0])), (k0, .inl (cI, 12, .inl ch))]) [3, 4] rfl
          refine vp_callSi (va_Run.run (va_runV (As := [.int (nI k), .int (nI (st - 1))]) (rest := []) ⟨hx, hb, hml, hown, hts⟩ (g_X0_halts l D cI cL cZ cC b0 k0 ki ru ne ch (nI k) (nI (st - 1)) ) (cwV 2 hts gX4_goerHome_X0_halts rfl rfl rfl (by decide +kernel) ⟨Nat.le_of_ble_eq_true rfl, Nat.le_of_ble_eq_true rfl⟩) ⟨xPc_bl, va_recv hK hPc (ci := 0) (q0 := 0) rfl rfl, xPc_use hPc hK⟩ rfl rfl hl.1 rfl (lv_room (Nat.le_of_ble_eq_true rfl)) dX4_goerHome_125 ⟨Nat.le_of_ble_eq_true rfl, Nat.le_of_ble_eq_true rfl⟩)) (fun r_8 er_8 => ?_)
          obtain rfl : (sHalt ki (nI k) (nI (st - 1)) : Int32) = r_8 := Eq.symm er_8
          refine lv_if_eq (tgt := 161) hx hb dX4_goerHome_128 (by decide) (fun c_9 => ?_) (fun c_9 => ?_)
          · refine lv_iload hx hb dX4_goerHome_161 (lv_at hl 1 rfl) ?_
            refine lv_aload_n hx hb dX4_goerHome_163 rfl (lv_at hl 8 rfl) ?_
            refine va_get (D := D) (ci := 4) (v := .ref rd) (C := RX4) (T := TX4) (N := 10) hx hb hts hwX4 hown hK hP 0 rfl rfl 0 (by decide) (hts (.fieldLink RX4 10 "WaitOrWalkOn" "road" "LWaitOrWalkOn$Road;") (by decide +kernel)) (fun _ h9 => h9) rfl dX4_goerHome_164 ?_
            refine lv_iload hx hb dX4_goerHome_167 (lv_at hl 2 rfl) ?_
            refine lv_iload hx hb dX4_goerHome_169 (lv_at hl 6 rfl) ?_
            have hPc := hP.sub (ws' := [(rd, .inr (2, [.int (nI st), .int ho, .int pa, .int si, .int li, .int lc, .ref r0, .ref r1])), (r0, .inl (cI, 7, .inl lg))]) [1, 2] rfl
            refine vp_callSi (va_Run.run (va_runV (As := [.int (nI k), .int (xPc2 pa a2)]) (rest := [.int (mi + (sWait li a2 a3 (nI k)))]) ⟨hx, hb, hml, hown, hts⟩ (g_X2_wayFrom l D cI cL cZ cC rd r0 r1 st ho pa si li lc lg k (xPc2 pa a2) (by first | assumption | decide +kernel) (by first | assumption | decide +kernel) (by have w := (nI_ltI (a := k) (b := st - 1) (by omega) (by omega)).mp (Int32.not_le.mp c_3); omega)) (cwV 2 hts gX4_goerHome_X2_wayFrom rfl rfl rfl (by decide +kernel) ⟨Nat.le_of_ble_eq_true rfl, Nat.le_of_ble_eq_true rfl⟩) ⟨xPc_bl, va_recv hK hPc (ci := 2) (q0 := 0) rfl rfl, xPc_use hPc hK⟩ rfl rfl hl.1 rfl (lv_room (Nat.le_of_ble_eq_true rfl)) dX4_goerHome_171 ⟨Nat.le_of_ble_eq_true rfl, Nat.le_of_ble_eq_true rfl⟩)) (fun r_10 er_10 => ?_)
            obtain rfl : (xWy (xYd st ho lg k) (xPc2 pa a2) : Int32) = r_10 := Eq.symm er_10
            refine lv_iadd hx hb dX4_goerHome_174 ?_
            refine lv_istore (lv' := [(9, .int ((mi + (sWait li a2 a3 (nI k))) + (xWy (xYd st ho lg k) (xPc2 pa a2)))), (12, .int (a4 + (sRide ki ru (nI k)))), (11, .int (mi + (sWait li a2 a3 (nI k)))), (10, .int (nI k)), (8, .int (xLk si a2)), (7, .int (xWy (xYd st ho lg (st - 1)) (xPc2 pa a2))), (6, .int (xPc2 pa a2)), (5, .int (nI (st - 1))), (0, .ref h0), (1, .ref b0), (2, .int a2), (3, .int a3), (4, .int a4)]) hx hb dX4_goerHome_175 hl (by decide) rfl (fun ls hl => ?_)
            refine lv_iinc (v := nI (k + 1)) (lv' := [(10, .int (nI (k + 1))), (9, .int ((mi + (sWait li a2 a3 (nI k))) + (xWy (xYd st ho lg k) (xPc2 pa a2)))), (12, .int (a4 + (sRide ki ru (nI k)))), (11, .int (mi + (sWait li a2 a3 (nI k)))), (8, .int (xLk si a2)), (7, .int (xWy (xYd st ho lg (st - 1)) (xPc2 pa a2))), (6, .int (xPc2 pa a2)), (5, .int (nI (st - 1))), (0, .ref h0), (1, .ref b0), (2, .int a2), (3, .int a3), (4, .int a4)]) hx hb dX4_goerHome_177 hl (k := 3) rfl (nI_1 k) (by decide) rfl (fun ls hl => ?_)
            refine lv_goto (tgt := 82) hx hb dX4_goerHome_180 (by decide) ?_
            have w := (nI_ltI (a := k) (b := st - 1) (by omega) (by omega)).mp (Int32.not_le.mp c_3)
            have e3 : GO (st - 1 - (k + 1)) (k + 1) (mi + sWait li a2 a3 (nI k) + xWy (xYd st ho lg k) (xPc2 pa a2)) = GO (st - 1) 0 0 := by rw [← h3, xs1 w]; exact (hg3 _ _ _ (fun q => q.2.1 c_9)).symm
            exact ih_82 (k + 1, mi + sWait li a2 a3 (nI k) + xWy (xYd st ho lg k) (xPc2 pa a2)) _ ⟨lv_sub hl [0, 1, 4, 5, 6, 7, 8, 9, 10, 11, 12] rfl, by (try dsimp only); exact ⟨by omega, by omega, e3⟩⟩
          · refine lv_iload hx hb dX4_goerHome_131 (lv_at hl 0 rfl) ?_
            refine lv_iload hx hb dX4_goerHome_133 (lv_at hl 3 rfl) ?_
            refine lv_icmp_lt (tgt := 161) hx hb dX4_goerHome_135 (by decide) (fun c_11 => ?_) (fun c_11 => ?_)
            · refine lv_iload hx hb dX4_goerHome_161 (lv_at hl 1 rfl) ?_
              refine lv_aload_n hx hb dX4_goerHome_163 rfl (lv_at hl 8 rfl) ?_
              refine va_get (D := D) (ci := 4) (v := .ref rd) (C := RX4) (T := TX4) (N := 10) hx hb hts hwX4 hown hK hP 0 rfl rfl 0 (by decide) (hts (.fieldLink RX4 10 "WaitOrWalkOn" "road" "LWaitOrWalkOn$Road;") (by decide +kernel)) (fun _ h9 => h9) rfl dX4_goerHome_164 ?_
              refine lv_iload hx hb dX4_goerHome_167 (lv_at hl 2 rfl) ?_
              refine lv_iload hx hb dX4_goerHome_169 (lv_at hl 6 rfl) ?_
              have hPc := hP.sub (ws' := [(rd, .inr (2, [.int (nI st), .int ho, .int pa, .int si, .int li, .int lc, .ref r0, .ref r1])), (r0, .inl (cI, 7, .inl lg))]) [1, 2] rfl
              refine vp_callSi (va_Run.run (va_runV (As := [.int (nI k), .int (xPc2 pa a2)]) (rest := [.int (mi + (sWait li a2 a3 (nI k)))]) ⟨hx, hb, hml, hown, hts⟩ (g_X2_wayFrom l D cI cL cZ cC rd r0 r1 st ho pa si li lc lg k (xPc2 pa a2) (by first | assumption | decide +kernel) (by first | assumption | decide +kernel) (by have w := (nI_ltI (a := k) (b := st - 1) (by omega) (by omega)).mp (Int32.not_le.mp c_3); omega)) (cwV 2 hts gX4_goerHome_X2_wayFrom rfl rfl rfl (by decide +kernel) ⟨Nat.le_of_ble_eq_true rfl, Nat.le_of_ble_eq_true rfl⟩) ⟨xPc_bl, va_recv hK hPc (ci := 2) (q0 := 0) rfl rfl, xPc_use hPc hK⟩ rfl rfl hl.1 rfl (lv_room (Nat.le_of_ble_eq_true rfl)) dX4_goerHome_171 ⟨Nat.le_of_ble_eq_true rfl, Nat.le_of_ble_eq_true rfl⟩)) (fun r_12 er_12 => ?_)
              obtain rfl : (xWy (xYd st ho lg k) (xPc2 pa a2) : Int32) = r_12 := Eq.symm er_12
              refine lv_iadd hx hb dX4_goerHome_174 ?_
              refine lv_istore (lv' := [(9, .int ((mi + (sWait li a2 a3 (nI k))) + (xWy (xYd st ho lg k) (xPc2 pa a2)))), (12, .int (a4 + (sRide ki ru (nI k)))), (11, .int (mi + (sWait li a2 a3 (nI k)))), (10, .int (nI k)), (8, .int (xLk si a2)), (7, .int (xWy (xYd st ho lg (st - 1)) (xPc2 pa a2))), (6, .int (xPc2 pa a2)), (5, .int (nI (st - 1))), (0, .ref h0), (1, .ref b0), (2, .int a2), (3, .int a3), (4, .int a4)]) hx hb dX4_goerHome_175 hl (by decide) rfl (fun ls hl => ?_)
              refine lv_iinc (v := nI (k + 1)) (lv' := [(10, .int (nI (k + 1))), (9, .int ((mi + (sWait li a2 a3 (nI k))) + (xWy (xYd st ho lg k) (xPc2 pa a2)))), (12, .int (a4 + (sRide ki ru (nI k)))), (11, .int (mi + (sWait li a2 a3 (nI k)))), (8, .int (xLk si a2)), (7, .int (xWy (xYd st ho lg (st - 1)) (xPc2 pa a2))), (6, .int (xPc2 pa a2)), (5, .int (nI (st - 1))), (0, .ref h0), (1, .ref b0), (2, .int a2), (3, .int a3), (4, .int a4)]) hx hb dX4_goerHome_177 hl (k := 3) rfl (nI_1 k) (by decide) rfl (fun ls hl => ?_)
              refine lv_goto (tgt := 82) hx hb dX4_goerHome_180 (by decide) ?_
              have w := (nI_ltI (a := k) (b := st - 1) (by omega) (by omega)).mp (Int32.not_le.mp c_3)
              have e3 : GO (st - 1 - (k + 1)) (k + 1) (mi + sWait li a2 a3 (nI k) + xWy (xYd st ho lg k) (xPc2 pa a2)) = GO (st - 1) 0 0 := by rw [← h3, xs1 w]; exact (hg3 _ _ _ (fun q => q.2.2.1 c_11)).symm
              exact ih_82 (k + 1, mi + sWait li a2 a3 (nI k) + xWy (xYd st ho lg k) (xPc2 pa a2)) _ ⟨lv_sub hl [0, 1, 4, 5, 6, 7, 8, 9, 10, 11, 12] rfl, by (try dsimp only); exact ⟨by omega, by omega, e3⟩⟩
            · refine lv_iload hx hb dX4_goerHome_138 (lv_at hl 0 rfl) ?_
              refine lv_iload hx hb dX4_goerHome_140 (lv_at hl 1 rfl) ?_
              refine lv_iload hx hb dX4_goerHome_142 (lv_at hl 4 rfl) ?_
              refine lv_iadd hx hb dX4_goerHome_144 ?_
              refine lv_icmp_gt (tgt := 161) hx hb dX4_goerHome_145 (by decide) (fun c_13 => ?_) (fun c_13 => ?_)
              · refine lv_iload hx hb dX4_goerHome_161 (lv_at hl 1 rfl) ?_
                refine lv_aload_n hx hb dX4_goerHome_163 rfl (lv_at hl 8 rfl) ?_
                refine va_get (D := D) (ci := 4) (v := .ref rd) (C := RX4) (T := TX4) (N := 10) hx hb hts hwX4 hown hK hP 0 rfl rfl 0 (by decide) (hts (.fieldLink RX4 10 "WaitOrWalkOn" "road" "LWaitOrWalkOn$Road;") (by decide +kernel)) (fun _ h9 => h9) rfl dX4_goerHome_164 ?_
                refine lv_iload hx hb dX4_goerHome_167 (lv_at hl 2 rfl) ?_
                refine lv_iload hx hb dX4_goerHome_169 (lv_at hl 6 rfl) ?_
                have hPc := hP.sub (ws' := [(rd, .inr (2, [.int (nI st), .int ho, .int pa, .int si, .int li, .int lc, .ref r0, .ref r1])), (r0, .inl (cI, 7, .inl lg))]) [1, 2] rfl
                refine vp_callSi (va_Run.run (va_runV (As := [.int (nI k), .int (xPc2 pa a2)]) (rest := [.int (mi + (sWait li a2 a3 (nI k)))]) ⟨hx, hb, hml, hown, hts⟩ (g_X2_wayFrom l D cI cL cZ cC rd r0 r1 st ho pa si li lc lg k (xPc2 pa a2) (by first | assumption | decide +kernel) (by first | assumption | decide +kernel) (by have w := (nI_ltI (a := k) (b := st - 1) (by omega) (by omega)).mp (Int32.not_le.mp c_3); omega)) (cwV 2 hts gX4_goerHome_X2_wayFrom rfl rfl rfl (by decide +kernel) ⟨Nat.le_of_ble_eq_true rfl, Nat.le_of_ble_eq_true rfl⟩) ⟨xPc_bl, va_recv hK hPc (ci := 2) (q0 := 0) rfl rfl, xPc_use hPc hK⟩ rfl rfl hl.1 rfl (lv_room (Nat.le_of_ble_eq_true rfl)) dX4_goerHome_171 ⟨Nat.le_of_ble_eq_true rfl, Nat.le_of_ble_eq_true rfl⟩)) (fun r_14 er_14 => ?_)
                obtain rfl : (xWy (xYd st ho lg k) (xPc2 pa a2) : Int32) = r_14 := Eq.symm er_14
                refine lv_iadd hx hb dX4_goerHome_174 ?_
                refine lv_istore (lv' := [(9, .int ((mi + (sWait li a2 a3 (nI k))) + (xWy (xYd st ho lg k) (xPc2 pa a2)))), (12, .int (a4 + (sRide ki ru (nI k)))), (11, .int (mi + (sWait li a2 a3 (nI k)))), (10, .int (nI k)), (8, .int (xLk si a2)), (7, .int (xWy (xYd st ho lg (st - 1)) (xPc2 pa a2))), (6, .int (xPc2 pa a2)), (5, .int (nI (st - 1))), (0, .ref h0), (1, .ref b0), (2, .int a2), (3, .int a3), (4, .int a4)]) hx hb dX4_goerHome_175 hl (by decide) rfl (fun ls hl => ?_)
                refine lv_iinc (v := nI (k + 1)) (lv' := [(10, .int (nI (k + 1))), (9, .int ((mi + (sWait li a2 a3 (nI k))) + (xWy (xYd st ho lg k) (xPc2 pa a2)))), (12, .int (a4 + (sRide ki ru (nI k)))), (11, .int (mi + (sWait li a2 a3 (nI k)))), (8, .int (xLk si a2)), (7, .int (xWy (xYd st ho lg (st - 1)) (xPc2 pa a2))), (6, .int (xPc2 pa a2)), (5, .int (nI (st - 1))), (0, .ref h0), (1, .ref b0), (2, .int a2), (3, .int a3), (4, .int a4)]) hx hb dX4_goerHome_177 hl (k := 3) rfl (nI_1 k) (by decide) rfl (fun ls hl => ?_)
                refine lv_goto (tgt := 82) hx hb dX4_goerHome_180 (by decide) ?_
                have w := (nI_ltI (a := k) (b := st - 1) (by omega) (by omega)).mp (Int32.not_le.mp c_3)
                have e3 : GO (st - 1 - (k + 1)) (k + 1) (mi + sWait li a2 a3 (nI k) + xWy (xYd st ho lg k) (xPc2 pa a2)) = GO (st - 1) 0 0 := by rw [← h3, xs1 w]; exact (hg3 _ _ _ (fun q => q.2.2.2 c_13)).symm
                exact ih_82 (k + 1, mi + sWait li a2 a3 (nI k) + xWy (xYd st ho lg k) (xPc2 pa a2)) _ ⟨lv_sub hl [0, 1, 4, 5, 6, 7, 8, 9, 10, 11, 12] rfl, by (try dsimp only); exact ⟨by omega, by omega, e3⟩⟩
              · refine lv_iload hx hb dX4_goerHome_148 (lv_at hl 12 rfl) ?_
                refine lv_aload_n hx hb dX4_goerHome_150 rfl (lv_at hl 9 rfl) ?_
                refine lv_iload hx hb dX4_goerHome_151 (lv_at hl 7 rfl) ?_
                have hPc := hP.sub (ws' := [(b0, .inr (0, [.int ki, .int ru, .int ne, .ref k0])), (k0, .inl (cI, 12, .inl ch))]) [3, 4] rfl
                refine vp_callSi (va_Run.run (va_runV (As := [.int (nI (st - 1))]) (rest := [.int a4]) ⟨hx, hb, hml, hown, hts⟩ (g_X0_rideTo l D cI cL cZ cC b0 k0 ki ru ne ch (nI (st - 1)) ) (cwV 1 hts gX4_goerHome_X0_rideTo rfl rfl rfl (by decide +kernel) ⟨Nat.le_of_ble_eq_true rfl, Nat.le_of_ble_eq_true rfl⟩) ⟨xPc_bl, va_recv hK hPc (ci := 0) (q0 := 0) rfl rfl, xPc_use hPc hK⟩ rfl rfl hl.1 rfl (lv_room (Nat.le_of_ble_eq_true rfl)) dX4_goerHome_153 ⟨Nat.le_of_ble_eq_true rfl, Nat.le_of_ble_eq_true rfl⟩)) (fun r_15 er_15 => ?_)
                obtain rfl : (sRide ki ru (nI (st - 1)) : Int32) = r_15 := Eq.symm er_15
                refine lv_iadd hx hb dX4_goerHome_156 ?_
                refine lv_iload hx hb dX4_goerHome_157 (lv_at hl 5 rfl) ?_
                refine lv_iadd hx hb dX4_goerHome_159 ?_
                exact W.iret (v := (a4 + (sRide ki ru (nI (st - 1)))) + (xWy (xYd st ho lg (st - 1)) (xPc2 pa a2))) hx hb hr (fun t ht hW => ⟨_, rfl, (by have w := (nI_ltI (a := k) (b := st - 1) (by omega) (by omega)).mp (Int32.not_le.mp c_3); rw [hg0, ← h3, xs1 w]; exact (hg2 _ _ _ ⟨(Int32.not_le.mp c_6), c_9, c_11, c_13⟩).symm), ht⟩) (fun _ h => absurd h List.not_mem_nil) dX4_goerHome_160
    · intro K_74
      refine lv_iload_n hx hb dX4_goerHome_48 rfl (lv_at hl 5 rfl) ?_
      refine lv_iconst (v := 2) hx hb dX4_goerHome_49 (by decide) ?_
      refine lv_icmp_eq (tgt := 63) hx hb dX4_goerHome_50 (by decide) (fun c_16 => ?_) (fun c_16 => ?_)
      · refine lv_aload_n hx hb dX4_goerHome_63 rfl (lv_at hl 3 rfl) ?_
        refine va_get (D := D) (ci := 4) (v := .ref rd) (C := RX4) (T := TX4) (N := 10) hx hb hts hwX4 hown hK hP 0 rfl rfl 0 (by decide) (hts (.fieldLink RX4 10 "WaitOrWalkOn" "road" "LWaitOrWalkOn$Road;") (by decide +kernel)) (fun _ h9 => h9) rfl dX4_goerHome_64 ?_
        refine va_get (D := D) (ci := 2) (v := .int si) (C := RX2) (T := TX2) (N := 8) hx hb hts hwX2 hown hK hP 1 rfl rfl 3 (by decide) (hts (.fieldLink RX4 231 "WaitOrWalkOn$Road" "sight" "I") (by decide +kernel)) (fun _ h9 => h9) rfl dX4_goerHome_67 ?_
        refine lv_goto (tgt := 74) hx hb dX4_goerHome_70 (by decide) ?_
        refine xv_int (y := xLk si a2) (by simp [xLk, c_16]) ?_
        exact K_74 () _ (lv_sub hl [0, 1, 2, 3, 4, 5, 6, 7] rfl)
      · refine lv_iload_n hx hb dX4_goerHome_53 rfl (lv_at hl 5 rfl) ?_
        refine lv_iconst (v := 3) hx hb dX4_goerHome_54 (by decide) ?_
        refine lv_icmp_eq (tgt := 63) hx hb dX4_goerHome_55 (by decide) (fun c_17 => ?_) (fun c_17 => ?_)
        · refine lv_aload_n hx hb dX4_goerHome_63 rfl (lv_at hl 3 rfl) ?_
          refine va_get (D := D) (ci := 4) (v := .ref rd) (C := RX4) (T := TX4) (N := 10) hx hb hts hwX4 hown hK hP 0 rfl rfl 0 (by decide) (hts (.fieldLink RX4 10 "WaitOrWalkOn" "road" "LWaitOrWalkOn$Road;") (by decide +kernel)) (fun _ h9 => h9) rfl dX4_goerHome_64 ?_
          refine va_get (D := D) (ci := 2) (v := .int si) (C := RX2) (T := TX2) (N := 8) hx hb hts hwX2 hown hK hP 1 rfl rfl 3 (by decide) (hts (.fieldLink RX4 231 "WaitOrWalkOn$Road" "sight" "I") (by decide +kernel)) (fun _ h9 => h9) rfl dX4_goerHome_67 ?_
          refine lv_goto (tgt := 74) hx hb dX4_goerHome_70 (by decide) ?_
          refine xv_int (y := xLk si a2) (by simp [xLk, c_16, c_17]) ?_
          exact K_74 () _ (lv_sub hl [0, 1, 2, 3, 4, 5, 6, 7] rfl)
        · refine lv_iload_n hx hb dX4_goerHome_58 rfl (lv_at hl 5 rfl) ?_
          refine lv_iconst (v := 5) hx hb dX4_goerHome_59 (by decide) ?_
          refine lv_icmp_ne (tgt := 73) hx hb dX4_goerHome_60 (by decide) (fun c_18 => ?_) (fun c_18 => ?_)
          · refine lv_iconst (v := 0) hx hb dX4_goerHome_73 (by decide) ?_
            refine xv_int (y := xLk si a2) (by simp [xLk, c_16, c_17, c_18]) ?_
            exact K_74 () _ (lv_sub hl [0, 1, 2, 3, 4, 5, 6, 7] rfl)
          · refine lv_aload_n hx hb dX4_goerHome_63 rfl (lv_at hl 3 rfl) ?_
            refine va_get (D := D) (ci := 4) (v := .ref rd) (C := RX4) (T := TX4) (N := 10) hx hb hts hwX4 hown hK hP 0 rfl rfl 0 (by decide) (hts (.fieldLink RX4 10 "WaitOrWalkOn" "road" "LWaitOrWalkOn$Road;") (by decide +kernel)) (fun _ h9 => h9) rfl dX4_goerHome_64 ?_
            refine va_get (D := D) (ci := 2) (v := .int si) (C := RX2) (T := TX2) (N := 8) hx hb hts hwX2 hown hK hP 1 rfl rfl 3 (by decide) (hts (.fieldLink RX4 231 "WaitOrWalkOn$Road" "sight" "I") (by decide +kernel)) (fun _ h9 => h9) rfl dX4_goerHome_67 ?_
            refine lv_goto (tgt := 74) hx hb dX4_goerHome_70 (by decide) ?_
            refine xv_int (y := xLk si a2) (by simp [xLk, c_16, c_17, c_18]) ?_
            exact K_74 () _ (lv_sub hl [0, 1, 2, 3, 4, 5, 6, 7] rfl)
  · intro K_33
    refine lv_iload_n hx hb dX4_goerHome_9 rfl (lv_at hl 3 rfl) ?_
    refine lv_iconst (v := 4) hx hb dX4_goerHome_10 (by decide) ?_
    refine lv_icmp_ne (tgt := 26) hx hb dX4_goerHome_11 (by decide) (fun c_19 => ?_) (fun c_19 => ?_)
    · refine lv_aload_n hx hb dX4_goerHome_26 rfl (lv_at hl 1 rfl) ?_
      refine va_get (D := D) (ci := 4) (v := .ref rd) (C := RX4) (T := TX4) (N := 10) hx hb hts hwX4 hown hK hP 0 rfl rfl 0 (by decide) (hts (.fieldLink RX4 10 "WaitOrWalkOn" "road" "LWaitOrWalkOn$Road;") (by decide +kernel)) (fun _ h9 => h9) rfl dX4_goerHome_27 ?_
      refine va_get (D := D) (ci := 2) (v := .int pa) (C := RX2) (T := TX2) (N := 8) hx hb hts hwX2 hown hK hP 1 rfl rfl 2 (by decide) (hts (.fieldLink RX4 182 "WaitOrWalkOn$Road" "pace" "I") (by decide +kernel)) (fun _ h9 => h9) rfl dX4_goerHome_30 ?_
      refine xv_int (y := xPc2 pa a2) (by simp [xPc2, c_19]) ?_
      exact K_33 () _ (lv_sub hl [0, 1, 2, 3, 4, 5] rfl)
    · refine lv_iconst (v := 2) hx hb dX4_goerHome_14 (by decide) ?_
      refine lv_aload_n hx hb dX4_goerHome_15 rfl (lv_at hl 1 rfl) ?_
      refine va_get (D := D) (ci := 4) (v := .ref rd) (C := RX4) (T := TX4) (N := 10) hx hb hts hwX4 hown hK hP 0 rfl rfl 0 (by decide) (hts (.fieldLink RX4 10 "WaitOrWalkOn" "road" "LWaitOrWalkOn$Road;") (by decide +kernel)) (fun _ h9 => h9) rfl dX4_goerHome_16 ?_
      refine va_get (D := D) (ci := 2) (v := .int pa) (C := RX2) (T := TX2) (N := 8) hx hb hts hwX2 hown hK hP 1 rfl rfl 2 (by decide) (hts (.fieldLink RX4 182 "WaitOrWalkOn$Road" "pace" "I") (by decide +kernel)) (fun _ h9 => h9) rfl dX4_goerHome_19 ?_
      refine lv_imul hx hb dX4_goerHome_22 ?_
      refine lv_goto (tgt := 33) hx hb dX4_goerHome_23 (by decide) ?_
      refine xv_int (y := xPc2 pa a2) (by simp [xPc2, c_19]) ?_
      exact K_33 () _ (lv_sub hl [0, 1, 2, 3, 4, 5] rfl)
