set_option maxHeartbeats 4000000 in
set_option maxRecDepth 100000 in
theorem c_X0_init (l : Launch) (D : va_G) (cI cL cZ cC : ClassId) (sz : Nat) (h0 : Nat)  : Met l yX0_init wsX0_init ({ frames := 1, cells := 1, slots := 12, locals := 12 } : Room) (wPcX D [.ref h0] [(h0, .inr (0, [.int 0, .int 0, .int 0, .null]))] (xTy cI cL cZ cC) sz) (va_Qv (fun (_ : Unit) => True) (fun (_ : Unit) t => ∃ n0 : Nat, va_P D vwCl [(h0, .inr (0, [.int 0, .int 0, .int 0, .ref n0])), (n0, .inl (cI, 12, .inl (fun _ => 0)))] t.heap ∧ va_D (va_A [(h0, .inr (0, [.int 0, .int 0, .int 0, .null]))] sz) [(h0, .inr (0, [.int 0, .int 0, .int 0, .ref n0])), (n0, .inl (cI, 12, .inl (fun _ => 0)))]) (va_A [(h0, .inr (0, [.int 0, .int 0, .int 0, .null]))] sz)) 1 12 (va_A [(h0, .inr (0, [.int 0, .int 0, .int 0, .null]))] sz) := by
  refine Met.ofW (cc := cX0_init) (maxL := 1) (ret := none) (by decide) rfl ?_
  intro p e s m args below meth c s₁ B hml hv
  obtain ⟨rfl, hsz, hP, hK, hD0, hX9⟩ := hv
  have hx := B.exec
  have hb := B.bytes
  have hr := B.returns
  have hts := atoms_spec (ws := wsX0_init) B.pre
  have hown : s.vm.findClass RX0 = some m.cls := findClass_of_methodNamed B.named
  have hlocks := B.notSynchronized
  have hin : meth.name = "<init>" := (name_of_methodNamed B.named B.method).1
  have hwX0 : ∀ w ∈ u_ws RX0 TX0 4, w ∈ wsX0_init := fun _ h => List.mem_cons_of_mem _ (List.mem_append_right _ h)
  subst hsz
  have hD := hD0.self (sz := s.heap.size)
  generalize hAe : va_A [(h0, .inr (0, [.int 0, .int 0, .int 0, .null]))] s.heap.size = A at hD ⊢
  have hA : ∀ q : Nat, s.heap.size ≤ q → A q := fun q h => by rw [← hAe]; exact Or.inr h
  have hS : va_S A s.heap s.heap [] := va_S.rf
  have hP : va_P D vwCl [(h0, .inr (0, [.int 0, .int 0, .int 0, .null]))] s.heap := hP
  have hl := lv_entry ([.ref h0]) (n := 1) (Nat.le_of_ble_eq_true rfl)
  rw [lg_entry_eq]
  generalize (lg_sl ([.ref h0]) ++ List.replicate (1 - (lg_sl ([.ref h0])).length) Slot.unset).toArray = ls at hl ⊢
  have hl : lv_has ls 1 [(0, .ref h0)] := hl
  refine lv_aload_n hx hb dX0_init_0 rfl (lv_at hl 0 rfl) ?_
  refine W.objInit hx hb hown (hts (.methodLink RX0 3 objectInit) (by decide +kernel)) (hts (.instanceMethod objectInit) (by decide +kernel)) (hts (.code objectInit ⟨#[0xb1]⟩ 1 none) (by decide +kernel)) rfl (by rw [hml]; exact hl.1) rfl dX0_init_1 (Nat.le_of_ble_eq_true rfl) (Nat.le_of_ble_eq_true rfl) ?_
  refine W.eq (g2 := F0 m 4 ls []) rfl ?_
  refine lv_aload_n hx hb dX0_init_4 rfl (lv_at hl 0 rfl) ?_
  refine lv_bipush (v := 12) hx hb dX0_init_5 (by decide) ?_
  refine va_newa (D := D) (atype := .int) (ty := .int) (N' := 12) (a0 := (12, .inl (fun _ => 0))) hx hb (hts (.arrayClass .int) (by decide +kernel)) rfl hK hP hD hS hA (fun _ => rfl) (by decide +kernel) (by decide +kernel) (Nat.le_of_ble_eq_true rfl) (Nat.le_of_ble_eq_true rfl) (Nat.le_of_ble_eq_true rfl) dX0_init_7 (fun q_7_1 cA H hK2 hP hD hS => ?_)
  obtain rfl : cI = cA := xK_uniq hK2 0 4 rfl rfl (by decide)
  have hP : va_P D vwCl [(h0, .inr (0, [.int 0, .int 0, .int 0, .null])), (q_7_1, .inl (cI, 12, .inl (fun _ => 0)))] H := hP
  have hD : va_D A [(h0, .inr (0, [.int 0, .int 0, .int 0, .null])), (q_7_1, .inl (cI, 12, .inl (fun _ => 0)))] := hD
  refine W.widen (k := 1) (n := 12) (Nat.le_of_ble_eq_true rfl) (Nat.le_of_ble_eq_true rfl) ?_
  refine va_putF (D := D) (ci := 0) (v := .ref q_7_1) (ty := (.array .int)) (C := RX0) (T := TX0) (N := 4) hx hb hts hwX0 tyX0 tyX0_ok nmX0 hown hK hP hD hS 0 rfl rfl 3 (by decide) (hts (.fieldLink RX0 9 "WaitOrWalkOn$Line" "chances" "[I") (by decide +kernel)) (fun _ h9 => h9) rfl hin rfl (by decide +kernel) (by decide +kernel) rfl (Nat.le_of_ble_eq_true rfl) dX0_init_9 (fun H locs hP hD hS => ?_)
  have hP : va_P D vwCl [(h0, .inr (0, [.int 0, .int 0, .int 0, .ref q_7_1])), (q_7_1, .inl (cI, 12, .inl (fun _ => 0)))] H := hP
  have hD : va_D A [(h0, .inr (0, [.int 0, .int 0, .int 0, .ref q_7_1])), (q_7_1, .inl (cI, 12, .inl (fun _ => 0)))] := hD
  have hP9 := hP.sub (ws' := [(h0, .inr (0, [.int 0, .int 0, .int 0, .ref q_7_1])), (q_7_1, .inl (cI, 12, .inl (fun _ => 0)))]) [0, 1] rfl
  have hD9 := hD.sub (ws' := [(h0, .inr (0, [.int 0, .int 0, .int 0, .ref q_7_1])), (q_7_1, .inl (cI, 12, .inl (fun _ => 0)))]) [0, 1] (by decide) rfl
  exact W.vret hx hb hr (fun t ht hW => ⟨⟨(), rfl, trivial, q_7_1, by rw [ht]; exact hP9, hD9⟩, hS.F ht⟩) hS.2.2 dX0_init_12

set_option maxHeartbeats 4000000 in
set_option maxRecDepth 100000 in
theorem c_X2_init (l : Launch) (D : va_G) (cI cL cZ cC : ClassId) (sz : Nat) (h0 : Nat)  : Met l yX2_init wsX2_init ({ frames := 2, cells := 8, slots := 58, locals := 32 } : Room) (wPcX D [.ref h0] [(h0, .inr (2, [.int 0, .int 0, .int 0, .int 0, .int 0, .int 0, .null, .null]))] (xTy cI cL cZ cC) sz) (va_Qv (fun (_ : Unit) => True) (fun (_ : Unit) t => ∃ n0 : Nat, ∃ n1 : Nat, ∃ n2 : Nat, ∃ n3 : Nat, ∃ n4 : Nat, ∃ n5 : Nat, ∃ n6 : Nat, ∃ n7 : Nat, va_P D vwCl [(h0, .inr (2, [.int 1, .int 400, .int 80, .int 2, .int 30, .int 0, .ref n0, .ref n1])), (n0, .inl (cI, 7, .inl (fun _ => 0))), (n1, .inl (cL, 3, .inr (.inr (.inr (.inr (xL3 n2 n4 n6)))))), (n2, .inr (0, [.int 0, .int 0, .int 0, .ref n3])), (n3, .inl (cI, 12, .inl (fun _ => 0))), (n4, .inr (0, [.int 0, .int 0, .int 0, .ref n5])), (n5, .inl (cI, 12, .inl (fun _ => 0))), (n6, .inr (0, [.int 0, .int 0, .int 0, .ref n7])), (n7, .inl (cI, 12, .inl (fun _ => 0)))] t.heap ∧ va_D (va_A [(h0, .inr (2, [.int 0, .int 0, .int 0, .int 0, .int 0, .int 0, .null, .null]))] sz) [(h0, .inr (2, [.int 1, .int 400, .int 80, .int 2, .int 30, .int 0, .ref n0, .ref n1])), (n0, .inl (cI, 7, .inl (fun _ => 0))), (n1, .inl (cL, 3, .inr (.inr (.inr (.inr (xL3 n2 n4 n6)))))), (n2, .inr (0, [.int 0, .int 0, .int 0, .ref n3])), (n3, .inl (cI, 12, .inl (fun _ => 0))), (n4, .inr (0, [.int 0, .int 0, .int 0, .ref n5])), (n5, .inl (cI, 12, .inl (fun _ => 0))), (n6, .inr (0, [.int 0, .int 0, .int 0, .ref n7])), (n7, .inl (cI, 12, .inl (fun _ => 0)))]) (va_A [(h0, .inr (2, [.int 0, .int 0, .int 0, .int 0, .int 0, .int 0, .null, .null]))] sz)) 8 58 (va_A [(h0, .inr (2, [.int 0, .int 0, .int 0, .int 0, .int 0, .int 0, .null, .null]))] sz) := by
  refine Met.ofW (cc := cX2_init) (maxL := 2) (ret := none) (by decide) rfl ?_
  intro p e s m args below meth c s₁ B hml hv
  obtain ⟨rfl, hsz, hP, hK, hD0, hX9⟩ := hv
  have hx := B.exec
  have hb := B.bytes
  have hr := B.returns
  have hts := atoms_spec (ws := wsX2_init) B.pre
  have hown : s.vm.findClass RX2 = some m.cls := findClass_of_methodNamed B.named
  have hlocks := B.notSynchronized
  have hin : meth.name = "<init>" := (name_of_methodNamed B.named B.method).1
  have hwX0 : ∀ w ∈ u_ws RX0 TX0 4, w ∈ wsX2_init := fun _ h => List.mem_cons_of_mem _ (List.mem_append_right _ h)
  have hwX2 : ∀ w ∈ u_ws RX2 TX2 8, w ∈ wsX2_init := fun _ h => List.mem_cons_of_mem _ (List.mem_append_left _ (List.mem_append_right _ h))
  subst hsz
  have hD := hD0.self (sz := s.heap.size)
  generalize hAe : va_A [(h0, .inr (2, [.int 0, .int 0, .int 0, .int 0, .int 0, .int 0, .null, .null]))] s.heap.size = A at hD ⊢
  have hA : ∀ q : Nat, s.heap.size ≤ q → A q := fun q h => by rw [← hAe]; exact Or.inr h
  have hS : va_S A s.heap s.heap [] := va_S.rf
  have hP : va_P D vwCl [(h0, .inr (2, [.int 0, .int 0, .int 0, .int 0, .int 0, .int 0, .null, .null]))] s.heap := hP
  have hl := lv_entry ([.ref h0]) (n := 2) (Nat.le_of_ble_eq_true rfl)
  rw [lg_entry_eq]
  generalize (lg_sl ([.ref h0]) ++ List.replicate (2 - (lg_sl ([.ref h0])).length) Slot.unset).toArray = ls at hl ⊢
  have hl : lv_has ls 2 [(0, .ref h0)] := hl
  refine lv_aload_n hx hb dX2_init_0 rfl (lv_at hl 0 rfl) ?_
  refine W.objInit hx hb hown (hts (.methodLink RX2 3 objectInit) (by decide +kernel)) (hts (.instanceMethod objectInit) (by decide +kernel)) (hts (.code objectInit ⟨#[0xb1]⟩ 1 none) (by decide +kernel)) rfl (by rw [hml]; exact hl.1) rfl dX2_init_1 (Nat.le_of_ble_eq_true rfl) (Nat.le_of_ble_eq_true rfl) ?_
  refine W.eq (g2 := F0 m 4 ls []) rfl ?_
  refine lv_aload_n hx hb dX2_init_4 rfl (lv_at hl 0 rfl) ?_
  refine lv_iconst (v := 1) hx hb dX2_init_5 (by decide) ?_
  refine va_put (D := D) (ci := 2) (v := .int 1) (ty := .int) (C := RX2) (T := TX2) (N := 8) hx hb hts hwX2 tyX2 tyX2_ok nmX2 hown hK hP hD hS 0 rfl rfl 0 (by decide) (hts (.fieldLink RX2 9 "WaitOrWalkOn$Road" "stops" "I") (by decide +kernel)) (fun _ h9 => h9) rfl (by decide +kernel) (by decide +kernel) rfl (Nat.le_of_ble_eq_true rfl) dX2_init_6 (fun H locs hP hD hS => ?_)
  have hP : va_P D vwCl [(h0, .inr (2, [.int 1, .int 0, .int 0, .int 0, .int 0, .int 0, .null, .null]))] H := hP
  have hD : va_D A [(h0, .inr (2, [.int 1, .int 0, .int 0, .int 0, .int 0, .int 0, .null, .null]))] := hD
  refine lv_aload_n hx hb dX2_init_9 rfl (lv_at hl 0 rfl) ?_
  refine lv_sipush (v := 400) hx hb dX2_init_10 (by decide) ?_
  refine va_put (D := D) (ci := 2) (v := .int 400) (ty := .int) (C := RX2) (T := TX2) (N := 8) hx hb hts hwX2 tyX2 tyX2_ok nmX2 hown hK hP hD hS 0 rfl rfl 1 (by decide) (hts (.fieldLink RX2 15 "WaitOrWalkOn$Road" "home" "I") (by decide +kernel)) (fun _ h9 => h9) rfl (by decide +kernel) (by decide +kernel) rfl (Nat.le_of_ble_eq_true rfl) dX2_init_13 (fun H locs hP hD hS => ?_)
  have hP : va_P D vwCl [(h0, .inr (2, [.int 1, .int 400, .int 0, .int 0, .int 0, .int 0, .null, .null]))] H := hP
  have hD : va_D A [(h0, .inr (2, [.int 1, .int 400, .int 0, .int 0, .int 0, .int 0, .null, .null]))] := hD
  refine lv_aload_n hx hb dX2_init_16 rfl (lv_at hl 0 rfl) ?_
  refine lv_bipush (v := 80) hx hb dX2_init_17 (by decide) ?_
  refine va_put (D := D) (ci := 2) (v := .int 80) (ty := .int) (C := RX2) (T := TX2) (N := 8) hx hb hts hwX2 tyX2 tyX2_ok nmX2 hown hK hP hD hS 0 rfl rfl 2 (by decide) (hts (.fieldLink RX2 18 "WaitOrWalkOn$Road" "pace" "I") (by decide +kernel)) (fun _ h9 => h9) rfl (by decide +kernel) (by decide +kernel) rfl (Nat.le_of_ble_eq_true rfl) dX2_init_19 (fun H locs hP hD hS => ?_)
  have hP : va_P D vwCl [(h0, .inr (2, [.int 1, .int 400, .int 80, .int 0, .int 0, .int 0, .null, .null]))] H := hP
  have hD : va_D A [(h0, .inr (2, [.int 1, .int 400, .int 80, .int 0, .int 0, .int 0, .null, .null]))] := hD
  refine lv_aload_n hx hb dX2_init_22 rfl (lv_at hl 0 rfl) ?_
  refine lv_iconst (v := 2) hx hb dX2_init_23 (by decide) ?_
  refine va_put (D := D) (ci := 2) (v := .int 2) (ty := .int) (C := RX2) (T := TX2) (N := 8) hx hb hts hwX2 tyX2 tyX2_ok nmX2 hown hK hP hD hS 0 rfl rfl 3 (by decide) (hts (.fieldLink RX2 21 "WaitOrWalkOn$Road" "sight" "I") (by decide +kernel)) (fun _ h9 => h9) rfl (by decide +kernel) (by decide +kernel) rfl (Nat.le_of_ble_eq_true rfl) dX2_init_24 (fun H locs hP hD hS => ?_)
  have hP : va_P D vwCl [(h0, .inr (2, [.int 1, .int 400, .int 80, .int 2, .int 0, .int 0, .null, .null]))] H := hP
  have hD : va_D A [(h0, .inr (2, [.int 1, .int 400, .int 80, .int 2, .int 0, .int 0, .null, .null]))] := hD
  refine lv_aload_n hx hb dX2_init_27 rfl (lv_at hl 0 rfl) ?_
  refine lv_bipush (v := 30) hx hb dX2_init_28 (by decide) ?_
  refine va_put (D := D) (ci := 2) (v := .int 30) (ty := .int) (C := RX2) (T := TX2) (N := 8) hx hb hts hwX2 tyX2 tyX2_ok nmX2 hown hK hP hD hS 0 rfl rfl 4 (by decide) (hts (.fieldLink RX2 24 "WaitOrWalkOn$Road" "limit" "I") (by decide +kernel)) (fun _ h9 => h9) rfl (by decide +kernel) (by decide +kernel) rfl (Nat.le_of_ble_eq_true rfl) dX2_init_30 (fun H locs hP hD hS => ?_)
  have hP : va_P D vwCl [(h0, .inr (2, [.int 1, .int 400, .int 80, .int 2, .int 30, .int 0, .null, .null]))] H := hP
  have hD : va_D A [(h0, .inr (2, [.int 1, .int 400, .int 80, .int 2, .int 30, .int 0, .null, .null]))] := hD
  refine lv_aload_n hx hb dX2_init_33 rfl (lv_at hl 0 rfl) ?_
  refine lv_iconst (v := 0) hx hb dX2_init_34 (by decide) ?_
  refine va_put (D := D) (ci := 2) (v := .int 0) (ty := .int) (C := RX2) (T := TX2) (N := 8) hx hb hts hwX2 tyX2 tyX2_ok nmX2 hown hK hP hD hS 0 rfl rfl 5 (by decide) (hts (.fieldLink RX2 27 "WaitOrWalkOn$Road" "lineCount" "I") (by decide +kernel)) (fun _ h9 => h9) rfl (by decide +kernel) (by decide +kernel) rfl (Nat.le_of_ble_eq_true rfl) dX2_init_35 (fun H locs hP hD hS => ?_)
  have hP : va_P D vwCl [(h0, .inr (2, [.int 1, .int 400, .int 80, .int 2, .int 30, .int 0, .null, .null]))] H := hP
  have hD : va_D A [(h0, .inr (2, [.int 1, .int 400, .int 80, .int 2, .int 30, .int 0, .null, .null]))] := hD
  refine lv_aload_n hx hb dX2_init_38 rfl (lv_at hl 0 rfl) ?_
  refine lv_bipush (v := 7) hx hb dX2_init_39 (by decide) ?_
  refine va_newa (D := D) (atype := .int) (ty := .int) (N' := 7) (a0 := (7, .inl (fun _ => 0))) hx hb (hts (.arrayClass .int) (by decide +kernel)) rfl hK hP hD hS hA (fun _ => rfl) (by decide +kernel) (by decide +kernel) (Nat.le_of_ble_eq_true rfl) (Nat.le_of_ble_eq_true rfl) (Nat.le_of_ble_eq_true rfl) dX2_init_41 (fun q_41_1 cA H hK2 hP hD hS => ?_)
  obtain rfl : cI = cA := xK_uniq hK2 0 4 rfl rfl (by decide)
  have hP : va_P D vwCl [(h0, .inr (2, [.int 1, .int 400, .int 80, .int 2, .int 30, .int 0, .null, .null])), (q_41_1, .inl (cI, 7, .inl (fun _ => 0)))] H := hP
  have hD : va_D A [(h0, .inr (2, [.int 1, .int 400, .int 80, .int 2, .int 30, .int 0, .null, .null])), (q_41_1, .inl (cI, 7, .inl (fun _ => 0)))] := hD
  refine W.widen (k := 1) (n := 7) (Nat.le_of_ble_eq_true rfl) (Nat.le_of_ble_eq_true rfl) ?_
  refine va_putF (D := D) (ci := 2) (v := .ref q_41_1) (ty := (.array .int)) (C := RX2) (T := TX2) (N := 8) hx hb hts hwX2 tyX2 tyX2_ok nmX2 hown hK hP hD hS 0 rfl rfl 6 (by decide) (hts (.fieldLink RX2 30 "WaitOrWalkOn$Road" "legs" "[I") (by decide +kernel)) (fun _ h9 => h9) rfl hin rfl (by decide +kernel) (by decide +kernel) rfl (Nat.le_of_ble_eq_true rfl) dX2_init_43 (fun H locs hP hD hS => ?_)
  have hP : va_P D vwCl [(h0, .inr (2, [.int 1, .int 400, .int 80, .int 2, .int 30, .int 0, .ref q_41_1, .null])), (q_41_1, .inl (cI, 7, .inl (fun _ => 0)))] H := hP
  have hD : va_D A [(h0, .inr (2, [.int 1, .int 400, .int 80, .int 2, .int 30, .int 0, .ref q_41_1, .null])), (q_41_1, .inl (cI, 7, .inl (fun _ => 0)))] := hD
  refine lv_aload_n hx hb dX2_init_46 rfl (lv_at hl 0 rfl) ?_
  refine lv_iconst (v := 3) hx hb dX2_init_47 (by decide) ?_
  refine va_newq (D := D) (N' := 3) (C := RX0) hx hb hown (hts (.classLink RX2 34 RX0) (by decide +kernel)) hX9.1 hK hP hD hS hA (by decide +kernel) (by decide +kernel) (Nat.le_of_ble_eq_true rfl) (Nat.le_of_ble_eq_true rfl) (Nat.le_of_ble_eq_true rfl) dX2_init_48 (fun q_48_2 cA H hK2 hP hD hS => ?_)
  obtain rfl : cL = cA := xK_uniq hK2 1 4 rfl rfl (by decide)
  have hP : va_P D vwCl [(h0, .inr (2, [.int 1, .int 400, .int 80, .int 2, .int 30, .int 0, .ref q_41_1, .null])), (q_41_1, .inl (cI, 7, .inl (fun _ => 0))), (q_48_2, .inl (cL, 3, .inr (.inr (.inr (.inr (fun _ => none))))))] H := hP
  have hD : va_D A [(h0, .inr (2, [.int 1, .int 400, .int 80, .int 2, .int 30, .int 0, .ref q_41_1, .null])), (q_41_1, .inl (cI, 7, .inl (fun _ => 0))), (q_48_2, .inl (cL, 3, .inr (.inr (.inr (.inr (fun _ => none))))))] := hD
  refine W.widen (k := 2) (n := 10) (Nat.le_of_ble_eq_true rfl) (Nat.le_of_ble_eq_true rfl) ?_
  refine va_putF (D := D) (ci := 2) (v := .ref q_48_2) (ty := (.array (.object "WaitOrWalkOn$Line"))) (C := RX2) (T := TX2) (N := 8) hx hb hts hwX2 tyX2 tyX2_ok nmX2 hown hK hP hD hS 0 rfl rfl 7 (by decide) (hts (.fieldLink RX2 36 "WaitOrWalkOn$Road" "lines" "[LWaitOrWalkOn$Line;") (by decide +kernel)) (fun _ h9 => h9) rfl hin rfl (by decide +kernel) (by decide +kernel) rfl (Nat.le_of_ble_eq_true rfl) dX2_init_51 (fun H locs hP hD hS => ?_)
  have hP : va_P D vwCl [(h0, .inr (2, [.int 1, .int 400, .int 80, .int 2, .int 30, .int 0, .ref q_41_1, .ref q_48_2])), (q_41_1, .inl (cI, 7, .inl (fun _ => 0))), (q_48_2, .inl (cL, 3, .inr (.inr (.inr (.inr (fun _ => none))))))] H := hP
  have hD : va_D A [(h0, .inr (2, [.int 1, .int 400, .int 80, .int 2, .int 30, .int 0, .ref q_41_1, .ref q_48_2])), (q_41_1, .inl (cI, 7, .inl (fun _ => 0))), (q_48_2, .inl (cL, 3, .inr (.inr (.inr (.inr (fun _ => none))))))] := hD
  refine lv_iconst (v := 0) hx hb dX2_init_54 (by decide) ?_
  refine lv_istore_n (lv' := [(1, .int 0), (0, .ref h0)]) hx hb dX2_init_55 rfl hl (by decide) rfl (fun ls hl => ?_)
  refine lv_iload_n hx hb dX2_init_56 rfl (lv_at hl 0 rfl) ?_
  refine lv_iconst (v := 3) hx hb dX2_init_57 (by decide) ?_
  refine lv_icmp_ge (tgt := 80) hx hb dX2_init_58 (by decide) (fun c_3 => absurd c_3 (by decide +kernel)) (fun c_3 => ?_)
  refine lv_aload_n hx hb dX2_init_61 rfl (lv_at hl 1 rfl) ?_
  refine va_get (D := D) (ci := 2) (v := .ref q_48_2) (C := RX2) (T := TX2) (N := 8) hx hb hts hwX2 hown hK hP 0 rfl rfl 7 (by decide) (hts (.fieldLink RX2 36 "WaitOrWalkOn$Road" "lines" "[LWaitOrWalkOn$Line;") (by decide +kernel)) (fun _ h9 => h9) rfl dX2_init_62 ?_
  refine lv_iload_n hx hb dX2_init_65 rfl (lv_at hl 0 rfl) ?_
  refine va_new (D := D) (ci := 0) (fs := [.int 0, .int 0, .int 0, .null]) (C := RX0) (T := TX0) (N := 4) hx hb hts hwX0 tyX0 tyX0_ok hown (hts (.classLink RX2 34 RX0) (by decide +kernel)) (hts (.instantiable RX0 4) (by decide +kernel)) (hts (.initialized RX0) (by decide +kernel)) hK hP hD hS hA rfl (fun j hj => by rcases (show j = 0 ∨ j = 1 ∨ j = 2 ∨ j = 3 by omega) with rfl | rfl | rfl | rfl <;> rfl) (Nat.le_of_ble_eq_true rfl) (Nat.le_of_ble_eq_true rfl) dX2_init_66 (fun q_66_4 H hP hD hS => ?_)
  have hP : va_P D vwCl [(h0, .inr (2, [.int 1, .int 400, .int 80, .int 2, .int 30, .int 0, .ref q_41_1, .ref q_48_2])), (q_41_1, .inl (cI, 7, .inl (fun _ => 0))), (q_48_2, .inl (cL, 3, .inr (.inr (.inr (.inr (fun _ => none)))))), (q_66_4, .inr (0, [.int 0, .int 0, .int 0, .null]))] H := hP
  have hD : va_D A [(h0, .inr (2, [.int 1, .int 400, .int 80, .int 2, .int 30, .int 0, .ref q_41_1, .ref q_48_2])), (q_41_1, .inl (cI, 7, .inl (fun _ => 0))), (q_48_2, .inl (cL, 3, .inr (.inr (.inr (.inr (fun _ => none)))))), (q_66_4, .inr (0, [.int 0, .int 0, .int 0, .null]))] := hD
  refine W.widen (k := 3) (n := 14) (Nat.le_of_ble_eq_true rfl) (Nat.le_of_ble_eq_true rfl) ?_
  refine lv_dup hx hb dX2_init_69 rfl ?_
  have hPc := hP.sub (ws' := [(q_66_4, .inr (0, [.int 0, .int 0, .int 0, .null]))]) [3] rfl
  have hDc := hD.sub (ws' := [(q_66_4, .inr (0, [.int 0, .int 0, .int 0, .null]))]) [3] (by decide) rfl
  have hFc := va_free (wc := [(q_66_4, .inr (0, [.int 0, .int 0, .int 0, .null]))]) hD hS hA [3] rfl
  refine va_callv (va_runIN (As := []) (rest := [.ref q_66_4, .int 0, .ref q_48_2]) ⟨hx, hb, hml, hown, hts⟩ (c_X0_init l D cI cL cZ cC _ q_66_4 ) ⟨va_cnB 0 hts gX2_init_X0_init_n40 rfl rfl rfl hX9.2.1 (hts (.initialized RX0) (by decide +kernel)) (by decide +kernel) ⟨Nat.le_of_ble_eq_true rfl, Nat.le_of_ble_eq_true rfl⟩, rfl, (hts (.instanceMethod yX0_init) (by decide +kernel))⟩ ⟨wPcX_bl, wPcX_use hPc hK hDc hX9⟩ rfl rfl hl.1 rfl (lv_room (Nat.le_of_ble_eq_true rfl)) dX2_init_70 ⟨Nat.le_of_ble_eq_true rfl, Nat.le_of_ble_eq_true rfl⟩) hS (fun q _ h => hFc q h) hFc (fun u_5 t H1 locs ht hvm hw hB hz1 hk1 hS => ?_)
  obtain ⟨n0_5, hP1, hD1⟩ := hB
  rw [ht] at hP1
  obtain ⟨hP, hD⟩ := va_join (wr := [(h0, .inr (2, [.int 1, .int 400, .int 80, .int 2, .int 30, .int 0, .ref q_41_1, .ref q_48_2])), (q_41_1, .inl (cI, 7, .inl (fun _ => 0))), (q_48_2, .inl (cL, 3, .inr (.inr (.inr (.inr (fun _ => none))))))]) (w1 := [(q_66_4, .inr (0, [.int 0, .int 0, .int 0, .ref n0_5])), (n0_5, .inl (cI, 12, .inl (fun _ => 0)))]) hP hD [3] [0, 1, 2] rfl rfl (by decide) (by decide) hk1 hFc hP1 hD1
  generalize H1 = H at hP hS ⊢
  have hP : va_P D vwCl [(h0, .inr (2, [.int 1, .int 400, .int 80, .int 2, .int 30, .int 0, .ref q_41_1, .ref q_48_2])), (q_41_1, .inl (cI, 7, .inl (fun _ => 0))), (q_48_2, .inl (cL, 3, .inr (.inr (.inr (.inr (fun _ => none)))))), (q_66_4, .inr (0, [.int 0, .int 0, .int 0, .ref n0_5])), (n0_5, .inl (cI, 12, .inl (fun _ => 0)))] H := hP
  have hD : va_D A [(h0, .inr (2, [.int 1, .int 400, .int 80, .int 2, .int 30, .int 0, .ref q_41_1, .ref q_48_2])), (q_41_1, .inl (cI, 7, .inl (fun _ => 0))), (q_48_2, .inl (cL, 3, .inr (.inr (.inr (.inr (fun _ => none)))))), (q_66_4, .inr (0, [.int 0, .int 0, .int 0, .ref n0_5])), (n0_5, .inl (cI, 12, .inl (fun _ => 0)))] := hD
  refine W.widen (k := 4) (n := 26) (Nat.le_of_ble_eq_true rfl) (Nat.le_of_ble_eq_true rfl) ?_
  refine va_astq (D := D) (r := (RX0, TX0, 4)) hx hb hK hP hD hS 2 1 3 0 rfl rfl rfl rfl (by decide +kernel) dX2_init_73 (fun H locs hP hD hS => ?_)
  have hP : va_P D vwCl [(h0, .inr (2, [.int 1, .int 400, .int 80, .int 2, .int 30, .int 0, .ref q_41_1, .ref q_48_2])), (q_41_1, .inl (cI, 7, .inl (fun _ => 0))), (q_48_2, .inl (cL, 3, .inr (.inr (.inr (.inr (va_up (fun _ => none) 0 (some q_66_4))))))), (q_66_4, .inr (0, [.int 0, .int 0, .int 0, .ref n0_5])), (n0_5, .inl (cI, 12, .inl (fun _ => 0)))] H := hP
  have hD : va_D A [(h0, .inr (2, [.int 1, .int 400, .int 80, .int 2, .int 30, .int 0, .ref q_41_1, .ref q_48_2])), (q_41_1, .inl (cI, 7, .inl (fun _ => 0))), (q_48_2, .inl (cL, 3, .inr (.inr (.inr (.inr (va_up (fun _ => none) 0 (some q_66_4))))))), (q_66_4, .inr (0, [.int 0, .int 0, .int 0, .ref n0_5])), (n0_5, .inl (cI, 12, .inl (fun _ => 0)))] := hD
  refine lv_iinc (v := 1) (lv' := [(1, .int 1), (0, .ref h0)]) hx hb dX2_init_74 hl (k := 0) rfl (by decide +kernel) (by decide) rfl (fun ls hl => ?_)
  refine lv_goto (tgt := 56) hx hb dX2_init_77 (by decide) ?_
  refine lv_iload_n hx hb dX2_init_56 rfl (lv_at hl 0 rfl) ?_
  refine lv_iconst (v := 3) hx hb dX2_init_57 (by decide) ?_
  refine lv_icmp_ge (tgt := 80) hx hb dX2_init_58 (by decide) (fun c_6 => absurd c_6 (by decide +kernel)) (fun c_6 => ?_)
  refine lv_aload_n hx hb dX2_init_61 rfl (lv_at hl 1 rfl) ?_
  refine va_get (D := D) (ci := 2) (v := .ref q_48_2) (C := RX2) (T := TX2) (N := 8) hx hb hts hwX2 hown hK hP 0 rfl rfl 7 (by decide) (hts (.fieldLink RX2 36 "WaitOrWalkOn$Road" "lines" "[LWaitOrWalkOn$Line;") (by decide +kernel)) (fun _ h9 => h9) rfl dX2_init_62 ?_
  refine lv_iload_n hx hb dX2_init_65 rfl (lv_at hl 0 rfl) ?_
  refine va_new (D := D) (ci := 0) (fs := [.int 0, .int 0, .int 0, .null]) (C := RX0) (T := TX0) (N := 4) hx hb hts hwX0 tyX0 tyX0_ok hown (hts (.classLink RX2 34 RX0) (by decide +kernel)) (hts (.instantiable RX0 4) (by decide +kernel)) (hts (.initialized RX0) (by decide +kernel)) hK hP hD hS hA rfl (fun j hj => by rcases (show j = 0 ∨ j = 1 ∨ j = 2 ∨ j = 3 by omega) with rfl | rfl | rfl | rfl <;> rfl) (Nat.le_of_ble_eq_true rfl) (Nat.le_of_ble_eq_true rfl) dX2_init_66 (fun q_66_7 H hP hD hS => ?_)
  have hP : va_P D vwCl [(h0, .inr (2, [.int 1, .int 400, .int 80, .int 2, .int 30, .int 0, .ref q_41_1, .ref q_48_2])), (q_41_1, .inl (cI, 7, .inl (fun _ => 0))), (q_48_2, .inl (cL, 3, .inr (.inr (.inr (.inr (va_up (fun _ => none) 0 (some q_66_4))))))), (q_66_4, .inr (0, [.int 0, .int 0, .int 0, .ref n0_5])), (n0_5, .inl (cI, 12, .inl (fun _ => 0))), (q_66_7, .inr (0, [.int 0, .int 0, .int 0, .null]))] H := hP
  have hD : va_D A [(h0, .inr (2, [.int 1, .int 400, .int 80, .int 2, .int 30, .int 0, .ref q_41_1, .ref q_48_2])), (q_41_1, .inl (cI, 7, .inl (fun _ => 0))), (q_48_2, .inl (cL, 3, .inr (.inr (.inr (.inr (va_up (fun _ => none) 0 (some q_66_4))))))), (q_66_4, .inr (0, [.int 0, .int 0, .int 0, .ref n0_5])), (n0_5, .inl (cI, 12, .inl (fun _ => 0))), (q_66_7, .inr (0, [.int 0, .int 0, .int 0, .null]))] := hD
  refine W.widen (k := 5) (n := 30) (Nat.le_of_ble_eq_true rfl) (Nat.le_of_ble_eq_true rfl) ?_
  refine lv_dup hx hb dX2_init_69 rfl ?_
  have hPc := hP.sub (ws' := [(q_66_7, .inr (0, [.int 0, .int 0, .int 0, .null]))]) [5] rfl
  have hDc := hD.sub (ws' := [(q_66_7, .inr (0, [.int 0, .int 0, .int 0, .null]))]) [5] (by decide) rfl
  have hFc := va_free (wc := [(q_66_7, .inr (0, [.int 0, .int 0, .int 0, .null]))]) hD hS hA [5] rfl
  refine va_callv (va_runIN (As := []) (rest := [.ref q_66_7, .int 1, .ref q_48_2]) ⟨hx, hb, hml, hown, hts⟩ (c_X0_init l D cI cL cZ cC _ q_66_7 ) ⟨va_cnB 0 hts gX2_init_X0_init_n40 rfl rfl rfl hX9.2.1 (hts (.initialized RX0) (by decide +kernel)) (by decide +kernel) ⟨Nat.le_of_ble_eq_true rfl, Nat.le_of_ble_eq_true rfl⟩, rfl, (hts (.instanceMethod yX0_init) (by decide +kernel))⟩ ⟨wPcX_bl, wPcX_use hPc hK hDc hX9⟩ rfl rfl hl.1 rfl (lv_room (Nat.le_of_ble_eq_true rfl)) dX2_init_70 ⟨Nat.le_of_ble_eq_true rfl, Nat.le_of_ble_eq_true rfl⟩) hS (fun q _ h => hFc q h) hFc (fun u_8 t H1 locs ht hvm hw hB hz1 hk1 hS => ?_)
  obtain ⟨n0_8, hP1, hD1⟩ := hB
  rw [ht] at hP1
  obtain ⟨hP, hD⟩ := va_join (wr := [(h0, .inr (2, [.int 1, .int 400, .int 80, .int 2, .int 30, .int 0, .ref q_41_1, .ref q_48_2])), (q_41_1, .inl (cI, 7, .inl (fun _ => 0))), (q_48_2, .inl (cL, 3, .inr (.inr (.inr (.inr (va_up (fun _ => none) 0 (some q_66_4))))))), (q_66_4, .inr (0, [.int 0, .int 0, .int 0, .ref n0_5])), (n0_5, .inl (cI, 12, .inl (fun _ => 0)))]) (w1 := [(q_66_7, .inr (0, [.int 0, .int 0, .int 0, .ref n0_8])), (n0_8, .inl (cI, 12, .inl (fun _ => 0)))]) hP hD [5] [0, 1, 2, 3, 4] rfl rfl (by decide) (by decide) hk1 hFc hP1 hD1
  generalize H1 = H at hP hS ⊢
  have hP : va_P D vwCl [(h0, .inr (2, [.int 1, .int 400, .int 80, .int 2, .int 30, .int 0, .ref q_41_1, .ref q_48_2])), (q_41_1, .inl (cI, 7, .inl (fun _ => 0))), (q_48_2, .inl (cL, 3, .inr (.inr (.inr (.inr (va_up (fun _ => none) 0 (some q_66_4))))))), (q_66_4, .inr (0, [.int 0, .int 0, .int 0, .ref n0_5])), (n0_5, .inl (cI, 12, .inl (fun _ => 0))), (q_66_7, .inr (0, [.int 0, .int 0, .int 0, .ref n0_8])), (n0_8, .inl (cI, 12, .inl (fun _ => 0)))] H := hP
  have hD : va_D A [(h0, .inr (2, [.int 1, .int 400, .int 80, .int 2, .int 30, .int 0, .ref q_41_1, .ref q_48_2])), (q_41_1, .inl (cI, 7, .inl (fun _ => 0))), (q_48_2, .inl (cL, 3, .inr (.inr (.inr (.inr (va_up (fun _ => none) 0 (some q_66_4))))))), (q_66_4, .inr (0, [.int 0, .int 0, .int 0, .ref n0_5])), (n0_5, .inl (cI, 12, .inl (fun _ => 0))), (q_66_7, .inr (0, [.int 0, .int 0, .int 0, .ref n0_8])), (n0_8, .inl (cI, 12, .inl (fun _ => 0)))] := hD
  refine W.widen (k := 6) (n := 42) (Nat.le_of_ble_eq_true rfl) (Nat.le_of_ble_eq_true rfl) ?_
  refine va_astq (D := D) (r := (RX0, TX0, 4)) hx hb hK hP hD hS 2 1 5 0 rfl rfl rfl rfl (by decide +kernel) dX2_init_73 (fun H locs hP hD hS => ?_)
  have hP : va_P D vwCl [(h0, .inr (2, [.int 1, .int 400, .int 80, .int 2, .int 30, .int 0, .ref q_41_1, .ref q_48_2])), (q_41_1, .inl (cI, 7, .inl (fun _ => 0))), (q_48_2, .inl (cL, 3, .inr (.inr (.inr (.inr (va_up (va_up (fun _ => none) 0 (some q_66_4)) 1 (some q_66_7))))))), (q_66_4, .inr (0, [.int 0, .int 0, .int 0, .ref n0_5])), (n0_5, .inl (cI, 12, .inl (fun _ => 0))), (q_66_7, .inr (0, [.int 0, .int 0, .int 0, .ref n0_8])), (n0_8, .inl (cI, 12, .inl (fun _ => 0)))] H := hP
  have hD : va_D A [(h0, .inr (2, [.int 1, .int 400, .int 80, .int 2, .int 30, .int 0, .ref q_41_1, .ref q_48_2])), (q_41_1, .inl (cI, 7, .inl (fun _ => 0))), (q_48_2, .inl (cL, 3, .inr (.inr (.inr (.inr (va_up (va_up (fun _ => none) 0 (some q_66_4)) 1 (some q_66_7))))))), (q_66_4, .inr (0, [.int 0, .int 0, .int 0, .ref n0_5])), (n0_5, .inl (cI, 12, .inl (fun _ => 0))), (q_66_7, .inr (0, [.int 0, .int 0, .int 0, .ref n0_8])), (n0_8, .inl (cI, 12, .inl (fun _ => 0)))] := hD
  refine lv_iinc (v := 2) (lv' := [(1, .int 2), (0, .ref h0)]) hx hb dX2_init_74 hl (k := 0) rfl (by decide +kernel) (by decide) rfl (fun ls hl => ?_)
  refine lv_goto (tgt := 56) hx hb dX2_init_77 (by decide) ?_
  refine lv_iload_n hx hb dX2_init_56 rfl (lv_at hl 0 rfl) ?_
  refine lv_iconst (v := 3) hx hb dX2_init_57 (by decide) ?_
  refine lv_icmp_ge (tgt := 80) hx hb dX2_init_58 (by decide) (fun c_9 => absurd c_9 (by decide +kernel)) (fun c_9 => ?_)
  refine lv_aload_n hx hb dX2_init_61 rfl (lv_at hl 1 rfl) ?_
  refine va_get (D := D) (ci := 2) (v := .ref q_48_2) (C := RX2) (T := TX2) (N := 8) hx hb hts hwX2 hown hK hP 0 rfl rfl 7 (by decide) (hts (.fieldLink RX2 36 "WaitOrWalkOn$Road" "lines" "[LWaitOrWalkOn$Line;") (by decide +kernel)) (fun _ h9 => h9) rfl dX2_init_62 ?_
  refine lv_iload_n hx hb dX2_init_65 rfl (lv_at hl 0 rfl) ?_
  refine va_new (D := D) (ci := 0) (fs := [.int 0, .int 0, .int 0, .null]) (C := RX0) (T := TX0) (N := 4) hx hb hts hwX0 tyX0 tyX0_ok hown (hts (.classLink RX2 34 RX0) (by decide +kernel)) (hts (.instantiable RX0 4) (by decide +kernel)) (hts (.initialized RX0) (by decide +kernel)) hK hP hD hS hA rfl (fun j hj => by rcases (show j = 0 ∨ j = 1 ∨ j = 2 ∨ j = 3 by omega) with rfl | rfl | rfl | rfl <;> rfl) (Nat.le_of_ble_eq_true rfl) (Nat.le_of_ble_eq_true rfl) dX2_init_66 (fun q_66_10 H hP hD hS => ?_)
  have hP : va_P D vwCl [(h0, .inr (2, [.int 1, .int 400, .int 80, .int 2, .int 30, .int 0, .ref q_41_1, .ref q_48_2])), (q_41_1, .inl (cI, 7, .inl (fun _ => 0))), (q_48_2, .inl (cL, 3, .inr (.inr (.inr (.inr (va_up (va_up (fun _ => none) 0 (some q_66_4)) 1 (some q_66_7))))))), (q_66_4, .inr (0, [.int 0, .int 0, .int 0, .ref n0_5])), (n0_5, .inl (cI, 12, .inl (fun _ => 0))), (q_66_7, .inr (0, [.int 0, .int 0, .int 0, .ref n0_8])), (n0_8, .inl (cI, 12, .inl (fun _ => 0))), (q_66_10, .inr (0, [.int 0, .int 0, .int 0, .null]))] H := hP
  have hD : va_D A [(h0, .inr (2, [.int 1, .int 400, .int 80, .int 2, .int 30, .int 0, .ref q_41_1, .ref q_48_2])), (q_41_1, .inl (cI, 7, .inl (fun _ => 0))), (q_48_2, .inl (cL, 3, .inr (.inr (.inr (.inr (va_up (va_up (fun _ => none) 0 (some q_66_4)) 1 (some q_66_7))))))), (q_66_4, .inr (0, [.int 0, .int 0, .int 0, .ref n0_5])), (n0_5, .inl (cI, 12, .inl (fun _ => 0))), (q_66_7, .inr (0, [.int 0, .int 0, .int 0, .ref n0_8])), (n0_8, .inl (cI, 12, .inl (fun _ => 0))), (q_66_10, .inr (0, [.int 0, .int 0, .int 0, .null]))] := hD
  refine W.widen (k := 7) (n := 46) (Nat.le_of_ble_eq_true rfl) (Nat.le_of_ble_eq_true rfl) ?_
  refine lv_dup hx hb dX2_init_69 rfl ?_
  have hPc := hP.sub (ws' := [(q_66_10, .inr (0, [.int 0, .int 0, .int 0, .null]))]) [7] rfl
  have hDc := hD.sub (ws' := [(q_66_10, .inr (0, [.int 0, .int 0, .int 0, .null]))]) [7] (by decide) rfl
  have hFc := va_free (wc := [(q_66_10, .inr (0, [.int 0, .int 0, .int 0, .null]))]) hD hS hA [7] rfl
  refine va_callv (va_runIN (As := []) (rest := [.ref q_66_10, .int 2, .ref q_48_2]) ⟨hx, hb, hml, hown, hts⟩ (c_X0_init l D cI cL cZ cC _ q_66_10 ) ⟨va_cnB 0 hts gX2_init_X0_init_n40 rfl rfl rfl hX9.2.1 (hts (.initialized RX0) (by decide +kernel)) (by decide +kernel) ⟨Nat.le_of_ble_eq_true rfl, Nat.le_of_ble_eq_true rfl⟩, rfl, (hts (.instanceMethod yX0_init) (by decide +kernel))⟩ ⟨wPcX_bl, wPcX_use hPc hK hDc hX9⟩ rfl rfl hl.1 rfl (lv_room (Nat.le_of_ble_eq_true rfl)) dX2_init_70 ⟨Nat.le_of_ble_eq_true rfl, Nat.le_of_ble_eq_true rfl⟩) hS (fun q _ h => hFc q h) hFc (fun u_11 t H1 locs ht hvm hw hB hz1 hk1 hS => ?_)
  obtain ⟨n0_11, hP1, hD1⟩ := hB
  rw [ht] at hP1
  obtain ⟨hP, hD⟩ := va_join (wr := [(h0, .inr (2, [.int 1, .int 400, .int 80, .int 2, .int 30, .int 0, .ref q_41_1, .ref q_48_2])), (q_41_1, .inl (cI, 7, .inl (fun _ => 0))), (q_48_2, .inl (cL, 3, .inr (.inr (.inr (.inr (va_up (va_up (fun _ => none) 0 (some q_66_4)) 1 (some q_66_7))))))), (q_66_4, .inr (0, [.int 0, .int 0, .int 0, .ref n0_5])), (n0_5, .inl (cI, 12, .inl (fun _ => 0))), (q_66_7, .inr (0, [.int 0, .int 0, .int 0, .ref n0_8])), (n0_8, .inl (cI, 12, .inl (fun _ => 0)))]) (w1 := [(q_66_10, .inr (0, [.int 0, .int 0, .int 0, .ref n0_11])), (n0_11, .inl (cI, 12, .inl (fun _ => 0)))]) hP hD [7] [0, 1, 2, 3, 4, 5, 6] rfl rfl (by decide) (by decide) hk1 hFc hP1 hD1
  generalize H1 = H at hP hS ⊢
  have hP : va_P D vwCl [(h0, .inr (2, [.int 1, .int 400, .int 80, .int 2, .int 30, .int 0, .ref q_41_1, .ref q_48_2])), (q_41_1, .inl (cI, 7, .inl (fun _ => 0))), (q_48_2, .inl (cL, 3, .inr (.inr (.inr (.inr (va_up (va_up (fun _ => none) 0 (some q_66_4)) 1 (some q_66_7))))))), (q_66_4, .inr (0, [.int 0, .int 0, .int 0, .ref n0_5])), (n0_5, .inl (cI, 12, .inl (fun _ => 0))), (q_66_7, .inr (0, [.int 0, .int 0, .int 0, .ref n0_8])), (n0_8, .inl (cI, 12, .inl (fun _ => 0))), (q_66_10, .inr (0, [.int 0, .int 0, .int 0, .ref n0_11])), (n0_11, .inl (cI, 12, .inl (fun _ => 0)))] H := hP
  have hD : va_D A [(h0, .inr (2, [.int 1, .int 400, .int 80, .int 2, .int 30, .int 0, .ref q_41_1, .ref q_48_2])), (q_41_1, .inl (cI, 7, .inl (fun _ => 0))), (q_48_2, .inl (cL, 3, .inr (.inr (.inr (.inr (va_up (va_up (fun _ => none) 0 (some q_66_4)) 1 (some q_66_7))))))), (q_66_4, .inr (0, [.int 0, .int 0, .int 0, .ref n0_5])), (n0_5, .inl (cI, 12, .inl (fun _ => 0))), (q_66_7, .inr (0, [.int 0, .int 0, .int 0, .ref n0_8])), (n0_8, .inl (cI, 12, .inl (fun _ => 0))), (q_66_10, .inr (0, [.int 0, .int 0, .int 0, .ref n0_11])), (n0_11, .inl (cI, 12, .inl (fun _ => 0)))] := hD
  refine W.widen (k := 8) (n := 58) (Nat.le_of_ble_eq_true rfl) (Nat.le_of_ble_eq_true rfl) ?_
  refine va_astq (D := D) (r := (RX0, TX0, 4)) hx hb hK hP hD hS 2 1 7 0 rfl rfl rfl rfl (by decide +kernel) dX2_init_73 (fun H locs hP hD hS => ?_)
  have hP : va_P D vwCl [(h0, .inr (2, [.int 1, .int 400, .int 80, .int 2, .int 30, .int 0, .ref q_41_1, .ref q_48_2])), (q_41_1, .inl (cI, 7, .inl (fun _ => 0))), (q_48_2, .inl (cL, 3, .inr (.inr (.inr (.inr (va_up (va_up (va_up (fun _ => none) 0 (some q_66_4)) 1 (some q_66_7)) 2 (some q_66_10))))))), (q_66_4, .inr (0, [.int 0, .int 0, .int 0, .ref n0_5])), (n0_5, .inl (cI, 12, .inl (fun _ => 0))), (q_66_7, .inr (0, [.int 0, .int 0, .int 0, .ref n0_8])), (n0_8, .inl (cI, 12, .inl (fun _ => 0))), (q_66_10, .inr (0, [.int 0, .int 0, .int 0, .ref n0_11])), (n0_11, .inl (cI, 12, .inl (fun _ => 0)))] H := hP
  have hD : va_D A [(h0, .inr (2, [.int 1, .int 400, .int 80, .int 2, .int 30, .int 0, .ref q_41_1, .ref q_48_2])), (q_41_1, .inl (cI, 7, .inl (fun _ => 0))), (q_48_2, .inl (cL, 3, .inr (.inr (.inr (.inr (va_up (va_up (va_up (fun _ => none) 0 (some q_66_4)) 1 (some q_66_7)) 2 (some q_66_10))))))), (q_66_4, .inr (0, [.int 0, .int 0, .int 0, .ref n0_5])), (n0_5, .inl (cI, 12, .inl (fun _ => 0))), (q_66_7, .inr (0, [.int 0, .int 0, .int 0, .ref n0_8])), (n0_8, .inl (cI, 12, .inl (fun _ => 0))), (q_66_10, .inr (0, [.int 0, .int 0, .int 0, .ref n0_11])), (n0_11, .inl (cI, 12, .inl (fun _ => 0)))] := hD
  refine lv_iinc (v := 3) (lv' := [(1, .int 3), (0, .ref h0)]) hx hb dX2_init_74 hl (k := 0) rfl (by decide +kernel) (by decide) rfl (fun ls hl => ?_)
  refine lv_goto (tgt := 56) hx hb dX2_init_77 (by decide) ?_
  refine lv_iload_n hx hb dX2_init_56 rfl (lv_at hl 0 rfl) ?_
  refine lv_iconst (v := 3) hx hb dX2_init_57 (by decide) ?_
  refine lv_icmp_ge (tgt := 80) hx hb dX2_init_58 (by decide) (fun c_12 => ?_) (fun c_12 => absurd c_12 (by decide +kernel))
  have hP9 := hP.sub (ws' := [(h0, .inr (2, [.int 1, .int 400, .int 80, .int 2, .int 30, .int 0, .ref q_41_1, .ref q_48_2])), (q_41_1, .inl (cI, 7, .inl (fun _ => 0))), (q_48_2, .inl (cL, 3, .inr (.inr (.inr (.inr (va_up (va_up (va_up (fun _ => none) 0 (some q_66_4)) 1 (some q_66_7)) 2 (some q_66_10))))))), (q_66_4, .inr (0, [.int 0, .int 0, .int 0, .ref n0_5])), (n0_5, .inl (cI, 12, .inl (fun _ => 0))), (q_66_7, .inr (0, [.int 0, .int 0, .int 0, .ref n0_8])), (n0_8, .inl (cI, 12, .inl (fun _ => 0))), (q_66_10, .inr (0, [.int 0, .int 0, .int 0, .ref n0_11])), (n0_11, .inl (cI, 12, .inl (fun _ => 0)))]) [0, 1, 2, 3, 4, 5, 6, 7, 8] rfl
  have hD9 := hD.sub (ws' := [(h0, .inr (2, [.int 1, .int 400, .int 80, .int 2, .int 30, .int 0, .ref q_41_1, .ref q_48_2])), (q_41_1, .inl (cI, 7, .inl (fun _ => 0))), (q_48_2, .inl (cL, 3, .inr (.inr (.inr (.inr (va_up (va_up (va_up (fun _ => none) 0 (some q_66_4)) 1 (some q_66_7)) 2 (some q_66_10))))))), (q_66_4, .inr (0, [.int 0, .int 0, .int 0, .ref n0_5])), (n0_5, .inl (cI, 12, .inl (fun _ => 0))), (q_66_7, .inr (0, [.int 0, .int 0, .int 0, .ref n0_8])), (n0_8, .inl (cI, 12, .inl (fun _ => 0))), (q_66_10, .inr (0, [.int 0, .int 0, .int 0, .ref n0_11])), (n0_11, .inl (cI, 12, .inl (fun _ => 0)))]) [0, 1, 2, 3, 4, 5, 6, 7, 8] (by decide) rfl
  exact W.vret hx hb hr (fun t ht hW => ⟨⟨(), rfl, trivial, q_41_1, q_48_2, q_66_4, n0_5, q_66_7, n0_8, q_66_10, n0_11, by rw [ht]; exact hP9, hD9⟩, hS.F ht⟩) hS.2.2 dX2_init_80

set_option maxHeartbeats 4000000 in
set_option maxRecDepth 100000 in
theorem c_X1_init (l : Launch) (D : va_G) (cI cL cZ cC : ClassId) (sz : Nat) (h0 : Nat)  : Met l yX1_init wsX1_init ({ frames := 1, cells := 6, slots := 5592, locals := 12 } : Room) (wPcX D [.ref h0] [(h0, .inr (1, [.null, .null, .null, .null, .null, .null, .int 0, .int 0]))] (xTy cI cL cZ cC) sz) (va_Qv (fun (_ : Unit) => True) (fun (_ : Unit) t => ∃ n0 : Nat, ∃ n1 : Nat, ∃ n2 : Nat, ∃ n3 : Nat, ∃ n4 : Nat, ∃ n5 : Nat, va_P D vwCl [(h0, .inr (1, [.ref n0, .ref n1, .ref n2, .ref n3, .ref n4, .ref n5, .int 0, .int 0])), (n0, .inl (cI, 5551, .inl (fun _ => 0))), (n1, .inl (cI, 13, .inl (fun _ => 0))), (n2, .inl (cI, 7, .inl (fun _ => 0))), (n3, .inl (cI, 7, .inl (fun _ => 0))), (n4, .inl (cI, 7, .inl (fun _ => 0))), (n5, .inl (cZ, 7, .inl (fun _ => 0)))] t.heap ∧ va_D (va_A [(h0, .inr (1, [.null, .null, .null, .null, .null, .null, .int 0, .int 0]))] sz) [(h0, .inr (1, [.ref n0, .ref n1, .ref n2, .ref n3, .ref n4, .ref n5, .int 0, .int 0])), (n0, .inl (cI, 5551, .inl (fun _ => 0))), (n1, .inl (cI, 13, .inl (fun _ => 0))), (n2, .inl (cI, 7, .inl (fun _ => 0))), (n3, .inl (cI, 7, .inl (fun _ => 0))), (n4, .inl (cI, 7, .inl (fun _ => 0))), (n5, .inl (cZ, 7, .inl (fun _ => 0)))]) (va_A [(h0, .inr (1, [.null, .null, .null, .null, .null, .null, .int 0, .int 0]))] sz)) 6 5592 (va_A [(h0, .inr (1, [.null, .null, .null, .null, .null, .null, .int 0, .int 0]))] sz) := by
  refine Met.ofW (cc := cX1_init) (maxL := 1) (ret := none) (by decide) rfl ?_
  intro p e s m args below meth c s₁ B hml hv
  obtain ⟨rfl, hsz, hP, hK, hD0, hX9⟩ := hv
  have hx := B.exec
  have hb := B.bytes
  have hr := B.returns
  have hts := atoms_spec (ws := wsX1_init) B.pre
  have hown : s.vm.findClass RX1 = some m.cls := findClass_of_methodNamed B.named
  have hlocks := B.notSynchronized
  have hin : meth.name = "<init>" := (name_of_methodNamed B.named B.method).1
  have hwX1 : ∀ w ∈ u_ws RX1 TX1 8, w ∈ wsX1_init := fun _ h => List.mem_cons_of_mem _ (List.mem_append_right _ h)
  subst hsz
  have hD := hD0.self (sz := s.heap.size)
  generalize hAe : va_A [(h0, .inr (1, [.null, .null, .null, .null, .null, .null, .int 0, .int 0]))] s.heap.size = A at hD ⊢
  have hA : ∀ q : Nat, s.heap.size ≤ q → A q := fun q h => by rw [← hAe]; exact Or.inr h
  have hS : va_S A s.heap s.heap [] := va_S.rf
  have hP : va_P D vwCl [(h0, .inr (1, [.null, .null, .null, .null, .null, .null, .int 0, .int 0]))] s.heap := hP
  have hl := lv_entry ([.ref h0]) (n := 1) (Nat.le_of_ble_eq_true rfl)
  rw [lg_entry_eq]
  generalize (lg_sl ([.ref h0]) ++ List.replicate (1 - (lg_sl ([.ref h0])).length) Slot.unset).toArray = ls at hl ⊢
  have hl : lv_has ls 1 [(0, .ref h0)] := hl
  refine lv_aload_n hx hb dX1_init_0 rfl (lv_at hl 0 rfl) ?_
  refine W.objInit hx hb hown (hts (.methodLink RX1 3 objectInit) (by decide +kernel)) (hts (.instanceMethod objectInit) (by decide +kernel)) (hts (.code objectInit ⟨#[0xb1]⟩ 1 none) (by decide +kernel)) rfl (by rw [hml]; exact hl.1) rfl dX1_init_1 (Nat.le_of_ble_eq_true rfl) (Nat.le_of_ble_eq_true rfl) ?_
  refine W.eq (g2 := F0 m 4 ls []) rfl ?_
  refine lv_aload_n hx hb dX1_init_4 rfl (lv_at hl 0 rfl) ?_
  refine lv_sipush (v := 5551) hx hb dX1_init_5 (by decide) ?_
  refine va_newa (D := D) (atype := .int) (ty := .int) (N' := 5551) (a0 := (5551, .inl (fun _ => 0))) hx hb (hts (.arrayClass .int) (by decide +kernel)) rfl hK hP hD hS hA (fun _ => rfl) (by decide +kernel) (by decide +kernel) (Nat.le_of_ble_eq_true rfl) (Nat.le_of_ble_eq_true rfl) (Nat.le_of_ble_eq_true rfl) dX1_init_8 (fun q_8_1 cA H hK2 hP hD hS => ?_)
  obtain rfl : cI = cA := xK_uniq hK2 0 4 rfl rfl (by decide)
  have hP : va_P D vwCl [(h0, .inr (1, [.null, .null, .null, .null, .null, .null, .int 0, .int 0])), (q_8_1, .inl (cI, 5551, .inl (fun _ => 0)))] H := hP
  have hD : va_D A [(h0, .inr (1, [.null, .null, .null, .null, .null, .null, .int 0, .int 0])), (q_8_1, .inl (cI, 5551, .inl (fun _ => 0)))] := hD
  refine W.widen (k := 1) (n := 5551) (Nat.le_of_ble_eq_true rfl) (Nat.le_of_ble_eq_true rfl) ?_
  refine va_putF (D := D) (ci := 1) (v := .ref q_8_1) (ty := (.array .int)) (C := RX1) (T := TX1) (N := 8) hx hb hts hwX1 tyX1 tyX1_ok nmX1 hown hK hP hD hS 0 rfl rfl 0 (by decide) (hts (.fieldLink RX1 11 "WaitOrWalkOn$Plan" "sums" "[I") (by decide +kernel)) (fun _ h9 => h9) rfl hin rfl (by decide +kernel) (by decide +kernel) rfl (Nat.le_of_ble_eq_true rfl) dX1_init_10 (fun H locs hP hD hS => ?_)
  have hP : va_P D vwCl [(h0, .inr (1, [.ref q_8_1, .null, .null, .null, .null, .null, .int 0, .int 0])), (q_8_1, .inl (cI, 5551, .inl (fun _ => 0)))] H := hP
  have hD : va_D A [(h0, .inr (1, [.ref q_8_1, .null, .null, .null, .null, .null, .int 0, .int 0])), (q_8_1, .inl (cI, 5551, .inl (fun _ => 0)))] := hD
  refine lv_aload_n hx hb dX1_init_13 rfl (lv_at hl 0 rfl) ?_
  refine lv_bipush (v := 13) hx hb dX1_init_14 (by decide) ?_
  refine va_newa (D := D) (atype := .int) (ty := .int) (N' := 13) (a0 := (13, .inl (fun _ => 0))) hx hb (hts (.arrayClass .int) (by decide +kernel)) rfl hK hP hD hS hA (fun _ => rfl) (by decide +kernel) (by decide +kernel) (Nat.le_of_ble_eq_true rfl) (Nat.le_of_ble_eq_true rfl) (Nat.le_of_ble_eq_true rfl) dX1_init_16 (fun q_16_2 cA H hK2 hP hD hS => ?_)
  obtain rfl : cI = cA := xK_uniq hK2 0 4 rfl rfl (by decide)
  have hP : va_P D vwCl [(h0, .inr (1, [.ref q_8_1, .null, .null, .null, .null, .null, .int 0, .int 0])), (q_8_1, .inl (cI, 5551, .inl (fun _ => 0))), (q_16_2, .inl (cI, 13, .inl (fun _ => 0)))] H := hP
  have hD : va_D A [(h0, .inr (1, [.ref q_8_1, .null, .null, .null, .null, .null, .int 0, .int 0])), (q_8_1, .inl (cI, 5551, .inl (fun _ => 0))), (q_16_2, .inl (cI, 13, .inl (fun _ => 0)))] := hD
  refine W.widen (k := 2) (n := 5564) (Nat.le_of_ble_eq_true rfl) (Nat.le_of_ble_eq_true rfl) ?_
  refine va_putF (D := D) (ci := 1) (v := .ref q_16_2) (ty := (.array .int)) (C := RX1) (T := TX1) (N := 8) hx hb hts hwX1 tyX1 tyX1_ok nmX1 hown hK hP hD hS 0 rfl rfl 1 (by decide) (hts (.fieldLink RX1 15 "WaitOrWalkOn$Plan" "weightFrom" "[I") (by decide +kernel)) (fun _ h9 => h9) rfl hin rfl (by decide +kernel) (by decide +kernel) rfl (Nat.le_of_ble_eq_true rfl) dX1_init_18 (fun H locs hP hD hS => ?_)
  have hP : va_P D vwCl [(h0, .inr (1, [.ref q_8_1, .ref q_16_2, .null, .null, .null, .null, .int 0, .int 0])), (q_8_1, .inl (cI, 5551, .inl (fun _ => 0))), (q_16_2, .inl (cI, 13, .inl (fun _ => 0)))] H := hP
  have hD : va_D A [(h0, .inr (1, [.ref q_8_1, .ref q_16_2, .null, .null, .null, .null, .int 0, .int 0])), (q_8_1, .inl (cI, 5551, .inl (fun _ => 0))), (q_16_2, .inl (cI, 13, .inl (fun _ => 0)))] := hD
  refine lv_aload_n hx hb dX1_init_21 rfl (lv_at hl 0 rfl) ?_
  refine lv_bipush (v := 7) hx hb dX1_init_22 (by decide) ?_
  refine va_newa (D := D) (atype := .int) (ty := .int) (N' := 7) (a0 := (7, .inl (fun _ => 0))) hx hb (hts (.arrayClass .int) (by decide +kernel)) rfl hK hP hD hS hA (fun _ => rfl) (by decide +kernel) (by decide +kernel) (Nat.le_of_ble_eq_true rfl) (Nat.le_of_ble_eq_true rfl) (Nat.le_of_ble_eq_true rfl) dX1_init_24 (fun q_24_3 cA H hK2 hP hD hS => ?_)
  obtain rfl : cI = cA := xK_uniq hK2 0 4 rfl rfl (by decide)
  have hP : va_P D vwCl [(h0, .inr (1, [.ref q_8_1, .ref q_16_2, .null, .null, .null, .null, .int 0, .int 0])), (q_8_1, .inl (cI, 5551, .inl (fun _ => 0))), (q_16_2, .inl (cI, 13, .inl (fun _ => 0))), (q_24_3, .inl (cI, 7, .inl (fun _ => 0)))] H := hP
  have hD : va_D A [(h0, .inr (1, [.ref q_8_1, .ref q_16_2, .null, .null, .null, .null, .int 0, .int 0])), (q_8_1, .inl (cI, 5551, .inl (fun _ => 0))), (q_16_2, .inl (cI, 13, .inl (fun _ => 0))), (q_24_3, .inl (cI, 7, .inl (fun _ => 0)))] := hD
  refine W.widen (k := 3) (n := 5571) (Nat.le_of_ble_eq_true rfl) (Nat.le_of_ble_eq_true rfl) ?_
  refine va_putF (D := D) (ci := 1) (v := .ref q_24_3) (ty := (.array .int)) (C := RX1) (T := TX1) (N := 8) hx hb hts hwX1 tyX1 tyX1_ok nmX1 hown hK hP hD hS 0 rfl rfl 2 (by decide) (hts (.fieldLink RX1 18 "WaitOrWalkOn$Plan" "ride" "[I") (by decide +kernel)) (fun _ h9 => h9) rfl hin rfl (by decide +kernel) (by decide +kernel) rfl (Nat.le_of_ble_eq_true rfl) dX1_init_26 (fun H locs hP hD hS => ?_)
  have hP : va_P D vwCl [(h0, .inr (1, [.ref q_8_1, .ref q_16_2, .ref q_24_3, .null, .null, .null, .int 0, .int 0])), (q_8_1, .inl (cI, 5551, .inl (fun _ => 0))), (q_16_2, .inl (cI, 13, .inl (fun _ => 0))), (q_24_3, .inl (cI, 7, .inl (fun _ => 0)))] H := hP
  have hD : va_D A [(h0, .inr (1, [.ref q_8_1, .ref q_16_2, .ref q_24_3, .null, .null, .null, .int 0, .int 0])), (q_8_1, .inl (cI, 5551, .inl (fun _ => 0))), (q_16_2, .inl (cI, 13, .inl (fun _ => 0))), (q_24_3, .inl (cI, 7, .inl (fun _ => 0)))] := hD
  refine lv_aload_n hx hb dX1_init_29 rfl (lv_at hl 0 rfl) ?_
  refine lv_bipush (v := 7) hx hb dX1_init_30 (by decide) ?_
  refine va_newa (D := D) (atype := .int) (ty := .int) (N' := 7) (a0 := (7, .inl (fun _ => 0))) hx hb (hts (.arrayClass .int) (by decide +kernel)) rfl hK hP hD hS hA (fun _ => rfl) (by decide +kernel) (by decide +kernel) (Nat.le_of_ble_eq_true rfl) (Nat.le_of_ble_eq_true rfl) (Nat.le_of_ble_eq_true rfl) dX1_init_32 (fun q_32_4 cA H hK2 hP hD hS => ?_)
  obtain rfl : cI = cA := xK_uniq hK2 0 4 rfl rfl (by decide)
  have hP : va_P D vwCl [(h0, .inr (1, [.ref q_8_1, .ref q_16_2, .ref q_24_3, .null, .null, .null, .int 0, .int 0])), (q_8_1, .inl (cI, 5551, .inl (fun _ => 0))), (q_16_2, .inl (cI, 13, .inl (fun _ => 0))), (q_24_3, .inl (cI, 7, .inl (fun _ => 0))), (q_32_4, .inl (cI, 7, .inl (fun _ => 0)))] H := hP
  have hD : va_D A [(h0, .inr (1, [.ref q_8_1, .ref q_16_2, .ref q_24_3, .null, .null, .null, .int 0, .int 0])), (q_8_1, .inl (cI, 5551, .inl (fun _ => 0))), (q_16_2, .inl (cI, 13, .inl (fun _ => 0))), (q_24_3, .inl (cI, 7, .inl (fun _ => 0))), (q_32_4, .inl (cI, 7, .inl (fun _ => 0)))] := hD
  refine W.widen (k := 4) (n := 5578) (Nat.le_of_ble_eq_true rfl) (Nat.le_of_ble_eq_true rfl) ?_
  refine va_putF (D := D) (ci := 1) (v := .ref q_32_4) (ty := (.array .int)) (C := RX1) (T := TX1) (N := 8) hx hb hts hwX1 tyX1 tyX1_ok nmX1 hown hK hP hD hS 0 rfl rfl 3 (by decide) (hts (.fieldLink RX1 21 "WaitOrWalkOn$Plan" "walk" "[I") (by decide +kernel)) (fun _ h9 => h9) rfl hin rfl (by decide +kernel) (by decide +kernel) rfl (Nat.le_of_ble_eq_true rfl) dX1_init_34 (fun H locs hP hD hS => ?_)
  have hP : va_P D vwCl [(h0, .inr (1, [.ref q_8_1, .ref q_16_2, .ref q_24_3, .ref q_32_4, .null, .null, .int 0, .int 0])), (q_8_1, .inl (cI, 5551, .inl (fun _ => 0))), (q_16_2, .inl (cI, 13, .inl (fun _ => 0))), (q_24_3, .inl (cI, 7, .inl (fun _ => 0))), (q_32_4, .inl (cI, 7, .inl (fun _ => 0)))] H := hP
  have hD : va_D A [(h0, .inr (1, [.ref q_8_1, .ref q_16_2, .ref q_24_3, .ref q_32_4, .null, .null, .int 0, .int 0])), (q_8_1, .inl (cI, 5551, .inl (fun _ => 0))), (q_16_2, .inl (cI, 13, .inl (fun _ => 0))), (q_24_3, .inl (cI, 7, .inl (fun _ => 0))), (q_32_4, .inl (cI, 7, .inl (fun _ => 0)))] := hD
  refine lv_aload_n hx hb dX1_init_37 rfl (lv_at hl 0 rfl) ?_
  refine lv_bipush (v := 7) hx hb dX1_init_38 (by decide) ?_
  refine va_newa (D := D) (atype := .int) (ty := .int) (N' := 7) (a0 := (7, .inl (fun _ => 0))) hx hb (hts (.arrayClass .int) (by decide +kernel)) rfl hK hP hD hS hA (fun _ => rfl) (by decide +kernel) (by decide +kernel) (Nat.le_of_ble_eq_true rfl) (Nat.le_of_ble_eq_true rfl) (Nat.le_of_ble_eq_true rfl) dX1_init_40 (fun q_40_5 cA H hK2 hP hD hS => ?_)
  obtain rfl : cI = cA := xK_uniq hK2 0 4 rfl rfl (by decide)
  have hP : va_P D vwCl [(h0, .inr (1, [.ref q_8_1, .ref q_16_2, .ref q_24_3, .ref q_32_4, .null, .null, .int 0, .int 0])), (q_8_1, .inl (cI, 5551, .inl (fun _ => 0))), (q_16_2, .inl (cI, 13, .inl (fun _ => 0))), (q_24_3, .inl (cI, 7, .inl (fun _ => 0))), (q_32_4, .inl (cI, 7, .inl (fun _ => 0))), (q_40_5, .inl (cI, 7, .inl (fun _ => 0)))] H := hP
  have hD : va_D A [(h0, .inr (1, [.ref q_8_1, .ref q_16_2, .ref q_24_3, .ref q_32_4, .null, .null, .int 0, .int 0])), (q_8_1, .inl (cI, 5551, .inl (fun _ => 0))), (q_16_2, .inl (cI, 13, .inl (fun _ => 0))), (q_24_3, .inl (cI, 7, .inl (fun _ => 0))), (q_32_4, .inl (cI, 7, .inl (fun _ => 0))), (q_40_5, .inl (cI, 7, .inl (fun _ => 0)))] := hD
  refine W.widen (k := 5) (n := 5585) (Nat.le_of_ble_eq_true rfl) (Nat.le_of_ble_eq_true rfl) ?_
  refine va_putF (D := D) (ci := 1) (v := .ref q_40_5) (ty := (.array .int)) (C := RX1) (T := TX1) (N := 8) hx hb hts hwX1 tyX1 tyX1_ok nmX1 hown hK hP hD hS 0 rfl rfl 4 (by decide) (hts (.fieldLink RX1 24 "WaitOrWalkOn$Plan" "walkHome" "[I") (by decide +kernel)) (fun _ h9 => h9) rfl hin rfl (by decide +kernel) (by decide +kernel) rfl (Nat.le_of_ble_eq_true rfl) dX1_init_42 (fun H locs hP hD hS => ?_)
  have hP : va_P D vwCl [(h0, .inr (1, [.ref q_8_1, .ref q_16_2, .ref q_24_3, .ref q_32_4, .ref q_40_5, .null, .int 0, .int 0])), (q_8_1, .inl (cI, 5551, .inl (fun _ => 0))), (q_16_2, .inl (cI, 13, .inl (fun _ => 0))), (q_24_3, .inl (cI, 7, .inl (fun _ => 0))), (q_32_4, .inl (cI, 7, .inl (fun _ => 0))), (q_40_5, .inl (cI, 7, .inl (fun _ => 0)))] H := hP
  have hD : va_D A [(h0, .inr (1, [.ref q_8_1, .ref q_16_2, .ref q_24_3, .ref q_32_4, .ref q_40_5, .null, .int 0, .int 0])), (q_8_1, .inl (cI, 5551, .inl (fun _ => 0))), (q_16_2, .inl (cI, 13, .inl (fun _ => 0))), (q_24_3, .inl (cI, 7, .inl (fun _ => 0))), (q_32_4, .inl (cI, 7, .inl (fun _ => 0))), (q_40_5, .inl (cI, 7, .inl (fun _ => 0)))] := hD
  refine lv_aload_n hx hb dX1_init_45 rfl (lv_at hl 0 rfl) ?_
  refine lv_bipush (v := 7) hx hb dX1_init_46 (by decide) ?_
  refine va_newa (D := D) (atype := .boolean) (ty := .boolean) (N' := 7) (a0 := (7, .inl (fun _ => 0))) hx hb (hts (.arrayClass .boolean) (by decide +kernel)) rfl hK hP hD hS hA (fun _ => rfl) (by decide +kernel) (by decide +kernel) (Nat.le_of_ble_eq_true rfl) (Nat.le_of_ble_eq_true rfl) (Nat.le_of_ble_eq_true rfl) dX1_init_48 (fun q_48_6 cA H hK2 hP hD hS => ?_)
  obtain rfl : cZ = cA := xK_uniq hK2 2 4 rfl rfl (by decide)
  have hP : va_P D vwCl [(h0, .inr (1, [.ref q_8_1, .ref q_16_2, .ref q_24_3, .ref q_32_4, .ref q_40_5, .null, .int 0, .int 0])), (q_8_1, .inl (cI, 5551, .inl (fun _ => 0))), (q_16_2, .inl (cI, 13, .inl (fun _ => 0))), (q_24_3, .inl (cI, 7, .inl (fun _ => 0))), (q_32_4, .inl (cI, 7, .inl (fun _ => 0))), (q_40_5, .inl (cI, 7, .inl (fun _ => 0))), (q_48_6, .inl (cZ, 7, .inl (fun _ => 0)))] H := hP
  have hD : va_D A [(h0, .inr (1, [.ref q_8_1, .ref q_16_2, .ref q_24_3, .ref q_32_4, .ref q_40_5, .null, .int 0, .int 0])), (q_8_1, .inl (cI, 5551, .inl (fun _ => 0))), (q_16_2, .inl (cI, 13, .inl (fun _ => 0))), (q_24_3, .inl (cI, 7, .inl (fun _ => 0))), (q_32_4, .inl (cI, 7, .inl (fun _ => 0))), (q_40_5, .inl (cI, 7, .inl (fun _ => 0))), (q_48_6, .inl (cZ, 7, .inl (fun _ => 0)))] := hD
  refine W.widen (k := 6) (n := 5592) (Nat.le_of_ble_eq_true rfl) (Nat.le_of_ble_eq_true rfl) ?_
  refine va_putF (D := D) (ci := 1) (v := .ref q_48_6) (ty := (.array .boolean)) (C := RX1) (T := TX1) (N := 8) hx hb hts hwX1 tyX1 tyX1_ok nmX1 hown hK hP hD hS 0 rfl rfl 5 (by decide) (hts (.fieldLink RX1 27 "WaitOrWalkOn$Plan" "halts" "[Z") (by decide +kernel)) (fun _ h9 => h9) rfl hin rfl (by decide +kernel) (by decide +kernel) rfl (Nat.le_of_ble_eq_true rfl) dX1_init_50 (fun H locs hP hD hS => ?_)
  have hP : va_P D vwCl [(h0, .inr (1, [.ref q_8_1, .ref q_16_2, .ref q_24_3, .ref q_32_4, .ref q_40_5, .ref q_48_6, .int 0, .int 0])), (q_8_1, .inl (cI, 5551, .inl (fun _ => 0))), (q_16_2, .inl (cI, 13, .inl (fun _ => 0))), (q_24_3, .inl (cI, 7, .inl (fun _ => 0))), (q_32_4, .inl (cI, 7, .inl (fun _ => 0))), (q_40_5, .inl (cI, 7, .inl (fun _ => 0))), (q_48_6, .inl (cZ, 7, .inl (fun _ => 0)))] H := hP
  have hD : va_D A [(h0, .inr (1, [.ref q_8_1, .ref q_16_2, .ref q_24_3, .ref q_32_4, .ref q_40_5, .ref q_48_6, .int 0, .int 0])), (q_8_1, .inl (cI, 5551, .inl (fun _ => 0))), (q_16_2, .inl (cI, 13, .inl (fun _ => 0))), (q_24_3, .inl (cI, 7, .inl (fun _ => 0))), (q_32_4, .inl (cI, 7, .inl (fun _ => 0))), (q_40_5, .inl (cI, 7, .inl (fun _ => 0))), (q_48_6, .inl (cZ, 7, .inl (fun _ => 0)))] := hD
  have hP9 := hP.sub (ws' := [(h0, .inr (1, [.ref q_8_1, .ref q_16_2, .ref q_24_3, .ref q_32_4, .ref q_40_5, .ref q_48_6, .int 0, .int 0])), (q_8_1, .inl (cI, 5551, .inl (fun _ => 0))), (q_16_2, .inl (cI, 13, .inl (fun _ => 0))), (q_24_3, .inl (cI, 7, .inl (fun _ => 0))), (q_32_4, .inl (cI, 7, .inl (fun _ => 0))), (q_40_5, .inl (cI, 7, .inl (fun _ => 0))), (q_48_6, .inl (cZ, 7, .inl (fun _ => 0)))]) [0, 1, 2, 3, 4, 5, 6] rfl
  have hD9 := hD.sub (ws' := [(h0, .inr (1, [.ref q_8_1, .ref q_16_2, .ref q_24_3, .ref q_32_4, .ref q_40_5, .ref q_48_6, .int 0, .int 0])), (q_8_1, .inl (cI, 5551, .inl (fun _ => 0))), (q_16_2, .inl (cI, 13, .inl (fun _ => 0))), (q_24_3, .inl (cI, 7, .inl (fun _ => 0))), (q_32_4, .inl (cI, 7, .inl (fun _ => 0))), (q_40_5, .inl (cI, 7, .inl (fun _ => 0))), (q_48_6, .inl (cZ, 7, .inl (fun _ => 0)))]) [0, 1, 2, 3, 4, 5, 6] (by decide) rfl
  exact W.vret hx hb hr (fun t ht hW => ⟨⟨(), rfl, trivial, q_8_1, q_16_2, q_24_3, q_32_4, q_40_5, q_48_6, by rw [ht]; exact hP9, hD9⟩, hS.F ht⟩) hS.2.2 dX1_init_53

set_option maxHeartbeats 4000000 in
set_option maxRecDepth 100000 in
theorem c_X3_init (l : Launch) (D : va_G) (cI cL cZ cC : ClassId) (sz : Nat) (h0 : Nat)  : Met l yX3_init wsX3_init ({ frames := 1, cells := 1, slots := 96, locals := 12 } : Room) (wPcX D [.ref h0] [(h0, .inr (3, [.null, .int 0]))] (xTy cI cL cZ cC) sz) (va_Qv (fun (_ : Unit) => True) (fun (_ : Unit) t => ∃ n0 : Nat, va_P D vwCl [(h0, .inr (3, [.ref n0, .int 0])), (n0, .inl (cI, 96, .inl (fun _ => 0)))] t.heap ∧ va_D (va_A [(h0, .inr (3, [.null, .int 0]))] sz) [(h0, .inr (3, [.ref n0, .int 0])), (n0, .inl (cI, 96, .inl (fun _ => 0)))]) (va_A [(h0, .inr (3, [.null, .int 0]))] sz)) 1 96 (va_A [(h0, .inr (3, [.null, .int 0]))] sz) := by
  refine Met.ofW (cc := cX3_init) (maxL := 1) (ret := none) (by decide) rfl ?_
  intro p e s m args below meth c s₁ B hml hv
  obtain ⟨rfl, hsz, hP, hK, hD0, hX9⟩ := hv
  have hx := B.exec
  have hb := B.bytes
  have hr := B.returns
  have hts := atoms_spec (ws := wsX3_init) B.pre
  have hown : s.vm.findClass RX3 = some m.cls := findClass_of_methodNamed B.named
  have hlocks := B.notSynchronized
  have hin : meth.name = "<init>" := (name_of_methodNamed B.named B.method).1
  have hwX3 : ∀ w ∈ u_ws RX3 TX3 2, w ∈ wsX3_init := fun _ h => List.mem_cons_of_mem _ (List.mem_append_right _ h)
  subst hsz
  have hD := hD0.self (sz := s.heap.size)
  generalize hAe : va_A [(h0, .inr (3, [.null, .int 0]))] s.heap.size = A at hD ⊢
  have hA : ∀ q : Nat, s.heap.size ≤ q → A q := fun q h => by rw [← hAe]; exact Or.inr h
  have hS : va_S A s.heap s.heap [] := va_S.rf
  have hP : va_P D vwCl [(h0, .inr (3, [.null, .int 0]))] s.heap := hP
  have hl := lv_entry ([.ref h0]) (n := 1) (Nat.le_of_ble_eq_true rfl)
  rw [lg_entry_eq]
  generalize (lg_sl ([.ref h0]) ++ List.replicate (1 - (lg_sl ([.ref h0])).length) Slot.unset).toArray = ls at hl ⊢
  have hl : lv_has ls 1 [(0, .ref h0)] := hl
  refine lv_aload_n hx hb dX3_init_0 rfl (lv_at hl 0 rfl) ?_
  refine W.objInit hx hb hown (hts (.methodLink RX3 3 objectInit) (by decide +kernel)) (hts (.instanceMethod objectInit) (by decide +kernel)) (hts (.code objectInit ⟨#[0xb1]⟩ 1 none) (by decide +kernel)) rfl (by rw [hml]; exact hl.1) rfl dX3_init_1 (Nat.le_of_ble_eq_true rfl) (Nat.le_of_ble_eq_true rfl) ?_
  refine W.eq (g2 := F0 m 4 ls []) rfl ?_
  refine lv_aload_n hx hb dX3_init_4 rfl (lv_at hl 0 rfl) ?_
  refine lv_bipush (v := 96) hx hb dX3_init_5 (by decide) ?_
  refine va_newa (D := D) (atype := .int) (ty := .int) (N' := 96) (a0 := (96, .inl (fun _ => 0))) hx hb (hts (.arrayClass .int) (by decide +kernel)) rfl hK hP hD hS hA (fun _ => rfl) (by decide +kernel) (by decide +kernel) (Nat.le_of_ble_eq_true rfl) (Nat.le_of_ble_eq_true rfl) (Nat.le_of_ble_eq_true rfl) dX3_init_7 (fun q_7_1 cA H hK2 hP hD hS => ?_)
  obtain rfl : cI = cA := xK_uniq hK2 0 4 rfl rfl (by decide)
  have hP : va_P D vwCl [(h0, .inr (3, [.null, .int 0])), (q_7_1, .inl (cI, 96, .inl (fun _ => 0)))] H := hP
  have hD : va_D A [(h0, .inr (3, [.null, .int 0])), (q_7_1, .inl (cI, 96, .inl (fun _ => 0)))] := hD
  refine W.widen (k := 1) (n := 96) (Nat.le_of_ble_eq_true rfl) (Nat.le_of_ble_eq_true rfl) ?_
  refine va_putF (D := D) (ci := 3) (v := .ref q_7_1) (ty := (.array .int)) (C := RX3) (T := TX3) (N := 2) hx hb hts hwX3 tyX3 tyX3_ok nmX3 hown hK hP hD hS 0 rfl rfl 0 (by decide) (hts (.fieldLink RX3 9 "WaitOrWalkOn$Text" "letters" "[I") (by decide +kernel)) (fun _ h9 => h9) rfl hin rfl (by decide +kernel) (by decide +kernel) rfl (Nat.le_of_ble_eq_true rfl) dX3_init_9 (fun H locs hP hD hS => ?_)
  have hP : va_P D vwCl [(h0, .inr (3, [.ref q_7_1, .int 0])), (q_7_1, .inl (cI, 96, .inl (fun _ => 0)))] H := hP
  have hD : va_D A [(h0, .inr (3, [.ref q_7_1, .int 0])), (q_7_1, .inl (cI, 96, .inl (fun _ => 0)))] := hD
  refine lv_aload_n hx hb dX3_init_12 rfl (lv_at hl 0 rfl) ?_
  refine lv_iconst (v := 0) hx hb dX3_init_13 (by decide) ?_
  refine va_put (D := D) (ci := 3) (v := .int 0) (ty := .int) (C := RX3) (T := TX3) (N := 2) hx hb hts hwX3 tyX3 tyX3_ok nmX3 hown hK hP hD hS 0 rfl rfl 1 (by decide) (hts (.fieldLink RX3 15 "WaitOrWalkOn$Text" "length" "I") (by decide +kernel)) (fun _ h9 => h9) rfl (by decide +kernel) (by decide +kernel) rfl (Nat.le_of_ble_eq_true rfl) dX3_init_14 (fun H locs hP hD hS => ?_)
  have hP : va_P D vwCl [(h0, .inr (3, [.ref q_7_1, .int 0])), (q_7_1, .inl (cI, 96, .inl (fun _ => 0)))] H := hP
  have hD : va_D A [(h0, .inr (3, [.ref q_7_1, .int 0])), (q_7_1, .inl (cI, 96, .inl (fun _ => 0)))] := hD
  have hP9 := hP.sub (ws' := [(h0, .inr (3, [.ref q_7_1, .int 0])), (q_7_1, .inl (cI, 96, .inl (fun _ => 0)))]) [0, 1] rfl
  have hD9 := hD.sub (ws' := [(h0, .inr (3, [.ref q_7_1, .int 0])), (q_7_1, .inl (cI, 96, .inl (fun _ => 0)))]) [0, 1] (by decide) rfl
  exact W.vret hx hb hr (fun t ht hW => ⟨⟨(), rfl, trivial, q_7_1, by rw [ht]; exact hP9, hD9⟩, hS.F ht⟩) hS.2.2 dX3_init_17

set_option maxHeartbeats 4000000 in
set_option maxRecDepth 100000 in
theorem c_X4_refuse (l : Launch) (D : va_G) (cI cL cZ cC : ClassId) (sz : Nat) (h0 : Nat) (rd : Nat) (dr : Nat) (kp : Nat) (pl : Nat) (tx : Nat) (nu : Nat) (rf_a : Nat) (nc : Int32) (hi : Int32) (pd : Int32) (rf : Nat → Int32) (x : Int32) (h1 : 0 < -x) (h2 : -x < 7) : Met l yX4_refuse wsX4_refuse ({ frames := 0, cells := 0, slots := 0, locals := 0 } : Room) (wPc D [.ref h0, .int x] [(h0, .inr (4, [.ref rd, .ref dr, .ref kp, .ref pl, .ref tx, .ref nu, .ref rf_a, .int nc, .int hi, .int pd])), (rf_a, .inl (cI, 7, .inl rf))] (xTy cI cL cZ cC) sz) (va_Qi (fun (r : Int32) (_ : Unit) => r = x) (fun (_ : Unit) t => va_P D vwCl [(h0, .inr (4, [.ref rd, .ref dr, .ref kp, .ref pl, .ref tx, .ref nu, .ref rf_a, .int nc, .int hi, .int pd])), (rf_a, .inl (cI, 7, .inl (xRf rf x)))] t.heap ∧ va_D (va_A [(h0, .inr (4, [.ref rd, .ref dr, .ref kp, .ref pl, .ref tx, .ref nu, .ref rf_a, .int nc, .int hi, .int pd])), (rf_a, .inl (cI, 7, .inl rf))] sz) [(h0, .inr (4, [.ref rd, .ref dr, .ref kp, .ref pl, .ref tx, .ref nu, .ref rf_a, .int nc, .int hi, .int pd])), (rf_a, .inl (cI, 7, .inl (xRf rf x)))]) (va_A [(h0, .inr (4, [.ref rd, .ref dr, .ref kp, .ref pl, .ref tx, .ref nu, .ref rf_a, .int nc, .int hi, .int pd])), (rf_a, .inl (cI, 7, .inl rf))] sz)) 0 0 (va_A [(h0, .inr (4, [.ref rd, .ref dr, .ref kp, .ref pl, .ref tx, .ref nu, .ref rf_a, .int nc, .int hi, .int pd])), (rf_a, .inl (cI, 7, .inl rf))] sz) := by
  refine Met.ofW (cc := cX4_refuse) (maxL := 3) (ret := (some .int)) (by decide) rfl ?_
  intro p e s m args below meth c s₁ B hml hv
  obtain ⟨rfl, hsz, hP, hK, hD0⟩ := hv
  have hx := B.exec
  have hb := B.bytes
  have hr := B.returns
  have hts := atoms_spec (ws := wsX4_refuse) B.pre
  have hown : s.vm.findClass RX4 = some m.cls := findClass_of_methodNamed B.named
  have hlocks := B.notSynchronized
  have hwX4 : ∀ w ∈ u_ws RX4 TX4 10, w ∈ wsX4_refuse := fun _ h => List.mem_cons_of_mem _ (List.mem_append_right _ h)
  subst hsz
  have hD := hD0.self (sz := s.heap.size)
  generalize hAe : va_A [(h0, .inr (4, [.ref rd, .ref dr, .ref kp, .ref pl, .ref tx, .ref nu, .ref rf_a, .int nc, .int hi, .int pd])), (rf_a, .inl (cI, 7, .inl rf))] s.heap.size = A at hD ⊢
  have hA : ∀ q : Nat, s.heap.size ≤ q → A q := fun q h => by rw [← hAe]; exact Or.inr h
  have hS : va_S A s.heap s.heap [] := va_S.rf
  have hP : va_P D vwCl [(h0, .inr (4, [.ref rd, .ref dr, .ref kp, .ref pl, .ref tx, .ref nu, .ref rf_a, .int nc, .int hi, .int pd])), (rf_a, .inl (cI, 7, .inl rf))] s.heap := hP
  have hl := lv_entry ([.ref h0, .int x]) (n := 3) (Nat.le_of_ble_eq_true rfl)
  rw [lg_entry_eq]
  generalize (lg_sl ([.ref h0, .int x]) ++ List.replicate (3 - (lg_sl ([.ref h0, .int x])).length) Slot.unset).toArray = ls at hl ⊢
  have hl : lv_has ls 3 [(0, .ref h0), (1, .int x)] := hl
  refine lv_iload_n hx hb dX4_refuse_0 rfl (lv_at hl 1 rfl) ?_
  refine lv_ineg hx hb dX4_refuse_1 ?_
  refine lv_istore_n (lv' := [(2, .int (-x)), (0, .ref h0), (1, .int x)]) hx hb dX4_refuse_2 rfl hl (by decide) rfl (fun ls hl => ?_)
  refine lv_iload_n hx hb dX4_refuse_3 rfl (lv_at hl 0 rfl) ?_
  refine lv_if_le (tgt := 26) hx hb dX4_refuse_4 (by decide) (fun c_1 => absurd h1 (Int32.not_lt.mpr c_1)) (fun c_1 => ?_)
  refine lv_iload_n hx hb dX4_refuse_7 rfl (lv_at hl 0 rfl) ?_
  refine lv_aload_n hx hb dX4_refuse_8 rfl (lv_at hl 1 rfl) ?_
  refine va_get (D := D) (ci := 4) (v := .ref rf_a) (C := RX4) (T := TX4) (N := 10) hx hb hts hwX4 hown hK hP 0 rfl rfl 6 (by decide) (hts (.fieldLink RX4 40 "WaitOrWalkOn" "refusals" "[I") (by decide +kernel)) (fun _ h9 => h9) rfl dX4_refuse_9 ?_
  refine va_alen (D := D) hx hb hK hP 1 0 rfl rfl (v := 7) (by decide +kernel) dX4_refuse_12 ?_
  refine lv_icmp_ge (tgt := 26) hx hb dX4_refuse_13 (by decide) (fun c_2 => absurd h2 (Int32.not_lt.mpr c_2)) (fun c_2 => ?_)
  refine lv_aload_n hx hb dX4_refuse_16 rfl (lv_at hl 1 rfl) ?_
  refine va_get (D := D) (ci := 4) (v := .ref rf_a) (C := RX4) (T := TX4) (N := 10) hx hb hts hwX4 hown hK hP 0 rfl rfl 6 (by decide) (hts (.fieldLink RX4 40 "WaitOrWalkOn" "refusals" "[I") (by decide +kernel)) (fun _ h9 => h9) rfl dX4_refuse_17 ?_
  refine lv_iload_n hx hb dX4_refuse_20 rfl (lv_at hl 0 rfl) ?_
  refine lv_dup2_11 hx hb dX4_refuse_21 rfl rfl ?_
  refine va_iald (D := D) hx hb hK hP 1 0 rfl rfl (by rw [vp_in_iff]; rw [xi_lt] at h1 h2; have e1 : ((0 : Int32)).toInt = 0 := rfl; have e2 : ((7 : Int32)).toInt = 7 := rfl; omega) dX4_refuse_22 ?_
  refine lv_iconst (v := 1) hx hb dX4_refuse_23 (by decide) ?_
  refine lv_iadd hx hb dX4_refuse_24 ?_
  refine va_iast (D := D) hx hb hK hP hD hS 1 0 rfl rfl (by rw [vp_in_iff]; rw [xi_lt] at h1 h2; have e1 : ((0 : Int32)).toInt = 0 := rfl; have e2 : ((7 : Int32)).toInt = 7 := rfl; omega) dX4_refuse_25 (fun H locs hP hD hS => ?_)
  have hP : va_P D vwCl [(h0, .inr (4, [.ref rd, .ref dr, .ref kp, .ref pl, .ref tx, .ref nu, .ref rf_a, .int nc, .int hi, .int pd])), (rf_a, .inl (cI, 7, .inl (upd rf ((-x).toNatClampNeg) ((rf (-x).toNatClampNeg) + 1))))] H := hP
  have hD : va_D A [(h0, .inr (4, [.ref rd, .ref dr, .ref kp, .ref pl, .ref tx, .ref nu, .ref rf_a, .int nc, .int hi, .int pd])), (rf_a, .inl (cI, 7, .inl (upd rf ((-x).toNatClampNeg) ((rf (-x).toNatClampNeg) + 1))))] := hD
  refine lv_iload_n hx hb dX4_refuse_26 rfl (lv_at hl 2 rfl) ?_
  have hP9 := hP.sub (ws' := [(h0, .inr (4, [.ref rd, .ref dr, .ref kp, .ref pl, .ref tx, .ref nu, .ref rf_a, .int nc, .int hi, .int pd])), (rf_a, .inl (cI, 7, .inl (upd rf ((-x).toNatClampNeg) ((rf (-x).toNatClampNeg) + 1))))]) [0, 1] rfl
  have hD9 := hD.sub (ws' := [(h0, .inr (4, [.ref rd, .ref dr, .ref kp, .ref pl, .ref tx, .ref nu, .ref rf_a, .int nc, .int hi, .int pd])), (rf_a, .inl (cI, 7, .inl (upd rf ((-x).toNatClampNeg) ((rf (-x).toNatClampNeg) + 1))))]) [0, 1] (by decide) rfl
  exact W.iret (v := x) hx hb hr (fun t ht hW => ⟨⟨_, (), rfl, rfl, by rw [ht]; exact hP9, hD9⟩, hS.F ht⟩) hS.2.2 dX4_refuse_27

