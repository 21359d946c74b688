set_option maxHeartbeats 4000000 in
set_option maxRecDepth 100000 in
theorem p1_X5_letter (l : Launch) (D : va_G) (cI cL cZ cC : ClassId) (sz : Nat) (g0 : Nat) (ra : Nat) (wa : Nat) (ta : Nat) (ma : Nat) (pa : Nat) (ba : Nat) (ka : Nat) (fa : Nat) (qa : Nat) (ea : Nat) (za : Nat) (ya : Nat) (a1 : Int32)  : Met l yX5_letter wsX5_letter ({ frames := 1, cells := 0, slots := 0, locals := 21 } : Room) (wPc D [.ref g0, .int a1] [(g0, .inr (5, [.ref ra, .ref wa, .ref ta, .int 0, .ref ma, .int 0, .ref pa, .int 0, .int 0, .int 0, .ref ba, .ref ka, .int 0, .ref fa, .ref qa, .ref ea, .ref za, .ref ya, .int 0])), (pa, .inl (cI, 96, .inl (fun _ => 0))), (ra, .inl (cI, 7, .inl (fun _ => 0)))] (xTy cI cL cZ cC) sz) (va_Qi (fun (r : Int32) (_ : Unit) => r = if a1 < 0 then -4 else if 255 < a1 then -6 else 1) (fun (_ : Unit) t => va_P D vwCl [] t.heap ∧ va_D (va_A [(g0, .inr (5, [.ref ra, .ref wa, .ref ta, .int 0, .ref ma, .int 0, .ref pa, .int 0, .int 0, .int 0, .ref ba, .ref ka, .int 0, .ref fa, .ref qa, .ref ea, .ref za, .ref ya, .int 0])), (pa, .inl (cI, 96, .inl (fun _ => 0))), (ra, .inl (cI, 7, .inl (fun _ => 0)))] sz) []) (va_A [(g0, .inr (5, [.ref ra, .ref wa, .ref ta, .int 0, .ref ma, .int 0, .ref pa, .int 0, .int 0, .int 0, .ref ba, .ref ka, .int 0, .ref fa, .ref qa, .ref ea, .ref za, .ref ya, .int 0])), (pa, .inl (cI, 96, .inl (fun _ => 0))), (ra, .inl (cI, 7, .inl (fun _ => 0)))] sz)) 0 0 (va_A [(g0, .inr (5, [.ref ra, .ref wa, .ref ta, .int 0, .ref ma, .int 0, .ref pa, .int 0, .int 0, .int 0, .ref ba, .ref ka, .int 0, .ref fa, .ref qa, .ref ea, .ref za, .ref ya, .int 0])), (pa, .inl (cI, 96, .inl (fun _ => 0))), (ra, .inl (cI, 7, .inl (fun _ => 0)))] sz) := by
  refine Met.ofW (cc := cX5_letter) (maxL := 2) (ret := (some .int)) (by decide) rfl ?_
  intro p e s m args below meth c s₁ B hml hv
  obtain ⟨rfl, hsz, hP, hK, hD0⟩ := hv
  have hx := B.exec
  have hb := B.bytes
  have hr := B.returns
  have hts := atoms_spec (ws := wsX5_letter) B.pre
  have hown : s.vm.findClass RX5 = some m.cls := findClass_of_methodNamed B.named
  have hlocks := B.notSynchronized
  have hwX5 : ∀ w ∈ u_ws RX5 TX5 19, w ∈ wsX5_letter := fun _ h => List.mem_cons_of_mem _ (List.mem_append_right _ h)
  subst hsz
  have hD := hD0.self (sz := s.heap.size)
  generalize hAe : va_A [(g0, .inr (5, [.ref ra, .ref wa, .ref ta, .int 0, .ref ma, .int 0, .ref pa, .int 0, .int 0, .int 0, .ref ba, .ref ka, .int 0, .ref fa, .ref qa, .ref ea, .ref za, .ref ya, .int 0])), (pa, .inl (cI, 96, .inl (fun _ => 0))), (ra, .inl (cI, 7, .inl (fun _ => 0)))] s.heap.size = A at hD ⊢
  have hA : ∀ q : Nat, s.heap.size ≤ q → A q := fun q h => by rw [← hAe]; exact Or.inr h
  have hS : va_S A s.heap s.heap [] := va_S.rf
  have hP : va_P D vwCl [(g0, .inr (5, [.ref ra, .ref wa, .ref ta, .int 0, .ref ma, .int 0, .ref pa, .int 0, .int 0, .int 0, .ref ba, .ref ka, .int 0, .ref fa, .ref qa, .ref ea, .ref za, .ref ya, .int 0])), (pa, .inl (cI, 96, .inl (fun _ => 0))), (ra, .inl (cI, 7, .inl (fun _ => 0)))] s.heap := hP
  have hl := lv_entry ([.ref g0, .int a1]) (n := 2) (Nat.le_of_ble_eq_true rfl)
  rw [lg_entry_eq]
  generalize (lg_sl ([.ref g0, .int a1]) ++ List.replicate (2 - (lg_sl ([.ref g0, .int a1])).length) Slot.unset).toArray = ls at hl ⊢
  have hl : lv_has ls 2 [(0, .ref g0), (1, .int a1)] := hl
  refine lv_iload_n hx hb dX5_letter_0 rfl (lv_at hl 1 rfl) ?_
  refine lv_if_ge (tgt := 11) hx hb dX5_letter_1 (by decide) (fun c_1 => ?_) (fun c_1 => ?_)
  · refine lv_iload_n hx hb dX5_letter_11 rfl (lv_at hl 1 rfl) ?_
    refine lv_sipush (v := 255) hx hb dX5_letter_12 (by decide) ?_
    refine lv_icmp_gt (tgt := 27) hx hb dX5_letter_15 (by decide) (fun c_2 => ?_) (fun c_2 => ?_)
    · refine lv_aload_n hx hb dX5_letter_27 rfl (lv_at hl 0 rfl) ?_
      refine lv_bipush (v := -6) hx hb dX5_letter_28 (by decide) ?_
      have hPc := hP.sub (ws' := [(g0, .inr (5, [.ref ra, .ref wa, .ref ta, .int 0, .ref ma, .int 0, .ref pa, .int 0, .int 0, .int 0, .ref ba, .ref ka, .int 0, .ref fa, .ref qa, .ref ea, .ref za, .ref ya, .int 0])), (ra, .inl (cI, 7, .inl (fun _ => 0)))]) [0, 2] rfl
      have hDc := hD.sub (ws' := [(g0, .inr (5, [.ref ra, .ref wa, .ref ta, .int 0, .ref ma, .int 0, .ref pa, .int 0, .int 0, .int 0, .ref ba, .ref ka, .int 0, .ref fa, .ref qa, .ref ea, .ref za, .ref ya, .int 0])), (ra, .inl (cI, 7, .inl (fun _ => 0)))]) [0, 2] (by decide) rfl
      have hFc := va_free (wc := [(g0, .inr (5, [.ref ra, .ref wa, .ref ta, .int 0, .ref ma, .int 0, .ref pa, .int 0, .int 0, .int 0, .ref ba, .ref ka, .int 0, .ref fa, .ref qa, .ref ea, .ref za, .ref ya, .int 0])), (ra, .inl (cI, 7, .inl (fun _ => 0)))]) hD hS hA [0, 2] rfl
      refine va_calli (va_runV (As := [.int (-6)]) (rest := []) ⟨hx, hb, hml, hown, hts⟩ (c_X5_no l D cI cL cZ cC _ g0 ra wa ta ma pa ba ka fa qa ea za ya (fun _ => 0) (-6) (by first | assumption | decide +kernel) (by first | assumption | decide +kernel)) (cwV 1 hts gX5_letter_X5_no rfl rfl rfl (by decide +kernel) ⟨Nat.le_of_ble_eq_true rfl, Nat.le_of_ble_eq_true rfl⟩) ⟨wPc_bl, va_recv hK hPc (ci := 5) (q0 := 0) rfl rfl, wPc_use hPc hK hDc⟩ rfl rfl hl.1 rfl (lv_room (Nat.le_of_ble_eq_true rfl)) dX5_letter_30 ⟨Nat.le_of_ble_eq_true rfl, Nat.le_of_ble_eq_true rfl⟩) hS (fun q _ h => hFc q h) hFc (fun r_3 u_3 t H1 locs ht hvm hw hB hz1 hk1 hS => ?_)
      obtain ⟨hP1, hD1⟩ := hB
      rw [ht] at hP1
      obtain ⟨hP, hD⟩ := va_join (wr := [(pa, .inl (cI, 96, .inl (fun _ => 0)))]) (w1 := [(g0, .inr (5, [.ref ra, .ref wa, .ref ta, .int 0, .ref ma, .int 0, .ref pa, .int 0, .int 0, .int 0, .ref ba, .ref ka, .int 0, .ref fa, .ref qa, .ref ea, .ref za, .ref ya, .int 0])), (ra, .inl (cI, 7, .inl (xRf (fun _ => 0) (-6))))]) hP hD [0, 2] [1] rfl rfl (by decide) (by decide) hk1 hFc hP1 hD1
      generalize H1 = H at hP hS ⊢
      have hP : va_P D vwCl [(pa, .inl (cI, 96, .inl (fun _ => 0))), (g0, .inr (5, [.ref ra, .ref wa, .ref ta, .int 0, .ref ma, .int 0, .ref pa, .int 0, .int 0, .int 0, .ref ba, .ref ka, .int 0, .ref fa, .ref qa, .ref ea, .ref za, .ref ya, .int 0])), (ra, .inl (cI, 7, .inl (xRf (fun _ => 0) (-6))))] H := hP
      have hD : va_D A [(pa, .inl (cI, 96, .inl (fun _ => 0))), (g0, .inr (5, [.ref ra, .ref wa, .ref ta, .int 0, .ref ma, .int 0, .ref pa, .int 0, .int 0, .int 0, .ref ba, .ref ka, .int 0, .ref fa, .ref qa, .ref ea, .ref za, .ref ya, .int 0])), (ra, .inl (cI, 7, .inl (xRf (fun _ => 0) (-6))))] := hD
      obtain rfl : ((-6) : Int32) = r_3 := Eq.symm hw
      have hP9 := hP.sub (ws' := []) [] rfl
      have hD9 := hD.sub (ws' := []) [] (by decide) rfl
      exact W.iret (v := -6) hx hb hr (fun t ht hW => ⟨⟨_, (), rfl, by simp [(Int32.not_lt.mpr c_1), c_2], by rw [ht]; exact hP9, hD9⟩, hS.F ht⟩) hS.2.2 dX5_letter_33
    · refine lv_aload_n hx hb dX5_letter_18 rfl (lv_at hl 0 rfl) ?_
      refine va_get (D := D) (ci := 5) (v := .int 0) (C := RX5) (T := TX5) (N := 19) hx hb hts hwX5 hown hK hP 0 rfl rfl 7 (by decide) (hts (.fieldLink RX5 57 "WaitOrWalkOnModel" "taped" "I") (by decide +kernel)) (fun _ h9 => h9) rfl dX5_letter_19 ?_
      refine lv_bipush (v := 96) hx hb dX5_letter_22 (by decide) ?_
      refine lv_icmp_ne (tgt := 34) hx hb dX5_letter_24 (by decide) (fun c_4 => ?_) (fun c_4 => absurd c_4 (by decide +kernel))
      refine lv_aload_n hx hb dX5_letter_34 rfl (lv_at hl 0 rfl) ?_
      refine va_get (D := D) (ci := 5) (v := .ref pa) (C := RX5) (T := TX5) (N := 19) hx hb hts hwX5 hown hK hP 0 rfl rfl 6 (by decide) (hts (.fieldLink RX5 28 "WaitOrWalkOnModel" "tape" "[I") (by decide +kernel)) (fun _ h9 => h9) rfl dX5_letter_35 ?_
      refine lv_aload_n hx hb dX5_letter_38 rfl (lv_at hl 0 rfl) ?_
      refine va_get (D := D) (ci := 5) (v := .int 0) (C := RX5) (T := TX5) (N := 19) hx hb hts hwX5 hown hK hP 0 rfl rfl 7 (by decide) (hts (.fieldLink RX5 57 "WaitOrWalkOnModel" "taped" "I") (by decide +kernel)) (fun _ h9 => h9) rfl dX5_letter_39 ?_
      refine lv_iload_n hx hb dX5_letter_42 rfl (lv_at hl 1 rfl) ?_
      refine va_iast (D := D) hx hb hK hP hD hS 1 0 rfl rfl (by unfold vp_in; decide +kernel) dX5_letter_43 (fun H locs hP hD hS => ?_)
      have hP : va_P D vwCl [(g0, .inr (5, [.ref ra, .ref wa, .ref ta, .int 0, .ref ma, .int 0, .ref pa, .int 0, .int 0, .int 0, .ref ba, .ref ka, .int 0, .ref fa, .ref qa, .ref ea, .ref za, .ref ya, .int 0])), (pa, .inl (cI, 96, .inl (upd (fun _ => 0) 0 a1))), (ra, .inl (cI, 7, .inl (fun _ => 0)))] H := hP
      have hD : va_D A [(g0, .inr (5, [.ref ra, .ref wa, .ref ta, .int 0, .ref ma, .int 0, .ref pa, .int 0, .int 0, .int 0, .ref ba, .ref ka, .int 0, .ref fa, .ref qa, .ref ea, .ref za, .ref ya, .int 0])), (pa, .inl (cI, 96, .inl (upd (fun _ => 0) 0 a1))), (ra, .inl (cI, 7, .inl (fun _ => 0)))] := hD
      refine lv_aload_n hx hb dX5_letter_44 rfl (lv_at hl 0 rfl) ?_
      refine lv_dup hx hb dX5_letter_45 rfl ?_
      refine va_get (D := D) (ci := 5) (v := .int 0) (C := RX5) (T := TX5) (N := 19) hx hb hts hwX5 hown hK hP 0 rfl rfl 7 (by decide) (hts (.fieldLink RX5 57 "WaitOrWalkOnModel" "taped" "I") (by decide +kernel)) (fun _ h9 => h9) rfl dX5_letter_46 ?_
      refine lv_iconst (v := 1) hx hb dX5_letter_49 (by decide) ?_
      refine lv_iadd hx hb dX5_letter_50 ?_
      refine xv_int (y := 1) (by decide +kernel) ?_
      refine va_put (D := D) (ci := 5) (v := .int 1) (ty := .int) (C := RX5) (T := TX5) (N := 19) hx hb hts hwX5 tyX5 tyX5_ok nmX5 hown hK hP hD hS 0 rfl rfl 7 (by decide) (hts (.fieldLink RX5 57 "WaitOrWalkOnModel" "taped" "I") (by decide +kernel)) (fun _ h9 => h9) rfl (by decide +kernel) (by decide +kernel) rfl (Nat.le_of_ble_eq_true rfl) dX5_letter_51 (fun H locs hP hD hS => ?_)
      have hP : va_P D vwCl [(g0, .inr (5, [.ref ra, .ref wa, .ref ta, .int 0, .ref ma, .int 0, .ref pa, .int 1, .int 0, .int 0, .ref ba, .ref ka, .int 0, .ref fa, .ref qa, .ref ea, .ref za, .ref ya, .int 0])), (pa, .inl (cI, 96, .inl (upd (fun _ => 0) 0 a1))), (ra, .inl (cI, 7, .inl (fun _ => 0)))] H := hP
      have hD : va_D A [(g0, .inr (5, [.ref ra, .ref wa, .ref ta, .int 0, .ref ma, .int 0, .ref pa, .int 1, .int 0, .int 0, .ref ba, .ref ka, .int 0, .ref fa, .ref qa, .ref ea, .ref za, .ref ya, .int 0])), (pa, .inl (cI, 96, .inl (upd (fun _ => 0) 0 a1))), (ra, .inl (cI, 7, .inl (fun _ => 0)))] := hD
      refine lv_aload_n hx hb dX5_letter_54 rfl (lv_at hl 0 rfl) ?_
      refine va_get (D := D) (ci := 5) (v := .int 1) (C := RX5) (T := TX5) (N := 19) hx hb hts hwX5 hown hK hP 0 rfl rfl 7 (by decide) (hts (.fieldLink RX5 57 "WaitOrWalkOnModel" "taped" "I") (by decide +kernel)) (fun _ h9 => h9) rfl dX5_letter_55 ?_
      have hP9 := hP.sub (ws' := []) [] rfl
      have hD9 := hD.sub (ws' := []) [] (by decide) rfl
      exact W.iret (v := 1) hx hb hr (fun t ht hW => ⟨⟨_, (), rfl, by simp [(Int32.not_lt.mpr c_1), c_2, c_4], by rw [ht]; exact hP9, hD9⟩, hS.F ht⟩) hS.2.2 dX5_letter_58
  · refine lv_aload_n hx hb dX5_letter_4 rfl (lv_at hl 0 rfl) ?_
    refine lv_bipush (v := -4) hx hb dX5_letter_5 (by decide) ?_
    have hPc := hP.sub (ws' := [(g0, .inr (5, [.ref ra, .ref wa, .ref ta, .int 0, .ref ma, .int 0, .ref pa, .int 0, .int 0, .int 0, .ref ba, .ref ka, .int 0, .ref fa, .ref qa, .ref ea, .ref za, .ref ya, .int 0])), (ra, .inl (cI, 7, .inl (fun _ => 0)))]) [0, 2] rfl
    have hDc := hD.sub (ws' := [(g0, .inr (5, [.ref ra, .ref wa, .ref ta, .int 0, .ref ma, .int 0, .ref pa, .int 0, .int 0, .int 0, .ref ba, .ref ka, .int 0, .ref fa, .ref qa, .ref ea, .ref za, .ref ya, .int 0])), (ra, .inl (cI, 7, .inl (fun _ => 0)))]) [0, 2] (by decide) rfl
    have hFc := va_free (wc := [(g0, .inr (5, [.ref ra, .ref wa, .ref ta, .int 0, .ref ma, .int 0, .ref pa, .int 0, .int 0, .int 0, .ref ba, .ref ka, .int 0, .ref fa, .ref qa, .ref ea, .ref za, .ref ya, .int 0])), (ra, .inl (cI, 7, .inl (fun _ => 0)))]) hD hS hA [0, 2] rfl
    refine va_calli (va_runV (As := [.int (-4)]) (rest := []) ⟨hx, hb, hml, hown, hts⟩ (c_X5_no l D cI cL cZ cC _ g0 ra wa ta ma pa ba ka fa qa ea za ya (fun _ => 0) (-4) (by first | assumption | decide +kernel) (by first | assumption | decide +kernel)) (cwV 1 hts gX5_letter_X5_no rfl rfl rfl (by decide +kernel) ⟨Nat.le_of_ble_eq_true rfl, Nat.le_of_ble_eq_true rfl⟩) ⟨wPc_bl, va_recv hK hPc (ci := 5) (q0 := 0) rfl rfl, wPc_use hPc hK hDc⟩ rfl rfl hl.1 rfl (lv_room (Nat.le_of_ble_eq_true rfl)) dX5_letter_7 ⟨Nat.le_of_ble_eq_true rfl, Nat.le_of_ble_eq_true rfl⟩) hS (fun q _ h => hFc q h) hFc (fun r_5 u_5 t H1 locs ht hvm hw hB hz1 hk1 hS => ?_)
    obtain ⟨hP1, hD1⟩ := hB
    rw [ht] at hP1
    obtain ⟨hP, hD⟩ := va_join (wr := [(pa, .inl (cI, 96, .inl (fun _ => 0)))]) (w1 := [(g0, .inr (5, [.ref ra, .ref wa, .ref ta, .int 0, .ref ma, .int 0, .ref pa, .int 0, .int 0, .int 0, .ref ba, .ref ka, .int 0, .ref fa, .ref qa, .ref ea, .ref za, .ref ya, .int 0])), (ra, .inl (cI, 7, .inl (xRf (fun _ => 0) (-4))))]) hP hD [0, 2] [1] rfl rfl (by decide) (by decide) hk1 hFc hP1 hD1
    generalize H1 = H at hP hS ⊢
    have hP : va_P D vwCl [(pa, .inl (cI, 96, .inl (fun _ => 0))), (g0, .inr (5, [.ref ra, .ref wa, .ref ta, .int 0, .ref ma, .int 0, .ref pa, .int 0, .int 0, .int 0, .ref ba, .ref ka, .int 0, .ref fa, .ref qa, .ref ea, .ref za, .ref ya, .int 0])), (ra, .inl (cI, 7, .inl (xRf (fun _ => 0) (-4))))] H := hP
    have hD : va_D A [(pa, .inl (cI, 96, .inl (fun _ => 0))), (g0, .inr (5, [.ref ra, .ref wa, .ref ta, .int 0, .ref ma, .int 0, .ref pa, .int 0, .int 0, .int 0, .ref ba, .ref ka, .int 0, .ref fa, .ref qa, .ref ea, .ref za, .ref ya, .int 0])), (ra, .inl (cI, 7, .inl (xRf (fun _ => 0) (-4))))] := hD
    obtain rfl : ((-4) : Int32) = r_5 := Eq.symm hw
    have hP9 := hP.sub (ws' := []) [] rfl
    have hD9 := hD.sub (ws' := []) [] (by decide) rfl
    exact W.iret (v := -4) hx hb hr (fun t ht hW => ⟨⟨_, (), rfl, by simp [(Int32.not_le.mp c_1)], by rw [ht]; exact hP9, hD9⟩, hS.F ht⟩) hS.2.2 dX5_letter_10

set_option maxHeartbeats 4000000 in
set_option maxRecDepth 100000 in
theorem p1_X5_row (l : Launch) (D : va_G) (cI cL cZ cC : ClassId) (sz : Nat) (g0 : Nat) (ra : Nat) (wa : Nat) (ta : Nat) (ma : Nat) (pa : Nat) (ba : Nat) (ka : Nat) (fa : Nat) (qa : Nat) (ea : Nat) (za : Nat) (ya : Nat) (a1 : Int32)  : Met l yX5_row wsX5_row ({ frames := 1, cells := 0, slots := 0, locals := 21 } : Room) (wPc D [.ref g0, .int a1] [(g0, .inr (5, [.ref ra, .ref wa, .ref ta, .int 0, .ref ma, .int 0, .ref pa, .int 0, .int 0, .int 0, .ref ba, .ref ka, .int 0, .ref fa, .ref qa, .ref ea, .ref za, .ref ya, .int 0])), (ma, .inl (cI, 12, .inl (fun _ => 0))), (ra, .inl (cI, 7, .inl (fun _ => 0)))] (xTy cI cL cZ cC) sz) (va_Qi (fun (r : Int32) (_ : Unit) => r = if a1 < 0 then -4 else if 999 < a1 then -6 else 1) (fun (_ : Unit) t => va_P D vwCl [] t.heap ∧ va_D (va_A [(g0, .inr (5, [.ref ra, .ref wa, .ref ta, .int 0, .ref ma, .int 0, .ref pa, .int 0, .int 0, .int 0, .ref ba, .ref ka, .int 0, .ref fa, .ref qa, .ref ea, .ref za, .ref ya, .int 0])), (ma, .inl (cI, 12, .inl (fun _ => 0))), (ra, .inl (cI, 7, .inl (fun _ => 0)))] sz) []) (va_A [(g0, .inr (5, [.ref ra, .ref wa, .ref ta, .int 0, .ref ma, .int 0, .ref pa, .int 0, .int 0, .int 0, .ref ba, .ref ka, .int 0, .ref fa, .ref qa, .ref ea, .ref za, .ref ya, .int 0])), (ma, .inl (cI, 12, .inl (fun _ => 0))), (ra, .inl (cI, 7, .inl (fun _ => 0)))] sz)) 0 0 (va_A [(g0, .inr (5, [.ref ra, .ref wa, .ref ta, .int 0, .ref ma, .int 0, .ref pa, .int 0, .int 0, .int 0, .ref ba, .ref ka, .int 0, .ref fa, .ref qa, .ref ea, .ref za, .ref ya, .int 0])), (ma, .inl (cI, 12, .inl (fun _ => 0))), (ra, .inl (cI, 7, .inl (fun _ => 0)))] sz) := by
  refine Met.ofW (cc := cX5_row) (maxL := 2) (ret := (some .int)) (by decide) rfl ?_
  intro p e s m args below meth c s₁ B hml hv
  obtain ⟨rfl, hsz, hP, hK, hD0⟩ := hv
  have hx := B.exec
  have hb := B.bytes
  have hr := B.returns
  have hts := atoms_spec (ws := wsX5_row) B.pre
  have hown : s.vm.findClass RX5 = some m.cls := findClass_of_methodNamed B.named
  have hlocks := B.notSynchronized
  have hwX5 : ∀ w ∈ u_ws RX5 TX5 19, w ∈ wsX5_row := fun _ h => List.mem_cons_of_mem _ (List.mem_append_right _ h)
  subst hsz
  have hD := hD0.self (sz := s.heap.size)
  generalize hAe : va_A [(g0, .inr (5, [.ref ra, .ref wa, .ref ta, .int 0, .ref ma, .int 0, .ref pa, .int 0, .int 0, .int 0, .ref ba, .ref ka, .int 0, .ref fa, .ref qa, .ref ea, .ref za, .ref ya, .int 0])), (ma, .inl (cI, 12, .inl (fun _ => 0))), (ra, .inl (cI, 7, .inl (fun _ => 0)))] s.heap.size = A at hD ⊢
  have hA : ∀ q : Nat, s.heap.size ≤ q → A q := fun q h => by rw [← hAe]; exact Or.inr h
  have hS : va_S A s.heap s.heap [] := va_S.rf
  have hP : va_P D vwCl [(g0, .inr (5, [.ref ra, .ref wa, .ref ta, .int 0, .ref ma, .int 0, .ref pa, .int 0, .int 0, .int 0, .ref ba, .ref ka, .int 0, .ref fa, .ref qa, .ref ea, .ref za, .ref ya, .int 0])), (ma, .inl (cI, 12, .inl (fun _ => 0))), (ra, .inl (cI, 7, .inl (fun _ => 0)))] s.heap := hP
  have hl := lv_entry ([.ref g0, .int a1]) (n := 2) (Nat.le_of_ble_eq_true rfl)
  rw [lg_entry_eq]
  generalize (lg_sl ([.ref g0, .int a1]) ++ List.replicate (2 - (lg_sl ([.ref g0, .int a1])).length) Slot.unset).toArray = ls at hl ⊢
  have hl : lv_has ls 2 [(0, .ref g0), (1, .int a1)] := hl
  refine lv_iload_n hx hb dX5_row_0 rfl (lv_at hl 1 rfl) ?_
  refine lv_if_ge (tgt := 11) hx hb dX5_row_1 (by decide) (fun c_1 => ?_) (fun c_1 => ?_)
  · refine lv_iload_n hx hb dX5_row_11 rfl (lv_at hl 1 rfl) ?_
    refine lv_sipush (v := 999) hx hb dX5_row_12 (by decide) ?_
    refine lv_icmp_gt (tgt := 27) hx hb dX5_row_15 (by decide) (fun c_2 => ?_) (fun c_2 => ?_)
    · refine lv_aload_n hx hb dX5_row_27 rfl (lv_at hl 0 rfl) ?_
      refine lv_bipush (v := -6) hx hb dX5_row_28 (by decide) ?_
      have hPc := hP.sub (ws' := [(g0, .inr (5, [.ref ra, .ref wa, .ref ta, .int 0, .ref ma, .int 0, .ref pa, .int 0, .int 0, .int 0, .ref ba, .ref ka, .int 0, .ref fa, .ref qa, .ref ea, .ref za, .ref ya, .int 0])), (ra, .inl (cI, 7, .inl (fun _ => 0)))]) [0, 2] rfl
      have hDc := hD.sub (ws' := [(g0, .inr (5, [.ref ra, .ref wa, .ref ta, .int 0, .ref ma, .int 0, .ref pa, .int 0, .int 0, .int 0, .ref ba, .ref ka, .int 0, .ref fa, .ref qa, .ref ea, .ref za, .ref ya, .int 0])), (ra, .inl (cI, 7, .inl (fun _ => 0)))]) [0, 2] (by decide) rfl
      have hFc := va_free (wc := [(g0, .inr (5, [.ref ra, .ref wa, .ref ta, .int 0, .ref ma, .int 0, .ref pa, .int 0, .int 0, .int 0, .ref ba, .ref ka, .int 0, .ref fa, .ref qa, .ref ea, .ref za, .ref ya, .int 0])), (ra, .inl (cI, 7, .inl (fun _ => 0)))]) hD hS hA [0, 2] rfl
      refine va_calli (va_runV (As := [.int (-6)]) (rest := []) ⟨hx, hb, hml, hown, hts⟩ (c_X5_no l D cI cL cZ cC _ g0 ra wa ta ma pa ba ka fa qa ea za ya (fun _ => 0) (-6) (by first | assumption | decide +kernel) (by first | assumption | decide +kernel)) (cwV 1 hts gX5_row_X5_no rfl rfl rfl (by decide +kernel) ⟨Nat.le_of_ble_eq_true rfl, Nat.le_of_ble_eq_true rfl⟩) ⟨wPc_bl, va_recv hK hPc (ci := 5) (q0 := 0) rfl rfl, wPc_use hPc hK hDc⟩ rfl rfl hl.1 rfl (lv_room (Nat.le_of_ble_eq_true rfl)) dX5_row_30 ⟨Nat.le_of_ble_eq_true rfl, Nat.le_of_ble_eq_true rfl⟩) hS (fun q _ h => hFc q h) hFc (fun r_3 u_3 t H1 locs ht hvm hw hB hz1 hk1 hS => ?_)
      obtain ⟨hP1, hD1⟩ := hB
      rw [ht] at hP1
      obtain ⟨hP, hD⟩ := va_join (wr := [(ma, .inl (cI, 12, .inl (fun _ => 0)))]) (w1 := [(g0, .inr (5, [.ref ra, .ref wa, .ref ta, .int 0, .ref ma, .int 0, .ref pa, .int 0, .int 0, .int 0, .ref ba, .ref ka, .int 0, .ref fa, .ref qa, .ref ea, .ref za, .ref ya, .int 0])), (ra, .inl (cI, 7, .inl (xRf (fun _ => 0) (-6))))]) hP hD [0, 2] [1] rfl rfl (by decide) (by decide) hk1 hFc hP1 hD1
      generalize H1 = H at hP hS ⊢
      have hP : va_P D vwCl [(ma, .inl (cI, 12, .inl (fun _ => 0))), (g0, .inr (5, [.ref ra, .ref wa, .ref ta, .int 0, .ref ma, .int 0, .ref pa, .int 0, .int 0, .int 0, .ref ba, .ref ka, .int 0, .ref fa, .ref qa, .ref ea, .ref za, .ref ya, .int 0])), (ra, .inl (cI, 7, .inl (xRf (fun _ => 0) (-6))))] H := hP
      have hD : va_D A [(ma, .inl (cI, 12, .inl (fun _ => 0))), (g0, .inr (5, [.ref ra, .ref wa, .ref ta, .int 0, .ref ma, .int 0, .ref pa, .int 0, .int 0, .int 0, .ref ba, .ref ka, .int 0, .ref fa, .ref qa, .ref ea, .ref za, .ref ya, .int 0])), (ra, .inl (cI, 7, .inl (xRf (fun _ => 0) (-6))))] := hD
      obtain rfl : ((-6) : Int32) = r_3 := Eq.symm hw
      have hP9 := hP.sub (ws' := []) [] rfl
      have hD9 := hD.sub (ws' := []) [] (by decide) rfl
      exact W.iret (v := -6) hx hb hr (fun t ht hW => ⟨⟨_, (), rfl, by simp [(Int32.not_lt.mpr c_1), c_2], by rw [ht]; exact hP9, hD9⟩, hS.F ht⟩) hS.2.2 dX5_row_33
    · refine lv_aload_n hx hb dX5_row_18 rfl (lv_at hl 0 rfl) ?_
      refine va_get (D := D) (ci := 5) (v := .int 0) (C := RX5) (T := TX5) (N := 19) hx hb hts hwX5 hown hK hP 0 rfl rfl 5 (by decide) (hts (.fieldLink RX5 188 "WaitOrWalkOnModel" "marked" "I") (by decide +kernel)) (fun _ h9 => h9) rfl dX5_row_19 ?_
      refine lv_bipush (v := 12) hx hb dX5_row_22 (by decide) ?_
      refine lv_icmp_ne (tgt := 34) hx hb dX5_row_24 (by decide) (fun c_4 => ?_) (fun c_4 => absurd c_4 (by decide +kernel))
      refine lv_aload_n hx hb dX5_row_34 rfl (lv_at hl 0 rfl) ?_
      refine va_get (D := D) (ci := 5) (v := .ref ma) (C := RX5) (T := TX5) (N := 19) hx hb hts hwX5 hown hK hP 0 rfl rfl 4 (by decide) (hts (.fieldLink RX5 25 "WaitOrWalkOnModel" "marks" "[I") (by decide +kernel)) (fun _ h9 => h9) rfl dX5_row_35 ?_
      refine lv_aload_n hx hb dX5_row_38 rfl (lv_at hl 0 rfl) ?_
      refine va_get (D := D) (ci := 5) (v := .int 0) (C := RX5) (T := TX5) (N := 19) hx hb hts hwX5 hown hK hP 0 rfl rfl 5 (by decide) (hts (.fieldLink RX5 188 "WaitOrWalkOnModel" "marked" "I") (by decide +kernel)) (fun _ h9 => h9) rfl dX5_row_39 ?_
      refine lv_iload_n hx hb dX5_row_42 rfl (lv_at hl 1 rfl) ?_
      refine va_iast (D := D) hx hb hK hP hD hS 1 0 rfl rfl (by unfold vp_in; decide +kernel) dX5_row_43 (fun H locs hP hD hS => ?_)
      have hP : va_P D vwCl [(g0, .inr (5, [.ref ra, .ref wa, .ref ta, .int 0, .ref ma, .int 0, .ref pa, .int 0, .int 0, .int 0, .ref ba, .ref ka, .int 0, .ref fa, .ref qa, .ref ea, .ref za, .ref ya, .int 0])), (ma, .inl (cI, 12, .inl (upd (fun _ => 0) 0 a1))), (ra, .inl (cI, 7, .inl (fun _ => 0)))] H := hP
      have hD : va_D A [(g0, .inr (5, [.ref ra, .ref wa, .ref ta, .int 0, .ref ma, .int 0, .ref pa, .int 0, .int 0, .int 0, .ref ba, .ref ka, .int 0, .ref fa, .ref qa, .ref ea, .ref za, .ref ya, .int 0])), (ma, .inl (cI, 12, .inl (upd (fun _ => 0) 0 a1))), (ra, .inl (cI, 7, .inl (fun _ => 0)))] := hD
      refine lv_aload_n hx hb dX5_row_44 rfl (lv_at hl 0 rfl) ?_
      refine lv_dup hx hb dX5_row_45 rfl ?_
      refine va_get (D := D) (ci := 5) (v := .int 0) (C := RX5) (T := TX5) (N := 19) hx hb hts hwX5 hown hK hP 0 rfl rfl 5 (by decide) (hts (.fieldLink RX5 188 "WaitOrWalkOnModel" "marked" "I") (by decide +kernel)) (fun _ h9 => h9) rfl dX5_row_46 ?_
      refine lv_iconst (v := 1) hx hb dX5_row_49 (by decide) ?_
      refine lv_iadd hx hb dX5_row_50 ?_
      refine xv_int (y := 1) (by decide +kernel) ?_
      refine va_put (D := D) (ci := 5) (v := .int 1) (ty := .int) (C := RX5) (T := TX5) (N := 19) hx hb hts hwX5 tyX5 tyX5_ok nmX5 hown hK hP hD hS 0 rfl rfl 5 (by decide) (hts (.fieldLink RX5 188 "WaitOrWalkOnModel" "marked" "I") (by decide +kernel)) (fun _ h9 => h9) rfl (by decide +kernel) (by decide +kernel) rfl (Nat.le_of_ble_eq_true rfl) dX5_row_51 (fun H locs hP hD hS => ?_)
      have hP : va_P D vwCl [(g0, .inr (5, [.ref ra, .ref wa, .ref ta, .int 0, .ref ma, .int 1, .ref pa, .int 0, .int 0, .int 0, .ref ba, .ref ka, .int 0, .ref fa, .ref qa, .ref ea, .ref za, .ref ya, .int 0])), (ma, .inl (cI, 12, .inl (upd (fun _ => 0) 0 a1))), (ra, .inl (cI, 7, .inl (fun _ => 0)))] H := hP
      have hD : va_D A [(g0, .inr (5, [.ref ra, .ref wa, .ref ta, .int 0, .ref ma, .int 1, .ref pa, .int 0, .int 0, .int 0, .ref ba, .ref ka, .int 0, .ref fa, .ref qa, .ref ea, .ref za, .ref ya, .int 0])), (ma, .inl (cI, 12, .inl (upd (fun _ => 0) 0 a1))), (ra, .inl (cI, 7, .inl (fun _ => 0)))] := hD
      refine lv_aload_n hx hb dX5_row_54 rfl (lv_at hl 0 rfl) ?_
      refine va_get (D := D) (ci := 5) (v := .int 1) (C := RX5) (T := TX5) (N := 19) hx hb hts hwX5 hown hK hP 0 rfl rfl 5 (by decide) (hts (.fieldLink RX5 188 "WaitOrWalkOnModel" "marked" "I") (by decide +kernel)) (fun _ h9 => h9) rfl dX5_row_55 ?_
      have hP9 := hP.sub (ws' := []) [] rfl
      have hD9 := hD.sub (ws' := []) [] (by decide) rfl
      exact W.iret (v := 1) hx hb hr (fun t ht hW => ⟨⟨_, (), rfl, by simp [(Int32.not_lt.mpr c_1), c_2, c_4], by rw [ht]; exact hP9, hD9⟩, hS.F ht⟩) hS.2.2 dX5_row_58
  · refine lv_aload_n hx hb dX5_row_4 rfl (lv_at hl 0 rfl) ?_
    refine lv_bipush (v := -4) hx hb dX5_row_5 (by decide) ?_
    have hPc := hP.sub (ws' := [(g0, .inr (5, [.ref ra, .ref wa, .ref ta, .int 0, .ref ma, .int 0, .ref pa, .int 0, .int 0, .int 0, .ref ba, .ref ka, .int 0, .ref fa, .ref qa, .ref ea, .ref za, .ref ya, .int 0])), (ra, .inl (cI, 7, .inl (fun _ => 0)))]) [0, 2] rfl
    have hDc := hD.sub (ws' := [(g0, .inr (5, [.ref ra, .ref wa, .ref ta, .int 0, .ref ma, .int 0, .ref pa, .int 0, .int 0, .int 0, .ref ba, .ref ka, .int 0, .ref fa, .ref qa, .ref ea, .ref za, .ref ya, .int 0])), (ra, .inl (cI, 7, .inl (fun _ => 0)))]) [0, 2] (by decide) rfl
    have hFc := va_free (wc := [(g0, .inr (5, [.ref ra, .ref wa, .ref ta, .int 0, .ref ma, .int 0, .ref pa, .int 0, .int 0, .int 0, .ref ba, .ref ka, .int 0, .ref fa, .ref qa, .ref ea, .ref za, .ref ya, .int 0])), (ra, .inl (cI, 7, .inl (fun _ => 0)))]) hD hS hA [0, 2] rfl
    refine va_calli (va_runV (As := [.int (-4)]) (rest := []) ⟨hx, hb, hml, hown, hts⟩ (c_X5_no l D cI cL cZ cC _ g0 ra wa ta ma pa ba ka fa qa ea za ya (fun _ => 0) (-4) (by first | assumption | decide +kernel) (by first | assumption | decide +kernel)) (cwV 1 hts gX5_row_X5_no rfl rfl rfl (by decide +kernel) ⟨Nat.le_of_ble_eq_true rfl, Nat.le_of_ble_eq_true rfl⟩) ⟨wPc_bl, va_recv hK hPc (ci := 5) (q0 := 0) rfl rfl, wPc_use hPc hK hDc⟩ rfl rfl hl.1 rfl (lv_room (Nat.le_of_ble_eq_true rfl)) dX5_row_7 ⟨Nat.le_of_ble_eq_true rfl, Nat.le_of_ble_eq_true rfl⟩) hS (fun q _ h => hFc q h) hFc (fun r_5 u_5 t H1 locs ht hvm hw hB hz1 hk1 hS => ?_)
    obtain ⟨hP1, hD1⟩ := hB
    rw [ht] at hP1
    obtain ⟨hP, hD⟩ := va_join (wr := [(ma, .inl (cI, 12, .inl (fun _ => 0)))]) (w1 := [(g0, .inr (5, [.ref ra, .ref wa, .ref ta, .int 0, .ref ma, .int 0, .ref pa, .int 0, .int 0, .int 0, .ref ba, .ref ka, .int 0, .ref fa, .ref qa, .ref ea, .ref za, .ref ya, .int 0])), (ra, .inl (cI, 7, .inl (xRf (fun _ => 0) (-4))))]) hP hD [0, 2] [1] rfl rfl (by decide) (by decide) hk1 hFc hP1 hD1
    generalize H1 = H at hP hS ⊢
    have hP : va_P D vwCl [(ma, .inl (cI, 12, .inl (fun _ => 0))), (g0, .inr (5, [.ref ra, .ref wa, .ref ta, .int 0, .ref ma, .int 0, .ref pa, .int 0, .int 0, .int 0, .ref ba, .ref ka, .int 0, .ref fa, .ref qa, .ref ea, .ref za, .ref ya, .int 0])), (ra, .inl (cI, 7, .inl (xRf (fun _ => 0) (-4))))] H := hP
    have hD : va_D A [(ma, .inl (cI, 12, .inl (fun _ => 0))), (g0, .inr (5, [.ref ra, .ref wa, .ref ta, .int 0, .ref ma, .int 0, .ref pa, .int 0, .int 0, .int 0, .ref ba, .ref ka, .int 0, .ref fa, .ref qa, .ref ea, .ref za, .ref ya, .int 0])), (ra, .inl (cI, 7, .inl (xRf (fun _ => 0) (-4))))] := hD
    obtain rfl : ((-4) : Int32) = r_5 := Eq.symm hw
    have hP9 := hP.sub (ws' := []) [] rfl
    have hD9 := hD.sub (ws' := []) [] (by decide) rfl
    exact W.iret (v := -4) hx hb hr (fun t ht hW => ⟨⟨_, (), rfl, by simp [(Int32.not_le.mp c_1)], by rw [ht]; exact hP9, hD9⟩, hS.F ht⟩) hS.2.2 dX5_row_10

set_option maxHeartbeats 4000000 in
set_option maxRecDepth 100000 in
theorem c_X5_oneOf (l : Launch) (D : va_G) (cI cL cZ cC : ClassId) (sz : Nat) (g0 : Nat) (ra : Nat) (wa : Nat) (ta : Nat) (ma : Nat) (pa : Nat) (ba : Nat) (ka : Nat) (fa : Nat) (qa : Nat) (ea : Nat) (za : Nat) (ya : Nat)  : Met l yX5_oneOf wsX5_oneOf ({ frames := 0, cells := 0, slots := 0, locals := 0 } : Room) (wPc D [.ref g0, .ref ba] [(g0, .inr (5, [.ref ra, .ref wa, .ref ta, .int 0, .ref ma, .int 0, .ref pa, .int 0, .int 0, .int 1, .ref ba, .ref ka, .int 0, .ref fa, .ref qa, .ref ea, .ref za, .ref ya, .int 0])), (ba, .inl (cC, 6, .inl (upd (upd (upd (upd (upd (upd (fun _ => 0) 0 115) 1 104) 2 112) 3 108) 4 101) 5 109)))] (xTy cI cL cZ cC) sz) (va_Qi (fun (r : Int32) (_ : Unit) => r = 0) (fun (_ : Unit) t => va_P D vwCl [(g0, .inr (5, [.ref ra, .ref wa, .ref ta, .int 0, .ref ma, .int 0, .ref pa, .int 0, .int 0, .int 0, .ref ba, .ref ka, .int 0, .ref fa, .ref qa, .ref ea, .ref za, .ref ya, .int 0])), (ba, .inl (cC, 6, .inl (upd (upd (upd (upd (upd (upd (fun _ => 0) 0 115) 1 104) 2 112) 3 108) 4 101) 5 109)))] t.heap ∧ va_D (va_A [(g0, .inr (5, [.ref ra, .ref wa, .ref ta, .int 0, .ref ma, .int 0, .ref pa, .int 0, .int 0, .int 1, .ref ba, .ref ka, .int 0, .ref fa, .ref qa, .ref ea, .ref za, .ref ya, .int 0])), (ba, .inl (cC, 6, .inl (upd (upd (upd (upd (upd (upd (fun _ => 0) 0 115) 1 104) 2 112) 3 108) 4 101) 5 109)))] sz) [(g0, .inr (5, [.ref ra, .ref wa, .ref ta, .int 0, .ref ma, .int 0, .ref pa, .int 0, .int 0, .int 0, .ref ba, .ref ka, .int 0, .ref fa, .ref qa, .ref ea, .ref za, .ref ya, .int 0])), (ba, .inl (cC, 6, .inl (upd (upd (upd (upd (upd (upd (fun _ => 0) 0 115) 1 104) 2 112) 3 108) 4 101) 5 109)))]) (va_A [(g0, .inr (5, [.ref ra, .ref wa, .ref ta, .int 0, .ref ma, .int 0, .ref pa, .int 0, .int 0, .int 1, .ref ba, .ref ka, .int 0, .ref fa, .ref qa, .ref ea, .ref za, .ref ya, .int 0])), (ba, .inl (cC, 6, .inl (upd (upd (upd (upd (upd (upd (fun _ => 0) 0 115) 1 104) 2 112) 3 108) 4 101) 5 109)))] sz)) 0 0 (va_A [(g0, .inr (5, [.ref ra, .ref wa, .ref ta, .int 0, .ref ma, .int 0, .ref pa, .int 0, .int 0, .int 1, .ref ba, .ref ka, .int 0, .ref fa, .ref qa, .ref ea, .ref za, .ref ya, .int 0])), (ba, .inl (cC, 6, .inl (upd (upd (upd (upd (upd (upd (fun _ => 0) 0 115) 1 104) 2 112) 3 108) 4 101) 5 109)))] sz) := by
  refine Met.ofW (cc := cX5_oneOf) (maxL := 3) (ret := (some .int)) (by decide) rfl ?_
  intro p e s m args below meth c s₁ B hml hv
  obtain ⟨rfl, hsz, hP, hK, hD0⟩ := hv
  have hx := B.exec
  have hb := B.bytes
  have hr := B.returns
  have hts := atoms_spec (ws := wsX5_oneOf) B.pre
  have hown : s.vm.findClass RX5 = some m.cls := findClass_of_methodNamed B.named
  have hlocks := B.notSynchronized
  have hwX5 : ∀ w ∈ u_ws RX5 TX5 19, w ∈ wsX5_oneOf := fun _ h => List.mem_cons_of_mem _ (List.mem_append_right _ h)
  subst hsz
  have hD := hD0.self (sz := s.heap.size)
  generalize hAe : va_A [(g0, .inr (5, [.ref ra, .ref wa, .ref ta, .int 0, .ref ma, .int 0, .ref pa, .int 0, .int 0, .int 1, .ref ba, .ref ka, .int 0, .ref fa, .ref qa, .ref ea, .ref za, .ref ya, .int 0])), (ba, .inl (cC, 6, .inl (upd (upd (upd (upd (upd (upd (fun _ => 0) 0 115) 1 104) 2 112) 3 108) 4 101) 5 109)))] s.heap.size = A at hD ⊢
  have hA : ∀ q : Nat, s.heap.size ≤ q → A q := fun q h => by rw [← hAe]; exact Or.inr h
  have hS : va_S A s.heap s.heap [] := va_S.rf
  have hP : va_P D vwCl [(g0, .inr (5, [.ref ra, .ref wa, .ref ta, .int 0, .ref ma, .int 0, .ref pa, .int 0, .int 0, .int 1, .ref ba, .ref ka, .int 0, .ref fa, .ref qa, .ref ea, .ref za, .ref ya, .int 0])), (ba, .inl (cC, 6, .inl (upd (upd (upd (upd (upd (upd (fun _ => 0) 0 115) 1 104) 2 112) 3 108) 4 101) 5 109)))] s.heap := hP
  have hl := lv_entry ([.ref g0, .ref ba]) (n := 3) (Nat.le_of_ble_eq_true rfl)
  rw [lg_entry_eq]
  generalize (lg_sl ([.ref g0, .ref ba]) ++ List.replicate (3 - (lg_sl ([.ref g0, .ref ba])).length) Slot.unset).toArray = ls at hl ⊢
  have hl : lv_has ls 3 [(0, .ref g0), (1, .ref ba)] := hl
  refine lv_iconst (v := 0) hx hb dX5_oneOf_0 (by decide) ?_
  refine lv_istore_n (lv' := [(2, .int 0), (0, .ref g0), (1, .ref ba)]) hx hb dX5_oneOf_1 rfl hl (by decide) rfl (fun ls hl => ?_)
  refine lv_iload_n hx hb dX5_oneOf_2 rfl (lv_at hl 0 rfl) ?_
  refine lv_aload_n hx hb dX5_oneOf_3 rfl (lv_at hl 2 rfl) ?_
  refine va_alen (D := D) hx hb hK hP 1 3 rfl rfl (v := 6) rfl dX5_oneOf_4 ?_
  refine lv_icmp_ge (tgt := 59) hx hb dX5_oneOf_5 (by decide) (fun c_1 => absurd c_1 (by decide +kernel)) (fun c_1 => ?_)
  refine lv_aload_n hx hb dX5_oneOf_8 rfl (lv_at hl 1 rfl) ?_
  refine va_get (D := D) (ci := 5) (v := .int 1) (C := RX5) (T := TX5) (N := 19) hx hb hts hwX5 hown hK hP 0 rfl rfl 9 (by decide) (hts (.fieldLink RX5 61 "WaitOrWalkOnModel" "well" "Z") (by decide +kernel)) (fun _ h9 => h9) rfl dX5_oneOf_9 ?_
  refine lv_if_eq (tgt := 53) hx hb dX5_oneOf_12 (by decide) (fun c_2 => absurd c_2 (by decide +kernel)) (fun c_2 => ?_)
  refine lv_aload_n hx hb dX5_oneOf_15 rfl (lv_at hl 1 rfl) ?_
  refine va_get (D := D) (ci := 5) (v := .int 0) (C := RX5) (T := TX5) (N := 19) hx hb hts hwX5 hown hK hP 0 rfl rfl 8 (by decide) (hts (.fieldLink RX5 64 "WaitOrWalkOnModel" "at" "I") (by decide +kernel)) (fun _ h9 => h9) rfl dX5_oneOf_16 ?_
  refine lv_aload_n hx hb dX5_oneOf_19 rfl (lv_at hl 1 rfl) ?_
  refine va_get (D := D) (ci := 5) (v := .int 0) (C := RX5) (T := TX5) (N := 19) hx hb hts hwX5 hown hK hP 0 rfl rfl 7 (by decide) (hts (.fieldLink RX5 57 "WaitOrWalkOnModel" "taped" "I") (by decide +kernel)) (fun _ h9 => h9) rfl dX5_oneOf_20 ?_
  refine lv_icmp_ge (tgt := 53) hx hb dX5_oneOf_23 (by decide) (fun c_3 => ?_) (fun c_3 => absurd c_3 (by decide +kernel))
  refine lv_iinc (v := 1) (lv' := [(2, .int 1), (0, .ref g0), (1, .ref ba)]) hx hb dX5_oneOf_53 hl (k := 0) rfl (by decide +kernel) (by decide) rfl (fun ls hl => ?_)
  refine lv_goto (tgt := 2) hx hb dX5_oneOf_56 (by decide) ?_
  refine lv_iload_n hx hb dX5_oneOf_2 rfl (lv_at hl 0 rfl) ?_
  refine lv_aload_n hx hb dX5_oneOf_3 rfl (lv_at hl 2 rfl) ?_
  refine va_alen (D := D) hx hb hK hP 1 3 rfl rfl (v := 6) rfl dX5_oneOf_4 ?_
  refine lv_icmp_ge (tgt := 59) hx hb dX5_oneOf_5 (by decide) (fun c_4 => absurd c_4 (by decide +kernel)) (fun c_4 => ?_)
  refine lv_aload_n hx hb dX5_oneOf_8 rfl (lv_at hl 1 rfl) ?_
  refine va_get (D := D) (ci := 5) (v := .int 1) (C := RX5) (T := TX5) (N := 19) hx hb hts hwX5 hown hK hP 0 rfl rfl 9 (by decide) (hts (.fieldLink RX5 61 "WaitOrWalkOnModel" "well" "Z") (by decide +kernel)) (fun _ h9 => h9) rfl dX5_oneOf_9 ?_
  refine lv_if_eq (tgt := 53) hx hb dX5_oneOf_12 (by decide) (fun c_5 => absurd c_5 (by decide +kernel)) (fun c_5 => ?_)
  refine lv_aload_n hx hb dX5_oneOf_15 rfl (lv_at hl 1 rfl) ?_
  refine va_get (D := D) (ci := 5) (v := .int 0) (C := RX5) (T := TX5) (N := 19) hx hb hts hwX5 hown hK hP 0 rfl rfl 8 (by decide) (hts (.fieldLink RX5 64 "WaitOrWalkOnModel" "at" "I") (by decide +kernel)) (fun _ h9 => h9) rfl dX5_oneOf_16 ?_
  refine lv_aload_n hx hb dX5_oneOf_19 rfl (lv_at hl 1 rfl) ?_
  refine va_get (D := D) (ci := 5) (v := .int 0) (C := RX5) (T := TX5) (N := 19) hx hb hts hwX5 hown hK hP 0 rfl rfl 7 (by decide) (hts (.fieldLink RX5 57 "WaitOrWalkOnModel" "taped" "I") (by decide +kernel)) (fun _ h9 => h9) rfl dX5_oneOf_20 ?_
  refine lv_icmp_ge (tgt := 53) hx hb dX5_oneOf_23 (by decide) (fun c_6 => ?_) (fun c_6 => absurd c_6 (by decide +kernel))
  refine lv_iinc (v := 2) (lv' := [(2, .int 2), (0, .ref g0), (1, .ref ba)]) hx hb dX5_oneOf_53 hl (k := 0) rfl (by decide +kernel) (by decide) rfl (fun ls hl => ?_)
  refine lv_goto (tgt := 2) hx hb dX5_oneOf_56 (by decide) ?_
  refine lv_iload_n hx hb dX5_oneOf_2 rfl (lv_at hl 0 rfl) ?_
  refine lv_aload_n hx hb dX5_oneOf_3 rfl (lv_at hl 2 rfl) ?_
  refine va_alen (D := D) hx hb hK hP 1 3 rfl rfl (v := 6) rfl dX5_oneOf_4 ?_
  refine lv_icmp_ge (tgt := 59) hx hb dX5_oneOf_5 (by decide) (fun c_7 => absurd c_7 (by decide +kernel)) (fun c_7 => ?_)
  refine lv_aload_n hx hb dX5_oneOf_8 rfl (lv_at hl 1 rfl) ?_
  refine va_get (D := D) (ci := 5) (v := .int 1) (C := RX5) (T := TX5) (N := 19) hx hb hts hwX5 hown hK hP 0 rfl rfl 9 (by decide) (hts (.fieldLink RX5 61 "WaitOrWalkOnModel" "well" "Z") (by decide +kernel)) (fun _ h9 => h9) rfl dX5_oneOf_9 ?_
  refine lv_if_eq (tgt := 53) hx hb dX5_oneOf_12 (by decide) (fun c_8 => absurd c_8 (by decide +kernel)) (fun c_8 => ?_)
  refine lv_aload_n hx hb dX5_oneOf_15 rfl (lv_at hl 1 rfl) ?_
  refine va_get (D := D) (ci := 5) (v := .int 0) (C := RX5) (T := TX5) (N := 19) hx hb hts hwX5 hown hK hP 0 rfl rfl 8 (by decide) (hts (.fieldLink RX5 64 "WaitOrWalkOnModel" "at" "I") (by decide +kernel)) (fun _ h9 => h9) rfl dX5_oneOf_16 ?_
  refine lv_aload_n hx hb dX5_oneOf_19 rfl (lv_at hl 1 rfl) ?_
  refine va_get (D := D) (ci := 5) (v := .int 0) (C := RX5) (T := TX5) (N := 19) hx hb hts hwX5 hown hK hP 0 rfl rfl 7 (by decide) (hts (.fieldLink RX5 57 "WaitOrWalkOnModel" "taped" "I") (by decide +kernel)) (fun _ h9 => h9) rfl dX5_oneOf_20 ?_
  refine lv_icmp_ge (tgt := 53) hx hb dX5_oneOf_23 (by decide) (fun c_9 => ?_) (fun c_9 => absurd c_9 (by decide +kernel))
  refine lv_iinc (v := 3) (lv' := [(2, .int 3), (0, .ref g0), (1, .ref ba)]) hx hb dX5_oneOf_53 hl (k := 0) rfl (by decide +kernel) (by decide) rfl (fun ls hl => ?_)
  refine lv_goto (tgt := 2) hx hb dX5_oneOf_56 (by decide) ?_
  refine lv_iload_n hx hb dX5_oneOf_2 rfl (lv_at hl 0 rfl) ?_
  refine lv_aload_n hx hb dX5_oneOf_3 rfl (lv_at hl 2 rfl) ?_
  refine va_alen (D := D) hx hb hK hP 1 3 rfl rfl (v := 6) rfl dX5_oneOf_4 ?_
  refine lv_icmp_ge (tgt := 59) hx hb dX5_oneOf_5 (by decide) (fun c_10 => absurd c_10 (by decide +kernel)) (fun c_10 => ?_)
  refine lv_aload_n hx hb dX5_oneOf_8 rfl (lv_at hl 1 rfl) ?_
  refine va_get (D := D) (ci := 5) (v := .int 1) (C := RX5) (T := TX5) (N := 19) hx hb hts hwX5 hown hK hP 0 rfl rfl 9 (by decide) (hts (.fieldLink RX5 61 "WaitOrWalkOnModel" "well" "Z") (by decide +kernel)) (fun _ h9 => h9) rfl dX5_oneOf_9 ?_
  refine lv_if_eq (tgt := 53) hx hb dX5_oneOf_12 (by decide) (fun c_11 => absurd c_11 (by decide +kernel)) (fun c_11 => ?_)
  refine lv_aload_n hx hb dX5_oneOf_15 rfl (lv_at hl 1 rfl) ?_
  refine va_get (D := D) (ci := 5) (v := .int 0) (C := RX5) (T := TX5) (N := 19) hx hb hts hwX5 hown hK hP 0 rfl rfl 8 (by decide) (hts (.fieldLink RX5 64 "WaitOrWalkOnModel" "at" "I") (by decide +kernel)) (fun _ h9 => h9) rfl dX5_oneOf_16 ?_
  refine lv_aload_n hx hb dX5_oneOf_19 rfl (lv_at hl 1 rfl) ?_
  refine va_get (D := D) (ci := 5) (v := .int 0) (C := RX5) (T := TX5) (N := 19) hx hb hts hwX5 hown hK hP 0 rfl rfl 7 (by decide) (hts (.fieldLink RX5 57 "WaitOrWalkOnModel" "taped" "I") (by decide +kernel)) (fun _ h9 => h9) rfl dX5_oneOf_20 ?_
  refine lv_icmp_ge (tgt := 53) hx hb dX5_oneOf_23 (by decide) (fun c_12 => ?_) (fun c_12 => absurd c_12 (by decide +kernel))
  refine lv_iinc (v := 4) (lv' := [(2, .int 4), (0, .ref g0), (1, .ref ba)]) hx hb dX5_oneOf_53 hl (k := 0) rfl (by decide +kernel) (by decide) rfl (fun ls hl => ?_)
  refine lv_goto (tgt := 2) hx hb dX5_oneOf_56 (by decide) ?_
  refine lv_iload_n hx hb dX5_oneOf_2 rfl (lv_at hl 0 rfl) ?_
  refine lv_aload_n hx hb dX5_oneOf_3 rfl (lv_at hl 2 rfl) ?_
  refine va_alen (D := D) hx hb hK hP 1 3 rfl rfl (v := 6) rfl dX5_oneOf_4 ?_
  refine lv_icmp_ge (tgt := 59) hx hb dX5_oneOf_5 (by decide) (fun c_13 => absurd c_13 (by decide +kernel)) (fun c_13 => ?_)
  refine lv_aload_n hx hb dX5_oneOf_8 rfl (lv_at hl 1 rfl) ?_
  refine va_get (D := D) (ci := 5) (v := .int 1) (C := RX5) (T := TX5) (N := 19) hx hb hts hwX5 hown hK hP 0 rfl rfl 9 (by decide) (hts (.fieldLink RX5 61 "WaitOrWalkOnModel" "well" "Z") (by decide +kernel)) (fun _ h9 => h9) rfl dX5_oneOf_9 ?_
  refine lv_if_eq (tgt := 53) hx hb dX5_oneOf_12 (by decide) (fun c_14 => absurd c_14 (by decide +kernel)) (fun c_14 => ?_)
  refine lv_aload_n hx hb dX5_oneOf_15 rfl (lv_at hl 1 rfl) ?_
  refine va_get (D := D) (ci := 5) (v := .int 0) (C := RX5) (T := TX5) (N := 19) hx hb hts hwX5 hown hK hP 0 rfl rfl 8 (by decide) (hts (.fieldLink RX5 64 "WaitOrWalkOnModel" "at" "I") (by decide +kernel)) (fun _ h9 => h9) rfl dX5_oneOf_16 ?_
  refine lv_aload_n hx hb dX5_oneOf_19 rfl (lv_at hl 1 rfl) ?_
  refine va_get (D := D) (ci := 5) (v := .int 0) (C := RX5) (T := TX5) (N := 19) hx hb hts hwX5 hown hK hP 0 rfl rfl 7 (by decide) (hts (.fieldLink RX5 57 "WaitOrWalkOnModel" "taped" "I") (by decide +kernel)) (fun _ h9 => h9) rfl dX5_oneOf_20 ?_
  refine lv_icmp_ge (tgt := 53) hx hb dX5_oneOf_23 (by decide) (fun c_15 => ?_) (fun c_15 => absurd c_15 (by decide +kernel))
  refine lv_iinc (v := 5) (lv' := [(2, .int 5), (0, .ref g0), (1, .ref ba)]) hx hb dX5_oneOf_53 hl (k := 0) rfl (by decide +kernel) (by decide) rfl (fun ls hl => ?_)
  refine lv_goto (tgt := 2) hx hb dX5_oneOf_56 (by decide) ?_
  refine lv_iload_n hx hb dX5_oneOf_2 rfl (lv_at hl 0 rfl) ?_
  refine lv_aload_n hx hb dX5_oneOf_3 rfl (lv_at hl 2 rfl) ?_
  refine va_alen (D := D) hx hb hK hP 1 3 rfl rfl (v := 6) rfl dX5_oneOf_4 ?_
  refine lv_icmp_ge (tgt := 59) hx hb dX5_oneOf_5 (by decide) (fun c_16 => absurd c_16 (by decide +kernel)) (fun c_16 => ?_)
  refine lv_aload_n hx hb dX5_oneOf_8 rfl (lv_at hl 1 rfl) ?_
  refine va_get (D := D) (ci := 5) (v := .int 1) (C := RX5) (T := TX5) (N := 19) hx hb hts hwX5 hown hK hP 0 rfl rfl 9 (by decide) (hts (.fieldLink RX5 61 "WaitOrWalkOnModel" "well" "Z") (by decide +kernel)) (fun _ h9 => h9) rfl dX5_oneOf_9 ?_
  refine lv_if_eq (tgt := 53) hx hb dX5_oneOf_12 (by decide) (fun c_17 => absurd c_17 (by decide +kernel)) (fun c_17 => ?_)
  refine lv_aload_n hx hb dX5_oneOf_15 rfl (lv_at hl 1 rfl) ?_
  refine va_get (D := D) (ci := 5) (v := .int 0) (C := RX5) (T := TX5) (N := 19) hx hb hts hwX5 hown hK hP 0 rfl rfl 8 (by decide) (hts (.fieldLink RX5 64 "WaitOrWalkOnModel" "at" "I") (by decide +kernel)) (fun _ h9 => h9) rfl dX5_oneOf_16 ?_
  refine lv_aload_n hx hb dX5_oneOf_19 rfl (lv_at hl 1 rfl) ?_
  refine va_get (D := D) (ci := 5) (v := .int 0) (C := RX5) (T := TX5) (N := 19) hx hb hts hwX5 hown hK hP 0 rfl rfl 7 (by decide) (hts (.fieldLink RX5 57 "WaitOrWalkOnModel" "taped" "I") (by decide +kernel)) (fun _ h9 => h9) rfl dX5_oneOf_20 ?_
  refine lv_icmp_ge (tgt := 53) hx hb dX5_oneOf_23 (by decide) (fun c_18 => ?_) (fun c_18 => absurd c_18 (by decide +kernel))
  refine lv_iinc (v := 6) (lv' := [(2, .int 6), (0, .ref g0), (1, .ref ba)]) hx hb dX5_oneOf_53 hl (k := 0) rfl (by decide +kernel) (by decide) rfl (fun ls hl => ?_)
  refine lv_goto (tgt := 2) hx hb dX5_oneOf_56 (by decide) ?_
  refine lv_iload_n hx hb dX5_oneOf_2 rfl (lv_at hl 0 rfl) ?_
  refine lv_aload_n hx hb dX5_oneOf_3 rfl (lv_at hl 2 rfl) ?_
  refine va_alen (D := D) hx hb hK hP 1 3 rfl rfl (v := 6) rfl dX5_oneOf_4 ?_
  refine lv_icmp_ge (tgt := 59) hx hb dX5_oneOf_5 (by decide) (fun c_19 => ?_) (fun c_19 => absurd c_19 (by decide +kernel))
  refine lv_aload_n hx hb dX5_oneOf_59 rfl (lv_at hl 1 rfl) ?_
  refine lv_iconst (v := 0) hx hb dX5_oneOf_60 (by decide) ?_
  refine va_put (D := D) (ci := 5) (v := .int 0) (ty := .boolean) (C := RX5) (T := TX5) (N := 19) hx hb hts hwX5 tyX5 tyX5_ok nmX5 hown hK hP hD hS 0 rfl rfl 9 (by decide) (hts (.fieldLink RX5 61 "WaitOrWalkOnModel" "well" "Z") (by decide +kernel)) (fun _ h9 => h9) rfl (by decide +kernel) (by decide +kernel) rfl (Nat.le_of_ble_eq_true rfl) dX5_oneOf_61 (fun H locs hP hD hS => ?_)
  have hP : va_P D vwCl [(g0, .inr (5, [.ref ra, .ref wa, .ref ta, .int 0, .ref ma, .int 0, .ref pa, .int 0, .int 0, .int 0, .ref ba, .ref ka, .int 0, .ref fa, .ref qa, .ref ea, .ref za, .ref ya, .int 0])), (ba, .inl (cC, 6, .inl (upd (upd (upd (upd (upd (upd (fun _ => 0) 0 115) 1 104) 2 112) 3 108) 4 101) 5 109)))] H := hP
  have hD : va_D A [(g0, .inr (5, [.ref ra, .ref wa, .ref ta, .int 0, .ref ma, .int 0, .ref pa, .int 0, .int 0, .int 0, .ref ba, .ref ka, .int 0, .ref fa, .ref qa, .ref ea, .ref za, .ref ya, .int 0])), (ba, .inl (cC, 6, .inl (upd (upd (upd (upd (upd (upd (fun _ => 0) 0 115) 1 104) 2 112) 3 108) 4 101) 5 109)))] := hD
  refine lv_iconst (v := 0) hx hb dX5_oneOf_64 (by decide) ?_
  have hP9 := hP.sub (ws' := [(g0, .inr (5, [.ref ra, .ref wa, .ref ta, .int 0, .ref ma, .int 0, .ref pa, .int 0, .int 0, .int 0, .ref ba, .ref ka, .int 0, .ref fa, .ref qa, .ref ea, .ref za, .ref ya, .int 0])), (ba, .inl (cC, 6, .inl (upd (upd (upd (upd (upd (upd (fun _ => 0) 0 115) 1 104) 2 112) 3 108) 4 101) 5 109)))]) [0, 1] rfl
  have hD9 := hD.sub (ws' := [(g0, .inr (5, [.ref ra, .ref wa, .ref ta, .int 0, .ref ma, .int 0, .ref pa, .int 0, .int 0, .int 0, .ref ba, .ref ka, .int 0, .ref fa, .ref qa, .ref ea, .ref za, .ref ya, .int 0])), (ba, .inl (cC, 6, .inl (upd (upd (upd (upd (upd (upd (fun _ => 0) 0 115) 1 104) 2 112) 3 108) 4 101) 5 109)))]) [0, 1] (by decide) rfl
  exact W.iret (v := 0) hx hb hr (fun t ht hW => ⟨⟨_, (), rfl, rfl, by rw [ht]; exact hP9, hD9⟩, hS.F ht⟩) hS.2.2 dX5_oneOf_65

set_option maxHeartbeats 4000000 in
set_option maxRecDepth 100000 in
theorem c_X5_isFigure (l : Launch) (D : va_G) (cI cL cZ cC : ClassId) (g0 : Nat) (ra : Nat) (wa : Nat) (ta : Nat) (ma : Nat) (pa : Nat) (ba : Nat) (ka : Nat) (fa : Nat) (qa : Nat) (ea : Nat) (za : Nat) (ya : Nat)  : Met l yX5_isFigure wsX5_isFigure ({ frames := 0, cells := 0, slots := 0, locals := 0 } : Room) (xPc D [.ref g0] [(g0, .inr (5, [.ref ra, .ref wa, .ref ta, .int 0, .ref ma, .int 0, .ref pa, .int 0, .int 0, .int 0, .ref ba, .ref ka, .int 0, .ref fa, .ref qa, .ref ea, .ref za, .ref ya, .int 0]))] (xTy cI cL cZ cC)) (vp_Si (fun r : Int32 => r = 0)) 0 0 (fun _ => False) := by
  refine Met.ofW (cc := cX5_isFigure) (maxL := 1) (ret := (some .boolean)) (by decide) rfl ?_
  intro p e s m args below meth c s₁ B hml hv
  obtain ⟨rfl, hP, hK⟩ := hv
  have hx := B.exec
  have hb := B.bytes
  have hr := B.returns
  have hts := atoms_spec (ws := wsX5_isFigure) B.pre
  have hown : s.vm.findClass RX5 = some m.cls := findClass_of_methodNamed B.named
  have hlocks := B.notSynchronized
  have hwX5 : ∀ w ∈ u_ws RX5 TX5 19, w ∈ wsX5_isFigure := fun _ h => List.mem_cons_of_mem _ (List.mem_append_right _ h)
  have hl := lv_entry ([.ref g0]) (n := 1) (Nat.le_of_ble_eq_true rfl)
  rw [lg_entry_eq]
  generalize (lg_sl ([.ref g0]) ++ List.replicate (1 - (lg_sl ([.ref g0])).length) Slot.unset).toArray = ls at hl ⊢
  have hl : lv_has ls 1 [(0, .ref g0)] := hl
  refine lv_aload_n hx hb dX5_isFigure_0 rfl (lv_at hl 0 rfl) ?_
  refine va_get (D := D) (ci := 5) (v := .int 0) (C := RX5) (T := TX5) (N := 19) hx hb hts hwX5 hown hK hP 0 rfl rfl 9 (by decide) (hts (.fieldLink RX5 61 "WaitOrWalkOnModel" "well" "Z") (by decide +kernel)) (fun _ h9 => h9) rfl dX5_isFigure_1 ?_
  refine lv_if_eq (tgt := 50) hx hb dX5_isFigure_4 (by decide) (fun c_1 => ?_) (fun c_1 => absurd c_1 (by decide +kernel))
  refine lv_iconst (v := 0) hx hb dX5_isFigure_50 (by decide) ?_
  exact W.zret (v := 0) (ty := .boolean) hx hb hr (by decide +kernel) (fun t ht hW => ⟨_, rfl, rfl, ht⟩) (fun _ h => absurd h List.not_mem_nil) dX5_isFigure_51

set_option maxHeartbeats 4000000 in
set_option maxRecDepth 100000 in
theorem c_X5_figures (l : Launch) (D : va_G) (cI cL cZ cC : ClassId) (sz : Nat) (g0 : Nat) (ra : Nat) (wa : Nat) (ta : Nat) (ma : Nat) (pa : Nat) (ba : Nat) (ka : Nat) (fa : Nat) (qa : Nat) (ea : Nat) (za : Nat) (ya : Nat)  : Met l yX5_figures wsX5_figures ({ frames := 1, cells := 0, slots := 0, locals := 20 } : Room) (wPc D [.ref g0, .int 1, .int 3] [(g0, .inr (5, [.ref ra, .ref wa, .ref ta, .int 0, .ref ma, .int 0, .ref pa, .int 0, .int 0, .int 0, .ref ba, .ref ka, .int 0, .ref fa, .ref qa, .ref ea, .ref za, .ref ya, .int 0]))] (xTy cI cL cZ cC) sz) (va_Qi (fun (r : Int32) (_ : Unit) => r = 0) (fun (_ : Unit) t => va_P D vwCl [(g0, .inr (5, [.ref ra, .ref wa, .ref ta, .int 0, .ref ma, .int 0, .ref pa, .int 0, .int 0, .int 0, .ref ba, .ref ka, .int 0, .ref fa, .ref qa, .ref ea, .ref za, .ref ya, .int 0]))] t.heap ∧ va_D (va_A [(g0, .inr (5, [.ref ra, .ref wa, .ref ta, .int 0, .ref ma, .int 0, .ref pa, .int 0, .int 0, .int 0, .ref ba, .ref ka, .int 0, .ref fa, .ref qa, .ref ea, .ref za, .ref ya, .int 0]))] sz) [(g0, .inr (5, [.ref ra, .ref wa, .ref ta, .int 0, .ref ma, .int 0, .ref pa, .int 0, .int 0, .int 0, .ref ba, .ref ka, .int 0, .ref fa, .ref qa, .ref ea, .ref za, .ref ya, .int 0]))]) (va_A [(g0, .inr (5, [.ref ra, .ref wa, .ref ta, .int 0, .ref ma, .int 0, .ref pa, .int 0, .int 0, .int 0, .ref ba, .ref ka, .int 0, .ref fa, .ref qa, .ref ea, .ref za, .ref ya, .int 0]))] sz)) 0 0 (va_A [(g0, .inr (5, [.ref ra, .ref wa, .ref ta, .int 0, .ref ma, .int 0, .ref pa, .int 0, .int 0, .int 0, .ref ba, .ref ka, .int 0, .ref fa, .ref qa, .ref ea, .ref za, .ref ya, .int 0]))] sz) := by
  refine Met.ofW (cc := cX5_figures) (maxL := 5) (ret := (some .int)) (by decide) rfl ?_
  intro p e s m args below meth c s₁ B hml hv
  obtain ⟨rfl, hsz, hP, hK, hD0⟩ := hv
  have hx := B.exec
  have hb := B.bytes
  have hr := B.returns
  have hts := atoms_spec (ws := wsX5_figures) B.pre
  have hown : s.vm.findClass RX5 = some m.cls := findClass_of_methodNamed B.named
  have hlocks := B.notSynchronized
  have hwX5 : ∀ w ∈ u_ws RX5 TX5 19, w ∈ wsX5_figures := fun _ h => List.mem_cons_of_mem _ (List.mem_append_right _ h)
  subst hsz
  have hD := hD0.self (sz := s.heap.size)
  generalize hAe : va_A [(g0, .inr (5, [.ref ra, .ref wa, .ref ta, .int 0, .ref ma, .int 0, .ref pa, .int 0, .int 0, .int 0, .ref ba, .ref ka, .int 0, .ref fa, .ref qa, .ref ea, .ref za, .ref ya, .int 0]))] s.heap.size = A at hD ⊢
  have hA : ∀ q : Nat, s.heap.size ≤ q → A q := fun q h => by rw [← hAe]; exact Or.inr h
  have hS : va_S A s.heap s.heap [] := va_S.rf
  have hP : va_P D vwCl [(g0, .inr (5, [.ref ra, .ref wa, .ref ta, .int 0, .ref ma, .int 0, .ref pa, .int 0, .int 0, .int 0, .ref ba, .ref ka, .int 0, .ref fa, .ref qa, .ref ea, .ref za, .ref ya, .int 0]))] s.heap := hP
  have hl := lv_entry ([.ref g0, .int 1, .int 3]) (n := 5) (Nat.le_of_ble_eq_true rfl)
  rw [lg_entry_eq]
  generalize (lg_sl ([.ref g0, .int 1, .int 3]) ++ List.replicate (5 - (lg_sl ([.ref g0, .int 1, .int 3])).length) Slot.unset).toArray = ls at hl ⊢
  have hl : lv_has ls 5 [(0, .ref g0), (1, .int 1), (2, .int 3)] := hl
  refine lv_iconst (v := 0) hx hb dX5_figures_0 (by decide) ?_
  refine lv_istore_n (lv' := [(3, .int 0), (0, .ref g0), (1, .int 1), (2, .int 3)]) hx hb dX5_figures_1 rfl hl (by decide) rfl (fun ls hl => ?_)
  refine lv_iconst (v := 0) hx hb dX5_figures_2 (by decide) ?_
  refine lv_istore (lv' := [(4, .int 0), (3, .int 0), (0, .ref g0), (1, .int 1), (2, .int 3)]) hx hb dX5_figures_3 hl (by decide) rfl (fun ls hl => ?_)
  refine lv_iload hx hb dX5_figures_5 (lv_at hl 0 rfl) ?_
  refine lv_iload_n hx hb dX5_figures_7 rfl (lv_at hl 4 rfl) ?_
  refine lv_icmp_ge (tgt := 52) hx hb dX5_figures_8 (by decide) (fun c_1 => absurd c_1 (by decide +kernel)) (fun c_1 => ?_)
  refine lv_aload_n hx hb dX5_figures_11 rfl (lv_at hl 2 rfl) ?_
  have hPc := hP.sub (ws' := [(g0, .inr (5, [.ref ra, .ref wa, .ref ta, .int 0, .ref ma, .int 0, .ref pa, .int 0, .int 0, .int 0, .ref ba, .ref ka, .int 0, .ref fa, .ref qa, .ref ea, .ref za, .ref ya, .int 0]))]) [0] rfl
  refine vp_callSi (va_Run.run (va_runV (As := []) (rest := []) ⟨hx, hb, hml, hown, hts⟩ (c_X5_isFigure l D cI cL cZ cC g0 ra wa ta ma pa ba ka fa qa ea za ya ) (cwV 0 hts gX5_figures_X5_isFigure rfl rfl rfl (by decide +kernel) ⟨Nat.le_of_ble_eq_true rfl, Nat.le_of_ble_eq_true rfl⟩) ⟨xPc_bl, va_recv hK hPc (ci := 5) (q0 := 0) rfl rfl, xPc_use hPc hK⟩ rfl rfl hl.1 rfl (lv_room (Nat.le_of_ble_eq_true rfl)) dX5_figures_12 ⟨Nat.le_of_ble_eq_true rfl, Nat.le_of_ble_eq_true rfl⟩)) (fun r_2 er_2 => ?_)
  obtain rfl : (0 : Int32) = r_2 := Eq.symm er_2
  refine lv_if_eq (tgt := 52) hx hb dX5_figures_15 (by decide) (fun c_3 => ?_) (fun c_3 => absurd c_3 (by decide +kernel))
  refine lv_aload_n hx hb dX5_figures_52 rfl (lv_at hl 2 rfl) ?_
  refine lv_aload_n hx hb dX5_figures_53 rfl (lv_at hl 2 rfl) ?_
  refine va_get (D := D) (ci := 5) (v := .int 0) (C := RX5) (T := TX5) (N := 19) hx hb hts hwX5 hown hK hP 0 rfl rfl 9 (by decide) (hts (.fieldLink RX5 61 "WaitOrWalkOnModel" "well" "Z") (by decide +kernel)) (fun _ h9 => h9) rfl dX5_figures_54 ?_
  refine lv_if_eq (tgt := 70) hx hb dX5_figures_57 (by decide) (fun c_4 => ?_) (fun c_4 => absurd c_4 (by decide +kernel))
  refine lv_iconst (v := 0) hx hb dX5_figures_70 (by decide) ?_
  refine va_put (D := D) (ci := 5) (v := .int 0) (ty := .boolean) (C := RX5) (T := TX5) (N := 19) hx hb hts hwX5 tyX5 tyX5_ok nmX5 hown hK hP hD hS 0 rfl rfl 9 (by decide) (hts (.fieldLink RX5 61 "WaitOrWalkOnModel" "well" "Z") (by decide +kernel)) (fun _ h9 => h9) rfl (by decide +kernel) (by decide +kernel) rfl (Nat.le_of_ble_eq_true rfl) dX5_figures_71 (fun H locs hP hD hS => ?_)
  have hP : va_P D vwCl [(g0, .inr (5, [.ref ra, .ref wa, .ref ta, .int 0, .ref ma, .int 0, .ref pa, .int 0, .int 0, .int 0, .ref ba, .ref ka, .int 0, .ref fa, .ref qa, .ref ea, .ref za, .ref ya, .int 0]))] H := hP
  have hD : va_D A [(g0, .inr (5, [.ref ra, .ref wa, .ref ta, .int 0, .ref ma, .int 0, .ref pa, .int 0, .int 0, .int 0, .ref ba, .ref ka, .int 0, .ref fa, .ref qa, .ref ea, .ref za, .ref ya, .int 0]))] := hD
  refine lv_iload_n hx hb dX5_figures_74 rfl (lv_at hl 1 rfl) ?_
  have hP9 := hP.sub (ws' := [(g0, .inr (5, [.ref ra, .ref wa, .ref ta, .int 0, .ref ma, .int 0, .ref pa, .int 0, .int 0, .int 0, .ref ba, .ref ka, .int 0, .ref fa, .ref qa, .ref ea, .ref za, .ref ya, .int 0]))]) [0] rfl
  have hD9 := hD.sub (ws' := [(g0, .inr (5, [.ref ra, .ref wa, .ref ta, .int 0, .ref ma, .int 0, .ref pa, .int 0, .int 0, .int 0, .ref ba, .ref ka, .int 0, .ref fa, .ref qa, .ref ea, .ref za, .ref ya, .int 0]))]) [0] (by decide) rfl
  exact W.iret (v := 0) hx hb hr (fun t ht hW => ⟨⟨_, (), rfl, rfl, by rw [ht]; exact hP9, hD9⟩, hS.F ht⟩) hS.2.2 dX5_figures_75

set_option maxHeartbeats 4000000 in
set_option maxRecDepth 100000 in
theorem c_X5_statement (l : Launch) (D : va_G) (cI cL cZ cC : ClassId) (sz : Nat) (g0 : Nat) (ra : Nat) (wa : Nat) (ta : Nat) (ma : Nat) (pa : Nat) (ba : Nat) (ka : Nat) (fa : Nat) (qa : Nat) (ea : Nat) (za : Nat) (ya : Nat)  : Met l yX5_statement wsX5_statement ({ frames := 2, cells := 0, slots := 0, locals := 44 } : Room) (wPc D [.ref g0] [(g0, .inr (5, [.ref ra, .ref wa, .ref ta, .int 0, .ref ma, .int 0, .ref pa, .int 0, .int 0, .int 1, .ref ba, .ref ka, .int 0, .ref fa, .ref qa, .ref ea, .ref za, .ref ya, .int 0])), (ba, .inl (cC, 6, .inl (upd (upd (upd (upd (upd (upd (fun _ => 0) 0 115) 1 104) 2 112) 3 108) 4 101) 5 109))), (fa, .inl (cI, 15, .inl (fun _ => 0)))] (xTy cI cL cZ cC) sz) (va_Qv (fun (_ : Unit) => True) (fun (_ : Unit) t => va_P D vwCl [(g0, .inr (5, [.ref ra, .ref wa, .ref ta, .int 0, .ref ma, .int 0, .ref pa, .int 0, .int 0, .int 0, .ref ba, .ref ka, .int 0, .ref fa, .ref qa, .ref ea, .ref za, .ref ya, .int 0])), (ba, .inl (cC, 6, .inl (upd (upd (upd (upd (upd (upd (fun _ => 0) 0 115) 1 104) 2 112) 3 108) 4 101) 5 109))), (fa, .inl (cI, 15, .inl (upd (fun _ => 0) 0 0)))] t.heap ∧ va_D (va_A [(g0, .inr (5, [.ref ra, .ref wa, .ref ta, .int 0, .ref ma, .int 0, .ref pa, .int 0, .int 0, .int 1, .ref ba, .ref ka, .int 0, .ref fa, .ref qa, .ref ea, .ref za, .ref ya, .int 0])), (ba, .inl (cC, 6, .inl (upd (upd (upd (upd (upd (upd (fun _ => 0) 0 115) 1 104) 2 112) 3 108) 4 101) 5 109))), (fa, .inl (cI, 15, .inl (fun _ => 0)))] sz) [(g0, .inr (5, [.ref ra, .ref wa, .ref ta, .int 0, .ref ma, .int 0, .ref pa, .int 0, .int 0, .int 0, .ref ba, .ref ka, .int 0, .ref fa, .ref qa, .ref ea, .ref za, .ref ya, .int 0])), (ba, .inl (cC, 6, .inl (upd (upd (upd (upd (upd (upd (fun _ => 0) 0 115) 1 104) 2 112) 3 108) 4 101) 5 109))), (fa, .inl (cI, 15, .inl (upd (fun _ => 0) 0 0)))]) (va_A [(g0, .inr (5, [.ref ra, .ref wa, .ref ta, .int 0, .ref ma, .int 0, .ref pa, .int 0, .int 0, .int 1, .ref ba, .ref ka, .int 0, .ref fa, .ref qa, .ref ea, .ref za, .ref ya, .int 0])), (ba, .inl (cC, 6, .inl (upd (upd (upd (upd (upd (upd (fun _ => 0) 0 115) 1 104) 2 112) 3 108) 4 101) 5 109))), (fa, .inl (cI, 15, .inl (fun _ => 0)))] sz)) 0 0 (va_A [(g0, .inr (5, [.ref ra, .ref wa, .ref ta, .int 0, .ref ma, .int 0, .ref pa, .int 0, .int 0, .int 1, .ref ba, .ref ka, .int 0, .ref fa, .ref qa, .ref ea, .ref za, .ref ya, .int 0])), (ba, .inl (cC, 6, .inl (upd (upd (upd (upd (upd (upd (fun _ => 0) 0 115) 1 104) 2 112) 3 108) 4 101) 5 109))), (fa, .inl (cI, 15, .inl (fun _ => 0)))] sz) := by
  refine Met.ofW (cc := cX5_statement) (maxL := 2) (ret := none) (by decide) rfl ?_
  intro p e s m args below meth c s₁ B hml hv
  obtain ⟨rfl, hsz, hP, hK, hD0⟩ := hv
  have hx := B.exec
  have hb := B.bytes
  have hr := B.returns
  have hts := atoms_spec (ws := wsX5_statement) B.pre
  have hown : s.vm.findClass RX5 = some m.cls := findClass_of_methodNamed B.named
  have hlocks := B.notSynchronized
  have hwX5 : ∀ w ∈ u_ws RX5 TX5 19, w ∈ wsX5_statement := fun _ h => List.mem_cons_of_mem _ (List.mem_append_right _ h)
  subst hsz
  have hD := hD0.self (sz := s.heap.size)
  generalize hAe : va_A [(g0, .inr (5, [.ref ra, .ref wa, .ref ta, .int 0, .ref ma, .int 0, .ref pa, .int 0, .int 0, .int 1, .ref ba, .ref ka, .int 0, .ref fa, .ref qa, .ref ea, .ref za, .ref ya, .int 0])), (ba, .inl (cC, 6, .inl (upd (upd (upd (upd (upd (upd (fun _ => 0) 0 115) 1 104) 2 112) 3 108) 4 101) 5 109))), (fa, .inl (cI, 15, .inl (fun _ => 0)))] s.heap.size = A at hD ⊢
  have hA : ∀ q : Nat, s.heap.size ≤ q → A q := fun q h => by rw [← hAe]; exact Or.inr h
  have hS : va_S A s.heap s.heap [] := va_S.rf
  have hP : va_P D vwCl [(g0, .inr (5, [.ref ra, .ref wa, .ref ta, .int 0, .ref ma, .int 0, .ref pa, .int 0, .int 0, .int 1, .ref ba, .ref ka, .int 0, .ref fa, .ref qa, .ref ea, .ref za, .ref ya, .int 0])), (ba, .inl (cC, 6, .inl (upd (upd (upd (upd (upd (upd (fun _ => 0) 0 115) 1 104) 2 112) 3 108) 4 101) 5 109))), (fa, .inl (cI, 15, .inl (fun _ => 0)))] s.heap := hP
  have hl := lv_entry ([.ref g0]) (n := 2) (Nat.le_of_ble_eq_true rfl)
  rw [lg_entry_eq]
  generalize (lg_sl ([.ref g0]) ++ List.replicate (2 - (lg_sl ([.ref g0])).length) Slot.unset).toArray = ls at hl ⊢
  have hl : lv_has ls 2 [(0, .ref g0)] := hl
  refine lv_aload_n hx hb dX5_statement_0 rfl (lv_at hl 0 rfl) ?_
  refine lv_aload_n hx hb dX5_statement_1 rfl (lv_at hl 0 rfl) ?_
  refine lv_aload_n hx hb dX5_statement_2 rfl (lv_at hl 0 rfl) ?_
  refine va_get (D := D) (ci := 5) (v := .ref ba) (C := RX5) (T := TX5) (N := 19) hx hb hts hwX5 hown hK hP 0 rfl rfl 10 (by decide) (hts (.fieldLink RX5 31 "WaitOrWalkOnModel" "begins" "[C") (by decide +kernel)) (fun _ h9 => h9) rfl dX5_statement_3 ?_
  have hPc := hP.sub (ws' := [(g0, .inr (5, [.ref ra, .ref wa, .ref ta, .int 0, .ref ma, .int 0, .ref pa, .int 0, .int 0, .int 1, .ref ba, .ref ka, .int 0, .ref fa, .ref qa, .ref ea, .ref za, .ref ya, .int 0])), (ba, .inl (cC, 6, .inl (upd (upd (upd (upd (upd (upd (fun _ => 0) 0 115) 1 104) 2 112) 3 108) 4 101) 5 109)))]) [0, 1] rfl
  have hDc := hD.sub (ws' := [(g0, .inr (5, [.ref ra, .ref wa, .ref ta, .int 0, .ref ma, .int 0, .ref pa, .int 0, .int 0, .int 1, .ref ba, .ref ka, .int 0, .ref fa, .ref qa, .ref ea, .ref za, .ref ya, .int 0])), (ba, .inl (cC, 6, .inl (upd (upd (upd (upd (upd (upd (fun _ => 0) 0 115) 1 104) 2 112) 3 108) 4 101) 5 109)))]) [0, 1] (by decide) rfl
  have hFc := va_free (wc := [(g0, .inr (5, [.ref ra, .ref wa, .ref ta, .int 0, .ref ma, .int 0, .ref pa, .int 0, .int 0, .int 1, .ref ba, .ref ka, .int 0, .ref fa, .ref qa, .ref ea, .ref za, .ref ya, .int 0])), (ba, .inl (cC, 6, .inl (upd (upd (upd (upd (upd (upd (fun _ => 0) 0 115) 1 104) 2 112) 3 108) 4 101) 5 109)))]) hD hS hA [0, 1] rfl
  refine va_calli (va_runV (As := [.ref ba]) (rest := [.ref g0]) ⟨hx, hb, hml, hown, hts⟩ (c_X5_oneOf l D cI cL cZ cC _ g0 ra wa ta ma pa ba ka fa qa ea za ya ) (cwV 1 hts gX5_statement_X5_oneOf rfl rfl rfl (by decide +kernel) ⟨Nat.le_of_ble_eq_true rfl, Nat.le_of_ble_eq_true rfl⟩) ⟨wPc_bl, va_recv hK hPc (ci := 5) (q0 := 0) rfl rfl, wPc_use hPc hK hDc⟩ rfl rfl hl.1 rfl (lv_room (Nat.le_of_ble_eq_true rfl)) dX5_statement_6 ⟨Nat.le_of_ble_eq_true rfl, Nat.le_of_ble_eq_true rfl⟩) hS (fun q _ h => hFc q h) hFc (fun r_1 u_1 t H1 locs ht hvm hw hB hz1 hk1 hS => ?_)
  obtain ⟨hP1, hD1⟩ := hB
  rw [ht] at hP1
  obtain ⟨hP, hD⟩ := va_join (wr := [(fa, .inl (cI, 15, .inl (fun _ => 0)))]) (w1 := [(g0, .inr (5, [.ref ra, .ref wa, .ref ta, .int 0, .ref ma, .int 0, .ref pa, .int 0, .int 0, .int 0, .ref ba, .ref ka, .int 0, .ref fa, .ref qa, .ref ea, .ref za, .ref ya, .int 0])), (ba, .inl (cC, 6, .inl (upd (upd (upd (upd (upd (upd (fun _ => 0) 0 115) 1 104) 2 112) 3 108) 4 101) 5 109)))]) hP hD [0, 1] [2] rfl rfl (by decide) (by decide) hk1 hFc hP1 hD1
  generalize H1 = H at hP hS ⊢
  have hP : va_P D vwCl [(fa, .inl (cI, 15, .inl (fun _ => 0))), (g0, .inr (5, [.ref ra, .ref wa, .ref ta, .int 0, .ref ma, .int 0, .ref pa, .int 0, .int 0, .int 0, .ref ba, .ref ka, .int 0, .ref fa, .ref qa, .ref ea, .ref za, .ref ya, .int 0])), (ba, .inl (cC, 6, .inl (upd (upd (upd (upd (upd (upd (fun _ => 0) 0 115) 1 104) 2 112) 3 108) 4 101) 5 109)))] H := hP
  have hD : va_D A [(fa, .inl (cI, 15, .inl (fun _ => 0))), (g0, .inr (5, [.ref ra, .ref wa, .ref ta, .int 0, .ref ma, .int 0, .ref pa, .int 0, .int 0, .int 0, .ref ba, .ref ka, .int 0, .ref fa, .ref qa, .ref ea, .ref za, .ref ya, .int 0])), (ba, .inl (cC, 6, .inl (upd (upd (upd (upd (upd (upd (fun _ => 0) 0 115) 1 104) 2 112) 3 108) 4 101) 5 109)))] := hD
  obtain rfl : (0 : Int32) = r_1 := Eq.symm hw
  refine va_put (D := D) (ci := 5) (v := .int 0) (ty := .int) (C := RX5) (T := TX5) (N := 19) hx hb hts hwX5 tyX5 tyX5_ok nmX5 hown hK hP hD hS 1 rfl rfl 12 (by decide) (hts (.fieldLink RX5 75 "WaitOrWalkOnModel" "sort" "I") (by decide +kernel)) (fun _ h9 => h9) rfl (by decide +kernel) (by decide +kernel) rfl (Nat.le_of_ble_eq_true rfl) dX5_statement_9 (fun H locs hP hD hS => ?_)
  have hP : va_P D vwCl [(fa, .inl (cI, 15, .inl (fun _ => 0))), (g0, .inr (5, [.ref ra, .ref wa, .ref ta, .int 0, .ref ma, .int 0, .ref pa, .int 0, .int 0, .int 0, .ref ba, .ref ka, .int 0, .ref fa, .ref qa, .ref ea, .ref za, .ref ya, .int 0])), (ba, .inl (cC, 6, .inl (upd (upd (upd (upd (upd (upd (fun _ => 0) 0 115) 1 104) 2 112) 3 108) 4 101) 5 109)))] H := hP
  have hD : va_D A [(fa, .inl (cI, 15, .inl (fun _ => 0))), (g0, .inr (5, [.ref ra, .ref wa, .ref ta, .int 0, .ref ma, .int 0, .ref pa, .int 0, .int 0, .int 0, .ref ba, .ref ka, .int 0, .ref fa, .ref qa, .ref ea, .ref za, .ref ya, .int 0])), (ba, .inl (cC, 6, .inl (upd (upd (upd (upd (upd (upd (fun _ => 0) 0 115) 1 104) 2 112) 3 108) 4 101) 5 109)))] := hD
  refine lv_aload_n hx hb dX5_statement_12 rfl (lv_at hl 0 rfl) ?_
  refine va_get (D := D) (ci := 5) (v := .int 0) (C := RX5) (T := TX5) (N := 19) hx hb hts hwX5 hown hK hP 1 rfl rfl 12 (by decide) (hts (.fieldLink RX5 75 "WaitOrWalkOnModel" "sort" "I") (by decide +kernel)) (fun _ h9 => h9) rfl dX5_statement_13 ?_
  refine lv_iconst (v := 3) hx hb dX5_statement_16 (by decide) ?_
  refine lv_icmp_ne (tgt := 101) hx hb dX5_statement_17 (by decide) (fun c_2 => ?_) (fun c_2 => absurd c_2 (by decide +kernel))
  refine lv_aload_n hx hb dX5_statement_101 rfl (lv_at hl 0 rfl) ?_
  refine va_get (D := D) (ci := 5) (v := .ref fa) (C := RX5) (T := TX5) (N := 19) hx hb hts hwX5 hown hK hP 1 rfl rfl 13 (by decide) (hts (.fieldLink RX5 38 "WaitOrWalkOnModel" "field" "[I") (by decide +kernel)) (fun _ h9 => h9) rfl dX5_statement_102 ?_
  refine lv_iconst (v := 0) hx hb dX5_statement_105 (by decide) ?_
  refine lv_aload_n hx hb dX5_statement_106 rfl (lv_at hl 0 rfl) ?_
  refine lv_aload_n hx hb dX5_statement_107 rfl (lv_at hl 0 rfl) ?_
  refine va_get (D := D) (ci := 5) (v := .int 0) (C := RX5) (T := TX5) (N := 19) hx hb hts hwX5 hown hK hP 1 rfl rfl 12 (by decide) (hts (.fieldLink RX5 75 "WaitOrWalkOnModel" "sort" "I") (by decide +kernel)) (fun _ h9 => h9) rfl dX5_statement_108 ?_
  refine lv_iconst (v := 2) hx hb dX5_statement_111 (by decide) ?_
  refine lv_icmp_ne (tgt := 119) hx hb dX5_statement_112 (by decide) (fun c_3 => ?_) (fun c_3 => absurd c_3 (by decide +kernel))
  refine lv_iconst (v := 1) hx hb dX5_statement_119 (by decide) ?_
  refine lv_aload_n hx hb dX5_statement_120 rfl (lv_at hl 0 rfl) ?_
  refine va_get (D := D) (ci := 5) (v := .int 0) (C := RX5) (T := TX5) (N := 19) hx hb hts hwX5 hown hK hP 1 rfl rfl 12 (by decide) (hts (.fieldLink RX5 75 "WaitOrWalkOnModel" "sort" "I") (by decide +kernel)) (fun _ h9 => h9) rfl dX5_statement_121 ?_
  refine lv_iconst (v := 4) hx hb dX5_statement_124 (by decide) ?_
  refine lv_icmp_ne (tgt := 132) hx hb dX5_statement_125 (by decide) (fun c_4 => ?_) (fun c_4 => absurd c_4 (by decide +kernel))
  refine lv_aload_n hx hb dX5_statement_132 rfl (lv_at hl 0 rfl) ?_
  refine va_get (D := D) (ci := 5) (v := .int 0) (C := RX5) (T := TX5) (N := 19) hx hb hts hwX5 hown hK hP 1 rfl rfl 12 (by decide) (hts (.fieldLink RX5 75 "WaitOrWalkOnModel" "sort" "I") (by decide +kernel)) (fun _ h9 => h9) rfl dX5_statement_133 ?_
  refine lv_iconst (v := 5) hx hb dX5_statement_136 (by decide) ?_
  refine lv_icmp_ne (tgt := 144) hx hb dX5_statement_137 (by decide) (fun c_5 => ?_) (fun c_5 => absurd c_5 (by decide +kernel))
  refine lv_iconst (v := 3) hx hb dX5_statement_144 (by decide) ?_
  have hPc := hP.sub (ws' := [(g0, .inr (5, [.ref ra, .ref wa, .ref ta, .int 0, .ref ma, .int 0, .ref pa, .int 0, .int 0, .int 0, .ref ba, .ref ka, .int 0, .ref fa, .ref qa, .ref ea, .ref za, .ref ya, .int 0]))]) [1] rfl
  have hDc := hD.sub (ws' := [(g0, .inr (5, [.ref ra, .ref wa, .ref ta, .int 0, .ref ma, .int 0, .ref pa, .int 0, .int 0, .int 0, .ref ba, .ref ka, .int 0, .ref fa, .ref qa, .ref ea, .ref za, .ref ya, .int 0]))]) [1] (by decide) rfl
  have hFc := va_free (wc := [(g0, .inr (5, [.ref ra, .ref wa, .ref ta, .int 0, .ref ma, .int 0, .ref pa, .int 0, .int 0, .int 0, .ref ba, .ref ka, .int 0, .ref fa, .ref qa, .ref ea, .ref za, .ref ya, .int 0]))]) hD hS hA [1] rfl
  refine va_calli (va_runV (As := [.int 1, .int 3]) (rest := [.int 0, .ref fa]) ⟨hx, hb, hml, hown, hts⟩ (c_X5_figures l D cI cL cZ cC _ g0 ra wa ta ma pa ba ka fa qa ea za ya ) (cwV 2 hts gX5_statement_X5_figures rfl rfl rfl (by decide +kernel) ⟨Nat.le_of_ble_eq_true rfl, Nat.le_of_ble_eq_true rfl⟩) ⟨wPc_bl, va_recv hK hPc (ci := 5) (q0 := 0) rfl rfl, wPc_use hPc hK hDc⟩ rfl rfl hl.1 rfl (lv_room (Nat.le_of_ble_eq_true rfl)) dX5_statement_145 ⟨Nat.le_of_ble_eq_true rfl, Nat.le_of_ble_eq_true rfl⟩) hS (fun q _ h => hFc q h) hFc (fun r_6 u_6 t H1 locs ht hvm hw hB hz1 hk1 hS => ?_)
  obtain ⟨hP1, hD1⟩ := hB
  rw [ht] at hP1
  obtain ⟨hP, hD⟩ := va_join (wr := [(fa, .inl (cI, 15, .inl (fun _ => 0))), (ba, .inl (cC, 6, .inl (upd (upd (upd (upd (upd (upd (fun _ => 0) 0 115) 1 104) 2 112) 3 108) 4 101) 5 109)))]) (w1 := [(g0, .inr (5, [.ref ra, .ref wa, .ref ta, .int 0, .ref ma, .int 0, .ref pa, .int 0, .int 0, .int 0, .ref ba, .ref ka, .int 0, .ref fa, .ref qa, .ref ea, .ref za, .ref ya, .int 0]))]) hP hD [1] [0, 2] rfl rfl (by decide) (by decide) hk1 hFc hP1 hD1
  generalize H1 = H at hP hS ⊢
  have hP : va_P D vwCl [(fa, .inl (cI, 15, .inl (fun _ => 0))), (ba, .inl (cC, 6, .inl (upd (upd (upd (upd (upd (upd (fun _ => 0) 0 115) 1 104) 2 112) 3 108) 4 101) 5 109))), (g0, .inr (5, [.ref ra, .ref wa, .ref ta, .int 0, .ref ma, .int 0, .ref pa, .int 0, .int 0, .int 0, .ref ba, .ref ka, .int 0, .ref fa, .ref qa, .ref ea, .ref za, .ref ya, .int 0]))] H := hP
  have hD : va_D A [(fa, .inl (cI, 15, .inl (fun _ => 0))), (ba, .inl (cC, 6, .inl (upd (upd (upd (upd (upd (upd (fun _ => 0) 0 115) 1 104) 2 112) 3 108) 4 101) 5 109))), (g0, .inr (5, [.ref ra, .ref wa, .ref ta, .int 0, .ref ma, .int 0, .ref pa, .int 0, .int 0, .int 0, .ref ba, .ref ka, .int 0, .ref fa, .ref qa, .ref ea, .ref za, .ref ya, .int 0]))] := hD
  obtain rfl : (0 : Int32) = r_6 := Eq.symm hw
  refine va_iast (D := D) hx hb hK hP hD hS 0 0 rfl rfl (by unfold vp_in; decide +kernel) dX5_statement_148 (fun H locs hP hD hS => ?_)
  have hP : va_P D vwCl [(fa, .inl (cI, 15, .inl (upd (fun _ => 0) 0 0))), (ba, .inl (cC, 6, .inl (upd (upd (upd (upd (upd (upd (fun _ => 0) 0 115) 1 104) 2 112) 3 108) 4 101) 5 109))), (g0, .inr (5, [.ref ra, .ref wa, .ref ta, .int 0, .ref ma, .int 0, .ref pa, .int 0, .int 0, .int 0, .ref ba, .ref ka, .int 0, .ref fa, .ref qa, .ref ea, .ref za, .ref ya, .int 0]))] H := hP
  have hD : va_D A [(fa, .inl (cI, 15, .inl (upd (fun _ => 0) 0 0))), (ba, .inl (cC, 6, .inl (upd (upd (upd (upd (upd (upd (fun _ => 0) 0 115) 1 104) 2 112) 3 108) 4 101) 5 109))), (g0, .inr (5, [.ref ra, .ref wa, .ref ta, .int 0, .ref ma, .int 0, .ref pa, .int 0, .int 0, .int 0, .ref ba, .ref ka, .int 0, .ref fa, .ref qa, .ref ea, .ref za, .ref ya, .int 0]))] := hD
  refine lv_aload_n hx hb dX5_statement_149 rfl (lv_at hl 0 rfl) ?_
  refine va_get (D := D) (ci := 5) (v := .int 0) (C := RX5) (T := TX5) (N := 19) hx hb hts hwX5 hown hK hP 2 rfl rfl 9 (by decide) (hts (.fieldLink RX5 61 "WaitOrWalkOnModel" "well" "Z") (by decide +kernel)) (fun _ h9 => h9) rfl dX5_statement_150 ?_
  refine lv_if_eq (tgt := 194) hx hb dX5_statement_153 (by decide) (fun c_7 => ?_) (fun c_7 => absurd c_7 (by decide +kernel))
  refine lv_aload_n hx hb dX5_statement_194 rfl (lv_at hl 0 rfl) ?_
  refine lv_iconst (v := 0) hx hb dX5_statement_195 (by decide) ?_
  refine va_put (D := D) (ci := 5) (v := .int 0) (ty := .boolean) (C := RX5) (T := TX5) (N := 19) hx hb hts hwX5 tyX5 tyX5_ok nmX5 hown hK hP hD hS 2 rfl rfl 9 (by decide) (hts (.fieldLink RX5 61 "WaitOrWalkOnModel" "well" "Z") (by decide +kernel)) (fun _ h9 => h9) rfl (by decide +kernel) (by decide +kernel) rfl (Nat.le_of_ble_eq_true rfl) dX5_statement_196 (fun H locs hP hD hS => ?_)
  have hP : va_P D vwCl [(fa, .inl (cI, 15, .inl (upd (fun _ => 0) 0 0))), (ba, .inl (cC, 6, .inl (upd (upd (upd (upd (upd (upd (fun _ => 0) 0 115) 1 104) 2 112) 3 108) 4 101) 5 109))), (g0, .inr (5, [.ref ra, .ref wa, .ref ta, .int 0, .ref ma, .int 0, .ref pa, .int 0, .int 0, .int 0, .ref ba, .ref ka, .int 0, .ref fa, .ref qa, .ref ea, .ref za, .ref ya, .int 0]))] H := hP
  have hD : va_D A [(fa, .inl (cI, 15, .inl (upd (fun _ => 0) 0 0))), (ba, .inl (cC, 6, .inl (upd (upd (upd (upd (upd (upd (fun _ => 0) 0 115) 1 104) 2 112) 3 108) 4 101) 5 109))), (g0, .inr (5, [.ref ra, .ref wa, .ref ta, .int 0, .ref ma, .int 0, .ref pa, .int 0, .int 0, .int 0, .ref ba, .ref ka, .int 0, .ref fa, .ref qa, .ref ea, .ref za, .ref ya, .int 0]))] := hD
  have hP9 := hP.sub (ws' := [(g0, .inr (5, [.ref ra, .ref wa, .ref ta, .int 0, .ref ma, .int 0, .ref pa, .int 0, .int 0, .int 0, .ref ba, .ref ka, .int 0, .ref fa, .ref qa, .ref ea, .ref za, .ref ya, .int 0])), (ba, .inl (cC, 6, .inl (upd (upd (upd (upd (upd (upd (fun _ => 0) 0 115) 1 104) 2 112) 3 108) 4 101) 5 109))), (fa, .inl (cI, 15, .inl (upd (fun _ => 0) 0 0)))]) [2, 1, 0] rfl
  have hD9 := hD.sub (ws' := [(g0, .inr (5, [.ref ra, .ref wa, .ref ta, .int 0, .ref ma, .int 0, .ref pa, .int 0, .int 0, .int 0, .ref ba, .ref ka, .int 0, .ref fa, .ref qa, .ref ea, .ref za, .ref ya, .int 0])), (ba, .inl (cC, 6, .inl (upd (upd (upd (upd (upd (upd (fun _ => 0) 0 115) 1 104) 2 112) 3 108) 4 101) 5 109))), (fa, .inl (cI, 15, .inl (upd (fun _ => 0) 0 0)))]) [2, 1, 0] (by decide) rfl
  exact W.vret hx hb hr (fun t ht hW => ⟨⟨(), rfl, trivial, by rw [ht]; exact hP9, hD9⟩, hS.F ht⟩) hS.2.2 dX5_statement_199

set_option maxHeartbeats 4000000 in
set_option maxRecDepth 100000 in
theorem c_X5_read (l : Launch) (D : va_G) (cI cL cZ cC : ClassId) (sz : Nat) (g0 : Nat) (ra : Nat) (wa : Nat) (ta : Nat) (ma : Nat) (pa : Nat) (ba : Nat) (ka : Nat) (fa : Nat) (qa : Nat) (ea : Nat) (za : Nat) (ya : Nat)  : Met l yX5_read wsX5_read ({ frames := 3, cells := 0, slots := 0, locals := 65 } : Room) (wPc D [.ref g0] [(g0, .inr (5, [.ref ra, .ref wa, .ref ta, .int 0, .ref ma, .int 0, .ref pa, .int 0, .int 0, .int 0, .ref ba, .ref ka, .int 0, .ref fa, .ref qa, .ref ea, .ref za, .ref ya, .int 0])), (ba, .inl (cC, 6, .inl (upd (upd (upd (upd (upd (upd (fun _ => 0) 0 115) 1 104) 2 112) 3 108) 4 101) 5 109))), (fa, .inl (cI, 15, .inl (fun _ => 0)))] (xTy cI cL cZ cC) sz) (va_Qi (fun (r : Int32) (_ : Unit) => r = -1000) (fun (_ : Unit) t => va_P D vwCl [(g0, .inr (5, [.ref ra, .ref wa, .ref ta, .int 0, .ref ma, .int 0, .ref pa, .int 0, .int 0, .int 0, .ref ba, .ref ka, .int 0, .ref fa, .ref qa, .ref ea, .ref za, .ref ya, .int 0]))] t.heap ∧ va_D (va_A [(g0, .inr (5, [.ref ra, .ref wa, .ref ta, .int 0, .ref ma, .int 0, .ref pa, .int 0, .int 0, .int 0, .ref ba, .ref ka, .int 0, .ref fa, .ref qa, .ref ea, .ref za, .ref ya, .int 0])), (ba, .inl (cC, 6, .inl (upd (upd (upd (upd (upd (upd (fun _ => 0) 0 115) 1 104) 2 112) 3 108) 4 101) 5 109))), (fa, .inl (cI, 15, .inl (fun _ => 0)))] sz) [(g0, .inr (5, [.ref ra, .ref wa, .ref ta, .int 0, .ref ma, .int 0, .ref pa, .int 0, .int 0, .int 0, .ref ba, .ref ka, .int 0, .ref fa, .ref qa, .ref ea, .ref za, .ref ya, .int 0]))]) (va_A [(g0, .inr (5, [.ref ra, .ref wa, .ref ta, .int 0, .ref ma, .int 0, .ref pa, .int 0, .int 0, .int 0, .ref ba, .ref ka, .int 0, .ref fa, .ref qa, .ref ea, .ref za, .ref ya, .int 0])), (ba, .inl (cC, 6, .inl (upd (upd (upd (upd (upd (upd (fun _ => 0) 0 115) 1 104) 2 112) 3 108) 4 101) 5 109))), (fa, .inl (cI, 15, .inl (fun _ => 0)))] sz)) 0 0 (va_A [(g0, .inr (5, [.ref ra, .ref wa, .ref ta, .int 0, .ref ma, .int 0, .ref pa, .int 0, .int 0, .int 0, .ref ba, .ref ka, .int 0, .ref fa, .ref qa, .ref ea, .ref za, .ref ya, .int 0])), (ba, .inl (cC, 6, .inl (upd (upd (upd (upd (upd (upd (fun _ => 0) 0 115) 1 104) 2 112) 3 108) 4 101) 5 109))), (fa, .inl (cI, 15, .inl (fun _ => 0)))] sz) := by
  refine Met.ofW (cc := cX5_read) (maxL := 5) (ret := (some .int)) (by decide) rfl ?_
  intro p e s m args below meth c s₁ B hml hv
  obtain ⟨rfl, hsz, hP, hK, hD0⟩ := hv
  have hx := B.exec
  have hb := B.bytes
  have hr := B.returns
  have hts := atoms_spec (ws := wsX5_read) B.pre
  have hown : s.vm.findClass RX5 = some m.cls := findClass_of_methodNamed B.named
  have hlocks := B.notSynchronized
  have hwX5 : ∀ w ∈ u_ws RX5 TX5 19, w ∈ wsX5_read := fun _ h => List.mem_cons_of_mem _ (List.mem_append_right _ h)
  subst hsz
  have hD := hD0.self (sz := s.heap.size)
  generalize hAe : va_A [(g0, .inr (5, [.ref ra, .ref wa, .ref ta, .int 0, .ref ma, .int 0, .ref pa, .int 0, .int 0, .int 0, .ref ba, .ref ka, .int 0, .ref fa, .ref qa, .ref ea, .ref za, .ref ya, .int 0])), (ba, .inl (cC, 6, .inl (upd (upd (upd (upd (upd (upd (fun _ => 0) 0 115) 1 104) 2 112) 3 108) 4 101) 5 109))), (fa, .inl (cI, 15, .inl (fun _ => 0)))] s.heap.size = A at hD ⊢
  have hA : ∀ q : Nat, s.heap.size ≤ q → A q := fun q h => by rw [← hAe]; exact Or.inr h
  have hS : va_S A s.heap s.heap [] := va_S.rf
  have hP : va_P D vwCl [(g0, .inr (5, [.ref ra, .ref wa, .ref ta, .int 0, .ref ma, .int 0, .ref pa, .int 0, .int 0, .int 0, .ref ba, .ref ka, .int 0, .ref fa, .ref qa, .ref ea, .ref za, .ref ya, .int 0])), (ba, .inl (cC, 6, .inl (upd (upd (upd (upd (upd (upd (fun _ => 0) 0 115) 1 104) 2 112) 3 108) 4 101) 5 109))), (fa, .inl (cI, 15, .inl (fun _ => 0)))] s.heap := hP
  have hl := lv_entry ([.ref g0]) (n := 5) (Nat.le_of_ble_eq_true rfl)
  rw [lg_entry_eq]
  generalize (lg_sl ([.ref g0]) ++ List.replicate (5 - (lg_sl ([.ref g0])).length) Slot.unset).toArray = ls at hl ⊢
  have hl : lv_has ls 5 [(0, .ref g0)] := hl
  refine lv_iconst (v := 0) hx hb dX5_read_0 (by decide) ?_
  refine lv_istore_n (lv' := [(1, .int 0), (0, .ref g0)]) hx hb dX5_read_1 rfl hl (by decide) rfl (fun ls hl => ?_)
  refine lv_aload_n hx hb dX5_read_2 rfl (lv_at hl 1 rfl) ?_
  refine lv_iconst (v := 0) hx hb dX5_read_3 (by decide) ?_
  refine va_put (D := D) (ci := 5) (v := .int 0) (ty := .int) (C := RX5) (T := TX5) (N := 19) hx hb hts hwX5 tyX5 tyX5_ok nmX5 hown hK hP hD hS 0 rfl rfl 8 (by decide) (hts (.fieldLink RX5 64 "WaitOrWalkOnModel" "at" "I") (by decide +kernel)) (fun _ h9 => h9) rfl (by decide +kernel) (by decide +kernel) rfl (Nat.le_of_ble_eq_true rfl) dX5_read_4 (fun H locs hP hD hS => ?_)
  have hP : va_P D vwCl [(g0, .inr (5, [.ref ra, .ref wa, .ref ta, .int 0, .ref ma, .int 0, .ref pa, .int 0, .int 0, .int 0, .ref ba, .ref ka, .int 0, .ref fa, .ref qa, .ref ea, .ref za, .ref ya, .int 0])), (ba, .inl (cC, 6, .inl (upd (upd (upd (upd (upd (upd (fun _ => 0) 0 115) 1 104) 2 112) 3 108) 4 101) 5 109))), (fa, .inl (cI, 15, .inl (fun _ => 0)))] H := hP
  have hD : va_D A [(g0, .inr (5, [.ref ra, .ref wa, .ref ta, .int 0, .ref ma, .int 0, .ref pa, .int 0, .int 0, .int 0, .ref ba, .ref ka, .int 0, .ref fa, .ref qa, .ref ea, .ref za, .ref ya, .int 0])), (ba, .inl (cC, 6, .inl (upd (upd (upd (upd (upd (upd (fun _ => 0) 0 115) 1 104) 2 112) 3 108) 4 101) 5 109))), (fa, .inl (cI, 15, .inl (fun _ => 0)))] := hD
  refine lv_aload_n hx hb dX5_read_7 rfl (lv_at hl 1 rfl) ?_
  refine lv_iconst (v := 1) hx hb dX5_read_8 (by decide) ?_
  refine va_put (D := D) (ci := 5) (v := .int 1) (ty := .boolean) (C := RX5) (T := TX5) (N := 19) hx hb hts hwX5 tyX5 tyX5_ok nmX5 hown hK hP hD hS 0 rfl rfl 9 (by decide) (hts (.fieldLink RX5 61 "WaitOrWalkOnModel" "well" "Z") (by decide +kernel)) (fun _ h9 => h9) rfl (by decide +kernel) (by decide +kernel) rfl (Nat.le_of_ble_eq_true rfl) dX5_read_9 (fun H locs hP hD hS => ?_)
  have hP : va_P D vwCl [(g0, .inr (5, [.ref ra, .ref wa, .ref ta, .int 0, .ref ma, .int 0, .ref pa, .int 0, .int 0, .int 1, .ref ba, .ref ka, .int 0, .ref fa, .ref qa, .ref ea, .ref za, .ref ya, .int 0])), (ba, .inl (cC, 6, .inl (upd (upd (upd (upd (upd (upd (fun _ => 0) 0 115) 1 104) 2 112) 3 108) 4 101) 5 109))), (fa, .inl (cI, 15, .inl (fun _ => 0)))] H := hP
  have hD : va_D A [(g0, .inr (5, [.ref ra, .ref wa, .ref ta, .int 0, .ref ma, .int 0, .ref pa, .int 0, .int 0, .int 1, .ref ba, .ref ka, .int 0, .ref fa, .ref qa, .ref ea, .ref za, .ref ya, .int 0])), (ba, .inl (cC, 6, .inl (upd (upd (upd (upd (upd (upd (fun _ => 0) 0 115) 1 104) 2 112) 3 108) 4 101) 5 109))), (fa, .inl (cI, 15, .inl (fun _ => 0)))] := hD
  refine lv_aload_n hx hb dX5_read_12 rfl (lv_at hl 1 rfl) ?_
  have hPc := hP.sub (ws' := [(g0, .inr (5, [.ref ra, .ref wa, .ref ta, .int 0, .ref ma, .int 0, .ref pa, .int 0, .int 0, .int 1, .ref ba, .ref ka, .int 0, .ref fa, .ref qa, .ref ea, .ref za, .ref ya, .int 0])), (ba, .inl (cC, 6, .inl (upd (upd (upd (upd (upd (upd (fun _ => 0) 0 115) 1 104) 2 112) 3 108) 4 101) 5 109))), (fa, .inl (cI, 15, .inl (fun _ => 0)))]) [0, 1, 2] rfl
  have hDc := hD.sub (ws' := [(g0, .inr (5, [.ref ra, .ref wa, .ref ta, .int 0, .ref ma, .int 0, .ref pa, .int 0, .int 0, .int 1, .ref ba, .ref ka, .int 0, .ref fa, .ref qa, .ref ea, .ref za, .ref ya, .int 0])), (ba, .inl (cC, 6, .inl (upd (upd (upd (upd (upd (upd (fun _ => 0) 0 115) 1 104) 2 112) 3 108) 4 101) 5 109))), (fa, .inl (cI, 15, .inl (fun _ => 0)))]) [0, 1, 2] (by decide) rfl
  have hFc := va_free (wc := [(g0, .inr (5, [.ref ra, .ref wa, .ref ta, .int 0, .ref ma, .int 0, .ref pa, .int 0, .int 0, .int 1, .ref ba, .ref ka, .int 0, .ref fa, .ref qa, .ref ea, .ref za, .ref ya, .int 0])), (ba, .inl (cC, 6, .inl (upd (upd (upd (upd (upd (upd (fun _ => 0) 0 115) 1 104) 2 112) 3 108) 4 101) 5 109))), (fa, .inl (cI, 15, .inl (fun _ => 0)))]) hD hS hA [0, 1, 2] rfl
  refine va_callv (va_runV (As := []) (rest := []) ⟨hx, hb, hml, hown, hts⟩ (c_X5_statement l D cI cL cZ cC _ g0 ra wa ta ma pa ba ka fa qa ea za ya ) (cwV 0 hts gX5_read_X5_statement rfl rfl rfl (by decide +kernel) ⟨Nat.le_of_ble_eq_true rfl, Nat.le_of_ble_eq_true rfl⟩) ⟨wPc_bl, va_recv hK hPc (ci := 5) (q0 := 0) rfl rfl, wPc_use hPc hK hDc⟩ rfl rfl hl.1 rfl (lv_room (Nat.le_of_ble_eq_true rfl)) dX5_read_13 ⟨Nat.le_of_ble_eq_true rfl, Nat.le_of_ble_eq_true rfl⟩) hS (fun q _ h => hFc q h) hFc (fun u_1 t H1 locs ht hvm hw hB hz1 hk1 hS => ?_)
  obtain ⟨hP1, hD1⟩ := hB
  rw [ht] at hP1
  obtain ⟨hP, hD⟩ := va_join (wr := []) (w1 := [(g0, .inr (5, [.ref ra, .ref wa, .ref ta, .int 0, .ref ma, .int 0, .ref pa, .int 0, .int 0, .int 0, .ref ba, .ref ka, .int 0, .ref fa, .ref qa, .ref ea, .ref za, .ref ya, .int 0])), (ba, .inl (cC, 6, .inl (upd (upd (upd (upd (upd (upd (fun _ => 0) 0 115) 1 104) 2 112) 3 108) 4 101) 5 109))), (fa, .inl (cI, 15, .inl (upd (fun _ => 0) 0 0)))]) hP hD [0, 1, 2] [] rfl rfl (by decide) (by decide) hk1 hFc hP1 hD1
  generalize H1 = H at hP hS ⊢
  have hP : va_P D vwCl [(g0, .inr (5, [.ref ra, .ref wa, .ref ta, .int 0, .ref ma, .int 0, .ref pa, .int 0, .int 0, .int 0, .ref ba, .ref ka, .int 0, .ref fa, .ref qa, .ref ea, .ref za, .ref ya, .int 0])), (ba, .inl (cC, 6, .inl (upd (upd (upd (upd (upd (upd (fun _ => 0) 0 115) 1 104) 2 112) 3 108) 4 101) 5 109))), (fa, .inl (cI, 15, .inl (upd (fun _ => 0) 0 0)))] H := hP
  have hD : va_D A [(g0, .inr (5, [.ref ra, .ref wa, .ref ta, .int 0, .ref ma, .int 0, .ref pa, .int 0, .int 0, .int 0, .ref ba, .ref ka, .int 0, .ref fa, .ref qa, .ref ea, .ref za, .ref ya, .int 0])), (ba, .inl (cC, 6, .inl (upd (upd (upd (upd (upd (upd (fun _ => 0) 0 115) 1 104) 2 112) 3 108) 4 101) 5 109))), (fa, .inl (cI, 15, .inl (upd (fun _ => 0) 0 0)))] := hD
  refine lv_iinc (v := 1) (lv' := [(1, .int 1), (0, .ref g0)]) hx hb dX5_read_16 hl (k := 0) rfl (by decide +kernel) (by decide) rfl (fun ls hl => ?_)
  refine lv_aload_n hx hb dX5_read_19 rfl (lv_at hl 1 rfl) ?_
  refine va_get (D := D) (ci := 5) (v := .int 0) (C := RX5) (T := TX5) (N := 19) hx hb hts hwX5 hown hK hP 0 rfl rfl 9 (by decide) (hts (.fieldLink RX5 61 "WaitOrWalkOnModel" "well" "Z") (by decide +kernel)) (fun _ h9 => h9) rfl dX5_read_20 ?_
  refine lv_if_eq (tgt := 37) hx hb dX5_read_23 (by decide) (fun c_2 => ?_) (fun c_2 => absurd c_2 (by decide +kernel))
  refine lv_aload_n hx hb dX5_read_37 rfl (lv_at hl 1 rfl) ?_
  refine va_get (D := D) (ci := 5) (v := .int 0) (C := RX5) (T := TX5) (N := 19) hx hb hts hwX5 hown hK hP 0 rfl rfl 9 (by decide) (hts (.fieldLink RX5 61 "WaitOrWalkOnModel" "well" "Z") (by decide +kernel)) (fun _ h9 => h9) rfl dX5_read_38 ?_
  refine lv_if_ne (tgt := 53) hx hb dX5_read_41 (by decide) (fun c_3 => absurd c_3 (by decide +kernel)) (fun c_3 => ?_)
  refine lv_sipush (v := -1000) hx hb dX5_read_44 (by decide) ?_
  refine lv_aload_n hx hb dX5_read_47 rfl (lv_at hl 1 rfl) ?_
  refine va_get (D := D) (ci := 5) (v := .int 0) (C := RX5) (T := TX5) (N := 19) hx hb hts hwX5 hown hK hP 0 rfl rfl 8 (by decide) (hts (.fieldLink RX5 64 "WaitOrWalkOnModel" "at" "I") (by decide +kernel)) (fun _ h9 => h9) rfl dX5_read_48 ?_
  refine lv_isub hx hb dX5_read_51 ?_
  refine xv_int (y := (-1000)) (by decide +kernel) ?_
  have hP9 := hP.sub (ws' := [(g0, .inr (5, [.ref ra, .ref wa, .ref ta, .int 0, .ref ma, .int 0, .ref pa, .int 0, .int 0, .int 0, .ref ba, .ref ka, .int 0, .ref fa, .ref qa, .ref ea, .ref za, .ref ya, .int 0]))]) [0] rfl
  have hD9 := hD.sub (ws' := [(g0, .inr (5, [.ref ra, .ref wa, .ref ta, .int 0, .ref ma, .int 0, .ref pa, .int 0, .int 0, .int 0, .ref ba, .ref ka, .int 0, .ref fa, .ref qa, .ref ea, .ref za, .ref ya, .int 0]))]) [0] (by decide) rfl
  exact W.iret (v := -1000) hx hb hr (fun t ht hW => ⟨⟨_, (), rfl, rfl, by rw [ht]; exact hP9, hD9⟩, hS.F ht⟩) hS.2.2 dX5_read_52

set_option maxHeartbeats 4000000 in
set_option maxRecDepth 100000 in
theorem p1_X5_road (l : Launch) (D : va_G) (cI cL cZ cC : ClassId) (sz : Nat) (g0 : Nat) (ra : Nat) (wa : Nat) (ta : Nat) (ma : Nat) (pa : Nat) (ba : Nat) (ka : Nat) (fa : Nat) (qa : Nat) (ea : Nat) (za : Nat) (ya : Nat)  : Met l yX5_road wsX5_road ({ frames := 4, cells := 0, slots := 0, locals := 89 } : Room) (wPc D [.ref g0] [(g0, .inr (5, [.ref ra, .ref wa, .ref ta, .int 0, .ref ma, .int 0, .ref pa, .int 0, .int 0, .int 0, .ref ba, .ref ka, .int 0, .ref fa, .ref qa, .ref ea, .ref za, .ref ya, .int 0])), (ba, .inl (cC, 6, .inl (upd (upd (upd (upd (upd (upd (fun _ => 0) 0 115) 1 104) 2 112) 3 108) 4 101) 5 109))), (fa, .inl (cI, 15, .inl (fun _ => 0)))] (xTy cI cL cZ cC) sz) (va_Qi (fun (r : Int32) (_ : Unit) => r = -1000) (fun (_ : Unit) t => va_P D vwCl [] t.heap ∧ va_D (va_A [(g0, .inr (5, [.ref ra, .ref wa, .ref ta, .int 0, .ref ma, .int 0, .ref pa, .int 0, .int 0, .int 0, .ref ba, .ref ka, .int 0, .ref fa, .ref qa, .ref ea, .ref za, .ref ya, .int 0])), (ba, .inl (cC, 6, .inl (upd (upd (upd (upd (upd (upd (fun _ => 0) 0 115) 1 104) 2 112) 3 108) 4 101) 5 109))), (fa, .inl (cI, 15, .inl (fun _ => 0)))] sz) []) (va_A [(g0, .inr (5, [.ref ra, .ref wa, .ref ta, .int 0, .ref ma, .int 0, .ref pa, .int 0, .int 0, .int 0, .ref ba, .ref ka, .int 0, .ref fa, .ref qa, .ref ea, .ref za, .ref ya, .int 0])), (ba, .inl (cC, 6, .inl (upd (upd (upd (upd (upd (upd (fun _ => 0) 0 115) 1 104) 2 112) 3 108) 4 101) 5 109))), (fa, .inl (cI, 15, .inl (fun _ => 0)))] sz)) 0 0 (va_A [(g0, .inr (5, [.ref ra, .ref wa, .ref ta, .int 0, .ref ma, .int 0, .ref pa, .int 0, .int 0, .int 0, .ref ba, .ref ka, .int 0, .ref fa, .ref qa, .ref ea, .ref za, .ref ya, .int 0])), (ba, .inl (cC, 6, .inl (upd (upd (upd (upd (upd (upd (fun _ => 0) 0 115) 1 104) 2 112) 3 108) 4 101) 5 109))), (fa, .inl (cI, 15, .inl (fun _ => 0)))] sz) := by
  refine Met.ofW (cc := cX5_road) (maxL := 2) (ret := (some .int)) (by decide) rfl ?_
  intro p e s m args below meth c s₁ B hml hv
  obtain ⟨rfl, hsz, hP, hK, hD0⟩ := hv
  have hx := B.exec
  have hb := B.bytes
  have hr := B.returns
  have hts := atoms_spec (ws := wsX5_road) B.pre
  have hown : s.vm.findClass RX5 = some m.cls := findClass_of_methodNamed B.named
  have hlocks := B.notSynchronized
  have hwX5 : ∀ w ∈ u_ws RX5 TX5 19, w ∈ wsX5_road := fun _ h => List.mem_cons_of_mem _ (List.mem_append_right _ h)
  subst hsz
  have hD := hD0.self (sz := s.heap.size)
  generalize hAe : va_A [(g0, .inr (5, [.ref ra, .ref wa, .ref ta, .int 0, .ref ma, .int 0, .ref pa, .int 0, .int 0, .int 0, .ref ba, .ref ka, .int 0, .ref fa, .ref qa, .ref ea, .ref za, .ref ya, .int 0])), (ba, .inl (cC, 6, .inl (upd (upd (upd (upd (upd (upd (fun _ => 0) 0 115) 1 104) 2 112) 3 108) 4 101) 5 109))), (fa, .inl (cI, 15, .inl (fun _ => 0)))] s.heap.size = A at hD ⊢
  have hA : ∀ q : Nat, s.heap.size ≤ q → A q := fun q h => by rw [← hAe]; exact Or.inr h
  have hS : va_S A s.heap s.heap [] := va_S.rf
  have hP : va_P D vwCl [(g0, .inr (5, [.ref ra, .ref wa, .ref ta, .int 0, .ref ma, .int 0, .ref pa, .int 0, .int 0, .int 0, .ref ba, .ref ka, .int 0, .ref fa, .ref qa, .ref ea, .ref za, .ref ya, .int 0])), (ba, .inl (cC, 6, .inl (upd (upd (upd (upd (upd (upd (fun _ => 0) 0 115) 1 104) 2 112) 3 108) 4 101) 5 109))), (fa, .inl (cI, 15, .inl (fun _ => 0)))] s.heap := hP
  have hl := lv_entry ([.ref g0]) (n := 2) (Nat.le_of_ble_eq_true rfl)
  rw [lg_entry_eq]
  generalize (lg_sl ([.ref g0]) ++ List.replicate (2 - (lg_sl ([.ref g0])).length) Slot.unset).toArray = ls at hl ⊢
  have hl : lv_has ls 2 [(0, .ref g0)] := hl
  refine lv_aload_n hx hb dX5_road_0 rfl (lv_at hl 0 rfl) ?_
  have hPc := hP.sub (ws' := [(g0, .inr (5, [.ref ra, .ref wa, .ref ta, .int 0, .ref ma, .int 0, .ref pa, .int 0, .int 0, .int 0, .ref ba, .ref ka, .int 0, .ref fa, .ref qa, .ref ea, .ref za, .ref ya, .int 0])), (ba, .inl (cC, 6, .inl (upd (upd (upd (upd (upd (upd (fun _ => 0) 0 115) 1 104) 2 112) 3 108) 4 101) 5 109))), (fa, .inl (cI, 15, .inl (fun _ => 0)))]) [0, 1, 2] rfl
  have hDc := hD.sub (ws' := [(g0, .inr (5, [.ref ra, .ref wa, .ref ta, .int 0, .ref ma, .int 0, .ref pa, .int 0, .int 0, .int 0, .ref ba, .ref ka, .int 0, .ref fa, .ref qa, .ref ea, .ref za, .ref ya, .int 0])), (ba, .inl (cC, 6, .inl (upd (upd (upd (upd (upd (upd (fun _ => 0) 0 115) 1 104) 2 112) 3 108) 4 101) 5 109))), (fa, .inl (cI, 15, .inl (fun _ => 0)))]) [0, 1, 2] (by decide) rfl
  have hFc := va_free (wc := [(g0, .inr (5, [.ref ra, .ref wa, .ref ta, .int 0, .ref ma, .int 0, .ref pa, .int 0, .int 0, .int 0, .ref ba, .ref ka, .int 0, .ref fa, .ref qa, .ref ea, .ref za, .ref ya, .int 0])), (ba, .inl (cC, 6, .inl (upd (upd (upd (upd (upd (upd (fun _ => 0) 0 115) 1 104) 2 112) 3 108) 4 101) 5 109))), (fa, .inl (cI, 15, .inl (fun _ => 0)))]) hD hS hA [0, 1, 2] rfl
  refine va_calli (va_runV (As := []) (rest := []) ⟨hx, hb, hml, hown, hts⟩ (c_X5_read l D cI cL cZ cC _ g0 ra wa ta ma pa ba ka fa qa ea za ya ) (cwV 0 hts gX5_road_X5_read rfl rfl rfl (by decide +kernel) ⟨Nat.le_of_ble_eq_true rfl, Nat.le_of_ble_eq_true rfl⟩) ⟨wPc_bl, va_recv hK hPc (ci := 5) (q0 := 0) rfl rfl, wPc_use hPc hK hDc⟩ rfl rfl hl.1 rfl (lv_room (Nat.le_of_ble_eq_true rfl)) dX5_road_1 ⟨Nat.le_of_ble_eq_true rfl, Nat.le_of_ble_eq_true rfl⟩) hS (fun q _ h => hFc q h) hFc (fun r_1 u_1 t H1 locs ht hvm hw hB hz1 hk1 hS => ?_)
  obtain ⟨hP1, hD1⟩ := hB
  rw [ht] at hP1
  obtain ⟨hP, hD⟩ := va_join (wr := []) (w1 := [(g0, .inr (5, [.ref ra, .ref wa, .ref ta, .int 0, .ref ma, .int 0, .ref pa, .int 0, .int 0, .int 0, .ref ba, .ref ka, .int 0, .ref fa, .ref qa, .ref ea, .ref za, .ref ya, .int 0]))]) hP hD [0, 1, 2] [] rfl rfl (by decide) (by decide) hk1 hFc hP1 hD1
  generalize H1 = H at hP hS ⊢
  have hP : va_P D vwCl [(g0, .inr (5, [.ref ra, .ref wa, .ref ta, .int 0, .ref ma, .int 0, .ref pa, .int 0, .int 0, .int 0, .ref ba, .ref ka, .int 0, .ref fa, .ref qa, .ref ea, .ref za, .ref ya, .int 0]))] H := hP
  have hD : va_D A [(g0, .inr (5, [.ref ra, .ref wa, .ref ta, .int 0, .ref ma, .int 0, .ref pa, .int 0, .int 0, .int 0, .ref ba, .ref ka, .int 0, .ref fa, .ref qa, .ref ea, .ref za, .ref ya, .int 0]))] := hD
  obtain rfl : (-1000 : Int32) = r_1 := Eq.symm hw
  refine lv_istore_n (lv' := [(1, .int (-1000)), (0, .ref g0)]) hx hb dX5_road_4 rfl hl (by decide) rfl (fun ls hl => ?_)
  refine lv_aload_n hx hb dX5_road_5 rfl (lv_at hl 1 rfl) ?_
  refine lv_iconst (v := 0) hx hb dX5_road_6 (by decide) ?_
  refine va_put (D := D) (ci := 5) (v := .int 0) (ty := .int) (C := RX5) (T := TX5) (N := 19) hx hb hts hwX5 tyX5 tyX5_ok nmX5 hown hK hP hD hS 0 rfl rfl 7 (by decide) (hts (.fieldLink RX5 57 "WaitOrWalkOnModel" "taped" "I") (by decide +kernel)) (fun _ h9 => h9) rfl (by decide +kernel) (by decide +kernel) rfl (Nat.le_of_ble_eq_true rfl) dX5_road_7 (fun H locs hP hD hS => ?_)
  have hP : va_P D vwCl [(g0, .inr (5, [.ref ra, .ref wa, .ref ta, .int 0, .ref ma, .int 0, .ref pa, .int 0, .int 0, .int 0, .ref ba, .ref ka, .int 0, .ref fa, .ref qa, .ref ea, .ref za, .ref ya, .int 0]))] H := hP
  have hD : va_D A [(g0, .inr (5, [.ref ra, .ref wa, .ref ta, .int 0, .ref ma, .int 0, .ref pa, .int 0, .int 0, .int 0, .ref ba, .ref ka, .int 0, .ref fa, .ref qa, .ref ea, .ref za, .ref ya, .int 0]))] := hD
  refine lv_iload_n hx hb dX5_road_10 rfl (lv_at hl 0 rfl) ?_
  have hP9 := hP.sub (ws' := []) [] rfl
  have hD9 := hD.sub (ws' := []) [] (by decide) rfl
  exact W.iret (v := -1000) hx hb hr (fun t ht hW => ⟨⟨_, (), rfl, rfl, by rw [ht]; exact hP9, hD9⟩, hS.F ht⟩) hS.2.2 dX5_road_11

set_option maxHeartbeats 4000000 in
set_option maxRecDepth 100000 in
theorem p1_X5_on (l : Launch) (D : va_G) (cI cL cZ cC : ClassId) (sz : Nat) (g0 : Nat) (ra : Nat) (wa : Nat) (ta : Nat) (ma : Nat) (pa : Nat) (ba : Nat) (ka : Nat) (fa : Nat) (qa : Nat) (ea : Nat) (za : Nat) (ya : Nat)  : Met l yX5_on wsX5_on ({ frames := 1, cells := 0, slots := 0, locals := 21 } : Room) (wPc D [.ref g0] [(g0, .inr (5, [.ref ra, .ref wa, .ref ta, .int 0, .ref ma, .int 0, .ref pa, .int 0, .int 0, .int 0, .ref ba, .ref ka, .int 0, .ref fa, .ref qa, .ref ea, .ref za, .ref ya, .int 0])), (ra, .inl (cI, 7, .inl (fun _ => 0)))] (xTy cI cL cZ cC) sz) (va_Qi (fun (r : Int32) (_ : Unit) => r = -3) (fun (_ : Unit) t => va_P D vwCl [] t.heap ∧ va_D (va_A [(g0, .inr (5, [.ref ra, .ref wa, .ref ta, .int 0, .ref ma, .int 0, .ref pa, .int 0, .int 0, .int 0, .ref ba, .ref ka, .int 0, .ref fa, .ref qa, .ref ea, .ref za, .ref ya, .int 0])), (ra, .inl (cI, 7, .inl (fun _ => 0)))] sz) []) (va_A [(g0, .inr (5, [.ref ra, .ref wa, .ref ta, .int 0, .ref ma, .int 0, .ref pa, .int 0, .int 0, .int 0, .ref ba, .ref ka, .int 0, .ref fa, .ref qa, .ref ea, .ref za, .ref ya, .int 0])), (ra, .inl (cI, 7, .inl (fun _ => 0)))] sz)) 0 0 (va_A [(g0, .inr (5, [.ref ra, .ref wa, .ref ta, .int 0, .ref ma, .int 0, .ref pa, .int 0, .int 0, .int 0, .ref ba, .ref ka, .int 0, .ref fa, .ref qa, .ref ea, .ref za, .ref ya, .int 0])), (ra, .inl (cI, 7, .inl (fun _ => 0)))] sz) := by
  refine Met.ofW (cc := cX5_on) (maxL := 2) (ret := (some .int)) (by decide) rfl ?_
  intro p e s m args below meth c s₁ B hml hv
  obtain ⟨rfl, hsz, hP, hK, hD0⟩ := hv
  have hx := B.exec
  have hb := B.bytes
  have hr := B.returns
  have hts := atoms_spec (ws := wsX5_on) B.pre
  have hown : s.vm.findClass RX5 = some m.cls := findClass_of_methodNamed B.named
  have hlocks := B.notSynchronized
  have hwX5 : ∀ w ∈ u_ws RX5 TX5 19, w ∈ wsX5_on := fun _ h => List.mem_cons_of_mem _ (List.mem_append_right _ h)
  subst hsz
  have hD := hD0.self (sz := s.heap.size)
  generalize hAe : va_A [(g0, .inr (5, [.ref ra, .ref wa, .ref ta, .int 0, .ref ma, .int 0, .ref pa, .int 0, .int 0, .int 0, .ref ba, .ref ka, .int 0, .ref fa, .ref qa, .ref ea, .ref za, .ref ya, .int 0])), (ra, .inl (cI, 7, .inl (fun _ => 0)))] s.heap.size = A at hD ⊢
  have hA : ∀ q : Nat, s.heap.size ≤ q → A q := fun q h => by rw [← hAe]; exact Or.inr h
  have hS : va_S A s.heap s.heap [] := va_S.rf
  have hP : va_P D vwCl [(g0, .inr (5, [.ref ra, .ref wa, .ref ta, .int 0, .ref ma, .int 0, .ref pa, .int 0, .int 0, .int 0, .ref ba, .ref ka, .int 0, .ref fa, .ref qa, .ref ea, .ref za, .ref ya, .int 0])), (ra, .inl (cI, 7, .inl (fun _ => 0)))] s.heap := hP
  have hl := lv_entry ([.ref g0]) (n := 2) (Nat.le_of_ble_eq_true rfl)
  rw [lg_entry_eq]
  generalize (lg_sl ([.ref g0]) ++ List.replicate (2 - (lg_sl ([.ref g0])).length) Slot.unset).toArray = ls at hl ⊢
  have hl : lv_has ls 2 [(0, .ref g0)] := hl
  refine lv_aload_n hx hb dX5_on_0 rfl (lv_at hl 0 rfl) ?_
  refine va_get (D := D) (ci := 5) (v := .int 0) (C := RX5) (T := TX5) (N := 19) hx hb hts hwX5 hown hK hP 0 rfl rfl 3 (by decide) (hts (.fieldLink RX5 53 "WaitOrWalkOnModel" "kept" "Z") (by decide +kernel)) (fun _ h9 => h9) rfl dX5_on_1 ?_
  refine lv_if_ne (tgt := 14) hx hb dX5_on_4 (by decide) (fun c_1 => absurd c_1 (by decide +kernel)) (fun c_1 => ?_)
  refine lv_aload_n hx hb dX5_on_7 rfl (lv_at hl 0 rfl) ?_
  refine lv_bipush (v := -3) hx hb dX5_on_8 (by decide) ?_
  have hPc := hP.sub (ws' := [(g0, .inr (5, [.ref ra, .ref wa, .ref ta, .int 0, .ref ma, .int 0, .ref pa, .int 0, .int 0, .int 0, .ref ba, .ref ka, .int 0, .ref fa, .ref qa, .ref ea, .ref za, .ref ya, .int 0])), (ra, .inl (cI, 7, .inl (fun _ => 0)))]) [0, 1] rfl
  have hDc := hD.sub (ws' := [(g0, .inr (5, [.ref ra, .ref wa, .ref ta, .int 0, .ref ma, .int 0, .ref pa, .int 0, .int 0, .int 0, .ref ba, .ref ka, .int 0, .ref fa, .ref qa, .ref ea, .ref za, .ref ya, .int 0])), (ra, .inl (cI, 7, .inl (fun _ => 0)))]) [0, 1] (by decide) rfl
  have hFc := va_free (wc := [(g0, .inr (5, [.ref ra, .ref wa, .ref ta, .int 0, .ref ma, .int 0, .ref pa, .int 0, .int 0, .int 0, .ref ba, .ref ka, .int 0, .ref fa, .ref qa, .ref ea, .ref za, .ref ya, .int 0])), (ra, .inl (cI, 7, .inl (fun _ => 0)))]) hD hS hA [0, 1] rfl
  refine va_calli (va_runV (As := [.int (-3)]) (rest := []) ⟨hx, hb, hml, hown, hts⟩ (c_X5_no l D cI cL cZ cC _ g0 ra wa ta ma pa ba ka fa qa ea za ya (fun _ => 0) (-3) (by first | assumption | decide +kernel) (by first | assumption | decide +kernel)) (cwV 1 hts gX5_on_X5_no rfl rfl rfl (by decide +kernel) ⟨Nat.le_of_ble_eq_true rfl, Nat.le_of_ble_eq_true rfl⟩) ⟨wPc_bl, va_recv hK hPc (ci := 5) (q0 := 0) rfl rfl, wPc_use hPc hK hDc⟩ rfl rfl hl.1 rfl (lv_room (Nat.le_of_ble_eq_true rfl)) dX5_on_10 ⟨Nat.le_of_ble_eq_true rfl, Nat.le_of_ble_eq_true rfl⟩) hS (fun q _ h => hFc q h) hFc (fun r_2 u_2 t H1 locs ht hvm hw hB hz1 hk1 hS => ?_)
  obtain ⟨hP1, hD1⟩ := hB
  rw [ht] at hP1
  obtain ⟨hP, hD⟩ := va_join (wr := []) (w1 := [(g0, .inr (5, [.ref ra, .ref wa, .ref ta, .int 0, .ref ma, .int 0, .ref pa, .int 0, .int 0, .int 0, .ref ba, .ref ka, .int 0, .ref fa, .ref qa, .ref ea, .ref za, .ref ya, .int 0])), (ra, .inl (cI, 7, .inl (xRf (fun _ => 0) (-3))))]) hP hD [0, 1] [] rfl rfl (by decide) (by decide) hk1 hFc hP1 hD1
  generalize H1 = H at hP hS ⊢
  have hP : va_P D vwCl [(g0, .inr (5, [.ref ra, .ref wa, .ref ta, .int 0, .ref ma, .int 0, .ref pa, .int 0, .int 0, .int 0, .ref ba, .ref ka, .int 0, .ref fa, .ref qa, .ref ea, .ref za, .ref ya, .int 0])), (ra, .inl (cI, 7, .inl (xRf (fun _ => 0) (-3))))] H := hP
  have hD : va_D A [(g0, .inr (5, [.ref ra, .ref wa, .ref ta, .int 0, .ref ma, .int 0, .ref pa, .int 0, .int 0, .int 0, .ref ba, .ref ka, .int 0, .ref fa, .ref qa, .ref ea, .ref za, .ref ya, .int 0])), (ra, .inl (cI, 7, .inl (xRf (fun _ => 0) (-3))))] := hD
  obtain rfl : ((-3) : Int32) = r_2 := Eq.symm hw
  have hP9 := hP.sub (ws' := []) [] rfl
  have hD9 := hD.sub (ws' := []) [] (by decide) rfl
  exact W.iret (v := -3) hx hb hr (fun t ht hW => ⟨⟨_, (), rfl, rfl, by rw [ht]; exact hP9, hD9⟩, hS.F ht⟩) hS.2.2 dX5_on_13

set_option maxHeartbeats 4000000 in
set_option maxRecDepth 100000 in
theorem p1_X5_judge (l : Launch) (D : va_G) (cI cL cZ cC : ClassId) (sz : Nat) (g0 : Nat) (ra : Nat) (wa : Nat) (ta : Nat) (ma : Nat) (pa : Nat) (ba : Nat) (ka : Nat) (fa : Nat) (qa : Nat) (ea : Nat) (za : Nat) (ya : Nat)  : Met l yX5_judge wsX5_judge ({ frames := 0, cells := 0, slots := 0, locals := 0 } : Room) (wPc D [.ref g0] [(g0, .inr (5, [.ref ra, .ref wa, .ref ta, .int 0, .ref ma, .int 0, .ref pa, .int 0, .int 0, .int 0, .ref ba, .ref ka, .int 0, .ref fa, .ref qa, .ref ea, .ref za, .ref ya, .int 0]))] (xTy cI cL cZ cC) sz) (va_Qi (fun (r : Int32) (_ : Unit) => r = -9) (fun (_ : Unit) t => va_P D vwCl [] t.heap ∧ va_D (va_A [(g0, .inr (5, [.ref ra, .ref wa, .ref ta, .int 0, .ref ma, .int 0, .ref pa, .int 0, .int 0, .int 0, .ref ba, .ref ka, .int 0, .ref fa, .ref qa, .ref ea, .ref za, .ref ya, .int 0]))] sz) []) (va_A [(g0, .inr (5, [.ref ra, .ref wa, .ref ta, .int 0, .ref ma, .int 0, .ref pa, .int 0, .int 0, .int 0, .ref ba, .ref ka, .int 0, .ref fa, .ref qa, .ref ea, .ref za, .ref ya, .int 0]))] sz)) 0 0 (va_A [(g0, .inr (5, [.ref ra, .ref wa, .ref ta, .int 0, .ref ma, .int 0, .ref pa, .int 0, .int 0, .int 0, .ref ba, .ref ka, .int 0, .ref fa, .ref qa, .ref ea, .ref za, .ref ya, .int 0]))] sz) := by
  refine Met.ofW (cc := cX5_judge) (maxL := 4) (ret := (some .int)) (by decide) rfl ?_
  intro p e s m args below meth c s₁ B hml hv
  obtain ⟨rfl, hsz, hP, hK, hD0⟩ := hv
  have hx := B.exec
  have hb := B.bytes
  have hr := B.returns
  have hts := atoms_spec (ws := wsX5_judge) B.pre
  have hown : s.vm.findClass RX5 = some m.cls := findClass_of_methodNamed B.named
  have hlocks := B.notSynchronized
  have hwX5 : ∀ w ∈ u_ws RX5 TX5 19, w ∈ wsX5_judge := fun _ h => List.mem_cons_of_mem _ (List.mem_append_right _ h)
  subst hsz
  have hD := hD0.self (sz := s.heap.size)
  generalize hAe : va_A [(g0, .inr (5, [.ref ra, .ref wa, .ref ta, .int 0, .ref ma, .int 0, .ref pa, .int 0, .int 0, .int 0, .ref ba, .ref ka, .int 0, .ref fa, .ref qa, .ref ea, .ref za, .ref ya, .int 0]))] s.heap.size = A at hD ⊢
  have hA : ∀ q : Nat, s.heap.size ≤ q → A q := fun q h => by rw [← hAe]; exact Or.inr h
  have hS : va_S A s.heap s.heap [] := va_S.rf
  have hP : va_P D vwCl [(g0, .inr (5, [.ref ra, .ref wa, .ref ta, .int 0, .ref ma, .int 0, .ref pa, .int 0, .int 0, .int 0, .ref ba, .ref ka, .int 0, .ref fa, .ref qa, .ref ea, .ref za, .ref ya, .int 0]))] s.heap := hP
  have hl := lv_entry ([.ref g0]) (n := 4) (Nat.le_of_ble_eq_true rfl)
  rw [lg_entry_eq]
  generalize (lg_sl ([.ref g0]) ++ List.replicate (4 - (lg_sl ([.ref g0])).length) Slot.unset).toArray = ls at hl ⊢
  have hl : lv_has ls 4 [(0, .ref g0)] := hl
  refine lv_bipush (v := -9) hx hb dX5_judge_0 (by decide) ?_
  refine lv_istore_n (lv' := [(1, .int (-9)), (0, .ref g0)]) hx hb dX5_judge_2 rfl hl (by decide) rfl (fun ls hl => ?_)
  refine lv_aload_n hx hb dX5_judge_3 rfl (lv_at hl 1 rfl) ?_
  refine va_get (D := D) (ci := 5) (v := .int 0) (C := RX5) (T := TX5) (N := 19) hx hb hts hwX5 hown hK hP 0 rfl rfl 5 (by decide) (hts (.fieldLink RX5 188 "WaitOrWalkOnModel" "marked" "I") (by decide +kernel)) (fun _ h9 => h9) rfl dX5_judge_4 ?_
  refine lv_iconst (v := 1) hx hb dX5_judge_7 (by decide) ?_
  refine lv_isub hx hb dX5_judge_8 ?_
  refine xv_int (y := (-1)) (by decide +kernel) ?_
  refine lv_istore_n (lv' := [(2, .int (-1)), (1, .int (-9)), (0, .ref g0)]) hx hb dX5_judge_9 rfl hl (by decide) rfl (fun ls hl => ?_)
  refine lv_iload_n hx hb dX5_judge_10 rfl (lv_at hl 0 rfl) ?_
  refine lv_if_lt (tgt := 79) hx hb dX5_judge_11 (by decide) (fun c_1 => ?_) (fun c_1 => absurd c_1 (by decide +kernel))
  refine lv_aload_n hx hb dX5_judge_79 rfl (lv_at hl 2 rfl) ?_
  refine lv_iconst (v := 0) hx hb dX5_judge_80 (by decide) ?_
  refine va_put (D := D) (ci := 5) (v := .int 0) (ty := .int) (C := RX5) (T := TX5) (N := 19) hx hb hts hwX5 tyX5 tyX5_ok nmX5 hown hK hP hD hS 0 rfl rfl 5 (by decide) (hts (.fieldLink RX5 188 "WaitOrWalkOnModel" "marked" "I") (by decide +kernel)) (fun _ h9 => h9) rfl (by decide +kernel) (by decide +kernel) rfl (Nat.le_of_ble_eq_true rfl) dX5_judge_81 (fun H locs hP hD hS => ?_)
  have hP : va_P D vwCl [(g0, .inr (5, [.ref ra, .ref wa, .ref ta, .int 0, .ref ma, .int 0, .ref pa, .int 0, .int 0, .int 0, .ref ba, .ref ka, .int 0, .ref fa, .ref qa, .ref ea, .ref za, .ref ya, .int 0]))] H := hP
  have hD : va_D A [(g0, .inr (5, [.ref ra, .ref wa, .ref ta, .int 0, .ref ma, .int 0, .ref pa, .int 0, .int 0, .int 0, .ref ba, .ref ka, .int 0, .ref fa, .ref qa, .ref ea, .ref za, .ref ya, .int 0]))] := hD
  refine lv_iload_n hx hb dX5_judge_84 rfl (lv_at hl 1 rfl) ?_
  have hP9 := hP.sub (ws' := []) [] rfl
  have hD9 := hD.sub (ws' := []) [] (by decide) rfl
  exact W.iret (v := -9) hx hb hr (fun t ht hW => ⟨⟨_, (), rfl, rfl, by rw [ht]; exact hP9, hD9⟩, hS.F ht⟩) hS.2.2 dX5_judge_85

set_option maxHeartbeats 4000000 in
set_option maxRecDepth 100000 in
theorem c_X5_minutes (l : Launch) (D : va_G) (cI cL cZ cC : ClassId)   : Met l yX5_minutes wsX5_minutes ({ frames := 0, cells := 0, slots := 0, locals := 0 } : Room) (xPc D [.int 400, .int 80] [] (xTy cI cL cZ cC)) (vp_Si (fun r : Int32 => r = 5)) 0 0 (fun _ => False) := by
  refine Met.ofW (cc := cX5_minutes) (maxL := 2) (ret := (some .int)) (by decide) rfl ?_
  intro p e s m args below meth c s₁ B hml hv
  obtain ⟨rfl, hP, hK⟩ := hv
  have hx := B.exec
  have hb := B.bytes
  have hr := B.returns
  have hts := atoms_spec (ws := wsX5_minutes) B.pre
  have hown : s.vm.findClass RX5 = some m.cls := findClass_of_methodNamed B.named
  have hlocks := B.notSynchronized
  have hl := lv_entry ([.int 400, .int 80]) (n := 2) (Nat.le_of_ble_eq_true rfl)
  rw [lg_entry_eq]
  generalize (lg_sl ([.int 400, .int 80]) ++ List.replicate (2 - (lg_sl ([.int 400, .int 80])).length) Slot.unset).toArray = ls at hl ⊢
  have hl : lv_has ls 2 [(0, .int 400), (1, .int 80)] := hl
  refine lv_iload_n hx hb dX5_minutes_0 rfl (lv_at hl 0 rfl) ?_
  refine lv_iload_n hx hb dX5_minutes_1 rfl (lv_at hl 1 rfl) ?_
  refine lv_iadd hx hb dX5_minutes_2 ?_
  refine xv_int (y := 480) (by decide +kernel) ?_
  refine lv_iconst (v := 1) hx hb dX5_minutes_3 (by decide) ?_
  refine lv_isub hx hb dX5_minutes_4 ?_
  refine xv_int (y := 479) (by decide +kernel) ?_
  refine lv_iload_n hx hb dX5_minutes_5 rfl (lv_at hl 1 rfl) ?_
  refine lv_idiv hx hb dX5_minutes_6 ((by decide)) ?_
  refine xv_int (y := 5) (by decide +kernel) ?_
  exact W.iret (v := 5) hx hb hr (fun t ht hW => ⟨_, rfl, rfl, ht⟩) (fun _ h => absurd h List.not_mem_nil) dX5_minutes_7

set_option maxHeartbeats 4000000 in
set_option maxRecDepth 100000 in
theorem c_X5_leg (l : Launch) (D : va_G) (cI cL cZ cC : ClassId) (g0 : Nat) (ra : Nat) (wa : Nat) (ta : Nat) (ma : Nat) (pa : Nat) (ba : Nat) (ka : Nat) (fa : Nat) (qa : Nat) (ea : Nat) (za : Nat) (ya : Nat)  : Met l yX5_leg wsX5_leg ({ frames := 1, cells := 0, slots := 0, locals := 21 } : Room) (xPc D [.ref g0, .int 1, .int 80] [(g0, .inr (5, [.ref ra, .ref wa, .ref ta, .int 0, .ref ma, .int 0, .ref pa, .int 0, .int 0, .int 0, .ref ba, .ref ka, .int 0, .ref fa, .ref qa, .ref ea, .ref za, .ref ya, .int 0])), (wa, .inl (cI, 70, .inl (upd (upd (upd (upd (upd (fun _ => 0) 0 1) 1 400) 2 80) 4 2) 5 30)))] (xTy cI cL cZ cC)) (vp_Si (fun r : Int32 => r = 5)) 0 0 (fun _ => False) := by
  refine Met.ofW (cc := cX5_leg) (maxL := 3) (ret := (some .int)) (by decide) rfl ?_
  intro p e s m args below meth c s₁ B hml hv
  obtain ⟨rfl, hP, hK⟩ := hv
  have hx := B.exec
  have hb := B.bytes
  have hr := B.returns
  have hts := atoms_spec (ws := wsX5_leg) B.pre
  have hown : s.vm.findClass RX5 = some m.cls := findClass_of_methodNamed B.named
  have hlocks := B.notSynchronized
  have hwX5 : ∀ w ∈ u_ws RX5 TX5 19, w ∈ wsX5_leg := fun _ h => List.mem_cons_of_mem _ (List.mem_append_right _ h)
  have hl := lv_entry ([.ref g0, .int 1, .int 80]) (n := 3) (Nat.le_of_ble_eq_true rfl)
  rw [lg_entry_eq]
  generalize (lg_sl ([.ref g0, .int 1, .int 80]) ++ List.replicate (3 - (lg_sl ([.ref g0, .int 1, .int 80])).length) Slot.unset).toArray = ls at hl ⊢
  have hl : lv_has ls 3 [(0, .ref g0), (1, .int 1), (2, .int 80)] := hl
  refine lv_iload_n hx hb dX5_leg_0 rfl (lv_at hl 1 rfl) ?_
  refine lv_aload_n hx hb dX5_leg_1 rfl (lv_at hl 0 rfl) ?_
  refine va_get (D := D) (ci := 5) (v := .ref wa) (C := RX5) (T := TX5) (N := 19) hx hb hts hwX5 hown hK hP 0 rfl rfl 1 (by decide) (hts (.fieldLink RX5 19 "WaitOrWalkOnModel" "now" "[I") (by decide +kernel)) (fun _ h9 => h9) rfl dX5_leg_2 ?_
  refine lv_iconst (v := 0) hx hb dX5_leg_5 (by decide) ?_
  refine va_iald (D := D) hx hb hK hP 1 0 rfl rfl (by unfold vp_in; decide +kernel) dX5_leg_6 ?_
  refine xv_int (y := 1) rfl ?_
  refine lv_icmp_ne (tgt := 19) hx hb dX5_leg_7 (by decide) (fun c_1 => absurd c_1 (by decide +kernel)) (fun c_1 => ?_)
  refine lv_aload_n hx hb dX5_leg_10 rfl (lv_at hl 0 rfl) ?_
  refine va_get (D := D) (ci := 5) (v := .ref wa) (C := RX5) (T := TX5) (N := 19) hx hb hts hwX5 hown hK hP 0 rfl rfl 1 (by decide) (hts (.fieldLink RX5 19 "WaitOrWalkOnModel" "now" "[I") (by decide +kernel)) (fun _ h9 => h9) rfl dX5_leg_11 ?_
  refine lv_iconst (v := 1) hx hb dX5_leg_14 (by decide) ?_
  refine va_iald (D := D) hx hb hK hP 1 0 rfl rfl (by unfold vp_in; decide +kernel) dX5_leg_15 ?_
  refine xv_int (y := 400) rfl ?_
  refine lv_goto (tgt := 28) hx hb dX5_leg_16 (by decide) ?_
  refine lv_iload_n hx hb dX5_leg_28 rfl (lv_at hl 2 rfl) ?_
  have hPc := hP.sub (ws' := []) [] rfl
  refine vp_callSi (va_Run.run (va_runS (As := [.int 400, .int 80]) (rest := []) ⟨hx, hb, hml, hown, hts⟩ (c_X5_minutes l D cI cL cZ cC  ) (va_cwS 2 hts gX5_leg_X5_minutes rfl rfl rfl (by decide +kernel) ⟨Nat.le_of_ble_eq_true rfl, Nat.le_of_ble_eq_true rfl⟩) ⟨xPc_bl, xPc_use hPc hK⟩ rfl rfl hl.1 rfl (lv_room (Nat.le_of_ble_eq_true rfl)) dX5_leg_29 ⟨Nat.le_of_ble_eq_true rfl, Nat.le_of_ble_eq_true rfl⟩)) (fun r_2 er_2 => ?_)
  obtain rfl : (5 : Int32) = r_2 := Eq.symm er_2
  exact W.iret (v := 5) hx hb hr (fun t ht hW => ⟨_, rfl, rfl, ht⟩) (fun _ h => absurd h List.not_mem_nil) dX5_leg_32

set_option maxHeartbeats 4000000 in
set_option maxRecDepth 100000 in
theorem c_X5_rest (l : Launch) (D : va_G) (cI cL cZ cC : ClassId) (g0 : Nat) (ra : Nat) (wa : Nat) (ta : Nat) (ma : Nat) (pa : Nat) (ba : Nat) (ka : Nat) (fa : Nat) (qa : Nat) (ea : Nat) (za : Nat) (ya : Nat)  : Met l yX5_rest wsX5_rest ({ frames := 2, cells := 0, slots := 0, locals := 43 } : Room) (xPc D [.ref g0, .int 0] [(g0, .inr (5, [.ref ra, .ref wa, .ref ta, .int 0, .ref ma, .int 0, .ref pa, .int 0, .int 0, .int 0, .ref ba, .ref ka, .int 0, .ref fa, .ref qa, .ref ea, .ref za, .ref ya, .int 0])), (wa, .inl (cI, 70, .inl (upd (upd (upd (upd (upd (fun _ => 0) 0 1) 1 400) 2 80) 4 2) 5 30)))] (xTy cI cL cZ cC)) (vp_Si (fun r : Int32 => r = 5)) 0 0 (fun _ => False) := by
  refine Met.ofW (cc := cX5_rest) (maxL := 4) (ret := (some .int)) (by decide) rfl ?_
  intro p e s m args below meth c s₁ B hml hv
  obtain ⟨rfl, hP, hK⟩ := hv
  have hx := B.exec
  have hb := B.bytes
  have hr := B.returns
  have hts := atoms_spec (ws := wsX5_rest) B.pre
  have hown : s.vm.findClass RX5 = some m.cls := findClass_of_methodNamed B.named
  have hlocks := B.notSynchronized
  have hwX5 : ∀ w ∈ u_ws RX5 TX5 19, w ∈ wsX5_rest := fun _ h => List.mem_cons_of_mem _ (List.mem_append_right _ h)
  have hl := lv_entry ([.ref g0, .int 0]) (n := 4) (Nat.le_of_ble_eq_true rfl)
  rw [lg_entry_eq]
  generalize (lg_sl ([.ref g0, .int 0]) ++ List.replicate (4 - (lg_sl ([.ref g0, .int 0])).length) Slot.unset).toArray = ls at hl ⊢
  have hl : lv_has ls 4 [(0, .ref g0), (1, .int 0)] := hl
  refine lv_iconst (v := 0) hx hb dX5_rest_0 (by decide) ?_
  refine lv_istore_n (lv' := [(2, .int 0), (0, .ref g0), (1, .int 0)]) hx hb dX5_rest_1 rfl hl (by decide) rfl (fun ls hl => ?_)
  refine lv_iload_n hx hb dX5_rest_2 rfl (lv_at hl 2 rfl) ?_
  refine lv_iconst (v := 1) hx hb dX5_rest_3 (by decide) ?_
  refine lv_iadd hx hb dX5_rest_4 ?_
  refine xv_int (y := 1) (by decide +kernel) ?_
  refine lv_istore_n (lv' := [(3, .int 1), (2, .int 0), (0, .ref g0), (1, .int 0)]) hx hb dX5_rest_5 rfl hl (by decide) rfl (fun ls hl => ?_)
  refine lv_iload_n hx hb dX5_rest_6 rfl (lv_at hl 0 rfl) ?_
  refine lv_aload_n hx hb dX5_rest_7 rfl (lv_at hl 2 rfl) ?_
  refine va_get (D := D) (ci := 5) (v := .ref wa) (C := RX5) (T := TX5) (N := 19) hx hb hts hwX5 hown hK hP 0 rfl rfl 1 (by decide) (hts (.fieldLink RX5 19 "WaitOrWalkOnModel" "now" "[I") (by decide +kernel)) (fun _ h9 => h9) rfl dX5_rest_8 ?_
  refine lv_iconst (v := 0) hx hb dX5_rest_11 (by decide) ?_
  refine va_iald (D := D) hx hb hK hP 1 0 rfl rfl (by unfold vp_in; decide +kernel) dX5_rest_12 ?_
  refine xv_int (y := 1) rfl ?_
  refine lv_icmp_gt (tgt := 36) hx hb dX5_rest_13 (by decide) (fun c_1 => absurd c_1 (by decide +kernel)) (fun c_1 => ?_)
  refine lv_iload_n hx hb dX5_rest_16 rfl (lv_at hl 1 rfl) ?_
  refine lv_aload_n hx hb dX5_rest_17 rfl (lv_at hl 2 rfl) ?_
  refine lv_iload_n hx hb dX5_rest_18 rfl (lv_at hl 0 rfl) ?_
  refine lv_aload_n hx hb dX5_rest_19 rfl (lv_at hl 2 rfl) ?_
  refine va_get (D := D) (ci := 5) (v := .ref wa) (C := RX5) (T := TX5) (N := 19) hx hb hts hwX5 hown hK hP 0 rfl rfl 1 (by decide) (hts (.fieldLink RX5 19 "WaitOrWalkOnModel" "now" "[I") (by decide +kernel)) (fun _ h9 => h9) rfl dX5_rest_20 ?_
  refine lv_iconst (v := 2) hx hb dX5_rest_23 (by decide) ?_
  refine va_iald (D := D) hx hb hK hP 1 0 rfl rfl (by unfold vp_in; decide +kernel) dX5_rest_24 ?_
  refine xv_int (y := 80) rfl ?_
  have hPc := hP.sub (ws' := [(g0, .inr (5, [.ref ra, .ref wa, .ref ta, .int 0, .ref ma, .int 0, .ref pa, .int 0, .int 0, .int 0, .ref ba, .ref ka, .int 0, .ref fa, .ref qa, .ref ea, .ref za, .ref ya, .int 0])), (wa, .inl (cI, 70, .inl (upd (upd (upd (upd (upd (fun _ => 0) 0 1) 1 400) 2 80) 4 2) 5 30)))]) [0, 1] rfl
  refine vp_callSi (va_Run.run (va_runV (As := [.int 1, .int 80]) (rest := [.int 0]) ⟨hx, hb, hml, hown, hts⟩ (c_X5_leg l D cI cL cZ cC g0 ra wa ta ma pa ba ka fa qa ea za ya ) (cwV 2 hts gX5_rest_X5_leg rfl rfl rfl (by decide +kernel) ⟨Nat.le_of_ble_eq_true rfl, Nat.le_of_ble_eq_true rfl⟩) ⟨xPc_bl, va_recv hK hPc (ci := 5) (q0 := 0) rfl rfl, xPc_use hPc hK⟩ rfl rfl hl.1 rfl (lv_room (Nat.le_of_ble_eq_true rfl)) dX5_rest_25 ⟨Nat.le_of_ble_eq_true rfl, Nat.le_of_ble_eq_true rfl⟩)) (fun r_2 er_2 => ?_)
  obtain rfl : (5 : Int32) = r_2 := Eq.symm er_2
  refine lv_iadd hx hb dX5_rest_28 ?_
  refine xv_int (y := 5) (by decide +kernel) ?_
  refine lv_istore_n (lv' := [(2, .int 5), (3, .int 1), (0, .ref g0), (1, .int 0)]) hx hb dX5_rest_29 rfl hl (by decide) rfl (fun ls hl => ?_)
  refine lv_iinc (v := 2) (lv' := [(3, .int 2), (2, .int 5), (0, .ref g0), (1, .int 0)]) hx hb dX5_rest_30 hl (k := 1) rfl (by decide +kernel) (by decide) rfl (fun ls hl => ?_)
  refine lv_goto (tgt := 6) hx hb dX5_rest_33 (by decide) ?_
  refine lv_iload_n hx hb dX5_rest_6 rfl (lv_at hl 0 rfl) ?_
  refine lv_aload_n hx hb dX5_rest_7 rfl (lv_at hl 2 rfl) ?_
  refine va_get (D := D) (ci := 5) (v := .ref wa) (C := RX5) (T := TX5) (N := 19) hx hb hts hwX5 hown hK hP 0 rfl rfl 1 (by decide) (hts (.fieldLink RX5 19 "WaitOrWalkOnModel" "now" "[I") (by decide +kernel)) (fun _ h9 => h9) rfl dX5_rest_8 ?_
  refine lv_iconst (v := 0) hx hb dX5_rest_11 (by decide) ?_
  refine va_iald (D := D) hx hb hK hP 1 0 rfl rfl (by unfold vp_in; decide +kernel) dX5_rest_12 ?_
  refine xv_int (y := 1) rfl ?_
  refine lv_icmp_gt (tgt := 36) hx hb dX5_rest_13 (by decide) (fun c_3 => ?_) (fun c_3 => absurd c_3 (by decide +kernel))
  refine lv_iload_n hx hb dX5_rest_36 rfl (lv_at hl 1 rfl) ?_
  exact W.iret (v := 5) hx hb hr (fun t ht hW => ⟨_, rfl, rfl, ht⟩) (fun _ h => absurd h List.not_mem_nil) dX5_rest_37

set_option maxHeartbeats 4000000 in
set_option maxRecDepth 100000 in
theorem p1_X5_walked (l : Launch) (D : va_G) (cI cL cZ cC : ClassId) (g0 : Nat) (ra : Nat) (wa : Nat) (ta : Nat) (ma : Nat) (pa : Nat) (ba : Nat) (ka : Nat) (fa : Nat) (qa : Nat) (ea : Nat) (za : Nat) (ya : Nat)  : Met l yX5_walked wsX5_walked ({ frames := 3, cells := 0, slots := 0, locals := 66 } : Room) (xPc D [.ref g0] [(g0, .inr (5, [.ref ra, .ref wa, .ref ta, .int 0, .ref ma, .int 0, .ref pa, .int 0, .int 0, .int 0, .ref ba, .ref ka, .int 0, .ref fa, .ref qa, .ref ea, .ref za, .ref ya, .int 0])), (wa, .inl (cI, 70, .inl (upd (upd (upd (upd (upd (fun _ => 0) 0 1) 1 400) 2 80) 4 2) 5 30)))] (xTy cI cL cZ cC)) (vp_Si (fun r : Int32 => r = 5)) 0 0 (fun _ => False) := by
  refine Met.ofW (cc := cX5_walked) (maxL := 1) (ret := (some .int)) (by decide) rfl ?_
  intro p e s m args below meth c s₁ B hml hv
  obtain ⟨rfl, hP, hK⟩ := hv
  have hx := B.exec
  have hb := B.bytes
  have hr := B.returns
  have hts := atoms_spec (ws := wsX5_walked) B.pre
  have hown : s.vm.findClass RX5 = some m.cls := findClass_of_methodNamed B.named
  have hlocks := B.notSynchronized
  have hl := lv_entry ([.ref g0]) (n := 1) (Nat.le_of_ble_eq_true rfl)
  rw [lg_entry_eq]
  generalize (lg_sl ([.ref g0]) ++ List.replicate (1 - (lg_sl ([.ref g0])).length) Slot.unset).toArray = ls at hl ⊢
  have hl : lv_has ls 1 [(0, .ref g0)] := hl
  refine lv_aload_n hx hb dX5_walked_0 rfl (lv_at hl 0 rfl) ?_
  refine lv_iconst (v := 0) hx hb dX5_walked_1 (by decide) ?_
  have hPc := hP.sub (ws' := [(g0, .inr (5, [.ref ra, .ref wa, .ref ta, .int 0, .ref ma, .int 0, .ref pa, .int 0, .int 0, .int 0, .ref ba, .ref ka, .int 0, .ref fa, .ref qa, .ref ea, .ref za, .ref ya, .int 0])), (wa, .inl (cI, 70, .inl (upd (upd (upd (upd (upd (fun _ => 0) 0 1) 1 400) 2 80) 4 2) 5 30)))]) [0, 1] rfl
  refine vp_callSi (va_Run.run (va_runV (As := [.int 0]) (rest := []) ⟨hx, hb, hml, hown, hts⟩ (c_X5_rest l D cI cL cZ cC g0 ra wa ta ma pa ba ka fa qa ea za ya ) (cwV 1 hts gX5_walked_X5_rest rfl rfl rfl (by decide +kernel) ⟨Nat.le_of_ble_eq_true rfl, Nat.le_of_ble_eq_true rfl⟩) ⟨xPc_bl, va_recv hK hPc (ci := 5) (q0 := 0) rfl rfl, xPc_use hPc hK⟩ rfl rfl hl.1 rfl (lv_room (Nat.le_of_ble_eq_true rfl)) dX5_walked_2 ⟨Nat.le_of_ble_eq_true rfl, Nat.le_of_ble_eq_true rfl⟩)) (fun r_1 er_1 => ?_)
  obtain rfl : (5 : Int32) = r_1 := Eq.symm er_1
  exact W.iret (v := 5) hx hb hr (fun t ht hW => ⟨_, rfl, rfl, ht⟩) (fun _ h => absurd h List.not_mem_nil) dX5_walked_5
