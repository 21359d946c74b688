set_option maxHeartbeats 4000000 in
set_option maxRecDepth 100000 in
theorem g_X5_othersE (l : Launch) (D : va_G) (cI cL cZ cC : ClassId) (sz : Nat) (g0 : Nat) (ra : Nat) (wa : Nat) (ta : Nat) (ma : Nat) (pa : Nat) (ba : Nat) (ka : Nat) (fa : Nat) (qa : Nat) (ea : Nat) (za : Nat) (ya : Nat) (kpt : Int32) (mkd : Int32) (tpd : Int32) (at0 : Int32) (wel : Int32) (srt : Int32) (wks : Int32) (rf : Nat → Int32) (a1 : Int32) (a2 : Int32) (a3 : Int32) (a4 : Int32)  : Met l yX5_others wsX5_others ({ frames := 1, cells := 1, slots := 9, locals := 21 } : Room) (wPc D [.ref g0, .int a1, .int a2, .int a3, .int a4] [(g0, .inr (5, [.ref ra, .ref wa, .ref ta, .int kpt, .ref ma, .int mkd, .ref pa, .int tpd, .int at0, .int wel, .ref ba, .ref ka, .int srt, .ref fa, .ref qa, .ref ea, .ref za, .ref ya, .int wks])), (ra, .inl (cI, 7, .inl rf))] (xTy cI cL cZ cC) sz) (va_Qi (fun (r : Int32) (_ : Unit) => r = if qOt a1 a2 a3 a4 = 0 then vOt a1 a2 a3 a4 else qOt a1 a2 a3 a4) (fun (_ : Unit) t => va_P D vwCl [(g0, .inr (5, [.ref ra, .ref wa, .ref ta, .int kpt, .ref ma, .int mkd, .ref pa, .int tpd, .int at0, .int wel, .ref ba, .ref ka, .int srt, .ref fa, .ref qa, .ref ea, .ref za, .ref ya, .int wks])), (ra, .inl (cI, 7, .inl (xRq rf (qOt a1 a2 a3 a4))))] t.heap ∧ va_D (va_A [(g0, .inr (5, [.ref ra, .ref wa, .ref ta, .int kpt, .ref ma, .int mkd, .ref pa, .int tpd, .int at0, .int wel, .ref ba, .ref ka, .int srt, .ref fa, .ref qa, .ref ea, .ref za, .ref ya, .int wks])), (ra, .inl (cI, 7, .inl rf))] sz) [(g0, .inr (5, [.ref ra, .ref wa, .ref ta, .int kpt, .ref ma, .int mkd, .ref pa, .int tpd, .int at0, .int wel, .ref ba, .ref ka, .int srt, .ref fa, .ref qa, .ref ea, .ref za, .ref ya, .int wks])), (ra, .inl (cI, 7, .inl (xRq rf (qOt a1 a2 a3 a4))))]) (va_A [(g0, .inr (5, [.ref ra, .ref wa, .ref ta, .int kpt, .ref ma, .int mkd, .ref pa, .int tpd, .int at0, .int wel, .ref ba, .ref ka, .int srt, .ref fa, .ref qa, .ref ea, .ref za, .ref ya, .int wks])), (ra, .inl (cI, 7, .inl rf))] sz)) 1 9 (va_A [(g0, .inr (5, [.ref ra, .ref wa, .ref ta, .int kpt, .ref ma, .int mkd, .ref pa, .int tpd, .int at0, .int wel, .ref ba, .ref ka, .int srt, .ref fa, .ref qa, .ref ea, .ref za, .ref ya, .int wks])), (ra, .inl (cI, 7, .inl rf))] sz) := by
  refine Met.ofW (cc := cX5_others) (maxL := 11) (ret := (some .int)) (by decide) rfl ?_
  intro p e s m args below meth c s₁ B hml hv
  obtain ⟨rfl, hsz, hP, hK, hD0⟩ := hv
  have hx := B.exec
  have hb := B.bytes
  have hr := B.returns
  have hts := atoms_spec (ws := wsX5_others) B.pre
  have hown : s.vm.findClass RX5 = some m.cls := findClass_of_methodNamed B.named
  have hlocks := B.notSynchronized
  subst hsz
  have hD := hD0.self (sz := s.heap.size)
  generalize hAe : va_A [(g0, .inr (5, [.ref ra, .ref wa, .ref ta, .int kpt, .ref ma, .int mkd, .ref pa, .int tpd, .int at0, .int wel, .ref ba, .ref ka, .int srt, .ref fa, .ref qa, .ref ea, .ref za, .ref ya, .int wks])), (ra, .inl (cI, 7, .inl rf))] s.heap.size = A at hD ⊢
  have hA : ∀ q : Nat, s.heap.size ≤ q → A q := fun q h => by rw [← hAe]; exact Or.inr h
  have hS : va_S A s.heap s.heap [] := va_S.rf
  have hP : va_P D vwCl [(g0, .inr (5, [.ref ra, .ref wa, .ref ta, .int kpt, .ref ma, .int mkd, .ref pa, .int tpd, .int at0, .int wel, .ref ba, .ref ka, .int srt, .ref fa, .ref qa, .ref ea, .ref za, .ref ya, .int wks])), (ra, .inl (cI, 7, .inl rf))] s.heap := hP
  have hl := lv_entry ([.ref g0, .int a1, .int a2, .int a3, .int a4]) (n := 11) (Nat.le_of_ble_eq_true rfl)
  rw [lg_entry_eq]
  generalize (lg_sl ([.ref g0, .int a1, .int a2, .int a3, .int a4]) ++ List.replicate (11 - (lg_sl ([.ref g0, .int a1, .int a2, .int a3, .int a4])).length) Slot.unset).toArray = ls at hl ⊢
  have hl : lv_has ls 11 [(0, .ref g0), (1, .int a1), (2, .int a2), (3, .int a3), (4, .int a4)] := hl
  refine lv_iload_n hx hb dX5_others_0 rfl (lv_at hl 1 rfl) ?_
  refine lv_iconst (v := 1) hx hb dX5_others_1 (by decide) ?_
  refine lv_icmp_lt (tgt := 18) hx hb dX5_others_2 (by decide) (fun c_1 => ?_) (fun c_1 => ?_)
  · refine lv_aload_n hx hb dX5_others_18 rfl (lv_at hl 0 rfl) ?_
    refine lv_bipush (v := -4) hx hb dX5_others_19 (by decide) ?_
    have hPc := hP.sub (ws' := [(g0, .inr (5, [.ref ra, .ref wa, .ref ta, .int kpt, .ref ma, .int mkd, .ref pa, .int tpd, .int at0, .int wel, .ref ba, .ref ka, .int srt, .ref fa, .ref qa, .ref ea, .ref za, .ref ya, .int wks])), (ra, .inl (cI, 7, .inl rf))]) [0, 1] rfl
    have hDc := hD.sub (ws' := [(g0, .inr (5, [.ref ra, .ref wa, .ref ta, .int kpt, .ref ma, .int mkd, .ref pa, .int tpd, .int at0, .int wel, .ref ba, .ref ka, .int srt, .ref fa, .ref qa, .ref ea, .ref za, .ref ya, .int wks])), (ra, .inl (cI, 7, .inl rf))]) [0, 1] (by decide) rfl
    have hFc := va_free (wc := [(g0, .inr (5, [.ref ra, .ref wa, .ref ta, .int kpt, .ref ma, .int mkd, .ref pa, .int tpd, .int at0, .int wel, .ref ba, .ref ka, .int srt, .ref fa, .ref qa, .ref ea, .ref za, .ref ya, .int wks])), (ra, .inl (cI, 7, .inl rf))]) hD hS hA [0, 1] rfl
    refine va_calli (va_runV (As := [.int (-4)]) (rest := []) ⟨hx, hb, hml, hown, hts⟩ (g_X5_no l D cI cL cZ cC _ g0 ra wa ta ma pa ba ka fa qa ea za ya kpt mkd tpd at0 wel srt wks rf (-4) (by first | assumption | decide +kernel) (by first | assumption | decide +kernel)) (cwV 1 hts gX5_others_X5_no rfl rfl rfl (by decide +kernel) ⟨Nat.le_of_ble_eq_true rfl, Nat.le_of_ble_eq_true rfl⟩) ⟨wPc_bl, va_recv hK hPc (ci := 5) (q0 := 0) rfl rfl, wPc_use hPc hK hDc⟩ rfl rfl hl.1 rfl (lv_room (Nat.le_of_ble_eq_true rfl)) dX5_others_21 ⟨Nat.le_of_ble_eq_true rfl, Nat.le_of_ble_eq_true rfl⟩) hS (fun q _ h => hFc q h) hFc (fun r_2 u_2 t H1 locs ht hvm hw hB hz1 hk1 hS => ?_)
    obtain ⟨hP1, hD1⟩ := hB
    rw [ht] at hP1
    obtain ⟨hP, hD⟩ := va_join (wr := []) (w1 := [(g0, .inr (5, [.ref ra, .ref wa, .ref ta, .int kpt, .ref ma, .int mkd, .ref pa, .int tpd, .int at0, .int wel, .ref ba, .ref ka, .int srt, .ref fa, .ref qa, .ref ea, .ref za, .ref ya, .int wks])), (ra, .inl (cI, 7, .inl (xRf rf (-4))))]) hP hD [0, 1] [] rfl rfl (by decide) (by decide) hk1 hFc hP1 hD1
    generalize H1 = H at hP hS ⊢
    have hP : va_P D vwCl [(g0, .inr (5, [.ref ra, .ref wa, .ref ta, .int kpt, .ref ma, .int mkd, .ref pa, .int tpd, .int at0, .int wel, .ref ba, .ref ka, .int srt, .ref fa, .ref qa, .ref ea, .ref za, .ref ya, .int wks])), (ra, .inl (cI, 7, .inl (xRf rf (-4))))] H := hP
    have hD : va_D A [(g0, .inr (5, [.ref ra, .ref wa, .ref ta, .int kpt, .ref ma, .int mkd, .ref pa, .int tpd, .int at0, .int wel, .ref ba, .ref ka, .int srt, .ref fa, .ref qa, .ref ea, .ref za, .ref ya, .int wks])), (ra, .inl (cI, 7, .inl (xRf rf (-4))))] := hD
    obtain rfl : ((-4) : Int32) = r_2 := Eq.symm hw
    have hP9 := hP.sub (ws' := [(g0, .inr (5, [.ref ra, .ref wa, .ref ta, .int kpt, .ref ma, .int mkd, .ref pa, .int tpd, .int at0, .int wel, .ref ba, .ref ka, .int srt, .ref fa, .ref qa, .ref ea, .ref za, .ref ya, .int wks])), (ra, .inl (cI, 7, .inl (xRf rf (-4))))]) [0, 1] rfl
    have hD9 := hD.sub (ws' := [(g0, .inr (5, [.ref ra, .ref wa, .ref ta, .int kpt, .ref ma, .int mkd, .ref pa, .int tpd, .int at0, .int wel, .ref ba, .ref ka, .int srt, .ref fa, .ref qa, .ref ea, .ref za, .ref ya, .int wks])), (ra, .inl (cI, 7, .inl (xRf rf (-4))))]) [0, 1] (by decide) rfl
    have hE9 : ([(g0, .inr (5, [.ref ra, .ref wa, .ref ta, .int kpt, .ref ma, .int mkd, .ref pa, .int tpd, .int at0, .int wel, .ref ba, .ref ka, .int srt, .ref fa, .ref qa, .ref ea, .ref za, .ref ya, .int wks])), (ra, .inl (cI, 7, .inl (xRf rf (-4))))] : va_W) = [(g0, .inr (5, [.ref ra, .ref wa, .ref ta, .int kpt, .ref ma, .int mkd, .ref pa, .int tpd, .int at0, .int wel, .ref ba, .ref ka, .int srt, .ref fa, .ref qa, .ref ea, .ref za, .ref ya, .int wks])), (ra, .inl (cI, 7, .inl (xRq rf (qOt a1 a2 a3 a4))))] := by simp [xRq, qOt, c_1]
    refine W.widen (k := 1) (n := 9) (Nat.le_of_ble_eq_true rfl) (Nat.le_of_ble_eq_true rfl) ?_
    exact W.iret (v := -4) hx hb hr (fun t ht hW => ⟨⟨_, (), rfl, by simp [qOt, c_1], by rw [ht]; exact hE9 ▸ hP9, hE9 ▸ hD9⟩, hS.F ht⟩) hS.2.2 dX5_others_24
  · refine lv_iload_n hx hb dX5_others_5 rfl (lv_at hl 2 rfl) ?_
    refine lv_if_lt (tgt := 18) hx hb dX5_others_6 (by decide) (fun c_3 => ?_) (fun c_3 => ?_)
    · refine lv_aload_n hx hb dX5_others_18 rfl (lv_at hl 0 rfl) ?_
      refine lv_bipush (v := -4) hx hb dX5_others_19 (by decide) ?_
      have hPc := hP.sub (ws' := [(g0, .inr (5, [.ref ra, .ref wa, .ref ta, .int kpt, .ref ma, .int mkd, .ref pa, .int tpd, .int at0, .int wel, .ref ba, .ref ka, .int srt, .ref fa, .ref qa, .ref ea, .ref za, .ref ya, .int wks])), (ra, .inl (cI, 7, .inl rf))]) [0, 1] rfl
      have hDc := hD.sub (ws' := [(g0, .inr (5, [.ref ra, .ref wa, .ref ta, .int kpt, .ref ma, .int mkd, .ref pa, .int tpd, .int at0, .int wel, .ref ba, .ref ka, .int srt, .ref fa, .ref qa, .ref ea, .ref za, .ref ya, .int wks])), (ra, .inl (cI, 7, .inl rf))]) [0, 1] (by decide) rfl
      have hFc := va_free (wc := [(g0, .inr (5, [.ref ra, .ref wa, .ref ta, .int kpt, .ref ma, .int mkd, .ref pa, .int tpd, .int at0, .int wel, .ref ba, .ref ka, .int srt, .ref fa, .ref qa, .ref ea, .ref za, .ref ya, .int wks])), (ra, .inl (cI, 7, .inl rf))]) hD hS hA [0, 1] rfl
      refine va_calli (va_runV (As := [.int (-4)]) (rest := []) ⟨hx, hb, hml, hown, hts⟩ (g_X5_no l D cI cL cZ cC _ g0 ra wa ta ma pa ba ka fa qa ea za ya kpt mkd tpd at0 wel srt wks rf (-4) (by first | assumption | decide +kernel) (by first | assumption | decide +kernel)) (cwV 1 hts gX5_others_X5_no rfl rfl rfl (by decide +kernel) ⟨Nat.le_of_ble_eq_true rfl, Nat.le_of_ble_eq_true rfl⟩) ⟨wPc_bl, va_recv hK hPc (ci := 5) (q0 := 0) rfl rfl, wPc_use hPc hK hDc⟩ rfl rfl hl.1 rfl (lv_room (Nat.le_of_ble_eq_true rfl)) dX5_others_21 ⟨Nat.le_of_ble_eq_true rfl, Nat.le_of_ble_eq_true rfl⟩) hS (fun q _ h => hFc q h) hFc (fun r_4 u_4 t H1 locs ht hvm hw hB hz1 hk1 hS => ?_)
      obtain ⟨hP1, hD1⟩ := hB
      rw [ht] at hP1
      obtain ⟨hP, hD⟩ := va_join (wr := []) (w1 := [(g0, .inr (5, [.ref ra, .ref wa, .ref ta, .int kpt, .ref ma, .int mkd, .ref pa, .int tpd, .int at0, .int wel, .ref ba, .ref ka, .int srt, .ref fa, .ref qa, .ref ea, .ref za, .ref ya, .int wks])), (ra, .inl (cI, 7, .inl (xRf rf (-4))))]) hP hD [0, 1] [] rfl rfl (by decide) (by decide) hk1 hFc hP1 hD1
      generalize H1 = H at hP hS ⊢
      have hP : va_P D vwCl [(g0, .inr (5, [.ref ra, .ref wa, .ref ta, .int kpt, .ref ma, .int mkd, .ref pa, .int tpd, .int at0, .int wel, .ref ba, .ref ka, .int srt, .ref fa, .ref qa, .ref ea, .ref za, .ref ya, .int wks])), (ra, .inl (cI, 7, .inl (xRf rf (-4))))] H := hP
      have hD : va_D A [(g0, .inr (5, [.ref ra, .ref wa, .ref ta, .int kpt, .ref ma, .int mkd, .ref pa, .int tpd, .int at0, .int wel, .ref ba, .ref ka, .int srt, .ref fa, .ref qa, .ref ea, .ref za, .ref ya, .int wks])), (ra, .inl (cI, 7, .inl (xRf rf (-4))))] := hD
      obtain rfl : ((-4) : Int32) = r_4 := Eq.symm hw
      have hP9 := hP.sub (ws' := [(g0, .inr (5, [.ref ra, .ref wa, .ref ta, .int kpt, .ref ma, .int mkd, .ref pa, .int tpd, .int at0, .int wel, .ref ba, .ref ka, .int srt, .ref fa, .ref qa, .ref ea, .ref za, .ref ya, .int wks])), (ra, .inl (cI, 7, .inl (xRf rf (-4))))]) [0, 1] rfl
      have hD9 := hD.sub (ws' := [(g0, .inr (5, [.ref ra, .ref wa, .ref ta, .int kpt, .ref ma, .int mkd, .ref pa, .int tpd, .int at0, .int wel, .ref ba, .ref ka, .int srt, .ref fa, .ref qa, .ref ea, .ref za, .ref ya, .int wks])), (ra, .inl (cI, 7, .inl (xRf rf (-4))))]) [0, 1] (by decide) rfl
      have hE9 : ([(g0, .inr (5, [.ref ra, .ref wa, .ref ta, .int kpt, .ref ma, .int mkd, .ref pa, .int tpd, .int at0, .int wel, .ref ba, .ref ka, .int srt, .ref fa, .ref qa, .ref ea, .ref za, .ref ya, .int wks])), (ra, .inl (cI, 7, .inl (xRf rf (-4))))] : va_W) = [(g0, .inr (5, [.ref ra, .ref wa, .ref ta, .int kpt, .ref ma, .int mkd, .ref pa, .int tpd, .int at0, .int wel, .ref ba, .ref ka, .int srt, .ref fa, .ref qa, .ref ea, .ref za, .ref ya, .int wks])), (ra, .inl (cI, 7, .inl (xRq rf (qOt a1 a2 a3 a4))))] := by simp [xRq, qOt, c_1, c_3]
      refine W.widen (k := 1) (n := 9) (Nat.le_of_ble_eq_true rfl) (Nat.le_of_ble_eq_true rfl) ?_
      exact W.iret (v := -4) hx hb hr (fun t ht hW => ⟨⟨_, (), rfl, by simp [qOt, c_1, c_3], by rw [ht]; exact hE9 ▸ hP9, hE9 ▸ hD9⟩, hS.F ht⟩) hS.2.2 dX5_others_24
    · refine lv_iload_n hx hb dX5_others_9 rfl (lv_at hl 3 rfl) ?_
      refine lv_if_lt (tgt := 18) hx hb dX5_others_10 (by decide) (fun c_5 => ?_) (fun c_5 => ?_)
      · refine lv_aload_n hx hb dX5_others_18 rfl (lv_at hl 0 rfl) ?_
        refine lv_bipush (v := -4) hx hb dX5_others_19 (by decide) ?_
        have hPc := hP.sub (ws' := [(g0, .inr (5, [.ref ra, .ref wa, .ref ta, .int kpt, .ref ma, .int mkd, .ref pa, .int tpd, .int at0, .int wel, .ref ba, .ref ka, .int srt, .ref fa, .ref qa, .ref ea, .ref za, .ref ya, .int wks])), (ra, .inl (cI, 7, .inl rf))]) [0, 1] rfl
        have hDc := hD.sub (ws' := [(g0, .inr (5, [.ref ra, .ref wa, .ref ta, .int kpt, .ref ma, .int mkd, .ref pa, .int tpd, .int at0, .int wel, .ref ba, .ref ka, .int srt, .ref fa, .ref qa, .ref ea, .ref za, .ref ya, .int wks])), (ra, .inl (cI, 7, .inl rf))]) [0, 1] (by decide) rfl
        have hFc := va_free (wc := [(g0, .inr (5, [.ref ra, .ref wa, .ref ta, .int kpt, .ref ma, .int mkd, .ref pa, .int tpd, .int at0, .int wel, .ref ba, .ref ka, .int srt, .ref fa, .ref qa, .ref ea, .ref za, .ref ya, .int wks])), (ra, .inl (cI, 7, .inl rf))]) hD hS hA [0, 1] rfl
        refine va_calli (va_runV (As := [.int (-4)]) (rest := []) ⟨hx, hb, hml, hown, hts⟩ (g_X5_no l D cI cL cZ cC _ g0 ra wa ta ma pa ba ka fa qa ea za ya kpt mkd tpd at0 wel srt wks rf (-4) (by first | assumption | decide +kernel) (by first | assumption | decide +kernel)) (cwV 1 hts gX5_others_X5_no rfl rfl rfl (by decide +kernel) ⟨Nat.le_of_ble_eq_true rfl, Nat.le_of_ble_eq_true rfl⟩) ⟨wPc_bl, va_recv hK hPc (ci := 5) (q0 := 0) rfl rfl, wPc_use hPc hK hDc⟩ rfl rfl hl.1 rfl (lv_room (Nat.le_of_ble_eq_true rfl)) dX5_others_21 ⟨Nat.le_of_ble_eq_true rfl, Nat.le_of_ble_eq_true rfl⟩) hS (fun q _ h => hFc q h) hFc (fun r_6 u_6 t H1 locs ht hvm hw hB hz1 hk1 hS => ?_)
        obtain ⟨hP1, hD1⟩ := hB
        rw [ht] at hP1
        obtain ⟨hP, hD⟩ := va_join (wr := []) (w1 := [(g0, .inr (5, [.ref ra, .ref wa, .ref ta, .int kpt, .ref ma, .int mkd, .ref pa, .int tpd, .int at0, .int wel, .ref ba, .ref ka, .int srt, .ref fa, .ref qa, .ref ea, .ref za, .ref ya, .int wks])), (ra, .inl (cI, 7, .inl (xRf rf (-4))))]) hP hD [0, 1] [] rfl rfl (by decide) (by decide) hk1 hFc hP1 hD1
        generalize H1 = H at hP hS ⊢
        have hP : va_P D vwCl [(g0, .inr (5, [.ref ra, .ref wa, .ref ta, .int kpt, .ref ma, .int mkd, .ref pa, .int tpd, .int at0, .int wel, .ref ba, .ref ka, .int srt, .ref fa, .ref qa, .ref ea, .ref za, .ref ya, .int wks])), (ra, .inl (cI, 7, .inl (xRf rf (-4))))] H := hP
        have hD : va_D A [(g0, .inr (5, [.ref ra, .ref wa, .ref ta, .int kpt, .ref ma, .int mkd, .ref pa, .int tpd, .int at0, .int wel, .ref ba, .ref ka, .int srt, .ref fa, .ref qa, .ref ea, .ref za, .ref ya, .int wks])), (ra, .inl (cI, 7, .inl (xRf rf (-4))))] := hD
        obtain rfl : ((-4) : Int32) = r_6 := Eq.symm hw
        have hP9 := hP.sub (ws' := [(g0, .inr (5, [.ref ra, .ref wa, .ref ta, .int kpt, .ref ma, .int mkd, .ref pa, .int tpd, .int at0, .int wel, .ref ba, .ref ka, .int srt, .ref fa, .ref qa, .ref ea, .ref za, .ref ya, .int wks])), (ra, .inl (cI, 7, .inl (xRf rf (-4))))]) [0, 1] rfl
        have hD9 := hD.sub (ws' := [(g0, .inr (5, [.ref ra, .ref wa, .ref ta, .int kpt, .ref ma, .int mkd, .ref pa, .int tpd, .int at0, .int wel, .ref ba, .ref ka, .int srt, .ref fa, .ref qa, .ref ea, .ref za, .ref ya, .int wks])), (ra, .inl (cI, 7, .inl (xRf rf (-4))))]) [0, 1] (by decide) rfl
        have hE9 : ([(g0, .inr (5, [.ref ra, .ref wa, .ref ta, .int kpt, .ref ma, .int mkd, .ref pa, .int tpd, .int at0, .int wel, .ref ba, .ref ka, .int srt, .ref fa, .ref qa, .ref ea, .ref za, .ref ya, .int wks])), (ra, .inl (cI, 7, .inl (xRf rf (-4))))] : va_W) = [(g0, .inr (5, [.ref ra, .ref wa, .ref ta, .int kpt, .ref ma, .int mkd, .ref pa, .int tpd, .int at0, .int wel, .ref ba, .ref ka, .int srt, .ref fa, .ref qa, .ref ea, .ref za, .ref ya, .int wks])), (ra, .inl (cI, 7, .inl (xRq rf (qOt a1 a2 a3 a4))))] := by simp [xRq, qOt, c_1, c_3, c_5]
        refine W.widen (k := 1) (n := 9) (Nat.le_of_ble_eq_true rfl) (Nat.le_of_ble_eq_true rfl) ?_
        exact W.iret (v := -4) hx hb hr (fun t ht hW => ⟨⟨_, (), rfl, by simp [qOt, c_1, c_3, c_5], by rw [ht]; exact hE9 ▸ hP9, hE9 ▸ hD9⟩, hS.F ht⟩) hS.2.2 dX5_others_24
      · refine lv_iload hx hb dX5_others_13 (lv_at hl 4 rfl) ?_
        refine lv_if_ge (tgt := 25) hx hb dX5_others_15 (by decide) (fun c_7 => ?_) (fun c_7 => ?_)
        · refine lv_iload_n hx hb dX5_others_25 rfl (lv_at hl 1 rfl) ?_
          refine lv_bipush (v := 9) hx hb dX5_others_26 (by decide) ?_
          refine lv_icmp_gt (tgt := 50) hx hb dX5_others_28 (by decide) (fun c_8 => ?_) (fun c_8 => ?_)
          · refine lv_aload_n hx hb dX5_others_50 rfl (lv_at hl 0 rfl) ?_
            refine lv_bipush (v := -6) hx hb dX5_others_51 (by decide) ?_
            have hPc := hP.sub (ws' := [(g0, .inr (5, [.ref ra, .ref wa, .ref ta, .int kpt, .ref ma, .int mkd, .ref pa, .int tpd, .int at0, .int wel, .ref ba, .ref ka, .int srt, .ref fa, .ref qa, .ref ea, .ref za, .ref ya, .int wks])), (ra, .inl (cI, 7, .inl rf))]) [0, 1] rfl
            have hDc := hD.sub (ws' := [(g0, .inr (5, [.ref ra, .ref wa, .ref ta, .int kpt, .ref ma, .int mkd, .ref pa, .int tpd, .int at0, .int wel, .ref ba, .ref ka, .int srt, .ref fa, .ref qa, .ref ea, .ref za, .ref ya, .int wks])), (ra, .inl (cI, 7, .inl rf))]) [0, 1] (by decide) rfl
            have hFc := va_free (wc := [(g0, .inr (5, [.ref ra, .ref wa, .ref ta, .int kpt, .ref ma, .int mkd, .ref pa, .int tpd, .int at0, .int wel, .ref ba, .ref ka, .int srt, .ref fa, .ref qa, .ref ea, .ref za, .ref ya, .int wks])), (ra, .inl (cI, 7, .inl rf))]) hD hS hA [0, 1] rfl
            refine va_calli (va_runV (As := [.int (-6)]) (rest := []) ⟨hx, hb, hml, hown, hts⟩ (g_X5_no l D cI cL cZ cC _ g0 ra wa ta ma pa ba ka fa qa ea za ya kpt mkd tpd at0 wel srt wks rf (-6) (by first | assumption | decide +kernel) (by first | assumption | decide +kernel)) (cwV 1 hts gX5_others_X5_no rfl rfl rfl (by decide +kernel) ⟨Nat.le_of_ble_eq_true rfl, Nat.le_of_ble_eq_true rfl⟩) ⟨wPc_bl, va_recv hK hPc (ci := 5) (q0 := 0) rfl rfl, wPc_use hPc hK hDc⟩ rfl rfl hl.1 rfl (lv_room (Nat.le_of_ble_eq_true rfl)) dX5_others_53 ⟨Nat.le_of_ble_eq_true rfl, Nat.le_of_ble_eq_true rfl⟩) hS (fun q _ h => hFc q h) hFc (fun r_9 u_9 t H1 locs ht hvm hw hB hz1 hk1 hS => ?_)
            obtain ⟨hP1, hD1⟩ := hB
            rw [ht] at hP1
            obtain ⟨hP, hD⟩ := va_join (wr := []) (w1 := [(g0, .inr (5, [.ref ra, .ref wa, .ref ta, .int kpt, .ref ma, .int mkd, .ref pa, .int tpd, .int at0, .int wel, .ref ba, .ref ka, .int srt, .ref fa, .ref qa, .ref ea, .ref za, .ref ya, .int wks])), (ra, .inl (cI, 7, .inl (xRf rf (-6))))]) hP hD [0, 1] [] rfl rfl (by decide) (by decide) hk1 hFc hP1 hD1
            generalize H1 = H at hP hS ⊢
            have hP : va_P D vwCl [(g0, .inr (5, [.ref ra, .ref wa, .ref ta, .int kpt, .ref ma, .int mkd, .ref pa, .int tpd, .int at0, .int wel, .ref ba, .ref ka, .int srt, .ref fa, .ref qa, .ref ea, .ref za, .ref ya, .int wks])), (ra, .inl (cI, 7, .inl (xRf rf (-6))))] H := hP
            have hD : va_D A [(g0, .inr (5, [.ref ra, .ref wa, .ref ta, .int kpt, .ref ma, .int mkd, .ref pa, .int tpd, .int at0, .int wel, .ref ba, .ref ka, .int srt, .ref fa, .ref qa, .ref ea, .ref za, .ref ya, .int wks])), (ra, .inl (cI, 7, .inl (xRf rf (-6))))] := hD
            obtain rfl : ((-6) : Int32) = r_9 := Eq.symm hw
            have hP9 := hP.sub (ws' := [(g0, .inr (5, [.ref ra, .ref wa, .ref ta, .int kpt, .ref ma, .int mkd, .ref pa, .int tpd, .int at0, .int wel, .ref ba, .ref ka, .int srt, .ref fa, .ref qa, .ref ea, .ref za, .ref ya, .int wks])), (ra, .inl (cI, 7, .inl (xRf rf (-6))))]) [0, 1] rfl
            have hD9 := hD.sub (ws' := [(g0, .inr (5, [.ref ra, .ref wa, .ref ta, .int kpt, .ref ma, .int mkd, .ref pa, .int tpd, .int at0, .int wel, .ref ba, .ref ka, .int srt, .ref fa, .ref qa, .ref ea, .ref za, .ref ya, .int wks])), (ra, .inl (cI, 7, .inl (xRf rf (-6))))]) [0, 1] (by decide) rfl
            have hE9 : ([(g0, .inr (5, [.ref ra, .ref wa, .ref ta, .int kpt, .ref ma, .int mkd, .ref pa, .int tpd, .int at0, .int wel, .ref ba, .ref ka, .int srt, .ref fa, .ref qa, .ref ea, .ref za, .ref ya, .int wks])), (ra, .inl (cI, 7, .inl (xRf rf (-6))))] : va_W) = [(g0, .inr (5, [.ref ra, .ref wa, .ref ta, .int kpt, .ref ma, .int mkd, .ref pa, .int tpd, .int at0, .int wel, .ref ba, .ref ka, .int srt, .ref fa, .ref qa, .ref ea, .ref za, .ref ya, .int wks])), (ra, .inl (cI, 7, .inl (xRq rf (qOt a1 a2 a3 a4))))] := by simp [xRq, qOt, c_1, c_3, c_5, (Int32.not_lt.mpr c_7), c_8]
            refine W.widen (k := 1) (n := 9) (Nat.le_of_ble_eq_true rfl) (Nat.le_of_ble_eq_true rfl) ?_
            exact W.iret (v := -6) hx hb hr (fun t ht hW => ⟨⟨_, (), rfl, by simp [qOt, c_1, c_3, c_5, (Int32.not_lt.mpr c_7), c_8], by rw [ht]; exact hE9 ▸ hP9, hE9 ▸ hD9⟩, hS.F ht⟩) hS.2.2 dX5_others_56
          · refine lv_iload_n hx hb dX5_others_31 rfl (lv_at hl 2 rfl) ?_
            refine lv_bipush (v := 30) hx hb dX5_others_32 (by decide) ?_
            refine lv_icmp_gt (tgt := 50) hx hb dX5_others_34 (by decide) (fun c_10 => ?_) (fun c_10 => ?_)
            · refine lv_aload_n hx hb dX5_others_50 rfl (lv_at hl 0 rfl) ?_
              refine lv_bipush (v := -6) hx hb dX5_others_51 (by decide) ?_
              have hPc := hP.sub (ws' := [(g0, .inr (5, [.ref ra, .ref wa, .ref ta, .int kpt, .ref ma, .int mkd, .ref pa, .int tpd, .int at0, .int wel, .ref ba, .ref ka, .int srt, .ref fa, .ref qa, .ref ea, .ref za, .ref ya, .int wks])), (ra, .inl (cI, 7, .inl rf))]) [0, 1] rfl
              have hDc := hD.sub (ws' := [(g0, .inr (5, [.ref ra, .ref wa, .ref ta, .int kpt, .ref ma, .int mkd, .ref pa, .int tpd, .int at0, .int wel, .ref ba, .ref ka, .int srt, .ref fa, .ref qa, .ref ea, .ref za, .ref ya, .int wks])), (ra, .inl (cI, 7, .inl rf))]) [0, 1] (by decide) rfl
              have hFc := va_free (wc := [(g0, .inr (5, [.ref ra, .ref wa, .ref ta, .int kpt, .ref ma, .int mkd, .ref pa, .int tpd, .int at0, .int wel, .ref ba, .ref ka, .int srt, .ref fa, .ref qa, .ref ea, .ref za, .ref ya, .int wks])), (ra, .inl (cI, 7, .inl rf))]) hD hS hA [0, 1] rfl
              refine va_calli (va_runV (As := [.int (-6)]) (rest := []) ⟨hx, hb, hml, hown, hts⟩ (g_X5_no l D cI cL cZ cC _ g0 ra wa ta ma pa ba ka fa qa ea za ya kpt mkd tpd at0 wel srt wks rf (-6) (by first | assumption | decide +kernel) (by first | assumption | decide +kernel)) (cwV 1 hts gX5_others_X5_no rfl rfl rfl (by decide +kernel) ⟨Nat.le_of_ble_eq_true rfl, Nat.le_of_ble_eq_true rfl⟩) ⟨wPc_bl, va_recv hK hPc (ci := 5) (q0 := 0) rfl rfl, wPc_use hPc hK hDc⟩ rfl rfl hl.1 rfl (lv_room (Nat.le_of_ble_eq_true rfl)) dX5_others_53 ⟨Nat.le_of_ble_eq_true rfl, Nat.le_of_ble_eq_true rfl⟩) hS (fun q _ h => hFc q h) hFc (fun r_11 u_11 t H1 locs ht hvm hw hB hz1 hk1 hS => ?_)
              obtain ⟨hP1, hD1⟩ := hB
              rw [ht] at hP1
              obtain ⟨hP, hD⟩ := va_join (wr := []) (w1 := [(g0, .inr (5, [.ref ra, .ref wa, .ref ta, .int kpt, .ref ma, .int mkd, .ref pa, .int tpd, .int at0, .int wel, .ref ba, .ref ka, .int srt, .ref fa, .ref qa, .ref ea, .ref za, .ref ya, .int wks])), (ra, .inl (cI, 7, .inl (xRf rf (-6))))]) hP hD [0, 1] [] rfl rfl (by decide) (by decide) hk1 hFc hP1 hD1
              generalize H1 = H at hP hS ⊢
              have hP : va_P D vwCl [(g0, .inr (5, [.ref ra, .ref wa, .ref ta, .int kpt, .ref ma, .int mkd, .ref pa, .int tpd, .int at0, .int wel, .ref ba, .ref ka, .int srt, .ref fa, .ref qa, .ref ea, .ref za, .ref ya, .int wks])), (ra, .inl (cI, 7, .inl (xRf rf (-6))))] H := hP
              have hD : va_D A [(g0, .inr (5, [.ref ra, .ref wa, .ref ta, .int kpt, .ref ma, .int mkd, .ref pa, .int tpd, .int at0, .int wel, .ref ba, .ref ka, .int srt, .ref fa, .ref qa, .ref ea, .ref za, .ref ya, .int wks])), (ra, .inl (cI, 7, .inl (xRf rf (-6))))] := hD
              obtain rfl : ((-6) : Int32) = r_11 := Eq.symm hw
              have hP9 := hP.sub (ws' := [(g0, .inr (5, [.ref ra, .ref wa, .ref ta, .int kpt, .ref ma, .int mkd, .ref pa, .int tpd, .int at0, .int wel, .ref ba, .ref ka, .int srt, .ref fa, .ref qa, .ref ea, .ref za, .ref ya, .int wks])), (ra, .inl (cI, 7, .inl (xRf rf (-6))))]) [0, 1] rfl
              have hD9 := hD.sub (ws' := [(g0, .inr (5, [.ref ra, .ref wa, .ref ta, .int kpt, .ref ma, .int mkd, .ref pa, .int tpd, .int at0, .int wel, .ref ba, .ref ka, .int srt, .ref fa, .ref qa, .ref ea, .ref za, .ref ya, .int wks])), (ra, .inl (cI, 7, .inl (xRf rf (-6))))]) [0, 1] (by decide) rfl
              have hE9 : ([(g0, .inr (5, [.ref ra, .ref wa, .ref ta, .int kpt, .ref ma, .int mkd, .ref pa, .int tpd, .int at0, .int wel, .ref ba, .ref ka, .int srt, .ref fa, .ref qa, .ref ea, .ref za, .ref ya, .int wks])), (ra, .inl (cI, 7, .inl (xRf rf (-6))))] : va_W) = [(g0, .inr (5, [.ref ra, .ref wa, .ref ta, .int kpt, .ref ma, .int mkd, .ref pa, .int tpd, .int at0, .int wel, .ref ba, .ref ka, .int srt, .ref fa, .ref qa, .ref ea, .ref za, .ref ya, .int wks])), (ra, .inl (cI, 7, .inl (xRq rf (qOt a1 a2 a3 a4))))] := by simp [xRq, qOt, c_1, c_3, c_5, (Int32.not_lt.mpr c_7), c_8, c_10]
              refine W.widen (k := 1) (n := 9) (Nat.le_of_ble_eq_true rfl) (Nat.le_of_ble_eq_true rfl) ?_
              exact W.iret (v := -6) hx hb hr (fun t ht hW => ⟨⟨_, (), rfl, by simp [qOt, c_1, c_3, c_5, (Int32.not_lt.mpr c_7), c_8, c_10], by rw [ht]; exact hE9 ▸ hP9, hE9 ▸ hD9⟩, hS.F ht⟩) hS.2.2 dX5_others_56
            · refine lv_iload_n hx hb dX5_others_37 rfl (lv_at hl 3 rfl) ?_
              refine lv_bipush (v := 30) hx hb dX5_others_38 (by decide) ?_
              refine lv_icmp_gt (tgt := 50) hx hb dX5_others_40 (by decide) (fun c_12 => ?_) (fun c_12 => ?_)
              · refine lv_aload_n hx hb dX5_others_50 rfl (lv_at hl 0 rfl) ?_
                refine lv_bipush (v := -6) hx hb dX5_others_51 (by decide) ?_
                have hPc := hP.sub (ws' := [(g0, .inr (5, [.ref ra, .ref wa, .ref ta, .int kpt, .ref ma, .int mkd, .ref pa, .int tpd, .int at0, .int wel, .ref ba, .ref ka, .int srt, .ref fa, .ref qa, .ref ea, .ref za, .ref ya, .int wks])), (ra, .inl (cI, 7, .inl rf))]) [0, 1] rfl
                have hDc := hD.sub (ws' := [(g0, .inr (5, [.ref ra, .ref wa, .ref ta, .int kpt, .ref ma, .int mkd, .ref pa, .int tpd, .int at0, .int wel, .ref ba, .ref ka, .int srt, .ref fa, .ref qa, .ref ea, .ref za, .ref ya, .int wks])), (ra, .inl (cI, 7, .inl rf))]) [0, 1] (by decide) rfl
                have hFc := va_free (wc := [(g0, .inr (5, [.ref ra, .ref wa, .ref ta, .int kpt, .ref ma, .int mkd, .ref pa, .int tpd, .int at0, .int wel, .ref ba, .ref ka, .int srt, .ref fa, .ref qa, .ref ea, .ref za, .ref ya, .int wks])), (ra, .inl (cI, 7, .inl rf))]) hD hS hA [0, 1] rfl
                refine va_calli (va_runV (As := [.int (-6)]) (rest := []) ⟨hx, hb, hml, hown, hts⟩ (g_X5_no l D cI cL cZ cC _ g0 ra wa ta ma pa ba ka fa qa ea za ya kpt mkd tpd at0 wel srt wks rf (-6) (by first | assumption | decide +kernel) (by first | assumption | decide +kernel)) (cwV 1 hts gX5_others_X5_no rfl rfl rfl (by decide +kernel) ⟨Nat.le_of_ble_eq_true rfl, Nat.le_of_ble_eq_true rfl⟩) ⟨wPc_bl, va_recv hK hPc (ci := 5) (q0 := 0) rfl rfl, wPc_use hPc hK hDc⟩ rfl rfl hl.1 rfl (lv_room (Nat.le_of_ble_eq_true rfl)) dX5_others_53 ⟨Nat.le_of_ble_eq_true rfl, Nat.le_of_ble_eq_true rfl⟩) hS (fun q _ h => hFc q h) hFc (fun r_13 u_13 t H1 locs ht hvm hw hB hz1 hk1 hS => ?_)
                obtain ⟨hP1, hD1⟩ := hB
                rw [ht] at hP1
                obtain ⟨hP, hD⟩ := va_join (wr := []) (w1 := [(g0, .inr (5, [.ref ra, .ref wa, .ref ta, .int kpt, .ref ma, .int mkd, .ref pa, .int tpd, .int at0, .int wel, .ref ba, .ref ka, .int srt, .ref fa, .ref qa, .ref ea, .ref za, .ref ya, .int wks])), (ra, .inl (cI, 7, .inl (xRf rf (-6))))]) hP hD [0, 1] [] rfl rfl (by decide) (by decide) hk1 hFc hP1 hD1
                generalize H1 = H at hP hS ⊢
                have hP : va_P D vwCl [(g0, .inr (5, [.ref ra, .ref wa, .ref ta, .int kpt, .ref ma, .int mkd, .ref pa, .int tpd, .int at0, .int wel, .ref ba, .ref ka, .int srt, .ref fa, .ref qa, .ref ea, .ref za, .ref ya, .int wks])), (ra, .inl (cI, 7, .inl (xRf rf (-6))))] H := hP
                have hD : va_D A [(g0, .inr (5, [.ref ra, .ref wa, .ref ta, .int kpt, .ref ma, .int mkd, .ref pa, .int tpd, .int at0, .int wel, .ref ba, .ref ka, .int srt, .ref fa, .ref qa, .ref ea, .ref za, .ref ya, .int wks])), (ra, .inl (cI, 7, .inl (xRf rf (-6))))] := hD
                obtain rfl : ((-6) : Int32) = r_13 := Eq.symm hw
                have hP9 := hP.sub (ws' := [(g0, .inr (5, [.ref ra, .ref wa, .ref ta, .int kpt, .ref ma, .int mkd, .ref pa, .int tpd, .int at0, .int wel, .ref ba, .ref ka, .int srt, .ref fa, .ref qa, .ref ea, .ref za, .ref ya, .int wks])), (ra, .inl (cI, 7, .inl (xRf rf (-6))))]) [0, 1] rfl
                have hD9 := hD.sub (ws' := [(g0, .inr (5, [.ref ra, .ref wa, .ref ta, .int kpt, .ref ma, .int mkd, .ref pa, .int tpd, .int at0, .int wel, .ref ba, .ref ka, .int srt, .ref fa, .ref qa, .ref ea, .ref za, .ref ya, .int wks])), (ra, .inl (cI, 7, .inl (xRf rf (-6))))]) [0, 1] (by decide) rfl
                have hE9 : ([(g0, .inr (5, [.ref ra, .ref wa, .ref ta, .int kpt, .ref ma, .int mkd, .ref pa, .int tpd, .int at0, .int wel, .ref ba, .ref ka, .int srt, .ref fa, .ref qa, .ref ea, .ref za, .ref ya, .int wks])), (ra, .inl (cI, 7, .inl (xRf rf (-6))))] : va_W) = [(g0, .inr (5, [.ref ra, .ref wa, .ref ta, .int kpt, .ref ma, .int mkd, .ref pa, .int tpd, .int at0, .int wel, .ref ba, .ref ka, .int srt, .ref fa, .ref qa, .ref ea, .ref za, .ref ya, .int wks])), (ra, .inl (cI, 7, .inl (xRq rf (qOt a1 a2 a3 a4))))] := by simp [xRq, qOt, c_1, c_3, c_5, (Int32.not_lt.mpr c_7), c_8, c_10, c_12]
                refine W.widen (k := 1) (n := 9) (Nat.le_of_ble_eq_true rfl) (Nat.le_of_ble_eq_true rfl) ?_
                exact W.iret (v := -6) hx hb hr (fun t ht hW => ⟨⟨_, (), rfl, by simp [qOt, c_1, c_3, c_5, (Int32.not_lt.mpr c_7), c_8, c_10, c_12], by rw [ht]; exact hE9 ▸ hP9, hE9 ▸ hD9⟩, hS.F ht⟩) hS.2.2 dX5_others_56
              · refine lv_iload hx hb dX5_others_43 (lv_at hl 4 rfl) ?_
                refine lv_bipush (v := 60) hx hb dX5_others_45 (by decide) ?_
                refine lv_icmp_le (tgt := 57) hx hb dX5_others_47 (by decide) (fun c_14 => ?_) (fun c_14 => ?_)
                · have e5 : qOt a1 a2 a3 a4 = 0 := by simp [qOt, c_1, c_3, c_5, (Int32.not_lt.mpr c_7), c_8, c_10, c_12, (Int32.not_lt.mpr c_14)]
                  obtain ⟨n1, rfl, hn1⟩ := xInN1 (n := 9) (by decide) c_1 c_8
                  obtain ⟨h9, rfl, hh9⟩ := xInN (n := 30) (by decide) c_3 c_10
                  obtain ⟨q9, rfl, hq9⟩ := xInN (n := 30) (by decide) c_5 c_12
                  obtain ⟨n4, rfl, hn4⟩ := xInN (n := 60) (by decide) (Int32.not_lt.mpr c_7) (Int32.not_lt.mpr c_14)
                  obtain ⟨G9, hG⟩ : ∃ G : Int32 → Int32, ∀ s9 : Int32, xSm (fun i => if s9 < nI i * nI h9 + nI q9 then 1 else 0) n1 = G s9 := ⟨_, fun _ => rfl⟩
                  refine lv_iload_n hx hb dX5_others_57 rfl (lv_at hl 1 rfl) ?_
                  refine lv_istore (lv' := [(5, .int (nI n1)), (0, .ref g0), (1, .int (nI n1)), (2, .int (nI h9)), (3, .int (nI q9)), (4, .int (nI n4))]) hx hb dX5_others_58 hl (by decide) rfl (fun ls hl => ?_)
                  refine lv_iconst (v := 0) hx hb dX5_others_60 (by decide) ?_
                  refine lv_istore (lv' := [(6, .int 0), (5, .int (nI n1)), (0, .ref g0), (1, .int (nI n1)), (2, .int (nI h9)), (3, .int (nI q9)), (4, .int (nI n4))]) hx hb dX5_others_61 hl (by decide) rfl (fun ls hl => ?_)
                  refine lv_iconst (v := 0) hx hb dX5_others_63 (by decide) ?_
                  refine lv_istore (lv' := [(7, .int 0), (6, .int 0), (5, .int (nI n1)), (0, .ref g0), (1, .int (nI n1)), (2, .int (nI h9)), (3, .int (nI q9)), (4, .int (nI n4))]) hx hb dX5_others_64 hl (by decide) rfl (fun ls hl => ?_)
                  refine lv_bipush (v := 9) hx hb dX5_others_66 (by decide) ?_
                  refine va_newa (D := D) (atype := .boolean) (ty := .boolean) (N' := 9) (a0 := (9, .inl (fun _ => 0))) hx hb (hts (.arrayClass .boolean) (by decide +kernel)) rfl hK hP hD hS hA (fun _ => rfl) (by decide +kernel) (by decide +kernel) (Nat.le_of_ble_eq_true rfl) (Nat.le_of_ble_eq_true rfl) (Nat.le_of_ble_eq_true rfl) dX5_others_68 (fun q_68_15 cA H hK2 hP hD hS => ?_)
                  obtain rfl : cZ = cA := xK_uniq hK2 2 4 rfl rfl (by decide)
                  have hP : va_P D vwCl [(g0, .inr (5, [.ref ra, .ref wa, .ref ta, .int kpt, .ref ma, .int mkd, .ref pa, .int tpd, .int at0, .int wel, .ref ba, .ref ka, .int srt, .ref fa, .ref qa, .ref ea, .ref za, .ref ya, .int wks])), (ra, .inl (cI, 7, .inl rf)), (q_68_15, .inl (cZ, 9, .inl (fun _ => 0)))] H := hP
                  have hD : va_D A [(g0, .inr (5, [.ref ra, .ref wa, .ref ta, .int kpt, .ref ma, .int mkd, .ref pa, .int tpd, .int at0, .int wel, .ref ba, .ref ka, .int srt, .ref fa, .ref qa, .ref ea, .ref za, .ref ya, .int wks])), (ra, .inl (cI, 7, .inl rf)), (q_68_15, .inl (cZ, 9, .inl (fun _ => 0)))] := hD
                  refine W.widen (k := 1) (n := 9) (Nat.le_of_ble_eq_true rfl) (Nat.le_of_ble_eq_true rfl) ?_
                  refine lv_astore (lv' := [(8, .ref q_68_15), (7, .int 0), (6, .int 0), (5, .int (nI n1)), (0, .ref g0), (1, .int (nI n1)), (2, .int (nI h9)), (3, .int (nI q9)), (4, .int (nI n4))]) hx hb dX5_others_70 hl (by decide) rfl (fun ls hl => ?_)
                  refine lv_iconst (v := 1) hx hb dX5_others_72 (by decide) ?_
                  refine lv_istore (lv' := [(9, .int 1), (8, .ref q_68_15), (7, .int 0), (6, .int 0), (5, .int (nI n1)), (0, .ref g0), (1, .int (nI n1)), (2, .int (nI h9)), (3, .int (nI q9)), (4, .int (nI n4))]) hx hb dX5_others_73 hl (by decide) rfl (fun ls hl => ?_)
                  refine xl_loopH (σ := Nat × Nat × Nat × Nat × (Nat → Bool) × (Nat → Int32)) (fun n q H locs ls => lv_has ls 11 [(9, .int (nI (q.1 + 1))), (8, .ref q_68_15), (7, .int (nI q.2.2.2.1)), (6, .int (nI q.2.2.1)), (5, .int (nI q.2.1)), (0, .ref g0), (1, .int (nI n1)), (2, .int (nI h9)), (3, .int (nI q9)), (4, .int (nI n4))] ∧ va_P D vwCl [(g0, .inr (5, [.ref ra, .ref wa, .ref ta, .int kpt, .ref ma, .int mkd, .ref pa, .int tpd, .int at0, .int wel, .ref ba, .ref ka, .int srt, .ref fa, .ref qa, .ref ea, .ref za, .ref ya, .int wks])), (ra, .inl (cI, 7, .inl rf)), (q_68_15, .inl (cZ, 9, .inl q.2.2.2.2.2))] H ∧ va_D A [(g0, .inr (5, [.ref ra, .ref wa, .ref ta, .int kpt, .ref ma, .int mkd, .ref pa, .int tpd, .int at0, .int wel, .ref ba, .ref ka, .int srt, .ref fa, .ref qa, .ref ea, .ref za, .ref ya, .int wks])), (ra, .inl (cI, 7, .inl rf)), (q_68_15, .inl (cZ, 9, .inl q.2.2.2.2.2))] ∧ va_S A s.heap H locs ∧ (n4 + 1 - q.1 < n) ∧ (q.1 ≤ n4) ∧ (q.2.2.1 ≤ 10 * q.1 ∧ q.2.2.2.1 ≤ 9) ∧ (∀ z, q.2.2.2.2.1 z = false → xHv h9 q9 z ≤ q.2.2.1) ∧ (∀ z, z < n1 → q.2.2.2.2.2 z = if q.2.2.2.2.1 z then (0 : Int32) else 1) ∧ (xOt G9 (nI n1) q.1 = (nI q.2.1, nI q.2.2.1, nI q.2.2.2.1)) ∧ (q.2.1 = xCt q.2.2.2.2.1 n1)) (n4 + 2) (0, n1, 0, 0, fun _ => true, fun _ => 0) ⟨lv_sub hl [0, 1, 2, 3, 4, 5, 6, 7, 8, 9] rfl, hP.sub [0, 1, 2] rfl, hD.sub [0, 1, 2] (by decide) rfl, hS, by (try dsimp only); exact ⟨by omega, by omega, by omega, (fun z h => by simp at h), (fun z h => rfl), rfl, (xCt_all n1).symm⟩⟩ (fun q H lc ls h => absurd h.2.2.2.2.1 (Nat.not_lt_zero _)) ?_
                  intro n_75 q_75 H locs ls ih_75 hI_75
                  obtain ⟨hl, hP, hD, hS, hI_75⟩ := hI_75
                  obtain ⟨k, c9, l9, f9, al, g⟩ := q_75
                  obtain ⟨h1, h2, h3, h4, h5, h6, h7⟩ := hI_75
                  try dsimp only at hl hP hD h1 h2 h3 h4 h5 h6 h7
                  refine lv_iload hx hb dX5_others_75 (lv_at hl 0 rfl) ?_
                  refine lv_iload hx hb dX5_others_77 (lv_at hl 9 rfl) ?_
                  refine lv_icmp_gt (tgt := 151) hx hb dX5_others_79 (by decide) (fun c_16 => ?_) (fun c_16 => ?_)
                  · refine lv_iload hx hb dX5_others_151 (lv_at hl 4 rfl) ?_
                    have hP9 := hP.sub (ws' := [(g0, .inr (5, [.ref ra, .ref wa, .ref ta, .int kpt, .ref ma, .int mkd, .ref pa, .int tpd, .int at0, .int wel, .ref ba, .ref ka, .int srt, .ref fa, .ref qa, .ref ea, .ref za, .ref ya, .int wks])), (ra, .inl (cI, 7, .inl rf))]) [0, 1] rfl
                    have hD9 := hD.sub (ws' := [(g0, .inr (5, [.ref ra, .ref wa, .ref ta, .int kpt, .ref ma, .int mkd, .ref pa, .int tpd, .int at0, .int wel, .ref ba, .ref ka, .int srt, .ref fa, .ref qa, .ref ea, .ref za, .ref ya, .int wks])), (ra, .inl (cI, 7, .inl rf))]) [0, 1] (by decide) rfl
                    have hE9 : ([(g0, .inr (5, [.ref ra, .ref wa, .ref ta, .int kpt, .ref ma, .int mkd, .ref pa, .int tpd, .int at0, .int wel, .ref ba, .ref ka, .int srt, .ref fa, .ref qa, .ref ea, .ref za, .ref ya, .int wks])), (ra, .inl (cI, 7, .inl rf))] : va_W) = [(g0, .inr (5, [.ref ra, .ref wa, .ref ta, .int kpt, .ref ma, .int mkd, .ref pa, .int tpd, .int at0, .int wel, .ref ba, .ref ka, .int srt, .ref fa, .ref qa, .ref ea, .ref za, .ref ya, .int wks])), (ra, .inl (cI, 7, .inl (xRq rf (qOt (nI n1) (nI h9) (nI q9) (nI n4)))))] := by simp [xRq, e5]
                    exact W.iret (v := nI c9) hx hb hr (fun t ht hW => ⟨⟨_, (), rfl, (by have w := (nI_ltI (a := n4) (b := k + 1) (by omega) (by omega)).mp c_16; obtain rfl : k = n4 := (by omega); simp [e5, vOt, nI_clamp (show n1 < 2 ^ 31 by omega), nI_clamp (show k < 2 ^ 31 by omega), hG, h6]), by rw [ht]; exact hE9 ▸ hP9, hE9 ▸ hD9⟩, hS.F ht⟩) hS.2.2 dX5_others_153
                  · refine lv_iload hx hb dX5_others_82 (lv_at hl 3 rfl) ?_
                    refine lv_iconst (v := 1) hx hb dX5_others_84 (by decide) ?_
                    refine lv_iload hx hb dX5_others_85 (lv_at hl 2 rfl) ?_
                    refine lv_iadd hx hb dX5_others_87 ?_
                    refine xv_int (y := nI (1 + f9)) (nI_add 1 f9) ?_
                    refine lv_iadd hx hb dX5_others_88 ?_
                    refine xv_int (y := nI (l9 + (1 + f9))) (nI_add _ _) ?_
                    refine lv_istore (lv' := [(6, .int (nI (l9 + (1 + f9)))), (9, .int (nI (k + 1))), (8, .ref q_68_15), (7, .int (nI f9)), (5, .int (nI c9)), (0, .ref g0), (1, .int (nI n1)), (2, .int (nI h9)), (3, .int (nI q9)), (4, .int (nI n4))]) hx hb dX5_others_89 hl (by decide) rfl (fun ls hl => ?_)
                    refine lv_iconst (v := 0) hx hb dX5_others_91 (by decide) ?_
                    refine lv_istore (lv' := [(7, .int 0), (6, .int (nI (l9 + (1 + f9)))), (9, .int (nI (k + 1))), (8, .ref q_68_15), (5, .int (nI c9)), (0, .ref g0), (1, .int (nI n1)), (2, .int (nI h9)), (3, .int (nI q9)), (4, .int (nI n4))]) hx hb dX5_others_92 hl (by decide) rfl (fun ls hl => ?_)
                    refine lv_iconst (v := 0) hx hb dX5_others_94 (by decide) ?_
                    refine lv_istore (lv' := [(10, .int 0), (7, .int 0), (6, .int (nI (l9 + (1 + f9)))), (9, .int (nI (k + 1))), (8, .ref q_68_15), (5, .int (nI c9)), (0, .ref g0), (1, .int (nI n1)), (2, .int (nI h9)), (3, .int (nI q9)), (4, .int (nI n4))]) hx hb dX5_others_95 hl (by decide) rfl (fun ls hl => ?_)
                    refine xl_loopH (σ := Nat × Nat × (Nat → Int32)) (fun n q H locs ls => lv_has ls 11 [(10, .int (nI q.1)), (7, .int (nI q.2.1)), (6, .int (nI (l9 + (1 + f9)))), (9, .int (nI (k + 1))), (8, .ref q_68_15), (5, .int (nI c9)), (0, .ref g0), (1, .int (nI n1)), (2, .int (nI h9)), (3, .int (nI q9)), (4, .int (nI n4))] ∧ va_P D vwCl [(g0, .inr (5, [.ref ra, .ref wa, .ref ta, .int kpt, .ref ma, .int mkd, .ref pa, .int tpd, .int at0, .int wel, .ref ba, .ref ka, .int srt, .ref fa, .ref qa, .ref ea, .ref za, .ref ya, .int wks])), (ra, .inl (cI, 7, .inl rf)), (q_68_15, .inl (cZ, 9, .inl q.2.2))] H ∧ va_D A [(g0, .inr (5, [.ref ra, .ref wa, .ref ta, .int kpt, .ref ma, .int mkd, .ref pa, .int tpd, .int at0, .int wel, .ref ba, .ref ka, .int srt, .ref fa, .ref qa, .ref ea, .ref za, .ref ya, .int wks])), (ra, .inl (cI, 7, .inl rf)), (q_68_15, .inl (cZ, 9, .inl q.2.2))] ∧ va_S A s.heap H locs ∧ (n1 - q.1 < n) ∧ (q.1 ≤ n1) ∧ (∀ z, z < n1 → q.2.2 z = if z < q.1 then (if (fun z : Nat => decide (l9 + (1 + f9) < xHv h9 q9 z)) z then (0 : Int32) else 1) else (if al z then 0 else 1)) ∧ (q.2.1 + xCt (fun z : Nat => decide (l9 + (1 + f9) < xHv h9 q9 z)) q.1 = xCt al q.1)) (n1 + 1) (0, 0, g) ⟨lv_sub hl [0, 1, 2, 3, 4, 5, 6, 7, 8, 9, 10] rfl, hP.sub [0, 1, 2] rfl, hD.sub [0, 1, 2] (by decide) rfl, hS, by (try dsimp only); exact ⟨by omega, by omega, (fun z hz => by rw [if_neg (Nat.not_lt_zero z)]; exact h5 z hz), rfl⟩⟩ (fun q H lc ls h => absurd h.2.2.2.2.1 (Nat.not_lt_zero _)) ?_
                    intro n_97 q_97 H locs ls ih_97 hI_97
                    obtain ⟨hl, hP, hD, hS, hI_97⟩ := hI_97
                    obtain ⟨i, f8, g2⟩ := q_97
                    obtain ⟨i1, i2, i3, i4⟩ := hI_97
                    try dsimp only at hl hP hD i1 i2 i3 i4
                    refine lv_iload hx hb dX5_others_97 (lv_at hl 0 rfl) ?_
                    refine lv_iload_n hx hb dX5_others_99 rfl (lv_at hl 7 rfl) ?_
                    refine lv_icmp_ge (tgt := 138) hx hb dX5_others_100 (by decide) (fun c_17 => ?_) (fun c_17 => ?_)
                    · have wi : i = n1 := by have w := mt (nI_ltI (a := i) (b := n1) (by omega) (by omega)).mpr (Int32.not_lt.mpr c_17); omega
                      have i4n : f8 + xCt (fun z : Nat => decide (l9 + (1 + f9) < xHv h9 q9 z)) n1 = xCt al n1 := by rw [← wi]; exact i4
                      have hle9 := xCt_le al n1
                      refine lv_iload hx hb dX5_others_138 (lv_at hl 5 rfl) ?_
                      refine lv_iload hx hb dX5_others_140 (lv_at hl 1 rfl) ?_
                      refine lv_isub hx hb dX5_others_142 ?_
                      refine xv_int (y := nI (xCt (fun z : Nat => decide (l9 + (1 + f9) < xHv h9 q9 z)) n1)) (by rw [pk_sub (show f8 ≤ c9 by omega)]; exact congrArg nI (by omega)) ?_
                      refine lv_istore (lv' := [(5, .int (nI (xCt (fun z : Nat => decide (l9 + (1 + f9) < xHv h9 q9 z)) n1))), (10, .int (nI i)), (7, .int (nI f8)), (6, .int (nI (l9 + (1 + f9)))), (9, .int (nI (k + 1))), (8, .ref q_68_15), (0, .ref g0), (1, .int (nI n1)), (2, .int (nI h9)), (3, .int (nI q9)), (4, .int (nI n4))]) hx hb dX5_others_143 hl (by decide) rfl (fun ls hl => ?_)
                      refine lv_iinc (v := nI (k + 1 + 1)) (lv' := [(9, .int (nI (k + 1 + 1))), (5, .int (nI (xCt (fun z : Nat => decide (l9 + (1 + f9) < xHv h9 q9 z)) n1))), (10, .int (nI i)), (7, .int (nI f8)), (6, .int (nI (l9 + (1 + f9)))), (8, .ref q_68_15), (0, .ref g0), (1, .int (nI n1)), (2, .int (nI h9)), (3, .int (nI q9)), (4, .int (nI n4))]) hx hb dX5_others_145 hl (k := 4) rfl (nI_1 (k + 1)) (by decide) rfl (fun ls hl => ?_)
                      refine lv_goto (tgt := 75) hx hb dX5_others_148 (by decide) ?_
                      have w := mt (nI_ltI (a := n4) (b := k + 1) (by omega) (by omega)).mpr c_16
                      have h5n : ∀ z, z < n1 → g2 z = if (fun z : Nat => decide (l9 + (1 + f9) < xHv h9 q9 z)) z then (0 : Int32) else 1 := fun z hz => by have q := i3 z hz; rw [if_pos (by omega)] at q; exact q
                      have hG9 : G9 (nI (l9 + (1 + f9))) = nI (xCt (fun z : Nat => decide (l9 + (1 + f9) < xHv h9 q9 z)) n1) := by rw [← hG]; exact xGc hh9 hq9 (by omega) n1 (by omega)
                      have h6n := xOt_s h6 hG9 (f' := f8) (by omega)
                      exact ih_75 (k + 1, xCt (fun z : Nat => decide (l9 + (1 + f9) < xHv h9 q9 z)) n1, l9 + (1 + f9), f8, (fun z : Nat => decide (l9 + (1 + f9) < xHv h9 q9 z)), g2) _ _ _ ⟨lv_sub hl [0, 5, 3, 4, 1, 6, 7, 8, 9, 10] rfl, hP.sub [0, 1, 2] rfl, hD.sub [0, 1, 2] (by decide) rfl, hS, by (try dsimp only); exact ⟨by omega, by omega, by omega, (fun z h => by have := of_decide_eq_false h; omega), h5n, h6n, rfl⟩⟩
                    · refine lv_aload hx hb dX5_others_103 (lv_at hl 4 rfl) ?_
                      refine lv_iload hx hb dX5_others_105 (lv_at hl 0 rfl) ?_
                      refine va_zald (D := D) hx hb hK hP 2 2 rfl rfl (vp_in_nI (by have w := (nI_ltI (a := i) (b := n1) (by omega) (by omega)).mp (Int32.not_le.mp c_17); omega) (by decide)) dX5_others_107 ?_
                      refine xv_int (y := g2 i) (congrArg g2 (nI_clamp (by omega))) ?_
                      refine lv_if_ne (tgt := 132) hx hb dX5_others_108 (by decide) (fun c_18 => ?_) (fun c_18 => ?_)
                      · refine lv_iinc (v := nI (i + 1)) (lv' := [(10, .int (nI (i + 1))), (7, .int (nI f8)), (6, .int (nI (l9 + (1 + f9)))), (9, .int (nI (k + 1))), (8, .ref q_68_15), (5, .int (nI c9)), (0, .ref g0), (1, .int (nI n1)), (2, .int (nI h9)), (3, .int (nI q9)), (4, .int (nI n4))]) hx hb dX5_others_132 hl (k := 0) rfl (nI_1 i) (by decide) rfl (fun ls hl => ?_)
                        refine lv_goto (tgt := 97) hx hb dX5_others_135 (by decide) ?_
                        have w := (nI_ltI (a := i) (b := n1) (by omega) (by omega)).mp (Int32.not_le.mp c_17)
                        have wb := xHv_b hh9 hq9 (show i ≤ 9 by omega)
                        have ea : ¬ al i = true := by have ei := i3 i w; rw [if_neg (Nat.lt_irrefl i)] at ei; by_cases q : al i = true; (rw [if_pos q] at ei); exact absurd ei c_18; exact q
                        have eb : ¬ decide (l9 + (1 + f9) < xHv h9 q9 i) = true := by have q9x := xAl_f (l' := l9 + (1 + f9)) h4 (by omega) (show al i = false by simpa using ea); rw [q9x]; decide
                        have hrel : ∀ z, z < n1 → g2 z = if z < i + 1 then (if (fun z : Nat => decide (l9 + (1 + f9) < xHv h9 q9 z)) z then (0 : Int32) else 1) else (if al z then 0 else 1) := by
                          intro z hz
                          by_cases q : z = i
                          · subst q; rw [if_pos (Nat.lt_succ_self z), i3 z hz, if_neg (Nat.lt_irrefl z), if_neg ea]; exact (if_neg eb).symm
                          · rw [i3 z hz]
                            by_cases r : z < i
                            · rw [if_pos r, if_pos (show z < i + 1 by omega)]
                            · rw [if_neg r, if_neg (show ¬ z < i + 1 by omega)]
                        exact ih_97 (i + 1, f8, g2) _ _ _ ⟨lv_sub hl [0, 1, 2, 3, 4, 5, 6, 7, 8, 9, 10] rfl, hP.sub [0, 1, 2] rfl, hD.sub [0, 1, 2] (by decide) rfl, hS, by (try dsimp only); exact ⟨by omega, by omega, hrel, by simp only [xCt]; rw [if_neg eb, if_neg ea]; omega⟩⟩
                      · refine lv_iload hx hb dX5_others_111 (lv_at hl 0 rfl) ?_
                        refine lv_iload_n hx hb dX5_others_113 rfl (lv_at hl 8 rfl) ?_
                        refine lv_imul hx hb dX5_others_114 ?_
                        refine lv_iload_n hx hb dX5_others_115 rfl (lv_at hl 9 rfl) ?_
                        refine lv_iadd hx hb dX5_others_116 ?_
                        refine lv_iload hx hb dX5_others_117 (lv_at hl 2 rfl) ?_
                        refine lv_isub hx hb dX5_others_119 ?_
                        refine lv_if_gt (tgt := 132) hx hb dX5_others_120 (by decide) (fun c_19 => ?_) (fun c_19 => ?_)
                        · refine lv_iinc (v := nI (i + 1)) (lv' := [(10, .int (nI (i + 1))), (7, .int (nI f8)), (6, .int (nI (l9 + (1 + f9)))), (9, .int (nI (k + 1))), (8, .ref q_68_15), (5, .int (nI c9)), (0, .ref g0), (1, .int (nI n1)), (2, .int (nI h9)), (3, .int (nI q9)), (4, .int (nI n4))]) hx hb dX5_others_132 hl (k := 0) rfl (nI_1 i) (by decide) rfl (fun ls hl => ?_)
                          refine lv_goto (tgt := 97) hx hb dX5_others_135 (by decide) ?_
                          have w := (nI_ltI (a := i) (b := n1) (by omega) (by omega)).mp (Int32.not_le.mp c_17)
                          have wb := xHv_b hh9 hq9 (show i ≤ 9 by omega)
                          have ea : al i = true := by have ei := i3 i w; rw [if_neg (Nat.lt_irrefl i)] at ei; by_cases q : al i = true; exact q; (rw [if_neg q] at ei); exact absurd (c_18) (by rw [ei]; decide)
                          have et : (nI i * nI h9 + nI q9 - nI (l9 + (1 + f9))).toInt = (xHv h9 q9 i : Int) - (l9 + (1 + f9) : Nat) := by rw [xHv_e]; exact pk_sub_toInt (by omega) (by omega)
                          have eb : decide (l9 + (1 + f9) < xHv h9 q9 i) = true := decide_eq_true (by have c := c_19; rw [xi_lt, et] at c; have e0 : (0 : Int32).toInt = 0 := (by decide); omega)
                          have hrel : ∀ z, z < n1 → g2 z = if z < i + 1 then (if (fun z : Nat => decide (l9 + (1 + f9) < xHv h9 q9 z)) z then (0 : Int32) else 1) else (if al z then 0 else 1) := by
                            intro z hz
                            by_cases q : z = i
                            · subst q; rw [if_pos (Nat.lt_succ_self z), i3 z hz, if_neg (Nat.lt_irrefl z), if_pos ea]; exact (if_pos eb).symm
                            · rw [i3 z hz]
                              by_cases r : z < i
                              · rw [if_pos r, if_pos (show z < i + 1 by omega)]
                              · rw [if_neg r, if_neg (show ¬ z < i + 1 by omega)]
                          exact ih_97 (i + 1, f8, g2) _ _ _ ⟨lv_sub hl [0, 1, 2, 3, 4, 5, 6, 7, 8, 9, 10] rfl, hP.sub [0, 1, 2] rfl, hD.sub [0, 1, 2] (by decide) rfl, hS, by (try dsimp only); exact ⟨by omega, by omega, hrel, by simp only [xCt]; rw [if_pos eb, if_pos ea]; omega⟩⟩
                        · refine lv_aload hx hb dX5_others_123 (lv_at hl 4 rfl) ?_
                          refine lv_iload hx hb dX5_others_125 (lv_at hl 0 rfl) ?_
                          refine lv_iconst (v := 1) hx hb dX5_others_127 (by decide) ?_
                          refine va_zast (D := D) hx hb hK hP hD hS 2 2 rfl rfl (vp_in_nI (by have w := (nI_ltI (a := i) (b := n1) (by omega) (by omega)).mp (Int32.not_le.mp c_17); omega) (by decide)) dX5_others_128 (fun H locs hP hD hS => ?_)
                          rw [nI_clamp (by omega)] at hP hD
                          have hP : va_P D vwCl [(g0, .inr (5, [.ref ra, .ref wa, .ref ta, .int kpt, .ref ma, .int mkd, .ref pa, .int tpd, .int at0, .int wel, .ref ba, .ref ka, .int srt, .ref fa, .ref qa, .ref ea, .ref za, .ref ya, .int wks])), (ra, .inl (cI, 7, .inl rf)), (q_68_15, .inl (cZ, 9, .inl (upd g2 i 1)))] H := hP
                          have hD : va_D A [(g0, .inr (5, [.ref ra, .ref wa, .ref ta, .int kpt, .ref ma, .int mkd, .ref pa, .int tpd, .int at0, .int wel, .ref ba, .ref ka, .int srt, .ref fa, .ref qa, .ref ea, .ref za, .ref ya, .int wks])), (ra, .inl (cI, 7, .inl rf)), (q_68_15, .inl (cZ, 9, .inl (upd g2 i 1)))] := hD
                          refine lv_iinc (v := nI (f8 + 1)) (lv' := [(7, .int (nI (f8 + 1))), (10, .int (nI i)), (6, .int (nI (l9 + (1 + f9)))), (9, .int (nI (k + 1))), (8, .ref q_68_15), (5, .int (nI c9)), (0, .ref g0), (1, .int (nI n1)), (2, .int (nI h9)), (3, .int (nI q9)), (4, .int (nI n4))]) hx hb dX5_others_129 hl (k := 1) rfl (nI_1 f8) (by decide) rfl (fun ls hl => ?_)
                          refine lv_iinc (v := nI (i + 1)) (lv' := [(10, .int (nI (i + 1))), (7, .int (nI (f8 + 1))), (6, .int (nI (l9 + (1 + f9)))), (9, .int (nI (k + 1))), (8, .ref q_68_15), (5, .int (nI c9)), (0, .ref g0), (1, .int (nI n1)), (2, .int (nI h9)), (3, .int (nI q9)), (4, .int (nI n4))]) hx hb dX5_others_132 hl (k := 1) rfl (nI_1 i) (by decide) rfl (fun ls hl => ?_)
                          refine lv_goto (tgt := 97) hx hb dX5_others_135 (by decide) ?_
                          have w := (nI_ltI (a := i) (b := n1) (by omega) (by omega)).mp (Int32.not_le.mp c_17)
                          have wb := xHv_b hh9 hq9 (show i ≤ 9 by omega)
                          have ea : al i = true := by have ei := i3 i w; rw [if_neg (Nat.lt_irrefl i)] at ei; by_cases q : al i = true; exact q; (rw [if_neg q] at ei); exact absurd (c_18) (by rw [ei]; decide)
                          have et : (nI i * nI h9 + nI q9 - nI (l9 + (1 + f9))).toInt = (xHv h9 q9 i : Int) - (l9 + (1 + f9) : Nat) := by rw [xHv_e]; exact pk_sub_toInt (by omega) (by omega)
                          have eb : ¬ decide (l9 + (1 + f9) < xHv h9 q9 i) = true := fun hd9 => by have hd9 := of_decide_eq_true hd9; have c := c_19; rw [xi_lt, et] at c; have e0 : (0 : Int32).toInt = 0 := (by decide); omega
                          have hrel : ∀ z, z < n1 → (upd g2 i 1) z = if z < i + 1 then (if (fun z : Nat => decide (l9 + (1 + f9) < xHv h9 q9 z)) z then (0 : Int32) else 1) else (if al z then 0 else 1) := by
                            intro z hz
                            by_cases q : z = i
                            · subst q; rw [if_pos (Nat.lt_succ_self z), pk_us]; exact (if_neg eb).symm
                            · rw [pk_un q, i3 z hz]
                              by_cases r : z < i
                              · rw [if_pos r, if_pos (show z < i + 1 by omega)]
                              · rw [if_neg r, if_neg (show ¬ z < i + 1 by omega)]
                          exact ih_97 (i + 1, f8 + 1, upd g2 i 1) _ _ _ ⟨lv_sub hl [0, 1, 2, 3, 4, 5, 6, 7, 8, 9, 10] rfl, hP.sub [0, 1, 2] rfl, hD.sub [0, 1, 2] (by decide) rfl, hS, by (try dsimp only); exact ⟨by omega, by omega, hrel, by simp only [xCt]; rw [if_neg eb, if_pos ea]; omega⟩⟩
                · refine lv_aload_n hx hb dX5_others_50 rfl (lv_at hl 0 rfl) ?_
                  refine lv_bipush (v := -6) hx hb dX5_others_51 (by decide) ?_
                  have hPc := hP.sub (ws' := [(g0, .inr (5, [.ref ra, .ref wa, .ref ta, .int kpt, .ref ma, .int mkd, .ref pa, .int tpd, .int at0, .int wel, .ref ba, .ref ka, .int srt, .ref fa, .ref qa, .ref ea, .ref za, .ref ya, .int wks])), (ra, .inl (cI, 7, .inl rf))]) [0, 1] rfl
                  have hDc := hD.sub (ws' := [(g0, .inr (5, [.ref ra, .ref wa, .ref ta, .int kpt, .ref ma, .int mkd, .ref pa, .int tpd, .int at0, .int wel, .ref ba, .ref ka, .int srt, .ref fa, .ref qa, .ref ea, .ref za, .ref ya, .int wks])), (ra, .inl (cI, 7, .inl rf))]) [0, 1] (by decide) rfl
                  have hFc := va_free (wc := [(g0, .inr (5, [.ref ra, .ref wa, .ref ta, .int kpt, .ref ma, .int mkd, .ref pa, .int tpd, .int at0, .int wel, .ref ba, .ref ka, .int srt, .ref fa, .ref qa, .ref ea, .ref za, .ref ya, .int wks])), (ra, .inl (cI, 7, .inl rf))]) hD hS hA [0, 1] rfl
                  refine va_calli (va_runV (As := [.int (-6)]) (rest := []) ⟨hx, hb, hml, hown, hts⟩ (g_X5_no l D cI cL cZ cC _ g0 ra wa ta ma pa ba ka fa qa ea za ya kpt mkd tpd at0 wel srt wks rf (-6) (by first | assumption | decide +kernel) (by first | assumption | decide +kernel)) (cwV 1 hts gX5_others_X5_no rfl rfl rfl (by decide +kernel) ⟨Nat.le_of_ble_eq_true rfl, Nat.le_of_ble_eq_true rfl⟩) ⟨wPc_bl, va_recv hK hPc (ci := 5) (q0 := 0) rfl rfl, wPc_use hPc hK hDc⟩ rfl rfl hl.1 rfl (lv_room (Nat.le_of_ble_eq_true rfl)) dX5_others_53 ⟨Nat.le_of_ble_eq_true rfl, Nat.le_of_ble_eq_true rfl⟩) hS (fun q _ h => hFc q h) hFc (fun r_20 u_20 t H1 locs ht hvm hw hB hz1 hk1 hS => ?_)
                  obtain ⟨hP1, hD1⟩ := hB
                  rw [ht] at hP1
                  obtain ⟨hP, hD⟩ := va_join (wr := []) (w1 := [(g0, .inr (5, [.ref ra, .ref wa, .ref ta, .int kpt, .ref ma, .int mkd, .ref pa, .int tpd, .int at0, .int wel, .ref ba, .ref ka, .int srt, .ref fa, .ref qa, .ref ea, .ref za, .ref ya, .int wks])), (ra, .inl (cI, 7, .inl (xRf rf (-6))))]) hP hD [0, 1] [] rfl rfl (by decide) (by decide) hk1 hFc hP1 hD1
                  generalize H1 = H at hP hS ⊢
                  have hP : va_P D vwCl [(g0, .inr (5, [.ref ra, .ref wa, .ref ta, .int kpt, .ref ma, .int mkd, .ref pa, .int tpd, .int at0, .int wel, .ref ba, .ref ka, .int srt, .ref fa, .ref qa, .ref ea, .ref za, .ref ya, .int wks])), (ra, .inl (cI, 7, .inl (xRf rf (-6))))] H := hP
                  have hD : va_D A [(g0, .inr (5, [.ref ra, .ref wa, .ref ta, .int kpt, .ref ma, .int mkd, .ref pa, .int tpd, .int at0, .int wel, .ref ba, .ref ka, .int srt, .ref fa, .ref qa, .ref ea, .ref za, .ref ya, .int wks])), (ra, .inl (cI, 7, .inl (xRf rf (-6))))] := hD
                  obtain rfl : ((-6) : Int32) = r_20 := Eq.symm hw
                  have hP9 := hP.sub (ws' := [(g0, .inr (5, [.ref ra, .ref wa, .ref ta, .int kpt, .ref ma, .int mkd, .ref pa, .int tpd, .int at0, .int wel, .ref ba, .ref ka, .int srt, .ref fa, .ref qa, .ref ea, .ref za, .ref ya, .int wks])), (ra, .inl (cI, 7, .inl (xRf rf (-6))))]) [0, 1] rfl
                  have hD9 := hD.sub (ws' := [(g0, .inr (5, [.ref ra, .ref wa, .ref ta, .int kpt, .ref ma, .int mkd, .ref pa, .int tpd, .int at0, .int wel, .ref ba, .ref ka, .int srt, .ref fa, .ref qa, .ref ea, .ref za, .ref ya, .int wks])), (ra, .inl (cI, 7, .inl (xRf rf (-6))))]) [0, 1] (by decide) rfl
                  have hE9 : ([(g0, .inr (5, [.ref ra, .ref wa, .ref ta, .int kpt, .ref ma, .int mkd, .ref pa, .int tpd, .int at0, .int wel, .ref ba, .ref ka, .int srt, .ref fa, .ref qa, .ref ea, .ref za, .ref ya, .int wks])), (ra, .inl (cI, 7, .inl (xRf rf (-6))))] : va_W) = [(g0, .inr (5, [.ref ra, .ref wa, .ref ta, .int kpt, .ref ma, .int mkd, .ref pa, .int tpd, .int at0, .int wel, .ref ba, .ref ka, .int srt, .ref fa, .ref qa, .ref ea, .ref za, .ref ya, .int wks])), (ra, .inl (cI, 7, .inl (xRq rf (qOt a1 a2 a3 a4))))] := by simp [xRq, qOt, c_1, c_3, c_5, (Int32.not_lt.mpr c_7), c_8, c_10, c_12, (Int32.not_le.mp c_14)]
                  refine W.widen (k := 1) (n := 9) (Nat.le_of_ble_eq_true rfl) (Nat.le_of_ble_eq_true rfl) ?_
                  exact W.iret (v := -6) hx hb hr (fun t ht hW => ⟨⟨_, (), rfl, by simp [qOt, c_1, c_3, c_5, (Int32.not_lt.mpr c_7), c_8, c_10, c_12, (Int32.not_le.mp c_14)], by rw [ht]; exact hE9 ▸ hP9, hE9 ▸ hD9⟩, hS.F ht⟩) hS.2.2 dX5_others_56
        · refine lv_aload_n hx hb dX5_others_18 rfl (lv_at hl 0 rfl) ?_
          refine lv_bipush (v := -4) hx hb dX5_others_19 (by decide) ?_
          have hPc := hP.sub (ws' := [(g0, .inr (5, [.ref ra, .ref wa, .ref ta, .int kpt, .ref ma, .int mkd, .ref pa, .int tpd, .int at0, .int wel, .ref ba, .ref ka, .int srt, .ref fa, .ref qa, .ref ea, .ref za, .ref ya, .int wks])), (ra, .inl (cI, 7, .inl rf))]) [0, 1] rfl
          have hDc := hD.sub (ws' := [(g0, .inr (5, [.ref ra, .ref wa, .ref ta, .int kpt, .ref ma, .int mkd, .ref pa, .int tpd, .int at0, .int wel, .ref ba, .ref ka, .int srt, .ref fa, .ref qa, .ref ea, .ref za, .ref ya, .int wks])), (ra, .inl (cI, 7, .inl rf))]) [0, 1] (by decide) rfl
          have hFc := va_free (wc := [(g0, .inr (5, [.ref ra, .ref wa, .ref ta, .int kpt, .ref ma, .int mkd, .ref pa, .int tpd, .int at0, .int wel, .ref ba, .ref ka, .int srt, .ref fa, .ref qa, .ref ea, .ref za, .ref ya, .int wks])), (ra, .inl (cI, 7, .inl rf))]) hD hS hA [0, 1] rfl
          refine va_calli (va_runV (As := [.int (-4)]) (rest := []) ⟨hx, hb, hml, hown, hts⟩ (g_X5_no l D cI cL cZ cC _ g0 ra wa ta ma pa ba ka fa qa ea za ya kpt mkd tpd at0 wel srt wks rf (-4) (by first | assumption | decide +kernel) (by first | assumption | decide +kernel)) (cwV 1 hts gX5_others_X5_no rfl rfl rfl (by decide +kernel) ⟨Nat.le_of_ble_eq_true rfl, Nat.le_of_ble_eq_true rfl⟩) ⟨wPc_bl, va_recv hK hPc (ci := 5) (q0 := 0) rfl rfl, wPc_use hPc hK hDc⟩ rfl rfl hl.1 rfl (lv_room (Nat.le_of_ble_eq_true rfl)) dX5_others_21 ⟨Nat.le_of_ble_eq_true rfl, Nat.le_of_ble_eq_true rfl⟩) hS (fun q _ h => hFc q h) hFc (fun r_21 u_21 t H1 locs ht hvm hw hB hz1 hk1 hS => ?_)
          obtain ⟨hP1, hD1⟩ := hB
          rw [ht] at hP1
          obtain ⟨hP, hD⟩ := va_join (wr := []) (w1 := [(g0, .inr (5, [.ref ra, .ref wa, .ref ta, .int kpt, .ref ma, .int mkd, .ref pa, .int tpd, .int at0, .int wel, .ref ba, .ref ka, .int srt, .ref fa, .ref qa, .ref ea, .ref za, .ref ya, .int wks])), (ra, .inl (cI, 7, .inl (xRf rf (-4))))]) hP hD [0, 1] [] rfl rfl (by decide) (by decide) hk1 hFc hP1 hD1
          generalize H1 = H at hP hS ⊢
          have hP : va_P D vwCl [(g0, .inr (5, [.ref ra, .ref wa, .ref ta, .int kpt, .ref ma, .int mkd, .ref pa, .int tpd, .int at0, .int wel, .ref ba, .ref ka, .int srt, .ref fa, .ref qa, .ref ea, .ref za, .ref ya, .int wks])), (ra, .inl (cI, 7, .inl (xRf rf (-4))))] H := hP
          have hD : va_D A [(g0, .inr (5, [.ref ra, .ref wa, .ref ta, .int kpt, .ref ma, .int mkd, .ref pa, .int tpd, .int at0, .int wel, .ref ba, .ref ka, .int srt, .ref fa, .ref qa, .ref ea, .ref za, .ref ya, .int wks])), (ra, .inl (cI, 7, .inl (xRf rf (-4))))] := hD
          obtain rfl : ((-4) : Int32) = r_21 := Eq.symm hw
          have hP9 := hP.sub (ws' := [(g0, .inr (5, [.ref ra, .ref wa, .ref ta, .int kpt, .ref ma, .int mkd, .ref pa, .int tpd, .int at0, .int wel, .ref ba, .ref ka, .int srt, .ref fa, .ref qa, .ref ea, .ref za, .ref ya, .int wks])), (ra, .inl (cI, 7, .inl (xRf rf (-4))))]) [0, 1] rfl
          have hD9 := hD.sub (ws' := [(g0, .inr (5, [.ref ra, .ref wa, .ref ta, .int kpt, .ref ma, .int mkd, .ref pa, .int tpd, .int at0, .int wel, .ref ba, .ref ka, .int srt, .ref fa, .ref qa, .ref ea, .ref za, .ref ya, .int wks])), (ra, .inl (cI, 7, .inl (xRf rf (-4))))]) [0, 1] (by decide) rfl
          have hE9 : ([(g0, .inr (5, [.ref ra, .ref wa, .ref ta, .int kpt, .ref ma, .int mkd, .ref pa, .int tpd, .int at0, .int wel, .ref ba, .ref ka, .int srt, .ref fa, .ref qa, .ref ea, .ref za, .ref ya, .int wks])), (ra, .inl (cI, 7, .inl (xRf rf (-4))))] : va_W) = [(g0, .inr (5, [.ref ra, .ref wa, .ref ta, .int kpt, .ref ma, .int mkd, .ref pa, .int tpd, .int at0, .int wel, .ref ba, .ref ka, .int srt, .ref fa, .ref qa, .ref ea, .ref za, .ref ya, .int wks])), (ra, .inl (cI, 7, .inl (xRq rf (qOt a1 a2 a3 a4))))] := by simp [xRq, qOt, c_1, c_3, c_5, (Int32.not_le.mp c_7)]
          refine W.widen (k := 1) (n := 9) (Nat.le_of_ble_eq_true rfl) (Nat.le_of_ble_eq_true rfl) ?_
          exact W.iret (v := -4) hx hb hr (fun t ht hW => ⟨⟨_, (), rfl, by simp [qOt, c_1, c_3, c_5, (Int32.not_le.mp c_7)], by rw [ht]; exact hE9 ▸ hP9, hE9 ▸ hD9⟩, hS.F ht⟩) hS.2.2 dX5_others_24
