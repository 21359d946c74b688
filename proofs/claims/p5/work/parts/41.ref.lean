set_option maxHeartbeats 4000000 in
set_option maxRecDepth 100000 in
theorem g_X5_on0 (l : Launch) (D : va_G) (cI cL cZ cC : ClassId) (sz : Nat) (g0 : Nat) (ra : Nat) (wa : Nat) (ta : Nat) (ma : Nat) (pa : Nat) (ba : Nat) (ka : Nat) (fa : Nat) (qa : Nat) (ea : Nat) (za : Nat) (ya : Nat) (mkd : Int32) (tpd : Int32) (at0 : Int32) (wel : Int32) (srt : Int32) (wks : Int32) (rf : Nat → Int32)  : Met l yX5_on wsX5_on ({ frames := 1, cells := 0, slots := 0, locals := 21 } : Room) (wPc D [.ref g0] [(g0, .inr (5, [.ref ra, .ref wa, .ref ta, .int 0, .ref ma, .int mkd, .ref pa, .int tpd, .int at0, .int wel, .ref ba, .ref ka, .int srt, .ref fa, .ref qa, .ref ea, .ref za, .ref ya, .int wks])), (ra, .inl (cI, 7, .inl rf))] (xTy cI cL cZ cC) sz) (va_Qi (fun (r : Int32) (_ : Unit) => r = -3) (fun (_ : Unit) t => va_P D vwCl [(g0, .inr (5, [.ref ra, .ref wa, .ref ta, .int 0, .ref ma, .int mkd, .ref pa, .int tpd, .int at0, .int wel, .ref ba, .ref ka, .int srt, .ref fa, .ref qa, .ref ea, .ref za, .ref ya, .int wks])), (ra, .inl (cI, 7, .inl (xRf rf (-3))))] t.heap ∧ va_D (va_A [(g0, .inr (5, [.ref ra, .ref wa, .ref ta, .int 0, .ref ma, .int mkd, .ref pa, .int tpd, .int at0, .int wel, .ref ba, .ref ka, .int srt, .ref fa, .ref qa, .ref ea, .ref za, .ref ya, .int wks])), (ra, .inl (cI, 7, .inl rf))] sz) [(g0, .inr (5, [.ref ra, .ref wa, .ref ta, .int 0, .ref ma, .int mkd, .ref pa, .int tpd, .int at0, .int wel, .ref ba, .ref ka, .int srt, .ref fa, .ref qa, .ref ea, .ref za, .ref ya, .int wks])), (ra, .inl (cI, 7, .inl (xRf rf (-3))))]) (va_A [(g0, .inr (5, [.ref ra, .ref wa, .ref ta, .int 0, .ref ma, .int mkd, .ref pa, .int tpd, .int at0, .int wel, .ref ba, .ref ka, .int srt, .ref fa, .ref qa, .ref ea, .ref za, .ref ya, .int wks])), (ra, .inl (cI, 7, .inl rf))] sz)) 0 0 (va_A [(g0, .inr (5, [.ref ra, .ref wa, .ref ta, .int 0, .ref ma, .int mkd, .ref pa, .int tpd, .int at0, .int wel, .ref ba, .ref ka, .int srt, .ref fa, .ref qa, .ref ea, .ref za, .ref ya, .int wks])), (ra, .inl (cI, 7, .inl rf))] sz) := by
  refine Met.ofW (cc := cX5_on) (maxL := 2) (ret := (some .int)) (by decide) rfl ?_
  intro p e s m args below meth c s₁ B hml hv
  obtain ⟨rfl, hsz, hP, hK, hD0⟩ := hv
  have hx := B.exec
  have hb := B.bytes
  have hr := B.returns
  have hts := atoms_spec (ws := wsX5_on) B.pre
  have hown : s.vm.findClass RX5 = some m.cls := findClass_of_methodNamed B.named
  have hlocks := B.notSynchronized
  have hwX5 : ∀ w ∈ u_ws RX5 TX5 19, w ∈ wsX5_on := fun _ h => List.mem_cons_of_mem _ (List.mem_append_right _ h)
  subst hsz
  have hD := hD0.self (sz := s.heap.size)
  generalize hAe : va_A [(g0, .inr (5, [.ref ra, .ref wa, .ref ta, .int 0, .ref ma, .int mkd, .ref pa, .int tpd, .int at0, .int wel, .ref ba, .ref ka, .int srt, .ref fa, .ref qa, .ref ea, .ref za, .ref ya, .int wks])), (ra, .inl (cI, 7, .inl rf))] s.heap.size = A at hD ⊢
  have hA : ∀ q : Nat, s.heap.size ≤ q → A q := fun q h => by rw [← hAe]; exact Or.inr h
  have hS : va_S A s.heap s.heap [] := va_S.rf
  have hP : va_P D vwCl [(g0, .inr (5, [.ref ra, .ref wa, .ref ta, .int 0, .ref ma, .int mkd, .ref pa, .int tpd, .int at0, .int wel, .ref ba, .ref ka, .int srt, .ref fa, .ref qa, .ref ea, .ref za, .ref ya, .int wks])), (ra, .inl (cI, 7, .inl rf))] s.heap := hP
  have hl := lv_entry ([.ref g0]) (n := 2) (Nat.le_of_ble_eq_true rfl)
  rw [lg_entry_eq]
  generalize (lg_sl ([.ref g0]) ++ List.replicate (2 - (lg_sl ([.ref g0])).length) Slot.unset).toArray = ls at hl ⊢
  have hl : lv_has ls 2 [(0, .ref g0)] := hl
  refine lv_aload_n hx hb dX5_on_0 rfl (lv_at hl 0 rfl) ?_
  refine va_get (D := D) (ci := 5) (v := .int 0) (C := RX5) (T := TX5) (N := 19) hx hb hts hwX5 hown hK hP 0 rfl rfl 3 (by decide) (hts (.fieldLink RX5 53 "WaitOrWalkOnModel" "kept" "Z") (by decide +kernel)) (fun _ h9 => h9) rfl dX5_on_1 ?_
  refine lv_if_ne (tgt := 14) hx hb dX5_on_4 (by decide) (fun c_1 => absurd c_1 (by decide +kernel)) (fun c_1 => ?_)
  refine lv_aload_n hx hb dX5_on_7 rfl (lv_at hl 0 rfl) ?_
  refine lv_bipush (v := -3) hx hb dX5_on_8 (by decide) ?_
  have hPc := hP.sub (ws' := [(g0, .inr (5, [.ref ra, .ref wa, .ref ta, .int 0, .ref ma, .int mkd, .ref pa, .int tpd, .int at0, .int wel, .ref ba, .ref ka, .int srt, .ref fa, .ref qa, .ref ea, .ref za, .ref ya, .int wks])), (ra, .inl (cI, 7, .inl rf))]) [0, 1] rfl
  have hDc := hD.sub (ws' := [(g0, .inr (5, [.ref ra, .ref wa, .ref ta, .int 0, .ref ma, .int mkd, .ref pa, .int tpd, .int at0, .int wel, .ref ba, .ref ka, .int srt, .ref fa, .ref qa, .ref ea, .ref za, .ref ya, .int wks])), (ra, .inl (cI, 7, .inl rf))]) [0, 1] (by decide) rfl
  have hFc := va_free (wc := [(g0, .inr (5, [.ref ra, .ref wa, .ref ta, .int 0, .ref ma, .int mkd, .ref pa, .int tpd, .int at0, .int wel, .ref ba, .ref ka, .int srt, .ref fa, .ref qa, .ref ea, .ref za, .ref ya, .int wks])), (ra, .inl (cI, 7, .inl rf))]) hD hS hA [0, 1] rfl
  refine va_calli (va_runV (As := [.int (-3)]) (rest := []) ⟨hx, hb, hml, hown, hts⟩ (g_X5_no l D cI cL cZ cC _ g0 ra wa ta ma pa ba ka fa qa ea za ya 0 mkd tpd at0 wel srt wks rf (-3) (by first | assumption | decide +kernel) (by first | assumption | decide +kernel)) (cwV 1 hts gX5_on_X5_no rfl rfl rfl (by decide +kernel) ⟨Nat.le_of_ble_eq_true rfl, Nat.le_of_ble_eq_true rfl⟩) ⟨wPc_bl, va_recv hK hPc (ci := 5) (q0 := 0) rfl rfl, wPc_use hPc hK hDc⟩ rfl rfl hl.1 rfl (lv_room (Nat.le_of_ble_eq_true rfl)) dX5_on_10 ⟨Nat.le_of_ble_eq_true rfl, Nat.le_of_ble_eq_true rfl⟩) hS (fun q _ h => hFc q h) hFc (fun r_2 u_2 t H1 locs ht hvm hw hB hz1 hk1 hS => ?_)
  obtain ⟨hP1, hD1⟩ := hB
  rw [ht] at hP1
  obtain ⟨hP, hD⟩ := va_join (wr := []) (w1 := [(g0, .inr (5, [.ref ra, .ref wa, .ref ta, .int 0, .ref ma, .int mkd, .ref pa, .int tpd, .int at0, .int wel, .ref ba, .ref ka, .int srt, .ref fa, .ref qa, .ref ea, .ref za, .ref ya, .int wks])), (ra, .inl (cI, 7, .inl (xRf rf (-3))))]) hP hD [0, 1] [] rfl rfl (by decide) (by decide) hk1 hFc hP1 hD1
  generalize H1 = H at hP hS ⊢
  have hP : va_P D vwCl [(g0, .inr (5, [.ref ra, .ref wa, .ref ta, .int 0, .ref ma, .int mkd, .ref pa, .int tpd, .int at0, .int wel, .ref ba, .ref ka, .int srt, .ref fa, .ref qa, .ref ea, .ref za, .ref ya, .int wks])), (ra, .inl (cI, 7, .inl (xRf rf (-3))))] H := hP
  have hD : va_D A [(g0, .inr (5, [.ref ra, .ref wa, .ref ta, .int 0, .ref ma, .int mkd, .ref pa, .int tpd, .int at0, .int wel, .ref ba, .ref ka, .int srt, .ref fa, .ref qa, .ref ea, .ref za, .ref ya, .int wks])), (ra, .inl (cI, 7, .inl (xRf rf (-3))))] := hD
  obtain rfl : ((-3) : Int32) = r_2 := Eq.symm hw
  have hP9 := hP.sub (ws' := [(g0, .inr (5, [.ref ra, .ref wa, .ref ta, .int 0, .ref ma, .int mkd, .ref pa, .int tpd, .int at0, .int wel, .ref ba, .ref ka, .int srt, .ref fa, .ref qa, .ref ea, .ref za, .ref ya, .int wks])), (ra, .inl (cI, 7, .inl (xRf rf (-3))))]) [0, 1] rfl
  have hD9 := hD.sub (ws' := [(g0, .inr (5, [.ref ra, .ref wa, .ref ta, .int 0, .ref ma, .int mkd, .ref pa, .int tpd, .int at0, .int wel, .ref ba, .ref ka, .int srt, .ref fa, .ref qa, .ref ea, .ref za, .ref ya, .int wks])), (ra, .inl (cI, 7, .inl (xRf rf (-3))))]) [0, 1] (by decide) rfl
  exact W.iret (v := -3) hx hb hr (fun t ht hW => ⟨⟨_, (), rfl, rfl, by rw [ht]; exact hP9, hD9⟩, hS.F ht⟩) hS.2.2 dX5_on_13

set_option maxHeartbeats 4000000 in
set_option maxRecDepth 100000 in
theorem g_X5_on1 (l : Launch) (D : va_G) (cI cL cZ cC : ClassId) (sz : Nat) (g0 : Nat) (ra : Nat) (wa : Nat) (ta : Nat) (ma : Nat) (pa : Nat) (ba : Nat) (ka : Nat) (fa : Nat) (qa : Nat) (ea : Nat) (za : Nat) (ya : Nat) (mkd : Int32) (tpd : Int32) (at0 : Int32) (wel : Int32) (srt : Int32) (wks : Int32) (nw : Nat → Int32) (th : Nat → Int32)  : Met l yX5_on wsX5_on ({ frames := 0, cells := 0, slots := 0, locals := 0 } : Room) (wPc D [.ref g0] [(g0, .inr (5, [.ref ra, .ref wa, .ref ta, .int 1, .ref ma, .int mkd, .ref pa, .int tpd, .int at0, .int wel, .ref ba, .ref ka, .int srt, .ref fa, .ref qa, .ref ea, .ref za, .ref ya, .int wks])), (wa, .inl (cI, 70, .inl nw)), (ta, .inl (cI, 70, .inl th))] (xTy cI cL cZ cC) sz) (va_Qi (fun (r : Int32) (_ : Unit) => r = xCp th nw 70 0) (fun (_ : Unit) t => va_P D vwCl [(g0, .inr (5, [.ref ra, .ref wa, .ref ta, .int 1, .ref ma, .int mkd, .ref pa, .int tpd, .int at0, .int wel, .ref ba, .ref ka, .int srt, .ref fa, .ref qa, .ref ea, .ref za, .ref ya, .int wks])), (wa, .inl (cI, 70, .inl (xCp th nw 70))), (ta, .inl (cI, 70, .inl th))] t.heap ∧ va_D (va_A [(g0, .inr (5, [.ref ra, .ref wa, .ref ta, .int 1, .ref ma, .int mkd, .ref pa, .int tpd, .int at0, .int wel, .ref ba, .ref ka, .int srt, .ref fa, .ref qa, .ref ea, .ref za, .ref ya, .int wks])), (wa, .inl (cI, 70, .inl nw)), (ta, .inl (cI, 70, .inl th))] sz) [(g0, .inr (5, [.ref ra, .ref wa, .ref ta, .int 1, .ref ma, .int mkd, .ref pa, .int tpd, .int at0, .int wel, .ref ba, .ref ka, .int srt, .ref fa, .ref qa, .ref ea, .ref za, .ref ya, .int wks])), (wa, .inl (cI, 70, .inl (xCp th nw 70))), (ta, .inl (cI, 70, .inl th))]) (va_A [(g0, .inr (5, [.ref ra, .ref wa, .ref ta, .int 1, .ref ma, .int mkd, .ref pa, .int tpd, .int at0, .int wel, .ref ba, .ref ka, .int srt, .ref fa, .ref qa, .ref ea, .ref za, .ref ya, .int wks])), (wa, .inl (cI, 70, .inl nw)), (ta, .inl (cI, 70, .inl th))] sz)) 0 0 (va_A [(g0, .inr (5, [.ref ra, .ref wa, .ref ta, .int 1, .ref ma, .int mkd, .ref pa, .int tpd, .int at0, .int wel, .ref ba, .ref ka, .int srt, .ref fa, .ref qa, .ref ea, .ref za, .ref ya, .int wks])), (wa, .inl (cI, 70, .inl nw)), (ta, .inl (cI, 70, .inl th))] sz) := by
  refine Met.ofW (cc := cX5_on) (maxL := 2) (ret := (some .int)) (by decide) rfl ?_
  intro p e s m args below meth c s₁ B hml hv
  obtain ⟨rfl, hsz, hP, hK, hD0⟩ := hv
  have hx := B.exec
  have hb := B.bytes
  have hr := B.returns
  have hts := atoms_spec (ws := wsX5_on) B.pre
  have hown : s.vm.findClass RX5 = some m.cls := findClass_of_methodNamed B.named
  have hlocks := B.notSynchronized
  have hwX5 : ∀ w ∈ u_ws RX5 TX5 19, w ∈ wsX5_on := fun _ h => List.mem_cons_of_mem _ (List.mem_append_right _ h)
  subst hsz
  have hD := hD0.self (sz := s.heap.size)
  generalize hAe : va_A [(g0, .inr (5, [.ref ra, .ref wa, .ref ta, .int 1, .ref ma, .int mkd, .ref pa, .int tpd, .int at0, .int wel, .ref ba, .ref ka, .int srt, .ref fa, .ref qa, .ref ea, .ref za, .ref ya, .int wks])), (wa, .inl (cI, 70, .inl nw)), (ta, .inl (cI, 70, .inl th))] s.heap.size = A at hD ⊢
  have hA : ∀ q : Nat, s.heap.size ≤ q → A q := fun q h => by rw [← hAe]; exact Or.inr h
  have hS : va_S A s.heap s.heap [] := va_S.rf
  have hP : va_P D vwCl [(g0, .inr (5, [.ref ra, .ref wa, .ref ta, .int 1, .ref ma, .int mkd, .ref pa, .int tpd, .int at0, .int wel, .ref ba, .ref ka, .int srt, .ref fa, .ref qa, .ref ea, .ref za, .ref ya, .int wks])), (wa, .inl (cI, 70, .inl nw)), (ta, .inl (cI, 70, .inl th))] s.heap := hP
  have hl := lv_entry ([.ref g0]) (n := 2) (Nat.le_of_ble_eq_true rfl)
  rw [lg_entry_eq]
  generalize (lg_sl ([.ref g0]) ++ List.replicate (2 - (lg_sl ([.ref g0])).length) Slot.unset).toArray = ls at hl ⊢
  have hl : lv_has ls 2 [(0, .ref g0)] := hl
  refine lv_aload_n hx hb dX5_on_0 rfl (lv_at hl 0 rfl) ?_
  refine va_get (D := D) (ci := 5) (v := .int 1) (C := RX5) (T := TX5) (N := 19) hx hb hts hwX5 hown hK hP 0 rfl rfl 3 (by decide) (hts (.fieldLink RX5 53 "WaitOrWalkOnModel" "kept" "Z") (by decide +kernel)) (fun _ h9 => h9) rfl dX5_on_1 ?_
  refine lv_if_ne (tgt := 14) hx hb dX5_on_4 (by decide) (fun c_1 => ?_) (fun c_1 => absurd c_1 (by decide +kernel))
  refine lv_iconst (v := 0) hx hb dX5_on_14 (by decide) ?_
  refine lv_istore_n (lv' := [(1, .int 0), (0, .ref g0)]) hx hb dX5_on_15 rfl hl (by decide) rfl (fun ls hl => ?_)
  refine xl_loopH (σ := Nat × (Nat → Int32)) (fun n q H locs ls => lv_has ls 2 [(1, .int (nI q.1)), (0, .ref g0)] ∧ va_P D vwCl [(g0, .inr (5, [.ref ra, .ref wa, .ref ta, .int 1, .ref ma, .int mkd, .ref pa, .int tpd, .int at0, .int wel, .ref ba, .ref ka, .int srt, .ref fa, .ref qa, .ref ea, .ref za, .ref ya, .int wks])), (wa, .inl (cI, 70, .inl q.2)), (ta, .inl (cI, 70, .inl th))] H ∧ va_D A [(g0, .inr (5, [.ref ra, .ref wa, .ref ta, .int 1, .ref ma, .int mkd, .ref pa, .int tpd, .int at0, .int wel, .ref ba, .ref ka, .int srt, .ref fa, .ref qa, .ref ea, .ref za, .ref ya, .int wks])), (wa, .inl (cI, 70, .inl q.2)), (ta, .inl (cI, 70, .inl th))] ∧ va_S A s.heap H locs ∧ (70 - q.1 < n) ∧ (q.1 ≤ 70) ∧ (q.2 = xCp th nw q.1)) (71) (0, nw) ⟨lv_sub hl [0, 1] rfl, hP.sub [0, 1, 2] rfl, hD.sub [0, 1, 2] (by decide) rfl, hS, by (try dsimp only); exact ⟨by omega, by omega, (xCp_0 th nw).symm⟩⟩ (fun q H lc ls h => absurd h.2.2.2.2.1 (Nat.not_lt_zero _)) ?_
  intro n_16 q_16 H locs ls ih_16 hI_16
  obtain ⟨hl, hP, hD, hS, hI_16⟩ := hI_16
  obtain ⟨k, f⟩ := q_16
  obtain ⟨h1, h2, h3⟩ := hI_16
  try dsimp only at hl hP hD h1 h2 h3
  refine lv_iload_n hx hb dX5_on_16 rfl (lv_at hl 0 rfl) ?_
  refine lv_bipush (v := 70) hx hb dX5_on_17 (by decide) ?_
  refine lv_icmp_ge (tgt := 40) hx hb dX5_on_19 (by decide) (fun c_2 => ?_) (fun c_2 => ?_)
  · refine lv_aload_n hx hb dX5_on_40 rfl (lv_at hl 1 rfl) ?_
    refine va_get (D := D) (ci := 5) (v := .ref wa) (C := RX5) (T := TX5) (N := 19) hx hb hts hwX5 hown hK hP 0 rfl rfl 1 (by decide) (hts (.fieldLink RX5 19 "WaitOrWalkOnModel" "now" "[I") (by decide +kernel)) (fun _ h9 => h9) rfl dX5_on_41 ?_
    refine lv_iconst (v := 0) hx hb dX5_on_44 (by decide) ?_
    refine va_iald (D := D) hx hb hK hP 1 0 rfl rfl (by unfold vp_in; decide +kernel) dX5_on_45 ?_
    refine xv_int (y := f 0) rfl ?_
    have hP9 := hP.sub (ws' := [(g0, .inr (5, [.ref ra, .ref wa, .ref ta, .int 1, .ref ma, .int mkd, .ref pa, .int tpd, .int at0, .int wel, .ref ba, .ref ka, .int srt, .ref fa, .ref qa, .ref ea, .ref za, .ref ya, .int wks])), (wa, .inl (cI, 70, .inl f)), (ta, .inl (cI, 70, .inl th))]) [0, 1, 2] rfl
    have hD9 := hD.sub (ws' := [(g0, .inr (5, [.ref ra, .ref wa, .ref ta, .int 1, .ref ma, .int mkd, .ref pa, .int tpd, .int at0, .int wel, .ref ba, .ref ka, .int srt, .ref fa, .ref qa, .ref ea, .ref za, .ref ya, .int wks])), (wa, .inl (cI, 70, .inl f)), (ta, .inl (cI, 70, .inl th))]) [0, 1, 2] (by decide) rfl
    have hE9 : ([(g0, .inr (5, [.ref ra, .ref wa, .ref ta, .int 1, .ref ma, .int mkd, .ref pa, .int tpd, .int at0, .int wel, .ref ba, .ref ka, .int srt, .ref fa, .ref qa, .ref ea, .ref za, .ref ya, .int wks])), (wa, .inl (cI, 70, .inl f)), (ta, .inl (cI, 70, .inl th))] : va_W) = [(g0, .inr (5, [.ref ra, .ref wa, .ref ta, .int 1, .ref ma, .int mkd, .ref pa, .int tpd, .int at0, .int wel, .ref ba, .ref ka, .int srt, .ref fa, .ref qa, .ref ea, .ref za, .ref ya, .int wks])), (wa, .inl (cI, 70, .inl (xCp th nw 70))), (ta, .inl (cI, 70, .inl th))] := by have w := mt (nI_ltI (a := k) (b := 70) (by omega) (by decide)).mpr (Int32.not_lt.mpr c_2); obtain rfl : k = 70 := (by omega); rw [h3]
    exact W.iret (v := f 0) hx hb hr (fun t ht hW => ⟨⟨_, (), rfl, by have w := mt (nI_ltI (a := k) (b := 70) (by omega) (by decide)).mpr (Int32.not_lt.mpr c_2); obtain rfl : k = 70 := (by omega); rw [h3], by rw [ht]; exact hE9 ▸ hP9, hE9 ▸ hD9⟩, hS.F ht⟩) hS.2.2 dX5_on_46
  · refine lv_aload_n hx hb dX5_on_22 rfl (lv_at hl 1 rfl) ?_
    refine va_get (D := D) (ci := 5) (v := .ref wa) (C := RX5) (T := TX5) (N := 19) hx hb hts hwX5 hown hK hP 0 rfl rfl 1 (by decide) (hts (.fieldLink RX5 19 "WaitOrWalkOnModel" "now" "[I") (by decide +kernel)) (fun _ h9 => h9) rfl dX5_on_23 ?_
    refine lv_iload_n hx hb dX5_on_26 rfl (lv_at hl 0 rfl) ?_
    refine lv_aload_n hx hb dX5_on_27 rfl (lv_at hl 1 rfl) ?_
    refine va_get (D := D) (ci := 5) (v := .ref ta) (C := RX5) (T := TX5) (N := 19) hx hb hts hwX5 hown hK hP 0 rfl rfl 2 (by decide) (hts (.fieldLink RX5 22 "WaitOrWalkOnModel" "then" "[I") (by decide +kernel)) (fun _ h9 => h9) rfl dX5_on_28 ?_
    refine lv_iload_n hx hb dX5_on_31 rfl (lv_at hl 0 rfl) ?_
    refine va_iald (D := D) hx hb hK hP 2 0 rfl rfl (vp_in_nI (by have w := (nI_ltI (a := k) (b := 70) (by omega) (by decide)).mp (Int32.not_le.mp c_2); exact w) (by decide)) dX5_on_32 ?_
    refine xv_int (y := th k) (congrArg th (nI_clamp (by omega))) ?_
    refine va_iast (D := D) hx hb hK hP hD hS 1 0 rfl rfl (vp_in_nI (by have w := (nI_ltI (a := k) (b := 70) (by omega) (by decide)).mp (Int32.not_le.mp c_2); exact w) (by decide)) dX5_on_33 (fun H locs hP hD hS => ?_)
    rw [nI_clamp (by omega)] at hP hD
    have hP : va_P D vwCl [(g0, .inr (5, [.ref ra, .ref wa, .ref ta, .int 1, .ref ma, .int mkd, .ref pa, .int tpd, .int at0, .int wel, .ref ba, .ref ka, .int srt, .ref fa, .ref qa, .ref ea, .ref za, .ref ya, .int wks])), (wa, .inl (cI, 70, .inl (upd f k (th k)))), (ta, .inl (cI, 70, .inl th))] H := hP
    have hD : va_D A [(g0, .inr (5, [.ref ra, .ref wa, .ref ta, .int 1, .ref ma, .int mkd, .ref pa, .int tpd, .int at0, .int wel, .ref ba, .ref ka, .int srt, .ref fa, .ref qa, .ref ea, .ref za, .ref ya, .int wks])), (wa, .inl (cI, 70, .inl (upd f k (th k)))), (ta, .inl (cI, 70, .inl th))] := hD
    refine lv_iinc (v := nI (k + 1)) (lv' := [(1, .int (nI (k + 1))), (0, .ref g0)]) hx hb dX5_on_34 hl (k := 0) rfl (nI_1 k) (by decide) rfl (fun ls hl => ?_)
    refine lv_goto (tgt := 16) hx hb dX5_on_37 (by decide) ?_
    have w := (nI_ltI (a := k) (b := 70) (by omega) (by decide)).mp (Int32.not_le.mp c_2)
    exact ih_16 (k + 1, upd f k (th k)) _ _ _ ⟨lv_sub hl [0, 1] rfl, hP.sub [0, 1, 2] rfl, hD.sub [0, 1, 2] (by decide) rfl, hS, by (try dsimp only); exact ⟨by omega, by omega, by rw [h3]; exact xCp_s th nw k⟩⟩
