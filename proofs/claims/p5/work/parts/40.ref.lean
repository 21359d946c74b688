set_option maxHeartbeats 4000000 in
set_option maxRecDepth 100000 in
theorem g_X5_image (l : Launch) (D : va_G) (cI cL cZ cC : ClassId) (sz : Nat) (g0 : Nat) (ra : Nat) (wa : Nat) (ta : Nat) (ma : Nat) (pa : Nat) (ba : Nat) (ka : Nat) (fa : Nat) (qa : Nat) (ea : Nat) (za : Nat) (ya : Nat) (kpt : Int32) (mkd : Int32) (tpd : Int32) (at0 : Int32) (wel : Int32) (srt : Int32) (wks : Int32) (nw : Nat → Int32) (th : Nat → Int32)  : Met l yX5_image wsX5_image ({ frames := 0, cells := 0, slots := 0, locals := 0 } : Room) (wPc D [.ref g0] [(g0, .inr (5, [.ref ra, .ref wa, .ref ta, .int kpt, .ref ma, .int mkd, .ref pa, .int tpd, .int at0, .int wel, .ref ba, .ref ka, .int srt, .ref fa, .ref qa, .ref ea, .ref za, .ref ya, .int wks])), (wa, .inl (cI, 70, .inl nw)), (ta, .inl (cI, 70, .inl th))] (xTy cI cL cZ cC) sz) (va_Qi (fun (r : Int32) (_ : Unit) => r = nw 0) (fun (_ : Unit) t => va_P D vwCl [(g0, .inr (5, [.ref ra, .ref wa, .ref ta, .int 1, .ref ma, .int mkd, .ref pa, .int tpd, .int at0, .int wel, .ref ba, .ref ka, .int srt, .ref fa, .ref qa, .ref ea, .ref za, .ref ya, .int wks])), (wa, .inl (cI, 70, .inl nw)), (ta, .inl (cI, 70, .inl (xCp nw th 70)))] t.heap ∧ va_D (va_A [(g0, .inr (5, [.ref ra, .ref wa, .ref ta, .int kpt, .ref ma, .int mkd, .ref pa, .int tpd, .int at0, .int wel, .ref ba, .ref ka, .int srt, .ref fa, .ref qa, .ref ea, .ref za, .ref ya, .int wks])), (wa, .inl (cI, 70, .inl nw)), (ta, .inl (cI, 70, .inl th))] sz) [(g0, .inr (5, [.ref ra, .ref wa, .ref ta, .int 1, .ref ma, .int mkd, .ref pa, .int tpd, .int at0, .int wel, .ref ba, .ref ka, .int srt, .ref fa, .ref qa, .ref ea, .ref za, .ref ya, .int wks])), (wa, .inl (cI, 70, .inl nw)), (ta, .inl (cI, 70, .inl (xCp nw th 70)))]) (va_A [(g0, .inr (5, [.ref ra, .ref wa, .ref ta, .int kpt, .ref ma, .int mkd, .ref pa, .int tpd, .int at0, .int wel, .ref ba, .ref ka, .int srt, .ref fa, .ref qa, .ref ea, .ref za, .ref ya, .int wks])), (wa, .inl (cI, 70, .inl nw)), (ta, .inl (cI, 70, .inl th))] sz)) 0 0 (va_A [(g0, .inr (5, [.ref ra, .ref wa, .ref ta, .int kpt, .ref ma, .int mkd, .ref pa, .int tpd, .int at0, .int wel, .ref ba, .ref ka, .int srt, .ref fa, .ref qa, .ref ea, .ref za, .ref ya, .int wks])), (wa, .inl (cI, 70, .inl nw)), (ta, .inl (cI, 70, .inl th))] sz) := by
  refine Met.ofW (cc := cX5_image) (maxL := 2) (ret := (some .int)) (by decide) rfl ?_
  intro p e s m args below meth c s₁ B hml hv
  obtain ⟨rfl, hsz, hP, hK, hD0⟩ := hv
  have hx := B.exec
  have hb := B.bytes
  have hr := B.returns
  have hts := atoms_spec (ws := wsX5_image) B.pre
  have hown : s.vm.findClass RX5 = some m.cls := findClass_of_methodNamed B.named
  have hlocks := B.notSynchronized
  have hwX5 : ∀ w ∈ u_ws RX5 TX5 19, w ∈ wsX5_image := fun _ h => List.mem_cons_of_mem _ (List.mem_append_right _ h)
  subst hsz
  have hD := hD0.self (sz := s.heap.size)
  generalize hAe : va_A [(g0, .inr (5, [.ref ra, .ref wa, .ref ta, .int kpt, .ref ma, .int mkd, .ref pa, .int tpd, .int at0, .int wel, .ref ba, .ref ka, .int srt, .ref fa, .ref qa, .ref ea, .ref za, .ref ya, .int wks])), (wa, .inl (cI, 70, .inl nw)), (ta, .inl (cI, 70, .inl th))] s.heap.size = A at hD ⊢
  have hA : ∀ q : Nat, s.heap.size ≤ q → A q := fun q h => by rw [← hAe]; exact Or.inr h
  have hS : va_S A s.heap s.heap [] := va_S.rf
  have hP : va_P D vwCl [(g0, .inr (5, [.ref ra, .ref wa, .ref ta, .int kpt, .ref ma, .int mkd, .ref pa, .int tpd, .int at0, .int wel, .ref ba, .ref ka, .int srt, .ref fa, .ref qa, .ref ea, .ref za, .ref ya, .int wks])), (wa, .inl (cI, 70, .inl nw)), (ta, .inl (cI, 70, .inl th))] s.heap := hP
  have hl := lv_entry ([.ref g0]) (n := 2) (Nat.le_of_ble_eq_true rfl)
  rw [lg_entry_eq]
  generalize (lg_sl ([.ref g0]) ++ List.replicate (2 - (lg_sl ([.ref g0])).length) Slot.unset).toArray = ls at hl ⊢
  have hl : lv_has ls 2 [(0, .ref g0)] := hl
  refine lv_aload_n hx hb dX5_image_0 rfl (lv_at hl 0 rfl) ?_
  refine lv_iconst (v := 1) hx hb dX5_image_1 (by decide) ?_
  refine va_put (D := D) (ci := 5) (v := .int 1) (ty := .boolean) (C := RX5) (T := TX5) (N := 19) hx hb hts hwX5 tyX5 tyX5_ok nmX5 hown hK hP hD hS 0 rfl rfl 3 (by decide) (hts (.fieldLink RX5 53 "WaitOrWalkOnModel" "kept" "Z") (by decide +kernel)) (fun _ h9 => h9) rfl (by decide +kernel) (by decide +kernel) rfl (Nat.le_of_ble_eq_true rfl) dX5_image_2 (fun H locs hP hD hS => ?_)
  have hP : va_P D vwCl [(g0, .inr (5, [.ref ra, .ref wa, .ref ta, .int 1, .ref ma, .int mkd, .ref pa, .int tpd, .int at0, .int wel, .ref ba, .ref ka, .int srt, .ref fa, .ref qa, .ref ea, .ref za, .ref ya, .int wks])), (wa, .inl (cI, 70, .inl nw)), (ta, .inl (cI, 70, .inl th))] H := hP
  have hD : va_D A [(g0, .inr (5, [.ref ra, .ref wa, .ref ta, .int 1, .ref ma, .int mkd, .ref pa, .int tpd, .int at0, .int wel, .ref ba, .ref ka, .int srt, .ref fa, .ref qa, .ref ea, .ref za, .ref ya, .int wks])), (wa, .inl (cI, 70, .inl nw)), (ta, .inl (cI, 70, .inl th))] := hD
  refine lv_iconst (v := 0) hx hb dX5_image_5 (by decide) ?_
  refine lv_istore_n (lv' := [(1, .int 0), (0, .ref g0)]) hx hb dX5_image_6 rfl hl (by decide) rfl (fun ls hl => ?_)
  refine xl_loopH (σ := Nat × (Nat → Int32)) (fun n q H locs ls => lv_has ls 2 [(1, .int (nI q.1)), (0, .ref g0)] ∧ va_P D vwCl [(g0, .inr (5, [.ref ra, .ref wa, .ref ta, .int 1, .ref ma, .int mkd, .ref pa, .int tpd, .int at0, .int wel, .ref ba, .ref ka, .int srt, .ref fa, .ref qa, .ref ea, .ref za, .ref ya, .int wks])), (wa, .inl (cI, 70, .inl nw)), (ta, .inl (cI, 70, .inl q.2))] H ∧ va_D A [(g0, .inr (5, [.ref ra, .ref wa, .ref ta, .int 1, .ref ma, .int mkd, .ref pa, .int tpd, .int at0, .int wel, .ref ba, .ref ka, .int srt, .ref fa, .ref qa, .ref ea, .ref za, .ref ya, .int wks])), (wa, .inl (cI, 70, .inl nw)), (ta, .inl (cI, 70, .inl q.2))] ∧ va_S A s.heap H locs ∧ (70 - q.1 < n) ∧ (q.1 ≤ 70) ∧ (q.2 = xCp nw th q.1)) (71) (0, th) ⟨lv_sub hl [0, 1] rfl, hP.sub [0, 1, 2] rfl, hD.sub [0, 1, 2] (by decide) rfl, hS, by (try dsimp only); exact ⟨by omega, by omega, (xCp_0 nw th).symm⟩⟩ (fun q H lc ls h => absurd h.2.2.2.2.1 (Nat.not_lt_zero _)) ?_
  intro n_7 q_7 H locs ls ih_7 hI_7
  obtain ⟨hl, hP, hD, hS, hI_7⟩ := hI_7
  obtain ⟨k, f⟩ := q_7
  obtain ⟨h1, h2, h3⟩ := hI_7
  try dsimp only at hl hP hD h1 h2 h3
  refine lv_iload_n hx hb dX5_image_7 rfl (lv_at hl 0 rfl) ?_
  refine lv_bipush (v := 70) hx hb dX5_image_8 (by decide) ?_
  refine lv_icmp_ge (tgt := 31) hx hb dX5_image_10 (by decide) (fun c_1 => ?_) (fun c_1 => ?_)
  · refine lv_aload_n hx hb dX5_image_31 rfl (lv_at hl 1 rfl) ?_
    refine va_get (D := D) (ci := 5) (v := .ref wa) (C := RX5) (T := TX5) (N := 19) hx hb hts hwX5 hown hK hP 0 rfl rfl 1 (by decide) (hts (.fieldLink RX5 19 "WaitOrWalkOnModel" "now" "[I") (by decide +kernel)) (fun _ h9 => h9) rfl dX5_image_32 ?_
    refine lv_iconst (v := 0) hx hb dX5_image_35 (by decide) ?_
    refine va_iald (D := D) hx hb hK hP 1 0 rfl rfl (by unfold vp_in; decide +kernel) dX5_image_36 ?_
    refine xv_int (y := nw 0) rfl ?_
    have hP9 := hP.sub (ws' := [(g0, .inr (5, [.ref ra, .ref wa, .ref ta, .int 1, .ref ma, .int mkd, .ref pa, .int tpd, .int at0, .int wel, .ref ba, .ref ka, .int srt, .ref fa, .ref qa, .ref ea, .ref za, .ref ya, .int wks])), (wa, .inl (cI, 70, .inl nw)), (ta, .inl (cI, 70, .inl f))]) [0, 1, 2] rfl
    have hD9 := hD.sub (ws' := [(g0, .inr (5, [.ref ra, .ref wa, .ref ta, .int 1, .ref ma, .int mkd, .ref pa, .int tpd, .int at0, .int wel, .ref ba, .ref ka, .int srt, .ref fa, .ref qa, .ref ea, .ref za, .ref ya, .int wks])), (wa, .inl (cI, 70, .inl nw)), (ta, .inl (cI, 70, .inl f))]) [0, 1, 2] (by decide) rfl
    have hE9 : ([(g0, .inr (5, [.ref ra, .ref wa, .ref ta, .int 1, .ref ma, .int mkd, .ref pa, .int tpd, .int at0, .int wel, .ref ba, .ref ka, .int srt, .ref fa, .ref qa, .ref ea, .ref za, .ref ya, .int wks])), (wa, .inl (cI, 70, .inl nw)), (ta, .inl (cI, 70, .inl f))] : va_W) = [(g0, .inr (5, [.ref ra, .ref wa, .ref ta, .int 1, .ref ma, .int mkd, .ref pa, .int tpd, .int at0, .int wel, .ref ba, .ref ka, .int srt, .ref fa, .ref qa, .ref ea, .ref za, .ref ya, .int wks])), (wa, .inl (cI, 70, .inl nw)), (ta, .inl (cI, 70, .inl (xCp nw th 70)))] := by have w := mt (nI_ltI (a := k) (b := 70) (by omega) (by decide)).mpr (Int32.not_lt.mpr c_1); obtain rfl : k = 70 := (by omega); rw [h3]
    exact W.iret (v := nw 0) hx hb hr (fun t ht hW => ⟨⟨_, (), rfl, rfl, by rw [ht]; exact hE9 ▸ hP9, hE9 ▸ hD9⟩, hS.F ht⟩) hS.2.2 dX5_image_37
  · refine lv_aload_n hx hb dX5_image_13 rfl (lv_at hl 1 rfl) ?_
    refine va_get (D := D) (ci := 5) (v := .ref ta) (C := RX5) (T := TX5) (N := 19) hx hb hts hwX5 hown hK hP 0 rfl rfl 2 (by decide) (hts (.fieldLink RX5 22 "WaitOrWalkOnModel" "then" "[I") (by decide +kernel)) (fun _ h9 => h9) rfl dX5_image_14 ?_
    refine lv_iload_n hx hb dX5_image_17 rfl (lv_at hl 0 rfl) ?_
    refine lv_aload_n hx hb dX5_image_18 rfl (lv_at hl 1 rfl) ?_
    refine va_get (D := D) (ci := 5) (v := .ref wa) (C := RX5) (T := TX5) (N := 19) hx hb hts hwX5 hown hK hP 0 rfl rfl 1 (by decide) (hts (.fieldLink RX5 19 "WaitOrWalkOnModel" "now" "[I") (by decide +kernel)) (fun _ h9 => h9) rfl dX5_image_19 ?_
    refine lv_iload_n hx hb dX5_image_22 rfl (lv_at hl 0 rfl) ?_
    refine va_iald (D := D) hx hb hK hP 1 0 rfl rfl (vp_in_nI (by have w := (nI_ltI (a := k) (b := 70) (by omega) (by decide)).mp (Int32.not_le.mp c_1); exact w) (by decide)) dX5_image_23 ?_
    refine xv_int (y := nw k) (congrArg nw (nI_clamp (by omega))) ?_
    refine va_iast (D := D) hx hb hK hP hD hS 2 0 rfl rfl (vp_in_nI (by have w := (nI_ltI (a := k) (b := 70) (by omega) (by decide)).mp (Int32.not_le.mp c_1); exact w) (by decide)) dX5_image_24 (fun H locs hP hD hS => ?_)
    rw [nI_clamp (by omega)] at hP hD
    have hP : va_P D vwCl [(g0, .inr (5, [.ref ra, .ref wa, .ref ta, .int 1, .ref ma, .int mkd, .ref pa, .int tpd, .int at0, .int wel, .ref ba, .ref ka, .int srt, .ref fa, .ref qa, .ref ea, .ref za, .ref ya, .int wks])), (wa, .inl (cI, 70, .inl nw)), (ta, .inl (cI, 70, .inl (upd f k (nw k))))] H := hP
    have hD : va_D A [(g0, .inr (5, [.ref ra, .ref wa, .ref ta, .int 1, .ref ma, .int mkd, .ref pa, .int tpd, .int at0, .int wel, .ref ba, .ref ka, .int srt, .ref fa, .ref qa, .ref ea, .ref za, .ref ya, .int wks])), (wa, .inl (cI, 70, .inl nw)), (ta, .inl (cI, 70, .inl (upd f k (nw k))))] := hD
    refine lv_iinc (v := nI (k + 1)) (lv' := [(1, .int (nI (k + 1))), (0, .ref g0)]) hx hb dX5_image_25 hl (k := 0) rfl (nI_1 k) (by decide) rfl (fun ls hl => ?_)
    refine lv_goto (tgt := 7) hx hb dX5_image_28 (by decide) ?_
    have w := (nI_ltI (a := k) (b := 70) (by omega) (by decide)).mp (Int32.not_le.mp c_1)
    exact ih_7 (k + 1, upd f k (nw k)) _ _ _ ⟨lv_sub hl [0, 1] rfl, hP.sub [0, 1, 2] rfl, hD.sub [0, 1, 2] (by decide) rfl, hS, by (try dsimp only); exact ⟨by omega, by omega, by rw [h3]; exact xCp_s nw th k⟩⟩
