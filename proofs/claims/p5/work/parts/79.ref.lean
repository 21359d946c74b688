set_option maxHeartbeats 4000000 in
set_option maxRecDepth 100000 in
theorem g_X5_come (l : Launch) (D : va_G) (cI cL cZ cC : ClassId) (sz : Nat) (g0 : Nat) (ra : Nat) (wa : Nat) (ta : Nat) (ma : Nat) (pa : Nat) (ba : Nat) (ka : Nat) (fa : Nat) (qa : Nat) (ea : Nat) (za : Nat) (ya : Nat) (kpt : Int32) (mkd : Int32) (tpd : Int32) (at0 : Int32) (wel : Int32) (srt : Int32) (wks : Int32) (st : Nat) (nw : Nat → Int32) (ln : Nat) (ff : Nat → Int32) (hn0 : nw 0 = nI st) (hs1 : 1 ≤ st) (hs7 : st ≤ 7) (hn3 : nw 3 = nI ln) (hln : ln ≤ 3) (hl3 : srt = 3 → ln < 3) : Met l yX5_come wsX5_come ({ frames := 0, cells := 0, slots := 0, locals := 0 } : Room) (wPc D [.ref g0] [(g0, .inr (5, [.ref ra, .ref wa, .ref ta, .int kpt, .ref ma, .int mkd, .ref pa, .int tpd, .int at0, .int wel, .ref ba, .ref ka, .int srt, .ref fa, .ref qa, .ref ea, .ref za, .ref ya, .int wks])), (wa, .inl (cI, 70, .inl nw)), (fa, .inl (cI, 15, .inl ff))] (xTy cI cL cZ cC) sz) (va_Qv (fun (_ : Unit) => True) (fun (_ : Unit) t => va_P D vwCl [(g0, .inr (5, [.ref ra, .ref wa, .ref ta, .int kpt, .ref ma, .int mkd, .ref pa, .int tpd, .int at0, .int wel, .ref ba, .ref ka, .int srt, .ref fa, .ref qa, .ref ea, .ref za, .ref ya, .int wks])), (wa, .inl (cI, 70, .inl (xCm srt ff nw st ln))), (fa, .inl (cI, 15, .inl ff))] t.heap ∧ va_D (va_A [(g0, .inr (5, [.ref ra, .ref wa, .ref ta, .int kpt, .ref ma, .int mkd, .ref pa, .int tpd, .int at0, .int wel, .ref ba, .ref ka, .int srt, .ref fa, .ref qa, .ref ea, .ref za, .ref ya, .int wks])), (wa, .inl (cI, 70, .inl nw)), (fa, .inl (cI, 15, .inl ff))] sz) [(g0, .inr (5, [.ref ra, .ref wa, .ref ta, .int kpt, .ref ma, .int mkd, .ref pa, .int tpd, .int at0, .int wel, .ref ba, .ref ka, .int srt, .ref fa, .ref qa, .ref ea, .ref za, .ref ya, .int wks])), (wa, .inl (cI, 70, .inl (xCm srt ff nw st ln))), (fa, .inl (cI, 15, .inl ff))]) (va_A [(g0, .inr (5, [.ref ra, .ref wa, .ref ta, .int kpt, .ref ma, .int mkd, .ref pa, .int tpd, .int at0, .int wel, .ref ba, .ref ka, .int srt, .ref fa, .ref qa, .ref ea, .ref za, .ref ya, .int wks])), (wa, .inl (cI, 70, .inl nw)), (fa, .inl (cI, 15, .inl ff))] sz)) 0 0 (va_A [(g0, .inr (5, [.ref ra, .ref wa, .ref ta, .int kpt, .ref ma, .int mkd, .ref pa, .int tpd, .int at0, .int wel, .ref ba, .ref ka, .int srt, .ref fa, .ref qa, .ref ea, .ref za, .ref ya, .int wks])), (wa, .inl (cI, 70, .inl nw)), (fa, .inl (cI, 15, .inl ff))] sz) := by
  refine Met.ofW (cc := cX5_come) (maxL := 2) (ret := none) (by decide) rfl ?_
  intro p e s m args below meth c s₁ B hml hv
  obtain ⟨rfl, hsz, hP, hK, hD0⟩ := hv
  have hx := B.exec
  have hb := B.bytes
  have hr := B.returns
  have hts := atoms_spec (ws := wsX5_come) B.pre
  have hown : s.vm.findClass RX5 = some m.cls := findClass_of_methodNamed B.named
  have hlocks := B.notSynchronized
  have hwX5 : ∀ w ∈ u_ws RX5 TX5 19, w ∈ wsX5_come := fun _ h => List.mem_cons_of_mem _ (List.mem_append_right _ h)
  subst hsz
  have hD := hD0.self (sz := s.heap.size)
  generalize hAe : va_A [(g0, .inr (5, [.ref ra, .ref wa, .ref ta, .int kpt, .ref ma, .int mkd, .ref pa, .int tpd, .int at0, .int wel, .ref ba, .ref ka, .int srt, .ref fa, .ref qa, .ref ea, .ref za, .ref ya, .int wks])), (wa, .inl (cI, 70, .inl nw)), (fa, .inl (cI, 15, .inl ff))] s.heap.size = A at hD ⊢
  have hA : ∀ q : Nat, s.heap.size ≤ q → A q := fun q h => by rw [← hAe]; exact Or.inr h
  have hS : va_S A s.heap s.heap [] := va_S.rf
  have hP : va_P D vwCl [(g0, .inr (5, [.ref ra, .ref wa, .ref ta, .int kpt, .ref ma, .int mkd, .ref pa, .int tpd, .int at0, .int wel, .ref ba, .ref ka, .int srt, .ref fa, .ref qa, .ref ea, .ref za, .ref ya, .int wks])), (wa, .inl (cI, 70, .inl nw)), (fa, .inl (cI, 15, .inl ff))] s.heap := hP
  have hl := lv_entry ([.ref g0]) (n := 2) (Nat.le_of_ble_eq_true rfl)
  rw [lg_entry_eq]
  generalize (lg_sl ([.ref g0]) ++ List.replicate (2 - (lg_sl ([.ref g0])).length) Slot.unset).toArray = ls at hl ⊢
  have hl : lv_has ls 2 [(0, .ref g0)] := hl
  refine lv_aload_n hx hb dX5_come_0 rfl (lv_at hl 0 rfl) ?_
  refine va_get (D := D) (ci := 5) (v := .int srt) (C := RX5) (T := TX5) (N := 19) hx hb hts hwX5 hown hK hP 0 rfl rfl 12 (by decide) (hts (.fieldLink RX5 75 "WaitOrWalkOnModel" "sort" "I") (by decide +kernel)) (fun _ h9 => h9) rfl dX5_come_1 ?_
  by_cases c_1 : srt = 0
  · refine lv_tableIn (off := 36) (tgt := 40) hx hb dX5_come_4 (by rw [c_1]; decide +kernel) (by rw [c_1]; decide +kernel) (by rw [c_1]; decide +kernel) (by decide) ?_
    refine lv_aload_n hx hb dX5_come_40 rfl (lv_at hl 0 rfl) ?_
    refine va_get (D := D) (ci := 5) (v := .ref wa) (C := RX5) (T := TX5) (N := 19) hx hb hts hwX5 hown hK hP 0 rfl rfl 1 (by decide) (hts (.fieldLink RX5 19 "WaitOrWalkOnModel" "now" "[I") (by decide +kernel)) (fun _ h9 => h9) rfl dX5_come_41 ?_
    refine lv_bipush (v := 10) hx hb dX5_come_44 (by decide) ?_
    refine lv_aload_n hx hb dX5_come_46 rfl (lv_at hl 0 rfl) ?_
    refine va_get (D := D) (ci := 5) (v := .ref wa) (C := RX5) (T := TX5) (N := 19) hx hb hts hwX5 hown hK hP 0 rfl rfl 1 (by decide) (hts (.fieldLink RX5 19 "WaitOrWalkOnModel" "now" "[I") (by decide +kernel)) (fun _ h9 => h9) rfl dX5_come_47 ?_
    refine lv_iconst (v := 0) hx hb dX5_come_50 (by decide) ?_
    refine va_iald (D := D) hx hb hK hP 1 0 rfl rfl (by unfold vp_in; decide +kernel) dX5_come_51 ?_
    refine xv_int (y := nw 0) rfl ?_
    refine xv_int (y := nI st) (hn0) ?_
    refine lv_iadd hx hb dX5_come_52 ?_
    refine xv_int (y := nI (10 + st)) (nI_add 10 st) ?_
    refine lv_aload_n hx hb dX5_come_53 rfl (lv_at hl 0 rfl) ?_
    refine va_get (D := D) (ci := 5) (v := .ref fa) (C := RX5) (T := TX5) (N := 19) hx hb hts hwX5 hown hK hP 0 rfl rfl 13 (by decide) (hts (.fieldLink RX5 38 "WaitOrWalkOnModel" "field" "[I") (by decide +kernel)) (fun _ h9 => h9) rfl dX5_come_54 ?_
    refine lv_iconst (v := 0) hx hb dX5_come_57 (by decide) ?_
    refine va_iald (D := D) hx hb hK hP 2 0 rfl rfl (by unfold vp_in; decide +kernel) dX5_come_58 ?_
    refine xv_int (y := ff 0) rfl ?_
    refine va_iast (D := D) hx hb hK hP hD hS 1 0 rfl rfl (vp_in_nI (by omega) (by decide)) dX5_come_59 (fun H locs hP hD hS => ?_)
    rw [nI_clamp (by omega)] at hP hD
    have hP : va_P D vwCl [(g0, .inr (5, [.ref ra, .ref wa, .ref ta, .int kpt, .ref ma, .int mkd, .ref pa, .int tpd, .int at0, .int wel, .ref ba, .ref ka, .int srt, .ref fa, .ref qa, .ref ea, .ref za, .ref ya, .int wks])), (wa, .inl (cI, 70, .inl (upd nw (10 + st) (ff 0)))), (fa, .inl (cI, 15, .inl ff))] H := hP
    have hD : va_D A [(g0, .inr (5, [.ref ra, .ref wa, .ref ta, .int kpt, .ref ma, .int mkd, .ref pa, .int tpd, .int at0, .int wel, .ref ba, .ref ka, .int srt, .ref fa, .ref qa, .ref ea, .ref za, .ref ya, .int wks])), (wa, .inl (cI, 70, .inl (upd nw (10 + st) (ff 0)))), (fa, .inl (cI, 15, .inl ff))] := hD
    refine lv_aload_n hx hb dX5_come_60 rfl (lv_at hl 0 rfl) ?_
    refine va_get (D := D) (ci := 5) (v := .ref wa) (C := RX5) (T := TX5) (N := 19) hx hb hts hwX5 hown hK hP 0 rfl rfl 1 (by decide) (hts (.fieldLink RX5 19 "WaitOrWalkOnModel" "now" "[I") (by decide +kernel)) (fun _ h9 => h9) rfl dX5_come_61 ?_
    refine lv_iconst (v := 0) hx hb dX5_come_64 (by decide) ?_
    refine lv_dup2_11 hx hb dX5_come_65 rfl rfl ?_
    refine va_iald (D := D) hx hb hK hP 1 0 rfl rfl (by unfold vp_in; decide +kernel) dX5_come_66 ?_
    refine xv_int (y := (upd nw (10 + st) (ff 0)) 0) rfl ?_
    refine xv_int (y := nI st) ((pk_un (show 0 ≠ 10 + st by omega)).trans hn0) ?_
    refine lv_iconst (v := 1) hx hb dX5_come_67 (by decide) ?_
    refine lv_iadd hx hb dX5_come_68 ?_
    refine xv_int (y := nI (st + 1)) (nI_1 st) ?_
    refine va_iast (D := D) hx hb hK hP hD hS 1 0 rfl rfl (by unfold vp_in; decide +kernel) dX5_come_69 (fun H locs hP hD hS => ?_)
    have hP : va_P D vwCl [(g0, .inr (5, [.ref ra, .ref wa, .ref ta, .int kpt, .ref ma, .int mkd, .ref pa, .int tpd, .int at0, .int wel, .ref ba, .ref ka, .int srt, .ref fa, .ref qa, .ref ea, .ref za, .ref ya, .int wks])), (wa, .inl (cI, 70, .inl (upd (upd nw (10 + st) (ff 0)) 0 (nI (st + 1))))), (fa, .inl (cI, 15, .inl ff))] H := hP
    have hD : va_D A [(g0, .inr (5, [.ref ra, .ref wa, .ref ta, .int kpt, .ref ma, .int mkd, .ref pa, .int tpd, .int at0, .int wel, .ref ba, .ref ka, .int srt, .ref fa, .ref qa, .ref ea, .ref za, .ref ya, .int wks])), (wa, .inl (cI, 70, .inl (upd (upd nw (10 + st) (ff 0)) 0 (nI (st + 1))))), (fa, .inl (cI, 15, .inl ff))] := hD
    refine lv_goto (tgt := 182) hx hb dX5_come_70 (by decide) ?_
    have hP9 := hP.sub (ws' := [(g0, .inr (5, [.ref ra, .ref wa, .ref ta, .int kpt, .ref ma, .int mkd, .ref pa, .int tpd, .int at0, .int wel, .ref ba, .ref ka, .int srt, .ref fa, .ref qa, .ref ea, .ref za, .ref ya, .int wks])), (wa, .inl (cI, 70, .inl (upd (upd nw (10 + st) (ff 0)) 0 (nI (st + 1))))), (fa, .inl (cI, 15, .inl ff))]) [0, 1, 2] rfl
    have hD9 := hD.sub (ws' := [(g0, .inr (5, [.ref ra, .ref wa, .ref ta, .int kpt, .ref ma, .int mkd, .ref pa, .int tpd, .int at0, .int wel, .ref ba, .ref ka, .int srt, .ref fa, .ref qa, .ref ea, .ref za, .ref ya, .int wks])), (wa, .inl (cI, 70, .inl (upd (upd nw (10 + st) (ff 0)) 0 (nI (st + 1))))), (fa, .inl (cI, 15, .inl ff))]) [0, 1, 2] (by decide) rfl
    have hE9 : ([(g0, .inr (5, [.ref ra, .ref wa, .ref ta, .int kpt, .ref ma, .int mkd, .ref pa, .int tpd, .int at0, .int wel, .ref ba, .ref ka, .int srt, .ref fa, .ref qa, .ref ea, .ref za, .ref ya, .int wks])), (wa, .inl (cI, 70, .inl (upd (upd nw (10 + st) (ff 0)) 0 (nI (st + 1))))), (fa, .inl (cI, 15, .inl ff))] : va_W) = [(g0, .inr (5, [.ref ra, .ref wa, .ref ta, .int kpt, .ref ma, .int mkd, .ref pa, .int tpd, .int at0, .int wel, .ref ba, .ref ka, .int srt, .ref fa, .ref qa, .ref ea, .ref za, .ref ya, .int wks])), (wa, .inl (cI, 70, .inl (xCm srt ff nw st ln))), (fa, .inl (cI, 15, .inl ff))] := by simp [xCm, c_1]
    exact W.vret hx hb hr (fun t ht hW => ⟨⟨(), rfl, trivial, by rw [ht]; exact hE9 ▸ hP9, hE9 ▸ hD9⟩, hS.F ht⟩) hS.2.2 dX5_come_182
  by_cases c_2 : srt = 1
  · refine lv_tableIn (off := 69) (tgt := 73) hx hb dX5_come_4 (by rw [c_2]; decide +kernel) (by rw [c_2]; decide +kernel) (by rw [c_2]; decide +kernel) (by decide) ?_
    refine lv_aload_n hx hb dX5_come_73 rfl (lv_at hl 0 rfl) ?_
    refine va_get (D := D) (ci := 5) (v := .ref wa) (C := RX5) (T := TX5) (N := 19) hx hb hts hwX5 hown hK hP 0 rfl rfl 1 (by decide) (hts (.fieldLink RX5 19 "WaitOrWalkOnModel" "now" "[I") (by decide +kernel)) (fun _ h9 => h9) rfl dX5_come_74 ?_
    refine lv_iconst (v := 1) hx hb dX5_come_77 (by decide) ?_
    refine lv_aload_n hx hb dX5_come_78 rfl (lv_at hl 0 rfl) ?_
    refine va_get (D := D) (ci := 5) (v := .ref fa) (C := RX5) (T := TX5) (N := 19) hx hb hts hwX5 hown hK hP 0 rfl rfl 13 (by decide) (hts (.fieldLink RX5 38 "WaitOrWalkOnModel" "field" "[I") (by decide +kernel)) (fun _ h9 => h9) rfl dX5_come_79 ?_
    refine lv_iconst (v := 0) hx hb dX5_come_82 (by decide) ?_
    refine va_iald (D := D) hx hb hK hP 2 0 rfl rfl (by unfold vp_in; decide +kernel) dX5_come_83 ?_
    refine xv_int (y := ff 0) rfl ?_
    refine va_iast (D := D) hx hb hK hP hD hS 1 0 rfl rfl (by unfold vp_in; decide +kernel) dX5_come_84 (fun H locs hP hD hS => ?_)
    have hP : va_P D vwCl [(g0, .inr (5, [.ref ra, .ref wa, .ref ta, .int kpt, .ref ma, .int mkd, .ref pa, .int tpd, .int at0, .int wel, .ref ba, .ref ka, .int srt, .ref fa, .ref qa, .ref ea, .ref za, .ref ya, .int wks])), (wa, .inl (cI, 70, .inl (upd nw 1 (ff 0)))), (fa, .inl (cI, 15, .inl ff))] H := hP
    have hD : va_D A [(g0, .inr (5, [.ref ra, .ref wa, .ref ta, .int kpt, .ref ma, .int mkd, .ref pa, .int tpd, .int at0, .int wel, .ref ba, .ref ka, .int srt, .ref fa, .ref qa, .ref ea, .ref za, .ref ya, .int wks])), (wa, .inl (cI, 70, .inl (upd nw 1 (ff 0)))), (fa, .inl (cI, 15, .inl ff))] := hD
    refine lv_goto (tgt := 182) hx hb dX5_come_85 (by decide) ?_
    have hP9 := hP.sub (ws' := [(g0, .inr (5, [.ref ra, .ref wa, .ref ta, .int kpt, .ref ma, .int mkd, .ref pa, .int tpd, .int at0, .int wel, .ref ba, .ref ka, .int srt, .ref fa, .ref qa, .ref ea, .ref za, .ref ya, .int wks])), (wa, .inl (cI, 70, .inl (upd nw 1 (ff 0)))), (fa, .inl (cI, 15, .inl ff))]) [0, 1, 2] rfl
    have hD9 := hD.sub (ws' := [(g0, .inr (5, [.ref ra, .ref wa, .ref ta, .int kpt, .ref ma, .int mkd, .ref pa, .int tpd, .int at0, .int wel, .ref ba, .ref ka, .int srt, .ref fa, .ref qa, .ref ea, .ref za, .ref ya, .int wks])), (wa, .inl (cI, 70, .inl (upd nw 1 (ff 0)))), (fa, .inl (cI, 15, .inl ff))]) [0, 1, 2] (by decide) rfl
    have hE9 : ([(g0, .inr (5, [.ref ra, .ref wa, .ref ta, .int kpt, .ref ma, .int mkd, .ref pa, .int tpd, .int at0, .int wel, .ref ba, .ref ka, .int srt, .ref fa, .ref qa, .ref ea, .ref za, .ref ya, .int wks])), (wa, .inl (cI, 70, .inl (upd nw 1 (ff 0)))), (fa, .inl (cI, 15, .inl ff))] : va_W) = [(g0, .inr (5, [.ref ra, .ref wa, .ref ta, .int kpt, .ref ma, .int mkd, .ref pa, .int tpd, .int at0, .int wel, .ref ba, .ref ka, .int srt, .ref fa, .ref qa, .ref ea, .ref za, .ref ya, .int wks])), (wa, .inl (cI, 70, .inl (xCm srt ff nw st ln))), (fa, .inl (cI, 15, .inl ff))] := by simp [xCm, c_1, c_2]
    exact W.vret hx hb hr (fun t ht hW => ⟨⟨(), rfl, trivial, by rw [ht]; exact hE9 ▸ hP9, hE9 ▸ hD9⟩, hS.F ht⟩) hS.2.2 dX5_come_182
  by_cases c_3 : srt = 2
  · refine lv_tableIn (off := 84) (tgt := 88) hx hb dX5_come_4 (by rw [c_3]; decide +kernel) (by rw [c_3]; decide +kernel) (by rw [c_3]; decide +kernel) (by decide) ?_
    refine lv_aload_n hx hb dX5_come_88 rfl (lv_at hl 0 rfl) ?_
    refine va_get (D := D) (ci := 5) (v := .ref wa) (C := RX5) (T := TX5) (N := 19) hx hb hts hwX5 hown hK hP 0 rfl rfl 1 (by decide) (hts (.fieldLink RX5 19 "WaitOrWalkOnModel" "now" "[I") (by decide +kernel)) (fun _ h9 => h9) rfl dX5_come_89 ?_
    refine lv_iconst (v := 2) hx hb dX5_come_92 (by decide) ?_
    refine lv_aload_n hx hb dX5_come_93 rfl (lv_at hl 0 rfl) ?_
    refine va_get (D := D) (ci := 5) (v := .ref fa) (C := RX5) (T := TX5) (N := 19) hx hb hts hwX5 hown hK hP 0 rfl rfl 13 (by decide) (hts (.fieldLink RX5 38 "WaitOrWalkOnModel" "field" "[I") (by decide +kernel)) (fun _ h9 => h9) rfl dX5_come_94 ?_
    refine lv_iconst (v := 0) hx hb dX5_come_97 (by decide) ?_
    refine va_iald (D := D) hx hb hK hP 2 0 rfl rfl (by unfold vp_in; decide +kernel) dX5_come_98 ?_
    refine xv_int (y := ff 0) rfl ?_
    refine va_iast (D := D) hx hb hK hP hD hS 1 0 rfl rfl (by unfold vp_in; decide +kernel) dX5_come_99 (fun H locs hP hD hS => ?_)
    have hP : va_P D vwCl [(g0, .inr (5, [.ref ra, .ref wa, .ref ta, .int kpt, .ref ma, .int mkd, .ref pa, .int tpd, .int at0, .int wel, .ref ba, .ref ka, .int srt, .ref fa, .ref qa, .ref ea, .ref za, .ref ya, .int wks])), (wa, .inl (cI, 70, .inl (upd nw 2 (ff 0)))), (fa, .inl (cI, 15, .inl ff))] H := hP
    have hD : va_D A [(g0, .inr (5, [.ref ra, .ref wa, .ref ta, .int kpt, .ref ma, .int mkd, .ref pa, .int tpd, .int at0, .int wel, .ref ba, .ref ka, .int srt, .ref fa, .ref qa, .ref ea, .ref za, .ref ya, .int wks])), (wa, .inl (cI, 70, .inl (upd nw 2 (ff 0)))), (fa, .inl (cI, 15, .inl ff))] := hD
    refine lv_goto (tgt := 182) hx hb dX5_come_100 (by decide) ?_
    have hP9 := hP.sub (ws' := [(g0, .inr (5, [.ref ra, .ref wa, .ref ta, .int kpt, .ref ma, .int mkd, .ref pa, .int tpd, .int at0, .int wel, .ref ba, .ref ka, .int srt, .ref fa, .ref qa, .ref ea, .ref za, .ref ya, .int wks])), (wa, .inl (cI, 70, .inl (upd nw 2 (ff 0)))), (fa, .inl (cI, 15, .inl ff))]) [0, 1, 2] rfl
    have hD9 := hD.sub (ws' := [(g0, .inr (5, [.ref ra, .ref wa, .ref ta, .int kpt, .ref ma, .int mkd, .ref pa, .int tpd, .int at0, .int wel, .ref ba, .ref ka, .int srt, .ref fa, .ref qa, .ref ea, .ref za, .ref ya, .int wks])), (wa, .inl (cI, 70, .inl (upd nw 2 (ff 0)))), (fa, .inl (cI, 15, .inl ff))]) [0, 1, 2] (by decide) rfl
    have hE9 : ([(g0, .inr (5, [.ref ra, .ref wa, .ref ta, .int kpt, .ref ma, .int mkd, .ref pa, .int tpd, .int at0, .int wel, .ref ba, .ref ka, .int srt, .ref fa, .ref qa, .ref ea, .ref za, .ref ya, .int wks])), (wa, .inl (cI, 70, .inl (upd nw 2 (ff 0)))), (fa, .inl (cI, 15, .inl ff))] : va_W) = [(g0, .inr (5, [.ref ra, .ref wa, .ref ta, .int kpt, .ref ma, .int mkd, .ref pa, .int tpd, .int at0, .int wel, .ref ba, .ref ka, .int srt, .ref fa, .ref qa, .ref ea, .ref za, .ref ya, .int wks])), (wa, .inl (cI, 70, .inl (xCm srt ff nw st ln))), (fa, .inl (cI, 15, .inl ff))] := by simp [xCm, c_1, c_2, c_3]
    exact W.vret hx hb hr (fun t ht hW => ⟨⟨(), rfl, trivial, by rw [ht]; exact hE9 ▸ hP9, hE9 ▸ hD9⟩, hS.F ht⟩) hS.2.2 dX5_come_182
  by_cases c_4 : srt = 3
  · refine lv_tableIn (off := 99) (tgt := 103) hx hb dX5_come_4 (by rw [c_4]; decide +kernel) (by rw [c_4]; decide +kernel) (by rw [c_4]; decide +kernel) (by decide) ?_
    refine lv_iconst (v := 0) hx hb dX5_come_103 (by decide) ?_
    refine lv_istore_n (lv' := [(1, .int 0), (0, .ref g0)]) hx hb dX5_come_104 rfl hl (by decide) rfl (fun ls hl => ?_)
    refine xl_loopH (σ := Nat × (Nat → Int32)) (fun n q H locs ls => lv_has ls 2 [(1, .int (nI q.1)), (0, .ref g0)] ∧ va_P D vwCl [(g0, .inr (5, [.ref ra, .ref wa, .ref ta, .int kpt, .ref ma, .int mkd, .ref pa, .int tpd, .int at0, .int wel, .ref ba, .ref ka, .int srt, .ref fa, .ref qa, .ref ea, .ref za, .ref ya, .int wks])), (wa, .inl (cI, 70, .inl q.2)), (fa, .inl (cI, 15, .inl ff))] H ∧ va_D A [(g0, .inr (5, [.ref ra, .ref wa, .ref ta, .int kpt, .ref ma, .int mkd, .ref pa, .int tpd, .int at0, .int wel, .ref ba, .ref ka, .int srt, .ref fa, .ref qa, .ref ea, .ref za, .ref ya, .int wks])), (wa, .inl (cI, 70, .inl q.2)), (fa, .inl (cI, 15, .inl ff))] ∧ va_S A s.heap H locs ∧ (15 - q.1 < n) ∧ (q.1 ≤ 15) ∧ (q.2 = xCw ff nw (20 + 16 * ln) q.1)) (16) (0, nw) ⟨lv_sub hl [0, 1] rfl, hP.sub [0, 1, 2] rfl, hD.sub [0, 1, 2] (by decide) rfl, hS, by (try dsimp only); exact ⟨by omega, by omega, rfl⟩⟩ (fun q H lc ls h => absurd h.2.2.2.2.1 (Nat.not_lt_zero _)) ?_
    intro n_105 q_105 H locs ls ih_105 hI_105
    obtain ⟨hl, hP, hD, hS, hI_105⟩ := hI_105
    obtain ⟨k, g⟩ := q_105
    obtain ⟨h1, h2, h3⟩ := hI_105
    try dsimp only at hl hP hD h1 h2 h3
    refine lv_iload_n hx hb dX5_come_105 rfl (lv_at hl 0 rfl) ?_
    refine lv_bipush (v := 15) hx hb dX5_come_106 (by decide) ?_
    refine lv_icmp_ge (tgt := 142) hx hb dX5_come_108 (by decide) (fun c_5 => ?_) (fun c_5 => ?_)
    · refine lv_aload_n hx hb dX5_come_142 rfl (lv_at hl 1 rfl) ?_
      refine va_get (D := D) (ci := 5) (v := .ref wa) (C := RX5) (T := TX5) (N := 19) hx hb hts hwX5 hown hK hP 0 rfl rfl 1 (by decide) (hts (.fieldLink RX5 19 "WaitOrWalkOnModel" "now" "[I") (by decide +kernel)) (fun _ h9 => h9) rfl dX5_come_143 ?_
      refine lv_iconst (v := 3) hx hb dX5_come_146 (by decide) ?_
      refine lv_dup2_11 hx hb dX5_come_147 rfl rfl ?_
      refine va_iald (D := D) hx hb hK hP 1 0 rfl rfl (by unfold vp_in; decide +kernel) dX5_come_148 ?_
      refine xv_int (y := g 3) rfl ?_
      refine xv_int (y := nI ln) (by rw [h3]; exact (xCw_lo ff nw (by omega) k).trans hn3) ?_
      refine lv_iconst (v := 1) hx hb dX5_come_149 (by decide) ?_
      refine lv_iadd hx hb dX5_come_150 ?_
      refine xv_int (y := nI (ln + 1)) (nI_1 ln) ?_
      refine va_iast (D := D) hx hb hK hP hD hS 1 0 rfl rfl (by unfold vp_in; decide +kernel) dX5_come_151 (fun H locs hP hD hS => ?_)
      have hP : va_P D vwCl [(g0, .inr (5, [.ref ra, .ref wa, .ref ta, .int kpt, .ref ma, .int mkd, .ref pa, .int tpd, .int at0, .int wel, .ref ba, .ref ka, .int srt, .ref fa, .ref qa, .ref ea, .ref za, .ref ya, .int wks])), (wa, .inl (cI, 70, .inl (upd g 3 (nI (ln + 1))))), (fa, .inl (cI, 15, .inl ff))] H := hP
      have hD : va_D A [(g0, .inr (5, [.ref ra, .ref wa, .ref ta, .int kpt, .ref ma, .int mkd, .ref pa, .int tpd, .int at0, .int wel, .ref ba, .ref ka, .int srt, .ref fa, .ref qa, .ref ea, .ref za, .ref ya, .int wks])), (wa, .inl (cI, 70, .inl (upd g 3 (nI (ln + 1))))), (fa, .inl (cI, 15, .inl ff))] := hD
      refine lv_goto (tgt := 182) hx hb dX5_come_152 (by decide) ?_
      have hP9 := hP.sub (ws' := [(g0, .inr (5, [.ref ra, .ref wa, .ref ta, .int kpt, .ref ma, .int mkd, .ref pa, .int tpd, .int at0, .int wel, .ref ba, .ref ka, .int srt, .ref fa, .ref qa, .ref ea, .ref za, .ref ya, .int wks])), (wa, .inl (cI, 70, .inl (upd g 3 (nI (ln + 1))))), (fa, .inl (cI, 15, .inl ff))]) [0, 1, 2] rfl
      have hD9 := hD.sub (ws' := [(g0, .inr (5, [.ref ra, .ref wa, .ref ta, .int kpt, .ref ma, .int mkd, .ref pa, .int tpd, .int at0, .int wel, .ref ba, .ref ka, .int srt, .ref fa, .ref qa, .ref ea, .ref za, .ref ya, .int wks])), (wa, .inl (cI, 70, .inl (upd g 3 (nI (ln + 1))))), (fa, .inl (cI, 15, .inl ff))]) [0, 1, 2] (by decide) rfl
      have hE9 : ([(g0, .inr (5, [.ref ra, .ref wa, .ref ta, .int kpt, .ref ma, .int mkd, .ref pa, .int tpd, .int at0, .int wel, .ref ba, .ref ka, .int srt, .ref fa, .ref qa, .ref ea, .ref za, .ref ya, .int wks])), (wa, .inl (cI, 70, .inl (upd g 3 (nI (ln + 1))))), (fa, .inl (cI, 15, .inl ff))] : va_W) = [(g0, .inr (5, [.ref ra, .ref wa, .ref ta, .int kpt, .ref ma, .int mkd, .ref pa, .int tpd, .int at0, .int wel, .ref ba, .ref ka, .int srt, .ref fa, .ref qa, .ref ea, .ref za, .ref ya, .int wks])), (wa, .inl (cI, 70, .inl (xCm srt ff nw st ln))), (fa, .inl (cI, 15, .inl ff))] := by have w := mt (nI_ltI (a := k) (b := 15) (by omega) (by omega)).mpr (Int32.not_lt.mpr c_5); obtain rfl : k = 15 := (by omega); rw [h3]; simp [xCm, c_1, c_2, c_3, c_4]
      exact W.vret hx hb hr (fun t ht hW => ⟨⟨(), rfl, trivial, by rw [ht]; exact hE9 ▸ hP9, hE9 ▸ hD9⟩, hS.F ht⟩) hS.2.2 dX5_come_182
    · refine lv_aload_n hx hb dX5_come_111 rfl (lv_at hl 1 rfl) ?_
      refine va_get (D := D) (ci := 5) (v := .ref wa) (C := RX5) (T := TX5) (N := 19) hx hb hts hwX5 hown hK hP 0 rfl rfl 1 (by decide) (hts (.fieldLink RX5 19 "WaitOrWalkOnModel" "now" "[I") (by decide +kernel)) (fun _ h9 => h9) rfl dX5_come_112 ?_
      refine lv_bipush (v := 20) hx hb dX5_come_115 (by decide) ?_
      refine lv_bipush (v := 16) hx hb dX5_come_117 (by decide) ?_
      refine lv_aload_n hx hb dX5_come_119 rfl (lv_at hl 1 rfl) ?_
      refine va_get (D := D) (ci := 5) (v := .ref wa) (C := RX5) (T := TX5) (N := 19) hx hb hts hwX5 hown hK hP 0 rfl rfl 1 (by decide) (hts (.fieldLink RX5 19 "WaitOrWalkOnModel" "now" "[I") (by decide +kernel)) (fun _ h9 => h9) rfl dX5_come_120 ?_
      refine lv_iconst (v := 3) hx hb dX5_come_123 (by decide) ?_
      refine va_iald (D := D) hx hb hK hP 1 0 rfl rfl (by unfold vp_in; decide +kernel) dX5_come_124 ?_
      refine xv_int (y := g 3) rfl ?_
      refine xv_int (y := nI ln) (by rw [h3]; exact (xCw_lo ff nw (by omega) k).trans hn3) ?_
      refine lv_imul hx hb dX5_come_125 ?_
      refine xv_int (y := nI (16 * ln)) (pk_mul 16 ln) ?_
      refine lv_iadd hx hb dX5_come_126 ?_
      refine xv_int (y := nI (20 + 16 * ln)) (nI_add 20 _) ?_
      refine lv_iload_n hx hb dX5_come_127 rfl (lv_at hl 0 rfl) ?_
      refine lv_iadd hx hb dX5_come_128 ?_
      refine xv_int (y := nI (20 + 16 * ln + k)) (nI_add _ k) ?_
      refine lv_aload_n hx hb dX5_come_129 rfl (lv_at hl 1 rfl) ?_
      refine va_get (D := D) (ci := 5) (v := .ref fa) (C := RX5) (T := TX5) (N := 19) hx hb hts hwX5 hown hK hP 0 rfl rfl 13 (by decide) (hts (.fieldLink RX5 38 "WaitOrWalkOnModel" "field" "[I") (by decide +kernel)) (fun _ h9 => h9) rfl dX5_come_130 ?_
      refine lv_iload_n hx hb dX5_come_133 rfl (lv_at hl 0 rfl) ?_
      refine va_iald (D := D) hx hb hK hP 2 0 rfl rfl (vp_in_nI ((nI_ltI (a := k) (b := 15) (by omega) (by omega)).mp (Int32.not_le.mp c_5)) (by decide)) dX5_come_134 ?_
      refine xv_int (y := ff k) (congrArg ff (nI_clamp (by omega))) ?_
      refine va_iast (D := D) hx hb hK hP hD hS 1 0 rfl rfl (vp_in_nI (by have w := (nI_ltI (a := k) (b := 15) (by omega) (by omega)).mp (Int32.not_le.mp c_5); have w2 := hl3 c_4; omega) (by decide)) dX5_come_135 (fun H locs hP hD hS => ?_)
      rw [nI_clamp (by omega)] at hP hD
      have hP : va_P D vwCl [(g0, .inr (5, [.ref ra, .ref wa, .ref ta, .int kpt, .ref ma, .int mkd, .ref pa, .int tpd, .int at0, .int wel, .ref ba, .ref ka, .int srt, .ref fa, .ref qa, .ref ea, .ref za, .ref ya, .int wks])), (wa, .inl (cI, 70, .inl (upd g (20 + 16 * ln + k) (ff k)))), (fa, .inl (cI, 15, .inl ff))] H := hP
      have hD : va_D A [(g0, .inr (5, [.ref ra, .ref wa, .ref ta, .int kpt, .ref ma, .int mkd, .ref pa, .int tpd, .int at0, .int wel, .ref ba, .ref ka, .int srt, .ref fa, .ref qa, .ref ea, .ref za, .ref ya, .int wks])), (wa, .inl (cI, 70, .inl (upd g (20 + 16 * ln + k) (ff k)))), (fa, .inl (cI, 15, .inl ff))] := hD
      refine lv_iinc (v := nI (k + 1)) (lv' := [(1, .int (nI (k + 1))), (0, .ref g0)]) hx hb dX5_come_136 hl (k := 0) rfl (nI_1 k) (by decide) rfl (fun ls hl => ?_)
      refine lv_goto (tgt := 105) hx hb dX5_come_139 (by decide) ?_
      have w := (nI_ltI (a := k) (b := 15) (by omega) (by omega)).mp (Int32.not_le.mp c_5)
      exact ih_105 (k + 1, upd g (20 + 16 * ln + k) (ff k)) _ _ _ ⟨lv_sub hl [0, 1] rfl, hP.sub [0, 1, 2] rfl, hD.sub [0, 1, 2] (by decide) rfl, hS, by (try dsimp only); exact ⟨by omega, by omega, by rw [h3]; rfl⟩⟩
  by_cases c_6 : srt = 4
  · refine lv_tableIn (off := 151) (tgt := 155) hx hb dX5_come_4 (by rw [c_6]; decide +kernel) (by rw [c_6]; decide +kernel) (by rw [c_6]; decide +kernel) (by decide) ?_
    refine lv_aload_n hx hb dX5_come_155 rfl (lv_at hl 0 rfl) ?_
    refine va_get (D := D) (ci := 5) (v := .ref wa) (C := RX5) (T := TX5) (N := 19) hx hb hts hwX5 hown hK hP 0 rfl rfl 1 (by decide) (hts (.fieldLink RX5 19 "WaitOrWalkOnModel" "now" "[I") (by decide +kernel)) (fun _ h9 => h9) rfl dX5_come_156 ?_
    refine lv_iconst (v := 4) hx hb dX5_come_159 (by decide) ?_
    refine lv_aload_n hx hb dX5_come_160 rfl (lv_at hl 0 rfl) ?_
    refine va_get (D := D) (ci := 5) (v := .ref fa) (C := RX5) (T := TX5) (N := 19) hx hb hts hwX5 hown hK hP 0 rfl rfl 13 (by decide) (hts (.fieldLink RX5 38 "WaitOrWalkOnModel" "field" "[I") (by decide +kernel)) (fun _ h9 => h9) rfl dX5_come_161 ?_
    refine lv_iconst (v := 0) hx hb dX5_come_164 (by decide) ?_
    refine va_iald (D := D) hx hb hK hP 2 0 rfl rfl (by unfold vp_in; decide +kernel) dX5_come_165 ?_
    refine xv_int (y := ff 0) rfl ?_
    refine va_iast (D := D) hx hb hK hP hD hS 1 0 rfl rfl (by unfold vp_in; decide +kernel) dX5_come_166 (fun H locs hP hD hS => ?_)
    have hP : va_P D vwCl [(g0, .inr (5, [.ref ra, .ref wa, .ref ta, .int kpt, .ref ma, .int mkd, .ref pa, .int tpd, .int at0, .int wel, .ref ba, .ref ka, .int srt, .ref fa, .ref qa, .ref ea, .ref za, .ref ya, .int wks])), (wa, .inl (cI, 70, .inl (upd nw 4 (ff 0)))), (fa, .inl (cI, 15, .inl ff))] H := hP
    have hD : va_D A [(g0, .inr (5, [.ref ra, .ref wa, .ref ta, .int kpt, .ref ma, .int mkd, .ref pa, .int tpd, .int at0, .int wel, .ref ba, .ref ka, .int srt, .ref fa, .ref qa, .ref ea, .ref za, .ref ya, .int wks])), (wa, .inl (cI, 70, .inl (upd nw 4 (ff 0)))), (fa, .inl (cI, 15, .inl ff))] := hD
    refine lv_goto (tgt := 182) hx hb dX5_come_167 (by decide) ?_
    have hP9 := hP.sub (ws' := [(g0, .inr (5, [.ref ra, .ref wa, .ref ta, .int kpt, .ref ma, .int mkd, .ref pa, .int tpd, .int at0, .int wel, .ref ba, .ref ka, .int srt, .ref fa, .ref qa, .ref ea, .ref za, .ref ya, .int wks])), (wa, .inl (cI, 70, .inl (upd nw 4 (ff 0)))), (fa, .inl (cI, 15, .inl ff))]) [0, 1, 2] rfl
    have hD9 := hD.sub (ws' := [(g0, .inr (5, [.ref ra, .ref wa, .ref ta, .int kpt, .ref ma, .int mkd, .ref pa, .int tpd, .int at0, .int wel, .ref ba, .ref ka, .int srt, .ref fa, .ref qa, .ref ea, .ref za, .ref ya, .int wks])), (wa, .inl (cI, 70, .inl (upd nw 4 (ff 0)))), (fa, .inl (cI, 15, .inl ff))]) [0, 1, 2] (by decide) rfl
    have hE9 : ([(g0, .inr (5, [.ref ra, .ref wa, .ref ta, .int kpt, .ref ma, .int mkd, .ref pa, .int tpd, .int at0, .int wel, .ref ba, .ref ka, .int srt, .ref fa, .ref qa, .ref ea, .ref za, .ref ya, .int wks])), (wa, .inl (cI, 70, .inl (upd nw 4 (ff 0)))), (fa, .inl (cI, 15, .inl ff))] : va_W) = [(g0, .inr (5, [.ref ra, .ref wa, .ref ta, .int kpt, .ref ma, .int mkd, .ref pa, .int tpd, .int at0, .int wel, .ref ba, .ref ka, .int srt, .ref fa, .ref qa, .ref ea, .ref za, .ref ya, .int wks])), (wa, .inl (cI, 70, .inl (xCm srt ff nw st ln))), (fa, .inl (cI, 15, .inl ff))] := by simp [xCm, c_1, c_2, c_3, c_4, c_6]
    exact W.vret hx hb hr (fun t ht hW => ⟨⟨(), rfl, trivial, by rw [ht]; exact hE9 ▸ hP9, hE9 ▸ hD9⟩, hS.F ht⟩) hS.2.2 dX5_come_182
  refine lv_tableOut (tgt := 170) hx hb dX5_come_4 (by have q_1 : ¬ (srt).toInt = 0 := mt (xi_eq (srt) 0).mpr c_1; have q_2 : ¬ (srt).toInt = 1 := mt (xi_eq (srt) 1).mpr c_2; have q_3 : ¬ (srt).toInt = 2 := mt (xi_eq (srt) 2).mpr c_3; have q_4 : ¬ (srt).toInt = 3 := mt (xi_eq (srt) 3).mpr c_4; have q_6 : ¬ (srt).toInt = 4 := mt (xi_eq (srt) 4).mpr c_6; omega) (by decide) ?_
  refine lv_aload_n hx hb dX5_come_170 rfl (lv_at hl 0 rfl) ?_
  refine va_get (D := D) (ci := 5) (v := .ref wa) (C := RX5) (T := TX5) (N := 19) hx hb hts hwX5 hown hK hP 0 rfl rfl 1 (by decide) (hts (.fieldLink RX5 19 "WaitOrWalkOnModel" "now" "[I") (by decide +kernel)) (fun _ h9 => h9) rfl dX5_come_171 ?_
  refine lv_iconst (v := 5) hx hb dX5_come_174 (by decide) ?_
  refine lv_aload_n hx hb dX5_come_175 rfl (lv_at hl 0 rfl) ?_
  refine va_get (D := D) (ci := 5) (v := .ref fa) (C := RX5) (T := TX5) (N := 19) hx hb hts hwX5 hown hK hP 0 rfl rfl 13 (by decide) (hts (.fieldLink RX5 38 "WaitOrWalkOnModel" "field" "[I") (by decide +kernel)) (fun _ h9 => h9) rfl dX5_come_176 ?_
  refine lv_iconst (v := 0) hx hb dX5_come_179 (by decide) ?_
  refine va_iald (D := D) hx hb hK hP 2 0 rfl rfl (by unfold vp_in; decide +kernel) dX5_come_180 ?_
  refine xv_int (y := ff 0) rfl ?_
  refine va_iast (D := D) hx hb hK hP hD hS 1 0 rfl rfl (by unfold vp_in; decide +kernel) dX5_come_181 (fun H locs hP hD hS => ?_)
  have hP : va_P D vwCl [(g0, .inr (5, [.ref ra, .ref wa, .ref ta, .int kpt, .ref ma, .int mkd, .ref pa, .int tpd, .int at0, .int wel, .ref ba, .ref ka, .int srt, .ref fa, .ref qa, .ref ea, .ref za, .ref ya, .int wks])), (wa, .inl (cI, 70, .inl (upd nw 5 (ff 0)))), (fa, .inl (cI, 15, .inl ff))] H := hP
  have hD : va_D A [(g0, .inr (5, [.ref ra, .ref wa, .ref ta, .int kpt, .ref ma, .int mkd, .ref pa, .int tpd, .int at0, .int wel, .ref ba, .ref ka, .int srt, .ref fa, .ref qa, .ref ea, .ref za, .ref ya, .int wks])), (wa, .inl (cI, 70, .inl (upd nw 5 (ff 0)))), (fa, .inl (cI, 15, .inl ff))] := hD
  have hP9 := hP.sub (ws' := [(g0, .inr (5, [.ref ra, .ref wa, .ref ta, .int kpt, .ref ma, .int mkd, .ref pa, .int tpd, .int at0, .int wel, .ref ba, .ref ka, .int srt, .ref fa, .ref qa, .ref ea, .ref za, .ref ya, .int wks])), (wa, .inl (cI, 70, .inl (upd nw 5 (ff 0)))), (fa, .inl (cI, 15, .inl ff))]) [0, 1, 2] rfl
  have hD9 := hD.sub (ws' := [(g0, .inr (5, [.ref ra, .ref wa, .ref ta, .int kpt, .ref ma, .int mkd, .ref pa, .int tpd, .int at0, .int wel, .ref ba, .ref ka, .int srt, .ref fa, .ref qa, .ref ea, .ref za, .ref ya, .int wks])), (wa, .inl (cI, 70, .inl (upd nw 5 (ff 0)))), (fa, .inl (cI, 15, .inl ff))]) [0, 1, 2] (by decide) rfl
  have hE9 : ([(g0, .inr (5, [.ref ra, .ref wa, .ref ta, .int kpt, .ref ma, .int mkd, .ref pa, .int tpd, .int at0, .int wel, .ref ba, .ref ka, .int srt, .ref fa, .ref qa, .ref ea, .ref za, .ref ya, .int wks])), (wa, .inl (cI, 70, .inl (upd nw 5 (ff 0)))), (fa, .inl (cI, 15, .inl ff))] : va_W) = [(g0, .inr (5, [.ref ra, .ref wa, .ref ta, .int kpt, .ref ma, .int mkd, .ref pa, .int tpd, .int at0, .int wel, .ref ba, .ref ka, .int srt, .ref fa, .ref qa, .ref ea, .ref za, .ref ya, .int wks])), (wa, .inl (cI, 70, .inl (xCm srt ff nw st ln))), (fa, .inl (cI, 15, .inl ff))] := by simp [xCm, c_1, c_2, c_3, c_4, c_6]
  exact W.vret hx hb hr (fun t ht hW => ⟨⟨(), rfl, trivial, by rw [ht]; exact hE9 ▸ hP9, hE9 ▸ hD9⟩, hS.F ht⟩) hS.2.2 dX5_come_182
