set_option maxHeartbeats 4000000 in
set_option maxRecDepth 100000 in
theorem g_X5_isFigure (l : Launch) (D : va_G) (cI cL cZ cC : ClassId) (g0 : Nat) (ra : Nat) (wa : Nat) (ta : Nat) (ma : Nat) (pa : Nat) (ba : Nat) (ka : Nat) (fa : Nat) (qa : Nat) (ea : Nat) (za : Nat) (ya : Nat) (kpt : Int32) (mkd : Int32) (srt : Int32) (wks : Int32) (tn : Nat) (p9 : Nat × Int32) (lt : Nat → Int32) (htn : tn ≤ 96) (hp9 : p9.1 ≤ tn) : Met l yX5_isFigure wsX5_isFigure ({ frames := 0, cells := 0, slots := 0, locals := 0 } : Room) (xPc D [.ref g0] [(g0, .inr (5, [.ref ra, .ref wa, .ref ta, .int kpt, .ref ma, .int mkd, .ref pa, .int (nI tn), .int (nI p9.1), .int p9.2, .ref ba, .ref ka, .int srt, .ref fa, .ref qa, .ref ea, .ref za, .ref ya, .int wks])), (pa, .inl (cI, 96, .inl lt))] (xTy cI cL cZ cC)) (vp_Si (fun r : Int32 => r = xFg lt tn p9)) 0 0 (fun _ => False) := by
  refine Met.ofW (cc := cX5_isFigure) (maxL := 1) (ret := (some .boolean)) (by decide) rfl ?_
  intro p e s m args below meth c s₁ B hml hv
  obtain ⟨rfl, hP, hK⟩ := hv
  have hx := B.exec
  have hb := B.bytes
  have hr := B.returns
  have hts := atoms_spec (ws := wsX5_isFigure) B.pre
  have hown : s.vm.findClass RX5 = some m.cls := findClass_of_methodNamed B.named
  have hlocks := B.notSynchronized
  have hwX5 : ∀ w ∈ u_ws RX5 TX5 19, w ∈ wsX5_isFigure := fun _ h => List.mem_cons_of_mem _ (List.mem_append_right _ h)
  have hl := lv_entry ([.ref g0]) (n := 1) (Nat.le_of_ble_eq_true rfl)
  rw [lg_entry_eq]
  generalize (lg_sl ([.ref g0]) ++ List.replicate (1 - (lg_sl ([.ref g0])).length) Slot.unset).toArray = ls at hl ⊢
  have hl : lv_has ls 1 [(0, .ref g0)] := hl
  refine lv_aload_n hx hb dX5_isFigure_0 rfl (lv_at hl 0 rfl) ?_
  refine va_get (D := D) (ci := 5) (v := .int p9.2) (C := RX5) (T := TX5) (N := 19) hx hb hts hwX5 hown hK hP 0 rfl rfl 9 (by decide) (hts (.fieldLink RX5 61 "WaitOrWalkOnModel" "well" "Z") (by decide +kernel)) (fun _ h9 => h9) rfl dX5_isFigure_1 ?_
  refine lv_if_eq (tgt := 50) hx hb dX5_isFigure_4 (by decide) (fun c_1 => ?_) (fun c_1 => ?_)
  · refine lv_iconst (v := 0) hx hb dX5_isFigure_50 (by decide) ?_
    exact W.zret (v := 0) (ty := .boolean) hx hb hr (by decide +kernel) (fun t ht hW => ⟨_, rfl, (by rw [xFg, if_pos c_1]), ht⟩) (fun _ h => absurd h List.not_mem_nil) dX5_isFigure_51
  · refine lv_aload_n hx hb dX5_isFigure_7 rfl (lv_at hl 0 rfl) ?_
    refine va_get (D := D) (ci := 5) (v := .int (nI p9.1)) (C := RX5) (T := TX5) (N := 19) hx hb hts hwX5 hown hK hP 0 rfl rfl 8 (by decide) (hts (.fieldLink RX5 64 "WaitOrWalkOnModel" "at" "I") (by decide +kernel)) (fun _ h9 => h9) rfl dX5_isFigure_8 ?_
    refine lv_aload_n hx hb dX5_isFigure_11 rfl (lv_at hl 0 rfl) ?_
    refine va_get (D := D) (ci := 5) (v := .int (nI tn)) (C := RX5) (T := TX5) (N := 19) hx hb hts hwX5 hown hK hP 0 rfl rfl 7 (by decide) (hts (.fieldLink RX5 57 "WaitOrWalkOnModel" "taped" "I") (by decide +kernel)) (fun _ h9 => h9) rfl dX5_isFigure_12 ?_
    refine lv_icmp_ge (tgt := 50) hx hb dX5_isFigure_15 (by decide) (fun c_2 => ?_) (fun c_2 => ?_)
    · refine lv_iconst (v := 0) hx hb dX5_isFigure_50 (by decide) ?_
      exact W.zret (v := 0) (ty := .boolean) hx hb hr (by decide +kernel) (fun t ht hW => ⟨_, rfl, (by have w := mt (nI_ltI (a := p9.1) (b := tn) (by omega) (by omega)).mpr (Int32.not_lt.mpr c_2); rw [xFg, if_neg c_1, if_neg w]), ht⟩) (fun _ h => absurd h List.not_mem_nil) dX5_isFigure_51
    · refine lv_aload_n hx hb dX5_isFigure_18 rfl (lv_at hl 0 rfl) ?_
      refine va_get (D := D) (ci := 5) (v := .ref pa) (C := RX5) (T := TX5) (N := 19) hx hb hts hwX5 hown hK hP 0 rfl rfl 6 (by decide) (hts (.fieldLink RX5 28 "WaitOrWalkOnModel" "tape" "[I") (by decide +kernel)) (fun _ h9 => h9) rfl dX5_isFigure_19 ?_
      refine lv_aload_n hx hb dX5_isFigure_22 rfl (lv_at hl 0 rfl) ?_
      refine va_get (D := D) (ci := 5) (v := .int (nI p9.1)) (C := RX5) (T := TX5) (N := 19) hx hb hts hwX5 hown hK hP 0 rfl rfl 8 (by decide) (hts (.fieldLink RX5 64 "WaitOrWalkOnModel" "at" "I") (by decide +kernel)) (fun _ h9 => h9) rfl dX5_isFigure_23 ?_
      refine va_iald (D := D) hx hb hK hP 1 0 rfl rfl (vp_in_nI (by have w := (nI_ltI (a := p9.1) (b := tn) (by omega) (by omega)).mp (Int32.not_le.mp c_2); omega) (by decide)) dX5_isFigure_26 ?_
      refine xv_int (y := lt p9.1) (congrArg lt (nI_clamp (by omega))) ?_
      refine lv_bipush (v := 48) hx hb dX5_isFigure_27 (by decide) ?_
      refine lv_icmp_lt (tgt := 50) hx hb dX5_isFigure_29 (by decide) (fun c_3 => ?_) (fun c_3 => ?_)
      · refine lv_iconst (v := 0) hx hb dX5_isFigure_50 (by decide) ?_
        exact W.zret (v := 0) (ty := .boolean) hx hb hr (by decide +kernel) (fun t ht hW => ⟨_, rfl, (by have w := (nI_ltI (a := p9.1) (b := tn) (by omega) (by omega)).mp (Int32.not_le.mp c_2); rw [xFg, if_neg c_1, if_pos w, if_pos c_3]), ht⟩) (fun _ h => absurd h List.not_mem_nil) dX5_isFigure_51
      · refine lv_aload_n hx hb dX5_isFigure_32 rfl (lv_at hl 0 rfl) ?_
        refine va_get (D := D) (ci := 5) (v := .ref pa) (C := RX5) (T := TX5) (N := 19) hx hb hts hwX5 hown hK hP 0 rfl rfl 6 (by decide) (hts (.fieldLink RX5 28 "WaitOrWalkOnModel" "tape" "[I") (by decide +kernel)) (fun _ h9 => h9) rfl dX5_isFigure_33 ?_
        refine lv_aload_n hx hb dX5_isFigure_36 rfl (lv_at hl 0 rfl) ?_
        refine va_get (D := D) (ci := 5) (v := .int (nI p9.1)) (C := RX5) (T := TX5) (N := 19) hx hb hts hwX5 hown hK hP 0 rfl rfl 8 (by decide) (hts (.fieldLink RX5 64 "WaitOrWalkOnModel" "at" "I") (by decide +kernel)) (fun _ h9 => h9) rfl dX5_isFigure_37 ?_
        refine va_iald (D := D) hx hb hK hP 1 0 rfl rfl (vp_in_nI (by have w := (nI_ltI (a := p9.1) (b := tn) (by omega) (by omega)).mp (Int32.not_le.mp c_2); omega) (by decide)) dX5_isFigure_40 ?_
        refine xv_int (y := lt p9.1) (congrArg lt (nI_clamp (by omega))) ?_
        refine lv_bipush (v := 57) hx hb dX5_isFigure_41 (by decide) ?_
        refine lv_icmp_gt (tgt := 50) hx hb dX5_isFigure_43 (by decide) (fun c_4 => ?_) (fun c_4 => ?_)
        · refine lv_iconst (v := 0) hx hb dX5_isFigure_50 (by decide) ?_
          exact W.zret (v := 0) (ty := .boolean) hx hb hr (by decide +kernel) (fun t ht hW => ⟨_, rfl, (by have w := (nI_ltI (a := p9.1) (b := tn) (by omega) (by omega)).mp (Int32.not_le.mp c_2); rw [xFg, if_neg c_1, if_pos w, if_neg c_3, if_pos c_4]), ht⟩) (fun _ h => absurd h List.not_mem_nil) dX5_isFigure_51
        · refine lv_iconst (v := 1) hx hb dX5_isFigure_46 (by decide) ?_
          refine lv_goto (tgt := 51) hx hb dX5_isFigure_47 (by decide) ?_
          exact W.zret (v := 1) (ty := .boolean) hx hb hr (by decide +kernel) (fun t ht hW => ⟨_, rfl, (by have w := (nI_ltI (a := p9.1) (b := tn) (by omega) (by omega)).mp (Int32.not_le.mp c_2); rw [xFg, if_neg c_1, if_pos w, if_neg c_3, if_neg c_4]), ht⟩) (fun _ h => absurd h List.not_mem_nil) dX5_isFigure_51

set_option maxHeartbeats 4000000 in
set_option maxRecDepth 100000 in
theorem g_X5_oneOfB (l : Launch) (D : va_G) (cI cL cZ cC : ClassId) (sz : Nat) (g0 : Nat) (ra : Nat) (wa : Nat) (ta : Nat) (ma : Nat) (pa : Nat) (ba : Nat) (ka : Nat) (fa : Nat) (qa : Nat) (ea : Nat) (za : Nat) (ya : Nat) (kpt : Int32) (mkd : Int32) (srt : Int32) (wks : Int32) (tn : Nat) (p9 : Nat × Int32) (lt : Nat → Int32) (bf : Nat → Int32) (htn : tn ≤ 96) (hp9 : p9.1 ≤ tn) : Met l yX5_oneOf wsX5_oneOf ({ frames := 0, cells := 0, slots := 0, locals := 0 } : Room) (wPc D [.ref g0, .ref ba] [(g0, .inr (5, [.ref ra, .ref wa, .ref ta, .int kpt, .ref ma, .int mkd, .ref pa, .int (nI tn), .int (nI p9.1), .int p9.2, .ref ba, .ref ka, .int srt, .ref fa, .ref qa, .ref ea, .ref za, .ref ya, .int wks])), (pa, .inl (cI, 96, .inl lt)), (ba, .inl (cC, 6, .inl bf))] (xTy cI cL cZ cC) sz) (va_Qi (fun (r : Int32) (_ : Unit) => r = xPv lt tn bf 6 p9) (fun (_ : Unit) t => va_P D vwCl [(g0, .inr (5, [.ref ra, .ref wa, .ref ta, .int kpt, .ref ma, .int mkd, .ref pa, .int (nI tn), .int (nI (xPn lt tn bf 6 p9).1), .int (xPn lt tn bf 6 p9).2, .ref ba, .ref ka, .int srt, .ref fa, .ref qa, .ref ea, .ref za, .ref ya, .int wks])), (pa, .inl (cI, 96, .inl lt)), (ba, .inl (cC, 6, .inl bf))] t.heap ∧ va_D (va_A [(g0, .inr (5, [.ref ra, .ref wa, .ref ta, .int kpt, .ref ma, .int mkd, .ref pa, .int (nI tn), .int (nI p9.1), .int p9.2, .ref ba, .ref ka, .int srt, .ref fa, .ref qa, .ref ea, .ref za, .ref ya, .int wks])), (pa, .inl (cI, 96, .inl lt)), (ba, .inl (cC, 6, .inl bf))] sz) [(g0, .inr (5, [.ref ra, .ref wa, .ref ta, .int kpt, .ref ma, .int mkd, .ref pa, .int (nI tn), .int (nI (xPn lt tn bf 6 p9).1), .int (xPn lt tn bf 6 p9).2, .ref ba, .ref ka, .int srt, .ref fa, .ref qa, .ref ea, .ref za, .ref ya, .int wks])), (pa, .inl (cI, 96, .inl lt)), (ba, .inl (cC, 6, .inl bf))]) (va_A [(g0, .inr (5, [.ref ra, .ref wa, .ref ta, .int kpt, .ref ma, .int mkd, .ref pa, .int (nI tn), .int (nI p9.1), .int p9.2, .ref ba, .ref ka, .int srt, .ref fa, .ref qa, .ref ea, .ref za, .ref ya, .int wks])), (pa, .inl (cI, 96, .inl lt)), (ba, .inl (cC, 6, .inl bf))] sz)) 0 0 (va_A [(g0, .inr (5, [.ref ra, .ref wa, .ref ta, .int kpt, .ref ma, .int mkd, .ref pa, .int (nI tn), .int (nI p9.1), .int p9.2, .ref ba, .ref ka, .int srt, .ref fa, .ref qa, .ref ea, .ref za, .ref ya, .int wks])), (pa, .inl (cI, 96, .inl lt)), (ba, .inl (cC, 6, .inl bf))] sz) := by
  refine Met.ofW (cc := cX5_oneOf) (maxL := 3) (ret := (some .int)) (by decide) rfl ?_
  intro p e s m args below meth c s₁ B hml hv
  obtain ⟨rfl, hsz, hP, hK, hD0⟩ := hv
  have hx := B.exec
  have hb := B.bytes
  have hr := B.returns
  have hts := atoms_spec (ws := wsX5_oneOf) B.pre
  have hown : s.vm.findClass RX5 = some m.cls := findClass_of_methodNamed B.named
  have hlocks := B.notSynchronized
  have hwX5 : ∀ w ∈ u_ws RX5 TX5 19, w ∈ wsX5_oneOf := fun _ h => List.mem_cons_of_mem _ (List.mem_append_right _ h)
  subst hsz
  have hD := hD0.self (sz := s.heap.size)
  generalize hAe : va_A [(g0, .inr (5, [.ref ra, .ref wa, .ref ta, .int kpt, .ref ma, .int mkd, .ref pa, .int (nI tn), .int (nI p9.1), .int p9.2, .ref ba, .ref ka, .int srt, .ref fa, .ref qa, .ref ea, .ref za, .ref ya, .int wks])), (pa, .inl (cI, 96, .inl lt)), (ba, .inl (cC, 6, .inl bf))] s.heap.size = A at hD ⊢
  have hA : ∀ q : Nat, s.heap.size ≤ q → A q := fun q h => by rw [← hAe]; exact Or.inr h
  have hS : va_S A s.heap s.heap [] := va_S.rf
  have hP : va_P D vwCl [(g0, .inr (5, [.ref ra, .ref wa, .ref ta, .int kpt, .ref ma, .int mkd, .ref pa, .int (nI tn), .int (nI p9.1), .int p9.2, .ref ba, .ref ka, .int srt, .ref fa, .ref qa, .ref ea, .ref za, .ref ya, .int wks])), (pa, .inl (cI, 96, .inl lt)), (ba, .inl (cC, 6, .inl bf))] s.heap := hP
  have hl := lv_entry ([.ref g0, .ref ba]) (n := 3) (Nat.le_of_ble_eq_true rfl)
  rw [lg_entry_eq]
  generalize (lg_sl ([.ref g0, .ref ba]) ++ List.replicate (3 - (lg_sl ([.ref g0, .ref ba])).length) Slot.unset).toArray = ls at hl ⊢
  have hl : lv_has ls 3 [(0, .ref g0), (1, .ref ba)] := hl
  refine lv_iconst (v := 0) hx hb dX5_oneOf_0 (by decide) ?_
  refine lv_istore_n (lv' := [(2, .int 0), (0, .ref g0), (1, .ref ba)]) hx hb dX5_oneOf_1 rfl hl (by decide) rfl (fun ls hl => ?_)
  refine xl_loopH (σ := Nat) (fun n q H locs ls => lv_has ls 3 [(2, .int (nI q)), (0, .ref g0), (1, .ref ba)] ∧ va_P D vwCl [(g0, .inr (5, [.ref ra, .ref wa, .ref ta, .int kpt, .ref ma, .int mkd, .ref pa, .int (nI tn), .int (nI p9.1), .int p9.2, .ref ba, .ref ka, .int srt, .ref fa, .ref qa, .ref ea, .ref za, .ref ya, .int wks])), (pa, .inl (cI, 96, .inl lt)), (ba, .inl (cC, 6, .inl bf))] H ∧ va_D A [(g0, .inr (5, [.ref ra, .ref wa, .ref ta, .int kpt, .ref ma, .int mkd, .ref pa, .int (nI tn), .int (nI p9.1), .int p9.2, .ref ba, .ref ka, .int srt, .ref fa, .ref qa, .ref ea, .ref za, .ref ya, .int wks])), (pa, .inl (cI, 96, .inl lt)), (ba, .inl (cC, 6, .inl bf))] ∧ va_S A s.heap H locs ∧ (6 - q < n) ∧ (q ≤ 6) ∧ (∀ i, i < q → xOp lt tn bf p9 i = false)) (7) (0) ⟨lv_sub hl [0, 1, 2] rfl, hP.sub [0, 1, 2] rfl, hD.sub [0, 1, 2] (by decide) rfl, hS, by (try dsimp only); exact ⟨by omega, by omega, fun i hi => absurd hi (Nat.not_lt_zero i)⟩⟩ (fun q H lc ls h => absurd h.2.2.2.2.1 (Nat.not_lt_zero _)) ?_
  intro n_2 q_2 H locs ls ih_2 hI_2
  obtain ⟨hl, hP, hD, hS, hI_2⟩ := hI_2
  obtain ⟨k, e_2⟩ : ∃ z, z = q_2 := ⟨_, rfl⟩
  subst e_2
  obtain ⟨h1, h2, h3⟩ := hI_2
  try dsimp only at hl hP hD h1 h2 h3
  refine lv_iload_n hx hb dX5_oneOf_2 rfl (lv_at hl 0 rfl) ?_
  refine lv_aload_n hx hb dX5_oneOf_3 rfl (lv_at hl 2 rfl) ?_
  refine va_alen (D := D) hx hb hK hP 2 3 rfl rfl (v := 6) rfl dX5_oneOf_4 ?_
  refine lv_icmp_ge (tgt := 59) hx hb dX5_oneOf_5 (by decide) (fun c_1 => ?_) (fun c_1 => ?_)
  · refine lv_aload_n hx hb dX5_oneOf_59 rfl (lv_at hl 1 rfl) ?_
    refine lv_iconst (v := 0) hx hb dX5_oneOf_60 (by decide) ?_
    refine va_put (D := D) (ci := 5) (v := .int 0) (ty := .boolean) (C := RX5) (T := TX5) (N := 19) hx hb hts hwX5 tyX5 tyX5_ok nmX5 hown hK hP hD hS 0 rfl rfl 9 (by decide) (hts (.fieldLink RX5 61 "WaitOrWalkOnModel" "well" "Z") (by decide +kernel)) (fun _ h9 => h9) rfl (by decide +kernel) (by decide +kernel) rfl (Nat.le_of_ble_eq_true rfl) dX5_oneOf_61 (fun H locs hP hD hS => ?_)
    have hP : va_P D vwCl [(g0, .inr (5, [.ref ra, .ref wa, .ref ta, .int kpt, .ref ma, .int mkd, .ref pa, .int (nI tn), .int (nI p9.1), .int 0, .ref ba, .ref ka, .int srt, .ref fa, .ref qa, .ref ea, .ref za, .ref ya, .int wks])), (pa, .inl (cI, 96, .inl lt)), (ba, .inl (cC, 6, .inl bf))] H := hP
    have hD : va_D A [(g0, .inr (5, [.ref ra, .ref wa, .ref ta, .int kpt, .ref ma, .int mkd, .ref pa, .int (nI tn), .int (nI p9.1), .int 0, .ref ba, .ref ka, .int srt, .ref fa, .ref qa, .ref ea, .ref za, .ref ya, .int wks])), (pa, .inl (cI, 96, .inl lt)), (ba, .inl (cC, 6, .inl bf))] := hD
    refine lv_iconst (v := 0) hx hb dX5_oneOf_64 (by decide) ?_
    have hP9 := hP.sub (ws' := [(g0, .inr (5, [.ref ra, .ref wa, .ref ta, .int kpt, .ref ma, .int mkd, .ref pa, .int (nI tn), .int (nI p9.1), .int 0, .ref ba, .ref ka, .int srt, .ref fa, .ref qa, .ref ea, .ref za, .ref ya, .int wks])), (pa, .inl (cI, 96, .inl lt)), (ba, .inl (cC, 6, .inl bf))]) [0, 1, 2] rfl
    have hD9 := hD.sub (ws' := [(g0, .inr (5, [.ref ra, .ref wa, .ref ta, .int kpt, .ref ma, .int mkd, .ref pa, .int (nI tn), .int (nI p9.1), .int 0, .ref ba, .ref ka, .int srt, .ref fa, .ref qa, .ref ea, .ref za, .ref ya, .int wks])), (pa, .inl (cI, 96, .inl lt)), (ba, .inl (cC, 6, .inl bf))]) [0, 1, 2] (by decide) rfl
    have hE9 : ([(g0, .inr (5, [.ref ra, .ref wa, .ref ta, .int kpt, .ref ma, .int mkd, .ref pa, .int (nI tn), .int (nI p9.1), .int 0, .ref ba, .ref ka, .int srt, .ref fa, .ref qa, .ref ea, .ref za, .ref ya, .int wks])), (pa, .inl (cI, 96, .inl lt)), (ba, .inl (cC, 6, .inl bf))] : va_W) = [(g0, .inr (5, [.ref ra, .ref wa, .ref ta, .int kpt, .ref ma, .int mkd, .ref pa, .int (nI tn), .int (nI (xPn lt tn bf 6 p9).1), .int ((xPn lt tn bf 6 p9).2), .ref ba, .ref ka, .int srt, .ref fa, .ref qa, .ref ea, .ref za, .ref ya, .int wks])), (pa, .inl (cI, 96, .inl lt)), (ba, .inl (cC, 6, .inl bf))] := by have w := mt (nI_ltI (a := k) (b := 6) (by omega) (by omega)).mpr (Int32.not_lt.mpr c_1); have eo := xPn_no (lt := lt) (tn := tn) (f := bf) (n := 6) (p := p9) (xFst_none 6 (fun i hi => h3 i (by omega))); rw [eo.1]
    exact W.iret (v := 0) hx hb hr (fun t ht hW => ⟨⟨_, (), rfl, (by have w := mt (nI_ltI (a := k) (b := 6) (by omega) (by omega)).mpr (Int32.not_lt.mpr c_1); have eo := xPn_no (lt := lt) (tn := tn) (f := bf) (n := 6) (p := p9) (xFst_none 6 (fun i hi => h3 i (by omega))); exact eo.2.symm), by rw [ht]; exact hE9 ▸ hP9, hE9 ▸ hD9⟩, hS.F ht⟩) hS.2.2 dX5_oneOf_65
  · refine lv_aload_n hx hb dX5_oneOf_8 rfl (lv_at hl 1 rfl) ?_
    refine va_get (D := D) (ci := 5) (v := .int p9.2) (C := RX5) (T := TX5) (N := 19) hx hb hts hwX5 hown hK hP 0 rfl rfl 9 (by decide) (hts (.fieldLink RX5 61 "WaitOrWalkOnModel" "well" "Z") (by decide +kernel)) (fun _ h9 => h9) rfl dX5_oneOf_9 ?_
    refine lv_if_eq (tgt := 53) hx hb dX5_oneOf_12 (by decide) (fun c_2 => ?_) (fun c_2 => ?_)
    · refine lv_iinc (v := nI (k + 1)) (lv' := [(2, .int (nI (k + 1))), (0, .ref g0), (1, .ref ba)]) hx hb dX5_oneOf_53 hl (k := 0) rfl (nI_1 k) (by decide) rfl (fun ls hl => ?_)
      refine lv_goto (tgt := 2) hx hb dX5_oneOf_56 (by decide) ?_
      have w := (nI_ltI (a := k) (b := 6) (by omega) (by omega)).mp (Int32.not_le.mp c_1)
      have e3 : xOp lt tn bf p9 k = false := xOp_f1 c_2
      exact ih_2 (k + 1) _ _ _ ⟨lv_sub hl [0, 1, 2] rfl, hP.sub [0, 1, 2] rfl, hD.sub [0, 1, 2] (by decide) rfl, hS, by (try dsimp only); exact ⟨by omega, by omega, fun i hi => by rcases Nat.lt_or_ge i k with q | q; exact h3 i q; (obtain rfl : i = k := by omega); exact e3⟩⟩
    · refine lv_aload_n hx hb dX5_oneOf_15 rfl (lv_at hl 1 rfl) ?_
      refine va_get (D := D) (ci := 5) (v := .int (nI p9.1)) (C := RX5) (T := TX5) (N := 19) hx hb hts hwX5 hown hK hP 0 rfl rfl 8 (by decide) (hts (.fieldLink RX5 64 "WaitOrWalkOnModel" "at" "I") (by decide +kernel)) (fun _ h9 => h9) rfl dX5_oneOf_16 ?_
      refine lv_aload_n hx hb dX5_oneOf_19 rfl (lv_at hl 1 rfl) ?_
      refine va_get (D := D) (ci := 5) (v := .int (nI tn)) (C := RX5) (T := TX5) (N := 19) hx hb hts hwX5 hown hK hP 0 rfl rfl 7 (by decide) (hts (.fieldLink RX5 57 "WaitOrWalkOnModel" "taped" "I") (by decide +kernel)) (fun _ h9 => h9) rfl dX5_oneOf_20 ?_
      refine lv_icmp_ge (tgt := 53) hx hb dX5_oneOf_23 (by decide) (fun c_3 => ?_) (fun c_3 => ?_)
      · refine lv_iinc (v := nI (k + 1)) (lv' := [(2, .int (nI (k + 1))), (0, .ref g0), (1, .ref ba)]) hx hb dX5_oneOf_53 hl (k := 0) rfl (nI_1 k) (by decide) rfl (fun ls hl => ?_)
        refine lv_goto (tgt := 2) hx hb dX5_oneOf_56 (by decide) ?_
        have w := (nI_ltI (a := k) (b := 6) (by omega) (by omega)).mp (Int32.not_le.mp c_1)
        have e3 : xOp lt tn bf p9 k = false := xOp_f2 (mt (nI_ltI (a := p9.1) (b := tn) (by omega) (by omega)).mpr (Int32.not_lt.mpr c_3))
        exact ih_2 (k + 1) _ _ _ ⟨lv_sub hl [0, 1, 2] rfl, hP.sub [0, 1, 2] rfl, hD.sub [0, 1, 2] (by decide) rfl, hS, by (try dsimp only); exact ⟨by omega, by omega, fun i hi => by rcases Nat.lt_or_ge i k with q | q; exact h3 i q; (obtain rfl : i = k := by omega); exact e3⟩⟩
      · refine lv_aload_n hx hb dX5_oneOf_26 rfl (lv_at hl 1 rfl) ?_
        refine va_get (D := D) (ci := 5) (v := .ref pa) (C := RX5) (T := TX5) (N := 19) hx hb hts hwX5 hown hK hP 0 rfl rfl 6 (by decide) (hts (.fieldLink RX5 28 "WaitOrWalkOnModel" "tape" "[I") (by decide +kernel)) (fun _ h9 => h9) rfl dX5_oneOf_27 ?_
        refine lv_aload_n hx hb dX5_oneOf_30 rfl (lv_at hl 1 rfl) ?_
        refine va_get (D := D) (ci := 5) (v := .int (nI p9.1)) (C := RX5) (T := TX5) (N := 19) hx hb hts hwX5 hown hK hP 0 rfl rfl 8 (by decide) (hts (.fieldLink RX5 64 "WaitOrWalkOnModel" "at" "I") (by decide +kernel)) (fun _ h9 => h9) rfl dX5_oneOf_31 ?_
        refine va_iald (D := D) hx hb hK hP 1 0 rfl rfl (vp_in_nI (by have w := (nI_ltI (a := p9.1) (b := tn) (by omega) (by omega)).mp (Int32.not_le.mp c_3); omega) (by decide)) dX5_oneOf_34 ?_
        refine xv_int (y := lt p9.1) (congrArg lt (nI_clamp (by omega))) ?_
        refine lv_aload_n hx hb dX5_oneOf_35 rfl (lv_at hl 2 rfl) ?_
        refine lv_iload_n hx hb dX5_oneOf_36 rfl (lv_at hl 0 rfl) ?_
        refine va_cald (D := D) hx hb hK hP 2 3 rfl rfl (vp_in_nI (by have w := (nI_ltI (a := k) (b := 6) (by omega) (by omega)).mp (Int32.not_le.mp c_1); omega) (by decide)) dX5_oneOf_37 ?_
        refine xv_int (y := bf k) (congrArg bf (nI_clamp (by omega))) ?_
        refine lv_icmp_ne (tgt := 53) hx hb dX5_oneOf_38 (by decide) (fun c_4 => ?_) (fun c_4 => ?_)
        · refine lv_iinc (v := nI (k + 1)) (lv' := [(2, .int (nI (k + 1))), (0, .ref g0), (1, .ref ba)]) hx hb dX5_oneOf_53 hl (k := 0) rfl (nI_1 k) (by decide) rfl (fun ls hl => ?_)
          refine lv_goto (tgt := 2) hx hb dX5_oneOf_56 (by decide) ?_
          have w := (nI_ltI (a := k) (b := 6) (by omega) (by omega)).mp (Int32.not_le.mp c_1)
          have e3 : xOp lt tn bf p9 k = false := xOp_f3 c_4
          exact ih_2 (k + 1) _ _ _ ⟨lv_sub hl [0, 1, 2] rfl, hP.sub [0, 1, 2] rfl, hD.sub [0, 1, 2] (by decide) rfl, hS, by (try dsimp only); exact ⟨by omega, by omega, fun i hi => by rcases Nat.lt_or_ge i k with q | q; exact h3 i q; (obtain rfl : i = k := by omega); exact e3⟩⟩
        · refine lv_aload_n hx hb dX5_oneOf_41 rfl (lv_at hl 1 rfl) ?_
          refine lv_dup hx hb dX5_oneOf_42 rfl ?_
          refine va_get (D := D) (ci := 5) (v := .int (nI p9.1)) (C := RX5) (T := TX5) (N := 19) hx hb hts hwX5 hown hK hP 0 rfl rfl 8 (by decide) (hts (.fieldLink RX5 64 "WaitOrWalkOnModel" "at" "I") (by decide +kernel)) (fun _ h9 => h9) rfl dX5_oneOf_43 ?_
          refine lv_iconst (v := 1) hx hb dX5_oneOf_46 (by decide) ?_
          refine lv_iadd hx hb dX5_oneOf_47 ?_
          refine xv_int (y := nI (p9.1 + 1)) (nI_1 _) ?_
          refine va_put (D := D) (ci := 5) (v := .int (nI (p9.1 + 1))) (ty := .int) (C := RX5) (T := TX5) (N := 19) hx hb hts hwX5 tyX5 tyX5_ok nmX5 hown hK hP hD hS 0 rfl rfl 8 (by decide) (hts (.fieldLink RX5 64 "WaitOrWalkOnModel" "at" "I") (by decide +kernel)) (fun _ h9 => h9) rfl (by decide +kernel) rfl rfl (Nat.le_of_ble_eq_true rfl) dX5_oneOf_48 (fun H locs hP hD hS => ?_)
          have hP : va_P D vwCl [(g0, .inr (5, [.ref ra, .ref wa, .ref ta, .int kpt, .ref ma, .int mkd, .ref pa, .int (nI tn), .int (nI (p9.1 + 1)), .int p9.2, .ref ba, .ref ka, .int srt, .ref fa, .ref qa, .ref ea, .ref za, .ref ya, .int wks])), (pa, .inl (cI, 96, .inl lt)), (ba, .inl (cC, 6, .inl bf))] H := hP
          have hD : va_D A [(g0, .inr (5, [.ref ra, .ref wa, .ref ta, .int kpt, .ref ma, .int mkd, .ref pa, .int (nI tn), .int (nI (p9.1 + 1)), .int p9.2, .ref ba, .ref ka, .int srt, .ref fa, .ref qa, .ref ea, .ref za, .ref ya, .int wks])), (pa, .inl (cI, 96, .inl lt)), (ba, .inl (cC, 6, .inl bf))] := hD
          refine lv_iload_n hx hb dX5_oneOf_51 rfl (lv_at hl 0 rfl) ?_
          have hP9 := hP.sub (ws' := [(g0, .inr (5, [.ref ra, .ref wa, .ref ta, .int kpt, .ref ma, .int mkd, .ref pa, .int (nI tn), .int (nI (p9.1 + 1)), .int p9.2, .ref ba, .ref ka, .int srt, .ref fa, .ref qa, .ref ea, .ref za, .ref ya, .int wks])), (pa, .inl (cI, 96, .inl lt)), (ba, .inl (cC, 6, .inl bf))]) [0, 1, 2] rfl
          have hD9 := hD.sub (ws' := [(g0, .inr (5, [.ref ra, .ref wa, .ref ta, .int kpt, .ref ma, .int mkd, .ref pa, .int (nI tn), .int (nI (p9.1 + 1)), .int p9.2, .ref ba, .ref ka, .int srt, .ref fa, .ref qa, .ref ea, .ref za, .ref ya, .int wks])), (pa, .inl (cI, 96, .inl lt)), (ba, .inl (cC, 6, .inl bf))]) [0, 1, 2] (by decide) rfl
          have hE9 : ([(g0, .inr (5, [.ref ra, .ref wa, .ref ta, .int kpt, .ref ma, .int mkd, .ref pa, .int (nI tn), .int (nI (p9.1 + 1)), .int p9.2, .ref ba, .ref ka, .int srt, .ref fa, .ref qa, .ref ea, .ref za, .ref ya, .int wks])), (pa, .inl (cI, 96, .inl lt)), (ba, .inl (cC, 6, .inl bf))] : va_W) = [(g0, .inr (5, [.ref ra, .ref wa, .ref ta, .int kpt, .ref ma, .int mkd, .ref pa, .int (nI tn), .int (nI (xPn lt tn bf 6 p9).1), .int ((xPn lt tn bf 6 p9).2), .ref ba, .ref ka, .int srt, .ref fa, .ref qa, .ref ea, .ref za, .ref ya, .int wks])), (pa, .inl (cI, 96, .inl lt)), (ba, .inl (cC, 6, .inl bf))] := by have w := (nI_ltI (a := k) (b := 6) (by omega) (by omega)).mp (Int32.not_le.mp c_1); have eo := xPn_at (lt := lt) (tn := tn) (f := bf) (n := 6) (p := p9) w (xFst_at (xOp_t c_2 ((nI_ltI (a := p9.1) (b := tn) (by omega) (by omega)).mp (Int32.not_le.mp c_3)) c_4) h3 6 w); rw [eo.1]
          exact W.iret (v := nI k) hx hb hr (fun t ht hW => ⟨⟨_, (), rfl, (by have w := (nI_ltI (a := k) (b := 6) (by omega) (by omega)).mp (Int32.not_le.mp c_1); have eo := xPn_at (lt := lt) (tn := tn) (f := bf) (n := 6) (p := p9) w (xFst_at (xOp_t c_2 ((nI_ltI (a := p9.1) (b := tn) (by omega) (by omega)).mp (Int32.not_le.mp c_3)) c_4) h3 6 w); exact eo.2.symm), by rw [ht]; exact hE9 ▸ hP9, hE9 ▸ hD9⟩, hS.F ht⟩) hS.2.2 dX5_oneOf_52

set_option maxHeartbeats 4000000 in
set_option maxRecDepth 100000 in
theorem g_X5_oneOfK (l : Launch) (D : va_G) (cI cL cZ cC : ClassId) (sz : Nat) (g0 : Nat) (ra : Nat) (wa : Nat) (ta : Nat) (ma : Nat) (pa : Nat) (ba : Nat) (ka : Nat) (fa : Nat) (qa : Nat) (ea : Nat) (za : Nat) (ya : Nat) (kpt : Int32) (mkd : Int32) (srt : Int32) (wks : Int32) (tn : Nat) (p9 : Nat × Int32) (lt : Nat → Int32) (kf : Nat → Int32) (htn : tn ≤ 96) (hp9 : p9.1 ≤ tn) : Met l yX5_oneOf wsX5_oneOf ({ frames := 0, cells := 0, slots := 0, locals := 0 } : Room) (wPc D [.ref g0, .ref ka] [(g0, .inr (5, [.ref ra, .ref wa, .ref ta, .int kpt, .ref ma, .int mkd, .ref pa, .int (nI tn), .int (nI p9.1), .int p9.2, .ref ba, .ref ka, .int srt, .ref fa, .ref qa, .ref ea, .ref za, .ref ya, .int wks])), (pa, .inl (cI, 96, .inl lt)), (ka, .inl (cC, 5, .inl kf))] (xTy cI cL cZ cC) sz) (va_Qi (fun (r : Int32) (_ : Unit) => r = xPv lt tn kf 5 p9) (fun (_ : Unit) t => va_P D vwCl [(g0, .inr (5, [.ref ra, .ref wa, .ref ta, .int kpt, .ref ma, .int mkd, .ref pa, .int (nI tn), .int (nI (xPn lt tn kf 5 p9).1), .int (xPn lt tn kf 5 p9).2, .ref ba, .ref ka, .int srt, .ref fa, .ref qa, .ref ea, .ref za, .ref ya, .int wks])), (pa, .inl (cI, 96, .inl lt)), (ka, .inl (cC, 5, .inl kf))] t.heap ∧ va_D (va_A [(g0, .inr (5, [.ref ra, .ref wa, .ref ta, .int kpt, .ref ma, .int mkd, .ref pa, .int (nI tn), .int (nI p9.1), .int p9.2, .ref ba, .ref ka, .int srt, .ref fa, .ref qa, .ref ea, .ref za, .ref ya, .int wks])), (pa, .inl (cI, 96, .inl lt)), (ka, .inl (cC, 5, .inl kf))] sz) [(g0, .inr (5, [.ref ra, .ref wa, .ref ta, .int kpt, .ref ma, .int mkd, .ref pa, .int (nI tn), .int (nI (xPn lt tn kf 5 p9).1), .int (xPn lt tn kf 5 p9).2, .ref ba, .ref ka, .int srt, .ref fa, .ref qa, .ref ea, .ref za, .ref ya, .int wks])), (pa, .inl (cI, 96, .inl lt)), (ka, .inl (cC, 5, .inl kf))]) (va_A [(g0, .inr (5, [.ref ra, .ref wa, .ref ta, .int kpt, .ref ma, .int mkd, .ref pa, .int (nI tn), .int (nI p9.1), .int p9.2, .ref ba, .ref ka, .int srt, .ref fa, .ref qa, .ref ea, .ref za, .ref ya, .int wks])), (pa, .inl (cI, 96, .inl lt)), (ka, .inl (cC, 5, .inl kf))] sz)) 0 0 (va_A [(g0, .inr (5, [.ref ra, .ref wa, .ref ta, .int kpt, .ref ma, .int mkd, .ref pa, .int (nI tn), .int (nI p9.1), .int p9.2, .ref ba, .ref ka, .int srt, .ref fa, .ref qa, .ref ea, .ref za, .ref ya, .int wks])), (pa, .inl (cI, 96, .inl lt)), (ka, .inl (cC, 5, .inl kf))] sz) := by
  refine Met.ofW (cc := cX5_oneOf) (maxL := 3) (ret := (some .int)) (by decide) rfl ?_
  intro p e s m args below meth c s₁ B hml hv
  obtain ⟨rfl, hsz, hP, hK, hD0⟩ := hv
  have hx := B.exec
  have hb := B.bytes
  have hr := B.returns
  have hts := atoms_spec (ws := wsX5_oneOf) B.pre
  have hown : s.vm.findClass RX5 = some m.cls := findClass_of_methodNamed B.named
  have hlocks := B.notSynchronized
  have hwX5 : ∀ w ∈ u_ws RX5 TX5 19, w ∈ wsX5_oneOf := fun _ h => List.mem_cons_of_mem _ (List.mem_append_right _ h)
  subst hsz
  have hD := hD0.self (sz := s.heap.size)
  generalize hAe : va_A [(g0, .inr (5, [.ref ra, .ref wa, .ref ta, .int kpt, .ref ma, .int mkd, .ref pa, .int (nI tn), .int (nI p9.1), .int p9.2, .ref ba, .ref ka, .int srt, .ref fa, .ref qa, .ref ea, .ref za, .ref ya, .int wks])), (pa, .inl (cI, 96, .inl lt)), (ka, .inl (cC, 5, .inl kf))] s.heap.size = A at hD ⊢
  have hA : ∀ q : Nat, s.heap.size ≤ q → A q := fun q h => by rw [← hAe]; exact Or.inr h
  have hS : va_S A s.heap s.heap [] := va_S.rf
  have hP : va_P D vwCl [(g0, .inr (5, [.ref ra, .ref wa, .ref ta, .int kpt, .ref ma, .int mkd, .ref pa, .int (nI tn), .int (nI p9.1), .int p9.2, .ref ba, .ref ka, .int srt, .ref fa, .ref qa, .ref ea, .ref za, .ref ya, .int wks])), (pa, .inl (cI, 96, .inl lt)), (ka, .inl (cC, 5, .inl kf))] s.heap := hP
  have hl := lv_entry ([.ref g0, .ref ka]) (n := 3) (Nat.le_of_ble_eq_true rfl)
  rw [lg_entry_eq]
  generalize (lg_sl ([.ref g0, .ref ka]) ++ List.replicate (3 - (lg_sl ([.ref g0, .ref ka])).length) Slot.unset).toArray = ls at hl ⊢
  have hl : lv_has ls 3 [(0, .ref g0), (1, .ref ka)] := hl
  refine lv_iconst (v := 0) hx hb dX5_oneOf_0 (by decide) ?_
  refine lv_istore_n (lv' := [(2, .int 0), (0, .ref g0), (1, .ref ka)]) hx hb dX5_oneOf_1 rfl hl (by decide) rfl (fun ls hl => ?_)
  refine xl_loopH (σ := Nat) (fun n q H locs ls => lv_has ls 3 [(2, .int (nI q)), (0, .ref g0), (1, .ref ka)] ∧ va_P D vwCl [(g0, .inr (5, [.ref ra, .ref wa, .ref ta, .int kpt, .ref ma, .int mkd, .ref pa, .int (nI tn), .int (nI p9.1), .int p9.2, .ref ba, .ref ka, .int srt, .ref fa, .ref qa, .ref ea, .ref za, .ref ya, .int wks])), (pa, .inl (cI, 96, .inl lt)), (ka, .inl (cC, 5, .inl kf))] H ∧ va_D A [(g0, .inr (5, [.ref ra, .ref wa, .ref ta, .int kpt, .ref ma, .int mkd, .ref pa, .int (nI tn), .int (nI p9.1), .int p9.2, .ref ba, .ref ka, .int srt, .ref fa, .ref qa, .ref ea, .ref za, .ref ya, .int wks])), (pa, .inl (cI, 96, .inl lt)), (ka, .inl (cC, 5, .inl kf))] ∧ va_S A s.heap H locs ∧ (5 - q < n) ∧ (q ≤ 5) ∧ (∀ i, i < q → xOp lt tn kf p9 i = false)) (6) (0) ⟨lv_sub hl [0, 1, 2] rfl, hP.sub [0, 1, 2] rfl, hD.sub [0, 1, 2] (by decide) rfl, hS, by (try dsimp only); exact ⟨by omega, by omega, fun i hi => absurd hi (Nat.not_lt_zero i)⟩⟩ (fun q H lc ls h => absurd h.2.2.2.2.1 (Nat.not_lt_zero _)) ?_
  intro n_2 q_2 H locs ls ih_2 hI_2
  obtain ⟨hl, hP, hD, hS, hI_2⟩ := hI_2
  obtain ⟨k, e_2⟩ : ∃ z, z = q_2 := ⟨_, rfl⟩
  subst e_2
  obtain ⟨h1, h2, h3⟩ := hI_2
  try dsimp only at hl hP hD h1 h2 h3
  refine lv_iload_n hx hb dX5_oneOf_2 rfl (lv_at hl 0 rfl) ?_
  refine lv_aload_n hx hb dX5_oneOf_3 rfl (lv_at hl 2 rfl) ?_
  refine va_alen (D := D) hx hb hK hP 2 3 rfl rfl (v := 5) rfl dX5_oneOf_4 ?_
  refine lv_icmp_ge (tgt := 59) hx hb dX5_oneOf_5 (by decide) (fun c_1 => ?_) (fun c_1 => ?_)
  · refine lv_aload_n hx hb dX5_oneOf_59 rfl (lv_at hl 1 rfl) ?_
    refine lv_iconst (v := 0) hx hb dX5_oneOf_60 (by decide) ?_
    refine va_put (D := D) (ci := 5) (v := .int 0) (ty := .boolean) (C := RX5) (T := TX5) (N := 19) hx hb hts hwX5 tyX5 tyX5_ok nmX5 hown hK hP hD hS 0 rfl rfl 9 (by decide) (hts (.fieldLink RX5 61 "WaitOrWalkOnModel" "well" "Z") (by decide +kernel)) (fun _ h9 => h9) rfl (by decide +kernel) (by decide +kernel) rfl (Nat.le_of_ble_eq_true rfl) dX5_oneOf_61 (fun H locs hP hD hS => ?_)
    have hP : va_P D vwCl [(g0, .inr (5, [.ref ra, .ref wa, .ref ta, .int kpt, .ref ma, .int mkd, .ref pa, .int (nI tn), .int (nI p9.1), .int 0, .ref ba, .ref ka, .int srt, .ref fa, .ref qa, .ref ea, .ref za, .ref ya, .int wks])), (pa, .inl (cI, 96, .inl lt)), (ka, .inl (cC, 5, .inl kf))] H := hP
    have hD : va_D A [(g0, .inr (5, [.ref ra, .ref wa, .ref ta, .int kpt, .ref ma, .int mkd, .ref pa, .int (nI tn), .int (nI p9.1), .int 0, .ref ba, .ref ka, .int srt, .ref fa, .ref qa, .ref ea, .ref za, .ref ya, .int wks])), (pa, .inl (cI, 96, .inl lt)), (ka, .inl (cC, 5, .inl kf))] := hD
    refine lv_iconst (v := 0) hx hb dX5_oneOf_64 (by decide) ?_
    have hP9 := hP.sub (ws' := [(g0, .inr (5, [.ref ra, .ref wa, .ref ta, .int kpt, .ref ma, .int mkd, .ref pa, .int (nI tn), .int (nI p9.1), .int 0, .ref ba, .ref ka, .int srt, .ref fa, .ref qa, .ref ea, .ref za, .ref ya, .int wks])), (pa, .inl (cI, 96, .inl lt)), (ka, .inl (cC, 5, .inl kf))]) [0, 1, 2] rfl
    have hD9 := hD.sub (ws' := [(g0, .inr (5, [.ref ra, .ref wa, .ref ta, .int kpt, .ref ma, .int mkd, .ref pa, .int (nI tn), .int (nI p9.1), .int 0, .ref ba, .ref ka, .int srt, .ref fa, .ref qa, .ref ea, .ref za, .ref ya, .int wks])), (pa, .inl (cI, 96, .inl lt)), (ka, .inl (cC, 5, .inl kf))]) [0, 1, 2] (by decide) rfl
    have hE9 : ([(g0, .inr (5, [.ref ra, .ref wa, .ref ta, .int kpt, .ref ma, .int mkd, .ref pa, .int (nI tn), .int (nI p9.1), .int 0, .ref ba, .ref ka, .int srt, .ref fa, .ref qa, .ref ea, .ref za, .ref ya, .int wks])), (pa, .inl (cI, 96, .inl lt)), (ka, .inl (cC, 5, .inl kf))] : va_W) = [(g0, .inr (5, [.ref ra, .ref wa, .ref ta, .int kpt, .ref ma, .int mkd, .ref pa, .int (nI tn), .int (nI (xPn lt tn kf 5 p9).1), .int ((xPn lt tn kf 5 p9).2), .ref ba, .ref ka, .int srt, .ref fa, .ref qa, .ref ea, .ref za, .ref ya, .int wks])), (pa, .inl (cI, 96, .inl lt)), (ka, .inl (cC, 5, .inl kf))] := by have w := mt (nI_ltI (a := k) (b := 5) (by omega) (by omega)).mpr (Int32.not_lt.mpr c_1); have eo := xPn_no (lt := lt) (tn := tn) (f := kf) (n := 5) (p := p9) (xFst_none 5 (fun i hi => h3 i (by omega))); rw [eo.1]
    exact W.iret (v := 0) hx hb hr (fun t ht hW => ⟨⟨_, (), rfl, (by have w := mt (nI_ltI (a := k) (b := 5) (by omega) (by omega)).mpr (Int32.not_lt.mpr c_1); have eo := xPn_no (lt := lt) (tn := tn) (f := kf) (n := 5) (p := p9) (xFst_none 5 (fun i hi => h3 i (by omega))); exact eo.2.symm), by rw [ht]; exact hE9 ▸ hP9, hE9 ▸ hD9⟩, hS.F ht⟩) hS.2.2 dX5_oneOf_65
  · refine lv_aload_n hx hb dX5_oneOf_8 rfl (lv_at hl 1 rfl) ?_
    refine va_get (D := D) (ci := 5) (v := .int p9.2) (C := RX5) (T := TX5) (N := 19) hx hb hts hwX5 hown hK hP 0 rfl rfl 9 (by decide) (hts (.fieldLink RX5 61 "WaitOrWalkOnModel" "well" "Z") (by decide +kernel)) (fun _ h9 => h9) rfl dX5_oneOf_9 ?_
    refine lv_if_eq (tgt := 53) hx hb dX5_oneOf_12 (by decide) (fun c_2 => ?_) (fun c_2 => ?_)
    · refine lv_iinc (v := nI (k + 1)) (lv' := [(2, .int (nI (k + 1))), (0, .ref g0), (1, .ref ka)]) hx hb dX5_oneOf_53 hl (k := 0) rfl (nI_1 k) (by decide) rfl (fun ls hl => ?_)
      refine lv_goto (tgt := 2) hx hb dX5_oneOf_56 (by decide) ?_
      have w := (nI_ltI (a := k) (b := 5) (by omega) (by omega)).mp (Int32.not_le.mp c_1)
      have e3 : xOp lt tn kf p9 k = false := xOp_f1 c_2
      exact ih_2 (k + 1) _ _ _ ⟨lv_sub hl [0, 1, 2] rfl, hP.sub [0, 1, 2] rfl, hD.sub [0, 1, 2] (by decide) rfl, hS, by (try dsimp only); exact ⟨by omega, by omega, fun i hi => by rcases Nat.lt_or_ge i k with q | q; exact h3 i q; (obtain rfl : i = k := by omega); exact e3⟩⟩
    · refine lv_aload_n hx hb dX5_oneOf_15 rfl (lv_at hl 1 rfl) ?_
      refine va_get (D := D) (ci := 5) (v := .int (nI p9.1)) (C := RX5) (T := TX5) (N := 19) hx hb hts hwX5 hown hK hP 0 rfl rfl 8 (by decide) (hts (.fieldLink RX5 64 "WaitOrWalkOnModel" "at" "I") (by decide +kernel)) (fun _ h9 => h9) rfl dX5_oneOf_16 ?_
      refine lv_aload_n hx hb dX5_oneOf_19 rfl (lv_at hl 1 rfl) ?_
      refine va_get (D := D) (ci := 5) (v := .int (nI tn)) (C := RX5) (T := TX5) (N := 19) hx hb hts hwX5 hown hK hP 0 rfl rfl 7 (by decide) (hts (.fieldLink RX5 57 "WaitOrWalkOnModel" "taped" "I") (by decide +kernel)) (fun _ h9 => h9) rfl dX5_oneOf_20 ?_
      refine lv_icmp_ge (tgt := 53) hx hb dX5_oneOf_23 (by decide) (fun c_3 => ?_) (fun c_3 => ?_)
      · refine lv_iinc (v := nI (k + 1)) (lv' := [(2, .int (nI (k + 1))), (0, .ref g0), (1, .ref ka)]) hx hb dX5_oneOf_53 hl (k := 0) rfl (nI_1 k) (by decide) rfl (fun ls hl => ?_)
        refine lv_goto (tgt := 2) hx hb dX5_oneOf_56 (by decide) ?_
        have w := (nI_ltI (a := k) (b := 5) (by omega) (by omega)).mp (Int32.not_le.mp c_1)
        have e3 : xOp lt tn kf p9 k = false := xOp_f2 (mt (nI_ltI (a := p9.1) (b := tn) (by omega) (by omega)).mpr (Int32.not_lt.mpr c_3))
        exact ih_2 (k + 1) _ _ _ ⟨lv_sub hl [0, 1, 2] rfl, hP.sub [0, 1, 2] rfl, hD.sub [0, 1, 2] (by decide) rfl, hS, by (try dsimp only); exact ⟨by omega, by omega, fun i hi => by rcases Nat.lt_or_ge i k with q | q; exact h3 i q; (obtain rfl : i = k := by omega); exact e3⟩⟩
      · refine lv_aload_n hx hb dX5_oneOf_26 rfl (lv_at hl 1 rfl) ?_
        refine va_get (D := D) (ci := 5) (v := .ref pa) (C := RX5) (T := TX5) (N := 19) hx hb hts hwX5 hown hK hP 0 rfl rfl 6 (by decide) (hts (.fieldLink RX5 28 "WaitOrWalkOnModel" "tape" "[I") (by decide +kernel)) (fun _ h9 => h9) rfl dX5_oneOf_27 ?_
        refine lv_aload_n hx hb dX5_oneOf_30 rfl (lv_at hl 1 rfl) ?_
        refine va_get (D := D) (ci := 5) (v := .int (nI p9.1)) (C := RX5) (T := TX5) (N := 19) hx hb hts hwX5 hown hK hP 0 rfl rfl 8 (by decide) (hts (.fieldLink RX5 64 "WaitOrWalkOnModel" "at" "I") (by decide +kernel)) (fun _ h9 => h9) rfl dX5_oneOf_31 ?_
        refine va_iald (D := D) hx hb hK hP 1 0 rfl rfl (vp_in_nI (by have w := (nI_ltI (a := p9.1) (b := tn) (by omega) (by omega)).mp (Int32.not_le.mp c_3); omega) (by decide)) dX5_oneOf_34 ?_
        refine xv_int (y := lt p9.1) (congrArg lt (nI_clamp (by omega))) ?_
        refine lv_aload_n hx hb dX5_oneOf_35 rfl (lv_at hl 2 rfl) ?_
        refine lv_iload_n hx hb dX5_oneOf_36 rfl (lv_at hl 0 rfl) ?_
        refine va_cald (D := D) hx hb hK hP 2 3 rfl rfl (vp_in_nI (by have w := (nI_ltI (a := k) (b := 5) (by omega) (by omega)).mp (Int32.not_le.mp c_1); omega) (by decide)) dX5_oneOf_37 ?_
        refine xv_int (y := kf k) (congrArg kf (nI_clamp (by omega))) ?_
        refine lv_icmp_ne (tgt := 53) hx hb dX5_oneOf_38 (by decide) (fun c_4 => ?_) (fun c_4 => ?_)
        · refine lv_iinc (v := nI (k + 1)) (lv' := [(2, .int (nI (k + 1))), (0, .ref g0), (1, .ref ka)]) hx hb dX5_oneOf_53 hl (k := 0) rfl (nI_1 k) (by decide) rfl (fun ls hl => ?_)
          refine lv_goto (tgt := 2) hx hb dX5_oneOf_56 (by decide) ?_
          have w := (nI_ltI (a := k) (b := 5) (by omega) (by omega)).mp (Int32.not_le.mp c_1)
          have e3 : xOp lt tn kf p9 k = false := xOp_f3 c_4
          exact ih_2 (k + 1) _ _ _ ⟨lv_sub hl [0, 1, 2] rfl, hP.sub [0, 1, 2] rfl, hD.sub [0, 1, 2] (by decide) rfl, hS, by (try dsimp only); exact ⟨by omega, by omega, fun i hi => by rcases Nat.lt_or_ge i k with q | q; exact h3 i q; (obtain rfl : i = k := by omega); exact e3⟩⟩
        · refine lv_aload_n hx hb dX5_oneOf_41 rfl (lv_at hl 1 rfl) ?_
          refine lv_dup hx hb dX5_oneOf_42 rfl ?_
          refine va_get (D := D) (ci := 5) (v := .int (nI p9.1)) (C := RX5) (T := TX5) (N := 19) hx hb hts hwX5 hown hK hP 0 rfl rfl 8 (by decide) (hts (.fieldLink RX5 64 "WaitOrWalkOnModel" "at" "I") (by decide +kernel)) (fun _ h9 => h9) rfl dX5_oneOf_43 ?_
          refine lv_iconst (v := 1) hx hb dX5_oneOf_46 (by decide) ?_
          refine lv_iadd hx hb dX5_oneOf_47 ?_
          refine xv_int (y := nI (p9.1 + 1)) (nI_1 _) ?_
          refine va_put (D := D) (ci := 5) (v := .int (nI (p9.1 + 1))) (ty := .int) (C := RX5) (T := TX5) (N := 19) hx hb hts hwX5 tyX5 tyX5_ok nmX5 hown hK hP hD hS 0 rfl rfl 8 (by decide) (hts (.fieldLink RX5 64 "WaitOrWalkOnModel" "at" "I") (by decide +kernel)) (fun _ h9 => h9) rfl (by decide +kernel) rfl rfl (Nat.le_of_ble_eq_true rfl) dX5_oneOf_48 (fun H locs hP hD hS => ?_)
          have hP : va_P D vwCl [(g0, .inr (5, [.ref ra, .ref wa, .ref ta, .int kpt, .ref ma, .int mkd, .ref pa, .int (nI tn), .int (nI (p9.1 + 1)), .int p9.2, .ref ba, .ref ka, .int srt, .ref fa, .ref qa, .ref ea, .ref za, .ref ya, .int wks])), (pa, .inl (cI, 96, .inl lt)), (ka, .inl (cC, 5, .inl kf))] H := hP
          have hD : va_D A [(g0, .inr (5, [.ref ra, .ref wa, .ref ta, .int kpt, .ref ma, .int mkd, .ref pa, .int (nI tn), .int (nI (p9.1 + 1)), .int p9.2, .ref ba, .ref ka, .int srt, .ref fa, .ref qa, .ref ea, .ref za, .ref ya, .int wks])), (pa, .inl (cI, 96, .inl lt)), (ka, .inl (cC, 5, .inl kf))] := hD
          refine lv_iload_n hx hb dX5_oneOf_51 rfl (lv_at hl 0 rfl) ?_
          have hP9 := hP.sub (ws' := [(g0, .inr (5, [.ref ra, .ref wa, .ref ta, .int kpt, .ref ma, .int mkd, .ref pa, .int (nI tn), .int (nI (p9.1 + 1)), .int p9.2, .ref ba, .ref ka, .int srt, .ref fa, .ref qa, .ref ea, .ref za, .ref ya, .int wks])), (pa, .inl (cI, 96, .inl lt)), (ka, .inl (cC, 5, .inl kf))]) [0, 1, 2] rfl
          have hD9 := hD.sub (ws' := [(g0, .inr (5, [.ref ra, .ref wa, .ref ta, .int kpt, .ref ma, .int mkd, .ref pa, .int (nI tn), .int (nI (p9.1 + 1)), .int p9.2, .ref ba, .ref ka, .int srt, .ref fa, .ref qa, .ref ea, .ref za, .ref ya, .int wks])), (pa, .inl (cI, 96, .inl lt)), (ka, .inl (cC, 5, .inl kf))]) [0, 1, 2] (by decide) rfl
          have hE9 : ([(g0, .inr (5, [.ref ra, .ref wa, .ref ta, .int kpt, .ref ma, .int mkd, .ref pa, .int (nI tn), .int (nI (p9.1 + 1)), .int p9.2, .ref ba, .ref ka, .int srt, .ref fa, .ref qa, .ref ea, .ref za, .ref ya, .int wks])), (pa, .inl (cI, 96, .inl lt)), (ka, .inl (cC, 5, .inl kf))] : va_W) = [(g0, .inr (5, [.ref ra, .ref wa, .ref ta, .int kpt, .ref ma, .int mkd, .ref pa, .int (nI tn), .int (nI (xPn lt tn kf 5 p9).1), .int ((xPn lt tn kf 5 p9).2), .ref ba, .ref ka, .int srt, .ref fa, .ref qa, .ref ea, .ref za, .ref ya, .int wks])), (pa, .inl (cI, 96, .inl lt)), (ka, .inl (cC, 5, .inl kf))] := by have w := (nI_ltI (a := k) (b := 5) (by omega) (by omega)).mp (Int32.not_le.mp c_1); have eo := xPn_at (lt := lt) (tn := tn) (f := kf) (n := 5) (p := p9) w (xFst_at (xOp_t c_2 ((nI_ltI (a := p9.1) (b := tn) (by omega) (by omega)).mp (Int32.not_le.mp c_3)) c_4) h3 5 w); rw [eo.1]
          exact W.iret (v := nI k) hx hb hr (fun t ht hW => ⟨⟨_, (), rfl, (by have w := (nI_ltI (a := k) (b := 5) (by omega) (by omega)).mp (Int32.not_le.mp c_1); have eo := xPn_at (lt := lt) (tn := tn) (f := kf) (n := 5) (p := p9) w (xFst_at (xOp_t c_2 ((nI_ltI (a := p9.1) (b := tn) (by omega) (by omega)).mp (Int32.not_le.mp c_3)) c_4) h3 5 w); exact eo.2.symm), by rw [ht]; exact hE9 ▸ hP9, hE9 ▸ hD9⟩, hS.F ht⟩) hS.2.2 dX5_oneOf_52

set_option maxHeartbeats 4000000 in
set_option maxRecDepth 100000 in
theorem g_X5_figures (l : Launch) (D : va_G) (cI cL cZ cC : ClassId) (sz : Nat) (g0 : Nat) (ra : Nat) (wa : Nat) (ta : Nat) (ma : Nat) (pa : Nat) (ba : Nat) (ka : Nat) (fa : Nat) (qa : Nat) (ea : Nat) (za : Nat) (ya : Nat) (kpt : Int32) (mkd : Int32) (srt : Int32) (wks : Int32) (tn : Nat) (p9 : Nat × Int32) (m9 : Nat) (l1 : Int32) (lt : Nat → Int32) (htn : tn ≤ 96) (hp9 : p9.1 ≤ tn) (hm9 : m9 ≤ 3) : Met l yX5_figures wsX5_figures ({ frames := 1, cells := 0, slots := 0, locals := 20 } : Room) (wPc D [.ref g0, .int l1, .int (nI m9)] [(g0, .inr (5, [.ref ra, .ref wa, .ref ta, .int kpt, .ref ma, .int mkd, .ref pa, .int (nI tn), .int (nI p9.1), .int p9.2, .ref ba, .ref ka, .int srt, .ref fa, .ref qa, .ref ea, .ref za, .ref ya, .int wks])), (pa, .inl (cI, 96, .inl lt))] (xTy cI cL cZ cC) sz) (va_Qi (fun (r : Int32) (_ : Unit) => r = xPw lt tn m9 p9) (fun (_ : Unit) t => va_P D vwCl [(g0, .inr (5, [.ref ra, .ref wa, .ref ta, .int kpt, .ref ma, .int mkd, .ref pa, .int (nI tn), .int (nI (xPf lt tn l1 m9 p9).1), .int (xPf lt tn l1 m9 p9).2, .ref ba, .ref ka, .int srt, .ref fa, .ref qa, .ref ea, .ref za, .ref ya, .int wks])), (pa, .inl (cI, 96, .inl lt))] t.heap ∧ va_D (va_A [(g0, .inr (5, [.ref ra, .ref wa, .ref ta, .int kpt, .ref ma, .int mkd, .ref pa, .int (nI tn), .int (nI p9.1), .int p9.2, .ref ba, .ref ka, .int srt, .ref fa, .ref qa, .ref ea, .ref za, .ref ya, .int wks])), (pa, .inl (cI, 96, .inl lt))] sz) [(g0, .inr (5, [.ref ra, .ref wa, .ref ta, .int kpt, .ref ma, .int mkd, .ref pa, .int (nI tn), .int (nI (xPf lt tn l1 m9 p9).1), .int (xPf lt tn l1 m9 p9).2, .ref ba, .ref ka, .int srt, .ref fa, .ref qa, .ref ea, .ref za, .ref ya, .int wks])), (pa, .inl (cI, 96, .inl lt))]) (va_A [(g0, .inr (5, [.ref ra, .ref wa, .ref ta, .int kpt, .ref ma, .int mkd, .ref pa, .int (nI tn), .int (nI p9.1), .int p9.2, .ref ba, .ref ka, .int srt, .ref fa, .ref qa, .ref ea, .ref za, .ref ya, .int wks])), (pa, .inl (cI, 96, .inl lt))] sz)) 0 0 (va_A [(g0, .inr (5, [.ref ra, .ref wa, .ref ta, .int kpt, .ref ma, .int mkd, .ref pa, .int (nI tn), .int (nI p9.1), .int p9.2, .ref ba, .ref ka, .int srt, .ref fa, .ref qa, .ref ea, .ref za, .ref ya, .int wks])), (pa, .inl (cI, 96, .inl lt))] sz) := by
  refine Met.ofW (cc := cX5_figures) (maxL := 5) (ret := (some .int)) (by decide) rfl ?_
  intro p e s m args below meth c s₁ B hml hv
  obtain ⟨rfl, hsz, hP, hK, hD0⟩ := hv
  have hx := B.exec
  have hb := B.bytes
  have hr := B.returns
  have hts := atoms_spec (ws := wsX5_figures) B.pre
  have hown : s.vm.findClass RX5 = some m.cls := findClass_of_methodNamed B.named
  have hlocks := B.notSynchronized
  have hwX5 : ∀ w ∈ u_ws RX5 TX5 19, w ∈ wsX5_figures := fun _ h => List.mem_cons_of_mem _ (List.mem_append_right _ h)
  subst hsz
  have hD := hD0.self (sz := s.heap.size)
  generalize hAe : va_A [(g0, .inr (5, [.ref ra, .ref wa, .ref ta, .int kpt, .ref ma, .int mkd, .ref pa, .int (nI tn), .int (nI p9.1), .int p9.2, .ref ba, .ref ka, .int srt, .ref fa, .ref qa, .ref ea, .ref za, .ref ya, .int wks])), (pa, .inl (cI, 96, .inl lt))] s.heap.size = A at hD ⊢
  have hA : ∀ q : Nat, s.heap.size ≤ q → A q := fun q h => by rw [← hAe]; exact Or.inr h
  have hS : va_S A s.heap s.heap [] := va_S.rf
  have hP : va_P D vwCl [(g0, .inr (5, [.ref ra, .ref wa, .ref ta, .int kpt, .ref ma, .int mkd, .ref pa, .int (nI tn), .int (nI p9.1), .int p9.2, .ref ba, .ref ka, .int srt, .ref fa, .ref qa, .ref ea, .ref za, .ref ya, .int wks])), (pa, .inl (cI, 96, .inl lt))] s.heap := hP
  have hl := lv_entry ([.ref g0, .int l1, .int (nI m9)]) (n := 5) (Nat.le_of_ble_eq_true rfl)
  rw [lg_entry_eq]
  generalize (lg_sl ([.ref g0, .int l1, .int (nI m9)]) ++ List.replicate (5 - (lg_sl ([.ref g0, .int l1, .int (nI m9)])).length) Slot.unset).toArray = ls at hl ⊢
  have hl : lv_has ls 5 [(0, .ref g0), (1, .int l1), (2, .int (nI m9))] := hl
  refine lv_iconst (v := 0) hx hb dX5_figures_0 (by decide) ?_
  refine lv_istore_n (lv' := [(3, .int 0), (0, .ref g0), (1, .int l1), (2, .int (nI m9))]) hx hb dX5_figures_1 rfl hl (by decide) rfl (fun ls hl => ?_)
  refine lv_iconst (v := 0) hx hb dX5_figures_2 (by decide) ?_
  refine lv_istore (lv' := [(4, .int 0), (3, .int 0), (0, .ref g0), (1, .int l1), (2, .int (nI m9))]) hx hb dX5_figures_3 hl (by decide) rfl (fun ls hl => ?_)
  refine xl_loopH (σ := Nat) (fun n q H locs ls => lv_has ls 5 [(4, .int (nI q)), (3, .int (xFv lt p9.1 q)), (0, .ref g0), (1, .int l1), (2, .int (nI m9))] ∧ va_P D vwCl [(g0, .inr (5, [.ref ra, .ref wa, .ref ta, .int kpt, .ref ma, .int mkd, .ref pa, .int (nI tn), .int (nI (p9.1 + q)), .int p9.2, .ref ba, .ref ka, .int srt, .ref fa, .ref qa, .ref ea, .ref za, .ref ya, .int wks])), (pa, .inl (cI, 96, .inl lt))] H ∧ va_D A [(g0, .inr (5, [.ref ra, .ref wa, .ref ta, .int kpt, .ref ma, .int mkd, .ref pa, .int (nI tn), .int (nI (p9.1 + q)), .int p9.2, .ref ba, .ref ka, .int srt, .ref fa, .ref qa, .ref ea, .ref za, .ref ya, .int wks])), (pa, .inl (cI, 96, .inl lt))] ∧ va_S A s.heap H locs ∧ (m9 - q < n) ∧ (q ≤ m9) ∧ (xFc lt tn p9.2 (m9 - q) (p9.1 + q) + q = xFc lt tn p9.2 m9 p9.1)) (m9 + 1) (0) ⟨lv_sub hl [0, 1, 2, 3, 4] rfl, hP.sub [0, 1] rfl, hD.sub [0, 1] (by decide) rfl, hS, by (try dsimp only); exact ⟨by omega, by omega, rfl⟩⟩ (fun q H lc ls h => absurd h.2.2.2.2.1 (Nat.not_lt_zero _)) ?_
  intro n_5 q_5 H locs ls ih_5 hI_5
  obtain ⟨hl, hP, hD, hS, hI_5⟩ := hI_5
  obtain ⟨k, e_5⟩ : ∃ z, z = q_5 := ⟨_, rfl⟩
  subst e_5
  obtain ⟨h1, h2, h3⟩ := hI_5
  try dsimp only at hl hP hD h1 h2 h3
  refine lv_iload hx hb dX5_figures_5 (lv_at hl 0 rfl) ?_
  refine lv_iload_n hx hb dX5_figures_7 rfl (lv_at hl 4 rfl) ?_
  refine lv_icmp_ge (tgt := 52) hx hb dX5_figures_8 (by decide) (fun c_1 => ?_) (fun c_1 => ?_)
  · refine lv_aload_n hx hb dX5_figures_52 rfl (lv_at hl 2 rfl) ?_
    refine lv_aload_n hx hb dX5_figures_53 rfl (lv_at hl 2 rfl) ?_
    refine va_get (D := D) (ci := 5) (v := .int p9.2) (C := RX5) (T := TX5) (N := 19) hx hb hts hwX5 hown hK hP 0 rfl rfl 9 (by decide) (hts (.fieldLink RX5 61 "WaitOrWalkOnModel" "well" "Z") (by decide +kernel)) (fun _ h9 => h9) rfl dX5_figures_54 ?_
    refine lv_if_eq (tgt := 70) hx hb dX5_figures_57 (by decide) (fun c_2 => ?_) (fun c_2 => ?_)
    · refine lv_iconst (v := 0) hx hb dX5_figures_70 (by decide) ?_
      refine va_put (D := D) (ci := 5) (v := .int 0) (ty := .boolean) (C := RX5) (T := TX5) (N := 19) hx hb hts hwX5 tyX5 tyX5_ok nmX5 hown hK hP hD hS 0 rfl rfl 9 (by decide) (hts (.fieldLink RX5 61 "WaitOrWalkOnModel" "well" "Z") (by decide +kernel)) (fun _ h9 => h9) rfl (by decide +kernel) (by decide +kernel) rfl (Nat.le_of_ble_eq_true rfl) dX5_figures_71 (fun H locs hP hD hS => ?_)
      have hP : va_P D vwCl [(g0, .inr (5, [.ref ra, .ref wa, .ref ta, .int kpt, .ref ma, .int mkd, .ref pa, .int (nI tn), .int (nI (p9.1 + k)), .int 0, .ref ba, .ref ka, .int srt, .ref fa, .ref qa, .ref ea, .ref za, .ref ya, .int wks])), (pa, .inl (cI, 96, .inl lt))] H := hP
      have hD : va_D A [(g0, .inr (5, [.ref ra, .ref wa, .ref ta, .int kpt, .ref ma, .int mkd, .ref pa, .int (nI tn), .int (nI (p9.1 + k)), .int 0, .ref ba, .ref ka, .int srt, .ref fa, .ref qa, .ref ea, .ref za, .ref ya, .int wks])), (pa, .inl (cI, 96, .inl lt))] := hD
      refine lv_iload_n hx hb dX5_figures_74 rfl (lv_at hl 1 rfl) ?_
      have hP9 := hP.sub (ws' := [(g0, .inr (5, [.ref ra, .ref wa, .ref ta, .int kpt, .ref ma, .int mkd, .ref pa, .int (nI tn), .int (nI (p9.1 + k)), .int 0, .ref ba, .ref ka, .int srt, .ref fa, .ref qa, .ref ea, .ref za, .ref ya, .int wks])), (pa, .inl (cI, 96, .inl lt))]) [0, 1] rfl
      have hD9 := hD.sub (ws' := [(g0, .inr (5, [.ref ra, .ref wa, .ref ta, .int kpt, .ref ma, .int mkd, .ref pa, .int (nI tn), .int (nI (p9.1 + k)), .int 0, .ref ba, .ref ka, .int srt, .ref fa, .ref qa, .ref ea, .ref za, .ref ya, .int wks])), (pa, .inl (cI, 96, .inl lt))]) [0, 1] (by decide) rfl
      have hE9 : ([(g0, .inr (5, [.ref ra, .ref wa, .ref ta, .int kpt, .ref ma, .int mkd, .ref pa, .int (nI tn), .int (nI (p9.1 + k)), .int 0, .ref ba, .ref ka, .int srt, .ref fa, .ref qa, .ref ea, .ref za, .ref ya, .int wks])), (pa, .inl (cI, 96, .inl lt))] : va_W) = [(g0, .inr (5, [.ref ra, .ref wa, .ref ta, .int kpt, .ref ma, .int mkd, .ref pa, .int (nI tn), .int (nI (xPf lt tn l1 m9 p9).1), .int ((xPf lt tn l1 m9 p9).2), .ref ba, .ref ka, .int srt, .ref fa, .ref qa, .ref ea, .ref za, .ref ya, .int wks])), (pa, .inl (cI, 96, .inl lt))] := by have ec := xFc_z (show k = m9 by have w := mt (nI_ltI (a := k) (b := m9) (by omega) (by omega)).mpr (Int32.not_lt.mpr c_1); omega) h3; have e1 : (xPf lt tn l1 m9 p9).1 = p9.1 + k := (by show p9.1 + xFc lt tn p9.2 m9 p9.1 = _; rw [ec]); have e2 : (xPf lt tn l1 m9 p9).2 = 0 := (by show (if p9.2 = 0 then 0 else if nI (xFc lt tn p9.2 m9 p9.1) < l1 then 0 else 1) = _; rw [if_pos c_2]); rw [e1, e2]
      exact W.iret (v := xFv lt p9.1 k) hx hb hr (fun t ht hW => ⟨⟨_, (), rfl, (by have ec := xFc_z (show k = m9 by have w := mt (nI_ltI (a := k) (b := m9) (by omega) (by omega)).mpr (Int32.not_lt.mpr c_1); omega) h3; show _ = xFv lt p9.1 (xFc lt tn p9.2 m9 p9.1); rw [ec]), by rw [ht]; exact hE9 ▸ hP9, hE9 ▸ hD9⟩, hS.F ht⟩) hS.2.2 dX5_figures_75
    · refine lv_iload hx hb dX5_figures_60 (lv_at hl 0 rfl) ?_
      refine lv_iload_n hx hb dX5_figures_62 rfl (lv_at hl 3 rfl) ?_
      refine lv_icmp_lt (tgt := 70) hx hb dX5_figures_63 (by decide) (fun c_3 => ?_) (fun c_3 => ?_)
      · refine lv_iconst (v := 0) hx hb dX5_figures_70 (by decide) ?_
        refine va_put (D := D) (ci := 5) (v := .int 0) (ty := .boolean) (C := RX5) (T := TX5) (N := 19) hx hb hts hwX5 tyX5 tyX5_ok nmX5 hown hK hP hD hS 0 rfl rfl 9 (by decide) (hts (.fieldLink RX5 61 "WaitOrWalkOnModel" "well" "Z") (by decide +kernel)) (fun _ h9 => h9) rfl (by decide +kernel) (by decide +kernel) rfl (Nat.le_of_ble_eq_true rfl) dX5_figures_71 (fun H locs hP hD hS => ?_)
        have hP : va_P D vwCl [(g0, .inr (5, [.ref ra, .ref wa, .ref ta, .int kpt, .ref ma, .int mkd, .ref pa, .int (nI tn), .int (nI (p9.1 + k)), .int 0, .ref ba, .ref ka, .int srt, .ref fa, .ref qa, .ref ea, .ref za, .ref ya, .int wks])), (pa, .inl (cI, 96, .inl lt))] H := hP
        have hD : va_D A [(g0, .inr (5, [.ref ra, .ref wa, .ref ta, .int kpt, .ref ma, .int mkd, .ref pa, .int (nI tn), .int (nI (p9.1 + k)), .int 0, .ref ba, .ref ka, .int srt, .ref fa, .ref qa, .ref ea, .ref za, .ref ya, .int wks])), (pa, .inl (cI, 96, .inl lt))] := hD
        refine lv_iload_n hx hb dX5_figures_74 rfl (lv_at hl 1 rfl) ?_
        have hP9 := hP.sub (ws' := [(g0, .inr (5, [.ref ra, .ref wa, .ref ta, .int kpt, .ref ma, .int mkd, .ref pa, .int (nI tn), .int (nI (p9.1 + k)), .int 0, .ref ba, .ref ka, .int srt, .ref fa, .ref qa, .ref ea, .ref za, .ref ya, .int wks])), (pa, .inl (cI, 96, .inl lt))]) [0, 1] rfl
        have hD9 := hD.sub (ws' := [(g0, .inr (5, [.ref ra, .ref wa, .ref ta, .int kpt, .ref ma, .int mkd, .ref pa, .int (nI tn), .int (nI (p9.1 + k)), .int 0, .ref ba, .ref ka, .int srt, .ref fa, .ref qa, .ref ea, .ref za, .ref ya, .int wks])), (pa, .inl (cI, 96, .inl lt))]) [0, 1] (by decide) rfl
        have hE9 : ([(g0, .inr (5, [.ref ra, .ref wa, .ref ta, .int kpt, .ref ma, .int mkd, .ref pa, .int (nI tn), .int (nI (p9.1 + k)), .int 0, .ref ba, .ref ka, .int srt, .ref fa, .ref qa, .ref ea, .ref za, .ref ya, .int wks])), (pa, .inl (cI, 96, .inl lt))] : va_W) = [(g0, .inr (5, [.ref ra, .ref wa, .ref ta, .int kpt, .ref ma, .int mkd, .ref pa, .int (nI tn), .int (nI (xPf lt tn l1 m9 p9).1), .int ((xPf lt tn l1 m9 p9).2), .ref ba, .ref ka, .int srt, .ref fa, .ref qa, .ref ea, .ref za, .ref ya, .int wks])), (pa, .inl (cI, 96, .inl lt))] := by have ec := xFc_z (show k = m9 by have w := mt (nI_ltI (a := k) (b := m9) (by omega) (by omega)).mpr (Int32.not_lt.mpr c_1); omega) h3; have e1 : (xPf lt tn l1 m9 p9).1 = p9.1 + k := (by show p9.1 + xFc lt tn p9.2 m9 p9.1 = _; rw [ec]); have e2 : (xPf lt tn l1 m9 p9).2 = 0 := (by show (if p9.2 = 0 then 0 else if nI (xFc lt tn p9.2 m9 p9.1) < l1 then 0 else 1) = _; rw [if_neg c_2, ec, if_pos c_3]); rw [e1, e2]
        exact W.iret (v := xFv lt p9.1 k) hx hb hr (fun t ht hW => ⟨⟨_, (), rfl, (by have ec := xFc_z (show k = m9 by have w := mt (nI_ltI (a := k) (b := m9) (by omega) (by omega)).mpr (Int32.not_lt.mpr c_1); omega) h3; show _ = xFv lt p9.1 (xFc lt tn p9.2 m9 p9.1); rw [ec]), by rw [ht]; exact hE9 ▸ hP9, hE9 ▸ hD9⟩, hS.F ht⟩) hS.2.2 dX5_figures_75
      · refine lv_iconst (v := 1) hx hb dX5_figures_66 (by decide) ?_
        refine lv_goto (tgt := 71) hx hb dX5_figures_67 (by decide) ?_
        refine va_put (D := D) (ci := 5) (v := .int 1) (ty := .boolean) (C := RX5) (T := TX5) (N := 19) hx hb hts hwX5 tyX5 tyX5_ok nmX5 hown hK hP hD hS 0 rfl rfl 9 (by decide) (hts (.fieldLink RX5 61 "WaitOrWalkOnModel" "well" "Z") (by decide +kernel)) (fun _ h9 => h9) rfl (by decide +kernel) (by decide +kernel) rfl (Nat.le_of_ble_eq_true rfl) dX5_figures_71 (fun H locs hP hD hS => ?_)
        have hP : va_P D vwCl [(g0, .inr (5, [.ref ra, .ref wa, .ref ta, .int kpt, .ref ma, .int mkd, .ref pa, .int (nI tn), .int (nI (p9.1 + k)), .int 1, .ref ba, .ref ka, .int srt, .ref fa, .ref qa, .ref ea, .ref za, .ref ya, .int wks])), (pa, .inl (cI, 96, .inl lt))] H := hP
        have hD : va_D A [(g0, .inr (5, [.ref ra, .ref wa, .ref ta, .int kpt, .ref ma, .int mkd, .ref pa, .int (nI tn), .int (nI (p9.1 + k)), .int 1, .ref ba, .ref ka, .int srt, .ref fa, .ref qa, .ref ea, .ref za, .ref ya, .int wks])), (pa, .inl (cI, 96, .inl lt))] := hD
        refine lv_iload_n hx hb dX5_figures_74 rfl (lv_at hl 1 rfl) ?_
        have hP9 := hP.sub (ws' := [(g0, .inr (5, [.ref ra, .ref wa, .ref ta, .int kpt, .ref ma, .int mkd, .ref pa, .int (nI tn), .int (nI (p9.1 + k)), .int 1, .ref ba, .ref ka, .int srt, .ref fa, .ref qa, .ref ea, .ref za, .ref ya, .int wks])), (pa, .inl (cI, 96, .inl lt))]) [0, 1] rfl
        have hD9 := hD.sub (ws' := [(g0, .inr (5, [.ref ra, .ref wa, .ref ta, .int kpt, .ref ma, .int mkd, .ref pa, .int (nI tn), .int (nI (p9.1 + k)), .int 1, .ref ba, .ref ka, .int srt, .ref fa, .ref qa, .ref ea, .ref za, .ref ya, .int wks])), (pa, .inl (cI, 96, .inl lt))]) [0, 1] (by decide) rfl
        have hE9 : ([(g0, .inr (5, [.ref ra, .ref wa, .ref ta, .int kpt, .ref ma, .int mkd, .ref pa, .int (nI tn), .int (nI (p9.1 + k)), .int 1, .ref ba, .ref ka, .int srt, .ref fa, .ref qa, .ref ea, .ref za, .ref ya, .int wks])), (pa, .inl (cI, 96, .inl lt))] : va_W) = [(g0, .inr (5, [.ref ra, .ref wa, .ref ta, .int kpt, .ref ma, .int mkd, .ref pa, .int (nI tn), .int (nI (xPf lt tn l1 m9 p9).1), .int ((xPf lt tn l1 m9 p9).2), .ref ba, .ref ka, .int srt, .ref fa, .ref qa, .ref ea, .ref za, .ref ya, .int wks])), (pa, .inl (cI, 96, .inl lt))] := by have ec := xFc_z (show k = m9 by have w := mt (nI_ltI (a := k) (b := m9) (by omega) (by omega)).mpr (Int32.not_lt.mpr c_1); omega) h3; have e1 : (xPf lt tn l1 m9 p9).1 = p9.1 + k := (by show p9.1 + xFc lt tn p9.2 m9 p9.1 = _; rw [ec]); have e2 : (xPf lt tn l1 m9 p9).2 = 1 := (by show (if p9.2 = 0 then 0 else if nI (xFc lt tn p9.2 m9 p9.1) < l1 then 0 else 1) = _; rw [if_neg c_2, ec, if_neg c_3]); rw [e1, e2]
        exact W.iret (v := xFv lt p9.1 k) hx hb hr (fun t ht hW => ⟨⟨_, (), rfl, (by have ec := xFc_z (show k = m9 by have w := mt (nI_ltI (a := k) (b := m9) (by omega) (by omega)).mpr (Int32.not_lt.mpr c_1); omega) h3; show _ = xFv lt p9.1 (xFc lt tn p9.2 m9 p9.1); rw [ec]), by rw [ht]; exact hE9 ▸ hP9, hE9 ▸ hD9⟩, hS.F ht⟩) hS.2.2 dX5_figures_75
  · have hle := xFc_le lt tn p9.2 m9 p9.1 hp9
    refine lv_aload_n hx hb dX5_figures_11 rfl (lv_at hl 2 rfl) ?_
    have hPc := hP.sub (ws' := [(g0, .inr (5, [.ref ra, .ref wa, .ref ta, .int kpt, .ref ma, .int mkd, .ref pa, .int (nI tn), .int (nI (p9.1 + k, p9.2).1), .int ((p9.1 + k, p9.2).2), .ref ba, .ref ka, .int srt, .ref fa, .ref qa, .ref ea, .ref za, .ref ya, .int wks])), (pa, .inl (cI, 96, .inl lt))]) [0, 1] rfl
    refine vp_callSi (va_Run.run (va_runV (As := []) (rest := []) ⟨hx, hb, hml, hown, hts⟩ (g_X5_isFigure l D cI cL cZ cC g0 ra wa ta ma pa ba ka fa qa ea za ya kpt mkd srt wks tn (p9.1 + k, p9.2) lt (htn) (by show p9.1 + k ≤ tn; omega)) (cwV 0 hts gX5_figures_X5_isFigure rfl rfl rfl (by decide +kernel) ⟨Nat.le_of_ble_eq_true rfl, Nat.le_of_ble_eq_true rfl⟩) ⟨xPc_bl, va_recv hK hPc (ci := 5) (q0 := 0) rfl rfl, xPc_use hPc hK⟩ rfl rfl hl.1 rfl (lv_room (Nat.le_of_ble_eq_true rfl)) dX5_figures_12 ⟨Nat.le_of_ble_eq_true rfl, Nat.le_of_ble_eq_true rfl⟩)) (fun r_4 er_4 => ?_)
    obtain rfl : (xFg lt tn (p9.1 + k, p9.2) : Int32) = r_4 := Eq.symm er_4
    refine lv_if_eq (tgt := 52) hx hb dX5_figures_15 (by decide) (fun c_5 => ?_) (fun c_5 => ?_)
    · refine lv_aload_n hx hb dX5_figures_52 rfl (lv_at hl 2 rfl) ?_
      refine lv_aload_n hx hb dX5_figures_53 rfl (lv_at hl 2 rfl) ?_
      refine va_get (D := D) (ci := 5) (v := .int p9.2) (C := RX5) (T := TX5) (N := 19) hx hb hts hwX5 hown hK hP 0 rfl rfl 9 (by decide) (hts (.fieldLink RX5 61 "WaitOrWalkOnModel" "well" "Z") (by decide +kernel)) (fun _ h9 => h9) rfl dX5_figures_54 ?_
      refine lv_if_eq (tgt := 70) hx hb dX5_figures_57 (by decide) (fun c_6 => ?_) (fun c_6 => ?_)
      · refine lv_iconst (v := 0) hx hb dX5_figures_70 (by decide) ?_
        refine va_put (D := D) (ci := 5) (v := .int 0) (ty := .boolean) (C := RX5) (T := TX5) (N := 19) hx hb hts hwX5 tyX5 tyX5_ok nmX5 hown hK hP hD hS 0 rfl rfl 9 (by decide) (hts (.fieldLink RX5 61 "WaitOrWalkOnModel" "well" "Z") (by decide +kernel)) (fun _ h9 => h9) rfl (by decide +kernel) (by decide +kernel) rfl (Nat.le_of_ble_eq_true rfl) dX5_figures_71 (fun H locs hP hD hS => ?_)
        have hP : va_P D vwCl [(g0, .inr (5, [.ref ra, .ref wa, .ref ta, .int kpt, .ref ma, .int mkd, .ref pa, .int (nI tn), .int (nI (p9.1 + k)), .int 0, .ref ba, .ref ka, .int srt, .ref fa, .ref qa, .ref ea, .ref za, .ref ya, .int wks])), (pa, .inl (cI, 96, .inl lt))] H := hP
        have hD : va_D A [(g0, .inr (5, [.ref ra, .ref wa, .ref ta, .int kpt, .ref ma, .int mkd, .ref pa, .int (nI tn), .int (nI (p9.1 + k)), .int 0, .ref ba, .ref ka, .int srt, .ref fa, .ref qa, .ref ea, .ref za, .ref ya, .int wks])), (pa, .inl (cI, 96, .inl lt))] := hD
        refine lv_iload_n hx hb dX5_figures_74 rfl (lv_at hl 1 rfl) ?_
        have hP9 := hP.sub (ws' := [(g0, .inr (5, [.ref ra, .ref wa, .ref ta, .int kpt, .ref ma, .int mkd, .ref pa, .int (nI tn), .int (nI (p9.1 + k)), .int 0, .ref ba, .ref ka, .int srt, .ref fa, .ref qa, .ref ea, .ref za, .ref ya, .int wks])), (pa, .inl (cI, 96, .inl lt))]) [0, 1] rfl
        have hD9 := hD.sub (ws' := [(g0, .inr (5, [.ref ra, .ref wa, .ref ta, .int kpt, .ref ma, .int mkd, .ref pa, .int (nI tn), .int (nI (p9.1 + k)), .int 0, .ref ba, .ref ka, .int srt, .ref fa, .ref qa, .ref ea, .ref za, .ref ya, .int wks])), (pa, .inl (cI, 96, .inl lt))]) [0, 1] (by decide) rfl
        have hE9 : ([(g0, .inr (5, [.ref ra, .ref wa, .ref ta, .int kpt, .ref ma, .int mkd, .ref pa, .int (nI tn), .int (nI (p9.1 + k)), .int 0, .ref ba, .ref ka, .int srt, .ref fa, .ref qa, .ref ea, .ref za, .ref ya, .int wks])), (pa, .inl (cI, 96, .inl lt))] : va_W) = [(g0, .inr (5, [.ref ra, .ref wa, .ref ta, .int kpt, .ref ma, .int mkd, .ref pa, .int (nI tn), .int (nI (xPf lt tn l1 m9 p9).1), .int ((xPf lt tn l1 m9 p9).2), .ref ba, .ref ka, .int srt, .ref fa, .ref qa, .ref ea, .ref za, .ref ya, .int wks])), (pa, .inl (cI, 96, .inl lt))] := by have ec := xFc_n ((nI_ltI (a := k) (b := m9) (by omega) (by omega)).mp (Int32.not_le.mp c_1)) c_5 h3; have e1 : (xPf lt tn l1 m9 p9).1 = p9.1 + k := (by show p9.1 + xFc lt tn p9.2 m9 p9.1 = _; rw [ec]); have e2 : (xPf lt tn l1 m9 p9).2 = 0 := (by show (if p9.2 = 0 then 0 else if nI (xFc lt tn p9.2 m9 p9.1) < l1 then 0 else 1) = _; rw [if_pos c_6]); rw [e1, e2]
        exact W.iret (v := xFv lt p9.1 k) hx hb hr (fun t ht hW => ⟨⟨_, (), rfl, (by have ec := xFc_n ((nI_ltI (a := k) (b := m9) (by omega) (by omega)).mp (Int32.not_le.mp c_1)) c_5 h3; show _ = xFv lt p9.1 (xFc lt tn p9.2 m9 p9.1); rw [ec]), by rw [ht]; exact hE9 ▸ hP9, hE9 ▸ hD9⟩, hS.F ht⟩) hS.2.2 dX5_figures_75
      · refine lv_iload hx hb dX5_figures_60 (lv_at hl 0 rfl) ?_
        refine lv_iload_n hx hb dX5_figures_62 rfl (lv_at hl 3 rfl) ?_
        refine lv_icmp_lt (tgt := 70) hx hb dX5_figures_63 (by decide) (fun c_7 => ?_) (fun c_7 => ?_)
        · refine lv_iconst (v := 0) hx hb dX5_figures_70 (by decide) ?_
          refine va_put (D := D) (ci := 5) (v := .int 0) (ty := .boolean) (C := RX5) (T := TX5) (N := 19) hx hb hts hwX5 tyX5 tyX5_ok nmX5 hown hK hP hD hS 0 rfl rfl 9 (by decide) (hts (.fieldLink RX5 61 "WaitOrWalkOnModel" "well" "Z") (by decide +kernel)) (fun _ h9 => h9) rfl (by decide +kernel) (by decide +kernel) rfl (Nat.le_of_ble_eq_true rfl) dX5_figures_71 (fun H locs hP hD hS => ?_)
          have hP : va_P D vwCl [(g0, .inr (5, [.ref ra, .ref wa, .ref ta, .int kpt, .ref ma, .int mkd, .ref pa, .int (nI tn), .int (nI (p9.1 + k)), .int 0, .ref ba, .ref ka, .int srt, .ref fa, .ref qa, .ref ea, .ref za, .ref ya, .int wks])), (pa, .inl (cI, 96, .inl lt))] H := hP
          have hD : va_D A [(g0, .inr (5, [.ref ra, .ref wa, .ref ta, .int kpt, .ref ma, .int mkd, .ref pa, .int (nI tn), .int (nI (p9.1 + k)), .int 0, .ref ba, .ref ka, .int srt, .ref fa, .ref qa, .ref ea, .ref za, .ref ya, .int wks])), (pa, .inl (cI, 96, .inl lt))] := hD
          refine lv_iload_n hx hb dX5_figures_74 rfl (lv_at hl 1 rfl) ?_
          have hP9 := hP.sub (ws' := [(g0, .inr (5, [.ref ra, .ref wa, .ref ta, .int kpt, .ref ma, .int mkd, .ref pa, .int (nI tn), .int (nI (p9.1 + k)), .int 0, .ref ba, .ref ka, .int srt, .ref fa, .ref qa, .ref ea, .ref za, .ref ya, .int wks])), (pa, .inl (cI, 96, .inl lt))]) [0, 1] rfl
          have hD9 := hD.sub (ws' := [(g0, .inr (5, [.ref ra, .ref wa, .ref ta, .int kpt, .ref ma, .int mkd, .ref pa, .int (nI tn), .int (nI (p9.1 + k)), .int 0, .ref ba, .ref ka, .int srt, .ref fa, .ref qa, .ref ea, .ref za, .ref ya, .int wks])), (pa, .inl (cI, 96, .inl lt))]) [0, 1] (by decide) rfl
          have hE9 : ([(g0, .inr (5, [.ref ra, .ref wa, .ref ta, .int kpt, .ref ma, .int mkd, .ref pa, .int (nI tn), .int (nI (p9.1 + k)), .int 0, .ref ba, .ref ka, .int srt, .ref fa, .ref qa, .ref ea, .ref za, .ref ya, .int wks])), (pa, .inl (cI, 96, .inl lt))] : va_W) = [(g0, .inr (5, [.ref ra, .ref wa, .ref ta, .int kpt, .ref ma, .int mkd, .ref pa, .int (nI tn), .int (nI (xPf lt tn l1 m9 p9).1), .int ((xPf lt tn l1 m9 p9).2), .ref ba, .ref ka, .int srt, .ref fa, .ref qa, .ref ea, .ref za, .ref ya, .int wks])), (pa, .inl (cI, 96, .inl lt))] := by have ec := xFc_n ((nI_ltI (a := k) (b := m9) (by omega) (by omega)).mp (Int32.not_le.mp c_1)) c_5 h3; have e1 : (xPf lt tn l1 m9 p9).1 = p9.1 + k := (by show p9.1 + xFc lt tn p9.2 m9 p9.1 = _; rw [ec]); have e2 : (xPf lt tn l1 m9 p9).2 = 0 := (by show (if p9.2 = 0 then 0 else if nI (xFc lt tn p9.2 m9 p9.1) < l1 then 0 else 1) = _; rw [if_neg c_6, ec, if_pos c_7]); rw [e1, e2]
          exact W.iret (v := xFv lt p9.1 k) hx hb hr (fun t ht hW => ⟨⟨_, (), rfl, (by have ec := xFc_n ((nI_ltI (a := k) (b := m9) (by omega) (by omega)).mp (Int32.not_le.mp c_1)) c_5 h3; show _ = xFv lt p9.1 (xFc lt tn p9.2 m9 p9.1); rw [ec]), by rw [ht]; exact hE9 ▸ hP9, hE9 ▸ hD9⟩, hS.F ht⟩) hS.2.2 dX5_figures_75
        · refine lv_iconst (v := 1) hx hb dX5_figures_66 (by decide) ?_
          refine lv_goto (tgt := 71) hx hb dX5_figures_67 (by decide) ?_
          refine va_put (D := D) (ci := 5) (v := .int 1) (ty := .boolean) (C := RX5) (T := TX5) (N := 19) hx hb hts hwX5 tyX5 tyX5_ok nmX5 hown hK hP hD hS 0 rfl rfl 9 (by decide) (hts (.fieldLink RX5 61 "WaitOrWalkOnModel" "well" "Z") (by decide +kernel)) (fun _ h9 => h9) rfl (by decide +kernel) (by decide +kernel) rfl (Nat.le_of_ble_eq_true rfl) dX5_figures_71 (fun H locs hP hD hS => ?_)
          have hP : va_P D vwCl [(g0, .inr (5, [.ref ra, .ref wa, .ref ta, .int kpt, .ref ma, .int mkd, .ref pa, .int (nI tn), .int (nI (p9.1 + k)), .int 1, .ref ba, .ref ka, .int srt, .ref fa, .ref qa, .ref ea, .ref za, .ref ya, .int wks])), (pa, .inl (cI, 96, .inl lt))] H := hP
          have hD : va_D A [(g0, .inr (5, [.ref ra, .ref wa, .ref ta, .int kpt, .ref ma, .int mkd, .ref pa, .int (nI tn), .int (nI (p9.1 + k)), .int 1, .ref ba, .ref ka, .int srt, .ref fa, .ref qa, .ref ea, .ref za, .ref ya, .int wks])), (pa, .inl (cI, 96, .inl lt))] := hD
          refine lv_iload_n hx hb dX5_figures_74 rfl (lv_at hl 1 rfl) ?_
          have hP9 := hP.sub (ws' := [(g0, .inr (5, [.ref ra, .ref wa, .ref ta, .int kpt, .ref ma, .int mkd, .ref pa, .int (nI tn), .int (nI (p9.1 + k)), .int 1, .ref ba, .ref ka, .int srt, .ref fa, .ref qa, .ref ea, .ref za, .ref ya, .int wks])), (pa, .inl (cI, 96, .inl lt))]) [0, 1] rfl
          have hD9 := hD.sub (ws' := [(g0, .inr (5, [.ref ra, .ref wa, .ref ta, .int kpt, .ref ma, .int mkd, .ref pa, .int (nI tn), .int (nI (p9.1 + k)), .int 1, .ref ba, .ref ka, .int srt, .ref fa, .ref qa, .ref ea, .ref za, .ref ya, .int wks])), (pa, .inl (cI, 96, .inl lt))]) [0, 1] (by decide) rfl
          have hE9 : ([(g0, .inr (5, [.ref ra, .ref wa, .ref ta, .int kpt, .ref ma, .int mkd, .ref pa, .int (nI tn), .int (nI (p9.1 + k)), .int 1, .ref ba, .ref ka, .int srt, .ref fa, .ref qa, .ref ea, .ref za, .ref ya, .int wks])), (pa, .inl (cI, 96, .inl lt))] : va_W) = [(g0, .inr (5, [.ref ra, .ref wa, .ref ta, .int kpt, .ref ma, .int mkd, .ref pa, .int (nI tn), .int (nI (xPf lt tn l1 m9 p9).1), .int ((xPf lt tn l1 m9 p9).2), .ref ba, .ref ka, .int srt, .ref fa, .ref qa, .ref ea, .ref za, .ref ya, .int wks])), (pa, .inl (cI, 96, .inl lt))] := by have ec := xFc_n ((nI_ltI (a := k) (b := m9) (by omega) (by omega)).mp (Int32.not_le.mp c_1)) c_5 h3; have e1 : (xPf lt tn l1 m9 p9).1 = p9.1 + k := (by show p9.1 + xFc lt tn p9.2 m9 p9.1 = _; rw [ec]); have e2 : (xPf lt tn l1 m9 p9).2 = 1 := (by show (if p9.2 = 0 then 0 else if nI (xFc lt tn p9.2 m9 p9.1) < l1 then 0 else 1) = _; rw [if_neg c_6, ec, if_neg c_7]); rw [e1, e2]
          exact W.iret (v := xFv lt p9.1 k) hx hb hr (fun t ht hW => ⟨⟨_, (), rfl, (by have ec := xFc_n ((nI_ltI (a := k) (b := m9) (by omega) (by omega)).mp (Int32.not_le.mp c_1)) c_5 h3; show _ = xFv lt p9.1 (xFc lt tn p9.2 m9 p9.1); rw [ec]), by rw [ht]; exact hE9 ▸ hP9, hE9 ▸ hD9⟩, hS.F ht⟩) hS.2.2 dX5_figures_75
    · refine lv_bipush (v := 10) hx hb dX5_figures_18 (by decide) ?_
      refine lv_iload_n hx hb dX5_figures_20 rfl (lv_at hl 1 rfl) ?_
      refine lv_imul hx hb dX5_figures_21 ?_
      refine lv_aload_n hx hb dX5_figures_22 rfl (lv_at hl 2 rfl) ?_
      refine va_get (D := D) (ci := 5) (v := .ref pa) (C := RX5) (T := TX5) (N := 19) hx hb hts hwX5 hown hK hP 0 rfl rfl 6 (by decide) (hts (.fieldLink RX5 28 "WaitOrWalkOnModel" "tape" "[I") (by decide +kernel)) (fun _ h9 => h9) rfl dX5_figures_23 ?_
      refine lv_aload_n hx hb dX5_figures_26 rfl (lv_at hl 2 rfl) ?_
      refine va_get (D := D) (ci := 5) (v := .int (nI (p9.1 + k))) (C := RX5) (T := TX5) (N := 19) hx hb hts hwX5 hown hK hP 0 rfl rfl 8 (by decide) (hts (.fieldLink RX5 64 "WaitOrWalkOnModel" "at" "I") (by decide +kernel)) (fun _ h9 => h9) rfl dX5_figures_27 ?_
      refine va_iald (D := D) hx hb hK hP 1 0 rfl rfl (vp_in_nI (by have w := (xFg_lt c_5).2.1; dsimp only at w; omega) (by decide)) dX5_figures_30 ?_
      refine xv_int (y := lt (p9.1 + k)) (congrArg lt (nI_clamp (by omega))) ?_
      refine lv_iadd hx hb dX5_figures_31 ?_
      refine lv_bipush (v := 48) hx hb dX5_figures_32 (by decide) ?_
      refine lv_isub hx hb dX5_figures_34 ?_
      refine xv_int (y := xFv lt p9.1 (k + 1)) (rfl) ?_
      refine lv_istore_n (lv' := [(3, .int (xFv lt p9.1 (k + 1))), (4, .int (nI k)), (0, .ref g0), (1, .int l1), (2, .int (nI m9))]) hx hb dX5_figures_35 rfl hl (by decide) rfl (fun ls hl => ?_)
      refine lv_aload_n hx hb dX5_figures_36 rfl (lv_at hl 2 rfl) ?_
      refine lv_dup hx hb dX5_figures_37 rfl ?_
      refine va_get (D := D) (ci := 5) (v := .int (nI (p9.1 + k))) (C := RX5) (T := TX5) (N := 19) hx hb hts hwX5 hown hK hP 0 rfl rfl 8 (by decide) (hts (.fieldLink RX5 64 "WaitOrWalkOnModel" "at" "I") (by decide +kernel)) (fun _ h9 => h9) rfl dX5_figures_38 ?_
      refine lv_iconst (v := 1) hx hb dX5_figures_41 (by decide) ?_
      refine lv_iadd hx hb dX5_figures_42 ?_
      refine xv_int (y := nI (p9.1 + (k + 1))) (nI_1 _) ?_
      refine va_put (D := D) (ci := 5) (v := .int (nI (p9.1 + (k + 1)))) (ty := .int) (C := RX5) (T := TX5) (N := 19) hx hb hts hwX5 tyX5 tyX5_ok nmX5 hown hK hP hD hS 0 rfl rfl 8 (by decide) (hts (.fieldLink RX5 64 "WaitOrWalkOnModel" "at" "I") (by decide +kernel)) (fun _ h9 => h9) rfl (by decide +kernel) rfl rfl (Nat.le_of_ble_eq_true rfl) dX5_figures_43 (fun H locs hP hD hS => ?_)
      have hP : va_P D vwCl [(g0, .inr (5, [.ref ra, .ref wa, .ref ta, .int kpt, .ref ma, .int mkd, .ref pa, .int (nI tn), .int (nI (p9.1 + (k + 1))), .int p9.2, .ref ba, .ref ka, .int srt, .ref fa, .ref qa, .ref ea, .ref za, .ref ya, .int wks])), (pa, .inl (cI, 96, .inl lt))] H := hP
      have hD : va_D A [(g0, .inr (5, [.ref ra, .ref wa, .ref ta, .int kpt, .ref ma, .int mkd, .ref pa, .int (nI tn), .int (nI (p9.1 + (k + 1))), .int p9.2, .ref ba, .ref ka, .int srt, .ref fa, .ref qa, .ref ea, .ref za, .ref ya, .int wks])), (pa, .inl (cI, 96, .inl lt))] := hD
      refine lv_iinc (v := nI (k + 1)) (lv' := [(4, .int (nI (k + 1))), (3, .int (xFv lt p9.1 (k + 1))), (0, .ref g0), (1, .int l1), (2, .int (nI m9))]) hx hb dX5_figures_46 hl (k := 1) rfl (nI_1 k) (by decide) rfl (fun ls hl => ?_)
      refine lv_goto (tgt := 5) hx hb dX5_figures_49 (by decide) ?_
      have w := (nI_ltI (a := k) (b := m9) (by omega) (by omega)).mp (Int32.not_le.mp c_1)
      have e3 := xFc_s w c_5 h3
      exact ih_5 (k + 1) _ _ _ ⟨lv_sub hl [0, 1, 2, 3, 4] rfl, hP.sub [0, 1] rfl, hD.sub [0, 1] (by decide) rfl, hS, by (try dsimp only); exact ⟨by omega, by omega, e3⟩⟩

/-! a statement -/

set_option maxHeartbeats 4000000 in
set_option maxRecDepth 100000 in
theorem g_X5_statement (l : Launch) (D : va_G) (cI cL cZ cC : ClassId) (sz : Nat) (g0 : Nat) (ra : Nat) (wa : Nat) (ta : Nat) (ma : Nat) (pa : Nat) (ba : Nat) (ka : Nat) (fa : Nat) (qa : Nat) (ea : Nat) (za : Nat) (ya : Nat) (kpt : Int32) (mkd : Int32) (srt : Int32) (wks : Int32) (tn : Nat) (p9 : Nat × Int32) (lt : Nat → Int32) (bf : Nat → Int32) (kf : Nat → Int32) (ff : Nat → Int32) (htn : tn ≤ 96) (hp9 : p9.1 ≤ tn) : Met l yX5_statement wsX5_statement ({ frames := 2, cells := 0, slots := 0, locals := 44 } : Room) (wPc D [.ref g0] [(g0, .inr (5, [.ref ra, .ref wa, .ref ta, .int kpt, .ref ma, .int mkd, .ref pa, .int (nI tn), .int (nI p9.1), .int p9.2, .ref ba, .ref ka, .int srt, .ref fa, .ref qa, .ref ea, .ref za, .ref ya, .int wks])), (pa, .inl (cI, 96, .inl lt)), (ba, .inl (cC, 6, .inl bf)), (ka, .inl (cC, 5, .inl kf)), (fa, .inl (cI, 15, .inl ff))] (xTy cI cL cZ cC) sz) (va_Qv (fun (_ : Unit) => True) (fun (_ : Unit) t => va_P D vwCl [(g0, .inr (5, [.ref ra, .ref wa, .ref ta, .int kpt, .ref ma, .int mkd, .ref pa, .int (nI tn), .int (nI (xSp lt tn bf kf p9).1), .int (xSp lt tn bf kf p9).2, .ref ba, .ref ka, .int (xSs lt tn bf p9), .ref fa, .ref qa, .ref ea, .ref za, .ref ya, .int wks])), (pa, .inl (cI, 96, .inl lt)), (ba, .inl (cC, 6, .inl bf)), (ka, .inl (cC, 5, .inl kf)), (fa, .inl (cI, 15, .inl (xSf lt tn bf kf ff p9)))] t.heap ∧ va_D (va_A [(g0, .inr (5, [.ref ra, .ref wa, .ref ta, .int kpt, .ref ma, .int mkd, .ref pa, .int (nI tn), .int (nI p9.1), .int p9.2, .ref ba, .ref ka, .int srt, .ref fa, .ref qa, .ref ea, .ref za, .ref ya, .int wks])), (pa, .inl (cI, 96, .inl lt)), (ba, .inl (cC, 6, .inl bf)), (ka, .inl (cC, 5, .inl kf)), (fa, .inl (cI, 15, .inl ff))] sz) [(g0, .inr (5, [.ref ra, .ref wa, .ref ta, .int kpt, .ref ma, .int mkd, .ref pa, .int (nI tn), .int (nI (xSp lt tn bf kf p9).1), .int (xSp lt tn bf kf p9).2, .ref ba, .ref ka, .int (xSs lt tn bf p9), .ref fa, .ref qa, .ref ea, .ref za, .ref ya, .int wks])), (pa, .inl (cI, 96, .inl lt)), (ba, .inl (cC, 6, .inl bf)), (ka, .inl (cC, 5, .inl kf)), (fa, .inl (cI, 15, .inl (xSf lt tn bf kf ff p9)))]) (va_A [(g0, .inr (5, [.ref ra, .ref wa, .ref ta, .int kpt, .ref ma, .int mkd, .ref pa, .int (nI tn), .int (nI p9.1), .int p9.2, .ref ba, .ref ka, .int srt, .ref fa, .ref qa, .ref ea, .ref za, .ref ya, .int wks])), (pa, .inl (cI, 96, .inl lt)), (ba, .inl (cC, 6, .inl bf)), (ka, .inl (cC, 5, .inl kf)), (fa, .inl (cI, 15, .inl ff))] sz)) 0 0 (va_A [(g0, .inr (5, [.ref ra, .ref wa, .ref ta, .int kpt, .ref ma, .int mkd, .ref pa, .int (nI tn), .int (nI p9.1), .int p9.2, .ref ba, .ref ka, .int srt, .ref fa, .ref qa, .ref ea, .ref za, .ref ya, .int wks])), (pa, .inl (cI, 96, .inl lt)), (ba, .inl (cC, 6, .inl bf)), (ka, .inl (cC, 5, .inl kf)), (fa, .inl (cI, 15, .inl ff))] sz) := by
  refine Met.ofW (cc := cX5_statement) (maxL := 2) (ret := none) (by decide) rfl ?_
  intro p e s m args below meth c s₁ B hml hv
  obtain ⟨rfl, hsz, hP, hK, hD0⟩ := hv
  have hx := B.exec
  have hb := B.bytes
  have hr := B.returns
  have hts := atoms_spec (ws := wsX5_statement) B.pre
  have hown : s.vm.findClass RX5 = some m.cls := findClass_of_methodNamed B.named
  have hlocks := B.notSynchronized
  have hwX5 : ∀ w ∈ u_ws RX5 TX5 19, w ∈ wsX5_statement := fun _ h => List.mem_cons_of_mem _ (List.mem_append_right _ h)
  subst hsz
  have hD := hD0.self (sz := s.heap.size)
  generalize hAe : va_A [(g0, .inr (5, [.ref ra, .ref wa, .ref ta, .int kpt, .ref ma, .int mkd, .ref pa, .int (nI tn), .int (nI p9.1), .int p9.2, .ref ba, .ref ka, .int srt, .ref fa, .ref qa, .ref ea, .ref za, .ref ya, .int wks])), (pa, .inl (cI, 96, .inl lt)), (ba, .inl (cC, 6, .inl bf)), (ka, .inl (cC, 5, .inl kf)), (fa, .inl (cI, 15, .inl ff))] s.heap.size = A at hD ⊢
  have hA : ∀ q : Nat, s.heap.size ≤ q → A q := fun q h => by rw [← hAe]; exact Or.inr h
  have hS : va_S A s.heap s.heap [] := va_S.rf
  have hP : va_P D vwCl [(g0, .inr (5, [.ref ra, .ref wa, .ref ta, .int kpt, .ref ma, .int mkd, .ref pa, .int (nI tn), .int (nI p9.1), .int p9.2, .ref ba, .ref ka, .int srt, .ref fa, .ref qa, .ref ea, .ref za, .ref ya, .int wks])), (pa, .inl (cI, 96, .inl lt)), (ba, .inl (cC, 6, .inl bf)), (ka, .inl (cC, 5, .inl kf)), (fa, .inl (cI, 15, .inl ff))] s.heap := hP
  have hl := lv_entry ([.ref g0]) (n := 2) (Nat.le_of_ble_eq_true rfl)
  rw [lg_entry_eq]
  generalize (lg_sl ([.ref g0]) ++ List.replicate (2 - (lg_sl ([.ref g0])).length) Slot.unset).toArray = ls at hl ⊢
  have hl : lv_has ls 2 [(0, .ref g0)] := hl
  have hl1 : (xPn lt tn bf 6 p9).1 ≤ tn := xPn_le hp9
  have hl5 : (xQ lt tn (x5p lt tn kf (xPn lt tn bf 6 p9)) 11).1 ≤ tn := xQ_le (xPf_le (xPf_le (xPf_le (xPn_le (xPn_le hp9))))) 11
  have hl6 : (xPf lt tn (xLl (xSs lt tn bf p9)) (xLm9 (xSs lt tn bf p9)) (xPn lt tn bf 6 p9)).1 ≤ tn := xPf_le (xPn_le hp9)
  refine lv_aload_n hx hb dX5_statement_0 rfl (lv_at hl 0 rfl) ?_
  refine lv_aload_n hx hb dX5_statement_1 rfl (lv_at hl 0 rfl) ?_
  refine lv_aload_n hx hb dX5_statement_2 rfl (lv_at hl 0 rfl) ?_
  refine va_get (D := D) (ci := 5) (v := .ref ba) (C := RX5) (T := TX5) (N := 19) hx hb hts hwX5 hown hK hP 0 rfl rfl 10 (by decide) (hts (.fieldLink RX5 31 "WaitOrWalkOnModel" "begins" "[C") (by decide +kernel)) (fun _ h9 => h9) rfl dX5_statement_3 ?_
  have hPc := hP.sub (ws' := [(g0, .inr (5, [.ref ra, .ref wa, .ref ta, .int kpt, .ref ma, .int mkd, .ref pa, .int (nI tn), .int (nI p9.1), .int p9.2, .ref ba, .ref ka, .int srt, .ref fa, .ref qa, .ref ea, .ref za, .ref ya, .int wks])), (pa, .inl (cI, 96, .inl lt)), (ba, .inl (cC, 6, .inl bf))]) [0, 1, 2] rfl
  have hDc := hD.sub (ws' := [(g0, .inr (5, [.ref ra, .ref wa, .ref ta, .int kpt, .ref ma, .int mkd, .ref pa, .int (nI tn), .int (nI p9.1), .int p9.2, .ref ba, .ref ka, .int srt, .ref fa, .ref qa, .ref ea, .ref za, .ref ya, .int wks])), (pa, .inl (cI, 96, .inl lt)), (ba, .inl (cC, 6, .inl bf))]) [0, 1, 2] (by decide) rfl
  have hFc := va_free (wc := [(g0, .inr (5, [.ref ra, .ref wa, .ref ta, .int kpt, .ref ma, .int mkd, .ref pa, .int (nI tn), .int (nI p9.1), .int p9.2, .ref ba, .ref ka, .int srt, .ref fa, .ref qa, .ref ea, .ref za, .ref ya, .int wks])), (pa, .inl (cI, 96, .inl lt)), (ba, .inl (cC, 6, .inl bf))]) hD hS hA [0, 1, 2] rfl
  refine va_calli (va_runV (As := [.ref ba]) (rest := [.ref g0]) ⟨hx, hb, hml, hown, hts⟩ (g_X5_oneOfB l D cI cL cZ cC _ g0 ra wa ta ma pa ba ka fa qa ea za ya kpt mkd srt wks tn p9 lt bf (htn) (hp9)) (cwV 1 hts gX5_statement_X5_oneOf rfl rfl rfl (by decide +kernel) ⟨Nat.le_of_ble_eq_true rfl, Nat.le_of_ble_eq_true rfl⟩) ⟨wPc_bl, va_recv hK hPc (ci := 5) (q0 := 0) rfl rfl, wPc_use hPc hK hDc⟩ rfl rfl hl.1 rfl (lv_room (Nat.le_of_ble_eq_true rfl)) dX5_statement_6 ⟨Nat.le_of_ble_eq_true rfl, Nat.le_of_ble_eq_true rfl⟩) hS (fun q _ h => hFc q h) hFc (fun r_1 u_1 t H1 locs ht hvm hw hB hz1 hk1 hS => ?_)
  obtain ⟨hP1, hD1⟩ := hB
  rw [ht] at hP1
  obtain ⟨hP, hD⟩ := va_join (wr := [(ka, .inl (cC, 5, .inl kf)), (fa, .inl (cI, 15, .inl ff))]) (w1 := [(g0, .inr (5, [.ref ra, .ref wa, .ref ta, .int kpt, .ref ma, .int mkd, .ref pa, .int (nI tn), .int (nI (xPn lt tn bf 6 p9).1), .int ((xPn lt tn bf 6 p9).2), .ref ba, .ref ka, .int srt, .ref fa, .ref qa, .ref ea, .ref za, .ref ya, .int wks])), (pa, .inl (cI, 96, .inl lt)), (ba, .inl (cC, 6, .inl bf))]) hP hD [0, 1, 2] [3, 4] rfl rfl (by decide) (by decide) hk1 hFc hP1 hD1
  generalize H1 = H at hP hS ⊢
  have hP : va_P D vwCl [(ka, .inl (cC, 5, .inl kf)), (fa, .inl (cI, 15, .inl ff)), (g0, .inr (5, [.ref ra, .ref wa, .ref ta, .int kpt, .ref ma, .int mkd, .ref pa, .int (nI tn), .int (nI (xPn lt tn bf 6 p9).1), .int ((xPn lt tn bf 6 p9).2), .ref ba, .ref ka, .int srt, .ref fa, .ref qa, .ref ea, .ref za, .ref ya, .int wks])), (pa, .inl (cI, 96, .inl lt)), (ba, .inl (cC, 6, .inl bf))] H := hP
  have hD : va_D A [(ka, .inl (cC, 5, .inl kf)), (fa, .inl (cI, 15, .inl ff)), (g0, .inr (5, [.ref ra, .ref wa, .ref ta, .int kpt, .ref ma, .int mkd, .ref pa, .int (nI tn), .int (nI (xPn lt tn bf 6 p9).1), .int ((xPn lt tn bf 6 p9).2), .ref ba, .ref ka, .int srt, .ref fa, .ref qa, .ref ea, .ref za, .ref ya, .int wks])), (pa, .inl (cI, 96, .inl lt)), (ba, .inl (cC, 6, .inl bf))] := hD
  obtain rfl : (xPv lt tn bf 6 p9 : Int32) = r_1 := Eq.symm hw
  refine xv_int (y := xSs lt tn bf p9) (rfl) ?_
  refine va_put (D := D) (ci := 5) (v := .int (xSs lt tn bf p9)) (ty := .int) (C := RX5) (T := TX5) (N := 19) hx hb hts hwX5 tyX5 tyX5_ok nmX5 hown hK hP hD hS 2 rfl rfl 12 (by decide) (hts (.fieldLink RX5 75 "WaitOrWalkOnModel" "sort" "I") (by decide +kernel)) (fun _ h9 => h9) rfl (by decide +kernel) rfl rfl (Nat.le_of_ble_eq_true rfl) dX5_statement_9 (fun H locs hP hD hS => ?_)
  have hP : va_P D vwCl [(ka, .inl (cC, 5, .inl kf)), (fa, .inl (cI, 15, .inl ff)), (g0, .inr (5, [.ref ra, .ref wa, .ref ta, .int kpt, .ref ma, .int mkd, .ref pa, .int (nI tn), .int (nI (xPn lt tn bf 6 p9).1), .int ((xPn lt tn bf 6 p9).2), .ref ba, .ref ka, .int (xSs lt tn bf p9), .ref fa, .ref qa, .ref ea, .ref za, .ref ya, .int wks])), (pa, .inl (cI, 96, .inl lt)), (ba, .inl (cC, 6, .inl bf))] H := hP
  have hD : va_D A [(ka, .inl (cC, 5, .inl kf)), (fa, .inl (cI, 15, .inl ff)), (g0, .inr (5, [.ref ra, .ref wa, .ref ta, .int kpt, .ref ma, .int mkd, .ref pa, .int (nI tn), .int (nI (xPn lt tn bf 6 p9).1), .int ((xPn lt tn bf 6 p9).2), .ref ba, .ref ka, .int (xSs lt tn bf p9), .ref fa, .ref qa, .ref ea, .ref za, .ref ya, .int wks])), (pa, .inl (cI, 96, .inl lt)), (ba, .inl (cC, 6, .inl bf))] := hD
  refine lv_aload_n hx hb dX5_statement_12 rfl (lv_at hl 0 rfl) ?_
  refine va_get (D := D) (ci := 5) (v := .int (xSs lt tn bf p9)) (C := RX5) (T := TX5) (N := 19) hx hb hts hwX5 hown hK hP 2 rfl rfl 12 (by decide) (hts (.fieldLink RX5 75 "WaitOrWalkOnModel" "sort" "I") (by decide +kernel)) (fun _ h9 => h9) rfl dX5_statement_13 ?_
  refine lv_iconst (v := 3) hx hb dX5_statement_16 (by decide) ?_
  refine lv_icmp_ne (tgt := 101) hx hb dX5_statement_17 (by decide) (fun c_2 => ?_) (fun c_2 => ?_)
  · refine lv_aload_n hx hb dX5_statement_101 rfl (lv_at hl 0 rfl) ?_
    refine va_get (D := D) (ci := 5) (v := .ref fa) (C := RX5) (T := TX5) (N := 19) hx hb hts hwX5 hown hK hP 2 rfl rfl 13 (by decide) (hts (.fieldLink RX5 38 "WaitOrWalkOnModel" "field" "[I") (by decide +kernel)) (fun _ h9 => h9) rfl dX5_statement_102 ?_
    refine lv_iconst (v := 0) hx hb dX5_statement_105 (by decide) ?_
    refine lv_aload_n hx hb dX5_statement_106 rfl (lv_at hl 0 rfl) ?_
    refine xl_cut (σ := Unit) 120 (fun _ => [.int (xLl (xSs lt tn bf p9)), .ref g0, .int 0, .ref fa]) (fun _ ls => lv_has ls 2 [(0, .ref g0)]) ?_ ?_
    · intro _ ls hl
      refine xl_cut (σ := Unit) 145 (fun _ => [.int (nI (xLm9 (xSs lt tn bf p9))), .int (xLl (xSs lt tn bf p9)), .ref g0, .int 0, .ref fa]) (fun _ ls => lv_has ls 2 [(0, .ref g0)]) ?_ ?_
      · intro _ ls hl
        have hPc := hP.sub (ws' := [(g0, .inr (5, [.ref ra, .ref wa, .ref ta, .int kpt, .ref ma, .int mkd, .ref pa, .int (nI tn), .int (nI (xPn lt tn bf 6 p9).1), .int ((xPn lt tn bf 6 p9).2), .ref ba, .ref ka, .int (xSs lt tn bf p9), .ref fa, .ref qa, .ref ea, .ref za, .ref ya, .int wks])), (pa, .inl (cI, 96, .inl lt))]) [2, 3] rfl
        have hDc := hD.sub (ws' := [(g0, .inr (5, [.ref ra, .ref wa, .ref ta, .int kpt, .ref ma, .int mkd, .ref pa, .int (nI tn), .int (nI (xPn lt tn bf 6 p9).1), .int ((xPn lt tn bf 6 p9).2), .ref ba, .ref ka, .int (xSs lt tn bf p9), .ref fa, .ref qa, .ref ea, .ref za, .ref ya, .int wks])), (pa, .inl (cI, 96, .inl lt))]) [2, 3] (by decide) rfl
        have hFc := va_free (wc := [(g0, .inr (5, [.ref ra, .ref wa, .ref ta, .int kpt, .ref ma, .int mkd, .ref pa, .int (nI tn), .int (nI (xPn lt tn bf 6 p9).1), .int ((xPn lt tn bf 6 p9).2), .ref ba, .ref ka, .int (xSs lt tn bf p9), .ref fa, .ref qa, .ref ea, .ref za, .ref ya, .int wks])), (pa, .inl (cI, 96, .inl lt))]) hD hS hA [2, 3] rfl
        refine va_calli (va_runV (As := [.int (xLl (xSs lt tn bf p9)), .int (nI (xLm9 (xSs lt tn bf p9)))]) (rest := [.int 0, .ref fa]) ⟨hx, hb, hml, hown, hts⟩ (g_X5_figures l D cI cL cZ cC _ g0 ra wa ta ma pa ba ka fa qa ea za ya kpt mkd (xSs lt tn bf p9) wks tn (xPn lt tn bf 6 p9) (xLm9 (xSs lt tn bf p9)) (xLl (xSs lt tn bf p9)) lt (htn) (xPn_le hp9) (xLm9_le _)) (cwV 2 hts gX5_statement_X5_figures rfl rfl rfl (by decide +kernel) ⟨Nat.le_of_ble_eq_true rfl, Nat.le_of_ble_eq_true rfl⟩) ⟨wPc_bl, va_recv hK hPc (ci := 5) (q0 := 0) rfl rfl, wPc_use hPc hK hDc⟩ rfl rfl hl.1 rfl (lv_room (Nat.le_of_ble_eq_true rfl)) dX5_statement_145 ⟨Nat.le_of_ble_eq_true rfl, Nat.le_of_ble_eq_true rfl⟩) hS (fun q _ h => hFc q h) hFc (fun r_3 u_3 t H1 locs ht hvm hw hB hz1 hk1 hS => ?_)
        obtain ⟨hP1, hD1⟩ := hB
        rw [ht] at hP1
        obtain ⟨hP, hD⟩ := va_join (wr := [(ka, .inl (cC, 5, .inl kf)), (fa, .inl (cI, 15, .inl ff)), (ba, .inl (cC, 6, .inl bf))]) (w1 := [(g0, .inr (5, [.ref ra, .ref wa, .ref ta, .int kpt, .ref ma, .int mkd, .ref pa, .int (nI tn), .int (nI (xPf lt tn (xLl (xSs lt tn bf p9)) (xLm9 (xSs lt tn bf p9)) (xPn lt tn bf 6 p9)).1), .int ((xPf lt tn (xLl (xSs lt tn bf p9)) (xLm9 (xSs lt tn bf p9)) (xPn lt tn bf 6 p9)).2), .ref ba, .ref ka, .int (xSs lt tn bf p9), .ref fa, .ref qa, .ref ea, .ref za, .ref ya, .int wks])), (pa, .inl (cI, 96, .inl lt))]) hP hD [2, 3] [0, 1, 4] rfl rfl (by decide) (by decide) hk1 hFc hP1 hD1
        generalize H1 = H at hP hS ⊢
        have hP : va_P D vwCl [(ka, .inl (cC, 5, .inl kf)), (fa, .inl (cI, 15, .inl ff)), (ba, .inl (cC, 6, .inl bf)), (g0, .inr (5, [.ref ra, .ref wa, .ref ta, .int kpt, .ref ma, .int mkd, .ref pa, .int (nI tn), .int (nI (xPf lt tn (xLl (xSs lt tn bf p9)) (xLm9 (xSs lt tn bf p9)) (xPn lt tn bf 6 p9)).1), .int ((xPf lt tn (xLl (xSs lt tn bf p9)) (xLm9 (xSs lt tn bf p9)) (xPn lt tn bf 6 p9)).2), .ref ba, .ref ka, .int (xSs lt tn bf p9), .ref fa, .ref qa, .ref ea, .ref za, .ref ya, .int wks])), (pa, .inl (cI, 96, .inl lt))] H := hP
        have hD : va_D A [(ka, .inl (cC, 5, .inl kf)), (fa, .inl (cI, 15, .inl ff)), (ba, .inl (cC, 6, .inl bf)), (g0, .inr (5, [.ref ra, .ref wa, .ref ta, .int kpt, .ref ma, .int mkd, .ref pa, .int (nI tn), .int (nI (xPf lt tn (xLl (xSs lt tn bf p9)) (xLm9 (xSs lt tn bf p9)) (xPn lt tn bf 6 p9)).1), .int ((xPf lt tn (xLl (xSs lt tn bf p9)) (xLm9 (xSs lt tn bf p9)) (xPn lt tn bf 6 p9)).2), .ref ba, .ref ka, .int (xSs lt tn bf p9), .ref fa, .ref qa, .ref ea, .ref za, .ref ya, .int wks])), (pa, .inl (cI, 96, .inl lt))] := hD
        obtain rfl : (xPw lt tn (xLm9 (xSs lt tn bf p9)) (xPn lt tn bf 6 p9) : Int32) = r_3 := Eq.symm hw
        refine va_iast (D := D) hx hb hK hP hD hS 1 0 rfl rfl (by unfold vp_in; decide +kernel) dX5_statement_148 (fun H locs hP hD hS => ?_)
        have hP : va_P D vwCl [(ka, .inl (cC, 5, .inl kf)), (fa, .inl (cI, 15, .inl (upd ff 0 (xPw lt tn (xLm9 (xSs lt tn bf p9)) (xPn lt tn bf 6 p9))))), (ba, .inl (cC, 6, .inl bf)), (g0, .inr (5, [.ref ra, .ref wa, .ref ta, .int kpt, .ref ma, .int mkd, .ref pa, .int (nI tn), .int (nI (xPf lt tn (xLl (xSs lt tn bf p9)) (xLm9 (xSs lt tn bf p9)) (xPn lt tn bf 6 p9)).1), .int ((xPf lt tn (xLl (xSs lt tn bf p9)) (xLm9 (xSs lt tn bf p9)) (xPn lt tn bf 6 p9)).2), .ref ba, .ref ka, .int (xSs lt tn bf p9), .ref fa, .ref qa, .ref ea, .ref za, .ref ya, .int wks])), (pa, .inl (cI, 96, .inl lt))] H := hP
        have hD : va_D A [(ka, .inl (cC, 5, .inl kf)), (fa, .inl (cI, 15, .inl (upd ff 0 (xPw lt tn (xLm9 (xSs lt tn bf p9)) (xPn lt tn bf 6 p9))))), (ba, .inl (cC, 6, .inl bf)), (g0, .inr (5, [.ref ra, .ref wa, .ref ta, .int kpt, .ref ma, .int mkd, .ref pa, .int (nI tn), .int (nI (xPf lt tn (xLl (xSs lt tn bf p9)) (xLm9 (xSs lt tn bf p9)) (xPn lt tn bf 6 p9)).1), .int ((xPf lt tn (xLl (xSs lt tn bf p9)) (xLm9 (xSs lt tn bf p9)) (xPn lt tn bf 6 p9)).2), .ref ba, .ref ka, .int (xSs lt tn bf p9), .ref fa, .ref qa, .ref ea, .ref za, .ref ya, .int wks])), (pa, .inl (cI, 96, .inl lt))] := hD
        refine lv_aload_n hx hb dX5_statement_149 rfl (lv_at hl 0 rfl) ?_
        refine va_get (D := D) (ci := 5) (v := .int ((xPf lt tn (xLl (xSs lt tn bf p9)) (xLm9 (xSs lt tn bf p9)) (xPn lt tn bf 6 p9)).2)) (C := RX5) (T := TX5) (N := 19) hx hb hts hwX5 hown hK hP 3 rfl rfl 9 (by decide) (hts (.fieldLink RX5 61 "WaitOrWalkOnModel" "well" "Z") (by decide +kernel)) (fun _ h9 => h9) rfl dX5_statement_150 ?_
        refine lv_if_eq (tgt := 194) hx hb dX5_statement_153 (by decide) (fun c_4 => ?_) (fun c_4 => ?_)
        · refine lv_aload_n hx hb dX5_statement_194 rfl (lv_at hl 0 rfl) ?_
          refine lv_iconst (v := 0) hx hb dX5_statement_195 (by decide) ?_
          refine va_put (D := D) (ci := 5) (v := .int 0) (ty := .boolean) (C := RX5) (T := TX5) (N := 19) hx hb hts hwX5 tyX5 tyX5_ok nmX5 hown hK hP hD hS 3 rfl rfl 9 (by decide) (hts (.fieldLink RX5 61 "WaitOrWalkOnModel" "well" "Z") (by decide +kernel)) (fun _ h9 => h9) rfl (by decide +kernel) (by decide +kernel) rfl (Nat.le_of_ble_eq_true rfl) dX5_statement_196 (fun H locs hP hD hS => ?_)
          have hP : va_P D vwCl [(ka, .inl (cC, 5, .inl kf)), (fa, .inl (cI, 15, .inl (upd ff 0 (xPw lt tn (xLm9 (xSs lt tn bf p9)) (xPn lt tn bf 6 p9))))), (ba, .inl (cC, 6, .inl bf)), (g0, .inr (5, [.ref ra, .ref wa, .ref ta, .int kpt, .ref ma, .int mkd, .ref pa, .int (nI tn), .int (nI (xPf lt tn (xLl (xSs lt tn bf p9)) (xLm9 (xSs lt tn bf p9)) (xPn lt tn bf 6 p9)).1), .int 0, .ref ba, .ref ka, .int (xSs lt tn bf p9), .ref fa, .ref qa, .ref ea, .ref za, .ref ya, .int wks])), (pa, .inl (cI, 96, .inl lt))] H := hP
          have hD : va_D A [(ka, .inl (cC, 5, .inl kf)), (fa, .inl (cI, 15, .inl (upd ff 0 (xPw lt tn (xLm9 (xSs lt tn bf p9)) (xPn lt tn bf 6 p9))))), (ba, .inl (cC, 6, .inl bf)), (g0, .inr (5, [.ref ra, .ref wa, .ref ta, .int kpt, .ref ma, .int mkd, .ref pa, .int (nI tn), .int (nI (xPf lt tn (xLl (xSs lt tn bf p9)) (xLm9 (xSs lt tn bf p9)) (xPn lt tn bf 6 p9)).1), .int 0, .ref ba, .ref ka, .int (xSs lt tn bf p9), .ref fa, .ref qa, .ref ea, .ref za, .ref ya, .int wks])), (pa, .inl (cI, 96, .inl lt))] := hD
          have hP9 := hP.sub (ws' := [(g0, .inr (5, [.ref ra, .ref wa, .ref ta, .int kpt, .ref ma, .int mkd, .ref pa, .int (nI tn), .int (nI (xPf lt tn (xLl (xSs lt tn bf p9)) (xLm9 (xSs lt tn bf p9)) (xPn lt tn bf 6 p9)).1), .int 0, .ref ba, .ref ka, .int (xSs lt tn bf p9), .ref fa, .ref qa, .ref ea, .ref za, .ref ya, .int wks])), (pa, .inl (cI, 96, .inl lt)), (ba, .inl (cC, 6, .inl bf)), (ka, .inl (cC, 5, .inl kf)), (fa, .inl (cI, 15, .inl (upd ff 0 (xPw lt tn (xLm9 (xSs lt tn bf p9)) (xPn lt tn bf 6 p9)))))]) [3, 4, 2, 0, 1] rfl
          have hD9 := hD.sub (ws' := [(g0, .inr (5, [.ref ra, .ref wa, .ref ta, .int kpt, .ref ma, .int mkd, .ref pa, .int (nI tn), .int (nI (xPf lt tn (xLl (xSs lt tn bf p9)) (xLm9 (xSs lt tn bf p9)) (xPn lt tn bf 6 p9)).1), .int 0, .ref ba, .ref ka, .int (xSs lt tn bf p9), .ref fa, .ref qa, .ref ea, .ref za, .ref ya, .int wks])), (pa, .inl (cI, 96, .inl lt)), (ba, .inl (cC, 6, .inl bf)), (ka, .inl (cC, 5, .inl kf)), (fa, .inl (cI, 15, .inl (upd ff 0 (xPw lt tn (xLm9 (xSs lt tn bf p9)) (xPn lt tn bf 6 p9)))))]) [3, 4, 2, 0, 1] (by decide) rfl
          have hE9 : ([(g0, .inr (5, [.ref ra, .ref wa, .ref ta, .int kpt, .ref ma, .int mkd, .ref pa, .int (nI tn), .int (nI (xPf lt tn (xLl (xSs lt tn bf p9)) (xLm9 (xSs lt tn bf p9)) (xPn lt tn bf 6 p9)).1), .int 0, .ref ba, .ref ka, .int (xSs lt tn bf p9), .ref fa, .ref qa, .ref ea, .ref za, .ref ya, .int wks])), (pa, .inl (cI, 96, .inl lt)), (ba, .inl (cC, 6, .inl bf)), (ka, .inl (cC, 5, .inl kf)), (fa, .inl (cI, 15, .inl (upd ff 0 (xPw lt tn (xLm9 (xSs lt tn bf p9)) (xPn lt tn bf 6 p9)))))] : va_W) = [(g0, .inr (5, [.ref ra, .ref wa, .ref ta, .int kpt, .ref ma, .int mkd, .ref pa, .int (nI tn), .int (nI (xSp lt tn bf kf p9).1), .int ((xSp lt tn bf kf p9).2), .ref ba, .ref ka, .int (xSs lt tn bf p9), .ref fa, .ref qa, .ref ea, .ref za, .ref ya, .int wks])), (pa, .inl (cI, 96, .inl lt)), (ba, .inl (cC, 6, .inl bf)), (ka, .inl (cC, 5, .inl kf)), (fa, .inl (cI, 15, .inl (xSf lt tn bf kf ff p9)))] := by have e1 : xSp lt tn bf kf p9 = ((xPf lt tn (xLl (xSs lt tn bf p9)) (xLm9 (xSs lt tn bf p9)) (xPn lt tn bf 6 p9)).1, 0) := (by rw [xSp, if_neg c_2]; exact xPe_1 c_4); have e2 : xSf lt tn bf kf ff p9 = upd ff 0 (xPw lt tn (xLm9 (xSs lt tn bf p9)) (xPn lt tn bf 6 p9)) := (by rw [xSf, if_neg c_2]); rw [e1, e2]
          exact W.vret hx hb hr (fun t ht hW => ⟨⟨(), rfl, trivial, by rw [ht]; exact hE9 ▸ hP9, hE9 ▸ hD9⟩, hS.F ht⟩) hS.2.2 dX5_statement_199
        · refine lv_aload_n hx hb dX5_statement_156 rfl (lv_at hl 0 rfl) ?_
          refine va_get (D := D) (ci := 5) (v := .int (nI (xPf lt tn (xLl (xSs lt tn bf p9)) (xLm9 (xSs lt tn bf p9)) (xPn lt tn bf 6 p9)).1)) (C := RX5) (T := TX5) (N := 19) hx hb hts hwX5 hown hK hP 3 rfl rfl 8 (by decide) (hts (.fieldLink RX5 64 "WaitOrWalkOnModel" "at" "I") (by decide +kernel)) (fun _ h9 => h9) rfl dX5_statement_157 ?_
          refine lv_aload_n hx hb dX5_statement_160 rfl (lv_at hl 0 rfl) ?_
          refine va_get (D := D) (ci := 5) (v := .int (nI tn)) (C := RX5) (T := TX5) (N := 19) hx hb hts hwX5 hown hK hP 3 rfl rfl 7 (by decide) (hts (.fieldLink RX5 57 "WaitOrWalkOnModel" "taped" "I") (by decide +kernel)) (fun _ h9 => h9) rfl dX5_statement_161 ?_
          refine lv_icmp_ge (tgt := 194) hx hb dX5_statement_164 (by decide) (fun c_5 => ?_) (fun c_5 => ?_)
          · refine lv_aload_n hx hb dX5_statement_194 rfl (lv_at hl 0 rfl) ?_
            refine lv_iconst (v := 0) hx hb dX5_statement_195 (by decide) ?_
            refine va_put (D := D) (ci := 5) (v := .int 0) (ty := .boolean) (C := RX5) (T := TX5) (N := 19) hx hb hts hwX5 tyX5 tyX5_ok nmX5 hown hK hP hD hS 3 rfl rfl 9 (by decide) (hts (.fieldLink RX5 61 "WaitOrWalkOnModel" "well" "Z") (by decide +kernel)) (fun _ h9 => h9) rfl (by decide +kernel) (by decide +kernel) rfl (Nat.le_of_ble_eq_true rfl) dX5_statement_196 (fun H locs hP hD hS => ?_)
            have hP : va_P D vwCl [(ka, .inl (cC, 5, .inl kf)), (fa, .inl (cI, 15, .inl (upd ff 0 (xPw lt tn (xLm9 (xSs lt tn bf p9)) (xPn lt tn bf 6 p9))))), (ba, .inl (cC, 6, .inl bf)), (g0, .inr (5, [.ref ra, .ref wa, .ref ta, .int kpt, .ref ma, .int mkd, .ref pa, .int (nI tn), .int (nI (xPf lt tn (xLl (xSs lt tn bf p9)) (xLm9 (xSs lt tn bf p9)) (xPn lt tn bf 6 p9)).1), .int 0, .ref ba, .ref ka, .int (xSs lt tn bf p9), .ref fa, .ref qa, .ref ea, .ref za, .ref ya, .int wks])), (pa, .inl (cI, 96, .inl lt))] H := hP
            have hD : va_D A [(ka, .inl (cC, 5, .inl kf)), (fa, .inl (cI, 15, .inl (upd ff 0 (xPw lt tn (xLm9 (xSs lt tn bf p9)) (xPn lt tn bf 6 p9))))), (ba, .inl (cC, 6, .inl bf)), (g0, .inr (5, [.ref ra, .ref wa, .ref ta, .int kpt, .ref ma, .int mkd, .ref pa, .int (nI tn), .int (nI (xPf lt tn (xLl (xSs lt tn bf p9)) (xLm9 (xSs lt tn bf p9)) (xPn lt tn bf 6 p9)).1), .int 0, .ref ba, .ref ka, .int (xSs lt tn bf p9), .ref fa, .ref qa, .ref ea, .ref za, .ref ya, .int wks])), (pa, .inl (cI, 96, .inl lt))] := hD
            have hP9 := hP.sub (ws' := [(g0, .inr (5, [.ref ra, .ref wa, .ref ta, .int kpt, .ref ma, .int mkd, .ref pa, .int (nI tn), .int (nI (xPf lt tn (xLl (xSs lt tn bf p9)) (xLm9 (xSs lt tn bf p9)) (xPn lt tn bf 6 p9)).1), .int 0, .ref ba, .ref ka, .int (xSs lt tn bf p9), .ref fa, .ref qa, .ref ea, .ref za, .ref ya, .int wks])), (pa, .inl (cI, 96, .inl lt)), (ba, .inl (cC, 6, .inl bf)), (ka, .inl (cC, 5, .inl kf)), (fa, .inl (cI, 15, .inl (upd ff 0 (xPw lt tn (xLm9 (xSs lt tn bf p9)) (xPn lt tn bf 6 p9)))))]) [3, 4, 2, 0, 1] rfl
            have hD9 := hD.sub (ws' := [(g0, .inr (5, [.ref ra, .ref wa, .ref ta, .int kpt, .ref ma, .int mkd, .ref pa, .int (nI tn), .int (nI (xPf lt tn (xLl (xSs lt tn bf p9)) (xLm9 (xSs lt tn bf p9)) (xPn lt tn bf 6 p9)).1), .int 0, .ref ba, .ref ka, .int (xSs lt tn bf p9), .ref fa, .ref qa, .ref ea, .ref za, .ref ya, .int wks])), (pa, .inl (cI, 96, .inl lt)), (ba, .inl (cC, 6, .inl bf)), (ka, .inl (cC, 5, .inl kf)), (fa, .inl (cI, 15, .inl (upd ff 0 (xPw lt tn (xLm9 (xSs lt tn bf p9)) (xPn lt tn bf 6 p9)))))]) [3, 4, 2, 0, 1] (by decide) rfl
            have hE9 : ([(g0, .inr (5, [.ref ra, .ref wa, .ref ta, .int kpt, .ref ma, .int mkd, .ref pa, .int (nI tn), .int (nI (xPf lt tn (xLl (xSs lt tn bf p9)) (xLm9 (xSs lt tn bf p9)) (xPn lt tn bf 6 p9)).1), .int 0, .ref ba, .ref ka, .int (xSs lt tn bf p9), .ref fa, .ref qa, .ref ea, .ref za, .ref ya, .int wks])), (pa, .inl (cI, 96, .inl lt)), (ba, .inl (cC, 6, .inl bf)), (ka, .inl (cC, 5, .inl kf)), (fa, .inl (cI, 15, .inl (upd ff 0 (xPw lt tn (xLm9 (xSs lt tn bf p9)) (xPn lt tn bf 6 p9)))))] : va_W) = [(g0, .inr (5, [.ref ra, .ref wa, .ref ta, .int kpt, .ref ma, .int mkd, .ref pa, .int (nI tn), .int (nI (xSp lt tn bf kf p9).1), .int ((xSp lt tn bf kf p9).2), .ref ba, .ref ka, .int (xSs lt tn bf p9), .ref fa, .ref qa, .ref ea, .ref za, .ref ya, .int wks])), (pa, .inl (cI, 96, .inl lt)), (ba, .inl (cC, 6, .inl bf)), (ka, .inl (cC, 5, .inl kf)), (fa, .inl (cI, 15, .inl (xSf lt tn bf kf ff p9)))] := by have e1 : xSp lt tn bf kf p9 = ((xPf lt tn (xLl (xSs lt tn bf p9)) (xLm9 (xSs lt tn bf p9)) (xPn lt tn bf 6 p9)).1, 0) := (by rw [xSp, if_neg c_2]; exact xPe_2 c_4 (mt (nI_ltI (a := (xPf lt tn (xLl (xSs lt tn bf p9)) (xLm9 (xSs lt tn bf p9)) (xPn lt tn bf 6 p9)).1) (b := tn) (by omega) (by omega)).mpr (Int32.not_lt.mpr c_5))); have e2 : xSf lt tn bf kf ff p9 = upd ff 0 (xPw lt tn (xLm9 (xSs lt tn bf p9)) (xPn lt tn bf 6 p9)) := (by rw [xSf, if_neg c_2]); rw [e1, e2]
            exact W.vret hx hb hr (fun t ht hW => ⟨⟨(), rfl, trivial, by rw [ht]; exact hE9 ▸ hP9, hE9 ▸ hD9⟩, hS.F ht⟩) hS.2.2 dX5_statement_199
          · refine lv_aload_n hx hb dX5_statement_167 rfl (lv_at hl 0 rfl) ?_
            refine va_get (D := D) (ci := 5) (v := .ref pa) (C := RX5) (T := TX5) (N := 19) hx hb hts hwX5 hown hK hP 3 rfl rfl 6 (by decide) (hts (.fieldLink RX5 28 "WaitOrWalkOnModel" "tape" "[I") (by decide +kernel)) (fun _ h9 => h9) rfl dX5_statement_168 ?_
            refine lv_aload_n hx hb dX5_statement_171 rfl (lv_at hl 0 rfl) ?_
            refine va_get (D := D) (ci := 5) (v := .int (nI (xPf lt tn (xLl (xSs lt tn bf p9)) (xLm9 (xSs lt tn bf p9)) (xPn lt tn bf 6 p9)).1)) (C := RX5) (T := TX5) (N := 19) hx hb hts hwX5 hown hK hP 3 rfl rfl 8 (by decide) (hts (.fieldLink RX5 64 "WaitOrWalkOnModel" "at" "I") (by decide +kernel)) (fun _ h9 => h9) rfl dX5_statement_172 ?_
            refine va_iald (D := D) hx hb hK hP 4 0 rfl rfl (vp_in_nI (by have w := (nI_ltI (a := (xPf lt tn (xLl (xSs lt tn bf p9)) (xLm9 (xSs lt tn bf p9)) (xPn lt tn bf 6 p9)).1) (b := tn) (by omega) (by omega)).mp (Int32.not_le.mp c_5); omega) (by decide)) dX5_statement_175 ?_
            refine xv_int (y := lt (xPf lt tn (xLl (xSs lt tn bf p9)) (xLm9 (xSs lt tn bf p9)) (xPn lt tn bf 6 p9)).1) (congrArg lt (nI_clamp (by omega))) ?_
            refine lv_bipush (v := 59) hx hb dX5_statement_176 (by decide) ?_
            refine lv_icmp_ne (tgt := 194) hx hb dX5_statement_178 (by decide) (fun c_6 => ?_) (fun c_6 => ?_)
            · refine lv_aload_n hx hb dX5_statement_194 rfl (lv_at hl 0 rfl) ?_
              refine lv_iconst (v := 0) hx hb dX5_statement_195 (by decide) ?_
              refine va_put (D := D) (ci := 5) (v := .int 0) (ty := .boolean) (C := RX5) (T := TX5) (N := 19) hx hb hts hwX5 tyX5 tyX5_ok nmX5 hown hK hP hD hS 3 rfl rfl 9 (by decide) (hts (.fieldLink RX5 61 "WaitOrWalkOnModel" "well" "Z") (by decide +kernel)) (fun _ h9 => h9) rfl (by decide +kernel) (by decide +kernel) rfl (Nat.le_of_ble_eq_true rfl) dX5_statement_196 (fun H locs hP hD hS => ?_)
              have hP : va_P D vwCl [(ka, .inl (cC, 5, .inl kf)), (fa, .inl (cI, 15, .inl (upd ff 0 (xPw lt tn (xLm9 (xSs lt tn bf p9)) (xPn lt tn bf 6 p9))))), (ba, .inl (cC, 6, .inl bf)), (g0, .inr (5, [.ref ra, .ref wa, .ref ta, .int kpt, .ref ma, .int mkd, .ref pa, .int (nI tn), .int (nI (xPf lt tn (xLl (xSs lt tn bf p9)) (xLm9 (xSs lt tn bf p9)) (xPn lt tn bf 6 p9)).1), .int 0, .ref ba, .ref ka, .int (xSs lt tn bf p9), .ref fa, .ref qa, .ref ea, .ref za, .ref ya, .int wks])), (pa, .inl (cI, 96, .inl lt))] H := hP
              have hD : va_D A [(ka, .inl (cC, 5, .inl kf)), (fa, .inl (cI, 15, .inl (upd ff 0 (xPw lt tn (xLm9 (xSs lt tn bf p9)) (xPn lt tn bf 6 p9))))), (ba, .inl (cC, 6, .inl bf)), (g0, .inr (5, [.ref ra, .ref wa, .ref ta, .int kpt, .ref ma, .int mkd, .ref pa, .int (nI tn), .int (nI (xPf lt tn (xLl (xSs lt tn bf p9)) (xLm9 (xSs lt tn bf p9)) (xPn lt tn bf 6 p9)).1), .int 0, .ref ba, .ref ka, .int (xSs lt tn bf p9), .ref fa, .ref qa, .ref ea, .ref za, .ref ya, .int wks])), (pa, .inl (cI, 96, .inl lt))] := hD
              have hP9 := hP.sub (ws' := [(g0, .inr (5, [.ref ra, .ref wa, .ref ta, .int kpt, .ref ma, .int mkd, .ref pa, .int (nI tn), .int (nI (xPf lt tn (xLl (xSs lt tn bf p9)) (xLm9 (xSs lt tn bf p9)) (xPn lt tn bf 6 p9)).1), .int 0, .ref ba, .ref ka, .int (xSs lt tn bf p9), .ref fa, .ref qa, .ref ea, .ref za, .ref ya, .int wks])), (pa, .inl (cI, 96, .inl lt)), (ba, .inl (cC, 6, .inl bf)), (ka, .inl (cC, 5, .inl kf)), (fa, .inl (cI, 15, .inl (upd ff 0 (xPw lt tn (xLm9 (xSs lt tn bf p9)) (xPn lt tn bf 6 p9)))))]) [3, 4, 2, 0, 1] rfl
              have hD9 := hD.sub (ws' := [(g0, .inr (5, [.ref ra, .ref wa, .ref ta, .int kpt, .ref ma, .int mkd, .ref pa, .int (nI tn), .int (nI (xPf lt tn (xLl (xSs lt tn bf p9)) (xLm9 (xSs lt tn bf p9)) (xPn lt tn bf 6 p9)).1), .int 0, .ref ba, .ref ka, .int (xSs lt tn bf p9), .ref fa, .ref qa, .ref ea, .ref za, .ref ya, .int wks])), (pa, .inl (cI, 96, .inl lt)), (ba, .inl (cC, 6, .inl bf)), (ka, .inl (cC, 5, .inl kf)), (fa, .inl (cI, 15, .inl (upd ff 0 (xPw lt tn (xLm9 (xSs lt tn bf p9)) (xPn lt tn bf 6 p9)))))]) [3, 4, 2, 0, 1] (by decide) rfl
              have hE9 : ([(g0, .inr (5, [.ref ra, .ref wa, .ref ta, .int kpt, .ref ma, .int mkd, .ref pa, .int (nI tn), .int (nI (xPf lt tn (xLl (xSs lt tn bf p9)) (xLm9 (xSs lt tn bf p9)) (xPn lt tn bf 6 p9)).1), .int 0, .ref ba, .ref ka, .int (xSs lt tn bf p9), .ref fa, .ref qa, .ref ea, .ref za, .ref ya, .int wks])), (pa, .inl (cI, 96, .inl lt)), (ba, .inl (cC, 6, .inl bf)), (ka, .inl (cC, 5, .inl kf)), (fa, .inl (cI, 15, .inl (upd ff 0 (xPw lt tn (xLm9 (xSs lt tn bf p9)) (xPn lt tn bf 6 p9)))))] : va_W) = [(g0, .inr (5, [.ref ra, .ref wa, .ref ta, .int kpt, .ref ma, .int mkd, .ref pa, .int (nI tn), .int (nI (xSp lt tn bf kf p9).1), .int ((xSp lt tn bf kf p9).2), .ref ba, .ref ka, .int (xSs lt tn bf p9), .ref fa, .ref qa, .ref ea, .ref za, .ref ya, .int wks])), (pa, .inl (cI, 96, .inl lt)), (ba, .inl (cC, 6, .inl bf)), (ka, .inl (cC, 5, .inl kf)), (fa, .inl (cI, 15, .inl (xSf lt tn bf kf ff p9)))] := by have e1 : xSp lt tn bf kf p9 = ((xPf lt tn (xLl (xSs lt tn bf p9)) (xLm9 (xSs lt tn bf p9)) (xPn lt tn bf 6 p9)).1, 0) := (by rw [xSp, if_neg c_2]; exact xPe_3 c_4 ((nI_ltI (a := (xPf lt tn (xLl (xSs lt tn bf p9)) (xLm9 (xSs lt tn bf p9)) (xPn lt tn bf 6 p9)).1) (b := tn) (by omega) (by omega)).mp (Int32.not_le.mp c_5)) c_6); have e2 : xSf lt tn bf kf ff p9 = upd ff 0 (xPw lt tn (xLm9 (xSs lt tn bf p9)) (xPn lt tn bf 6 p9)) := (by rw [xSf, if_neg c_2]); rw [e1, e2]
              exact W.vret hx hb hr (fun t ht hW => ⟨⟨(), rfl, trivial, by rw [ht]; exact hE9 ▸ hP9, hE9 ▸ hD9⟩, hS.F ht⟩) hS.2.2 dX5_statement_199
            · refine lv_aload_n hx hb dX5_statement_181 rfl (lv_at hl 0 rfl) ?_
              refine lv_dup hx hb dX5_statement_182 rfl ?_
              refine va_get (D := D) (ci := 5) (v := .int (nI (xPf lt tn (xLl (xSs lt tn bf p9)) (xLm9 (xSs lt tn bf p9)) (xPn lt tn bf 6 p9)).1)) (C := RX5) (T := TX5) (N := 19) hx hb hts hwX5 hown hK hP 3 rfl rfl 8 (by decide) (hts (.fieldLink RX5 64 "WaitOrWalkOnModel" "at" "I") (by decide +kernel)) (fun _ h9 => h9) rfl dX5_statement_183 ?_
              refine lv_iconst (v := 1) hx hb dX5_statement_186 (by decide) ?_
              refine lv_iadd hx hb dX5_statement_187 ?_
              refine xv_int (y := nI ((xPf lt tn (xLl (xSs lt tn bf p9)) (xLm9 (xSs lt tn bf p9)) (xPn lt tn bf 6 p9)).1 + 1)) (nI_1 _) ?_
              refine va_put (D := D) (ci := 5) (v := .int (nI ((xPf lt tn (xLl (xSs lt tn bf p9)) (xLm9 (xSs lt tn bf p9)) (xPn lt tn bf 6 p9)).1 + 1))) (ty := .int) (C := RX5) (T := TX5) (N := 19) hx hb hts hwX5 tyX5 tyX5_ok nmX5 hown hK hP hD hS 3 rfl rfl 8 (by decide) (hts (.fieldLink RX5 64 "WaitOrWalkOnModel" "at" "I") (by decide +kernel)) (fun _ h9 => h9) rfl (by decide +kernel) rfl rfl (Nat.le_of_ble_eq_true rfl) dX5_statement_188 (fun H locs hP hD hS => ?_)
              have hP : va_P D vwCl [(ka, .inl (cC, 5, .inl kf)), (fa, .inl (cI, 15, .inl (upd ff 0 (xPw lt tn (xLm9 (xSs lt tn bf p9)) (xPn lt tn bf 6 p9))))), (ba, .inl (cC, 6, .inl bf)), (g0, .inr (5, [.ref ra, .ref wa, .ref ta, .int kpt, .ref ma, .int mkd, .ref pa, .int (nI tn), .int (nI ((xPf lt tn (xLl (xSs lt tn bf p9)) (xLm9 (xSs lt tn bf p9)) (xPn lt tn bf 6 p9)).1 + 1)), .int ((xPf lt tn (xLl (xSs lt tn bf p9)) (xLm9 (xSs lt tn bf p9)) (xPn lt tn bf 6 p9)).2), .ref ba, .ref ka, .int (xSs lt tn bf p9), .ref fa, .ref qa, .ref ea, .ref za, .ref ya, .int wks])), (pa, .inl (cI, 96, .inl lt))] H := hP
              have hD : va_D A [(ka, .inl (cC, 5, .inl kf)), (fa, .inl (cI, 15, .inl (upd ff 0 (xPw lt tn (xLm9 (xSs lt tn bf p9)) (xPn lt tn bf 6 p9))))), (ba, .inl (cC, 6, .inl bf)), (g0, .inr (5, [.ref ra, .ref wa, .ref ta, .int kpt, .ref ma, .int mkd, .ref pa, .int (nI tn), .int (nI ((xPf lt tn (xLl (xSs lt tn bf p9)) (xLm9 (xSs lt tn bf p9)) (xPn lt tn bf 6 p9)).1 + 1)), .int ((xPf lt tn (xLl (xSs lt tn bf p9)) (xLm9 (xSs lt tn bf p9)) (xPn lt tn bf 6 p9)).2), .ref ba, .ref ka, .int (xSs lt tn bf p9), .ref fa, .ref qa, .ref ea, .ref za, .ref ya, .int wks])), (pa, .inl (cI, 96, .inl lt))] := hD
              refine lv_goto (tgt := 199) hx hb dX5_statement_191 (by decide) ?_
              have hP9 := hP.sub (ws' := [(g0, .inr (5, [.ref ra, .ref wa, .ref ta, .int kpt, .ref ma, .int mkd, .ref pa, .int (nI tn), .int (nI ((xPf lt tn (xLl (xSs lt tn bf p9)) (xLm9 (xSs lt tn bf p9)) (xPn lt tn bf 6 p9)).1 + 1)), .int ((xPf lt tn (xLl (xSs lt tn bf p9)) (xLm9 (xSs lt tn bf p9)) (xPn lt tn bf 6 p9)).2), .ref ba, .ref ka, .int (xSs lt tn bf p9), .ref fa, .ref qa, .ref ea, .ref za, .ref ya, .int wks])), (pa, .inl (cI, 96, .inl lt)), (ba, .inl (cC, 6, .inl bf)), (ka, .inl (cC, 5, .inl kf)), (fa, .inl (cI, 15, .inl (upd ff 0 (xPw lt tn (xLm9 (xSs lt tn bf p9)) (xPn lt tn bf 6 p9)))))]) [3, 4, 2, 0, 1] rfl
              have hD9 := hD.sub (ws' := [(g0, .inr (5, [.ref ra, .ref wa, .ref ta, .int kpt, .ref ma, .int mkd, .ref pa, .int (nI tn), .int (nI ((xPf lt tn (xLl (xSs lt tn bf p9)) (xLm9 (xSs lt tn bf p9)) (xPn lt tn bf 6 p9)).1 + 1)), .int ((xPf lt tn (xLl (xSs lt tn bf p9)) (xLm9 (xSs lt tn bf p9)) (xPn lt tn bf 6 p9)).2), .ref ba, .ref ka, .int (xSs lt tn bf p9), .ref fa, .ref qa, .ref ea, .ref za, .ref ya, .int wks])), (pa, .inl (cI, 96, .inl lt)), (ba, .inl (cC, 6, .inl bf)), (ka, .inl (cC, 5, .inl kf)), (fa, .inl (cI, 15, .inl (upd ff 0 (xPw lt tn (xLm9 (xSs lt tn bf p9)) (xPn lt tn bf 6 p9)))))]) [3, 4, 2, 0, 1] (by decide) rfl
              have hE9 : ([(g0, .inr (5, [.ref ra, .ref wa, .ref ta, .int kpt, .ref ma, .int mkd, .ref pa, .int (nI tn), .int (nI ((xPf lt tn (xLl (xSs lt tn bf p9)) (xLm9 (xSs lt tn bf p9)) (xPn lt tn bf 6 p9)).1 + 1)), .int ((xPf lt tn (xLl (xSs lt tn bf p9)) (xLm9 (xSs lt tn bf p9)) (xPn lt tn bf 6 p9)).2), .ref ba, .ref ka, .int (xSs lt tn bf p9), .ref fa, .ref qa, .ref ea, .ref za, .ref ya, .int wks])), (pa, .inl (cI, 96, .inl lt)), (ba, .inl (cC, 6, .inl bf)), (ka, .inl (cC, 5, .inl kf)), (fa, .inl (cI, 15, .inl (upd ff 0 (xPw lt tn (xLm9 (xSs lt tn bf p9)) (xPn lt tn bf 6 p9)))))] : va_W) = [(g0, .inr (5, [.ref ra, .ref wa, .ref ta, .int kpt, .ref ma, .int mkd, .ref pa, .int (nI tn), .int (nI (xSp lt tn bf kf p9).1), .int ((xSp lt tn bf kf p9).2), .ref ba, .ref ka, .int (xSs lt tn bf p9), .ref fa, .ref qa, .ref ea, .ref za, .ref ya, .int wks])), (pa, .inl (cI, 96, .inl lt)), (ba, .inl (cC, 6, .inl bf)), (ka, .inl (cC, 5, .inl kf)), (fa, .inl (cI, 15, .inl (xSf lt tn bf kf ff p9)))] := by have e1 : xSp lt tn bf kf p9 = ((xPf lt tn (xLl (xSs lt tn bf p9)) (xLm9 (xSs lt tn bf p9)) (xPn lt tn bf 6 p9)).1 + 1, (xPf lt tn (xLl (xSs lt tn bf p9)) (xLm9 (xSs lt tn bf p9)) (xPn lt tn bf 6 p9)).2) := (by rw [xSp, if_neg c_2]; exact xPe_4 c_4 ((nI_ltI (a := (xPf lt tn (xLl (xSs lt tn bf p9)) (xLm9 (xSs lt tn bf p9)) (xPn lt tn bf 6 p9)).1) (b := tn) (by omega) (by omega)).mp (Int32.not_le.mp c_5)) c_6); have e2 : xSf lt tn bf kf ff p9 = upd ff 0 (xPw lt tn (xLm9 (xSs lt tn bf p9)) (xPn lt tn bf 6 p9)) := (by rw [xSf, if_neg c_2]); rw [e1, e2]
              exact W.vret hx hb hr (fun t ht hW => ⟨⟨(), rfl, trivial, by rw [ht]; exact hE9 ▸ hP9, hE9 ▸ hD9⟩, hS.F ht⟩) hS.2.2 dX5_statement_199
      · intro K_145
        refine lv_aload_n hx hb dX5_statement_120 rfl (lv_at hl 0 rfl) ?_
        refine va_get (D := D) (ci := 5) (v := .int (xSs lt tn bf p9)) (C := RX5) (T := TX5) (N := 19) hx hb hts hwX5 hown hK hP 2 rfl rfl 12 (by decide) (hts (.fieldLink RX5 75 "WaitOrWalkOnModel" "sort" "I") (by decide +kernel)) (fun _ h9 => h9) rfl dX5_statement_121 ?_
        refine lv_iconst (v := 4) hx hb dX5_statement_124 (by decide) ?_
        refine lv_icmp_ne (tgt := 132) hx hb dX5_statement_125 (by decide) (fun c_7 => ?_) (fun c_7 => ?_)
        · refine lv_aload_n hx hb dX5_statement_132 rfl (lv_at hl 0 rfl) ?_
          refine va_get (D := D) (ci := 5) (v := .int (xSs lt tn bf p9)) (C := RX5) (T := TX5) (N := 19) hx hb hts hwX5 hown hK hP 2 rfl rfl 12 (by decide) (hts (.fieldLink RX5 75 "WaitOrWalkOnModel" "sort" "I") (by decide +kernel)) (fun _ h9 => h9) rfl dX5_statement_133 ?_
          refine lv_iconst (v := 5) hx hb dX5_statement_136 (by decide) ?_
          refine lv_icmp_ne (tgt := 144) hx hb dX5_statement_137 (by decide) (fun c_8 => ?_) (fun c_8 => ?_)
          · refine lv_iconst (v := 3) hx hb dX5_statement_144 (by decide) ?_
            refine xv_int (y := nI (xLm9 (xSs lt tn bf p9))) (by rw [xLm9, if_neg c_7, if_neg c_8]; rfl) ?_
            exact K_145 () _ (lv_sub hl [0] rfl)
          · refine lv_iconst (v := 2) hx hb dX5_statement_140 (by decide) ?_
            refine lv_goto (tgt := 145) hx hb dX5_statement_141 (by decide) ?_
            refine xv_int (y := nI (xLm9 (xSs lt tn bf p9))) (by rw [xLm9, if_neg c_7, if_pos c_8]; rfl) ?_
            exact K_145 () _ (lv_sub hl [0] rfl)
        · refine lv_iconst (v := 1) hx hb dX5_statement_128 (by decide) ?_
          refine lv_goto (tgt := 145) hx hb dX5_statement_129 (by decide) ?_
          refine xv_int (y := nI (xLm9 (xSs lt tn bf p9))) (by rw [xLm9, if_pos c_7]; rfl) ?_
          exact K_145 () _ (lv_sub hl [0] rfl)
    · intro K_120
      refine lv_aload_n hx hb dX5_statement_107 rfl (lv_at hl 0 rfl) ?_
      refine va_get (D := D) (ci := 5) (v := .int (xSs lt tn bf p9)) (C := RX5) (T := TX5) (N := 19) hx hb hts hwX5 hown hK hP 2 rfl rfl 12 (by decide) (hts (.fieldLink RX5 75 "WaitOrWalkOnModel" "sort" "I") (by decide +kernel)) (fun _ h9 => h9) rfl dX5_statement_108 ?_
      refine lv_iconst (v := 2) hx hb dX5_statement_111 (by decide) ?_
      refine lv_icmp_ne (tgt := 119) hx hb dX5_statement_112 (by decide) (fun c_9 => ?_) (fun c_9 => ?_)
      · refine lv_iconst (v := 1) hx hb dX5_statement_119 (by decide) ?_
        refine xv_int (y := xLl (xSs lt tn bf p9)) (by simp [xLl, c_9]) ?_
        exact K_120 () _ (lv_sub hl [0] rfl)
      · refine lv_iconst (v := 2) hx hb dX5_statement_115 (by decide) ?_
        refine lv_goto (tgt := 120) hx hb dX5_statement_116 (by decide) ?_
        refine xv_int (y := xLl (xSs lt tn bf p9)) (by simp [xLl, c_9]) ?_
        exact K_120 () _ (lv_sub hl [0] rfl)
  · refine lv_aload_n hx hb dX5_statement_20 rfl (lv_at hl 0 rfl) ?_
    refine va_get (D := D) (ci := 5) (v := .ref fa) (C := RX5) (T := TX5) (N := 19) hx hb hts hwX5 hown hK hP 2 rfl rfl 13 (by decide) (hts (.fieldLink RX5 38 "WaitOrWalkOnModel" "field" "[I") (by decide +kernel)) (fun _ h9 => h9) rfl dX5_statement_21 ?_
    refine lv_iconst (v := 0) hx hb dX5_statement_24 (by decide) ?_
    refine lv_aload_n hx hb dX5_statement_25 rfl (lv_at hl 0 rfl) ?_
    refine lv_aload_n hx hb dX5_statement_26 rfl (lv_at hl 0 rfl) ?_
    refine va_get (D := D) (ci := 5) (v := .ref ka) (C := RX5) (T := TX5) (N := 19) hx hb hts hwX5 hown hK hP 2 rfl rfl 11 (by decide) (hts (.fieldLink RX5 35 "WaitOrWalkOnModel" "kinds" "[C") (by decide +kernel)) (fun _ h9 => h9) rfl dX5_statement_27 ?_
    have hPc := hP.sub (ws' := [(g0, .inr (5, [.ref ra, .ref wa, .ref ta, .int kpt, .ref ma, .int mkd, .ref pa, .int (nI tn), .int (nI (xPn lt tn bf 6 p9).1), .int ((xPn lt tn bf 6 p9).2), .ref ba, .ref ka, .int (xSs lt tn bf p9), .ref fa, .ref qa, .ref ea, .ref za, .ref ya, .int wks])), (pa, .inl (cI, 96, .inl lt)), (ka, .inl (cC, 5, .inl kf))]) [2, 3, 0] rfl
    have hDc := hD.sub (ws' := [(g0, .inr (5, [.ref ra, .ref wa, .ref ta, .int kpt, .ref ma, .int mkd, .ref pa, .int (nI tn), .int (nI (xPn lt tn bf 6 p9).1), .int ((xPn lt tn bf 6 p9).2), .ref ba, .ref ka, .int (xSs lt tn bf p9), .ref fa, .ref qa, .ref ea, .ref za, .ref ya, .int wks])), (pa, .inl (cI, 96, .inl lt)), (ka, .inl (cC, 5, .inl kf))]) [2, 3, 0] (by decide) rfl
    have hFc := va_free (wc := [(g0, .inr (5, [.ref ra, .ref wa, .ref ta, .int kpt, .ref ma, .int mkd, .ref pa, .int (nI tn), .int (nI (xPn lt tn bf 6 p9).1), .int ((xPn lt tn bf 6 p9).2), .ref ba, .ref ka, .int (xSs lt tn bf p9), .ref fa, .ref qa, .ref ea, .ref za, .ref ya, .int wks])), (pa, .inl (cI, 96, .inl lt)), (ka, .inl (cC, 5, .inl kf))]) hD hS hA [2, 3, 0] rfl
    refine va_calli (va_runV (As := [.ref ka]) (rest := [.int 0, .ref fa]) ⟨hx, hb, hml, hown, hts⟩ (g_X5_oneOfK l D cI cL cZ cC _ g0 ra wa ta ma pa ba ka fa qa ea za ya kpt mkd (xSs lt tn bf p9) wks tn (xPn lt tn bf 6 p9) lt kf (htn) (xPn_le hp9)) (cwV 1 hts gX5_statement_X5_oneOf rfl rfl rfl (by decide +kernel) ⟨Nat.le_of_ble_eq_true rfl, Nat.le_of_ble_eq_true rfl⟩) ⟨wPc_bl, va_recv hK hPc (ci := 5) (q0 := 0) rfl rfl, wPc_use hPc hK hDc⟩ rfl rfl hl.1 rfl (lv_room (Nat.le_of_ble_eq_true rfl)) dX5_statement_30 ⟨Nat.le_of_ble_eq_true rfl, Nat.le_of_ble_eq_true rfl⟩) hS (fun q _ h => hFc q h) hFc (fun r_10 u_10 t H1 locs ht hvm hw hB hz1 hk1 hS => ?_)
    obtain ⟨hP1, hD1⟩ := hB
    rw [ht] at hP1
    obtain ⟨hP, hD⟩ := va_join (wr := [(fa, .inl (cI, 15, .inl ff)), (ba, .inl (cC, 6, .inl bf))]) (w1 := [(g0, .inr (5, [.ref ra, .ref wa, .ref ta, .int kpt, .ref ma, .int mkd, .ref pa, .int (nI tn), .int (nI (xPn lt tn kf 5 (xPn lt tn bf 6 p9)).1), .int ((xPn lt tn kf 5 (xPn lt tn bf 6 p9)).2), .ref ba, .ref ka, .int (xSs lt tn bf p9), .ref fa, .ref qa, .ref ea, .ref za, .ref ya, .int wks])), (pa, .inl (cI, 96, .inl lt)), (ka, .inl (cC, 5, .inl kf))]) hP hD [2, 3, 0] [1, 4] rfl rfl (by decide) (by decide) hk1 hFc hP1 hD1
    generalize H1 = H at hP hS ⊢
    have hP : va_P D vwCl [(fa, .inl (cI, 15, .inl ff)), (ba, .inl (cC, 6, .inl bf)), (g0, .inr (5, [.ref ra, .ref wa, .ref ta, .int kpt, .ref ma, .int mkd, .ref pa, .int (nI tn), .int (nI (xPn lt tn kf 5 (xPn lt tn bf 6 p9)).1), .int ((xPn lt tn kf 5 (xPn lt tn bf 6 p9)).2), .ref ba, .ref ka, .int (xSs lt tn bf p9), .ref fa, .ref qa, .ref ea, .ref za, .ref ya, .int wks])), (pa, .inl (cI, 96, .inl lt)), (ka, .inl (cC, 5, .inl kf))] H := hP
    have hD : va_D A [(fa, .inl (cI, 15, .inl ff)), (ba, .inl (cC, 6, .inl bf)), (g0, .inr (5, [.ref ra, .ref wa, .ref ta, .int kpt, .ref ma, .int mkd, .ref pa, .int (nI tn), .int (nI (xPn lt tn kf 5 (xPn lt tn bf 6 p9)).1), .int ((xPn lt tn kf 5 (xPn lt tn bf 6 p9)).2), .ref ba, .ref ka, .int (xSs lt tn bf p9), .ref fa, .ref qa, .ref ea, .ref za, .ref ya, .int wks])), (pa, .inl (cI, 96, .inl lt)), (ka, .inl (cC, 5, .inl kf))] := hD
    obtain rfl : (xPv lt tn kf 5 (xPn lt tn bf 6 p9) : Int32) = r_10 := Eq.symm hw
    refine va_iast (D := D) hx hb hK hP hD hS 0 0 rfl rfl (by unfold vp_in; decide +kernel) dX5_statement_33 (fun H locs hP hD hS => ?_)
    have hP : va_P D vwCl [(fa, .inl (cI, 15, .inl (upd ff 0 (xPv lt tn kf 5 (xPn lt tn bf 6 p9))))), (ba, .inl (cC, 6, .inl bf)), (g0, .inr (5, [.ref ra, .ref wa, .ref ta, .int kpt, .ref ma, .int mkd, .ref pa, .int (nI tn), .int (nI (xPn lt tn kf 5 (xPn lt tn bf 6 p9)).1), .int ((xPn lt tn kf 5 (xPn lt tn bf 6 p9)).2), .ref ba, .ref ka, .int (xSs lt tn bf p9), .ref fa, .ref qa, .ref ea, .ref za, .ref ya, .int wks])), (pa, .inl (cI, 96, .inl lt)), (ka, .inl (cC, 5, .inl kf))] H := hP
    have hD : va_D A [(fa, .inl (cI, 15, .inl (upd ff 0 (xPv lt tn kf 5 (xPn lt tn bf 6 p9))))), (ba, .inl (cC, 6, .inl bf)), (g0, .inr (5, [.ref ra, .ref wa, .ref ta, .int kpt, .ref ma, .int mkd, .ref pa, .int (nI tn), .int (nI (xPn lt tn kf 5 (xPn lt tn bf 6 p9)).1), .int ((xPn lt tn kf 5 (xPn lt tn bf 6 p9)).2), .ref ba, .ref ka, .int (xSs lt tn bf p9), .ref fa, .ref qa, .ref ea, .ref za, .ref ya, .int wks])), (pa, .inl (cI, 96, .inl lt)), (ka, .inl (cC, 5, .inl kf))] := hD
    refine lv_aload_n hx hb dX5_statement_34 rfl (lv_at hl 0 rfl) ?_
    refine va_get (D := D) (ci := 5) (v := .ref fa) (C := RX5) (T := TX5) (N := 19) hx hb hts hwX5 hown hK hP 2 rfl rfl 13 (by decide) (hts (.fieldLink RX5 38 "WaitOrWalkOnModel" "field" "[I") (by decide +kernel)) (fun _ h9 => h9) rfl dX5_statement_35 ?_
    refine lv_iconst (v := 1) hx hb dX5_statement_38 (by decide) ?_
    refine lv_aload_n hx hb dX5_statement_39 rfl (lv_at hl 0 rfl) ?_
    refine lv_iconst (v := 1) hx hb dX5_statement_40 (by decide) ?_
    refine lv_iconst (v := 1) hx hb dX5_statement_41 (by decide) ?_
    have hPc := hP.sub (ws' := [(g0, .inr (5, [.ref ra, .ref wa, .ref ta, .int kpt, .ref ma, .int mkd, .ref pa, .int (nI tn), .int (nI (xPn lt tn kf 5 (xPn lt tn bf 6 p9)).1), .int ((xPn lt tn kf 5 (xPn lt tn bf 6 p9)).2), .ref ba, .ref ka, .int (xSs lt tn bf p9), .ref fa, .ref qa, .ref ea, .ref za, .ref ya, .int wks])), (pa, .inl (cI, 96, .inl lt))]) [2, 3] rfl
    have hDc := hD.sub (ws' := [(g0, .inr (5, [.ref ra, .ref wa, .ref ta, .int kpt, .ref ma, .int mkd, .ref pa, .int (nI tn), .int (nI (xPn lt tn kf 5 (xPn lt tn bf 6 p9)).1), .int ((xPn lt tn kf 5 (xPn lt tn bf 6 p9)).2), .ref ba, .ref ka, .int (xSs lt tn bf p9), .ref fa, .ref qa, .ref ea, .ref za, .ref ya, .int wks])), (pa, .inl (cI, 96, .inl lt))]) [2, 3] (by decide) rfl
    have hFc := va_free (wc := [(g0, .inr (5, [.ref ra, .ref wa, .ref ta, .int kpt, .ref ma, .int mkd, .ref pa, .int (nI tn), .int (nI (xPn lt tn kf 5 (xPn lt tn bf 6 p9)).1), .int ((xPn lt tn kf 5 (xPn lt tn bf 6 p9)).2), .ref ba, .ref ka, .int (xSs lt tn bf p9), .ref fa, .ref qa, .ref ea, .ref za, .ref ya, .int wks])), (pa, .inl (cI, 96, .inl lt))]) hD hS hA [2, 3] rfl
    refine va_calli (va_runV (As := [.int 1, .int 1]) (rest := [.int 1, .ref fa]) ⟨hx, hb, hml, hown, hts⟩ (g_X5_figures l D cI cL cZ cC _ g0 ra wa ta ma pa ba ka fa qa ea za ya kpt mkd (xSs lt tn bf p9) wks tn (xPn lt tn kf 5 (xPn lt tn bf 6 p9)) 1 1 lt (htn) (xPn_le (xPn_le hp9)) (by decide)) (cwV 2 hts gX5_statement_X5_figures rfl rfl rfl (by decide +kernel) ⟨Nat.le_of_ble_eq_true rfl, Nat.le_of_ble_eq_true rfl⟩) ⟨wPc_bl, va_recv hK hPc (ci := 5) (q0 := 0) rfl rfl, wPc_use hPc hK hDc⟩ rfl rfl hl.1 rfl (lv_room (Nat.le_of_ble_eq_true rfl)) dX5_statement_42 ⟨Nat.le_of_ble_eq_true rfl, Nat.le_of_ble_eq_true rfl⟩) hS (fun q _ h => hFc q h) hFc (fun r_11 u_11 t H1 locs ht hvm hw hB hz1 hk1 hS => ?_)
    obtain ⟨hP1, hD1⟩ := hB
    rw [ht] at hP1
    obtain ⟨hP, hD⟩ := va_join (wr := [(fa, .inl (cI, 15, .inl (upd ff 0 (xPv lt tn kf 5 (xPn lt tn bf 6 p9))))), (ba, .inl (cC, 6, .inl bf)), (ka, .inl (cC, 5, .inl kf))]) (w1 := [(g0, .inr (5, [.ref ra, .ref wa, .ref ta, .int kpt, .ref ma, .int mkd, .ref pa, .int (nI tn), .int (nI (xPf lt tn 1 1 (xPn lt tn kf 5 (xPn lt tn bf 6 p9))).1), .int ((xPf lt tn 1 1 (xPn lt tn kf 5 (xPn lt tn bf 6 p9))).2), .ref ba, .ref ka, .int (xSs lt tn bf p9), .ref fa, .ref qa, .ref ea, .ref za, .ref ya, .int wks])), (pa, .inl (cI, 96, .inl lt))]) hP hD [2, 3] [0, 1, 4] rfl rfl (by decide) (by decide) hk1 hFc hP1 hD1
    generalize H1 = H at hP hS ⊢
    have hP : va_P D vwCl [(fa, .inl (cI, 15, .inl (upd ff 0 (xPv lt tn kf 5 (xPn lt tn bf 6 p9))))), (ba, .inl (cC, 6, .inl bf)), (ka, .inl (cC, 5, .inl kf)), (g0, .inr (5, [.ref ra, .ref wa, .ref ta, .int kpt, .ref ma, .int mkd, .ref pa, .int (nI tn), .int (nI (xPf lt tn 1 1 (xPn lt tn kf 5 (xPn lt tn bf 6 p9))).1), .int ((xPf lt tn 1 1 (xPn lt tn kf 5 (xPn lt tn bf 6 p9))).2), .ref ba, .ref ka, .int (xSs lt tn bf p9), .ref fa, .ref qa, .ref ea, .ref za, .ref ya, .int wks])), (pa, .inl (cI, 96, .inl lt))] H := hP
    have hD : va_D A [(fa, .inl (cI, 15, .inl (upd ff 0 (xPv lt tn kf 5 (xPn lt tn bf 6 p9))))), (ba, .inl (cC, 6, .inl bf)), (ka, .inl (cC, 5, .inl kf)), (g0, .inr (5, [.ref ra, .ref wa, .ref ta, .int kpt, .ref ma, .int mkd, .ref pa, .int (nI tn), .int (nI (xPf lt tn 1 1 (xPn lt tn kf 5 (xPn lt tn bf 6 p9))).1), .int ((xPf lt tn 1 1 (xPn lt tn kf 5 (xPn lt tn bf 6 p9))).2), .ref ba, .ref ka, .int (xSs lt tn bf p9), .ref fa, .ref qa, .ref ea, .ref za, .ref ya, .int wks])), (pa, .inl (cI, 96, .inl lt))] := hD
    obtain rfl : (xPw lt tn 1 (xPn lt tn kf 5 (xPn lt tn bf 6 p9)) : Int32) = r_11 := Eq.symm hw
    refine va_iast (D := D) hx hb hK hP hD hS 0 0 rfl rfl (by unfold vp_in; decide +kernel) dX5_statement_45 (fun H locs hP hD hS => ?_)
    have hP : va_P D vwCl [(fa, .inl (cI, 15, .inl (upd (upd ff 0 (xPv lt tn kf 5 (xPn lt tn bf 6 p9))) 1 (xPw lt tn 1 (xPn lt tn kf 5 (xPn lt tn bf 6 p9)))))), (ba, .inl (cC, 6, .inl bf)), (ka, .inl (cC, 5, .inl kf)), (g0, .inr (5, [.ref ra, .ref wa, .ref ta, .int kpt, .ref ma, .int mkd, .ref pa, .int (nI tn), .int (nI (xPf lt tn 1 1 (xPn lt tn kf 5 (xPn lt tn bf 6 p9))).1), .int ((xPf lt tn 1 1 (xPn lt tn kf 5 (xPn lt tn bf 6 p9))).2), .ref ba, .ref ka, .int (xSs lt tn bf p9), .ref fa, .ref qa, .ref ea, .ref za, .ref ya, .int wks])), (pa, .inl (cI, 96, .inl lt))] H := hP
    have hD : va_D A [(fa, .inl (cI, 15, .inl (upd (upd ff 0 (xPv lt tn kf 5 (xPn lt tn bf 6 p9))) 1 (xPw lt tn 1 (xPn lt tn kf 5 (xPn lt tn bf 6 p9)))))), (ba, .inl (cC, 6, .inl bf)), (ka, .inl (cC, 5, .inl kf)), (g0, .inr (5, [.ref ra, .ref wa, .ref ta, .int kpt, .ref ma, .int mkd, .ref pa, .int (nI tn), .int (nI (xPf lt tn 1 1 (xPn lt tn kf 5 (xPn lt tn bf 6 p9))).1), .int ((xPf lt tn 1 1 (xPn lt tn kf 5 (xPn lt tn bf 6 p9))).2), .ref ba, .ref ka, .int (xSs lt tn bf p9), .ref fa, .ref qa, .ref ea, .ref za, .ref ya, .int wks])), (pa, .inl (cI, 96, .inl lt))] := hD
    refine lv_aload_n hx hb dX5_statement_46 rfl (lv_at hl 0 rfl) ?_
    refine va_get (D := D) (ci := 5) (v := .ref fa) (C := RX5) (T := TX5) (N := 19) hx hb hts hwX5 hown hK hP 3 rfl rfl 13 (by decide) (hts (.fieldLink RX5 38 "WaitOrWalkOnModel" "field" "[I") (by decide +kernel)) (fun _ h9 => h9) rfl dX5_statement_47 ?_
    refine lv_iconst (v := 2) hx hb dX5_statement_50 (by decide) ?_
    refine lv_aload_n hx hb dX5_statement_51 rfl (lv_at hl 0 rfl) ?_
    refine lv_iconst (v := 1) hx hb dX5_statement_52 (by decide) ?_
    refine lv_iconst (v := 1) hx hb dX5_statement_53 (by decide) ?_
    have hPc := hP.sub (ws' := [(g0, .inr (5, [.ref ra, .ref wa, .ref ta, .int kpt, .ref ma, .int mkd, .ref pa, .int (nI tn), .int (nI (xPf lt tn 1 1 (xPn lt tn kf 5 (xPn lt tn bf 6 p9))).1), .int ((xPf lt tn 1 1 (xPn lt tn kf 5 (xPn lt tn bf 6 p9))).2), .ref ba, .ref ka, .int (xSs lt tn bf p9), .ref fa, .ref qa, .ref ea, .ref za, .ref ya, .int wks])), (pa, .inl (cI, 96, .inl lt))]) [3, 4] rfl
    have hDc := hD.sub (ws' := [(g0, .inr (5, [.ref ra, .ref wa, .ref ta, .int kpt, .ref ma, .int mkd, .ref pa, .int (nI tn), .int (nI (xPf lt tn 1 1 (xPn lt tn kf 5 (xPn lt tn bf 6 p9))).1), .int ((xPf lt tn 1 1 (xPn lt tn kf 5 (xPn lt tn bf 6 p9))).2), .ref ba, .ref ka, .int (xSs lt tn bf p9), .ref fa, .ref qa, .ref ea, .ref za, .ref ya, .int wks])), (pa, .inl (cI, 96, .inl lt))]) [3, 4] (by decide) rfl
    have hFc := va_free (wc := [(g0, .inr (5, [.ref ra, .ref wa, .ref ta, .int kpt, .ref ma, .int mkd, .ref pa, .int (nI tn), .int (nI (xPf lt tn 1 1 (xPn lt tn kf 5 (xPn lt tn bf 6 p9))).1), .int ((xPf lt tn 1 1 (xPn lt tn kf 5 (xPn lt tn bf 6 p9))).2), .ref ba, .ref ka, .int (xSs lt tn bf p9), .ref fa, .ref qa, .ref ea, .ref za, .ref ya, .int wks])), (pa, .inl (cI, 96, .inl lt))]) hD hS hA [3, 4] rfl
    refine va_calli (va_runV (As := [.int 1, .int 1]) (rest := [.int 2, .ref fa]) ⟨hx, hb, hml, hown, hts⟩ (g_X5_figures l D cI cL cZ cC _ g0 ra wa ta ma pa ba ka fa qa ea za ya kpt mkd (xSs lt tn bf p9) wks tn (xPf lt tn 1 1 (xPn lt tn kf 5 (xPn lt tn bf 6 p9))) 1 1 lt (htn) (xPf_le (xPn_le (xPn_le hp9))) (by decide)) (cwV 2 hts gX5_statement_X5_figures rfl rfl rfl (by decide +kernel) ⟨Nat.le_of_ble_eq_true rfl, Nat.le_of_ble_eq_true rfl⟩) ⟨wPc_bl, va_recv hK hPc (ci := 5) (q0 := 0) rfl rfl, wPc_use hPc hK hDc⟩ rfl rfl hl.1 rfl (lv_room (Nat.le_of_ble_eq_true rfl)) dX5_statement_54 ⟨Nat.le_of_ble_eq_true rfl, Nat.le_of_ble_eq_true rfl⟩) hS (fun q _ h => hFc q h) hFc (fun r_12 u_12 t H1 locs ht hvm hw hB hz1 hk1 hS => ?_)
    obtain ⟨hP1, hD1⟩ := hB
    rw [ht] at hP1
    obtain ⟨hP, hD⟩ := va_join (wr := [(fa, .inl (cI, 15, .inl (upd (upd ff 0 (xPv lt tn kf 5 (xPn lt tn bf 6 p9))) 1 (xPw lt tn 1 (xPn lt tn kf 5 (xPn lt tn bf 6 p9)))))), (ba, .inl (cC, 6, .inl bf)), (ka, .inl (cC, 5, .inl kf))]) (w1 := [(g0, .inr (5, [.ref ra, .ref wa, .ref ta, .int kpt, .ref ma, .int mkd, .ref pa, .int (nI tn), .int (nI (xPf lt tn 1 1 (xPf lt tn 1 1 (xPn lt tn kf 5 (xPn lt tn bf 6 p9)))).1), .int ((xPf lt tn 1 1 (xPf lt tn 1 1 (xPn lt tn kf 5 (xPn lt tn bf 6 p9)))).2), .ref ba, .ref ka, .int (xSs lt tn bf p9), .ref fa, .ref qa, .ref ea, .ref za, .ref ya, .int wks])), (pa, .inl (cI, 96, .inl lt))]) hP hD [3, 4] [0, 1, 2] rfl rfl (by decide) (by decide) hk1 hFc hP1 hD1
    generalize H1 = H at hP hS ⊢
    have hP : va_P D vwCl [(fa, .inl (cI, 15, .inl (upd (upd ff 0 (xPv lt tn kf 5 (xPn lt tn bf 6 p9))) 1 (xPw lt tn 1 (xPn lt tn kf 5 (xPn lt tn bf 6 p9)))))), (ba, .inl (cC, 6, .inl bf)), (ka, .inl (cC, 5, .inl kf)), (g0, .inr (5, [.ref ra, .ref wa, .ref ta, .int kpt, .ref ma, .int mkd, .ref pa, .int (nI tn), .int (nI (xPf lt tn 1 1 (xPf lt tn 1 1 (xPn lt tn kf 5 (xPn lt tn bf 6 p9)))).1), .int ((xPf lt tn 1 1 (xPf lt tn 1 1 (xPn lt tn kf 5 (xPn lt tn bf 6 p9)))).2), .ref ba, .ref ka, .int (xSs lt tn bf p9), .ref fa, .ref qa, .ref ea, .ref za, .ref ya, .int wks])), (pa, .inl (cI, 96, .inl lt))] H := hP
    have hD : va_D A [(fa, .inl (cI, 15, .inl (upd (upd ff 0 (xPv lt tn kf 5 (xPn lt tn bf 6 p9))) 1 (xPw lt tn 1 (xPn lt tn kf 5 (xPn lt tn bf 6 p9)))))), (ba, .inl (cC, 6, .inl bf)), (ka, .inl (cC, 5, .inl kf)), (g0, .inr (5, [.ref ra, .ref wa, .ref ta, .int kpt, .ref ma, .int mkd, .ref pa, .int (nI tn), .int (nI (xPf lt tn 1 1 (xPf lt tn 1 1 (xPn lt tn kf 5 (xPn lt tn bf 6 p9)))).1), .int ((xPf lt tn 1 1 (xPf lt tn 1 1 (xPn lt tn kf 5 (xPn lt tn bf 6 p9)))).2), .ref ba, .ref ka, .int (xSs lt tn bf p9), .ref fa, .ref qa, .ref ea, .ref za, .ref ya, .int wks])), (pa, .inl (cI, 96, .inl lt))] := hD
    obtain rfl : (xPw lt tn 1 (xPf lt tn 1 1 (xPn lt tn kf 5 (xPn lt tn bf 6 p9))) : Int32) = r_12 := Eq.symm hw
    refine va_iast (D := D) hx hb hK hP hD hS 0 0 rfl rfl (by unfold vp_in; decide +kernel) dX5_statement_57 (fun H locs hP hD hS => ?_)
    have hP : va_P D vwCl [(fa, .inl (cI, 15, .inl (upd (upd (upd ff 0 (xPv lt tn kf 5 (xPn lt tn bf 6 p9))) 1 (xPw lt tn 1 (xPn lt tn kf 5 (xPn lt tn bf 6 p9)))) 2 (xPw lt tn 1 (xPf lt tn 1 1 (xPn lt tn kf 5 (xPn lt tn bf 6 p9))))))), (ba, .inl (cC, 6, .inl bf)), (ka, .inl (cC, 5, .inl kf)), (g0, .inr (5, [.ref ra, .ref wa, .ref ta, .int kpt, .ref ma, .int mkd, .ref pa, .int (nI tn), .int (nI (xPf lt tn 1 1 (xPf lt tn 1 1 (xPn lt tn kf 5 (xPn lt tn bf 6 p9)))).1), .int ((xPf lt tn 1 1 (xPf lt tn 1 1 (xPn lt tn kf 5 (xPn lt tn bf 6 p9)))).2), .ref ba, .ref ka, .int (xSs lt tn bf p9), .ref fa, .ref qa, .ref ea, .ref za, .ref ya, .int wks])), (pa, .inl (cI, 96, .inl lt))] H := hP
    have hD : va_D A [(fa, .inl (cI, 15, .inl (upd (upd (upd ff 0 (xPv lt tn kf 5 (xPn lt tn bf 6 p9))) 1 (xPw lt tn 1 (xPn lt tn kf 5 (xPn lt tn bf 6 p9)))) 2 (xPw lt tn 1 (xPf lt tn 1 1 (xPn lt tn kf 5 (xPn lt tn bf 6 p9))))))), (ba, .inl (cC, 6, .inl bf)), (ka, .inl (cC, 5, .inl kf)), (g0, .inr (5, [.ref ra, .ref wa, .ref ta, .int kpt, .ref ma, .int mkd, .ref pa, .int (nI tn), .int (nI (xPf lt tn 1 1 (xPf lt tn 1 1 (xPn lt tn kf 5 (xPn lt tn bf 6 p9)))).1), .int ((xPf lt tn 1 1 (xPf lt tn 1 1 (xPn lt tn kf 5 (xPn lt tn bf 6 p9)))).2), .ref ba, .ref ka, .int (xSs lt tn bf p9), .ref fa, .ref qa, .ref ea, .ref za, .ref ya, .int wks])), (pa, .inl (cI, 96, .inl lt))] := hD
    refine lv_aload_n hx hb dX5_statement_58 rfl (lv_at hl 0 rfl) ?_
    refine va_get (D := D) (ci := 5) (v := .ref fa) (C := RX5) (T := TX5) (N := 19) hx hb hts hwX5 hown hK hP 3 rfl rfl 13 (by decide) (hts (.fieldLink RX5 38 "WaitOrWalkOnModel" "field" "[I") (by decide +kernel)) (fun _ h9 => h9) rfl dX5_statement_59 ?_
    refine lv_iconst (v := 3) hx hb dX5_statement_62 (by decide) ?_
    refine lv_aload_n hx hb dX5_statement_63 rfl (lv_at hl 0 rfl) ?_
    refine lv_iconst (v := 1) hx hb dX5_statement_64 (by decide) ?_
    refine lv_iconst (v := 1) hx hb dX5_statement_65 (by decide) ?_
    have hPc := hP.sub (ws' := [(g0, .inr (5, [.ref ra, .ref wa, .ref ta, .int kpt, .ref ma, .int mkd, .ref pa, .int (nI tn), .int (nI (xPf lt tn 1 1 (xPf lt tn 1 1 (xPn lt tn kf 5 (xPn lt tn bf 6 p9)))).1), .int ((xPf lt tn 1 1 (xPf lt tn 1 1 (xPn lt tn kf 5 (xPn lt tn bf 6 p9)))).2), .ref ba, .ref ka, .int (xSs lt tn bf p9), .ref fa, .ref qa, .ref ea, .ref za, .ref ya, .int wks])), (pa, .inl (cI, 96, .inl lt))]) [3, 4] rfl
    have hDc := hD.sub (ws' := [(g0, .inr (5, [.ref ra, .ref wa, .ref ta, .int kpt, .ref ma, .int mkd, .ref pa, .int (nI tn), .int (nI (xPf lt tn 1 1 (xPf lt tn 1 1 (xPn lt tn kf 5 (xPn lt tn bf 6 p9)))).1), .int ((xPf lt tn 1 1 (xPf lt tn 1 1 (xPn lt tn kf 5 (xPn lt tn bf 6 p9)))).2), .ref ba, .ref ka, .int (xSs lt tn bf p9), .ref fa, .ref qa, .ref ea, .ref za, .ref ya, .int wks])), (pa, .inl (cI, 96, .inl lt))]) [3, 4] (by decide) rfl
    have hFc := va_free (wc := [(g0, .inr (5, [.ref ra, .ref wa, .ref ta, .int kpt, .ref ma, .int mkd, .ref pa, .int (nI tn), .int (nI (xPf lt tn 1 1 (xPf lt tn 1 1 (xPn lt tn kf 5 (xPn lt tn bf 6 p9)))).1), .int ((xPf lt tn 1 1 (xPf lt tn 1 1 (xPn lt tn kf 5 (xPn lt tn bf 6 p9)))).2), .ref ba, .ref ka, .int (xSs lt tn bf p9), .ref fa, .ref qa, .ref ea, .ref za, .ref ya, .int wks])), (pa, .inl (cI, 96, .inl lt))]) hD hS hA [3, 4] rfl
    refine va_calli (va_runV (As := [.int 1, .int 1]) (rest := [.int 3, .ref fa]) ⟨hx, hb, hml, hown, hts⟩ (g_X5_figures l D cI cL cZ cC _ g0 ra wa ta ma pa ba ka fa qa ea za ya kpt mkd (xSs lt tn bf p9) wks tn (xPf lt tn 1 1 (xPf lt tn 1 1 (xPn lt tn kf 5 (xPn lt tn bf 6 p9)))) 1 1 lt (htn) (xPf_le (xPf_le (xPn_le (xPn_le hp9)))) (by decide)) (cwV 2 hts gX5_statement_X5_figures rfl rfl rfl (by decide +kernel) ⟨Nat.le_of_ble_eq_true rfl, Nat.le_of_ble_eq_true rfl⟩) ⟨wPc_bl, va_recv hK hPc (ci := 5) (q0 := 0) rfl rfl, wPc_use hPc hK hDc⟩ rfl rfl hl.1 rfl (lv_room (Nat.le_of_ble_eq_true rfl)) dX5_statement_66 ⟨Nat.le_of_ble_eq_true rfl, Nat.le_of_ble_eq_true rfl⟩) hS (fun q _ h => hFc q h) hFc (fun r_13 u_13 t H1 locs ht hvm hw hB hz1 hk1 hS => ?_)
    obtain ⟨hP1, hD1⟩ := hB
    rw [ht] at hP1
    obtain ⟨hP, hD⟩ := va_join (wr := [(fa, .inl (cI, 15, .inl (upd (upd (upd ff 0 (xPv lt tn kf 5 (xPn lt tn bf 6 p9))) 1 (xPw lt tn 1 (xPn lt tn kf 5 (xPn lt tn bf 6 p9)))) 2 (xPw lt tn 1 (xPf lt tn 1 1 (xPn lt tn kf 5 (xPn lt tn bf 6 p9))))))), (ba, .inl (cC, 6, .inl bf)), (ka, .inl (cC, 5, .inl kf))]) (w1 := [(g0, .inr (5, [.ref ra, .ref wa, .ref ta, .int kpt, .ref ma, .int mkd, .ref pa, .int (nI tn), .int (nI (xPf lt tn 1 1 (xPf lt tn 1 1 (xPf lt tn 1 1 (xPn lt tn kf 5 (xPn lt tn bf 6 p9))))).1), .int ((xPf lt tn 1 1 (xPf lt tn 1 1 (xPf lt tn 1 1 (xPn lt tn kf 5 (xPn lt tn bf 6 p9))))).2), .ref ba, .ref ka, .int (xSs lt tn bf p9), .ref fa, .ref qa, .ref ea, .ref za, .ref ya, .int wks])), (pa, .inl (cI, 96, .inl lt))]) hP hD [3, 4] [0, 1, 2] rfl rfl (by decide) (by decide) hk1 hFc hP1 hD1
    generalize H1 = H at hP hS ⊢
    have hP : va_P D vwCl [(fa, .inl (cI, 15, .inl (upd (upd (upd ff 0 (xPv lt tn kf 5 (xPn lt tn bf 6 p9))) 1 (xPw lt tn 1 (xPn lt tn kf 5 (xPn lt tn bf 6 p9)))) 2 (xPw lt tn 1 (xPf lt tn 1 1 (xPn lt tn kf 5 (xPn lt tn bf 6 p9))))))), (ba, .inl (cC, 6, .inl bf)), (ka, .inl (cC, 5, .inl kf)), (g0, .inr (5, [.ref ra, .ref wa, .ref ta, .int kpt, .ref ma, .int mkd, .ref pa, .int (nI tn), .int (nI (xPf lt tn 1 1 (xPf lt tn 1 1 (xPf lt tn 1 1 (xPn lt tn kf 5 (xPn lt tn bf 6 p9))))).1), .int ((xPf lt tn 1 1 (xPf lt tn 1 1 (xPf lt tn 1 1 (xPn lt tn kf 5 (xPn lt tn bf 6 p9))))).2), .ref ba, .ref ka, .int (xSs lt tn bf p9), .ref fa, .ref qa, .ref ea, .ref za, .ref ya, .int wks])), (pa, .inl (cI, 96, .inl lt))] H := hP
    have hD : va_D A [(fa, .inl (cI, 15, .inl (upd (upd (upd ff 0 (xPv lt tn kf 5 (xPn lt tn bf 6 p9))) 1 (xPw lt tn 1 (xPn lt tn kf 5 (xPn lt tn bf 6 p9)))) 2 (xPw lt tn 1 (xPf lt tn 1 1 (xPn lt tn kf 5 (xPn lt tn bf 6 p9))))))), (ba, .inl (cC, 6, .inl bf)), (ka, .inl (cC, 5, .inl kf)), (g0, .inr (5, [.ref ra, .ref wa, .ref ta, .int kpt, .ref ma, .int mkd, .ref pa, .int (nI tn), .int (nI (xPf lt tn 1 1 (xPf lt tn 1 1 (xPf lt tn 1 1 (xPn lt tn kf 5 (xPn lt tn bf 6 p9))))).1), .int ((xPf lt tn 1 1 (xPf lt tn 1 1 (xPf lt tn 1 1 (xPn lt tn kf 5 (xPn lt tn bf 6 p9))))).2), .ref ba, .ref ka, .int (xSs lt tn bf p9), .ref fa, .ref qa, .ref ea, .ref za, .ref ya, .int wks])), (pa, .inl (cI, 96, .inl lt))] := hD
    obtain rfl : (xPw lt tn 1 (xPf lt tn 1 1 (xPf lt tn 1 1 (xPn lt tn kf 5 (xPn lt tn bf 6 p9)))) : Int32) = r_13 := Eq.symm hw
    refine va_iast (D := D) hx hb hK hP hD hS 0 0 rfl rfl (by unfold vp_in; decide +kernel) dX5_statement_69 (fun H locs hP hD hS => ?_)
    have hP : va_P D vwCl [(fa, .inl (cI, 15, .inl (upd (upd (upd (upd ff 0 (xPv lt tn kf 5 (xPn lt tn bf 6 p9))) 1 (xPw lt tn 1 (xPn lt tn kf 5 (xPn lt tn bf 6 p9)))) 2 (xPw lt tn 1 (xPf lt tn 1 1 (xPn lt tn kf 5 (xPn lt tn bf 6 p9))))) 3 (xPw lt tn 1 (xPf lt tn 1 1 (xPf lt tn 1 1 (xPn lt tn kf 5 (xPn lt tn bf 6 p9)))))))), (ba, .inl (cC, 6, .inl bf)), (ka, .inl (cC, 5, .inl kf)), (g0, .inr (5, [.ref ra, .ref wa, .ref ta, .int kpt, .ref ma, .int mkd, .ref pa, .int (nI tn), .int (nI (xPf lt tn 1 1 (xPf lt tn 1 1 (xPf lt tn 1 1 (xPn lt tn kf 5 (xPn lt tn bf 6 p9))))).1), .int ((xPf lt tn 1 1 (xPf lt tn 1 1 (xPf lt tn 1 1 (xPn lt tn kf 5 (xPn lt tn bf 6 p9))))).2), .ref ba, .ref ka, .int (xSs lt tn bf p9), .ref fa, .ref qa, .ref ea, .ref za, .ref ya, .int wks])), (pa, .inl (cI, 96, .inl lt))] H := hP
    have hD : va_D A [(fa, .inl (cI, 15, .inl (upd (upd (upd (upd ff 0 (xPv lt tn kf 5 (xPn lt tn bf 6 p9))) 1 (xPw lt tn 1 (xPn lt tn kf 5 (xPn lt tn bf 6 p9)))) 2 (xPw lt tn 1 (xPf lt tn 1 1 (xPn lt tn kf 5 (xPn lt tn bf 6 p9))))) 3 (xPw lt tn 1 (xPf lt tn 1 1 (xPf lt tn 1 1 (xPn lt tn kf 5 (xPn lt tn bf 6 p9)))))))), (ba, .inl (cC, 6, .inl bf)), (ka, .inl (cC, 5, .inl kf)), (g0, .inr (5, [.ref ra, .ref wa, .ref ta, .int kpt, .ref ma, .int mkd, .ref pa, .int (nI tn), .int (nI (xPf lt tn 1 1 (xPf lt tn 1 1 (xPf lt tn 1 1 (xPn lt tn kf 5 (xPn lt tn bf 6 p9))))).1), .int ((xPf lt tn 1 1 (xPf lt tn 1 1 (xPf lt tn 1 1 (xPn lt tn kf 5 (xPn lt tn bf 6 p9))))).2), .ref ba, .ref ka, .int (xSs lt tn bf p9), .ref fa, .ref qa, .ref ea, .ref za, .ref ya, .int wks])), (pa, .inl (cI, 96, .inl lt))] := hD
    refine lv_iconst (v := 1) hx hb dX5_statement_70 (by decide) ?_
    refine lv_istore_n (lv' := [(1, .int 1), (0, .ref g0)]) hx hb dX5_statement_71 rfl hl (by decide) rfl (fun ls hl => ?_)
    refine xl_loopH (σ := Nat × (Nat → Int32)) (fun n q H locs ls => lv_has ls 2 [(1, .int (nI (q.1 + 1))), (0, .ref g0)] ∧ va_P D vwCl [(fa, .inl (cI, 15, .inl q.2)), (ba, .inl (cC, 6, .inl bf)), (ka, .inl (cC, 5, .inl kf)), (g0, .inr (5, [.ref ra, .ref wa, .ref ta, .int kpt, .ref ma, .int mkd, .ref pa, .int (nI tn), .int (nI (xQ lt tn (x5p lt tn kf (xPn lt tn bf 6 p9)) q.1).1), .int ((xQ lt tn (x5p lt tn kf (xPn lt tn bf 6 p9)) q.1).2), .ref ba, .ref ka, .int (xSs lt tn bf p9), .ref fa, .ref qa, .ref ea, .ref za, .ref ya, .int wks])), (pa, .inl (cI, 96, .inl lt))] H ∧ va_D A [(fa, .inl (cI, 15, .inl q.2)), (ba, .inl (cC, 6, .inl bf)), (ka, .inl (cC, 5, .inl kf)), (g0, .inr (5, [.ref ra, .ref wa, .ref ta, .int kpt, .ref ma, .int mkd, .ref pa, .int (nI tn), .int (nI (xQ lt tn (x5p lt tn kf (xPn lt tn bf 6 p9)) q.1).1), .int ((xQ lt tn (x5p lt tn kf (xPn lt tn bf 6 p9)) q.1).2), .ref ba, .ref ka, .int (xSs lt tn bf p9), .ref fa, .ref qa, .ref ea, .ref za, .ref ya, .int wks])), (pa, .inl (cI, 96, .inl lt))] ∧ va_S A s.heap H locs ∧ (12 - q.1 < n) ∧ (q.1 ≤ 11) ∧ (q.2 = xFq lt tn (x5p lt tn kf (xPn lt tn bf 6 p9)) (xB4 lt tn kf (xPn lt tn bf 6 p9) ff) q.1)) (13) (0, upd (upd (upd (upd ff 0 (xPv lt tn kf 5 (xPn lt tn bf 6 p9))) 1 (xPw lt tn 1 (xPn lt tn kf 5 (xPn lt tn bf 6 p9)))) 2 (xPw lt tn 1 (xPf lt tn 1 1 (xPn lt tn kf 5 (xPn lt tn bf 6 p9))))) 3 (xPw lt tn 1 (xPf lt tn 1 1 (xPf lt tn 1 1 (xPn lt tn kf 5 (xPn lt tn bf 6 p9)))))) ⟨lv_sub hl [0, 1] rfl, hP.sub [0, 1, 2, 3, 4] rfl, hD.sub [0, 1, 2, 3, 4] (by decide) rfl, hS, by (try dsimp only); exact ⟨by omega, by omega, rfl⟩⟩ (fun q H lc ls h => absurd h.2.2.2.2.1 (Nat.not_lt_zero _)) ?_
    intro n_72 q_72 H locs ls ih_72 hI_72
    obtain ⟨hl, hP, hD, hS, hI_72⟩ := hI_72
    obtain ⟨k, g⟩ := q_72
    obtain ⟨h1, h2, h3⟩ := hI_72
    try dsimp only at hl hP hD h1 h2 h3
    refine lv_iload_n hx hb dX5_statement_72 rfl (lv_at hl 0 rfl) ?_
    refine lv_bipush (v := 12) hx hb dX5_statement_73 (by decide) ?_
    refine lv_icmp_ge (tgt := 98) hx hb dX5_statement_75 (by decide) (fun c_14 => ?_) (fun c_14 => ?_)
    · have w11 : k = 11 := by have w := mt (nI_ltI (a := k + 1) (b := 12) (by omega) (by omega)).mpr (Int32.not_lt.mpr c_14); omega
      subst w11
      rw [h3] at hP hD
      have hP : va_P D vwCl [(fa, .inl (cI, 15, .inl (xFq lt tn (x5p lt tn kf (xPn lt tn bf 6 p9)) (xB4 lt tn kf (xPn lt tn bf 6 p9) ff) 11))), (ba, .inl (cC, 6, .inl bf)), (ka, .inl (cC, 5, .inl kf)), (g0, .inr (5, [.ref ra, .ref wa, .ref ta, .int kpt, .ref ma, .int mkd, .ref pa, .int (nI tn), .int (nI (xQ lt tn (x5p lt tn kf (xPn lt tn bf 6 p9)) 11).1), .int ((xQ lt tn (x5p lt tn kf (xPn lt tn bf 6 p9)) 11).2), .ref ba, .ref ka, .int (xSs lt tn bf p9), .ref fa, .ref qa, .ref ea, .ref za, .ref ya, .int wks])), (pa, .inl (cI, 96, .inl lt))] H := hP
      have hD : va_D A [(fa, .inl (cI, 15, .inl (xFq lt tn (x5p lt tn kf (xPn lt tn bf 6 p9)) (xB4 lt tn kf (xPn lt tn bf 6 p9) ff) 11))), (ba, .inl (cC, 6, .inl bf)), (ka, .inl (cC, 5, .inl kf)), (g0, .inr (5, [.ref ra, .ref wa, .ref ta, .int kpt, .ref ma, .int mkd, .ref pa, .int (nI tn), .int (nI (xQ lt tn (x5p lt tn kf (xPn lt tn bf 6 p9)) 11).1), .int ((xQ lt tn (x5p lt tn kf (xPn lt tn bf 6 p9)) 11).2), .ref ba, .ref ka, .int (xSs lt tn bf p9), .ref fa, .ref qa, .ref ea, .ref za, .ref ya, .int wks])), (pa, .inl (cI, 96, .inl lt))] := hD
      refine lv_goto (tgt := 149) hx hb dX5_statement_98 (by decide) ?_
      refine lv_aload_n hx hb dX5_statement_149 rfl (lv_at hl 1 rfl) ?_
      refine va_get (D := D) (ci := 5) (v := .int ((xQ lt tn (x5p lt tn kf (xPn lt tn bf 6 p9)) 11).2)) (C := RX5) (T := TX5) (N := 19) hx hb hts hwX5 hown hK hP 3 rfl rfl 9 (by decide) (hts (.fieldLink RX5 61 "WaitOrWalkOnModel" "well" "Z") (by decide +kernel)) (fun _ h9 => h9) rfl dX5_statement_150 ?_
      refine lv_if_eq (tgt := 194) hx hb dX5_statement_153 (by decide) (fun c_15 => ?_) (fun c_15 => ?_)
      · refine lv_aload_n hx hb dX5_statement_194 rfl (lv_at hl 1 rfl) ?_
        refine lv_iconst (v := 0) hx hb dX5_statement_195 (by decide) ?_
        refine va_put (D := D) (ci := 5) (v := .int 0) (ty := .boolean) (C := RX5) (T := TX5) (N := 19) hx hb hts hwX5 tyX5 tyX5_ok nmX5 hown hK hP hD hS 3 rfl rfl 9 (by decide) (hts (.fieldLink RX5 61 "WaitOrWalkOnModel" "well" "Z") (by decide +kernel)) (fun _ h9 => h9) rfl (by decide +kernel) (by decide +kernel) rfl (Nat.le_of_ble_eq_true rfl) dX5_statement_196 (fun H locs hP hD hS => ?_)
        have hP : va_P D vwCl [(fa, .inl (cI, 15, .inl (xFq lt tn (x5p lt tn kf (xPn lt tn bf 6 p9)) (xB4 lt tn kf (xPn lt tn bf 6 p9) ff) 11))), (ba, .inl (cC, 6, .inl bf)), (ka, .inl (cC, 5, .inl kf)), (g0, .inr (5, [.ref ra, .ref wa, .ref ta, .int kpt, .ref ma, .int mkd, .ref pa, .int (nI tn), .int (nI (xQ lt tn (x5p lt tn kf (xPn lt tn bf 6 p9)) 11).1), .int 0, .ref ba, .ref ka, .int (xSs lt tn bf p9), .ref fa, .ref qa, .ref ea, .ref za, .ref ya, .int wks])), (pa, .inl (cI, 96, .inl lt))] H := hP
        have hD : va_D A [(fa, .inl (cI, 15, .inl (xFq lt tn (x5p lt tn kf (xPn lt tn bf 6 p9)) (xB4 lt tn kf (xPn lt tn bf 6 p9) ff) 11))), (ba, .inl (cC, 6, .inl bf)), (ka, .inl (cC, 5, .inl kf)), (g0, .inr (5, [.ref ra, .ref wa, .ref ta, .int kpt, .ref ma, .int mkd, .ref pa, .int (nI tn), .int (nI (xQ lt tn (x5p lt tn kf (xPn lt tn bf 6 p9)) 11).1), .int 0, .ref ba, .ref ka, .int (xSs lt tn bf p9), .ref fa, .ref qa, .ref ea, .ref za, .ref ya, .int wks])), (pa, .inl (cI, 96, .inl lt))] := hD
        have hP9 := hP.sub (ws' := [(g0, .inr (5, [.ref ra, .ref wa, .ref ta, .int kpt, .ref ma, .int mkd, .ref pa, .int (nI tn), .int (nI (xQ lt tn (x5p lt tn kf (xPn lt tn bf 6 p9)) 11).1), .int 0, .ref ba, .ref ka, .int (xSs lt tn bf p9), .ref fa, .ref qa, .ref ea, .ref za, .ref ya, .int wks])), (pa, .inl (cI, 96, .inl lt)), (ba, .inl (cC, 6, .inl bf)), (ka, .inl (cC, 5, .inl kf)), (fa, .inl (cI, 15, .inl (xFq lt tn (x5p lt tn kf (xPn lt tn bf 6 p9)) (xB4 lt tn kf (xPn lt tn bf 6 p9) ff) 11)))]) [3, 4, 1, 2, 0] rfl
        have hD9 := hD.sub (ws' := [(g0, .inr (5, [.ref ra, .ref wa, .ref ta, .int kpt, .ref ma, .int mkd, .ref pa, .int (nI tn), .int (nI (xQ lt tn (x5p lt tn kf (xPn lt tn bf 6 p9)) 11).1), .int 0, .ref ba, .ref ka, .int (xSs lt tn bf p9), .ref fa, .ref qa, .ref ea, .ref za, .ref ya, .int wks])), (pa, .inl (cI, 96, .inl lt)), (ba, .inl (cC, 6, .inl bf)), (ka, .inl (cC, 5, .inl kf)), (fa, .inl (cI, 15, .inl (xFq lt tn (x5p lt tn kf (xPn lt tn bf 6 p9)) (xB4 lt tn kf (xPn lt tn bf 6 p9) ff) 11)))]) [3, 4, 1, 2, 0] (by decide) rfl
        have hE9 : ([(g0, .inr (5, [.ref ra, .ref wa, .ref ta, .int kpt, .ref ma, .int mkd, .ref pa, .int (nI tn), .int (nI (xQ lt tn (x5p lt tn kf (xPn lt tn bf 6 p9)) 11).1), .int 0, .ref ba, .ref ka, .int (xSs lt tn bf p9), .ref fa, .ref qa, .ref ea, .ref za, .ref ya, .int wks])), (pa, .inl (cI, 96, .inl lt)), (ba, .inl (cC, 6, .inl bf)), (ka, .inl (cC, 5, .inl kf)), (fa, .inl (cI, 15, .inl (xFq lt tn (x5p lt tn kf (xPn lt tn bf 6 p9)) (xB4 lt tn kf (xPn lt tn bf 6 p9) ff) 11)))] : va_W) = [(g0, .inr (5, [.ref ra, .ref wa, .ref ta, .int kpt, .ref ma, .int mkd, .ref pa, .int (nI tn), .int (nI (xSp lt tn bf kf p9).1), .int ((xSp lt tn bf kf p9).2), .ref ba, .ref ka, .int (xSs lt tn bf p9), .ref fa, .ref qa, .ref ea, .ref za, .ref ya, .int wks])), (pa, .inl (cI, 96, .inl lt)), (ba, .inl (cC, 6, .inl bf)), (ka, .inl (cC, 5, .inl kf)), (fa, .inl (cI, 15, .inl (xSf lt tn bf kf ff p9)))] := by have e1 : xSp lt tn bf kf p9 = ((xQ lt tn (x5p lt tn kf (xPn lt tn bf 6 p9)) 11).1, 0) := (by rw [xSp, if_pos c_2]; exact xPe_1 c_15); have e2 : xSf lt tn bf kf ff p9 = xFq lt tn (x5p lt tn kf (xPn lt tn bf 6 p9)) (xB4 lt tn kf (xPn lt tn bf 6 p9) ff) 11 := (by rw [xSf, if_pos c_2]); rw [e1, e2]
        exact W.vret hx hb hr (fun t ht hW => ⟨⟨(), rfl, trivial, by rw [ht]; exact hE9 ▸ hP9, hE9 ▸ hD9⟩, hS.F ht⟩) hS.2.2 dX5_statement_199
      · refine lv_aload_n hx hb dX5_statement_156 rfl (lv_at hl 1 rfl) ?_
        refine va_get (D := D) (ci := 5) (v := .int (nI (xQ lt tn (x5p lt tn kf (xPn lt tn bf 6 p9)) 11).1)) (C := RX5) (T := TX5) (N := 19) hx hb hts hwX5 hown hK hP 3 rfl rfl 8 (by decide) (hts (.fieldLink RX5 64 "WaitOrWalkOnModel" "at" "I") (by decide +kernel)) (fun _ h9 => h9) rfl dX5_statement_157 ?_
        refine lv_aload_n hx hb dX5_statement_160 rfl (lv_at hl 1 rfl) ?_
        refine va_get (D := D) (ci := 5) (v := .int (nI tn)) (C := RX5) (T := TX5) (N := 19) hx hb hts hwX5 hown hK hP 3 rfl rfl 7 (by decide) (hts (.fieldLink RX5 57 "WaitOrWalkOnModel" "taped" "I") (by decide +kernel)) (fun _ h9 => h9) rfl dX5_statement_161 ?_
        refine lv_icmp_ge (tgt := 194) hx hb dX5_statement_164 (by decide) (fun c_16 => ?_) (fun c_16 => ?_)
        · refine lv_aload_n hx hb dX5_statement_194 rfl (lv_at hl 1 rfl) ?_
          refine lv_iconst (v := 0) hx hb dX5_statement_195 (by decide) ?_
          refine va_put (D := D) (ci := 5) (v := .int 0) (ty := .boolean) (C := RX5) (T := TX5) (N := 19) hx hb hts hwX5 tyX5 tyX5_ok nmX5 hown hK hP hD hS 3 rfl rfl 9 (by decide) (hts (.fieldLink RX5 61 "WaitOrWalkOnModel" "well" "Z") (by decide +kernel)) (fun _ h9 => h9) rfl (by decide +kernel) (by decide +kernel) rfl (Nat.le_of_ble_eq_true rfl) dX5_statement_196 (fun H locs hP hD hS => ?_)
          have hP : va_P D vwCl [(fa, .inl (cI, 15, .inl (xFq lt tn (x5p lt tn kf (xPn lt tn bf 6 p9)) (xB4 lt tn kf (xPn lt tn bf 6 p9) ff) 11))), (ba, .inl (cC, 6, .inl bf)), (ka, .inl (cC, 5, .inl kf)), (g0, .inr (5, [.ref ra, .ref wa, .ref ta, .int kpt, .ref ma, .int mkd, .ref pa, .int (nI tn), .int (nI (xQ lt tn (x5p lt tn kf (xPn lt tn bf 6 p9)) 11).1), .int 0, .ref ba, .ref ka, .int (xSs lt tn bf p9), .ref fa, .ref qa, .ref ea, .ref za, .ref ya, .int wks])), (pa, .inl (cI, 96, .inl lt))] H := hP
          have hD : va_D A [(fa, .inl (cI, 15, .inl (xFq lt tn (x5p lt tn kf (xPn lt tn bf 6 p9)) (xB4 lt tn kf (xPn lt tn bf 6 p9) ff) 11))), (ba, .inl (cC, 6, .inl bf)), (ka, .inl (cC, 5, .inl kf)), (g0, .inr (5, [.ref ra, .ref wa, .ref ta, .int kpt, .ref ma, .int mkd, .ref pa, .int (nI tn), .int (nI (xQ lt tn (x5p lt tn kf (xPn lt tn bf 6 p9)) 11).1), .int 0, .ref ba, .ref ka, .int (xSs lt tn bf p9), .ref fa, .ref qa, .ref ea, .ref za, .ref ya, .int wks])), (pa, .inl (cI, 96, .inl lt))] := hD
          have hP9 := hP.sub (ws' := [(g0, .inr (5, [.ref ra, .ref wa, .ref ta, .int kpt, .ref ma, .int mkd, .ref pa, .int (nI tn), .int (nI (xQ lt tn (x5p lt tn kf (xPn lt tn bf 6 p9)) 11).1), .int 0, .ref ba, .ref ka, .int (xSs lt tn bf p9), .ref fa, .ref qa, .ref ea, .ref za, .ref ya, .int wks])), (pa, .inl (cI, 96, .inl lt)), (ba, .inl (cC, 6, .inl bf)), (ka, .inl (cC, 5, .inl kf)), (fa, .inl (cI, 15, .inl (xFq lt tn (x5p lt tn kf (xPn lt tn bf 6 p9)) (xB4 lt tn kf (xPn lt tn bf 6 p9) ff) 11)))]) [3, 4, 1, 2, 0] rfl
          have hD9 := hD.sub (ws' := [(g0, .inr (5, [.ref ra, .ref wa, .ref ta, .int kpt, .ref ma, .int mkd, .ref pa, .int (nI tn), .int (nI (xQ lt tn (x5p lt tn kf (xPn lt tn bf 6 p9)) 11).1), .int 0, .ref ba, .ref ka, .int (xSs lt tn bf p9), .ref fa, .ref qa, .ref ea, .ref za, .ref ya, .int wks])), (pa, .inl (cI, 96, .inl lt)), (ba, .inl (cC, 6, .inl bf)), (ka, .inl (cC, 5, .inl kf)), (fa, .inl (cI, 15, .inl (xFq lt tn (x5p lt tn kf (xPn lt tn bf 6 p9)) (xB4 lt tn kf (xPn lt tn bf 6 p9) ff) 11)))]) [3, 4, 1, 2, 0] (by decide) rfl
          have hE9 : ([(g0, .inr (5, [.ref ra, .ref wa, .ref ta, .int kpt, .ref ma, .int mkd, .ref pa, .int (nI tn), .int (nI (xQ lt tn (x5p lt tn kf (xPn lt tn bf 6 p9)) 11).1), .int 0, .ref ba, .ref ka, .int (xSs lt tn bf p9), .ref fa, .ref qa, .ref ea, .ref za, .ref ya, .int wks])), (pa, .inl (cI, 96, .inl lt)), (ba, .inl (cC, 6, .inl bf)), (ka, .inl (cC, 5, .inl kf)), (fa, .inl (cI, 15, .inl (xFq lt tn (x5p lt tn kf (xPn lt tn bf 6 p9)) (xB4 lt tn kf (xPn lt tn bf 6 p9) ff) 11)))] : va_W) = [(g0, .inr (5, [.ref ra, .ref wa, .ref ta, .int kpt, .ref ma, .int mkd, .ref pa, .int (nI tn), .int (nI (xSp lt tn bf kf p9).1), .int ((xSp lt tn bf kf p9).2), .ref ba, .ref ka, .int (xSs lt tn bf p9), .ref fa, .ref qa, .ref ea, .ref za, .ref ya, .int wks])), (pa, .inl (cI, 96, .inl lt)), (ba, .inl (cC, 6, .inl bf)), (ka, .inl (cC, 5, .inl kf)), (fa, .inl (cI, 15, .inl (xSf lt tn bf kf ff p9)))] := by have e1 : xSp lt tn bf kf p9 = ((xQ lt tn (x5p lt tn kf (xPn lt tn bf 6 p9)) 11).1, 0) := (by rw [xSp, if_pos c_2]; exact xPe_2 c_15 (mt (nI_ltI (a := (xQ lt tn (x5p lt tn kf (xPn lt tn bf 6 p9)) 11).1) (b := tn) (by omega) (by omega)).mpr (Int32.not_lt.mpr c_16))); have e2 : xSf lt tn bf kf ff p9 = xFq lt tn (x5p lt tn kf (xPn lt tn bf 6 p9)) (xB4 lt tn kf (xPn lt tn bf 6 p9) ff) 11 := (by rw [xSf, if_pos c_2]); rw [e1, e2]
          exact W.vret hx hb hr (fun t ht hW => ⟨⟨(), rfl, trivial, by rw [ht]; exact hE9 ▸ hP9, hE9 ▸ hD9⟩, hS.F ht⟩) hS.2.2 dX5_statement_199
        · refine lv_aload_n hx hb dX5_statement_167 rfl (lv_at hl 1 rfl) ?_
          refine va_get (D := D) (ci := 5) (v := .ref pa) (C := RX5) (T := TX5) (N := 19) hx hb hts hwX5 hown hK hP 3 rfl rfl 6 (by decide) (hts (.fieldLink RX5 28 "WaitOrWalkOnModel" "tape" "[I") (by decide +kernel)) (fun _ h9 => h9) rfl dX5_statement_168 ?_
          refine lv_aload_n hx hb dX5_statement_171 rfl (lv_at hl 1 rfl) ?_
          refine va_get (D := D) (ci := 5) (v := .int (nI (xQ lt tn (x5p lt tn kf (xPn lt tn bf 6 p9)) 11).1)) (C := RX5) (T := TX5) (N := 19) hx hb hts hwX5 hown hK hP 3 rfl rfl 8 (by decide) (hts (.fieldLink RX5 64 "WaitOrWalkOnModel" "at" "I") (by decide +kernel)) (fun _ h9 => h9) rfl dX5_statement_172 ?_
          refine va_iald (D := D) hx hb hK hP 4 0 rfl rfl (vp_in_nI (by have w := (nI_ltI (a := (xQ lt tn (x5p lt tn kf (xPn lt tn bf 6 p9)) 11).1) (b := tn) (by omega) (by omega)).mp (Int32.not_le.mp c_16); omega) (by decide)) dX5_statement_175 ?_
          refine xv_int (y := lt (xQ lt tn (x5p lt tn kf (xPn lt tn bf 6 p9)) 11).1) (congrArg lt (nI_clamp (by omega))) ?_
          refine lv_bipush (v := 59) hx hb dX5_statement_176 (by decide) ?_
          refine lv_icmp_ne (tgt := 194) hx hb dX5_statement_178 (by decide) (fun c_17 => ?_) (fun c_17 => ?_)
          · refine lv_aload_n hx hb dX5_statement_194 rfl (lv_at hl 1 rfl) ?_
            refine lv_iconst (v := 0) hx hb dX5_statement_195 (by decide) ?_
            refine va_put (D := D) (ci := 5) (v := .int 0) (ty := .boolean) (C := RX5) (T := TX5) (N := 19) hx hb hts hwX5 tyX5 tyX5_ok nmX5 hown hK hP hD hS 3 rfl rfl 9 (by decide) (hts (.fieldLink RX5 61 "WaitOrWalkOnModel" "well" "Z") (by decide +kernel)) (fun _ h9 => h9) rfl (by decide +kernel) (by decide +kernel) rfl (Nat.le_of_ble_eq_true rfl) dX5_statement_196 (fun H locs hP hD hS => ?_)
            have hP : va_P D vwCl [(fa, .inl (cI, 15, .inl (xFq lt tn (x5p lt tn kf (xPn lt tn bf 6 p9)) (xB4 lt tn kf (xPn lt tn bf 6 p9) ff) 11))), (ba, .inl (cC, 6, .inl bf)), (ka, .inl (cC, 5, .inl kf)), (g0, .inr (5, [.ref ra, .ref wa, .ref ta, .int kpt, .ref ma, .int mkd, .ref pa, .int (nI tn), .int (nI (xQ lt tn (x5p lt tn kf (xPn lt tn bf 6 p9)) 11).1), .int 0, .ref ba, .ref ka, .int (xSs lt tn bf p9), .ref fa, .ref qa, .ref ea, .ref za, .ref ya, .int wks])), (pa, .inl (cI, 96, .inl lt))] H := hP
            have hD : va_D A [(fa, .inl (cI, 15, .inl (xFq lt tn (x5p lt tn kf (xPn lt tn bf 6 p9)) (xB4 lt tn kf (xPn lt tn bf 6 p9) ff) 11))), (ba, .inl (cC, 6, .inl bf)), (ka, .inl (cC, 5, .inl kf)), (g0, .inr (5, [.ref ra, .ref wa, .ref ta, .int kpt, .ref ma, .int mkd, .ref pa, .int (nI tn), .int (nI (xQ lt tn (x5p lt tn kf (xPn lt tn bf 6 p9)) 11).1), .int 0, .ref ba, .ref ka, .int (xSs lt tn bf p9), .ref fa, .ref qa, .ref ea, .ref za, .ref ya, .int wks])), (pa, .inl (cI, 96, .inl lt))] := hD
            have hP9 := hP.sub (ws' := [(g0, .inr (5, [.ref ra, .ref wa, .ref ta, .int kpt, .ref ma, .int mkd, .ref pa, .int (nI tn), .int (nI (xQ lt tn (x5p lt tn kf (xPn lt tn bf 6 p9)) 11).1), .int 0, .ref ba, .ref ka, .int (xSs lt tn bf p9), .ref fa, .ref qa, .ref ea, .ref za, .ref ya, .int wks])), (pa, .inl (cI, 96, .inl lt)), (ba, .inl (cC, 6, .inl bf)), (ka, .inl (cC, 5, .inl kf)), (fa, .inl (cI, 15, .inl (xFq lt tn (x5p lt tn kf (xPn lt tn bf 6 p9)) (xB4 lt tn kf (xPn lt tn bf 6 p9) ff) 11)))]) [3, 4, 1, 2, 0] rfl
            have hD9 := hD.sub (ws' := [(g0, .inr (5, [.ref ra, .ref wa, .ref ta, .int kpt, .ref ma, .int mkd, .ref pa, .int (nI tn), .int (nI (xQ lt tn (x5p lt tn kf (xPn lt tn bf 6 p9)) 11).1), .int 0, .ref ba, .ref ka, .int (xSs lt tn bf p9), .ref fa, .ref qa, .ref ea, .ref za, .ref ya, .int wks])), (pa, .inl (cI, 96, .inl lt)), (ba, .inl (cC, 6, .inl bf)), (ka, .inl (cC, 5, .inl kf)), (fa, .inl (cI, 15, .inl (xFq lt tn (x5p lt tn kf (xPn lt tn bf 6 p9)) (xB4 lt tn kf (xPn lt tn bf 6 p9) ff) 11)))]) [3, 4, 1, 2, 0] (by decide) rfl
            have hE9 : ([(g0, .inr (5, [.ref ra, .ref wa, .ref ta, .int kpt, .ref ma, .int mkd, .ref pa, .int (nI tn), .int (nI (xQ lt tn (x5p lt tn kf (xPn lt tn bf 6 p9)) 11).1), .int 0, .ref ba, .ref ka, .int (xSs lt tn bf p9), .ref fa, .ref qa, .ref ea, .ref za, .ref ya, .int wks])), (pa, .inl (cI, 96, .inl lt)), (ba, .inl (cC, 6, .inl bf)), (ka, .inl (cC, 5, .inl kf)), (fa, .inl (cI, 15, .inl (xFq lt tn (x5p lt tn kf (xPn lt tn bf 6 p9)) (xB4 lt tn kf (xPn lt tn bf 6 p9) ff) 11)))] : va_W) = [(g0, .inr (5, [.ref ra, .ref wa, .ref ta, .int kpt, .ref ma, .int mkd, .ref pa, .int (nI tn), .int (nI (xSp lt tn bf kf p9).1), .int ((xSp lt tn bf kf p9).2), .ref ba, .ref ka, .int (xSs lt tn bf p9), .ref fa, .ref qa, .ref ea, .ref za, .ref ya, .int wks])), (pa, .inl (cI, 96, .inl lt)), (ba, .inl (cC, 6, .inl bf)), (ka, .inl (cC, 5, .inl kf)), (fa, .inl (cI, 15, .inl (xSf lt tn bf kf ff p9)))] := by have e1 : xSp lt tn bf kf p9 = ((xQ lt tn (x5p lt tn kf (xPn lt tn bf 6 p9)) 11).1, 0) := (by rw [xSp, if_pos c_2]; exact xPe_3 c_15 ((nI_ltI (a := (xQ lt tn (x5p lt tn kf (xPn lt tn bf 6 p9)) 11).1) (b := tn) (by omega) (by omega)).mp (Int32.not_le.mp c_16)) c_17); have e2 : xSf lt tn bf kf ff p9 = xFq lt tn (x5p lt tn kf (xPn lt tn bf 6 p9)) (xB4 lt tn kf (xPn lt tn bf 6 p9) ff) 11 := (by rw [xSf, if_pos c_2]); rw [e1, e2]
            exact W.vret hx hb hr (fun t ht hW => ⟨⟨(), rfl, trivial, by rw [ht]; exact hE9 ▸ hP9, hE9 ▸ hD9⟩, hS.F ht⟩) hS.2.2 dX5_statement_199
          · refine lv_aload_n hx hb dX5_statement_181 rfl (lv_at hl 1 rfl) ?_
            refine lv_dup hx hb dX5_statement_182 rfl ?_
            refine va_get (D := D) (ci := 5) (v := .int (nI (xQ lt tn (x5p lt tn kf (xPn lt tn bf 6 p9)) 11).1)) (C := RX5) (T := TX5) (N := 19) hx hb hts hwX5 hown hK hP 3 rfl rfl 8 (by decide) (hts (.fieldLink RX5 64 "WaitOrWalkOnModel" "at" "I") (by decide +kernel)) (fun _ h9 => h9) rfl dX5_statement_183 ?_
            refine lv_iconst (v := 1) hx hb dX5_statement_186 (by decide) ?_
            refine lv_iadd hx hb dX5_statement_187 ?_
            refine xv_int (y := nI ((xQ lt tn (x5p lt tn kf (xPn lt tn bf 6 p9)) 11).1 + 1)) (nI_1 _) ?_
            refine va_put (D := D) (ci := 5) (v := .int (nI ((xQ lt tn (x5p lt tn kf (xPn lt tn bf 6 p9)) 11).1 + 1))) (ty := .int) (C := RX5) (T := TX5) (N := 19) hx hb hts hwX5 tyX5 tyX5_ok nmX5 hown hK hP hD hS 3 rfl rfl 8 (by decide) (hts (.fieldLink RX5 64 "WaitOrWalkOnModel" "at" "I") (by decide +kernel)) (fun _ h9 => h9) rfl (by decide +kernel) rfl rfl (Nat.le_of_ble_eq_true rfl) dX5_statement_188 (fun H locs hP hD hS => ?_)
            have hP : va_P D vwCl [(fa, .inl (cI, 15, .inl (xFq lt tn (x5p lt tn kf (xPn lt tn bf 6 p9)) (xB4 lt tn kf (xPn lt tn bf 6 p9) ff) 11))), (ba, .inl (cC, 6, .inl bf)), (ka, .inl (cC, 5, .inl kf)), (g0, .inr (5, [.ref ra, .ref wa, .ref ta, .int kpt, .ref ma, .int mkd, .ref pa, .int (nI tn), .int (nI ((xQ lt tn (x5p lt tn kf (xPn lt tn bf 6 p9)) 11).1 + 1)), .int ((xQ lt tn (x5p lt tn kf (xPn lt tn bf 6 p9)) 11).2), .ref ba, .ref ka, .int (xSs lt tn bf p9), .ref fa, .ref qa, .ref ea, .ref za, .ref ya, .int wks])), (pa, .inl (cI, 96, .inl lt))] H := hP
            have hD : va_D A [(fa, .inl (cI, 15, .inl (xFq lt tn (x5p lt tn kf (xPn lt tn bf 6 p9)) (xB4 lt tn kf (xPn lt tn bf 6 p9) ff) 11))), (ba, .inl (cC, 6, .inl bf)), (ka, .inl (cC, 5, .inl kf)), (g0, .inr (5, [.ref ra, .ref wa, .ref ta, .int kpt, .ref ma, .int mkd, .ref pa, .int (nI tn), .int (nI ((xQ lt tn (x5p lt tn kf (xPn lt tn bf 6 p9)) 11).1 + 1)), .int ((xQ lt tn (x5p lt tn kf (xPn lt tn bf 6 p9)) 11).2), .ref ba, .ref ka, .int (xSs lt tn bf p9), .ref fa, .ref qa, .ref ea, .ref za, .ref ya, .int wks])), (pa, .inl (cI, 96, .inl lt))] := hD
            refine lv_goto (tgt := 199) hx hb dX5_statement_191 (by decide) ?_
            have hP9 := hP.sub (ws' := [(g0, .inr (5, [.ref ra, .ref wa, .ref ta, .int kpt, .ref ma, .int mkd, .ref pa, .int (nI tn), .int (nI ((xQ lt tn (x5p lt tn kf (xPn lt tn bf 6 p9)) 11).1 + 1)), .int ((xQ lt tn (x5p lt tn kf (xPn lt tn bf 6 p9)) 11).2), .ref ba, .ref ka, .int (xSs lt tn bf p9), .ref fa, .ref qa, .ref ea, .ref za, .ref ya, .int wks])), (pa, .inl (cI, 96, .inl lt)), (ba, .inl (cC, 6, .inl bf)), (ka, .inl (cC, 5, .inl kf)), (fa, .inl (cI, 15, .inl (xFq lt tn (x5p lt tn kf (xPn lt tn bf 6 p9)) (xB4 lt tn kf (xPn lt tn bf 6 p9) ff) 11)))]) [3, 4, 1, 2, 0] rfl
            have hD9 := hD.sub (ws' := [(g0, .inr (5, [.ref ra, .ref wa, .ref ta, .int kpt, .ref ma, .int mkd, .ref pa, .int (nI tn), .int (nI ((xQ lt tn (x5p lt tn kf (xPn lt tn bf 6 p9)) 11).1 + 1)), .int ((xQ lt tn (x5p lt tn kf (xPn lt tn bf 6 p9)) 11).2), .ref ba, .ref ka, .int (xSs lt tn bf p9), .ref fa, .ref qa, .ref ea, .ref za, .ref ya, .int wks])), (pa, .inl (cI, 96, .inl lt)), (ba, .inl (cC, 6, .inl bf)), (ka, .inl (cC, 5, .inl kf)), (fa, .inl (cI, 15, .inl (xFq lt tn (x5p lt tn kf (xPn lt tn bf 6 p9)) (xB4 lt tn kf (xPn lt tn bf 6 p9) ff) 11)))]) [3, 4, 1, 2, 0] (by decide) rfl
            have hE9 : ([(g0, .inr (5, [.ref ra, .ref wa, .ref ta, .int kpt, .ref ma, .int mkd, .ref pa, .int (nI tn), .int (nI ((xQ lt tn (x5p lt tn kf (xPn lt tn bf 6 p9)) 11).1 + 1)), .int ((xQ lt tn (x5p lt tn kf (xPn lt tn bf 6 p9)) 11).2), .ref ba, .ref ka, .int (xSs lt tn bf p9), .ref fa, .ref qa, .ref ea, .ref za, .ref ya, .int wks])), (pa, .inl (cI, 96, .inl lt)), (ba, .inl (cC, 6, .inl bf)), (ka, .inl (cC, 5, .inl kf)), (fa, .inl (cI, 15, .inl (xFq lt tn (x5p lt tn kf (xPn lt tn bf 6 p9)) (xB4 lt tn kf (xPn lt tn bf 6 p9) ff) 11)))] : va_W) = [(g0, .inr (5, [.ref ra, .ref wa, .ref ta, .int kpt, .ref ma, .int mkd, .ref pa, .int (nI tn), .int (nI (xSp lt tn bf kf p9).1), .int ((xSp lt tn bf kf p9).2), .ref ba, .ref ka, .int (xSs lt tn bf p9), .ref fa, .ref qa, .ref ea, .ref za, .ref ya, .int wks])), (pa, .inl (cI, 96, .inl lt)), (ba, .inl (cC, 6, .inl bf)), (ka, .inl (cC, 5, .inl kf)), (fa, .inl (cI, 15, .inl (xSf lt tn bf kf ff p9)))] := by have e1 : xSp lt tn bf kf p9 = ((xQ lt tn (x5p lt tn kf (xPn lt tn bf 6 p9)) 11).1 + 1, (xQ lt tn (x5p lt tn kf (xPn lt tn bf 6 p9)) 11).2) := (by rw [xSp, if_pos c_2]; exact xPe_4 c_15 ((nI_ltI (a := (xQ lt tn (x5p lt tn kf (xPn lt tn bf 6 p9)) 11).1) (b := tn) (by omega) (by omega)).mp (Int32.not_le.mp c_16)) c_17); have e2 : xSf lt tn bf kf ff p9 = xFq lt tn (x5p lt tn kf (xPn lt tn bf 6 p9)) (xB4 lt tn kf (xPn lt tn bf 6 p9) ff) 11 := (by rw [xSf, if_pos c_2]); rw [e1, e2]
            exact W.vret hx hb hr (fun t ht hW => ⟨⟨(), rfl, trivial, by rw [ht]; exact hE9 ▸ hP9, hE9 ▸ hD9⟩, hS.F ht⟩) hS.2.2 dX5_statement_199
    · refine lv_aload_n hx hb dX5_statement_78 rfl (lv_at hl 1 rfl) ?_
      refine va_get (D := D) (ci := 5) (v := .ref fa) (C := RX5) (T := TX5) (N := 19) hx hb hts hwX5 hown hK hP 3 rfl rfl 13 (by decide) (hts (.fieldLink RX5 38 "WaitOrWalkOnModel" "field" "[I") (by decide +kernel)) (fun _ h9 => h9) rfl dX5_statement_79 ?_
      refine lv_iconst (v := 3) hx hb dX5_statement_82 (by decide) ?_
      refine lv_iload_n hx hb dX5_statement_83 rfl (lv_at hl 0 rfl) ?_
      refine lv_iadd hx hb dX5_statement_84 ?_
      refine xv_int (y := nI (3 + (k + 1))) (nI_add 3 _) ?_
      refine lv_aload_n hx hb dX5_statement_85 rfl (lv_at hl 1 rfl) ?_
      refine lv_iconst (v := 0) hx hb dX5_statement_86 (by decide) ?_
      refine lv_iconst (v := 1) hx hb dX5_statement_87 (by decide) ?_
      have hPc := hP.sub (ws' := [(g0, .inr (5, [.ref ra, .ref wa, .ref ta, .int kpt, .ref ma, .int mkd, .ref pa, .int (nI tn), .int (nI (xQ lt tn (x5p lt tn kf (xPn lt tn bf 6 p9)) k).1), .int ((xQ lt tn (x5p lt tn kf (xPn lt tn bf 6 p9)) k).2), .ref ba, .ref ka, .int (xSs lt tn bf p9), .ref fa, .ref qa, .ref ea, .ref za, .ref ya, .int wks])), (pa, .inl (cI, 96, .inl lt))]) [3, 4] rfl
      have hDc := hD.sub (ws' := [(g0, .inr (5, [.ref ra, .ref wa, .ref ta, .int kpt, .ref ma, .int mkd, .ref pa, .int (nI tn), .int (nI (xQ lt tn (x5p lt tn kf (xPn lt tn bf 6 p9)) k).1), .int ((xQ lt tn (x5p lt tn kf (xPn lt tn bf 6 p9)) k).2), .ref ba, .ref ka, .int (xSs lt tn bf p9), .ref fa, .ref qa, .ref ea, .ref za, .ref ya, .int wks])), (pa, .inl (cI, 96, .inl lt))]) [3, 4] (by decide) rfl
      have hFc := va_free (wc := [(g0, .inr (5, [.ref ra, .ref wa, .ref ta, .int kpt, .ref ma, .int mkd, .ref pa, .int (nI tn), .int (nI (xQ lt tn (x5p lt tn kf (xPn lt tn bf 6 p9)) k).1), .int ((xQ lt tn (x5p lt tn kf (xPn lt tn bf 6 p9)) k).2), .ref ba, .ref ka, .int (xSs lt tn bf p9), .ref fa, .ref qa, .ref ea, .ref za, .ref ya, .int wks])), (pa, .inl (cI, 96, .inl lt))]) hD hS hA [3, 4] rfl
      refine va_calli (va_runV (As := [.int 0, .int 1]) (rest := [.int (nI (3 + (k + 1))), .ref fa]) ⟨hx, hb, hml, hown, hts⟩ (g_X5_figures l D cI cL cZ cC _ g0 ra wa ta ma pa ba ka fa qa ea za ya kpt mkd (xSs lt tn bf p9) wks tn (xQ lt tn (x5p lt tn kf (xPn lt tn bf 6 p9)) k) 1 0 lt (htn) (xQ_le (xPf_le (xPf_le (xPf_le (xPn_le (xPn_le hp9))))) k) (by decide)) (cwV 2 hts gX5_statement_X5_figures rfl rfl rfl (by decide +kernel) ⟨Nat.le_of_ble_eq_true rfl, Nat.le_of_ble_eq_true rfl⟩) ⟨wPc_bl, va_recv hK hPc (ci := 5) (q0 := 0) rfl rfl, wPc_use hPc hK hDc⟩ rfl rfl hl.1 rfl (lv_room (Nat.le_of_ble_eq_true rfl)) dX5_statement_88 ⟨Nat.le_of_ble_eq_true rfl, Nat.le_of_ble_eq_true rfl⟩) hS (fun q _ h => hFc q h) hFc (fun r_18 u_18 t H1 locs ht hvm hw hB hz1 hk1 hS => ?_)
      obtain ⟨hP1, hD1⟩ := hB
      rw [ht] at hP1
      obtain ⟨hP, hD⟩ := va_join (wr := [(fa, .inl (cI, 15, .inl g)), (ba, .inl (cC, 6, .inl bf)), (ka, .inl (cC, 5, .inl kf))]) (w1 := [(g0, .inr (5, [.ref ra, .ref wa, .ref ta, .int kpt, .ref ma, .int mkd, .ref pa, .int (nI tn), .int (nI (xPf lt tn 0 1 (xQ lt tn (x5p lt tn kf (xPn lt tn bf 6 p9)) k)).1), .int ((xPf lt tn 0 1 (xQ lt tn (x5p lt tn kf (xPn lt tn bf 6 p9)) k)).2), .ref ba, .ref ka, .int (xSs lt tn bf p9), .ref fa, .ref qa, .ref ea, .ref za, .ref ya, .int wks])), (pa, .inl (cI, 96, .inl lt))]) hP hD [3, 4] [0, 1, 2] rfl rfl (by decide) (by decide) hk1 hFc hP1 hD1
      generalize H1 = H at hP hS ⊢
      have hP : va_P D vwCl [(fa, .inl (cI, 15, .inl g)), (ba, .inl (cC, 6, .inl bf)), (ka, .inl (cC, 5, .inl kf)), (g0, .inr (5, [.ref ra, .ref wa, .ref ta, .int kpt, .ref ma, .int mkd, .ref pa, .int (nI tn), .int (nI (xPf lt tn 0 1 (xQ lt tn (x5p lt tn kf (xPn lt tn bf 6 p9)) k)).1), .int ((xPf lt tn 0 1 (xQ lt tn (x5p lt tn kf (xPn lt tn bf 6 p9)) k)).2), .ref ba, .ref ka, .int (xSs lt tn bf p9), .ref fa, .ref qa, .ref ea, .ref za, .ref ya, .int wks])), (pa, .inl (cI, 96, .inl lt))] H := hP
      have hD : va_D A [(fa, .inl (cI, 15, .inl g)), (ba, .inl (cC, 6, .inl bf)), (ka, .inl (cC, 5, .inl kf)), (g0, .inr (5, [.ref ra, .ref wa, .ref ta, .int kpt, .ref ma, .int mkd, .ref pa, .int (nI tn), .int (nI (xPf lt tn 0 1 (xQ lt tn (x5p lt tn kf (xPn lt tn bf 6 p9)) k)).1), .int ((xPf lt tn 0 1 (xQ lt tn (x5p lt tn kf (xPn lt tn bf 6 p9)) k)).2), .ref ba, .ref ka, .int (xSs lt tn bf p9), .ref fa, .ref qa, .ref ea, .ref za, .ref ya, .int wks])), (pa, .inl (cI, 96, .inl lt))] := hD
      obtain rfl : (xPw lt tn 1 (xQ lt tn (x5p lt tn kf (xPn lt tn bf 6 p9)) k) : Int32) = r_18 := Eq.symm hw
      refine va_iast (D := D) hx hb hK hP hD hS 0 0 rfl rfl (vp_in_nI (by have w := (nI_ltI (a := k + 1) (b := 12) (by omega) (by omega)).mp (Int32.not_le.mp c_14); omega) (by decide)) dX5_statement_91 (fun H locs hP hD hS => ?_)
      rw [nI_clamp (by omega)] at hP hD
      have hP : va_P D vwCl [(fa, .inl (cI, 15, .inl (upd g (3 + (k + 1)) (xPw lt tn 1 (xQ lt tn (x5p lt tn kf (xPn lt tn bf 6 p9)) k))))), (ba, .inl (cC, 6, .inl bf)), (ka, .inl (cC, 5, .inl kf)), (g0, .inr (5, [.ref ra, .ref wa, .ref ta, .int kpt, .ref ma, .int mkd, .ref pa, .int (nI tn), .int (nI (xPf lt tn 0 1 (xQ lt tn (x5p lt tn kf (xPn lt tn bf 6 p9)) k)).1), .int ((xPf lt tn 0 1 (xQ lt tn (x5p lt tn kf (xPn lt tn bf 6 p9)) k)).2), .ref ba, .ref ka, .int (xSs lt tn bf p9), .ref fa, .ref qa, .ref ea, .ref za, .ref ya, .int wks])), (pa, .inl (cI, 96, .inl lt))] H := hP
      have hD : va_D A [(fa, .inl (cI, 15, .inl (upd g (3 + (k + 1)) (xPw lt tn 1 (xQ lt tn (x5p lt tn kf (xPn lt tn bf 6 p9)) k))))), (ba, .inl (cC, 6, .inl bf)), (ka, .inl (cC, 5, .inl kf)), (g0, .inr (5, [.ref ra, .ref wa, .ref ta, .int kpt, .ref ma, .int mkd, .ref pa, .int (nI tn), .int (nI (xPf lt tn 0 1 (xQ lt tn (x5p lt tn kf (xPn lt tn bf 6 p9)) k)).1), .int ((xPf lt tn 0 1 (xQ lt tn (x5p lt tn kf (xPn lt tn bf 6 p9)) k)).2), .ref ba, .ref ka, .int (xSs lt tn bf p9), .ref fa, .ref qa, .ref ea, .ref za, .ref ya, .int wks])), (pa, .inl (cI, 96, .inl lt))] := hD
      refine lv_iinc (v := nI (k + 1 + 1)) (lv' := [(1, .int (nI (k + 1 + 1))), (0, .ref g0)]) hx hb dX5_statement_92 hl (k := 0) rfl (nI_1 (k + 1)) (by decide) rfl (fun ls hl => ?_)
      refine lv_goto (tgt := 72) hx hb dX5_statement_95 (by decide) ?_
      have w := (nI_ltI (a := k + 1) (b := 12) (by omega) (by omega)).mp (Int32.not_le.mp c_14)
      exact ih_72 (k + 1, upd g (3 + (k + 1)) (xPw lt tn 1 (xQ lt tn (x5p lt tn kf (xPn lt tn bf 6 p9)) k))) _ _ _ ⟨lv_sub hl [0, 1] rfl, hP.sub [0, 1, 2, 3, 4] rfl, hD.sub [0, 1, 2, 3, 4] (by decide) rfl, hS, by (try dsimp only); exact ⟨by omega, by omega, by rw [h3]; rfl⟩⟩

set_option maxHeartbeats 4000000 in
set_option maxRecDepth 100000 in
theorem g_X5_isAsItMustBe (l : Launch) (D : va_G) (cI cL cZ cC : ClassId) (g0 : Nat) (ra : Nat) (wa : Nat) (ta : Nat) (ma : Nat) (pa : Nat) (ba : Nat) (ka : Nat) (fa : Nat) (qa : Nat) (ea : Nat) (za : Nat) (ya : Nat) (kpt : Int32) (mkd : Int32) (tpd : Int32) (at0 : Int32) (wel : Int32) (srt : Int32) (wks : Int32) (ff : Nat → Int32) (s1 : Int32) (l1 : Int32)  : Met l yX5_isAsItMustBe wsX5_isAsItMustBe ({ frames := 0, cells := 0, slots := 0, locals := 0 } : Room) (xPc D [.ref g0, .int s1, .int l1] [(g0, .inr (5, [.ref ra, .ref wa, .ref ta, .int kpt, .ref ma, .int mkd, .ref pa, .int tpd, .int at0, .int wel, .ref ba, .ref ka, .int srt, .ref fa, .ref qa, .ref ea, .ref za, .ref ya, .int wks])), (fa, .inl (cI, 15, .inl ff))] (xTy cI cL cZ cC)) (vp_Si (fun r : Int32 => r = xMb srt ff s1 l1)) 0 0 (fun _ => False) := by
  refine Met.ofW (cc := cX5_isAsItMustBe) (maxL := 5) (ret := (some .boolean)) (by decide) rfl ?_
  intro p e s m args below meth c s₁ B hml hv
  obtain ⟨rfl, hP, hK⟩ := hv
  have hx := B.exec
  have hb := B.bytes
  have hr := B.returns
  have hts := atoms_spec (ws := wsX5_isAsItMustBe) B.pre
  have hown : s.vm.findClass RX5 = some m.cls := findClass_of_methodNamed B.named
  have hlocks := B.notSynchronized
  have hwX5 : ∀ w ∈ u_ws RX5 TX5 19, w ∈ wsX5_isAsItMustBe := fun _ h => List.mem_cons_of_mem _ (List.mem_append_right _ h)
  have hl := lv_entry ([.ref g0, .int s1, .int l1]) (n := 5) (Nat.le_of_ble_eq_true rfl)
  rw [lg_entry_eq]
  generalize (lg_sl ([.ref g0, .int s1, .int l1]) ++ List.replicate (5 - (lg_sl ([.ref g0, .int s1, .int l1])).length) Slot.unset).toArray = ls at hl ⊢
  have hl : lv_has ls 5 [(0, .ref g0), (1, .int s1), (2, .int l1)] := hl
  refine lv_aload_n hx hb dX5_isAsItMustBe_0 rfl (lv_at hl 0 rfl) ?_
  refine va_get (D := D) (ci := 5) (v := .int srt) (C := RX5) (T := TX5) (N := 19) hx hb hts hwX5 hown hK hP 0 rfl rfl 12 (by decide) (hts (.fieldLink RX5 75 "WaitOrWalkOnModel" "sort" "I") (by decide +kernel)) (fun _ h9 => h9) rfl dX5_isAsItMustBe_1 ?_
  refine lv_iconst (v := 3) hx hb dX5_isAsItMustBe_4 (by decide) ?_
  refine lv_icmp_ne (tgt := 60) hx hb dX5_isAsItMustBe_5 (by decide) (fun c_1 => ?_) (fun c_1 => ?_)
  · refine lv_aload_n hx hb dX5_isAsItMustBe_60 rfl (lv_at hl 0 rfl) ?_
    refine va_get (D := D) (ci := 5) (v := .int srt) (C := RX5) (T := TX5) (N := 19) hx hb hts hwX5 hown hK hP 0 rfl rfl 12 (by decide) (hts (.fieldLink RX5 75 "WaitOrWalkOnModel" "sort" "I") (by decide +kernel)) (fun _ h9 => h9) rfl dX5_isAsItMustBe_61 ?_
    refine lv_if_ne (tgt := 90) hx hb dX5_isAsItMustBe_64 (by decide) (fun c_2 => ?_) (fun c_2 => ?_)
    · refine lv_aload_n hx hb dX5_isAsItMustBe_90 rfl (lv_at hl 0 rfl) ?_
      refine va_get (D := D) (ci := 5) (v := .int srt) (C := RX5) (T := TX5) (N := 19) hx hb hts hwX5 hown hK hP 0 rfl rfl 12 (by decide) (hts (.fieldLink RX5 75 "WaitOrWalkOnModel" "sort" "I") (by decide +kernel)) (fun _ h9 => h9) rfl dX5_isAsItMustBe_91 ?_
      refine lv_iconst (v := 2) hx hb dX5_isAsItMustBe_94 (by decide) ?_
      refine lv_icmp_ne (tgt := 129) hx hb dX5_isAsItMustBe_95 (by decide) (fun c_3 => ?_) (fun c_3 => ?_)
      · refine lv_aload_n hx hb dX5_isAsItMustBe_129 rfl (lv_at hl 0 rfl) ?_
        refine va_get (D := D) (ci := 5) (v := .int srt) (C := RX5) (T := TX5) (N := 19) hx hb hts hwX5 hown hK hP 0 rfl rfl 12 (by decide) (hts (.fieldLink RX5 75 "WaitOrWalkOnModel" "sort" "I") (by decide +kernel)) (fun _ h9 => h9) rfl dX5_isAsItMustBe_130 ?_
        refine lv_iconst (v := 5) hx hb dX5_isAsItMustBe_133 (by decide) ?_
        refine lv_icmp_ne (tgt := 158) hx hb dX5_isAsItMustBe_134 (by decide) (fun c_4 => ?_) (fun c_4 => ?_)
        · refine lv_iconst (v := 1) hx hb dX5_isAsItMustBe_158 (by decide) ?_
          refine lv_goto (tgt := 163) hx hb dX5_isAsItMustBe_159 (by decide) ?_
          exact W.zret (v := 1) (ty := .boolean) hx hb hr (by decide +kernel) (fun t ht hW => ⟨_, rfl, (by rw [xMb, if_neg c_1, if_neg c_2, if_neg c_3, if_neg c_4]), ht⟩) (fun _ h => absurd h List.not_mem_nil) dX5_isAsItMustBe_163
        · refine lv_aload_n hx hb dX5_isAsItMustBe_137 rfl (lv_at hl 0 rfl) ?_
          refine va_get (D := D) (ci := 5) (v := .ref fa) (C := RX5) (T := TX5) (N := 19) hx hb hts hwX5 hown hK hP 0 rfl rfl 13 (by decide) (hts (.fieldLink RX5 38 "WaitOrWalkOnModel" "field" "[I") (by decide +kernel)) (fun _ h9 => h9) rfl dX5_isAsItMustBe_138 ?_
          refine lv_iconst (v := 0) hx hb dX5_isAsItMustBe_141 (by decide) ?_
          refine va_iald (D := D) hx hb hK hP 1 0 rfl rfl (by unfold vp_in; decide +kernel) dX5_isAsItMustBe_142 ?_
          refine xv_int (y := ff 0) rfl ?_
          refine lv_iconst (v := 1) hx hb dX5_isAsItMustBe_143 (by decide) ?_
          refine lv_icmp_lt (tgt := 162) hx hb dX5_isAsItMustBe_144 (by decide) (fun c_5 => ?_) (fun c_5 => ?_)
          · refine lv_iconst (v := 0) hx hb dX5_isAsItMustBe_162 (by decide) ?_
            exact W.zret (v := 0) (ty := .boolean) hx hb hr (by decide +kernel) (fun t ht hW => ⟨_, rfl, (by rw [xMb, if_neg c_1, if_neg c_2, if_neg c_3, if_pos c_4, if_pos c_5]), ht⟩) (fun _ h => absurd h List.not_mem_nil) dX5_isAsItMustBe_163
          · refine lv_aload_n hx hb dX5_isAsItMustBe_147 rfl (lv_at hl 0 rfl) ?_
            refine va_get (D := D) (ci := 5) (v := .ref fa) (C := RX5) (T := TX5) (N := 19) hx hb hts hwX5 hown hK hP 0 rfl rfl 13 (by decide) (hts (.fieldLink RX5 38 "WaitOrWalkOnModel" "field" "[I") (by decide +kernel)) (fun _ h9 => h9) rfl dX5_isAsItMustBe_148 ?_
            refine lv_iconst (v := 0) hx hb dX5_isAsItMustBe_151 (by decide) ?_
            refine va_iald (D := D) hx hb hK hP 1 0 rfl rfl (by unfold vp_in; decide +kernel) dX5_isAsItMustBe_152 ?_
            refine xv_int (y := ff 0) rfl ?_
            refine lv_bipush (v := 60) hx hb dX5_isAsItMustBe_153 (by decide) ?_
            refine lv_icmp_gt (tgt := 162) hx hb dX5_isAsItMustBe_155 (by decide) (fun c_6 => ?_) (fun c_6 => ?_)
            · refine lv_iconst (v := 0) hx hb dX5_isAsItMustBe_162 (by decide) ?_
              exact W.zret (v := 0) (ty := .boolean) hx hb hr (by decide +kernel) (fun t ht hW => ⟨_, rfl, (by rw [xMb, if_neg c_1, if_neg c_2, if_neg c_3, if_pos c_4, if_neg c_5, if_pos c_6]), ht⟩) (fun _ h => absurd h List.not_mem_nil) dX5_isAsItMustBe_163
            · refine lv_iconst (v := 1) hx hb dX5_isAsItMustBe_158 (by decide) ?_
              refine lv_goto (tgt := 163) hx hb dX5_isAsItMustBe_159 (by decide) ?_
              exact W.zret (v := 1) (ty := .boolean) hx hb hr (by decide +kernel) (fun t ht hW => ⟨_, rfl, (by rw [xMb, if_neg c_1, if_neg c_2, if_neg c_3, if_pos c_4, if_neg c_5, if_neg c_6]), ht⟩) (fun _ h => absurd h List.not_mem_nil) dX5_isAsItMustBe_163
      · refine lv_aload_n hx hb dX5_isAsItMustBe_98 rfl (lv_at hl 0 rfl) ?_
        refine va_get (D := D) (ci := 5) (v := .ref fa) (C := RX5) (T := TX5) (N := 19) hx hb hts hwX5 hown hK hP 0 rfl rfl 13 (by decide) (hts (.fieldLink RX5 38 "WaitOrWalkOnModel" "field" "[I") (by decide +kernel)) (fun _ h9 => h9) rfl dX5_isAsItMustBe_99 ?_
        refine lv_iconst (v := 0) hx hb dX5_isAsItMustBe_102 (by decide) ?_
        refine va_iald (D := D) hx hb hK hP 1 0 rfl rfl (by unfold vp_in; decide +kernel) dX5_isAsItMustBe_103 ?_
        refine xv_int (y := ff 0) rfl ?_
        refine lv_bipush (v := 20) hx hb dX5_isAsItMustBe_104 (by decide) ?_
        refine lv_icmp_lt (tgt := 125) hx hb dX5_isAsItMustBe_106 (by decide) (fun c_7 => ?_) (fun c_7 => ?_)
        · refine lv_iconst (v := 0) hx hb dX5_isAsItMustBe_125 (by decide) ?_
          refine lv_goto (tgt := 163) hx hb dX5_isAsItMustBe_126 (by decide) ?_
          exact W.zret (v := 0) (ty := .boolean) hx hb hr (by decide +kernel) (fun t ht hW => ⟨_, rfl, (by rw [xMb, if_neg c_1, if_neg c_2, if_pos c_3, if_pos c_7]), ht⟩) (fun _ h => absurd h List.not_mem_nil) dX5_isAsItMustBe_163
        · refine lv_aload_n hx hb dX5_isAsItMustBe_109 rfl (lv_at hl 0 rfl) ?_
          refine va_get (D := D) (ci := 5) (v := .ref fa) (C := RX5) (T := TX5) (N := 19) hx hb hts hwX5 hown hK hP 0 rfl rfl 13 (by decide) (hts (.fieldLink RX5 38 "WaitOrWalkOnModel" "field" "[I") (by decide +kernel)) (fun _ h9 => h9) rfl dX5_isAsItMustBe_110 ?_
          refine lv_iconst (v := 0) hx hb dX5_isAsItMustBe_113 (by decide) ?_
          refine va_iald (D := D) hx hb hK hP 1 0 rfl rfl (by unfold vp_in; decide +kernel) dX5_isAsItMustBe_114 ?_
          refine xv_int (y := ff 0) rfl ?_
          refine lv_sipush (v := 200) hx hb dX5_isAsItMustBe_115 (by decide) ?_
          refine lv_icmp_gt (tgt := 125) hx hb dX5_isAsItMustBe_118 (by decide) (fun c_8 => ?_) (fun c_8 => ?_)
          · refine lv_iconst (v := 0) hx hb dX5_isAsItMustBe_125 (by decide) ?_
            refine lv_goto (tgt := 163) hx hb dX5_isAsItMustBe_126 (by decide) ?_
            exact W.zret (v := 0) (ty := .boolean) hx hb hr (by decide +kernel) (fun t ht hW => ⟨_, rfl, (by rw [xMb, if_neg c_1, if_neg c_2, if_pos c_3, if_neg c_7, if_pos c_8]), ht⟩) (fun _ h => absurd h List.not_mem_nil) dX5_isAsItMustBe_163
          · refine lv_iconst (v := 1) hx hb dX5_isAsItMustBe_121 (by decide) ?_
            refine lv_goto (tgt := 163) hx hb dX5_isAsItMustBe_122 (by decide) ?_
            exact W.zret (v := 1) (ty := .boolean) hx hb hr (by decide +kernel) (fun t ht hW => ⟨_, rfl, (by rw [xMb, if_neg c_1, if_neg c_2, if_pos c_3, if_neg c_7, if_neg c_8]), ht⟩) (fun _ h => absurd h List.not_mem_nil) dX5_isAsItMustBe_163
    · refine lv_aload_n hx hb dX5_isAsItMustBe_67 rfl (lv_at hl 0 rfl) ?_
      refine va_get (D := D) (ci := 5) (v := .ref fa) (C := RX5) (T := TX5) (N := 19) hx hb hts hwX5 hown hK hP 0 rfl rfl 13 (by decide) (hts (.fieldLink RX5 38 "WaitOrWalkOnModel" "field" "[I") (by decide +kernel)) (fun _ h9 => h9) rfl dX5_isAsItMustBe_68 ?_
      refine lv_iconst (v := 0) hx hb dX5_isAsItMustBe_71 (by decide) ?_
      refine va_iald (D := D) hx hb hK hP 1 0 rfl rfl (by unfold vp_in; decide +kernel) dX5_isAsItMustBe_72 ?_
      refine xv_int (y := ff 0) rfl ?_
      refine lv_if_le (tgt := 86) hx hb dX5_isAsItMustBe_73 (by decide) (fun c_9 => ?_) (fun c_9 => ?_)
      · refine lv_iconst (v := 0) hx hb dX5_isAsItMustBe_86 (by decide) ?_
        refine lv_goto (tgt := 163) hx hb dX5_isAsItMustBe_87 (by decide) ?_
        exact W.zret (v := 0) (ty := .boolean) hx hb hr (by decide +kernel) (fun t ht hW => ⟨_, rfl, (by rw [xMb, if_neg c_1, if_pos c_2, if_neg (Int32.not_lt.mpr c_9)]), ht⟩) (fun _ h => absurd h List.not_mem_nil) dX5_isAsItMustBe_163
      · refine lv_iload_n hx hb dX5_isAsItMustBe_76 rfl (lv_at hl 1 rfl) ?_
        refine lv_bipush (v := 7) hx hb dX5_isAsItMustBe_77 (by decide) ?_
        refine lv_icmp_ge (tgt := 86) hx hb dX5_isAsItMustBe_79 (by decide) (fun c_10 => ?_) (fun c_10 => ?_)
        · refine lv_iconst (v := 0) hx hb dX5_isAsItMustBe_86 (by decide) ?_
          refine lv_goto (tgt := 163) hx hb dX5_isAsItMustBe_87 (by decide) ?_
          exact W.zret (v := 0) (ty := .boolean) hx hb hr (by decide +kernel) (fun t ht hW => ⟨_, rfl, (by rw [xMb, if_neg c_1, if_pos c_2, if_pos (Int32.not_le.mp c_9), if_neg (Int32.not_lt.mpr c_10)]), ht⟩) (fun _ h => absurd h List.not_mem_nil) dX5_isAsItMustBe_163
        · refine lv_iconst (v := 1) hx hb dX5_isAsItMustBe_82 (by decide) ?_
          refine lv_goto (tgt := 163) hx hb dX5_isAsItMustBe_83 (by decide) ?_
          exact W.zret (v := 1) (ty := .boolean) hx hb hr (by decide +kernel) (fun t ht hW => ⟨_, rfl, (by rw [xMb, if_neg c_1, if_pos c_2, if_pos (Int32.not_le.mp c_9), if_pos (Int32.not_le.mp c_10)]), ht⟩) (fun _ h => absurd h List.not_mem_nil) dX5_isAsItMustBe_163
  · refine lv_iconst (v := 0) hx hb dX5_isAsItMustBe_8 (by decide) ?_
    refine lv_istore_n (lv' := [(3, .int 0), (0, .ref g0), (1, .int s1), (2, .int l1)]) hx hb dX5_isAsItMustBe_9 rfl hl (by decide) rfl (fun ls hl => ?_)
    refine lv_iconst (v := 2) hx hb dX5_isAsItMustBe_10 (by decide) ?_
    refine lv_istore (lv' := [(4, .int 2), (3, .int 0), (0, .ref g0), (1, .int s1), (2, .int l1)]) hx hb dX5_isAsItMustBe_11 hl (by decide) rfl (fun ls hl => ?_)
    refine xl_loop (σ := Nat) (fun n q ls => lv_has ls 5 [(4, .int (nI (q + 2))), (3, .int (xSmF ff 2 q)), (0, .ref g0), (1, .int s1), (2, .int l1)] ∧ (13 - q < n) ∧ (q ≤ 13)) (14) (0) ⟨lv_sub hl [0, 1, 2, 3, 4] rfl, by (try dsimp only); exact ⟨by omega, by omega⟩⟩ (fun q ls h => absurd h.2.1 (Nat.not_lt_zero _)) ?_
    intro n_13 q_13 ls ih_13 hI_13
    obtain ⟨hl, hI_13⟩ := hI_13
    obtain ⟨k, e_13⟩ : ∃ z, z = q_13 := ⟨_, rfl⟩
    subst e_13
    obtain ⟨h1, h2⟩ := hI_13
    try dsimp only at hl h1 h2
    refine lv_iload hx hb dX5_isAsItMustBe_13 (lv_at hl 0 rfl) ?_
    refine lv_bipush (v := 15) hx hb dX5_isAsItMustBe_15 (by decide) ?_
    refine lv_icmp_ge (tgt := 36) hx hb dX5_isAsItMustBe_17 (by decide) (fun c_11 => ?_) (fun c_11 => ?_)
    · refine lv_aload_n hx hb dX5_isAsItMustBe_36 rfl (lv_at hl 2 rfl) ?_
      refine va_get (D := D) (ci := 5) (v := .ref fa) (C := RX5) (T := TX5) (N := 19) hx hb hts hwX5 hown hK hP 0 rfl rfl 13 (by decide) (hts (.fieldLink RX5 38 "WaitOrWalkOnModel" "field" "[I") (by decide +kernel)) (fun _ h9 => h9) rfl dX5_isAsItMustBe_37 ?_
      refine lv_iconst (v := 1) hx hb dX5_isAsItMustBe_40 (by decide) ?_
      refine va_iald (D := D) hx hb hK hP 1 0 rfl rfl (by unfold vp_in; decide +kernel) dX5_isAsItMustBe_41 ?_
      refine xv_int (y := ff 1) rfl ?_
      refine lv_if_le (tgt := 58) hx hb dX5_isAsItMustBe_42 (by decide) (fun c_12 => ?_) (fun c_12 => ?_)
      · refine lv_iconst (v := 0) hx hb dX5_isAsItMustBe_58 (by decide) ?_
        exact W.zret (v := 0) (ty := .boolean) hx hb hr (by decide +kernel) (fun t ht hW => ⟨_, rfl, (by have w := mt (nI_ltI (a := k + 2) (b := 15) (by omega) (by omega)).mpr (Int32.not_lt.mpr c_11); obtain rfl : k = 13 := (by omega); rw [xMb, if_pos c_1, if_neg (Int32.not_lt.mpr c_12)]), ht⟩) (fun _ h => absurd h List.not_mem_nil) dX5_isAsItMustBe_59
      · refine lv_iload_n hx hb dX5_isAsItMustBe_45 rfl (lv_at hl 1 rfl) ?_
        refine lv_if_le (tgt := 58) hx hb dX5_isAsItMustBe_46 (by decide) (fun c_13 => ?_) (fun c_13 => ?_)
        · refine lv_iconst (v := 0) hx hb dX5_isAsItMustBe_58 (by decide) ?_
          exact W.zret (v := 0) (ty := .boolean) hx hb hr (by decide +kernel) (fun t ht hW => ⟨_, rfl, (by have w := mt (nI_ltI (a := k + 2) (b := 15) (by omega) (by omega)).mpr (Int32.not_lt.mpr c_11); obtain rfl : k = 13 := (by omega); rw [xMb, if_pos c_1, if_pos (Int32.not_le.mp c_12), if_neg (Int32.not_lt.mpr c_13)]), ht⟩) (fun _ h => absurd h List.not_mem_nil) dX5_isAsItMustBe_59
        · refine lv_iload_n hx hb dX5_isAsItMustBe_49 rfl (lv_at hl 4 rfl) ?_
          refine lv_iconst (v := 3) hx hb dX5_isAsItMustBe_50 (by decide) ?_
          refine lv_icmp_ge (tgt := 58) hx hb dX5_isAsItMustBe_51 (by decide) (fun c_14 => ?_) (fun c_14 => ?_)
          · refine lv_iconst (v := 0) hx hb dX5_isAsItMustBe_58 (by decide) ?_
            exact W.zret (v := 0) (ty := .boolean) hx hb hr (by decide +kernel) (fun t ht hW => ⟨_, rfl, (by have w := mt (nI_ltI (a := k + 2) (b := 15) (by omega) (by omega)).mpr (Int32.not_lt.mpr c_11); obtain rfl : k = 13 := (by omega); rw [xMb, if_pos c_1, if_pos (Int32.not_le.mp c_12), if_pos (Int32.not_le.mp c_13), if_neg (Int32.not_lt.mpr c_14)]), ht⟩) (fun _ h => absurd h List.not_mem_nil) dX5_isAsItMustBe_59
          · refine lv_iconst (v := 1) hx hb dX5_isAsItMustBe_54 (by decide) ?_
            refine lv_goto (tgt := 59) hx hb dX5_isAsItMustBe_55 (by decide) ?_
            exact W.zret (v := 1) (ty := .boolean) hx hb hr (by decide +kernel) (fun t ht hW => ⟨_, rfl, (by have w := mt (nI_ltI (a := k + 2) (b := 15) (by omega) (by omega)).mpr (Int32.not_lt.mpr c_11); obtain rfl : k = 13 := (by omega); rw [xMb, if_pos c_1, if_pos (Int32.not_le.mp c_12), if_pos (Int32.not_le.mp c_13), if_pos (Int32.not_le.mp c_14)]), ht⟩) (fun _ h => absurd h List.not_mem_nil) dX5_isAsItMustBe_59
    · refine lv_iload_n hx hb dX5_isAsItMustBe_20 rfl (lv_at hl 1 rfl) ?_
      refine lv_aload_n hx hb dX5_isAsItMustBe_21 rfl (lv_at hl 2 rfl) ?_
      refine va_get (D := D) (ci := 5) (v := .ref fa) (C := RX5) (T := TX5) (N := 19) hx hb hts hwX5 hown hK hP 0 rfl rfl 13 (by decide) (hts (.fieldLink RX5 38 "WaitOrWalkOnModel" "field" "[I") (by decide +kernel)) (fun _ h9 => h9) rfl dX5_isAsItMustBe_22 ?_
      refine lv_iload hx hb dX5_isAsItMustBe_25 (lv_at hl 0 rfl) ?_
      refine va_iald (D := D) hx hb hK hP 1 0 rfl rfl (vp_in_nI (by have w := (nI_ltI (a := k + 2) (b := 15) (by omega) (by omega)).mp (Int32.not_le.mp c_11); omega) (by decide)) dX5_isAsItMustBe_27 ?_
      refine xv_int (y := ff (2 + k)) (congrArg ff ((nI_clamp (by omega)).trans (Nat.add_comm k 2))) ?_
      refine lv_iadd hx hb dX5_isAsItMustBe_28 ?_
      refine xv_int (y := xSmF ff 2 (k + 1)) (rfl) ?_
      refine lv_istore_n (lv' := [(3, .int (xSmF ff 2 (k + 1))), (4, .int (nI (k + 2))), (0, .ref g0), (1, .int s1), (2, .int l1)]) hx hb dX5_isAsItMustBe_29 rfl hl (by decide) rfl (fun ls hl => ?_)
      refine lv_iinc (v := nI (k + 1 + 2)) (lv' := [(4, .int (nI (k + 1 + 2))), (3, .int (xSmF ff 2 (k + 1))), (0, .ref g0), (1, .int s1), (2, .int l1)]) hx hb dX5_isAsItMustBe_30 hl (k := 1) rfl (by rw [show k + 1 + 2 = k + 2 + 1 by omega]; exact nI_1 (k + 2)) (by decide) rfl (fun ls hl => ?_)
      refine lv_goto (tgt := 13) hx hb dX5_isAsItMustBe_33 (by decide) ?_
      have w := (nI_ltI (a := k + 2) (b := 15) (by omega) (by omega)).mp (Int32.not_le.mp c_11)
      exact ih_13 (k + 1) _ ⟨lv_sub hl [0, 1, 2, 3, 4] rfl, by (try dsimp only); exact ⟨by omega, by omega⟩⟩

/-! the reference: what a text that is read leaves of its row -/
theorem xPn_ge (lt : Nat → Int32) (tn : Nat) (f : Nat → Int32) (n : Nat) (p : xP) : p.1 ≤ (xPn lt tn f n p).1 := by
  unfold xPn
  by_cases q : xOk5 lt tn f n p < n
  · rw [if_pos q]; exact Nat.le_succ _
  · rw [if_neg q]; exact Nat.le_refl _
theorem xPf_ge (lt : Nat → Int32) (tn : Nat) (l : Int32) (m : Nat) (p : xP) : p.1 ≤ (xPf lt tn l m p).1 := Nat.le_add_right _ _
theorem xQ_ge (lt : Nat → Int32) (tn : Nat) (p : xP) : ∀ n, p.1 ≤ (xQ lt tn p n).1
  | 0 => Nat.le_refl _
  | n + 1 => Nat.le_trans (xQ_ge lt tn p n) (xPf_ge lt tn 0 1 _)
theorem x5p_ge (lt : Nat → Int32) (tn : Nat) (kf : Nat → Int32) (p : xP) : p.1 ≤ (x5p lt tn kf p).1 :=
  Nat.le_trans (xPn_ge lt tn kf 5 p) (Nat.le_trans (xPf_ge lt tn 1 1 _) (Nat.le_trans (xPf_ge lt tn 1 1 _) (xPf_ge lt tn 1 1 _)))
theorem xPf_w (lt : Nat → Int32) (tn : Nat) (l : Int32) (m : Nat) (p : xP) : (xPf lt tn l m p).2 = 0 ∨ (xPf lt tn l m p).2 = 1 := by
  unfold xPf
  dsimp only
  by_cases h : p.2 = 0
  · rw [if_pos h]; exact Or.inl rfl
  · rw [if_neg h]
    by_cases q : nI (xFc lt tn p.2 m p.1) < l
    · rw [if_pos q]; exact Or.inl rfl
    · rw [if_neg q]; exact Or.inr rfl
theorem xPe_cases (lt : Nat → Int32) (tn : Nat) (p : xP) : ((xPe lt tn p).1 = p.1 ∧ (xPe lt tn p).2 = 0) ∨ (p.1 < tn ∧ (xPe lt tn p).1 = p.1 + 1 ∧ (xPe lt tn p).2 = p.2) := by
  by_cases h1 : p.2 = 0
  · rw [xPe_1 h1]; exact Or.inl ⟨rfl, rfl⟩
  by_cases h2 : p.1 < tn
  · by_cases h3 : lt p.1 = 59
    · rw [xPe_4 h1 h2 h3]; exact Or.inr ⟨h2, rfl, rfl⟩
    · rw [xPe_3 h1 h2 h3]; exact Or.inl ⟨rfl, rfl⟩
  · rw [xPe_2 h1 h2]; exact Or.inl ⟨rfl, rfl⟩
/-- where the statement's parts end, ahead of its ";" -/
def xSq (lt : Nat → Int32) (tn : Nat) (bf kf : Nat → Int32) (p : xP) : xP := if xSs lt tn bf p = 3 then xQ lt tn (x5p lt tn kf (xPn lt tn bf 6 p)) 11 else xPf lt tn (xLl (xSs lt tn bf p)) (xLm9 (xSs lt tn bf p)) (xPn lt tn bf 6 p)
theorem xSq_ge (lt : Nat → Int32) (tn : Nat) (bf kf : Nat → Int32) (p : xP) : p.1 ≤ (xSq lt tn bf kf p).1 := by
  unfold xSq
  have h := xPn_ge lt tn bf 6 p
  by_cases q : xSs lt tn bf p = 3
  · rw [if_pos q]; exact Nat.le_trans h (Nat.le_trans (x5p_ge lt tn kf _) (xQ_ge lt tn _ 11))
  · rw [if_neg q]; exact Nat.le_trans h (xPf_ge lt tn _ _ _)
theorem xSq_le {lt : Nat → Int32} {tn : Nat} {bf kf : Nat → Int32} {p : xP} (h : p.1 ≤ tn) : (xSq lt tn bf kf p).1 ≤ tn := by
  unfold xSq
  have h := xPn_le (lt := lt) (f := bf) (n := 6) h
  by_cases q : xSs lt tn bf p = 3
  · rw [if_pos q]; exact xQ_le (xPf_le (xPf_le (xPf_le (xPn_le h)))) 11
  · rw [if_neg q]; exact xPf_le h
theorem xSq_w (lt : Nat → Int32) (tn : Nat) (bf kf : Nat → Int32) (p : xP) : (xSq lt tn bf kf p).2 = 0 ∨ (xSq lt tn bf kf p).2 = 1 := by
  unfold xSq
  by_cases q : xSs lt tn bf p = 3
  · rw [if_pos q]; exact xPf_w lt tn 0 1 _
  · rw [if_neg q]; exact xPf_w lt tn _ _ _
theorem xSp_adv {lt : Nat → Int32} {tn : Nat} {bf kf : Nat → Int32} {p : xP} (h : ¬ (xSp lt tn bf kf p).2 = 0) : p.1 < (xSp lt tn bf kf p).1 ∧ (xSp lt tn bf kf p).2 = 1 ∧ (xSp lt tn bf kf p).1 ≤ tn := by
  have e : xSp lt tn bf kf p = xPe lt tn (xSq lt tn bf kf p) := rfl
  rw [e] at h ⊢
  have hg := xSq_ge lt tn bf kf p
  rcases xPe_cases lt tn (xSq lt tn bf kf p) with ⟨_, h2⟩ | ⟨h1, h2, h3⟩
  · exact absurd h2 h
  · rw [h2, h3]
    rcases xSq_w lt tn bf kf p with w | w
    · rw [h3] at h; exact absurd w h
    · exact ⟨by omega, w, by omega⟩
theorem xSp_le {lt : Nat → Int32} {tn : Nat} {bf kf : Nat → Int32} {p : xP} (h : p.1 ≤ tn) : (xSp lt tn bf kf p).1 ≤ tn := by
  have e : xSp lt tn bf kf p = xPe lt tn (xSq lt tn bf kf p) := rfl
  rw [e]
  have hq := xSq_le (lt := lt) (bf := bf) (kf := kf) h
  rcases xPe_cases lt tn (xSq lt tn bf kf p) with ⟨h1, _⟩ | ⟨h1, h2, _⟩ <;> omega
/-- so many statements are there, and no more letters behind them -/
def xGd (lt : Nat → Int32) (tn : Nat) (bf kf : Nat → Int32) : Nat → xP → Prop
  | 0, p => ¬ p.1 < tn
  | n + 1, p => p.1 < tn → (¬ (xSp lt tn bf kf p).2 = 0 ∧ xGd lt tn bf kf n (xSp lt tn bf kf p))
def xB0 (s : Int32) : Int32 := if s = 0 then 1 else 0
def xB3 (s : Int32) : Int32 := if s = 3 then 1 else 0
def xN0 (s : Int32) : Nat := if s = 0 then 1 else 0
def xN3 (s : Int32) : Nat := if s = 3 then 1 else 0
theorem xN0_e (n : Nat) (s : Int32) : nI n + xB0 s = nI (n + xN0 s) := by
  unfold xB0 xN0
  by_cases h : s = 0
  · rw [if_pos h, if_pos h]; exact nI_1 n
  · rw [if_neg h, if_neg h]; exact Int32.add_zero _
theorem xN3_e (n : Nat) (s : Int32) : nI n + xB3 s = nI (n + xN3 s) := by
  unfold xB3 xN3
  by_cases h : s = 3
  · rw [if_pos h, if_pos h]; exact nI_1 n
  · rw [if_neg h, if_neg h]; exact Int32.add_zero _
/-- they are as they must be, one behind the other -/
def xVl (lt : Nat → Int32) (tn : Nat) (bf kf : Nat → Int32) : Nat → xP → Int32 → Int32 → Prop
  | 0, p, _, _ => ¬ p.1 < tn
  | n + 1, p, s, l => p.1 < tn → (¬ (xSp lt tn bf kf p).2 = 0 ∧ ¬ xMb (xSs lt tn bf p) (xSf lt tn bf kf (fun _ => 0) p) s l = 0 ∧ xVl lt tn bf kf n (xSp lt tn bf kf p) (s + xB0 (xSs lt tn bf p)) (l + xB3 (xSs lt tn bf p)))
theorem xFq_ag {lt : Nat → Int32} {tn : Nat} {p : xP} {g g' : Nat → Int32} (h : ∀ j, j < 4 → g j = g' j) : ∀ n i, i < 4 + n → xFq lt tn p g n i = xFq lt tn p g' n i
  | 0, i, hi => h i hi
  | n + 1, i, hi => by
    simp only [xFq]
    by_cases q : i = 3 + (n + 1)
    · rw [q, pk_us, pk_us]
    · rw [pk_un q, pk_un q]; exact xFq_ag h n i (by omega)
theorem xB4_ag (lt : Nat → Int32) (tn : Nat) (kf : Nat → Int32) (p : xP) (fa fa' : Nat → Int32) : ∀ j, j < 4 → xB4 lt tn kf p fa j = xB4 lt tn kf p fa' j := by
  intro j hj
  rcases (show j = 0 ∨ j = 1 ∨ j = 2 ∨ j = 3 by omega) with rfl | rfl | rfl | rfl <;> rfl
theorem xSf_3 {lt : Nat → Int32} {tn : Nat} {bf kf fa fa' : Nat → Int32} {p : xP} (h : xSs lt tn bf p = 3) : ∀ i, i < 15 → xSf lt tn bf kf fa p i = xSf lt tn bf kf fa' p i := by
  intro i hi
  unfold xSf
  rw [if_pos h, if_pos h]
  exact xFq_ag (xB4_ag lt tn kf _ fa fa') 11 i (by omega)
theorem xSf_0 {lt : Nat → Int32} {tn : Nat} {bf kf fa fa' : Nat → Int32} {p : xP} (h : ¬ xSs lt tn bf p = 3) : xSf lt tn bf kf fa p 0 = xSf lt tn bf kf fa' p 0 := by
  unfold xSf
  rw [if_neg h, if_neg h]
  rfl
theorem xSmF_ag {f g : Nat → Int32} {j : Nat} : ∀ n, (∀ i, i < n → f (j + i) = g (j + i)) → xSmF f j n = xSmF g j n
  | 0, _ => rfl
  | n + 1, h => by simp only [xSmF]; rw [xSmF_ag n (fun i hi => h i (by omega)), h n (by omega)]
theorem xMb_fa (lt : Nat → Int32) (tn : Nat) (bf kf fa fa' : Nat → Int32) (p : xP) (s l : Int32) : xMb (xSs lt tn bf p) (xSf lt tn bf kf fa p) s l = xMb (xSs lt tn bf p) (xSf lt tn bf kf fa' p) s l := by
  unfold xMb
  by_cases h : xSs lt tn bf p = 3
  · rw [if_pos h, if_pos h, xSf_3 (fa' := fa') h 1 (by decide), xSmF_ag 13 (fun i hi => xSf_3 (fa' := fa') h (2 + i) (by omega))]
  · rw [if_neg h, if_neg h, xSf_0 (fa' := fa') h]
/-! figures' values -/
theorem xFc_d {lt : Nat → Int32} {tn : Nat} {w : Int32} : ∀ n a i, i < xFc lt tn w n a → ¬ xFg lt tn (a + i, w) = 0
  | 0, _, _, h => absurd h (Nat.not_lt_zero _)
  | n + 1, a, i, h => by
    simp only [xFc] at h
    by_cases q : xFg lt tn (a, w) = 0
    · rw [if_pos q] at h; exact absurd h (Nat.not_lt_zero _)
    · rw [if_neg q] at h
      cases i with
      | zero => exact q
      | succ i =>
        have e := xFc_d (lt := lt) (tn := tn) (w := w) n (a + 1) i (by omega)
        rw [show a + (i + 1) = a + 1 + i by omega]; exact e
theorem xDig {x : Int32} (h1 : ¬ x < 48) (h2 : ¬ 57 < x) : ∃ d, d ≤ 9 ∧ x = nI (48 + d) := by
  rw [xi_lt] at h1 h2
  have e1 : (48 : Int32).toInt = 48 := by decide
  have e2 : (57 : Int32).toInt = 57 := by decide
  refine ⟨x.toInt.toNat - 48, by omega, ?_⟩
  rw [xi_eq, nI_toInt (by omega)]
  omega
theorem xFv_b {lt : Nat → Int32} {a : Nat} : ∀ k, k ≤ 3 → (∀ i, i < k → ¬ lt (a + i) < 48 ∧ ¬ 57 < lt (a + i)) → ∃ v, xFv lt a k = nI v ∧ v < 10 ^ k
  | 0, _, _ => ⟨0, rfl, by decide⟩
  | k + 1, hk, h => by
    obtain ⟨v, e, hv⟩ := xFv_b k (by omega) (fun i hi => h i (by omega))
    obtain ⟨d, hd, e2⟩ := xDig (h k (by omega)).1 (h k (by omega)).2
    refine ⟨10 * v + d, ?_, ?_⟩
    · show 10 * xFv lt a k + lt (a + k) - 48 = _
      rw [e, e2, show (10 : Int32) * nI v = nI (10 * v) from pk_mul 10 v, nI_add, show (48 : Int32) = nI 48 from rfl, pk_sub (by omega)]
      exact congrArg nI (by omega)
    · have : 10 ^ (k + 1) = 10 * 10 ^ k := by rw [Nat.pow_succ, Nat.mul_comm]
      omega
theorem xPw_b (lt : Nat → Int32) (tn m : Nat) (p : xP) (hm : m ≤ 3) (hp : p.1 ≤ tn) : ∃ v, xPw lt tn m p = nI v ∧ v ≤ 999 := by
  have hc := xFc_le lt tn p.2 m p.1 hp
  obtain ⟨v, e, hv⟩ := xFv_b (lt := lt) (a := p.1) (xFc lt tn p.2 m p.1) (by omega) (fun i hi => by
    have w := xFg_lt (xFc_d m p.1 i hi)
    exact ⟨w.2.2.1, w.2.2.2⟩)
  refine ⟨v, e, ?_⟩
  have : xFc lt tn p.2 m p.1 = 0 ∨ xFc lt tn p.2 m p.1 = 1 ∨ xFc lt tn p.2 m p.1 = 2 ∨ xFc lt tn p.2 m p.1 = 3 := by omega
  rcases this with w | w | w | w <;> rw [w] at hv <;> omega
theorem xSf_b {lt : Nat → Int32} {tn : Nat} {bf kf fa : Nat → Int32} {p : xP} (h : ¬ xSs lt tn bf p = 3) (hp : p.1 ≤ tn) : ∃ v, xSf lt tn bf kf fa p 0 = nI v ∧ v ≤ 999 := by
  unfold xSf
  rw [if_neg h, pk_us]
  exact xPw_b lt tn _ _ (xLm9_le _) (xPn_le hp)
/-! the row keeps to what it must -/
def xVd (nw : Nat → Int32) (st ln : Nat) : Prop := (nw 0 = nI st ∧ 1 ≤ st ∧ st ≤ 7) ∧ (nw 3 = nI ln ∧ ln ≤ 3) ∧ (∃ v, nw 2 = nI v ∧ 20 ≤ v ∧ v ≤ 200) ∧ (∃ v, nw 1 = nI v ∧ v ≤ 999) ∧ (∀ j, 1 ≤ j → j < st → ∃ v, nw (10 + j) = nI v ∧ v ≤ 999) ∧ (∀ j, j < ln → ¬ xWs (fun i => nw (20 + 16 * j + i)) 0 = 0)
theorem xAc2_ag {f g : Nat → Int32} {a : Int32} {j : Nat} : ∀ n, (∀ i, i < n → f (j + i) = g (j + i)) → xAc2 a f j n = xAc2 a g j n
  | 0, _ => rfl
  | n + 1, h => by simp only [xAc2]; rw [xAc2_ag n (fun i hi => h i (by omega)), h n (by omega)]
theorem xWs_ag {f g : Nat → Int32} (h : ∀ i, i < 15 → f i = g i) : xWs f 0 = xWs g 0 := by
  unfold xWs
  rw [show xWt f 12 = xWt g 12 from by show f 2 = g 2; exact h 2 (by decide)]
  apply xAc2_ag
  intro i hi
  simp only [xWt]
  rw [if_neg (by omega), if_neg (by omega)]
  exact h _ (by omega)
theorem xWs_sum (f : Nat → Int32) : xWs f 0 = xSmF f 2 13 := by
  have e : xSmF f 2 13 = 0 + f 2 + f 3 + f 4 + f 5 + f 6 + f 7 + f 8 + f 9 + f 10 + f 11 + f 12 + f 13 + f 14 := rfl
  rw [e, Int32.zero_add]
  rfl
theorem xMb_3 {srt : Int32} {f : Nat → Int32} {s l : Int32} (h : ¬ xMb srt f s l = 0) (h3 : srt = 3) : 0 < xSmF f 2 13 ∧ l < 3 := by
  unfold xMb at h
  rw [if_pos h3] at h
  by_cases h1 : 0 < f 1
  · rw [if_pos h1] at h
    by_cases h2 : 0 < xSmF f 2 13
    · rw [if_pos h2] at h
      by_cases h4 : l < 3
      · exact ⟨h2, h4⟩
      · rw [if_neg h4] at h; exact absurd rfl h
    · rw [if_neg h2] at h; exact absurd rfl h
  · rw [if_neg h1] at h; exact absurd rfl h
theorem xMb_0 {srt : Int32} {f : Nat → Int32} {s l : Int32} (h : ¬ xMb srt f s l = 0) (h0 : srt = 0) : s < 7 := by
  unfold xMb at h
  rw [if_neg (by rw [h0]; decide), if_pos h0] at h
  by_cases h1 : 0 < f 0
  · rw [if_pos h1] at h
    by_cases h2 : s < 7
    · exact h2
    · rw [if_neg h2] at h; exact absurd rfl h
  · rw [if_neg h1] at h; exact absurd rfl h
theorem xMb_2 {srt : Int32} {f : Nat → Int32} {s l : Int32} (h : ¬ xMb srt f s l = 0) (h0 : srt = 2) : ¬ f 0 < 20 ∧ ¬ 200 < f 0 := by
  unfold xMb at h
  rw [if_neg (by rw [h0]; decide), if_neg (by rw [h0]; decide), if_pos h0] at h
  by_cases h1 : f 0 < 20
  · rw [if_pos h1] at h; exact absurd rfl h
  · rw [if_neg h1] at h
    by_cases h2 : 200 < f 0
    · rw [if_pos h2] at h; exact absurd rfl h
    · exact ⟨h1, h2⟩
theorem xVd_cm {nw f : Nat → Int32} {st ln : Nat} {srt : Int32} (hV : xVd nw st ln) (hM : ¬ xMb srt f (nI st) (nI ln) = 0) (hf : ¬ srt = 3 → ∃ v, f 0 = nI v ∧ v ≤ 999) : xVd (xCm srt f nw st ln) (st + xN0 srt) (ln + xN3 srt) := by
  obtain ⟨⟨a1, a2, a3⟩, ⟨b1, b2⟩, ⟨v2, c1, c2, c3⟩, ⟨v1, d1, d2⟩, e, w⟩ := hV
  unfold xCm
  by_cases h0 : srt = 0
  · have hs := (nI_ltI (a := st) (b := 7) (by omega) (by decide)).mp (xMb_0 hM h0)
    obtain ⟨v, ef, hv⟩ := hf (by rw [h0]; decide)
    rw [if_pos h0, xN0, if_pos h0, xN3, if_neg (by rw [h0]; decide)]
    refine ⟨⟨pk_us, by omega, by omega⟩, ⟨?_, b2⟩, ⟨v2, ?_, c2, c3⟩, ⟨v1, ?_, d2⟩, ?_, ?_⟩
    · rw [pk_un (by omega), pk_un (by omega)]; exact b1
    · rw [pk_un (by omega), pk_un (by omega)]; exact c1
    · rw [pk_un (by omega), pk_un (by omega)]; exact d1
    · intro j hj1 hj2
      rw [pk_un (by omega)]
      by_cases q : j = st
      · rw [q, pk_us]; exact ⟨v, ef, hv⟩
      · rw [pk_un (by omega)]; exact e j hj1 (by omega)
    · intro j hj
      rw [xWs_ag (g := fun i => nw (20 + 16 * j + i)) (fun i hi => by show upd (upd nw (10 + st) (f 0)) 0 (nI (st + 1)) (20 + 16 * j + i) = _; rw [pk_un (by omega), pk_un (by omega)])]
      exact w j hj
  rw [if_neg h0, xN0, if_neg h0]
  have hw : ∀ (k : Nat) (x : Int32) (hk : k < 10), ∀ j, j < ln → ¬ xWs (fun i => upd nw k x (20 + 16 * j + i)) 0 = 0 := by
    intro k x hk j hj
    rw [xWs_ag (g := fun i => nw (20 + 16 * j + i)) (fun i hi => pk_un (by omega))]
    exact w j hj
  by_cases h1 : srt = 1
  · obtain ⟨v, ef, hv⟩ := hf (by rw [h1]; decide)
    rw [if_pos h1, xN3, if_neg (by rw [h1]; decide)]
    exact ⟨⟨by rw [pk_un (by decide)]; exact a1, a2, a3⟩, ⟨by rw [pk_un (by decide)]; exact b1, b2⟩, ⟨v2, by rw [pk_un (by decide)]; exact c1, c2, c3⟩, ⟨v, by rw [pk_us]; exact ef, hv⟩, fun j j1 j2 => by rw [pk_un (by omega)]; exact e j j1 j2, hw 1 _ (by decide)⟩
  rw [if_neg h1]
  by_cases h2 : srt = 2
  · obtain ⟨v, ef, hv⟩ := hf (by rw [h2]; decide)
    obtain ⟨g1, g2⟩ := xMb_2 hM h2
    rw [ef] at g1 g2
    have g1 := mt (nI_ltI (a := v) (b := 20) (by omega) (by decide)).mpr g1
    have g2 := mt (nI_ltI (a := 200) (b := v) (by decide) (by omega)).mpr g2
    rw [if_pos h2, xN3, if_neg (by rw [h2]; decide)]
    exact ⟨⟨by rw [pk_un (by decide)]; exact a1, a2, a3⟩, ⟨by rw [pk_un (by decide)]; exact b1, b2⟩, ⟨v, by rw [pk_us]; exact ef, by omega, by omega⟩, ⟨v1, by rw [pk_un (by decide)]; exact d1, d2⟩, fun j j1 j2 => by rw [pk_un (by omega)]; exact e j j1 j2, hw 2 _ (by decide)⟩
  rw [if_neg h2]
  by_cases h3 : srt = 3
  · obtain ⟨g1, g2⟩ := xMb_3 hM h3
    have g2 := (nI_ltI (a := ln) (b := 3) (by omega) (by decide)).mp g2
    rw [if_pos h3, xN3, if_pos h3]
    have lo : ∀ i, i < 20 → ¬ i = 3 → upd (xCw f nw (20 + 16 * ln) 15) 3 (nI (ln + 1)) i = nw i := fun i hi h => by rw [pk_un h]; exact xCw_lo f nw (by omega) 15
    refine ⟨⟨by rw [lo 0 (by decide) (by decide)]; exact a1, a2, a3⟩, ⟨pk_us, by omega⟩, ⟨v2, by rw [lo 2 (by decide) (by decide)]; exact c1, c2, c3⟩, ⟨v1, by rw [lo 1 (by decide) (by decide)]; exact d1, d2⟩, fun j j1 j2 => by rw [lo (10 + j) (by omega) (by omega)]; exact e j j1 j2, ?_⟩
    intro j hj
    by_cases q : j = ln
    · subst q
      rw [xWs_ag (g := f) (fun i hi => by show upd (xCw f nw (20 + 16 * j) 15) 3 (nI (j + 1)) (20 + 16 * j + i) = _; rw [pk_un (by omega)]; exact xCw_in f nw 15 i hi), xWs_sum]
      exact xpos_ne g1
    · rw [xWs_ag (g := fun i => nw (20 + 16 * j + i)) (fun i hi => by show upd (xCw f nw (20 + 16 * ln) 15) 3 (nI (ln + 1)) (20 + 16 * j + i) = _; rw [pk_un (by omega)]; exact xCw_lo f nw (by omega) 15)]
      exact w j (by omega)
  rw [if_neg h3, xN3, if_neg h3]
  by_cases h4 : srt = 4
  · rw [if_pos h4]
    exact ⟨⟨by rw [pk_un (by decide)]; exact a1, a2, a3⟩, ⟨by rw [pk_un (by decide)]; exact b1, b2⟩, ⟨v2, by rw [pk_un (by decide)]; exact c1, c2, c3⟩, ⟨v1, by rw [pk_un (by decide)]; exact d1, d2⟩, fun j j1 j2 => by rw [pk_un (by omega)]; exact e j j1 j2, hw 4 _ (by decide)⟩
  · rw [if_neg h4]
    exact ⟨⟨by rw [pk_un (by decide)]; exact a1, a2, a3⟩, ⟨by rw [pk_un (by decide)]; exact b1, b2⟩, ⟨v2, by rw [pk_un (by decide)]; exact c1, c2, c3⟩, ⟨v1, by rw [pk_un (by decide)]; exact d1, d2⟩, fun j j1 j2 => by rw [pk_un (by omega)]; exact e j j1 j2, hw 5 _ (by decide)⟩
theorem xGd_s {lt : Nat → Int32} {tn : Nat} {bf kf : Nat → Int32} {u : Nat} {p : xP} (h : xGd lt tn bf kf u p) (hp : p.1 < tn) : ∃ v, u = v + 1 ∧ (¬ (xSp lt tn bf kf p).2 = 0 ∧ xGd lt tn bf kf v (xSp lt tn bf kf p)) := by
  cases u with
  | zero => exact absurd hp h
  | succ v => exact ⟨v, rfl, h hp⟩
theorem xVl_s {lt : Nat → Int32} {tn : Nat} {bf kf : Nat → Int32} {u : Nat} {p : xP} {s l : Int32} (h : xVl lt tn bf kf u p s l) (hp : p.1 < tn) : ∃ v, u = v + 1 ∧ (¬ (xSp lt tn bf kf p).2 = 0 ∧ ¬ xMb (xSs lt tn bf p) (xSf lt tn bf kf (fun _ => 0) p) s l = 0 ∧ xVl lt tn bf kf v (xSp lt tn bf kf p) (s + xB0 (xSs lt tn bf p)) (l + xB3 (xSs lt tn bf p))) := by
  cases u with
  | zero => exact absurd hp h
  | succ v => exact ⟨v, rfl, h hp⟩

set_option maxHeartbeats 4000000 in
set_option maxRecDepth 100000 in
theorem g_X5_come (l : Launch) (D : va_G) (cI cL cZ cC : ClassId) (sz : Nat) (g0 : Nat) (ra : Nat) (wa : Nat) (ta : Nat) (ma : Nat) (pa : Nat) (ba : Nat) (ka : Nat) (fa : Nat) (qa : Nat) (ea : Nat) (za : Nat) (ya : Nat) (kpt : Int32) (mkd : Int32) (tpd : Int32) (at0 : Int32) (wel : Int32) (srt : Int32) (wks : Int32) (st : Nat) (nw : Nat → Int32) (ln : Nat) (ff : Nat → Int32) (hn0 : nw 0 = nI st) (hs1 : 1 ≤ st) (hs7 : st ≤ 7) (hn3 : nw 3 = nI ln) (hln : ln ≤ 3) (hl3 : srt = 3 → ln < 3) : Met l yX5_come wsX5_come ({ frames := 0, cells := 0, slots := 0, locals := 0 } : Room) (wPc D [.ref g0] [(g0, .inr (5, [.ref ra, .ref wa, .ref ta, .int kpt, .ref ma, .int mkd, .ref pa, .int tpd, .int at0, .int wel, .ref ba, .ref ka, .int srt, .ref fa, .ref qa, .ref ea, .ref za, .ref ya, .int wks])), (wa, .inl (cI, 70, .inl nw)), (fa, .inl (cI, 15, .inl ff))] (xTy cI cL cZ cC) sz) (va_Qv (fun (_ : Unit) => True) (fun (_ : Unit) t => va_P D vwCl [(g0, .inr (5, [.ref ra, .ref wa, .ref ta, .int kpt, .ref ma, .int mkd, .ref pa, .int tpd, .int at0, .int wel, .ref ba, .ref ka, .int srt, .ref fa, .ref qa, .ref ea, .ref za, .ref ya, .int wks])), (wa, .inl (cI, 70, .inl (xCm srt ff nw st ln))), (fa, .inl (cI, 15, .inl ff))] t.heap ∧ va_D (va_A [(g0, .inr (5, [.ref ra, .ref wa, .ref ta, .int kpt, .ref ma, .int mkd, .ref pa, .int tpd, .int at0, .int wel, .ref ba, .ref ka, .int srt, .ref fa, .ref qa, .ref ea, .ref za, .ref ya, .int wks])), (wa, .inl (cI, 70, .inl nw)), (fa, .inl (cI, 15, .inl ff))] sz) [(g0, .inr (5, [.ref ra, .ref wa, .ref ta, .int kpt, .ref ma, .int mkd, .ref pa, .int tpd, .int at0, .int wel, .ref ba, .ref ka, .int srt, .ref fa, .ref qa, .ref ea, .ref za, .ref ya, .int wks])), (wa, .inl (cI, 70, .inl (xCm srt ff nw st ln))), (fa, .inl (cI, 15, .inl ff))]) (va_A [(g0, .inr (5, [.ref ra, .ref wa, .ref ta, .int kpt, .ref ma, .int mkd, .ref pa, .int tpd, .int at0, .int wel, .ref ba, .ref ka, .int srt, .ref fa, .ref qa, .ref ea, .ref za, .ref ya, .int wks])), (wa, .inl (cI, 70, .inl nw)), (fa, .inl (cI, 15, .inl ff))] sz)) 0 0 (va_A [(g0, .inr (5, [.ref ra, .ref wa, .ref ta, .int kpt, .ref ma, .int mkd, .ref pa, .int tpd, .int at0, .int wel, .ref ba, .ref ka, .int srt, .ref fa, .ref qa, .ref ea, .ref za, .ref ya, .int wks])), (wa, .inl (cI, 70, .inl nw)), (fa, .inl (cI, 15, .inl ff))] sz) := by
  refine Met.ofW (cc := cX5_come) (maxL := 2) (ret := none) (by decide) rfl ?_
  intro p e s m args below meth c s₁ B hml hv
  obtain ⟨rfl, hsz, hP, hK, hD0⟩ := hv
  have hx := B.exec
  have hb := B.bytes
  have hr := B.returns
  have hts := atoms_spec (ws := wsX5_come) B.pre
  have hown : s.vm.findClass RX5 = some m.cls := findClass_of_methodNamed B.named
  have hlocks := B.notSynchronized
  have hwX5 : ∀ w ∈ u_ws RX5 TX5 19, w ∈ wsX5_come := fun _ h => List.mem_cons_of_mem _ (List.mem_append_right _ h)
  subst hsz
  have hD := hD0.self (sz := s.heap.size)
  generalize hAe : va_A [(g0, .inr (5, [.ref ra, .ref wa, .ref ta, .int kpt, .ref ma, .int mkd, .ref pa, .int tpd, .int at0, .int wel, .ref ba, .ref ka, .int srt, .ref fa, .ref qa, .ref ea, .ref za, .ref ya, .int wks])), (wa, .inl (cI, 70, .inl nw)), (fa, .inl (cI, 15, .inl ff))] s.heap.size = A at hD ⊢
  have hA : ∀ q : Nat, s.heap.size ≤ q → A q := fun q h => by rw [← hAe]; exact Or.inr h
  have hS : va_S A s.heap s.heap [] := va_S.rf
  have hP : va_P D vwCl [(g0, .inr (5, [.ref ra, .ref wa, .ref ta, .int kpt, .ref ma, .int mkd, .ref pa, .int tpd, .int at0, .int wel, .ref ba, .ref ka, .int srt, .ref fa, .ref qa, .ref ea, .ref za, .ref ya, .int wks])), (wa, .inl (cI, 70, .inl nw)), (fa, .inl (cI, 15, .inl ff))] s.heap := hP
  have hl := lv_entry ([.ref g0]) (n := 2) (Nat.le_of_ble_eq_true rfl)
  rw [lg_entry_eq]
  generalize (lg_sl ([.ref g0]) ++ List.replicate (2 - (lg_sl ([.ref g0])).length) Slot.unset).toArray = ls at hl ⊢
  have hl : lv_has ls 2 [(0, .ref g0)] := hl
  refine lv_aload_n hx hb dX5_come_0 rfl (lv_at hl 0 rfl) ?_
  refine va_get (D := D) (ci := 5) (v := .int srt) (C := RX5) (T := TX5) (N := 19) hx hb hts hwX5 hown hK hP 0 rfl rfl 12 (by decide) (hts (.fieldLink RX5 75 "WaitOrWalkOnModel" "sort" "I") (by decide +kernel)) (fun _ h9 => h9) rfl dX5_come_1 ?_
  by_cases c_1 : srt = 0
  · refine lv_tableIn (off := 36) (tgt := 40) hx hb dX5_come_4 (by rw [c_1]; decide +kernel) (by rw [c_1]; decide +kernel) (by rw [c_1]; decide +kernel) (by decide) ?_
    refine lv_aload_n hx hb dX5_come_40 rfl (lv_at hl 0 rfl) ?_
    refine va_get (D := D) (ci := 5) (v := .ref wa) (C := RX5) (T := TX5) (N := 19) hx hb hts hwX5 hown hK hP 0 rfl rfl 1 (by decide) (hts (.fieldLink RX5 19 "WaitOrWalkOnModel" "now" "[I") (by decide +kernel)) (fun _ h9 => h9) rfl dX5_come_41 ?_
    refine lv_bipush (v := 10) hx hb dX5_come_44 (by decide) ?_
    refine lv_aload_n hx hb dX5_come_46 rfl (lv_at hl 0 rfl) ?_
    refine va_get (D := D) (ci := 5) (v := .ref wa) (C := RX5) (T := TX5) (N := 19) hx hb hts hwX5 hown hK hP 0 rfl rfl 1 (by decide) (hts (.fieldLink RX5 19 "WaitOrWalkOnModel" "now" "[I") (by decide +kernel)) (fun _ h9 => h9) rfl dX5_come_47 ?_
    refine lv_iconst (v := 0) hx hb dX5_come_50 (by decide) ?_
    refine va_iald (D := D) hx hb hK hP 1 0 rfl rfl (by unfold vp_in; decide +kernel) dX5_come_51 ?_
    refine xv_int (y := nw 0) rfl ?_
    refine xv_int (y := nI st) (hn0) ?_
    refine lv_iadd hx hb dX5_come_52 ?_
    refine xv_int (y := nI (10 + st)) (nI_add 10 st) ?_
    refine lv_aload_n hx hb dX5_come_53 rfl (lv_at hl 0 rfl) ?_
    refine va_get (D := D) (ci := 5) (v := .ref fa) (C := RX5) (T := TX5) (N := 19) hx hb hts hwX5 hown hK hP 0 rfl rfl 13 (by decide) (hts (.fieldLink RX5 38 "WaitOrWalkOnModel" "field" "[I") (by decide +kernel)) (fun _ h9 => h9) rfl dX5_come_54 ?_
    refine lv_iconst (v := 0) hx hb dX5_come_57 (by decide) ?_
    refine va_iald (D := D) hx hb hK hP 2 0 rfl rfl (by unfold vp_in; decide +kernel) dX5_come_58 ?_
    refine xv_int (y := ff 0) rfl ?_
    refine va_iast (D := D) hx hb hK hP hD hS 1 0 rfl rfl (vp_in_nI (by omega) (by decide)) dX5_come_59 (fun H locs hP hD hS => ?_)
    rw [nI_clamp (by omega)] at hP hD
    have hP : va_P D vwCl [(g0, .inr (5, [.ref ra, .ref wa, .ref ta, .int kpt, .ref ma, .int mkd, .ref pa, .int tpd, .int at0, .int wel, .ref ba, .ref ka, .int srt, .ref fa, .ref qa, .ref ea, .ref za, .ref ya, .int wks])), (wa, .inl (cI, 70, .inl (upd nw (10 + st) (ff 0)))), (fa, .inl (cI, 15, .inl ff))] H := hP
    have hD : va_D A [(g0, .inr (5, [.ref ra, .ref wa, .ref ta, .int kpt, .ref ma, .int mkd, .ref pa, .int tpd, .int at0, .int wel, .ref ba, .ref ka, .int srt, .ref fa, .ref qa, .ref ea, .ref za, .ref ya, .int wks])), (wa, .inl (cI, 70, .inl (upd nw (10 + st) (ff 0)))), (fa, .inl (cI, 15, .inl ff))] := hD
    refine lv_aload_n hx hb dX5_come_60 rfl (lv_at hl 0 rfl) ?_
    refine va_get (D := D) (ci := 5) (v := .ref wa) (C := RX5) (T := TX5) (N := 19) hx hb hts hwX5 hown hK hP 0 rfl rfl 1 (by decide) (hts (.fieldLink RX5 19 "WaitOrWalkOnModel" "now" "[I") (by decide +kernel)) (fun _ h9 => h9) rfl dX5_come_61 ?_
    refine lv_iconst (v := 0) hx hb dX5_come_64 (by decide) ?_
    refine lv_dup2_11 hx hb dX5_come_65 rfl rfl ?_
    refine va_iald (D := D) hx hb hK hP 1 0 rfl rfl (by unfold vp_in; decide +kernel) dX5_come_66 ?_
    refine xv_int (y := (upd nw (10 + st) (ff 0)) 0) rfl ?_
    refine xv_int (y := nI st) ((pk_un (show 0 ≠ 10 + st by omega)).trans hn0) ?_
    refine lv_iconst (v := 1) hx hb dX5_come_67 (by decide) ?_
    refine lv_iadd hx hb dX5_come_68 ?_
    refine xv_int (y := nI (st + 1)) (nI_1 st) ?_
    refine va_iast (D := D) hx hb hK hP hD hS 1 0 rfl rfl (by unfold vp_in; decide +kernel) dX5_come_69 (fun H locs hP hD hS => ?_)
    have hP : va_P D vwCl [(g0, .inr (5, [.ref ra, .ref wa, .ref ta, .int kpt, .ref ma, .int mkd, .ref pa, .int tpd, .int at0, .int wel, .ref ba, .ref ka, .int srt, .ref fa, .ref qa, .ref ea, .ref za, .ref ya, .int wks])), (wa, .inl (cI, 70, .inl (upd (upd nw (10 + st) (ff 0)) 0 (nI (st + 1))))), (fa, .inl (cI, 15, .inl ff))] H := hP
    have hD : va_D A [(g0, .inr (5, [.ref ra, .ref wa, .ref ta, .int kpt, .ref ma, .int mkd, .ref pa, .int tpd, .int at0, .int wel, .ref ba, .ref ka, .int srt, .ref fa, .ref qa, .ref ea, .ref za, .ref ya, .int wks])), (wa, .inl (cI, 70, .inl (upd (upd nw (10 + st) (ff 0)) 0 (nI (st + 1))))), (fa, .inl (cI, 15, .inl ff))] := hD
    refine lv_goto (tgt := 182) hx hb dX5_come_70 (by decide) ?_
    have hP9 := hP.sub (ws' := [(g0, .inr (5, [.ref ra, .ref wa, .ref ta, .int kpt, .ref ma, .int mkd, .ref pa, .int tpd, .int at0, .int wel, .ref ba, .ref ka, .int srt, .ref fa, .ref qa, .ref ea, .ref za, .ref ya, .int wks])), (wa, .inl (cI, 70, .inl (upd (upd nw (10 + st) (ff 0)) 0 (nI (st + 1))))), (fa, .inl (cI, 15, .inl ff))]) [0, 1, 2] rfl
    have hD9 := hD.sub (ws' := [(g0, .inr (5, [.ref ra, .ref wa, .ref ta, .int kpt, .ref ma, .int mkd, .ref pa, .int tpd, .int at0, .int wel, .ref ba, .ref ka, .int srt, .ref fa, .ref qa, .ref ea, .ref za, .ref ya, .int wks])), (wa, .inl (cI, 70, .inl (upd (upd nw (10 + st) (ff 0)) 0 (nI (st + 1))))), (fa, .inl (cI, 15, .inl ff))]) [0, 1, 2] (by decide) rfl
    have hE9 : ([(g0, .inr (5, [.ref ra, .ref wa, .ref ta, .int kpt, .ref ma, .int mkd, .ref pa, .int tpd, .int at0, .int wel, .ref ba, .ref ka, .int srt, .ref fa, .ref qa, .ref ea, .ref za, .ref ya, .int wks])), (wa, .inl (cI, 70, .inl (upd (upd nw (10 + st) (ff 0)) 0 (nI (st + 1))))), (fa, .inl (cI, 15, .inl ff))] : va_W) = [(g0, .inr (5, [.ref ra, .ref wa, .ref ta, .int kpt, .ref ma, .int mkd, .ref pa, .int tpd, .int at0, .int wel, .ref ba, .ref ka, .int srt, .ref fa, .ref qa, .ref ea, .ref za, .ref ya, .int wks])), (wa, .inl (cI, 70, .inl (xCm srt ff nw st ln))), (fa, .inl (cI, 15, .inl ff))] := by simp [xCm, c_1]
    exact W.vret hx hb hr (fun t ht hW => ⟨⟨(), rfl, trivial, by rw [ht]; exact hE9 ▸ hP9, hE9 ▸ hD9⟩, hS.F ht⟩) hS.2.2 dX5_come_182
  by_cases c_2 : srt = 1
  · refine lv_tableIn (off := 69) (tgt := 73) hx hb dX5_come_4 (by rw [c_2]; decide +kernel) (by rw [c_2]; decide +kernel) (by rw [c_2]; decide +kernel) (by decide) ?_
    refine lv_aload_n hx hb dX5_come_73 rfl (lv_at hl 0 rfl) ?_
    refine va_get (D := D) (ci := 5) (v := .ref wa) (C := RX5) (T := TX5) (N := 19) hx hb hts hwX5 hown hK hP 0 rfl rfl 1 (by decide) (hts (.fieldLink RX5 19 "WaitOrWalkOnModel" "now" "[I") (by decide +kernel)) (fun _ h9 => h9) rfl dX5_come_74 ?_
    refine lv_iconst (v := 1) hx hb dX5_come_77 (by decide) ?_
    refine lv_aload_n hx hb dX5_come_78 rfl (lv_at hl 0 rfl) ?_
    refine va_get (D := D) (ci := 5) (v := .ref fa) (C := RX5) (T := TX5) (N := 19) hx hb hts hwX5 hown hK hP 0 rfl rfl 13 (by decide) (hts (.fieldLink RX5 38 "WaitOrWalkOnModel" "field" "[I") (by decide +kernel)) (fun _ h9 => h9) rfl dX5_come_79 ?_
    refine lv_iconst (v := 0) hx hb dX5_come_82 (by decide) ?_
    refine va_iald (D := D) hx hb hK hP 2 0 rfl rfl (by unfold vp_in; decide +kernel) dX5_come_83 ?_
    refine xv_int (y := ff 0) rfl ?_
    refine va_iast (D := D) hx hb hK hP hD hS 1 0 rfl rfl (by unfold vp_in; decide +kernel) dX5_come_84 (fun H locs hP hD hS => ?_)
    have hP : va_P D vwCl [(g0, .inr (5, [.ref ra, .ref wa, .ref ta, .int kpt, .ref ma, .int mkd, .ref pa, .int tpd, .int at0, .int wel, .ref ba, .ref ka, .int srt, .ref fa, .ref qa, .ref ea, .ref za, .ref ya, .int wks])), (wa, .inl (cI, 70, .inl (upd nw 1 (ff 0)))), (fa, .inl (cI, 15, .inl ff))] H := hP
    have hD : va_D A [(g0, .inr (5, [.ref ra, .ref wa, .ref ta, .int kpt, .ref ma, .int mkd, .ref pa, .int tpd, .int at0, .int wel, .ref ba, .ref ka, .int srt, .ref fa, .ref qa, .ref ea, .ref za, .ref ya, .int wks])), (wa, .inl (cI, 70, .inl (upd nw 1 (ff 0)))), (fa, .inl (cI, 15, .inl ff))] := hD
    refine lv_goto (tgt := 182) hx hb dX5_come_85 (by decide) ?_
    have hP9 := hP.sub (ws' := [(g0, .inr (5, [.ref ra, .ref wa, .ref ta, .int kpt, .ref ma, .int mkd, .ref pa, .int tpd, .int at0, .int wel, .ref ba, .ref ka, .int srt, .ref fa, .ref qa, .ref ea, .ref za, .ref ya, .int wks])), (wa, .inl (cI, 70, .inl (upd nw 1 (ff 0)))), (fa, .inl (cI, 15, .inl ff))]) [0, 1, 2] rfl
    have hD9 := hD.sub (ws' := [(g0, .inr (5, [.ref ra, .ref wa, .ref ta, .int kpt, .ref ma, .int mkd, .ref pa, .int tpd, .int at0, .int wel, .ref ba, .ref ka, .int srt, .ref fa, .ref qa, .ref ea, .ref za, .ref ya, .int wks])), (wa, .inl (cI, 70, .inl (upd nw 1 (ff 0)))), (fa, .inl (cI, 15, .inl ff))]) [0, 1, 2] (by decide) rfl
    have hE9 : ([(g0, .inr (5, [.ref ra, .ref wa, .ref ta, .int kpt, .ref ma, .int mkd, .ref pa, .int tpd, .int at0, .int wel, .ref ba, .ref ka, .int srt, .ref fa, .ref qa, .ref ea, .ref za, .ref ya, .int wks])), (wa, .inl (cI, 70, .inl (upd nw 1 (ff 0)))), (fa, .inl (cI, 15, .inl ff))] : va_W) = [(g0, .inr (5, [.ref ra, .ref wa, .ref ta, .int kpt, .ref ma, .int mkd, .ref pa, .int tpd, .int at0, .int wel, .ref ba, .ref ka, .int srt, .ref fa, .ref qa, .ref ea, .ref za, .ref ya, .int wks])), (wa, .inl (cI, 70, .inl (xCm srt ff nw st ln))), (fa, .inl (cI, 15, .inl ff))] := by simp [xCm, c_1, c_2]
    exact W.vret hx hb hr (fun t ht hW => ⟨⟨(), rfl, trivial, by rw [ht]; exact hE9 ▸ hP9, hE9 ▸ hD9⟩, hS.F ht⟩) hS.2.2 dX5_come_182
  by_cases c_3 : srt = 2
  · refine lv_tableIn (off := 84) (tgt := 88) hx hb dX5_come_4 (by rw [c_3]; decide +kernel) (by rw [c_3]; decide +kernel) (by rw [c_3]; decide +kernel) (by decide) ?_
    refine lv_aload_n hx hb dX5_come_88 rfl (lv_at hl 0 rfl) ?_
    refine va_get (D := D) (ci := 5) (v := .ref wa) (C := RX5) (T := TX5) (N := 19) hx hb hts hwX5 hown hK hP 0 rfl rfl 1 (by decide) (hts (.fieldLink RX5 19 "WaitOrWalkOnModel" "now" "[I") (by decide +kernel)) (fun _ h9 => h9) rfl dX5_come_89 ?_
    refine lv_iconst (v := 2) hx hb dX5_come_92 (by decide) ?_
    refine lv_aload_n hx hb dX5_come_93 rfl (lv_at hl 0 rfl) ?_
    refine va_get (D := D) (ci := 5) (v := .ref fa) (C := RX5) (T := TX5) (N := 19) hx hb hts hwX5 hown hK hP 0 rfl rfl 13 (by decide) (hts (.fieldLink RX5 38 "WaitOrWalkOnModel" "field" "[I") (by decide +kernel)) (fun _ h9 => h9) rfl dX5_come_94 ?_
    refine lv_iconst (v := 0) hx hb dX5_come_97 (by decide) ?_
    refine va_iald (D := D) hx hb hK hP 2 0 rfl rfl (by unfold vp_in; decide +kernel) dX5_come_98 ?_
    refine xv_int (y := ff 0) rfl ?_
    refine va_iast (D := D) hx hb hK hP hD hS 1 0 rfl rfl (by unfold vp_in; decide +kernel) dX5_come_99 (fun H locs hP hD hS => ?_)
    have hP : va_P D vwCl [(g0, .inr (5, [.ref ra, .ref wa, .ref ta, .int kpt, .ref ma, .int mkd, .ref pa, .int tpd, .int at0, .int wel, .ref ba, .ref ka, .int srt, .ref fa, .ref qa, .ref ea, .ref za, .ref ya, .int wks])), (wa, .inl (cI, 70, .inl (upd nw 2 (ff 0)))), (fa, .inl (cI, 15, .inl ff))] H := hP
    have hD : va_D A [(g0, .inr (5, [.ref ra, .ref wa, .ref ta, .int kpt, .ref ma, .int mkd, .ref pa, .int tpd, .int at0, .int wel, .ref ba, .ref ka, .int srt, .ref fa, .ref qa, .ref ea, .ref za, .ref ya, .int wks])), (wa, .inl (cI, 70, .inl (upd nw 2 (ff 0)))), (fa, .inl (cI, 15, .inl ff))] := hD
    refine lv_goto (tgt := 182) hx hb dX5_come_100 (by decide) ?_
    have hP9 := hP.sub (ws' := [(g0, .inr (5, [.ref ra, .ref wa, .ref ta, .int kpt, .ref ma, .int mkd, .ref pa, .int tpd, .int at0, .int wel, .ref ba, .ref ka, .int srt, .ref fa, .ref qa, .ref ea, .ref za, .ref ya, .int wks])), (wa, .inl (cI, 70, .inl (upd nw 2 (ff 0)))), (fa, .inl (cI, 15, .inl ff))]) [0, 1, 2] rfl
    have hD9 := hD.sub (ws' := [(g0, .inr (5, [.ref ra, .ref wa, .ref ta, .int kpt, .ref ma, .int mkd, .ref pa, .int tpd, .int at0, .int wel, .ref ba, .ref ka, .int srt, .ref fa, .ref qa, .ref ea, .ref za, .ref ya, .int wks])), (wa, .inl (cI, 70, .inl (upd nw 2 (ff 0)))), (fa, .inl (cI, 15, .inl ff))]) [0, 1, 2] (by decide) rfl
    have hE9 : ([(g0, .inr (5, [.ref ra, .ref wa, .ref ta, .int kpt, .ref ma, .int mkd, .ref pa, .int tpd, .int at0, .int wel, .ref ba, .ref ka, .int srt, .ref fa, .ref qa, .ref ea, .ref za, .ref ya, .int wks])), (wa, .inl (cI, 70, .inl (upd nw 2 (ff 0)))), (fa, .inl (cI, 15, .inl ff))] : va_W) = [(g0, .inr (5, [.ref ra, .ref wa, .ref ta, .int kpt, .ref ma, .int mkd, .ref pa, .int tpd, .int at0, .int wel, .ref ba, .ref ka, .int srt, .ref fa, .ref qa, .ref ea, .ref za, .ref ya, .int wks])), (wa, .inl (cI, 70, .inl (xCm srt ff nw st ln))), (fa, .inl (cI, 15, .inl ff))] := by simp [xCm, c_1, c_2, c_3]
    exact W.vret hx hb hr (fun t ht hW => ⟨⟨(), rfl, trivial, by rw [ht]; exact hE9 ▸ hP9, hE9 ▸ hD9⟩, hS.F ht⟩) hS.2.2 dX5_come_182
  by_cases c_4 : srt = 3
  · refine lv_tableIn (off := 99) (tgt := 103) hx hb dX5_come_4 (by rw [c_4]; decide +kernel) (by rw [c_4]; decide +kernel) (by rw [c_4]; decide +kernel) (by decide) ?_
    refine lv_iconst (v := 0) hx hb dX5_come_103 (by decide) ?_
    refine lv_istore_n (lv' := [(1, .int 0), (0, .ref g0)]) hx hb dX5_come_104 rfl hl (by decide) rfl (fun ls hl => ?_)
    refine xl_loopH (σ := Nat × (Nat → Int32)) (fun n q H locs ls => lv_has ls 2 [(1, .int (nI q.1)), (0, .ref g0)] ∧ va_P D vwCl [(g0, .inr (5, [.ref ra, .ref wa, .ref ta, .int kpt, .ref ma, .int mkd, .ref pa, .int tpd, .int at0, .int wel, .ref ba, .ref ka, .int srt, .ref fa, .ref qa, .ref ea, .ref za, .ref ya, .int wks])), (wa, .inl (cI, 70, .inl q.2)), (fa, .inl (cI, 15, .inl ff))] H ∧ va_D A [(g0, .inr (5, [.ref ra, .ref wa, .ref ta, .int kpt, .ref ma, .int mkd, .ref pa, .int tpd, .int at0, .int wel, .ref ba, .ref ka, .int srt, .ref fa, .ref qa, .ref ea, .ref za, .ref ya, .int wks])), (wa, .inl (cI, 70, .inl q.2)), (fa, .inl (cI, 15, .inl ff))] ∧ va_S A s.heap H locs ∧ (15 - q.1 < n) ∧ (q.1 ≤ 15) ∧ (q.2 = xCw ff nw (20 + 16 * ln) q.1)) (16) (0, nw) ⟨lv_sub hl [0, 1] rfl, hP.sub [0, 1, 2] rfl, hD.sub [0, 1, 2] (by decide) rfl, hS, by (try dsimp only); exact ⟨by omega, by omega, rfl⟩⟩ (fun q H lc ls h => absurd h.2.2.2.2.1 (Nat.not_lt_zero _)) ?_
    intro n_105 q_105 H locs ls ih_105 hI_105
    obtain ⟨hl, hP, hD, hS, hI_105⟩ := hI_105
    obtain ⟨k, g⟩ := q_105
    obtain ⟨h1, h2, h3⟩ := hI_105
    try dsimp only at hl hP hD h1 h2 h3
    refine lv_iload_n hx hb dX5_come_105 rfl (lv_at hl 0 rfl) ?_
    refine lv_bipush (v := 15) hx hb dX5_come_106 (by decide) ?_
    refine lv_icmp_ge (tgt := 142) hx hb dX5_come_108 (by decide) (fun c_5 => ?_) (fun c_5 => ?_)
    · refine lv_aload_n hx hb dX5_come_142 rfl (lv_at hl 1 rfl) ?_
      refine va_get (D := D) (ci := 5) (v := .ref wa) (C := RX5) (T := TX5) (N := 19) hx hb hts hwX5 hown hK hP 0 rfl rfl 1 (by decide) (hts (.fieldLink RX5 19 "WaitOrWalkOnModel" "now" "[I") (by decide +kernel)) (fun _ h9 => h9) rfl dX5_come_143 ?_
      refine lv_iconst (v := 3) hx hb dX5_come_146 (by decide) ?_
      refine lv_dup2_11 hx hb dX5_come_147 rfl rfl ?_
      refine va_iald (D := D) hx hb hK hP 1 0 rfl rfl (by unfold vp_in; decide +kernel) dX5_come_148 ?_
      refine xv_int (y := g 3) rfl ?_
      refine xv_int (y := nI ln) (by rw [h3]; exact (xCw_lo ff nw (by omega) k).trans hn3) ?_
      refine lv_iconst (v := 1) hx hb dX5_come_149 (by decide) ?_
      refine lv_iadd hx hb dX5_come_150 ?_
      refine xv_int (y := nI (ln + 1)) (nI_1 ln) ?_
      refine va_iast (D := D) hx hb hK hP hD hS 1 0 rfl rfl (by unfold vp_in; decide +kernel) dX5_come_151 (fun H locs hP hD hS => ?_)
      have hP : va_P D vwCl [(g0, .inr (5, [.ref ra, .ref wa, .ref ta, .int kpt, .ref ma, .int mkd, .ref pa, .int tpd, .int at0, .int wel, .ref ba, .ref ka, .int srt, .ref fa, .ref qa, .ref ea, .ref za, .ref ya, .int wks])), (wa, .inl (cI, 70, .inl (upd g 3 (nI (ln + 1))))), (fa, .inl (cI, 15, .inl ff))] H := hP
      have hD : va_D A [(g0, .inr (5, [.ref ra, .ref wa, .ref ta, .int kpt, .ref ma, .int mkd, .ref pa, .int tpd, .int at0, .int wel, .ref ba, .ref ka, .int srt, .ref fa, .ref qa, .ref ea, .ref za, .ref ya, .int wks])), (wa, .inl (cI, 70, .inl (upd g 3 (nI (ln + 1))))), (fa, .inl (cI, 15, .inl ff))] := hD
      refine lv_goto (tgt := 182) hx hb dX5_come_152 (by decide) ?_
      have hP9 := hP.sub (ws' := [(g0, .inr (5, [.ref ra, .ref wa, .ref ta, .int kpt, .ref ma, .int mkd, .ref pa, .int tpd, .int at0, .int wel, .ref ba, .ref ka, .int srt, .ref fa, .ref qa, .ref ea, .ref za, .ref ya, .int wks])), (wa, .inl (cI, 70, .inl (upd g 3 (nI (ln + 1))))), (fa, .inl (cI, 15, .inl ff))]) [0, 1, 2] rfl
      have hD9 := hD.sub (ws' := [(g0, .inr (5, [.ref ra, .ref wa, .ref ta, .int kpt, .ref ma, .int mkd, .ref pa, .int tpd, .int at0, .int wel, .ref ba, .ref ka, .int srt, .ref fa, .ref qa, .ref ea, .ref za, .ref ya, .int wks])), (wa, .inl (cI, 70, .inl (upd g 3 (nI (ln + 1))))), (fa, .inl (cI, 15, .inl ff))]) [0, 1, 2] (by decide) rfl
      have hE9 : ([(g0, .inr (5, [.ref ra, .ref wa, .ref ta, .int kpt, .ref ma, .int mkd, .ref pa, .int tpd, .int at0, .int wel, .ref ba, .ref ka, .int srt, .ref fa, .ref qa, .ref ea, .ref za, .ref ya, .int wks])), (wa, .inl (cI, 70, .inl (upd g 3 (nI (ln + 1))))), (fa, .inl (cI, 15, .inl ff))] : va_W) = [(g0, .inr (5, [.ref ra, .ref wa, .ref ta, .int kpt, .ref ma, .int mkd, .ref pa, .int tpd, .int at0, .int wel, .ref ba, .ref ka, .int srt, .ref fa, .ref qa, .ref ea, .ref za, .ref ya, .int wks])), (wa, .inl (cI, 70, .inl (xCm srt ff nw st ln))), (fa, .inl (cI, 15, .inl ff))] := by have w := mt (nI_ltI (a := k) (b := 15) (by omega) (by omega)).mpr (Int32.not_lt.mpr c_5); obtain rfl : k = 15 := (by omega); rw [h3]; simp [xCm, c_1, c_2, c_3, c_4]
      exact W.vret hx hb hr (fun t ht hW => ⟨⟨(), rfl, trivial, by rw [ht]; exact hE9 ▸ hP9, hE9 ▸ hD9⟩, hS.F ht⟩) hS.2.2 dX5_come_182
    · refine lv_aload_n hx hb dX5_come_111 rfl (lv_at hl 1 rfl) ?_
      refine va_get (D := D) (ci := 5) (v := .ref wa) (C := RX5) (T := TX5) (N := 19) hx hb hts hwX5 hown hK hP 0 rfl rfl 1 (by decide) (hts (.fieldLink RX5 19 "WaitOrWalkOnModel" "now" "[I") (by decide +kernel)) (fun _ h9 => h9) rfl dX5_come_112 ?_
      refine lv_bipush (v := 20) hx hb dX5_come_115 (by decide) ?_
      refine lv_bipush (v := 16) hx hb dX5_come_117 (by decide) ?_
      refine lv_aload_n hx hb dX5_come_119 rfl (lv_at hl 1 rfl) ?_
      refine va_get (D := D) (ci := 5) (v := .ref wa) (C := RX5) (T := TX5) (N := 19) hx hb hts hwX5 hown hK hP 0 rfl rfl 1 (by decide) (hts (.fieldLink RX5 19 "WaitOrWalkOnModel" "now" "[I") (by decide +kernel)) (fun _ h9 => h9) rfl dX5_come_120 ?_
      refine lv_iconst (v := 3) hx hb dX5_come_123 (by decide) ?_
      refine va_iald (D := D) hx hb hK hP 1 0 rfl rfl (by unfold vp_in; decide +kernel) dX5_come_124 ?_
      refine xv_int (y := g 3) rfl ?_
      refine xv_int (y := nI ln) (by rw [h3]; exact (xCw_lo ff nw (by omega) k).trans hn3) ?_
      refine lv_imul hx hb dX5_come_125 ?_
      refine xv_int (y := nI (16 * ln)) (pk_mul 16 ln) ?_
      refine lv_iadd hx hb dX5_come_126 ?_
      refine xv_int (y := nI (20 + 16 * ln)) (nI_add 20 _) ?_
      refine lv_iload_n hx hb dX5_come_127 rfl (lv_at hl 0 rfl) ?_
      refine lv_iadd hx hb dX5_come_128 ?_
      refine xv_int (y := nI (20 + 16 * ln + k)) (nI_add _ k) ?_
      refine lv_aload_n hx hb dX5_come_129 rfl (lv_at hl 1 rfl) ?_
      refine va_get (D := D) (ci := 5) (v := .ref fa) (C := RX5) (T := TX5) (N := 19) hx hb hts hwX5 hown hK hP 0 rfl rfl 13 (by decide) (hts (.fieldLink RX5 38 "WaitOrWalkOnModel" "field" "[I") (by decide +kernel)) (fun _ h9 => h9) rfl dX5_come_130 ?_
      refine lv_iload_n hx hb dX5_come_133 rfl (lv_at hl 0 rfl) ?_
      refine va_iald (D := D) hx hb hK hP 2 0 rfl rfl (vp_in_nI ((nI_ltI (a := k) (b := 15) (by omega) (by omega)).mp (Int32.not_le.mp c_5)) (by decide)) dX5_come_134 ?_
      refine xv_int (y := ff k) (congrArg ff (nI_clamp (by omega))) ?_
      refine va_iast (D := D) hx hb hK hP hD hS 1 0 rfl rfl (vp_in_nI (by have w := (nI_ltI (a := k) (b := 15) (by omega) (by omega)).mp (Int32.not_le.mp c_5); have w2 := hl3 c_4; omega) (by decide)) dX5_come_135 (fun H locs hP hD hS => ?_)
      rw [nI_clamp (by omega)] at hP hD
      have hP : va_P D vwCl [(g0, .inr (5, [.ref ra, .ref wa, .ref ta, .int kpt, .ref ma, .int mkd, .ref pa, .int tpd, .int at0, .int wel, .ref ba, .ref ka, .int srt, .ref fa, .ref qa, .ref ea, .ref za, .ref ya, .int wks])), (wa, .inl (cI, 70, .inl (upd g (20 + 16 * ln + k) (ff k)))), (fa, .inl (cI, 15, .inl ff))] H := hP
      have hD : va_D A [(g0, .inr (5, [.ref ra, .ref wa, .ref ta, .int kpt, .ref ma, .int mkd, .ref pa, .int tpd, .int at0, .int wel, .ref ba, .ref ka, .int srt, .ref fa, .ref qa, .ref ea, .ref za, .ref ya, .int wks])), (wa, .inl (cI, 70, .inl (upd g (20 + 16 * ln + k) (ff k)))), (fa, .inl (cI, 15, .inl ff))] := hD
      refine lv_iinc (v := nI (k + 1)) (lv' := [(1, .int (nI (k + 1))), (0, .ref g0)]) hx hb dX5_come_136 hl (k := 0) rfl (nI_1 k) (by decide) rfl (fun ls hl => ?_)
      refine lv_goto (tgt := 105) hx hb dX5_come_139 (by decide) ?_
      have w := (nI_ltI (a := k) (b := 15) (by omega) (by omega)).mp (Int32.not_le.mp c_5)
      exact ih_105 (k + 1, upd g (20 + 16 * ln + k) (ff k)) _ _ _ ⟨lv_sub hl [0, 1] rfl, hP.sub [0, 1, 2] rfl, hD.sub [0, 1, 2] (by decide) rfl, hS, by (try dsimp only); exact ⟨by omega, by omega, by rw [h3]; rfl⟩⟩
  by_cases c_6 : srt = 4
  · refine lv_tableIn (off := 151) (tgt := 155) hx hb dX5_come_4 (by rw [c_6]; decide +kernel) (by rw [c_6]; decide +kernel) (by rw [c_6]; decide +kernel) (by decide) ?_
    refine lv_aload_n hx hb dX5_come_155 rfl (lv_at hl 0 rfl) ?_
    refine va_get (D := D) (ci := 5) (v := .ref wa) (C := RX5) (T := TX5) (N := 19) hx hb hts hwX5 hown hK hP 0 rfl rfl 1 (by decide) (hts (.fieldLink RX5 19 "WaitOrWalkOnModel" "now" "[I") (by decide +kernel)) (fun _ h9 => h9) rfl dX5_come_156 ?_
    refine lv_iconst (v := 4) hx hb dX5_come_159 (by decide) ?_
    refine lv_aload_n hx hb dX5_come_160 rfl (lv_at hl 0 rfl) ?_
    refine va_get (D := D) (ci := 5) (v := .ref fa) (C := RX5) (T := TX5) (N := 19) hx hb hts hwX5 hown hK hP 0 rfl rfl 13 (by decide) (hts (.fieldLink RX5 38 "WaitOrWalkOnModel" "field" "[I") (by decide +kernel)) (fun _ h9 => h9) rfl dX5_come_161 ?_
    refine lv_iconst (v := 0) hx hb dX5_come_164 (by decide) ?_
    refine va_iald (D := D) hx hb hK hP 2 0 rfl rfl (by unfold vp_in; decide +kernel) dX5_come_165 ?_
    refine xv_int (y := ff 0) rfl ?_
    refine va_iast (D := D) hx hb hK hP hD hS 1 0 rfl rfl (by unfold vp_in; decide +kernel) dX5_come_166 (fun H locs hP hD hS => ?_)
    have hP : va_P D vwCl [(g0, .inr (5, [.ref ra, .ref wa, .ref ta, .int kpt, .ref ma, .int mkd, .ref pa, .int tpd, .int at0, .int wel, .ref ba, .ref ka, .int srt, .ref fa, .ref qa, .ref ea, .ref za, .ref ya, .int wks])), (wa, .inl (cI, 70, .inl (upd nw 4 (ff 0)))), (fa, .inl (cI, 15, .inl ff))] H := hP
    have hD : va_D A [(g0, .inr (5, [.ref ra, .ref wa, .ref ta, .int kpt, .ref ma, .int mkd, .ref pa, .int tpd, .int at0, .int wel, .ref ba, .ref ka, .int srt, .ref fa, .ref qa, .ref ea, .ref za, .ref ya, .int wks])), (wa, .inl (cI, 70, .inl (upd nw 4 (ff 0)))), (fa, .inl (cI, 15, .inl ff))] := hD
    refine lv_goto (tgt := 182) hx hb dX5_come_167 (by decide) ?_
    have hP9 := hP.sub (ws' := [(g0, .inr (5, [.ref ra, .ref wa, .ref ta, .int kpt, .ref ma, .int mkd, .ref pa, .int tpd, .int at0, .int wel, .ref ba, .ref ka, .int srt, .ref fa, .ref qa, .ref ea, .ref za, .ref ya, .int wks])), (wa, .inl (cI, 70, .inl (upd nw 4 (ff 0)))), (fa, .inl (cI, 15, .inl ff))]) [0, 1, 2] rfl
    have hD9 := hD.sub (ws' := [(g0, .inr (5, [.ref ra, .ref wa, .ref ta, .int kpt, .ref ma, .int mkd, .ref pa, .int tpd, .int at0, .int wel, .ref ba, .ref ka, .int srt, .ref fa, .ref qa, .ref ea, .ref za, .ref ya, .int wks])), (wa, .inl (cI, 70, .inl (upd nw 4 (ff 0)))), (fa, .inl (cI, 15, .inl ff))]) [0, 1, 2] (by decide) rfl
    have hE9 : ([(g0, .inr (5, [.ref ra, .ref wa, .ref ta, .int kpt, .ref ma, .int mkd, .ref pa, .int tpd, .int at0, .int wel, .ref ba, .ref ka, .int srt, .ref fa, .ref qa, .ref ea, .ref za, .ref ya, .int wks])), (wa, .inl (cI, 70, .inl (upd nw 4 (ff 0)))), (fa, .inl (cI, 15, .inl ff))] : va_W) = [(g0, .inr (5, [.ref ra, .ref wa, .ref ta, .int kpt, .ref ma, .int mkd, .ref pa, .int tpd, .int at0, .int wel, .ref ba, .ref ka, .int srt, .ref fa, .ref qa, .ref ea, .ref za, .ref ya, .int wks])), (wa, .inl (cI, 70, .inl (xCm srt ff nw st ln))), (fa, .inl (cI, 15, .inl ff))] := by simp [xCm, c_1, c_2, c_3, c_4, c_6]
    exact W.vret hx hb hr (fun t ht hW => ⟨⟨(), rfl, trivial, by rw [ht]; exact hE9 ▸ hP9, hE9 ▸ hD9⟩, hS.F ht⟩) hS.2.2 dX5_come_182
  refine lv_tableOut (tgt := 170) hx hb dX5_come_4 (by have q_1 : ¬ (srt).toInt = 0 := mt (xi_eq (srt) 0).mpr c_1; have q_2 : ¬ (srt).toInt = 1 := mt (xi_eq (srt) 1).mpr c_2; have q_3 : ¬ (srt).toInt = 2 := mt (xi_eq (srt) 2).mpr c_3; have q_4 : ¬ (srt).toInt = 3 := mt (xi_eq (srt) 3).mpr c_4; have q_6 : ¬ (srt).toInt = 4 := mt (xi_eq (srt) 4).mpr c_6; omega) (by decide) ?_
  refine lv_aload_n hx hb dX5_come_170 rfl (lv_at hl 0 rfl) ?_
  refine va_get (D := D) (ci := 5) (v := .ref wa) (C := RX5) (T := TX5) (N := 19) hx hb hts hwX5 hown hK hP 0 rfl rfl 1 (by decide) (hts (.fieldLink RX5 19 "WaitOrWalkOnModel" "now" "[I") (by decide +kernel)) (fun _ h9 => h9) rfl dX5_come_171 ?_
  refine lv_iconst (v := 5) hx hb dX5_come_174 (by decide) ?_
  refine lv_aload_n hx hb dX5_come_175 rfl (lv_at hl 0 rfl) ?_
  refine va_get (D := D) (ci := 5) (v := .ref fa) (C := RX5) (T := TX5) (N := 19) hx hb hts hwX5 hown hK hP 0 rfl rfl 13 (by decide) (hts (.fieldLink RX5 38 "WaitOrWalkOnModel" "field" "[I") (by decide +kernel)) (fun _ h9 => h9) rfl dX5_come_176 ?_
  refine lv_iconst (v := 0) hx hb dX5_come_179 (by decide) ?_
  refine va_iald (D := D) hx hb hK hP 2 0 rfl rfl (by unfold vp_in; decide +kernel) dX5_come_180 ?_
  refine xv_int (y := ff 0) rfl ?_
  refine va_iast (D := D) hx hb hK hP hD hS 1 0 rfl rfl (by unfold vp_in; decide +kernel) dX5_come_181 (fun H locs hP hD hS => ?_)
  have hP : va_P D vwCl [(g0, .inr (5, [.ref ra, .ref wa, .ref ta, .int kpt, .ref ma, .int mkd, .ref pa, .int tpd, .int at0, .int wel, .ref ba, .ref ka, .int srt, .ref fa, .ref qa, .ref ea, .ref za, .ref ya, .int wks])), (wa, .inl (cI, 70, .inl (upd nw 5 (ff 0)))), (fa, .inl (cI, 15, .inl ff))] H := hP
  have hD : va_D A [(g0, .inr (5, [.ref ra, .ref wa, .ref ta, .int kpt, .ref ma, .int mkd, .ref pa, .int tpd, .int at0, .int wel, .ref ba, .ref ka, .int srt, .ref fa, .ref qa, .ref ea, .ref za, .ref ya, .int wks])), (wa, .inl (cI, 70, .inl (upd nw 5 (ff 0)))), (fa, .inl (cI, 15, .inl ff))] := hD
  have hP9 := hP.sub (ws' := [(g0, .inr (5, [.ref ra, .ref wa, .ref ta, .int kpt, .ref ma, .int mkd, .ref pa, .int tpd, .int at0, .int wel, .ref ba, .ref ka, .int srt, .ref fa, .ref qa, .ref ea, .ref za, .ref ya, .int wks])), (wa, .inl (cI, 70, .inl (upd nw 5 (ff 0)))), (fa, .inl (cI, 15, .inl ff))]) [0, 1, 2] rfl
  have hD9 := hD.sub (ws' := [(g0, .inr (5, [.ref ra, .ref wa, .ref ta, .int kpt, .ref ma, .int mkd, .ref pa, .int tpd, .int at0, .int wel, .ref ba, .ref ka, .int srt, .ref fa, .ref qa, .ref ea, .ref za, .ref ya, .int wks])), (wa, .inl (cI, 70, .inl (upd nw 5 (ff 0)))), (fa, .inl (cI, 15, .inl ff))]) [0, 1, 2] (by decide) rfl
  have hE9 : ([(g0, .inr (5, [.ref ra, .ref wa, .ref ta, .int kpt, .ref ma, .int mkd, .ref pa, .int tpd, .int at0, .int wel, .ref ba, .ref ka, .int srt, .ref fa, .ref qa, .ref ea, .ref za, .ref ya, .int wks])), (wa, .inl (cI, 70, .inl (upd nw 5 (ff 0)))), (fa, .inl (cI, 15, .inl ff))] : va_W) = [(g0, .inr (5, [.ref ra, .ref wa, .ref ta, .int kpt, .ref ma, .int mkd, .ref pa, .int tpd, .int at0, .int wel, .ref ba, .ref ka, .int srt, .ref fa, .ref qa, .ref ea, .ref za, .ref ya, .int wks])), (wa, .inl (cI, 70, .inl (xCm srt ff nw st ln))), (fa, .inl (cI, 15, .inl ff))] := by simp [xCm, c_1, c_2, c_3, c_4, c_6]
  exact W.vret hx hb hr (fun t ht hW => ⟨⟨(), rfl, trivial, by rw [ht]; exact hE9 ▸ hP9, hE9 ▸ hD9⟩, hS.F ht⟩) hS.2.2 dX5_come_182
