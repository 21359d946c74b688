set_option maxHeartbeats 4000000 in
set_option maxRecDepth 100000 in
theorem g_X5_isFigure (l : Launch) (D : va_G) (cI cL cZ cC : ClassId) (g0 : Nat) (ra : Nat) (wa : Nat) (ta : Nat) (ma : Nat) (pa : Nat) (ba : Nat) (ka : Nat) (fa : Nat) (qa : Nat) (ea : Nat) (za : Nat) (ya : Nat) (kpt : Int32) (mkd : Int32) (srt : Int32) (wks : Int32) (tn : Nat) (p9 : Nat × Int32) (lt : Nat → Int32) (htn : tn ≤ 96) (hp9 : p9.1 ≤ tn) : Met l yX5_isFigure wsX5_isFigure ({ frames := 0, cells := 0, slots := 0, locals := 0 } : Room) (xPc D [.ref g0] [(g0, .inr (5, [.ref ra, .ref wa, .ref ta, .int kpt, .ref ma, .int mkd, .ref pa, .int (nI tn), .int (nI p9.1), .int p9.2, .ref ba, .ref ka, .int srt, .ref fa, .ref qa, .ref ea, .ref za, .ref ya, .int wks])), (pa, .inl (cI, 96, .inl lt))] (xTy cI cL cZ cC)) (vp_Si (fun r : Int32 => r = xFg lt tn p9)) 0 0 (fun _ => False) := by
  refine Met.ofW (cc := cX5_isFigure) (maxL := 1) (ret := (some .boolean)) (by decide) rfl ?_
  intro p e s m args below meth c s₁ B hml hv
  obtain ⟨rfl, hP, hK⟩ := hv
  have hx := B.exec
  have hb := B.bytes
  have hr := B.returns
  have hts := atoms_spec (ws := wsX5_isFigure) B.pre
  have hown : s.vm.findClass RX5 = some m.cls := findClass_of_methodNamed B.named
  have hlocks := B.notSynchronized
  have hwX5 : ∀ w ∈ u_ws RX5 TX5 19, w ∈ wsX5_isFigure := fun _ h => List.mem_cons_of_mem _ (List.mem_append_right _ h)
  have hl := lv_entry ([.ref g0]) (n := 1) (Nat.le_of_ble_eq_true rfl)
  rw [lg_entry_eq]
  generalize (lg_sl ([.ref g0]) ++ List.replicate (1 - (lg_sl ([.ref g0])).length) Slot.unset).toArray = ls at hl ⊢
  have hl : lv_has ls 1 [(0, .ref g0)] := hl
  refine lv_aload_n hx hb dX5_isFigure_0 rfl (lv_at hl 0 rfl) ?_
  refine va_get (D := D) (ci := 5) (v := .int p9.2) (C := RX5) (T := TX5) (N := 19) hx hb hts hwX5 hown hK hP 0 rfl rfl 9 (by decide) (hts (.fieldLink RX5 61 "WaitOrWalkOnModel" "well" "Z") (by decide +kernel)) (fun _ h9 => h9) rfl dX5_isFigure_1 ?_
  refine lv_if_eq (tgt := 50) hx hb dX5_isFigure_4 (by decide) (fun c_1 => ?_) (fun c_1 => ?_)
  · refine lv_iconst (v := 0) hx hb dX5_isFigure_50 (by decide) ?_
    exact W.zret (v := 0) (ty := .boolean) hx hb hr (by decide +kernel) (fun t ht hW => ⟨_, rfl, (by rw [xFg, if_pos c_1]), ht⟩) (fun _ h => absurd h List.not_mem_nil) dX5_isFigure_51
  · refine lv_aload_n hx hb dX5_isFigure_7 rfl (lv_at hl 0 rfl) ?_
    refine va_get (D := D) (ci := 5) (v := .int (nI p9.1)) (C := RX5) (T := TX5) (N := 19) hx hb hts hwX5 hown hK hP 0 rfl rfl 8 (by decide) (hts (.fieldLink RX5 64 "WaitOrWalkOnModel" "at" "I") (by decide +kernel)) (fun _ h9 => h9) rfl dX5_isFigure_8 ?_
    refine lv_aload_n hx hb dX5_isFigure_11 rfl (lv_at hl 0 rfl) ?_
    refine va_get (D := D) (ci := 5) (v := .int (nI tn)) (C := RX5) (T := TX5) (N := 19) hx hb hts hwX5 hown hK hP 0 rfl rfl 7 (by decide) (hts (.fieldLink RX5 57 "WaitOrWalkOnModel" "taped" "I") (by decide +kernel)) (fun _ h9 => h9) rfl dX5_isFigure_12 ?_
    refine lv_icmp_ge (tgt := 50) hx hb dX5_isFigure_15 (by decide) (fun c_2 => ?_) (fun c_2 => ?_)
    · refine lv_iconst (v := 0) hx hb dX5_isFigure_50 (by decide) ?_
      exact W.zret (v := 0) (ty := .boolean) hx hb hr (by decide +kernel) (fun t ht hW => ⟨_, rfl, (by have w := mt (nI_ltI (a := p9.1) (b := tn) (by omega) (by omega)).mpr (Int32.not_lt.mpr c_2); rw [xFg, if_neg c_1, if_neg w]), ht⟩) (fun _ h => absurd h List.not_mem_nil) dX5_isFigure_51
    · refine lv_aload_n hx hb dX5_isFigure_18 rfl (lv_at hl 0 rfl) ?_
      refine va_get (D := D) (ci := 5) (v := .ref pa) (C := RX5) (T := TX5) (N := 19) hx hb hts hwX5 hown hK hP 0 rfl rfl 6 (by decide) (hts (.fieldLink RX5 28 "WaitOrWalkOnModel" "tape" "[I") (by decide +kernel)) (fun _ h9 => h9) rfl dX5_isFigure_19 ?_
      refine lv_aload_n hx hb dX5_isFigure_22 rfl (lv_at hl 0 rfl) ?_
      refine va_get (D := D) (ci := 5) (v := .int (nI p9.1)) (C := RX5) (T := TX5) (N := 19) hx hb hts hwX5 hown hK hP 0 rfl rfl 8 (by decide) (hts (.fieldLink RX5 64 "WaitOrWalkOnModel" "at" "I") (by decide +kernel)) (fun _ h9 => h9) rfl dX5_isFigure_23 ?_
      refine va_iald (D := D) hx hb hK hP 1 0 rfl rfl (vp_in_nI (by have w := (nI_ltI (a := p9.1) (b := tn) (by omega) (by omega)).mp (Int32.not_le.mp c_2); omega) (by decide)) dX5_isFigure_26 ?_
      refine xv_int (y := lt p9.1) (congrArg lt (nI_clamp (by omega))) ?_
      refine lv_bipush (v := 48) hx hb dX5_isFigure_27 (by decide) ?_
      refine lv_icmp_lt (tgt := 50) hx hb dX5_isFigure_29 (by decide) (fun c_3 => ?_) (fun c_3 => ?_)
      · refine lv_iconst (v := 0) hx hb dX5_isFigure_50 (by decide) ?_
        exact W.zret (v := 0) (ty := .boolean) hx hb hr (by decide +kernel) (fun t ht hW => ⟨_, rfl, (by have w := (nI_ltI (a := p9.1) (b := tn) (by omega) (by omega)).mp (Int32.not_le.mp c_2); rw [xFg, if_neg c_1, if_pos w, if_pos c_3]), ht⟩) (fun _ h => absurd h List.not_mem_nil) dX5_isFigure_51
      · refine lv_aload_n hx hb dX5_isFigure_32 rfl (lv_at hl 0 rfl) ?_
        refine va_get (D := D) (ci := 5) (v := .ref pa) (C := RX5) (T := TX5) (N := 19) hx hb hts hwX5 hown hK hP 0 rfl rfl 6 (by decide) (hts (.fieldLink RX5 28 "WaitOrWalkOnModel" "tape" "[I") (by decide +kernel)) (fun _ h9 => h9) rfl dX5_isFigure_33 ?_
        refine lv_aload_n hx hb dX5_isFigure_36 rfl (lv_at hl 0 rfl) ?_
        refine va_get (D := D) (ci := 5) (v := .int (nI p9.1)) (C := RX5) (T := TX5) (N := 19) hx hb hts hwX5 hown hK hP 0 rfl rfl 8 (by decide) (hts (.fieldLink RX5 64 "WaitOrWalkOnModel" "at" "I") (by decide +kernel)) (fun _ h9 => h9) rfl dX5_isFigure_37 ?_
        refine va_iald (D := D) hx hb hK hP 1 0 rfl rfl (vp_in_nI (by have w := (nI_ltI (a := p9.1) (b := tn) (by omega) (by omega)).mp (Int32.not_le.mp c_2); omega) (by decide)) dX5_isFigure_40 ?_
        refine xv_int (y := lt p9.1) (congrArg lt (nI_clamp (by omega))) ?_
        refine lv_bipush (v := 57) hx hb dX5_isFigure_41 (by decide) ?_
        refine lv_icmp_gt (tgt := 50) hx hb dX5_isFigure_43 (by decide) (fun c_4 => ?_) (fun c_4 => ?_)
        · refine lv_iconst (v := 0) hx hb dX5_isFigure_50 (by decide) ?_
          exact W.zret (v := 0) (ty := .boolean) hx hb hr (by decide +kernel) (fun t ht hW => ⟨_, rfl, (by have w := (nI_ltI (a := p9.1) (b := tn) (by omega) (by omega)).mp (Int32.not_le.mp c_2); rw [xFg, if_neg c_1, if_pos w, if_neg c_3, if_pos c_4]), ht⟩) (fun _ h => absurd h List.not_mem_nil) dX5_isFigure_51
        · refine lv_iconst (v := 1) hx hb dX5_isFigure_46 (by decide) ?_
          refine lv_goto (tgt := 51) hx hb dX5_isFigure_47 (by decide) ?_
          exact W.zret (v := 1) (ty := .boolean) hx hb hr (by decide +kernel) (fun t ht hW => ⟨_, rfl, (by have w := (nI_ltI (a := p9.1) (b := tn) (by omega) (by omega)).mp (Int32.not_le.mp c_2); rw [xFg, if_neg c_1, if_pos w, if_neg c_3, if_neg c_4]), ht⟩) (fun _ h => absurd h List.not_mem_nil) dX5_isFigure_51

set_option maxHeartbeats 4000000 in
set_option maxRecDepth 100000 in
theorem g_X5_oneOfB (l : Launch) (D : va_G) (cI cL cZ cC : ClassId) (sz : Nat) (g0 : Nat) (ra : Nat) (wa : Nat) (ta : Nat) (ma : Nat) (pa : Nat) (ba : Nat) (ka : Nat) (fa : Nat) (qa : Nat) (ea : Nat) (za : Nat) (ya : Nat) (kpt : Int32) (mkd : Int32) (srt : Int32) (wks : Int32) (tn : Nat) (p9 : Nat × Int32) (lt : Nat → Int32) (bf : Nat → Int32) (htn : tn ≤ 96) (hp9 : p9.1 ≤ tn) : Met l yX5_oneOf wsX5_oneOf ({ frames := 0, cells := 0, slots := 0, locals := 0 } : Room) (wPc D [.ref g0, .ref ba] [(g0, .inr (5, [.ref ra, .ref wa, .ref ta, .int kpt, .ref ma, .int mkd, .ref pa, .int (nI tn), .int (nI p9.1), .int p9.2, .ref ba, .ref ka, .int srt, .ref fa, .ref qa, .ref ea, .ref za, .ref ya, .int wks])), (pa, .inl (cI, 96, .inl lt)), (ba, .inl (cC, 6, .inl bf))] (xTy cI cL cZ cC) sz) (va_Qi (fun (r : Int32) (_ : Unit) => r = xPv lt tn bf 6 p9) (fun (_ : Unit) t => va_P D vwCl [(g0, .inr (5, [.ref ra, .ref wa, .ref ta, .int kpt, .ref ma, .int mkd, .ref pa, .int (nI tn), .int (nI (xPn lt tn bf 6 p9).1), .int (xPn lt tn bf 6 p9).2, .ref ba, .ref ka, .int srt, .ref fa, .ref qa, .ref ea, .ref za, .ref ya, .int wks])), (pa, .inl (cI, 96, .inl lt)), (ba, .inl (cC, 6, .inl bf))] t.heap ∧ va_D (va_A [(g0, .inr (5, [.ref ra, .ref wa, .ref ta, .int kpt, .ref ma, .int mkd, .ref pa, .int (nI tn), .int (nI p9.1), .int p9.2, .ref ba, .ref ka, .int srt, .ref fa, .ref qa, .ref ea, .ref za, .ref ya, .int wks])), (pa, .inl (cI, 96, .inl lt)), (ba, .inl (cC, 6, .inl bf))] sz) [(g0, .inr (5, [.ref ra, .ref wa, .ref ta, .int kpt, .ref ma, .int mkd, .ref pa, .int (nI tn), .int (nI (xPn lt tn bf 6 p9).1), .int (xPn lt tn bf 6 p9).2, .ref ba, .ref ka, .int srt, .ref fa, .ref qa, .ref ea, .ref za, .ref ya, .int wks])), (pa, .inl (cI, 96, .inl lt)), (ba, .inl (cC, 6, .inl bf))]) (va_A [(g0, .inr (5, [.ref ra, .ref wa, .ref ta, .int kpt, .ref ma, .int mkd, .ref pa, .int (nI tn), .int (nI p9.1), .int p9.2, .ref ba, .ref ka, .int srt, .ref fa, .ref qa, .ref ea, .ref za, .ref ya, .int wks])), (pa, .inl (cI, 96, .inl lt)), (ba, .inl (cC, 6, .inl bf))] sz)) 0 0 (va_A [(g0, .inr (5, [.ref ra, .ref wa, .ref ta, .int kpt, .ref ma, .int mkd, .ref pa, .int (nI tn), .int (nI p9.1), .int p9.2, .ref ba, .ref ka, .int srt, .ref fa, .ref qa, .ref ea, .ref za, .ref ya, .int wks])), (pa, .inl (cI, 96, .inl lt)), (ba, .inl (cC, 6, .inl bf))] sz) := by
  refine Met.ofW (cc := cX5_oneOf) (maxL := 3) (ret := (some .int)) (by decide) rfl ?_
  intro p e s m args below meth c s₁ B hml hv
  obtain ⟨rfl, hsz, hP, hK, hD0⟩ := hv
  have hx := B.exec
  have hb := B.bytes
  have hr := B.returns
  have hts := atoms_spec (ws := wsX5_oneOf) B.pre
  have hown : s.vm.findClass RX5 = some m.cls := findClass_of_methodNamed B.named
  have hlocks := B.notSynchronized
  have hwX5 : ∀ w ∈ u_ws RX5 TX5 19, w ∈ wsX5_oneOf := fun _ h => List.mem_cons_of_mem _ (List.mem_append_right _ h)
  subst hsz
  have hD := hD0.self (sz := s.heap.size)
  generalize hAe : va_A [(g0, .inr (5, [.ref ra, .ref wa, .ref ta, .int kpt, .ref ma, .int mkd, .ref pa, .int (nI tn), .int (nI p9.1), .int p9.2, .ref ba, .ref ka, .int srt, .ref fa, .ref qa, .ref ea, .ref za, .ref ya, .int wks])), (pa, .inl (cI, 96, .inl lt)), (ba, .inl (cC, 6, .inl bf))] s.heap.size = A at hD ⊢
  have hA : ∀ q : Nat, s.heap.size ≤ q → A q := fun q h => by rw [← hAe]; exact Or.inr h
  have hS : va_S A s.heap s.heap [] := va_S.rf
  have hP : va_P D vwCl [(g0, .inr (5, [.ref ra, .ref wa, .ref ta, .int kpt, .ref ma, .int mkd, .ref pa, .int (nI tn), .int (nI p9.1), .int p9.2, .ref ba, .ref ka, .int srt, .ref fa, .ref qa, .ref ea, .ref za, .ref ya, .int wks])), (pa, .inl (cI, 96, .inl lt)), (ba, .inl (cC, 6, .inl bf))] s.heap := hP
  have hl := lv_entry ([.ref g0, .ref ba]) (n := 3) (Nat.le_of_ble_eq_true rfl)
  rw [lg_entry_eq]
  generalize (lg_sl ([.ref g0, .ref ba]) ++ List.replicate (3 - (lg_sl ([.ref g0, .ref ba])).length) Slot.unset).toArray = ls at hl ⊢
  have hl : lv_has ls 3 [(0, .ref g0), (1, .ref ba)] := hl
  refine lv_iconst (v := 0) hx hb dX5_oneOf_0 (by decide) ?_
  refine lv_istore_n (lv' := [(2, .int 0), (0, .ref g0), (1, .ref ba)]) hx hb dX5_oneOf_1 rfl hl (by decide) rfl (fun ls hl => ?_)
  refine xl_loopH (σ := Nat) (fun n q H locs ls => lv_has ls 3 [(2, .int (nI q)), (0, .ref g0), (1, .ref ba)] ∧ va_P D vwCl [(g0, .inr (5, [.ref ra, .ref wa, .ref ta, .int kpt, .ref ma, .int mkd, .ref pa, .int (nI tn), .int (nI p9.1), .int p9.2, .ref ba, .ref ka, .int srt, .ref fa, .ref qa, .ref ea, .ref za, .ref ya, .int wks])), (pa, .inl (cI, 96, .inl lt)), (ba, .inl (cC, 6, .inl bf))] H ∧ va_D A [(g0, .inr (5, [.ref ra, .ref wa, .ref ta, .int kpt, .ref ma, .int mkd, .ref pa, .int (nI tn), .int (nI p9.1), .int p9.2, .ref ba, .ref ka, .int srt, .ref fa, .ref qa, .ref ea, .ref za, .ref ya, .int wks])), (pa, .inl (cI, 96, .inl lt)), (ba, .inl (cC, 6, .inl bf))] ∧ va_S A s.heap H locs ∧ (6 - q < n) ∧ (q ≤ 6) ∧ (∀ i, i < q → xOp lt tn bf p9 i = false)) (7) (0) ⟨lv_sub hl [0, 1, 2] rfl, hP.sub [0, 1, 2] rfl, hD.sub [0, 1, 2] (by decide) rfl, hS, by (try dsimp only); exact ⟨by omega, by omega, fun i hi => absurd hi (Nat.not_lt_zero i)⟩⟩ (fun q H lc ls h => absurd h.2.2.2.2.1 (Nat.not_lt_zero _)) ?_
  intro n_2 q_2 H locs ls ih_2 hI_2
  obtain ⟨hl, hP, hD, hS, hI_2⟩ := hI_2
  obtain ⟨k, e_2⟩ : ∃ z, z = q_2 := ⟨_, rfl⟩
  subst e_2
  obtain ⟨h1, h2, h3⟩ := hI_2
  try dsimp only at hl hP hD h1 h2 h3
  refine lv_iload_n hx hb dX5_oneOf_2 rfl (lv_at hl 0 rfl) ?_
  refine lv_aload_n hx hb dX5_oneOf_3 rfl (lv_at hl 2 rfl) ?_
  refine va_alen (D := D) hx hb hK hP 2 3 rfl rfl (v := 6) rfl dX5_oneOf_4 ?_
  refine lv_icmp_ge (tgt := 59) hx hb dX5_oneOf_5 (by decide) (fun c_1 => ?_) (fun c_1 => ?_)
  · refine lv_aload_n hx hb dX5_oneOf_59 rfl (lv_at hl 1 rfl) ?_
    refine lv_iconst (v := 0) hx hb dX5_oneOf_60 (by decide) ?_
    refine va_put (D := D) (ci := 5) (v := .int 0) (ty := .boolean) (C := RX5) (T := TX5) (N := 19) hx hb hts hwX5 tyX5 tyX5_ok nmX5 hown hK hP hD hS 0 rfl rfl 9 (by decide) (hts (.fieldLink RX5 61 "WaitOrWalkOnModel" "well" "Z") (by decide +kernel)) (fun _ h9 => h9) rfl (by decide +kernel) (by decide +kernel) rfl (Nat.le_of_ble_eq_true rfl) dX5_oneOf_61 (fun H locs hP hD hS => ?_)
    have hP : va_P D vwCl [(g0, .inr (5, [.ref ra, .ref wa, .ref ta, .int kpt, .ref ma, .int mkd, .ref pa, .int (nI tn), .int (nI p9.1), .int 0, .ref ba, .ref ka, .int srt, .ref fa, .ref qa, .ref ea, .ref za, .ref ya, .int wks])), (pa, .inl (cI, 96, .inl lt)), (ba, .inl (cC, 6, .inl bf))] H := hP
    have hD : va_D A [(g0, .inr (5, [.ref ra, .ref wa, .ref ta, .int kpt, .ref ma, .int mkd, .ref pa, .int (nI tn), .int (nI p9.1), .int 0, .ref ba, .ref ka, .int srt, .ref fa, .ref qa, .ref ea, .ref za, .ref ya, .int wks])), (pa, .inl (cI, 96, .inl lt)), (ba, .inl (cC, 6, .inl bf))] := hD
    refine lv_iconst (v := 0) hx hb dX5_oneOf_64 (by decide) ?_
    have hP9 := hP.sub (ws' := [(g0, .inr (5, [.ref ra, .ref wa, .ref ta, .int kpt, .ref ma, .int mkd, .ref pa, .int (nI tn), .int (nI p9.1), .int 0, .ref ba, .ref ka, .int srt, .ref fa, .ref qa, .ref ea, .ref za, .ref ya, .int wks])), (pa, .inl (cI, 96, .inl lt)), (ba, .inl (cC, 6, .inl bf))]) [0, 1, 2] rfl
    have hD9 := hD.sub (ws' := [(g0, .inr (5, [.ref ra, .ref wa, .ref ta, .int kpt, .ref ma, .int mkd, .ref pa, .int (nI tn), .int (nI p9.1), .int 0, .ref ba, .ref ka, .int srt, .ref fa, .ref qa, .ref ea, .ref za, .ref ya, .int wks])), (pa, .inl (cI, 96, .inl lt)), (ba, .inl (cC, 6, .inl bf))]) [0, 1, 2] (by decide) rfl
    have hE9 : ([(g0, .inr (5, [.ref ra, .ref wa, .ref ta, .int kpt, .ref ma, .int mkd, .ref pa, .int (nI tn), .int (nI p9.1), .int 0, .ref ba, .ref ka, .int srt, .ref fa, .ref qa, .ref ea, .ref za, .ref ya, .int wks])), (pa, .inl (cI, 96, .inl lt)), (ba, .inl (cC, 6, .inl bf))] : va_W) = [(g0, .inr (5, [.ref ra, .ref wa, .ref ta, .int kpt, .ref ma, .int mkd, .ref pa, .int (nI tn), .int (nI (xPn lt tn bf 6 p9).1), .int ((xPn lt tn bf 6 p9).2), .ref ba, .ref ka, .int srt, .ref fa, .ref qa, .ref ea, .ref za, .ref ya, .int wks])), (pa, .inl (cI, 96, .inl lt)), (ba, .inl (cC, 6, .inl bf))] := by have w := mt (nI_ltI (a := k) (b := 6) (by omega) (by omega)).mpr (Int32.not_lt.mpr c_1); have eo := xPn_no (lt := lt) (tn := tn) (f := bf) (n := 6) (p := p9) (xFst_none 6 (fun i hi => h3 i (by omega))); rw [eo.1]
    exact W.iret (v := 0) hx hb hr (fun t ht hW => ⟨⟨_, (), rfl, (by have w := mt (nI_ltI (a := k) (b := 6) (by omega) (by omega)).mpr (Int32.not_lt.mpr c_1); have eo := xPn_no (lt := lt) (tn := tn) (f := bf) (n := 6) (p := p9) (xFst_none 6 (fun i hi => h3 i (by omega))); exact eo.2.symm), by rw [ht]; exact hE9 ▸ hP9, hE9 ▸ hD9⟩, hS.F ht⟩) hS.2.2 dX5_oneOf_65
  · refine lv_aload_n hx hb dX5_oneOf_8 rfl (lv_at hl 1 rfl) ?_
    refine va_get (D := D) (ci := 5) (v := .int p9.2) (C := RX5) (T := TX5) (N := 19) hx hb hts hwX5 hown hK hP 0 rfl rfl 9 (by decide) (hts (.fieldLink RX5 61 "WaitOrWalkOnModel" "well" "Z") (by decide +kernel)) (fun _ h9 => h9) rfl dX5_oneOf_9 ?_
    refine lv_if_eq (tgt := 53) hx hb dX5_oneOf_12 (by decide) (fun c_2 => ?_) (fun c_2 => ?_)
    · refine lv_iinc (v := nI (k + 1)) (lv' := [(2, .int (nI (k + 1))), (0, .ref g0), (1, .ref ba)]) hx hb dX5_oneOf_53 hl (k := 0) rfl (nI_1 k) (by decide) rfl (fun ls hl => ?_)
      refine lv_goto (tgt := 2) hx hb dX5_oneOf_56 (by decide) ?_
      have w := (nI_ltI (a := k) (b := 6) (by omega) (by omega)).mp (Int32.not_le.mp c_1)
      have e3 : xOp lt tn bf p9 k = false := xOp_f1 c_2
      exact ih_2 (k + 1) _ _ _ ⟨lv_sub hl [0, 1, 2] rfl, hP.sub [0, 1, 2] rfl, hD.sub [0, 1, 2] (by decide) rfl, hS, by (try dsimp only); exact ⟨by omega, by omega, fun i hi => by rcases Nat.lt_or_ge i k with q | q; exact h3 i q; (obtain rfl : i = k := by omega); exact e3⟩⟩
    · refine lv_aload_n hx hb dX5_oneOf_15 rfl (lv_at hl 1 rfl) ?_
      refine va_get (D := D) (ci := 5) (v := .int (nI p9.1)) (C := RX5) (T := TX5) (N := 19) hx hb hts hwX5 hown hK hP 0 rfl rfl 8 (by decide) (hts (.fieldLink RX5 64 "WaitOrWalkOnModel" "at" "I") (by decide +kernel)) (fun _ h9 => h9) rfl dX5_oneOf_16 ?_
      refine lv_aload_n hx hb dX5_oneOf_19 rfl (lv_at hl 1 rfl) ?_
      refine va_get (D := D) (ci := 5) (v := .int (nI tn)) (C := RX5) (T := TX5) (N := 19) hx hb hts hwX5 hown hK hP 0 rfl rfl 7 (by decide) (hts (.fieldLink RX5 57 "WaitOrWalkOnModel" "taped" "I") (by decide +kernel)) (fun _ h9 => h9) rfl dX5_oneOf_20 ?_
      refine lv_icmp_ge (tgt := 53) hx hb dX5_oneOf_23 (by decide) (fun c_3 => ?_) (fun c_3 => ?_)
      · refine lv_iinc (v := nI (k + 1)) (lv' := [(2, .int (nI (k + 1))), (0, .ref g0), (1, .ref ba)]) hx hb dX5_oneOf_53 hl (k := 0) rfl (nI_1 k) (by decide) rfl (fun ls hl => ?_)
        refine lv_goto (tgt := 2) hx hb dX5_oneOf_56 (by decide) ?_
        have w := (nI_ltI (a := k) (b := 6) (by omega) (by omega)).mp (Int32.not_le.mp c_1)
        have e3 : xOp lt tn bf p9 k = false := xOp_f2 (mt (nI_ltI (a := p9.1) (b := tn) (by omega) (by omega)).mpr (Int32.not_lt.mpr c_3))
        exact ih_2 (k + 1) _ _ _ ⟨lv_sub hl [0, 1, 2] rfl, hP.sub [0, 1, 2] rfl, hD.sub [0, 1, 2] (by decide) rfl, hS, by (try dsimp only); exact ⟨by omega, by omega, fun i hi => by rcases Nat.lt_or_ge i k with q | q; exact h3 i q; (obtain rfl : i = k := by omega); exact e3⟩⟩
      · refine lv_aload_n hx hb dX5_oneOf_26 rfl (lv_at hl 1 rfl) ?_
        refine va_get (D := D) (ci := 5) (v := .ref pa) (C := RX5) (T := TX5) (N := 19) hx hb hts hwX5 hown hK hP 0 rfl rfl 6 (by decide) (hts (.fieldLink RX5 28 "WaitOrWalkOnModel" "tape" "[I") (by decide +kernel)) (fun _ h9 => h9) rfl dX5_oneOf_27 ?_
        refine lv_aload_n hx hb dX5_oneOf_30 rfl (lv_at hl 1 rfl) ?_
        refine va_get (D := D) (ci := 5) (v := .int (nI p9.1)) (C := RX5) (T := TX5) (N := 19) hx hb hts hwX5 hown hK hP 0 rfl rfl 8 (by decide) (hts (.fieldLink RX5 64 "WaitOrWalkOnModel" "at" "I") (by decide +kernel)) (fun _ h9 => h9) rfl dX5_oneOf_31 ?_
        refine va_iald (D := D) hx hb hK hP 1 0 rfl rfl (vp_in_nI (by have w := (nI_ltI (a := p9.1) (b := tn) (by omega) (by omega)).mp (Int32.not_le.mp c_3); omega) (by decide)) dX5_oneOf_34 ?_
        refine xv_int (y := lt p9.1) (congrArg lt (nI_clamp (by omega))) ?_
        refine lv_aload_n hx hb dX5_oneOf_35 rfl (lv_at hl 2 rfl) ?_
        refine lv_iload_n hx hb dX5_oneOf_36 rfl (lv_at hl 0 rfl) ?_
        refine va_cald (D := D) hx hb hK hP 2 3 rfl rfl (vp_in_nI (by have w := (nI_ltI (a := k) (b := 6) (by omega) (by omega)).mp (Int32.not_le.mp c_1); omega) (by decide)) dX5_oneOf_37 ?_
        refine xv_int (y := bf k) (congrArg bf (nI_clamp (by omega))) ?_
        refine lv_icmp_ne (tgt := 53) hx hb dX5_oneOf_38 (by decide) (fun c_4 => ?_) (fun c_4 => ?_)
        · refine lv_iinc (v := nI (k + 1)) (lv' := [(2, .int (nI (k + 1))), (0, .ref g0), (1, .ref ba)]) hx hb dX5_oneOf_53 hl (k := 0) rfl (nI_1 k) (by decide) rfl (fun ls hl => ?_)
          refine lv_goto (tgt := 2) hx hb dX5_oneOf_56 (by decide) ?_
          have w := (nI_ltI (a := k) (b := 6) (by omega) (by omega)).mp (Int32.not_le.mp c_1)
          have e3 : xOp lt tn bf p9 k = false := xOp_f3 c_4
          exact ih_2 (k + 1) _ _ _ ⟨lv_sub hl [0, 1, 2] rfl, hP.sub [0, 1, 2] rfl, hD.sub [0, 1, 2] (by decide) rfl, hS, by (try dsimp only); exact ⟨by omega, by omega, fun i hi => by rcases Nat.lt_or_ge i k with q | q; exact h3 i q; (obtain rfl : i = k := by omega); exact e3⟩⟩
        · refine lv_aload_n hx hb dX5_oneOf_41 rfl (lv_at hl 1 rfl) ?_
          refine lv_dup hx hb dX5_oneOf_42 rfl ?_
          refine va_get (D := D) (ci := 5) (v := .int (nI p9.1)) (C := RX5) (T := TX5) (N := 19) hx hb hts hwX5 hown hK hP 0 rfl rfl 8 (by decide) (hts (.fieldLink RX5 64 "WaitOrWalkOnModel" "at" "I") (by decide +kernel)) (fun _ h9 => h9) rfl dX5_oneOf_43 ?_
          refine lv_iconst (v := 1) hx hb dX5_oneOf_46 (by decide) ?_
          refine lv_iadd hx hb dX5_oneOf_47 ?_
          refine xv_int (y := nI (p9.1 + 1)) (nI_1 _) ?_
          refine va_put (D := D) (ci := 5) (v := .int (nI (p9.1 + 1))) (ty := .int) (C := RX5) (T := TX5) (N := 19) hx hb hts hwX5 tyX5 tyX5_ok nmX5 hown hK hP hD hS 0 rfl rfl 8 (by decide) (hts (.fieldLink RX5 64 "WaitOrWalkOnModel" "at" "I") (by decide +kernel)) (fun _ h9 => h9) rfl (by decide +kernel) rfl rfl (Nat.le_of_ble_eq_true rfl) dX5_oneOf_48 (fun H locs hP hD hS => ?_)
          have hP : va_P D vwCl [(g0, .inr (5, [.ref ra, .ref wa, .ref ta, .int kpt, .ref ma, .int mkd, .ref pa, .int (nI tn), .int (nI (p9.1 + 1)), .int p9.2, .ref ba, .ref ka, .int srt, .ref fa, .ref qa, .ref ea, .ref za, .ref ya, .int wks])), (pa, .inl (cI, 96, .inl lt)), (ba, .inl (cC, 6, .inl bf))] H := hP
          have hD : va_D A [(g0, .inr (5, [.ref ra, .ref wa, .ref ta, .int kpt, .ref ma, .int mkd, .ref pa, .int (nI tn), .int (nI (p9.1 + 1)), .int p9.2, .ref ba, .ref ka, .int srt, .ref fa, .ref qa, .ref ea, .ref za, .ref ya, .int wks])), (pa, .inl (cI, 96, .inl lt)), (ba, .inl (cC, 6, .inl bf))] := hD
          refine lv_iload_n hx hb dX5_oneOf_51 rfl (lv_at hl 0 rfl) ?_
          have hP9 := hP.sub (ws' := [(g0, .inr (5, [.ref ra, .ref wa, .ref ta, .int kpt, .ref ma, .int mkd, .ref pa, .int (nI tn), .int (nI (p9.1 + 1)), .int p9.2, .ref ba, .ref ka, .int srt, .ref fa, .ref qa, .ref ea, .ref za, .ref ya, .int wks])), (pa, .inl (cI, 96, .inl lt)), (ba, .inl (cC, 6, .inl bf))]) [0, 1, 2] rfl
          have hD9 := hD.sub (ws' := [(g0, .inr (5, [.ref ra, .ref wa, .ref ta, .int kpt, .ref ma, .int mkd, .ref pa, .int (nI tn), .int (nI (p9.1 + 1)), .int p9.2, .ref ba, .ref ka, .int srt, .ref fa, .ref qa, .ref ea, .ref za, .ref ya, .int wks])), (pa, .inl (cI, 96, .inl lt)), (ba, .inl (cC, 6, .inl bf))]) [0, 1, 2] (by decide) rfl
          have hE9 : ([(g0, .inr (5, [.ref ra, .ref wa, .ref ta, .int kpt, .ref ma, .int mkd, .ref pa, .int (nI tn), .int (nI (p9.1 + 1)), .int p9.2, .ref ba, .ref ka, .int srt, .ref fa, .ref qa, .ref ea, .ref za, .ref ya, .int wks])), (pa, .inl (cI, 96, .inl lt)), (ba, .inl (cC, 6, .inl bf))] : va_W) = [(g0, .inr (5, [.ref ra, .ref wa, .ref ta, .int kpt, .ref ma, .int mkd, .ref pa, .int (nI tn), .int (nI (xPn lt tn bf 6 p9).1), .int ((xPn lt tn bf 6 p9).2), .ref ba, .ref ka, .int srt, .ref fa, .ref qa, .ref ea, .ref za, .ref ya, .int wks])), (pa, .inl (cI, 96, .inl lt)), (ba, .inl (cC, 6, .inl bf))] := by have w := (nI_ltI (a := k) (b := 6) (by omega) (by omega)).mp (Int32.not_le.mp c_1); have eo := xPn_at (lt := lt) (tn := tn) (f := bf) (n := 6) (p := p9) w (xFst_at (xOp_t c_2 ((nI_ltI (a := p9.1) (b := tn) (by omega) (by omega)).mp (Int32.not_le.mp c_3)) c_4) h3 6 w); rw [eo.1]
          exact W.iret (v := nI k) hx hb hr (fun t ht hW => ⟨⟨_, (), rfl, (by have w := (nI_ltI (a := k) (b := 6) (by omega) (by omega)).mp (Int32.not_le.mp c_1); have eo := xPn_at (lt := lt) (tn := tn) (f := bf) (n := 6) (p := p9) w (xFst_at (xOp_t c_2 ((nI_ltI (a := p9.1) (b := tn) (by omega) (by omega)).mp (Int32.not_le.mp c_3)) c_4) h3 6 w); exact eo.2.symm), by rw [ht]; exact hE9 ▸ hP9, hE9 ▸ hD9⟩, hS.F ht⟩) hS.2.2 dX5_oneOf_52

set_option maxHeartbeats 4000000 in
set_option maxRecDepth 100000 in
theorem g_X5_oneOfK (l : Launch) (D : va_G) (cI cL cZ cC : ClassId) (sz : Nat) (g0 : Nat) (ra : Nat) (wa : Nat) (ta : Nat) (ma : Nat) (pa : Nat) (ba : Nat) (ka : Nat) (fa : Nat) (qa : Nat) (ea : Nat) (za : Nat) (ya : Nat) (kpt : Int32) (mkd : Int32) (srt : Int32) (wks : Int32) (tn : Nat) (p9 : Nat × Int32) (lt : Nat → Int32) (kf : Nat → Int32) (htn : tn ≤ 96) (hp9 : p9.1 ≤ tn) : Met l yX5_oneOf wsX5_oneOf ({ frames := 0, cells := 0, slots := 0, locals := 0 } : Room) (wPc D [.ref g0, .ref ka] [(g0, .inr (5, [.ref ra, .ref wa, .ref ta, .int kpt, .ref ma, .int mkd, .ref pa, .int (nI tn), .int (nI p9.1), .int p9.2, .ref ba, .ref ka, .int srt, .ref fa, .ref qa, .ref ea, .ref za, .ref ya, .int wks])), (pa, .inl (cI, 96, .inl lt)), (ka, .inl (cC, 5, .inl kf))] (xTy cI cL cZ cC) sz) (va_Qi (fun (r : Int32) (_ : Unit) => r = xPv lt tn kf 5 p9) (fun (_ : Unit) t => va_P D vwCl [(g0, .inr (5, [.ref ra, .ref wa, .ref ta, .int kpt, .ref ma, .int mkd, .ref pa, .int (nI tn), .int (nI (xPn lt tn kf 5 p9).1), .int (xPn lt tn kf 5 p9).2, .ref ba, .ref ka, .int srt, .ref fa, .ref qa, .ref ea, .ref za, .ref ya, .int wks])), (pa, .inl (cI, 96, .inl lt)), (ka, .inl (cC, 5, .inl kf))] t.heap ∧ va_D (va_A [(g0, .inr (5, [.ref ra, .ref wa, .ref ta, .int kpt, .ref ma, .int mkd, .ref pa, .int (nI tn), .int (nI p9.1), .int p9.2, .ref ba, .ref ka, .int srt, .ref fa, .ref qa, .ref ea, .ref za, .ref ya, .int wks])), (pa, .inl (cI, 96, .inl lt)), (ka, .inl (cC, 5, .inl kf))] sz) [(g0, .inr (5, [.ref ra, .ref wa, .ref ta, .int kpt, .ref ma, .int mkd, .ref pa, .int (nI tn), .int (nI (xPn lt tn kf 5 p9).1), .int (xPn lt tn kf 5 p9).2, .ref ba, .ref ka, .int srt, .ref fa, .ref qa, .ref ea, .ref za, .ref ya, .int wks])), (pa, .inl (cI, 96, .inl lt)), (ka, .inl (cC, 5, .inl kf))]) (va_A [(g0, .inr (5, [.ref ra, .ref wa, .ref ta, .int kpt, .ref ma, .int mkd, .ref pa, .int (nI tn), .int (nI p9.1), .int p9.2, .ref ba, .ref ka, .int srt, .ref fa, .ref qa, .ref ea, .ref za, .ref ya, .int wks])), (pa, .inl (cI, 96, .inl lt)), (ka, .inl (cC, 5, .inl kf))] sz)) 0 0 (va_A [(g0, .inr (5, [.ref ra, .ref wa, .ref ta, .int kpt, .ref ma, .int mkd, .ref pa, .int (nI tn), .int (nI p9.1), .int p9.2, .ref ba, .ref ka, .int srt, .ref fa, .ref qa, .ref ea, .ref za, .ref ya, .int wks])), (pa, .inl (cI, 96, .inl lt)), (ka, .inl (cC, 5, .inl kf))] sz) := by
  refine Met.ofW (cc := cX5_oneOf) (maxL := 3) (ret := (some .int)) (by decide) rfl ?_
  intro p e s m args below meth c s₁ B hml hv
  obtain ⟨rfl, hsz, hP, hK, hD0⟩ := hv
  have hx := B.exec
  have hb := B.bytes
  have hr := B.returns
  have hts := atoms_spec (ws := wsX5_oneOf) B.pre
  have hown : s.vm.findClass RX5 = some m.cls := findClass_of_methodNamed B.named
  have hlocks := B.notSynchronized
  have hwX5 : ∀ w ∈ u_ws RX5 TX5 19, w ∈ wsX5_oneOf := fun _ h => List.mem_cons_of_mem _ (List.mem_append_right _ h)
  subst hsz
  have hD := hD0.self (sz := s.heap.size)
  generalize hAe : va_A [(g0, .inr (5, [.ref ra, .ref wa, .ref ta, .int kpt, .ref ma, .int mkd, .ref pa, .int (nI tn), .int (nI p9.1), .int p9.2, .ref ba, .ref ka, .int srt, .ref fa, .ref qa, .ref ea, .ref za, .ref ya, .int wks])), (pa, .inl (cI, 96, .inl lt)), (ka, .inl (cC, 5, .inl kf))] s.heap.size = A at hD ⊢
  have hA : ∀ q : Nat, s.heap.size ≤ q → A q := fun q h => by rw [← hAe]; exact Or.inr h
  have hS : va_S A s.heap s.heap [] := va_S.rf
  have hP : va_P D vwCl [(g0, .inr (5, [.ref ra, .ref wa, .ref ta, .int kpt, .ref ma, .int mkd, .ref pa, .int (nI tn), .int (nI p9.1), .int p9.2, .ref ba, .ref ka, .int srt, .ref fa, .ref qa, .ref ea, .ref za, .ref ya, .int wks])), (pa, .inl (cI, 96, .inl lt)), (ka, .inl (cC, 5, .inl kf))] s.heap := hP
  have hl := lv_entry ([.ref g0, .ref ka]) (n := 3) (Nat.le_of_ble_eq_true rfl)
  rw [lg_entry_eq]
  generalize (lg_sl ([.ref g0, .ref ka]) ++ List.replicate (3 - (lg_sl ([.ref g0, .ref ka])).length) Slot.unset).toArray = ls at hl ⊢
  have hl : lv_has ls 3 [(0, .ref g0), (1, .ref ka)] := hl
  refine lv_iconst (v := 0) hx hb dX5_oneOf_0 (by decide) ?_
  refine lv_istore_n (lv' := [(2, .int 0), (0, .ref g0), (1, .ref ka)]) hx hb dX5_oneOf_1 rfl hl (by decide) rfl (fun ls hl => ?_)
  refine xl_loopH (σ := Nat) (fun n q H locs ls => lv_has ls 3 [(2, .int (nI q)), (0, .ref g0), (1, .ref ka)] ∧ va_P D vwCl [(g0, .inr (5, [.ref ra, .ref wa, .ref ta, .int kpt, .ref ma, .int mkd, .ref pa, .int (nI tn), .int (nI p9.1), .int p9.2, .ref ba, .ref ka, .int srt, .ref fa, .ref qa, .ref ea, .ref za, .ref ya, .int wks])), (pa, .inl (cI, 96, .inl lt)), (ka, .inl (cC, 5, .inl kf))] H ∧ va_D A [(g0, .inr (5, [.ref ra, .ref wa, .ref ta, .int kpt, .ref ma, .int mkd, .ref pa, .int (nI tn), .int (nI p9.1), .int p9.2, .ref ba, .ref ka, .int srt, .ref fa, .ref qa, .ref ea, .ref za, .ref ya, .int wks])), (pa, .inl (cI, 96, .inl lt)), (ka, .inl (cC, 5, .inl kf))] ∧ va_S A s.heap H locs ∧ (5 - q < n) ∧ (q ≤ 5) ∧ (∀ i, i < q → xOp lt tn kf p9 i = false)) (6) (0) ⟨lv_sub hl [0, 1, 2] rfl, hP.sub [0, 1, 2] rfl, hD.sub [0, 1, 2] (by decide) rfl, hS, by (try dsimp only); exact ⟨by omega, by omega, fun i hi => absurd hi (Nat.not_lt_zero i)⟩⟩ (fun q H lc ls h => absurd h.2.2.2.2.1 (Nat.not_lt_zero _)) ?_
  intro n_2 q_2 H locs ls ih_2 hI_2
  obtain ⟨hl, hP, hD, hS, hI_2⟩ := hI_2
  obtain ⟨k, e_2⟩ : ∃ z, z = q_2 := ⟨_, rfl⟩
  subst e_2
  obtain ⟨h1, h2, h3⟩ := hI_2
  try dsimp only at hl hP hD h1 h2 h3
  refine lv_iload_n hx hb dX5_oneOf_2 rfl (lv_at hl 0 rfl) ?_
  refine lv_aload_n hx hb dX5_oneOf_3 rfl (lv_at hl 2 rfl) ?_
  refine va_alen (D := D) hx hb hK hP 2 3 rfl rfl (v := 5) rfl dX5_oneOf_4 ?_
  refine lv_icmp_ge (tgt := 59) hx hb dX5_oneOf_5 (by decide) (fun c_1 => ?_) (fun c_1 => ?_)
  · refine lv_aload_n hx hb dX5_oneOf_59 rfl (lv_at hl 1 rfl) ?_
    refine lv_iconst (v := 0) hx hb dX5_oneOf_60 (by decide) ?_
    refine va_put (D := D) (ci := 5) (v := .int 0) (ty := .boolean) (C := RX5) (T := TX5) (N := 19) hx hb hts hwX5 tyX5 tyX5_ok nmX5 hown hK hP hD hS 0 rfl rfl 9 (by decide) (hts (.fieldLink RX5 61 "WaitOrWalkOnModel" "well" "Z") (by decide +kernel)) (fun _ h9 => h9) rfl (by decide +kernel) (by decide +kernel) rfl (Nat.le_of_ble_eq_true rfl) dX5_oneOf_61 (fun H locs hP hD hS => ?_)
    have hP : va_P D vwCl [(g0, .inr (5, [.ref ra, .ref wa, .ref ta, .int kpt, .ref ma, .int mkd, .ref pa, .int (nI tn), .int (nI p9.1), .int 0, .ref ba, .ref ka, .int srt, .ref fa, .ref qa, .ref ea, .ref za, .ref ya, .int wks])), (pa, .inl (cI, 96, .inl lt)), (ka, .inl (cC, 5, .inl kf))] H := hP
    have hD : va_D A [(g0, .inr (5, [.ref ra, .ref wa, .ref ta, .int kpt, .ref ma, .int mkd, .ref pa, .int (nI tn), .int (nI p9.1), .int 0, .ref ba, .ref ka, .int srt, .ref fa, .ref qa, .ref ea, .ref za, .ref ya, .int wks])), (pa, .inl (cI, 96, .inl lt)), (ka, .inl (cC, 5, .inl kf))] := hD
    refine lv_iconst (v := 0) hx hb dX5_oneOf_64 (by decide) ?_
    have hP9 := hP.sub (ws' := [(g0, .inr (5, [.ref ra, .ref wa, .ref ta, .int kpt, .ref ma, .int mkd, .ref pa, .int (nI tn), .int (nI p9.1), .int 0, .ref ba, .ref ka, .int srt, .ref fa, .ref qa, .ref ea, .ref za, .ref ya, .int wks])), (pa, .inl (cI, 96, .inl lt)), (ka, .inl (cC, 5, .inl kf))]) [0, 1, 2] rfl
    have hD9 := hD.sub (ws' := [(g0, .inr (5, [.ref ra, .ref wa, .ref ta, .int kpt, .ref ma, .int mkd, .ref pa, .int (nI tn), .int (nI p9.1), .int 0, .ref ba, .ref ka, .int srt, .ref fa, .ref qa, .ref ea, .ref za, .ref ya, .int wks])), (pa, .inl (cI, 96, .inl lt)), (ka, .inl (cC, 5, .inl kf))]) [0, 1, 2] (by decide) rfl
    have hE9 : ([(g0, .inr (5, [.ref ra, .ref wa, .ref ta, .int kpt, .ref ma, .int mkd, .ref pa, .int (nI tn), .int (nI p9.1), .int 0, .ref ba, .ref ka, .int srt, .ref fa, .ref qa, .ref ea, .ref za, .ref ya, .int wks])), (pa, .inl (cI, 96, .inl lt)), (ka, .inl (cC, 5, .inl kf))] : va_W) = [(g0, .inr (5, [.ref ra, .ref wa, .ref ta, .int kpt, .ref ma, .int mkd, .ref pa, .int (nI tn), .int (nI (xPn lt tn kf 5 p9).1), .int ((xPn lt tn kf 5 p9).2), .ref ba, .ref ka, .int srt, .ref fa, .ref qa, .ref ea, .ref za, .ref ya, .int wks])), (pa, .inl (cI, 96, .inl lt)), (ka, .inl (cC, 5, .inl kf))] := by have w := mt (nI_ltI (a := k) (b := 5) (by omega) (by omega)).mpr (Int32.not_lt.mpr c_1); have eo := xPn_no (lt := lt) (tn := tn) (f := kf) (n := 5) (p := p9) (xFst_none 5 (fun i hi => h3 i (by omega))); rw [eo.1]
    exact W.iret (v := 0) hx hb hr (fun t ht hW => ⟨⟨_, (), rfl, (by have w := mt (nI_ltI (a := k) (b := 5) (by omega) (by omega)).mpr (Int32.not_lt.mpr c_1); have eo := xPn_no (lt := lt) (tn := tn) (f := kf) (n := 5) (p := p9) (xFst_none 5 (fun i hi => h3 i (by omega))); exact eo.2.symm), by rw [ht]; exact hE9 ▸ hP9, hE9 ▸ hD9⟩, hS.F ht⟩) hS.2.2 dX5_oneOf_65
  · refine lv_aload_n hx hb dX5_oneOf_8 rfl (lv_at hl 1 rfl) ?_
    refine va_get (D := D) (ci := 5) (v := .int p9.2) (C := RX5) (T := TX5) (N := 19) hx hb hts hwX5 hown hK hP 0 rfl rfl 9 (by decide) (hts (.fieldLink RX5 61 "WaitOrWalkOnModel" "well" "Z") (by decide +kernel)) (fun _ h9 => h9) rfl dX5_oneOf_9 ?_
    refine lv_if_eq (tgt := 53) hx hb dX5_oneOf_12 (by decide) (fun c_2 => ?_) (fun c_2 => ?_)
    · refine lv_iinc (v := nI (k + 1)) (lv' := [(2, .int (nI (k + 1))), (0, .ref g0), (1, .ref ka)]) hx hb dX5_oneOf_53 hl (k := 0) rfl (nI_1 k) (by decide) rfl (fun ls hl => ?_)
      refine lv_goto (tgt := 2) hx hb dX5_oneOf_56 (by decide) ?_
      have w := (nI_ltI (a := k) (b := 5) (by omega) (by omega)).mp (Int32.not_le.mp c_1)
      have e3 : xOp lt tn kf p9 k = false := xOp_f1 c_2
      exact ih_2 (k + 1) _ _ _ ⟨lv_sub hl [0, 1, 2] rfl, hP.sub [0, 1, 2] rfl, hD.sub [0, 1, 2] (by decide) rfl, hS, by (try dsimp only); exact ⟨by omega, by omega, fun i hi => by rcases Nat.lt_or_ge i k with q | q; exact h3 i q; (obtain rfl : i = k := by omega); exact e3⟩⟩
    · refine lv_aload_n hx hb dX5_oneOf_15 rfl (lv_at hl 1 rfl) ?_
      refine va_get (D := D) (ci := 5) (v := .int (nI p9.1)) (C := RX5) (T := TX5) (N := 19) hx hb hts hwX5 hown hK hP 0 rfl rfl 8 (by decide) (hts (.fieldLink RX5 64 "WaitOrWalkOnModel" "at" "I") (by decide +kernel)) (fun _ h9 => h9) rfl dX5_oneOf_16 ?_
      refine lv_aload_n hx hb dX5_oneOf_19 rfl (lv_at hl 1 rfl) ?_
      refine va_get (D := D) (ci := 5) (v := .int (nI tn)) (C := RX5) (T := TX5) (N := 19) hx hb hts hwX5 hown hK hP 0 rfl rfl 7 (by decide) (hts (.fieldLink RX5 57 "WaitOrWalkOnModel" "taped" "I") (by decide +kernel)) (fun _ h9 => h9) rfl dX5_oneOf_20 ?_
      refine lv_icmp_ge (tgt := 53) hx hb dX5_oneOf_23 (by decide) (fun c_3 => ?_) (fun c_3 => ?_)
      · refine lv_iinc (v := nI (k + 1)) (lv' := [(2, .int (nI (k + 1))), (0, .ref g0), (1, .ref ka)]) hx hb dX5_oneOf_53 hl (k := 0) rfl (nI_1 k) (by decide) rfl (fun ls hl => ?_)
        refine lv_goto (tgt := 2) hx hb dX5_oneOf_56 (by decide) ?_
        have w := (nI_ltI (a := k) (b := 5) (by omega) (by omega)).mp (Int32.not_le.mp c_1)
        have e3 : xOp lt tn kf p9 k = false := xOp_f2 (mt (nI_ltI (a := p9.1) (b := tn) (by omega) (by omega)).mpr (Int32.not_lt.mpr c_3))
        exact ih_2 (k + 1) _ _ _ ⟨lv_sub hl [0, 1, 2] rfl, hP.sub [0, 1, 2] rfl, hD.sub [0, 1, 2] (by decide) rfl, hS, by (try dsimp only); exact ⟨by omega, by omega, fun i hi => by rcases Nat.lt_or_ge i k with q | q; exact h3 i q; (obtain rfl : i = k := by omega); exact e3⟩⟩
      · refine lv_aload_n hx hb dX5_oneOf_26 rfl (lv_at hl 1 rfl) ?_
        refine va_get (D := D) (ci := 5) (v := .ref pa) (C := RX5) (T := TX5) (N := 19) hx hb hts hwX5 hown hK hP 0 rfl rfl 6 (by decide) (hts (.fieldLink RX5 28 "WaitOrWalkOnModel" "tape" "[I") (by decide +kernel)) (fun _ h9 => h9) rfl dX5_oneOf_27 ?_
        refine lv_aload_n hx hb dX5_oneOf_30 rfl (lv_at hl 1 rfl) ?_
        refine va_get (D := D) (ci := 5) (v := .int (nI p9.1)) (C := RX5) (T := TX5) (N := 19) hx hb hts hwX5 hown hK hP 0 rfl rfl 8 (by decide) (hts (.fieldLink RX5 64 "WaitOrWalkOnModel" "at" "I") (by decide +kernel)) (fun _ h9 => h9) rfl dX5_oneOf_31 ?_
        refine va_iald (D := D) hx hb hK hP 1 0 rfl rfl (vp_in_nI (by have w := (nI_ltI (a := p9.1) (b := tn) (by omega) (by omega)).mp (Int32.not_le.mp c_3); omega) (by decide)) dX5_oneOf_34 ?_
        refine xv_int (y := lt p9.1) (congrArg lt (nI_clamp (by omega))) ?_
        refine lv_aload_n hx hb dX5_oneOf_35 rfl (lv_at hl 2 rfl) ?_
        refine lv_iload_n hx hb dX5_oneOf_36 rfl (lv_at hl 0 rfl) ?_
        refine va_cald (D := D) hx hb hK hP 2 3 rfl rfl (vp_in_nI (by have w := (nI_ltI (a := k) (b := 5) (by omega) (by omega)).mp (Int32.not_le.mp c_1); omega) (by decide)) dX5_oneOf_37 ?_
        refine xv_int (y := kf k) (congrArg kf (nI_clamp (by omega))) ?_
        refine lv_icmp_ne (tgt := 53) hx hb dX5_oneOf_38 (by decide) (fun c_4 => ?_) (fun c_4 => ?_)
        · refine lv_iinc (v := nI (k + 1)) (lv' := [(2, .int (nI (k + 1))), (0, .ref g0), (1, .ref ka)]) hx hb dX5_oneOf_53 hl (k := 0) rfl (nI_1 k) (by decide) rfl (fun ls hl => ?_)
          refine lv_goto (tgt := 2) hx hb dX5_oneOf_56 (by decide) ?_
          have w := (nI_ltI (a := k) (b := 5) (by omega) (by omega)).mp (Int32.not_le.mp c_1)
          have e3 : xOp lt tn kf p9 k = false := xOp_f3 c_4
          exact ih_2 (k + 1) _ _ _ ⟨lv_sub hl [0, 1, 2] rfl, hP.sub [0, 1, 2] rfl, hD.sub [0, 1, 2] (by decide) rfl, hS, by (try dsimp only); exact ⟨by omega, by omega, fun i hi => by rcases Nat.lt_or_ge i k with q | q; exact h3 i q; (obtain rfl : i = k := by omega); exact e3⟩⟩
        · refine lv_aload_n hx hb dX5_oneOf_41 rfl (lv_at hl 1 rfl) ?_
          refine lv_dup hx hb dX5_oneOf_42 rfl ?_
          refine va_get (D := D) (ci := 5) (v := .int (nI p9.1)) (C := RX5) (T := TX5) (N := 19) hx hb hts hwX5 hown hK hP 0 rfl rfl 8 (by decide) (hts (.fieldLink RX5 64 "WaitOrWalkOnModel" "at" "I") (by decide +kernel)) (fun _ h9 => h9) rfl dX5_oneOf_43 ?_
          refine lv_iconst (v := 1) hx hb dX5_oneOf_46 (by decide) ?_
          refine lv_iadd hx hb dX5_oneOf_47 ?_
          refine xv_int (y := nI (p9.1 + 1)) (nI_1 _) ?_
          refine va_put (D := D) (ci := 5) (v := .int (nI (p9.1 + 1))) (ty := .int) (C := RX5) (T := TX5) (N := 19) hx hb hts hwX5 tyX5 tyX5_ok nmX5 hown hK hP hD hS 0 rfl rfl 8 (by decide) (hts (.fieldLink RX5 64 "WaitOrWalkOnModel" "at" "I") (by decide +kernel)) (fun _ h9 => h9) rfl (by decide +kernel) rfl rfl (Nat.le_of_ble_eq_true rfl) dX5_oneOf_48 (fun H locs hP hD hS => ?_)
          have hP : va_P D vwCl [(g0, .inr (5, [.ref ra, .ref wa, .ref ta, .int kpt, .ref ma, .int mkd, .ref pa, .int (nI tn), .int (nI (p9.1 + 1)), .int p9.2, .ref ba, .ref ka, .int srt, .ref fa, .ref qa, .ref ea, .ref za, .ref ya, .int wks])), (pa, .inl (cI, 96, .inl lt)), (ka, .inl (cC, 5, .inl kf))] H := hP
          have hD : va_D A [(g0, .inr (5, [.ref ra, .ref wa, .ref ta, .int kpt, .ref ma, .int mkd, .ref pa, .int (nI tn), .int (nI (p9.1 + 1)), .int p9.2, .ref ba, .ref ka, .int srt, .ref fa, .ref qa, .ref ea, .ref za, .ref ya, .int wks])), (pa, .inl (cI, 96, .inl lt)), (ka, .inl (cC, 5, .inl kf))] := hD
          refine lv_iload_n hx hb dX5_oneOf_51 rfl (lv_at hl 0 rfl) ?_
          have hP9 := hP.sub (ws' := [(g0, .inr (5, [.ref ra, .ref wa, .ref ta, .int kpt, .ref ma, .int mkd, .ref pa, .int (nI tn), .int (nI (p9.1 + 1)), .int p9.2, .ref ba, .ref ka, .int srt, .ref fa, .ref qa, .ref ea, .ref za, .ref ya, .int wks])), (pa, .inl (cI, 96, .inl lt)), (ka, .inl (cC, 5, .inl kf))]) [0, 1, 2] rfl
          have hD9 := hD.sub (ws' := [(g0, .inr (5, [.ref ra, .ref wa, .ref ta, .int kpt, .ref ma, .int mkd, .ref pa, .int (nI tn), .int (nI (p9.1 + 1)), .int p9.2, .ref ba, .ref ka, .int srt, .ref fa, .ref qa, .ref ea, .ref za, .ref ya, .int wks])), (pa, .inl (cI, 96, .inl lt)), (ka, .inl (cC, 5, .inl kf))]) [0, 1, 2] (by decide) rfl
          have hE9 : ([(g0, .inr (5, [.ref ra, .ref wa, .ref ta, .int kpt, .ref ma, .int mkd, .ref pa, .int (nI tn), .int (nI (p9.1 + 1)), .int p9.2, .ref ba, .ref ka, .int srt, .ref fa, .ref qa, .ref ea, .ref za, .ref ya, .int wks])), (pa, .inl (cI, 96, .inl lt)), (ka, .inl (cC, 5, .inl kf))] : va_W) = [(g0, .inr (5, [.ref ra, .ref wa, .ref ta, .int kpt, .ref ma, .int mkd, .ref pa, .int (nI tn), .int (nI (xPn lt tn kf 5 p9).1), .int ((xPn lt tn kf 5 p9).2), .ref ba, .ref ka, .int srt, .ref fa, .ref qa, .ref ea, .ref za, .ref ya, .int wks])), (pa, .inl (cI, 96, .inl lt)), (ka, .inl (cC, 5, .inl kf))] := by have w := (nI_ltI (a := k) (b := 5) (by omega) (by omega)).mp (Int32.not_le.mp c_1); have eo := xPn_at (lt := lt) (tn := tn) (f := kf) (n := 5) (p := p9) w (xFst_at (xOp_t c_2 ((nI_ltI (a := p9.1) (b := tn) (by omega) (by omega)).mp (Int32.not_le.mp c_3)) c_4) h3 5 w); rw [eo.1]
          exact W.iret (v := nI k) hx hb hr (fun t ht hW => ⟨⟨_, (), rfl, (by have w := (nI_ltI (a := k) (b := 5) (by omega) (by omega)).mp (Int32.not_le.mp c_1); have eo := xPn_at (lt := lt) (tn := tn) (f := kf) (n := 5) (p := p9) w (xFst_at (xOp_t c_2 ((nI_ltI (a := p9.1) (b := tn) (by omega) (by omega)).mp (Int32.not_le.mp c_3)) c_4) h3 5 w); exact eo.2.symm), by rw [ht]; exact hE9 ▸ hP9, hE9 ▸ hD9⟩, hS.F ht⟩) hS.2.2 dX5_oneOf_52

set_option maxHeartbeats 4000000 in
set_option maxRecDepth 100000 in
theorem g_X5_figures (l : Launch) (D : va_G) (cI cL cZ cC : ClassId) (sz : Nat) (g0 : Nat) (ra : Nat) (wa : Nat) (ta : Nat) (ma : Nat) (pa : Nat) (ba : Nat) (ka : Nat) (fa : Nat) (qa : Nat) (ea : Nat) (za : Nat) (ya : Nat) (kpt : Int32) (mkd : Int32) (srt : Int32) (wks : Int32) (tn : Nat) (p9 : Nat × Int32) (m9 : Nat) (l1 : Int32) (lt : Nat → Int32) (htn : tn ≤ 96) (hp9 : p9.1 ≤ tn) (hm9 : m9 ≤ 3) : Met l yX5_figures wsX5_figures ({ frames := 1, cells := 0, slots := 0, locals := 20 } : Room) (wPc D [.ref g0, .int l1, .int (nI m9)] [(g0, .inr (5, [.ref ra, .ref wa, .ref ta, .int kpt, .ref ma, .int mkd, .ref pa, .int (nI tn), .int (nI p9.1), .int p9.2, .ref ba, .ref ka, .int srt, .ref fa, .ref qa, .ref ea, .ref za, .ref ya, .int wks])), (pa, .inl (cI, 96, .inl lt))] (xTy cI cL cZ cC) sz) (va_Qi (fun (r : Int32) (_ : Unit) => r = xPw lt tn m9 p9) (fun (_ : Unit) t => va_P D vwCl [(g0, .inr (5, [.ref ra, .ref wa, .ref ta, .int kpt, .ref ma, .int mkd, .ref pa, .int (nI tn), .int (nI (xPf lt tn l1 m9 p9).1), .int (xPf lt tn l1 m9 p9).2, .ref ba, .ref ka, .int srt, .ref fa, .ref qa, .ref ea, .ref za, .ref ya, .int wks])), (pa, .inl (cI, 96, .inl lt))] t.heap ∧ va_D (va_A [(g0, .inr (5, [.ref ra, .ref wa, .ref ta, .int kpt, .ref ma, .int mkd, .ref pa, .int (nI tn), .int (nI p9.1), .int p9.2, .ref ba, .ref ka, .int srt, .ref fa, .ref qa, .ref ea, .ref za, .ref ya, .int wks])), (pa, .inl (cI, 96, .inl lt))] sz) [(g0, .inr (5, [.ref ra, .ref wa, .ref ta, .int kpt, .ref ma, .int mkd, .ref pa, .int (nI tn), .int (nI (xPf lt tn l1 m9 p9).1), .int (xPf lt tn l1 m9 p9).2, .ref ba, .ref ka, .int srt, .ref fa, .ref qa, .ref ea, .ref za, .ref ya, .int wks])), (pa, .inl (cI, 96, .inl lt))]) (va_A [(g0, .inr (5, [.ref ra, .ref wa, .ref ta, .int kpt, .ref ma, .int mkd, .ref pa, .int (nI tn), .int (nI p9.1), .int p9.2, .ref ba, .ref ka, .int srt, .ref fa, .ref qa, .ref ea, .ref za, .ref ya, .int wks])), (pa, .inl (cI, 96, .inl lt))] sz)) 0 0 (va_A [(g0, .inr (5, [.ref ra, .ref wa, .ref ta, .int kpt, .ref ma, .int mkd, .ref pa, .int (nI tn), .int (nI p9.1), .int p9.2, .ref ba, .ref ka, .int srt, .ref fa, .ref qa, .ref ea, .ref za, .ref ya, .int wks])), (pa, .inl (cI, 96, .inl lt))] sz) := by
  refine Met.ofW (cc := cX5_figures) (maxL := 5) (ret := (some .int)) (by decide) rfl ?_
  intro p e s m args below meth c s₁ B hml hv
  obtain ⟨rfl, hsz, hP, hK, hD0⟩ := hv
  have hx := B.exec
  have hb := B.bytes
  have hr := B.returns
  have hts := atoms_spec (ws := wsX5_figures) B.pre
  have hown : s.vm.findClass RX5 = some m.cls := findClass_of_methodNamed B.named
  have hlocks := B.notSynchronized
  have hwX5 : ∀ w ∈ u_ws RX5 TX5 19, w ∈ wsX5_figures := fun _ h => List.mem_cons_of_mem _ (List.mem_append_right _ h)
  subst hsz
  have hD := hD0.self (sz := s.heap.size)
  generalize hAe : va_A [(g0, .inr (5, [.ref ra, .ref wa, .ref ta, .int kpt, .ref ma, .int mkd, .ref pa, .int (nI tn), .int (nI p9.1), .int p9.2, .ref ba, .ref ka, .int srt, .ref fa, .ref qa, .ref ea, .ref za, .ref ya, .int wks])), (pa, .inl (cI, 96, .inl lt))] s.heap.size = A at hD ⊢
  have hA : ∀ q : Nat, s.heap.size ≤ q → A q := fun q h => by rw [← hAe]; exact Or.inr h
  have hS : va_S A s.heap s.heap [] := va_S.rf
  have hP : va_P D vwCl [(g0, .inr (5, [.ref ra, .ref wa, .ref ta, .int kpt, .ref ma, .int mkd, .ref pa, .int (nI tn), .int (nI p9.1), .int p9.2, .ref ba, .ref ka, .int srt, .ref fa, .ref qa, .ref ea, .ref za, .ref ya, .int wks])), (pa, .inl (cI, 96, .inl lt))] s.heap := hP
  have hl := lv_entry ([.ref g0, .int l1, .int (nI m9)]) (n := 5) (Nat.le_of_ble_eq_true rfl)
  rw [lg_entry_eq]
  generalize (lg_sl ([.ref g0, .int l1, .int (nI m9)]) ++ List.replicate (5 - (lg_sl ([.ref g0, .int l1, .int (nI m9)])).length) Slot.unset).toArray = ls at hl ⊢
  have hl : lv_has ls 5 [(0, .ref g0), (1, .int l1), (2, .int (nI m9))] := hl
  refine lv_iconst (v := 0) hx hb dX5_figures_0 (by decide) ?_
  refine lv_istore_n (lv' := [(3, .int 0), (0, .ref g0), (1, .int l1), (2, .int (nI m9))]) hx hb dX5_figures_1 rfl hl (by decide) rfl (fun ls hl => ?_)
  refine lv_iconst (v := 0) hx hb dX5_figures_2 (by decide) ?_
  refine lv_istore (lv' := [(4, .int 0), (3, .int 0), (0, .ref g0), (1, .int l1), (2, .int (nI m9))]) hx hb dX5_figures_3 hl (by decide) rfl (fun ls hl => ?_)
  refine xl_loopH (σ := Nat) (fun n q H locs ls => lv_has ls 5 [(4, .int (nI q)), (3, .int (xFv lt p9.1 q)), (0, .ref g0), (1, .int l1), (2, .int (nI m9))] ∧ va_P D vwCl [(g0, .inr (5, [.ref ra, .ref wa, .ref ta, .int kpt, .ref ma, .int mkd, .ref pa, .int (nI tn), .int (nI (p9.1 + q)), .int p9.2, .ref ba, .ref ka, .int srt, .ref fa, .ref qa, .ref ea, .ref za, .ref ya, .int wks])), (pa, .inl (cI, 96, .inl lt))] H ∧ va_D A [(g0, .inr (5, [.ref ra, .ref wa, .ref ta, .int kpt, .ref ma, .int mkd, .ref pa, .int (nI tn), .int (nI (p9.1 + q)), .int p9.2, .ref ba, .ref ka, .int srt, .ref fa, .ref qa, .ref ea, .ref za, .ref ya, .int wks])), (pa, .inl (cI, 96, .inl lt))] ∧ va_S A s.heap H locs ∧ (m9 - q < n) ∧ (q ≤ m9) ∧ (xFc lt tn p9.2 (m9 - q) (p9.1 + q) + q = xFc lt tn p9.2 m9 p9.1)) (m9 + 1) (0) ⟨lv_sub hl [0, 1, 2, 3, 4] rfl, hP.sub [0, 1] rfl, hD.sub [0, 1] (by decide) rfl, hS, by (try dsimp only); exact ⟨by omega, by omega, rfl⟩⟩ (fun q H lc ls h => absurd h.2.2.2.2.1 (Nat.not_lt_zero _)) ?_
  intro n_5 q_5 H locs ls ih_5 hI_5
  obtain ⟨hl, hP, hD, hS, hI_5⟩ := hI_5
  obtain ⟨k, e_5⟩ : ∃ z, z = q_5 := ⟨_, rfl⟩
  subst e_5
  obtain ⟨h1, h2, h3⟩ := hI_5
  try dsimp only at hl hP hD h1 h2 h3
  refine lv_iload hx hb dX5_figures_5 (lv_at hl 0 rfl) ?_
  refine lv_iload_n hx hb dX5_figures_7 rfl (lv_at hl 4 rfl) ?_
  refine lv_icmp_ge (tgt := 52) hx hb dX5_figures_8 (by decide) (fun c_1 => ?_) (fun c_1 => ?_)
  · refine lv_aload_n hx hb dX5_figures_52 rfl (lv_at hl 2 rfl) ?_
    refine lv_aload_n hx hb dX5_figures_53 rfl (lv_at hl 2 rfl) ?_
    refine va_get (D := D) (ci := 5) (v := .int p9.2) (C := RX5) (T := TX5) (N := 19) hx hb hts hwX5 hown hK hP 0 rfl rfl 9 (by decide) (hts (.fieldLink RX5 61 "WaitOrWalkOnModel" "well" "Z") (by decide +kernel)) (fun _ h9 => h9) rfl dX5_figures_54 ?_
    refine lv_if_eq (tgt := 70) hx hb dX5_figures_57 (by decide) (fun c_2 => ?_) (fun c_2 => ?_)
    · refine lv_iconst (v := 0) hx hb dX5_figures_70 (by decide) ?_
      refine va_put (D := D) (ci := 5) (v := .int 0) (ty := .boolean) (C := RX5) (T := TX5) (N := 19) hx hb hts hwX5 tyX5 tyX5_ok nmX5 hown hK hP hD hS 0 rfl rfl 9 (by decide) (hts (.fieldLink RX5 61 "WaitOrWalkOnModel" "well" "Z") (by decide +kernel)) (fun _ h9 => h9) rfl (by decide +kernel) (by decide +kernel) rfl (Nat.le_of_ble_eq_true rfl) dX5_figures_71 (fun H locs hP hD hS => ?_)
      have hP : va_P D vwCl [(g0, .inr (5, [.ref ra, .ref wa, .ref ta, .int kpt, .ref ma, .int mkd, .ref pa, .int (nI tn), .int (nI (p9.1 + k)), .int 0, .ref ba, .ref ka, .int srt, .ref fa, .ref qa, .ref ea, .ref za, .ref ya, .int wks])), (pa, .inl (cI, 96, .inl lt))] H := hP
      have hD : va_D A [(g0, .inr (5, [.ref ra, .ref wa, .ref ta, .int kpt, .ref ma, .int mkd, .ref pa, .int (nI tn), .int (nI (p9.1 + k)), .int 0, .ref ba, .ref ka, .int srt, .ref fa, .ref qa, .ref ea, .ref za, .ref ya, .int wks])), (pa, .inl (cI, 96, .inl lt))] := hD
      refine lv_iload_n hx hb dX5_figures_74 rfl (lv_at hl 1 rfl) ?_
      have hP9 := hP.sub (ws' := [(g0, .inr (5, [.ref ra, .ref wa, .ref ta, .int kpt, .ref ma, .int mkd, .ref pa, .int (nI tn), .int (nI (p9.1 + k)), .int 0, .ref ba, .ref ka, .int srt, .ref fa, .ref qa, .ref ea, .ref za, .ref ya, .int wks])), (pa, .inl (cI, 96, .inl lt))]) [0, 1] rfl
      have hD9 := hD.sub (ws' := [(g0, .inr (5, [.ref ra, .ref wa, .ref ta, .int kpt, .ref ma, .int mkd, .ref pa, .int (nI tn), .int (nI (p9.1 + k)), .int 0, .ref ba, .ref ka, .int srt, .ref fa, .ref qa, .ref ea, .ref za, .ref ya, .int wks])), (pa, .inl (cI, 96, .inl lt))]) [0, 1] (by decide) rfl
      have hE9 : ([(g0, .inr (5, [.ref ra, .ref wa, .ref ta, .int kpt, .ref ma, .int mkd, .ref pa, .int (nI tn), .int (nI (p9.1 + k)), .int 0, .ref ba, .ref ka, .int srt, .ref fa, .ref qa, .ref ea, .ref za, .ref ya, .int wks])), (pa, .inl (cI, 96, .inl lt))] : va_W) = [(g0, .inr (5, [.ref ra, .ref wa, .ref ta, .int kpt, .ref ma, .int mkd, .ref pa, .int (nI tn), .int (nI (xPf lt tn l1 m9 p9).1), .int ((xPf lt tn l1 m9 p9).2), .ref ba, .ref ka, .int srt, .ref fa, .ref qa, .ref ea, .ref za, .ref ya, .int wks])), (pa, .inl (cI, 96, .inl lt))] := by have ec := xFc_z (show k = m9 by have w := mt (nI_ltI (a := k) (b := m9) (by omega) (by omega)).mpr (Int32.not_lt.mpr c_1); omega) h3; have e1 : (xPf lt tn l1 m9 p9).1 = p9.1 + k := (by show p9.1 + xFc lt tn p9.2 m9 p9.1 = _; rw [ec]); have e2 : (xPf lt tn l1 m9 p9).2 = 0 := (by show (if p9.2 = 0 then 0 else if nI (xFc lt tn p9.2 m9 p9.1) < l1 then 0 else 1) = _; rw [if_pos c_2]); rw [e1, e2]
      exact W.iret (v := xFv lt p9.1 k) hx hb hr (fun t ht hW => ⟨⟨_, (), rfl, (by have ec := xFc_z (show k = m9 by have w := mt (nI_ltI (a := k) (b := m9) (by omega) (by omega)).mpr (Int32.not_lt.mpr c_1); omega) h3; show _ = xFv lt p9.1 (xFc lt tn p9.2 m9 p9.1); rw [ec]), by rw [ht]; exact hE9 ▸ hP9, hE9 ▸ hD9⟩, hS.F ht⟩) hS.2.2 dX5_figures_75
    · refine lv_iload hx hb dX5_figures_60 (lv_at hl 0 rfl) ?_
      refine lv_iload_n hx hb dX5_figures_62 rfl (lv_at hl 3 rfl) ?_
      refine lv_icmp_lt (tgt := 70) hx hb dX5_figures_63 (by decide) (fun c_3 => ?_) (fun c_3 => ?_)
      · refine lv_iconst (v := 0) hx hb dX5_figures_70 (by decide) ?_
        refine va_put (D := D) (ci := 5) (v := .int 0) (ty := .boolean) (C := RX5) (T := TX5) (N := 19) hx hb hts hwX5 tyX5 tyX5_ok nmX5 hown hK hP hD hS 0 rfl rfl 9 (by decide) (hts (.fieldLink RX5 61 "WaitOrWalkOnModel" "well" "Z") (by decide +kernel)) (fun _ h9 => h9) rfl (by decide +kernel) (by decide +kernel) rfl (Nat.le_of_ble_eq_true rfl) dX5_figures_71 (fun H locs hP hD hS => ?_)
        have hP : va_P D vwCl [(g0, .inr (5, [.ref ra, .ref wa, .ref ta, .int kpt, .ref ma, .int mkd, .ref pa, .int (nI tn), .int (nI (p9.1 + k)), .int 0, .ref ba, .ref ka, .int srt, .ref fa, .ref qa, .ref ea, .ref za, .ref ya, .int wks])), (pa, .inl (cI, 96, .inl lt))] H := hP
        have hD : va_D A [(g0, .inr (5, [.ref ra, .ref wa, .ref ta, .int kpt, .ref ma, .int mkd, .ref pa, .int (nI tn), .int (nI (p9.1 + k)), .int 0, .ref ba, .ref ka, .int srt, .ref fa, .ref qa, .ref ea, .ref za, .ref ya, .int wks])), (pa, .inl (cI, 96, .inl lt))] := hD
        refine lv_iload_n hx hb dX5_figures_74 rfl (lv_at hl 1 rfl) ?_
        have hP9 := hP.sub (ws' := [(g0, .inr (5, [.ref ra, .ref wa, .ref ta, .int kpt, .ref ma, .int mkd, .ref pa, .int (nI tn), .int (nI (p9.1 + k)), .int 0, .ref ba, .ref ka, .int srt, .ref fa, .ref qa, .ref ea, .ref za, .ref ya, .int wks])), (pa, .inl (cI, 96, .inl lt))]) [0, 1] rfl
        have hD9 := hD.sub (ws' := [(g0, .inr (5, [.ref ra, .ref wa, .ref ta, .int kpt, .ref ma, .int mkd, .ref pa, .int (nI tn), .int (nI (p9.1 + k)), .int 0, .ref ba, .ref ka, .int srt, .ref fa, .ref qa, .ref ea, .ref za, .ref ya, .int wks])), (pa, .inl (cI, 96, .inl lt))]) [0, 1] (by decide) rfl
        have hE9 : ([(g0, .inr (5, [.ref ra, .ref wa, .ref ta, .int kpt, .ref ma, .int mkd, .ref pa, .int (nI tn), .int (nI (p9.1 + k)), .int 0, .ref ba, .ref ka, .int srt, .ref fa, .ref qa, .ref ea, .ref za, .ref ya, .int wks])), (pa, .inl (cI, 96, .inl lt))] : va_W) = [(g0, .inr (5, [.ref ra, .ref wa, .ref ta, .int kpt, .ref ma, .int mkd, .ref pa, .int (nI tn), .int (nI (xPf lt tn l1 m9 p9).1), .int ((xPf lt tn l1 m9 p9).2), .ref ba, .ref ka, .int srt, .ref fa, .ref qa, .ref ea, .ref za, .ref ya, .int wks])), (pa, .inl (cI, 96, .inl lt))] := by have ec := xFc_z (show k = m9 by have w := mt (nI_ltI (a := k) (b := m9) (by omega) (by omega)).mpr (Int32.not_lt.mpr c_1); omega) h3; have e1 : (xPf lt tn l1 m9 p9).1 = p9.1 + k := (by show p9.1 + xFc lt tn p9.2 m9 p9.1 = _; rw [ec]); have e2 : (xPf lt tn l1 m9 p9).2 = 0 := (by show (if p9.2 = 0 then 0 else if nI (xFc lt tn p9.2 m9 p9.1) < l1 then 0 else 1) = _; rw [if_neg c_2, ec, if_pos c_3]); rw [e1, e2]
        exact W.iret (v := xFv lt p9.1 k) hx hb hr (fun t ht hW => ⟨⟨_, (), rfl, (by have ec := xFc_z (show k = m9 by have w := mt (nI_ltI (a := k) (b := m9) (by omega) (by omega)).mpr (Int32.not_lt.mpr c_1); omega) h3; show _ = xFv lt p9.1 (xFc lt tn p9.2 m9 p9.1); rw [ec]), by rw [ht]; exact hE9 ▸ hP9, hE9 ▸ hD9⟩, hS.F ht⟩) hS.2.2 dX5_figures_75
      · refine lv_iconst (v := 1) hx hb dX5_figures_66 (by decide) ?_
        refine lv_goto (tgt := 71) hx hb dX5_figures_67 (by decide) ?_
        refine va_put (D := D) (ci := 5) (v := .int 1) (ty := .boolean) (C := RX5) (T := TX5) (N := 19) hx hb hts hwX5 tyX5 tyX5_ok nmX5 hown hK hP hD hS 0 rfl rfl 9 (by decide) (hts (.fieldLink RX5 61 "WaitOrWalkOnModel" "well" "Z") (by decide +kernel)) (fun _ h9 => h9) rfl (by decide +kernel) (by decide +kernel) rfl (Nat.le_of_ble_eq_true rfl) dX5_figures_71 (fun H locs hP hD hS => ?_)
        have hP : va_P D vwCl [(g0, .inr (5, [.ref ra, .ref wa, .ref ta, .int kpt, .ref ma, .int mkd, .ref pa, .int (nI tn), .int (nI (p9.1 + k)), .int 1, .ref ba, .ref ka, .int srt, .ref fa, .ref qa, .ref ea, .ref za, .ref ya, .int wks])), (pa, .inl (cI, 96, .inl lt))] H := hP
        have hD : va_D A [(g0, .inr (5, [.ref ra, .ref wa, .ref ta, .int kpt, .ref ma, .int mkd, .ref pa, .int (nI tn), .int (nI (p9.1 + k)), .int 1, .ref ba, .ref ka, .int srt, .ref fa, .ref qa, .ref ea, .ref za, .ref ya, .int wks])), (pa, .inl (cI, 96, .inl lt))] := hD
        refine lv_iload_n hx hb dX5_figures_74 rfl (lv_at hl 1 rfl) ?_
        have hP9 := hP.sub (ws' := [(g0, .inr (5, [.ref ra, .ref wa, .ref ta, .int kpt, .ref ma, .int mkd, .ref pa, .int (nI tn), .int (nI (p9.1 + k)), .int 1, .ref ba, .ref ka, .int srt, .ref fa, .ref qa, .ref ea, .ref za, .ref ya, .int wks])), (pa, .inl (cI, 96, .inl lt))]) [0, 1] rfl
        have hD9 := hD.sub (ws' := [(g0, .inr (5, [.ref ra, .ref wa, .ref ta, .int kpt, .ref ma, .int mkd, .ref pa, .int (nI tn), .int (nI (p9.1 + k)), .int 1, .ref ba, .ref ka, .int srt, .ref fa, .ref qa, .ref ea, .ref za, .ref ya, .int wks])), (pa, .inl (cI, 96, .inl lt))]) [0, 1] (by decide) rfl
        have hE9 : ([(g0, .inr (5, [.ref ra, .ref wa, .ref ta, .int kpt, .ref ma, .int mkd, .ref pa, .int (nI tn), .int (nI (p9.1 + k)), .int 1, .ref ba, .ref ka, .int srt, .ref fa, .ref qa, .ref ea, .ref za, .ref ya, .int wks])), (pa, .inl (cI, 96, .inl lt))] : va_W) = [(g0, .inr (5, [.ref ra, .ref wa, .ref ta, .int kpt, .ref ma, .int mkd, .ref pa, .int (nI tn), .int (nI (xPf lt tn l1 m9 p9).1), .int ((xPf lt tn l1 m9 p9).2), .ref ba, .ref ka, .int srt, .ref fa, .ref qa, .ref ea, .ref za, .ref ya, .int wks])), (pa, .inl (cI, 96, .inl lt))] := by have ec := xFc_z (show k = m9 by have w := mt (nI_ltI (a := k) (b := m9) (by omega) (by omega)).mpr (Int32.not_lt.mpr c_1); omega) h3; have e1 : (xPf lt tn l1 m9 p9).1 = p9.1 + k := (by show p9.1 + xFc lt tn p9.2 m9 p9.1 = _; rw [ec]); have e2 : (xPf lt tn l1 m9 p9).2 = 1 := (by show (if p9.2 = 0 then 0 else if nI (xFc lt tn p9.2 m9 p9.1) < l1 then 0 else 1) = _; rw [if_neg c_2, ec, if_neg c_3]); rw [e1, e2]
        exact W.iret (v := xFv lt p9.1 k) hx hb hr (fun t ht hW => ⟨⟨_, (), rfl, (by have ec := xFc_z (show k = m9 by have w := mt (nI_ltI (a := k) (b := m9) (by omega) (by omega)).mpr (Int32.not_lt.mpr c_1); omega) h3; show _ = xFv lt p9.1 (xFc lt tn p9.2 m9 p9.1); rw [ec]), by rw [ht]; exact hE9 ▸ hP9, hE9 ▸ hD9⟩, hS.F ht⟩) hS.2.2 dX5_figures_75
  · have hle := xFc_le lt tn p9.2 m9 p9.1 hp9
    refine lv_aload_n hx hb dX5_figures_11 rfl (lv_at hl 2 rfl) ?_
    have hPc := hP.sub (ws' := [(g0, .inr (5, [.ref ra, .ref wa, .ref ta, .int kpt, .ref ma, .int mkd, .ref pa, .int (nI tn), .int (nI (p9.1 + k, p9.2).1), .int ((p9.1 + k, p9.2).2), .ref ba, .ref ka, .int srt, .ref fa, .ref qa, .ref ea, .ref za, .ref ya, .int wks])), (pa, .inl (cI, 96, .inl lt))]) [0, 1] rfl
    refine vp_callSi (va_Run.run (va_runV (As := []) (rest := []) ⟨hx, hb, hml, hown, hts⟩ (g_X5_isFigure l D cI cL cZ cC g0 ra wa ta ma pa ba ka fa qa ea za ya kpt mkd srt wks tn (p9.1 + k, p9.2) lt (htn) (by show p9.1 + k ≤ tn; omega)) (cwV 0 hts gX5_figures_X5_isFigure rfl rfl rfl (by decide +kernel) ⟨Nat.le_of_ble_eq_true rfl, Nat.le_of_ble_eq_true rfl⟩) ⟨xPc_bl, va_recv hK hPc (ci := 5) (q0 := 0) rfl rfl, xPc_use hPc hK⟩ rfl rfl hl.1 rfl (lv_room (Nat.le_of_ble_eq_true rfl)) dX5_figures_12 ⟨Nat.le_of_ble_eq_true rfl, Nat.le_of_ble_eq_true rfl⟩)) (fun r_4 er_4 => ?_)
    obtain rfl : (xFg lt tn (p9.1 + k, p9.2) : Int32) = r_4 := Eq.symm er_4
    refine lv_if_eq (tgt := 52) hx hb dX5_figures_15 (by decide) (fun c_5 => ?_) (fun c_5 => ?_)
    · refine lv_aload_n hx hb dX5_figures_52 rfl (lv_at hl 2 rfl) ?_
      refine lv_aload_n hx hb dX5_figures_53 rfl (lv_at hl 2 rfl) ?_
      refine va_get (D := D) (ci := 5) (v := .int p9.2) (C := RX5) (T := TX5) (N := 19) hx hb hts hwX5 hown hK hP 0 rfl rfl 9 (by decide) (hts (.fieldLink RX5 61 "WaitOrWalkOnModel" "well" "Z") (by decide +kernel)) (fun _ h9 => h9) rfl dX5_figures_54 ?_
      refine lv_if_eq (tgt := 70) hx hb dX5_figures_57 (by decide) (fun c_6 => ?_) (fun c_6 => ?_)
      · refine lv_iconst (v := 0) hx hb dX5_figures_70 (by decide) ?_
        refine va_put (D := D) (ci := 5) (v := .int 0) (ty := .boolean) (C := RX5) (T := TX5) (N := 19) hx hb hts hwX5 tyX5 tyX5_ok nmX5 hown hK hP hD hS 0 rfl rfl 9 (by decide) (hts (.fieldLink RX5 61 "WaitOrWalkOnModel" "well" "Z") (by decide +kernel)) (fun _ h9 => h9) rfl (by decide +kernel) (by decide +kernel) rfl (Nat.le_of_ble_eq_true rfl) dX5_figures_71 (fun H locs hP hD hS => ?_)
        have hP : va_P D vwCl [(g0, .inr (5, [.ref ra, .ref wa, .ref ta, .int kpt, .ref ma, .int mkd, .ref pa, .int (nI tn), .int (nI (p9.1 + k)), .int 0, .ref ba, .ref ka, .int srt, .ref fa, .ref qa, .ref ea, .ref za, .ref ya, .int wks])), (pa, .inl (cI, 96, .inl lt))] H := hP
        have hD : va_D A [(g0, .inr (5, [.ref ra, .ref wa, .ref ta, .int kpt, .ref ma, .int mkd, .ref pa, .int (nI tn), .int (nI (p9.1 + k)), .int 0, .ref ba, .ref ka, .int srt, .ref fa, .ref qa, .ref ea, .ref za, .ref ya, .int wks])), (pa, .inl (cI, 96, .inl lt))] := hD
        refine lv_iload_n hx hb dX5_figures_74 rfl (lv_at hl 1 rfl) ?_
        have hP9 := hP.sub (ws' := [(g0, .inr (5, [.ref ra, .ref wa, .ref ta, .int kpt, .ref ma, .int mkd, .ref pa, .int (nI tn), .int (nI (p9.1 + k)), .int 0, .ref ba, .ref ka, .int srt, .ref fa, .ref qa, .ref ea, .ref za, .ref ya, .int wks])), (pa, .inl (cI, 96, .inl lt))]) [0, 1] rfl
        have hD9 := hD.sub (ws' := [(g0, .inr (5, [.ref ra, .ref wa, .ref ta, .int kpt, .ref ma, .int mkd, .ref pa, .int (nI tn), .int (nI (p9.1 + k)), .int 0, .ref ba, .ref ka, .int srt, .ref fa, .ref qa, .ref ea, .ref za, .ref ya, .int wks])), (pa, .inl (cI, 96, .inl lt))]) [0, 1] (by decide) rfl
        have hE9 : ([(g0, .inr (5, [.ref ra, .ref wa, .ref ta, .int kpt, .ref ma, .int mkd, .ref pa, .int (nI tn), .int (nI (p9.1 + k)), .int 0, .ref ba, .ref ka, .int srt, .ref fa, .ref qa, .ref ea, .ref za, .ref ya, .int wks])), (pa, .inl (cI, 96, .inl lt))] : va_W) = [(g0, .inr (5, [.ref ra, .ref wa, .ref ta, .int kpt, .ref ma, .int mkd, .ref pa, .int (nI tn), .int (nI (xPf lt tn l1 m9 p9).1), .int ((xPf lt tn l1 m9 p9).2), .ref ba, .ref ka, .int srt, .ref fa, .ref qa, .ref ea, .ref za, .ref ya, .int wks])), (pa, .inl (cI, 96, .inl lt))] := by have ec := xFc_n ((nI_ltI (a := k) (b := m9) (by omega) (by omega)).mp (Int32.not_le.mp c_1)) c_5 h3; have e1 : (xPf lt tn l1 m9 p9).1 = p9.1 + k := (by show p9.1 + xFc lt tn p9.2 m9 p9.1 = _; rw [ec]); have e2 : (xPf lt tn l1 m9 p9).2 = 0 := (by show (if p9.2 = 0 then 0 else if nI (xFc lt tn p9.2 m9 p9.1) < l1 then 0 else 1) = _; rw [if_pos c_6]); rw [e1, e2]
        exact W.iret (v := xFv lt p9.1 k) hx hb hr (fun t ht hW => ⟨⟨_, (), rfl, (by have ec := xFc_n ((nI_ltI (a := k) (b := m9) (by omega) (by omega)).mp (Int32.not_le.mp c_1)) c_5 h3; show _ = xFv lt p9.1 (xFc lt tn p9.2 m9 p9.1); rw [ec]), by rw [ht]; exact hE9 ▸ hP9, hE9 ▸ hD9⟩, hS.F ht⟩) hS.2.2 dX5_figures_75
      · refine lv_iload hx hb dX5_figures_60 (lv_at hl 0 rfl) ?_
        refine lv_iload_n hx hb dX5_figures_62 rfl (lv_at hl 3 rfl) ?_
        refine lv_icmp_lt (tgt := 70) hx hb dX5_figures_63 (by decide) (fun c_7 => ?_) (fun c_7 => ?_)
        · refine lv_iconst (v := 0) hx hb dX5_figures_70 (by decide) ?_
          refine va_put (D := D) (ci := 5) (v := .int 0) (ty := .boolean) (C := RX5) (T := TX5) (N := 19) hx hb hts hwX5 tyX5 tyX5_ok nmX5 hown hK hP hD hS 0 rfl rfl 9 (by decide) (hts (.fieldLink RX5 61 "WaitOrWalkOnModel" "well" "Z") (by decide +kernel)) (fun _ h9 => h9) rfl (by decide +kernel) (by decide +kernel) rfl (Nat.le_of_ble_eq_true rfl) dX5_figures_71 (fun H locs hP hD hS => ?_)
          have hP : va_P D vwCl [(g0, .inr (5, [.ref ra, .ref wa, .ref ta, .int kpt, .ref ma, .int mkd, .ref pa, .int (nI tn), .int (nI (p9.1 + k)), .int 0, .ref ba, .ref ka, .int srt, .ref fa, .ref qa, .ref ea, .ref za, .ref ya, .int wks])), (pa, .inl (cI, 96, .inl lt))] H := hP
          have hD : va_D A [(g0, .inr (5, [.ref ra, .ref wa, .ref ta, .int kpt, .ref ma, .int mkd, .ref pa, .int (nI tn), .int (nI (p9.1 + k)), .int 0, .ref ba, .ref ka, .int srt, .ref fa, .ref qa, .ref ea, .ref za, .ref ya, .int wks])), (pa, .inl (cI, 96, .inl lt))] := hD
          refine lv_iload_n hx hb dX5_figures_74 rfl (lv_at hl 1 rfl) ?_
          have hP9 := hP.sub (ws' := [(g0, .inr (5, [.ref ra, .ref wa, .ref ta, .int kpt, .ref ma, .int mkd, .ref pa, .int (nI tn), .int (nI (p9.1 + k)), .int 0, .ref ba, .ref ka, .int srt, .ref fa, .ref qa, .ref ea, .ref za, .ref ya, .int wks])), (pa, .inl (cI, 96, .inl lt))]) [0, 1] rfl
          have hD9 := hD.sub (ws' := [(g0, .inr (5, [.ref ra, .ref wa, .ref ta, .int kpt, .ref ma, .int mkd, .ref pa, .int (nI tn), .int (nI (p9.1 + k)), .int 0, .ref ba, .ref ka, .int srt, .ref fa, .ref qa, .ref ea, .ref za, .ref ya, .int wks])), (pa, .inl (cI, 96, .inl lt))]) [0, 1] (by decide) rfl
          have hE9 : ([(g0, .inr (5, [.ref ra, .ref wa, .ref ta, .int kpt, .ref ma, .int mkd, .ref pa, .int (nI tn), .int (nI (p9.1 + k)), .int 0, .ref ba, .ref ka, .int srt, .ref fa, .ref qa, .ref ea, .ref za, .ref ya, .int wks])), (pa, .inl (cI, 96, .inl lt))] : va_W) = [(g0, .inr (5, [.ref ra, .ref wa, .ref ta, .int kpt, .ref ma, .int mkd, .ref pa, .int (nI tn), .int (nI (xPf lt tn l1 m9 p9).1), .int ((xPf lt tn l1 m9 p9).2), .ref ba, .ref ka, .int srt, .ref fa, .ref qa, .ref ea, .ref za, .ref ya, .int wks])), (pa, .inl (cI, 96, .inl lt))] := by have ec := xFc_n ((nI_ltI (a := k) (b := m9) (by omega) (by omega)).mp (Int32.not_le.mp c_1)) c_5 h3; have e1 : (xPf lt tn l1 m9 p9).1 = p9.1 + k := (by show p9.1 + xFc lt tn p9.2 m9 p9.1 = _; rw [ec]); have e2 : (xPf lt tn l1 m9 p9).2 = 0 := (by show (if p9.2 = 0 then 0 else if nI (xFc lt tn p9.2 m9 p9.1) < l1 then 0 else 1) = _; rw [if_neg c_6, ec, if_pos c_7]); rw [e1, e2]
          exact W.iret (v := xFv lt p9.1 k) hx hb hr (fun t ht hW => ⟨⟨_, (), rfl, (by have ec := xFc_n ((nI_ltI (a := k) (b := m9) (by omega) (by omega)).mp (Int32.not_le.mp c_1)) c_5 h3; show _ = xFv lt p9.1 (xFc lt tn p9.2 m9 p9.1); rw [ec]), by rw [ht]; exact hE9 ▸ hP9, hE9 ▸ hD9⟩, hS.F ht⟩) hS.2.2 dX5_figures_75
        · refine lv_iconst (v := 1) hx hb dX5_figures_66 (by decide) ?_
          refine lv_goto (tgt := 71) hx hb dX5_figures_67 (by decide) ?_
          refine va_put (D := D) (ci := 5) (v := .int 1) (ty := .boolean) (C := RX5) (T := TX5) (N := 19) hx hb hts hwX5 tyX5 tyX5_ok nmX5 hown hK hP hD hS 0 rfl rfl 9 (by decide) (hts (.fieldLink RX5 61 "WaitOrWalkOnModel" "well" "Z") (by decide +kernel)) (fun _ h9 => h9) rfl (by decide +kernel) (by decide +kernel) rfl (Nat.le_of_ble_eq_true rfl) dX5_figures_71 (fun H locs hP hD hS => ?_)
          have hP : va_P D vwCl [(g0, .inr (5, [.ref ra, .ref wa, .ref ta, .int kpt, .ref ma, .int mkd, .ref pa, .int (nI tn), .int (nI (p9.1 + k)), .int 1, .ref ba, .ref ka, .int srt, .ref fa, .ref qa, .ref ea, .ref za, .ref ya, .int wks])), (pa, .inl (cI, 96, .inl lt))] H := hP
          have hD : va_D A [(g0, .inr (5, [.ref ra, .ref wa, .ref ta, .int kpt, .ref ma, .int mkd, .ref pa, .int (nI tn), .int (nI (p9.1 + k)), .int 1, .ref ba, .ref ka, .int srt, .ref fa, .ref qa, .ref ea, .ref za, .ref ya, .int wks])), (pa, .inl (cI, 96, .inl lt))] := hD
          refine lv_iload_n hx hb dX5_figures_74 rfl (lv_at hl 1 rfl) ?_
          have hP9 := hP.sub (ws' := [(g0, .inr (5, [.ref ra, .ref wa, .ref ta, .int kpt, .ref ma, .int mkd, .ref pa, .int (nI tn), .int (nI (p9.1 + k)), .int 1, .ref ba, .ref ka, .int srt, .ref fa, .ref qa, .ref ea, .ref za, .ref ya, .int wks])), (pa, .inl (cI, 96, .inl lt))]) [0, 1] rfl
          have hD9 := hD.sub (ws' := [(g0, .inr (5, [.ref ra, .ref wa, .ref ta, .int kpt, .ref ma, .int mkd, .ref pa, .int (nI tn), .int (nI (p9.1 + k)), .int 1, .ref ba, .ref ka, .int srt, .ref fa, .ref qa, .ref ea, .ref za, .ref ya, .int wks])), (pa, .inl (cI, 96, .inl lt))]) [0, 1] (by decide) rfl
          have hE9 : ([(g0, .inr (5, [.ref ra, .ref wa, .ref ta, .int kpt, .ref ma, .int mkd, .ref pa, .int (nI tn), .int (nI (p9.1 + k)), .int 1, .ref ba, .ref ka, .int srt, .ref fa, .ref qa, .ref ea, .ref za, .ref ya, .int wks])), (pa, .inl (cI, 96, .inl lt))] : va_W) = [(g0, .inr (5, [.ref ra, .ref wa, .ref ta, .int kpt, .ref ma, .int mkd, .ref pa, .int (nI tn), .int (nI (xPf lt tn l1 m9 p9).1), .int ((xPf lt tn l1 m9 p9).2), .ref ba, .ref ka, .int srt, .ref fa, .ref qa, .ref ea, .ref za, .ref ya, .int wks])), (pa, .inl (cI, 96, .inl lt))] := by have ec := xFc_n ((nI_ltI (a := k) (b := m9) (by omega) (by omega)).mp (Int32.not_le.mp c_1)) c_5 h3; have e1 : (xPf lt tn l1 m9 p9).1 = p9.1 + k := (by show p9.1 + xFc lt tn p9.2 m9 p9.1 = _; rw [ec]); have e2 : (xPf lt tn l1 m9 p9).2 = 1 := (by show (if p9.2 = 0 then 0 else if nI (xFc lt tn p9.2 m9 p9.1) < l1 then 0 else 1) = _; rw [if_neg c_6, ec, if_neg c_7]); rw [e1, e2]
          exact W.iret (v := xFv lt p9.1 k) hx hb hr (fun t ht hW => ⟨⟨_, (), rfl, (by have ec := xFc_n ((nI_ltI (a := k) (b := m9) (by omega) (by omega)).mp (Int32.not_le.mp c_1)) c_5 h3; show _ = xFv lt p9.1 (xFc lt tn p9.2 m9 p9.1); rw [ec]), by rw [ht]; exact hE9 ▸ hP9, hE9 ▸ hD9⟩, hS.F ht⟩) hS.2.2 dX5_figures_75
    · refine lv_bipush (v := 10) hx hb dX5_figures_18 (by decide) ?_
      refine lv_iload_n hx hb dX5_figures_20 rfl (lv_at hl 1 rfl) ?_
      refine lv_imul hx hb dX5_figures_21 ?_
      refine lv_aload_n hx hb dX5_figures_22 rfl (lv_at hl 2 rfl) ?_
      refine va_get (D := D) (ci := 5) (v := .ref pa) (C := RX5) (T := TX5) (N := 19) hx hb hts hwX5 hown hK hP 0 rfl rfl 6 (by decide) (hts (.fieldLink RX5 28 "WaitOrWalkOnModel" "tape" "[I") (by decide +kernel)) (fun _ h9 => h9) rfl dX5_figures_23 ?_
      refine lv_aload_n hx hb dX5_figures_26 rfl (lv_at hl 2 rfl) ?_
      refine va_get (D := D) (ci := 5) (v := .int (nI (p9.1 + k))) (C := RX5) (T := TX5) (N := 19) hx hb hts hwX5 hown hK hP 0 rfl rfl 8 (by decide) (hts (.fieldLink RX5 64 "WaitOrWalkOnModel" "at" "I") (by decide +kernel)) (fun _ h9 => h9) rfl dX5_figures_27 ?_
      refine va_iald (D := D) hx hb hK hP 1 0 rfl rfl (vp_in_nI (by have w := (xFg_lt c_5).2.1; dsimp only at w; omega) (by decide)) dX5_figures_30 ?_
      refine xv_int (y := lt (p9.1 + k)) (congrArg lt (nI_clamp (by omega))) ?_
      refine lv_iadd hx hb dX5_figures_31 ?_
      refine lv_bipush (v := 48) hx hb dX5_figures_32 (by decide) ?_
      refine lv_isub hx hb dX5_figures_34 ?_
      refine xv_int (y := xFv lt p9.1 (k + 1)) (rfl) ?_
      refine lv_istore_n (lv' := [(3, .int (xFv lt p9.1 (k + 1))), (4, .int (nI k)), (0, .ref g0), (1, .int l1), (2, .int (nI m9))]) hx hb dX5_figures_35 rfl hl (by decide) rfl (fun ls hl => ?_)
      refine lv_aload_n hx hb dX5_figures_36 rfl (lv_at hl 2 rfl) ?_
      refine lv_dup hx hb dX5_figures_37 rfl ?_
      refine va_get (D := D) (ci := 5) (v := .int (nI (p9.1 + k))) (C := RX5) (T := TX5) (N := 19) hx hb hts hwX5 hown hK hP 0 rfl rfl 8 (by decide) (hts (.fieldLink RX5 64 "WaitOrWalkOnModel" "at" "I") (by decide +kernel)) (fun _ h9 => h9) rfl dX5_figures_38 ?_
      refine lv_iconst (v := 1) hx hb dX5_figures_41 (by decide) ?_
      refine lv_iadd hx hb dX5_figures_42 ?_
      refine xv_int (y := nI (p9.1 + (k + 1))) (nI_1 _) ?_
      refine va_put (D := D) (ci := 5) (v := .int (nI (p9.1 + (k + 1)))) (ty := .int) (C := RX5) (T := TX5) (N := 19) hx hb hts hwX5 tyX5 tyX5_ok nmX5 hown hK hP hD hS 0 rfl rfl 8 (by decide) (hts (.fieldLink RX5 64 "WaitOrWalkOnModel" "at" "I") (by decide +kernel)) (fun _ h9 => h9) rfl (by decide +kernel) rfl rfl (Nat.le_of_ble_eq_true rfl) dX5_figures_43 (fun H locs hP hD hS => ?_)
      have hP : va_P D vwCl [(g0, .inr (5, [.ref ra, .ref wa, .ref ta, .int kpt, .ref ma, .int mkd, .ref pa, .int (nI tn), .int (nI (p9.1 + (k + 1))), .int p9.2, .ref ba, .ref ka, .int srt, .ref fa, .ref qa, .ref ea, .ref za, .ref ya, .int wks])), (pa, .inl (cI, 96, .inl lt))] H := hP
      have hD : va_D A [(g0, .inr (5, [.ref ra, .ref wa, .ref ta, .int kpt, .ref ma, .int mkd, .ref pa, .int (nI tn), .int (nI (p9.1 + (k + 1))), .int p9.2, .ref ba, .ref ka, .int srt, .ref fa, .ref qa, .ref ea, .ref za, .ref ya, .int wks])), (pa, .inl (cI, 96, .inl lt))] := hD
      refine lv_iinc (v := nI (k + 1)) (lv' := [(4, .int (nI (k + 1))), (3, .int (xFv lt p9.1 (k + 1))), (0, .ref g0), (1, .int l1), (2, .int (nI m9))]) hx hb dX5_figures_46 hl (k := 1) rfl (nI_1 k) (by decide) rfl (fun ls hl => ?_)
      refine lv_goto (tgt := 5) hx hb dX5_figures_49 (by decide) ?_
      have w := (nI_ltI (a := k) (b := m9) (by omega) (by omega)).mp (Int32.not_le.mp c_1)
      have e3 := xFc_s w c_5 h3
      exact ih_5 (k + 1) _ _ _ ⟨lv_sub hl [0, 1, 2, 3, 4] rfl, hP.sub [0, 1] rfl, hD.sub [0, 1] (by decide) rfl, hS, by (try dsimp only); exact ⟨by omega, by omega, e3⟩⟩
