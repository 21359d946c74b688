set_option maxHeartbeats 4000000 in
set_option maxRecDepth 100000 in
theorem g_X5_judge (l : Launch) (D : va_G) (cI cL cZ cC : ClassId) (sz : Nat) (g0 : Nat) (ra : Nat) (wa : Nat) (ta : Nat) (ma : Nat) (pa : Nat) (ba : Nat) (ka : Nat) (fa : Nat) (qa : Nat) (ea : Nat) (za : Nat) (ya : Nat) (kpt : Int32) (tpd : Int32) (at0 : Int32) (wel : Int32) (srt : Int32) (wks : Int32) (cn : Nat) (st : Nat) (nw : Nat → Int32) (mf : Nat → Int32) (hn0 : nw 0 = nI st) (hs1 : 1 ≤ st) (hs7 : st ≤ 7) (hcn : cn ≤ 12) (hq2 : ¬ nw 2 = 0) : Met l yX5_judge wsX5_judge ({ frames := 2, cells := 0, slots := 0, locals := 43 } : Room) (wPc D [.ref g0] [(g0, .inr (5, [.ref ra, .ref wa, .ref ta, .int kpt, .ref ma, .int (nI cn), .ref pa, .int tpd, .int at0, .int wel, .ref ba, .ref ka, .int srt, .ref fa, .ref qa, .ref ea, .ref za, .ref ya, .int wks])), (wa, .inl (cI, 70, .inl nw)), (ma, .inl (cI, 12, .inl mf))] (xTy cI cL cZ cC) sz) (va_Qi (fun (r : Int32) (_ : Unit) => r = x5D (x5Jb st nw mf) cn cn) (fun (_ : Unit) t => va_P D vwCl [(g0, .inr (5, [.ref ra, .ref wa, .ref ta, .int kpt, .ref ma, .int 0, .ref pa, .int tpd, .int at0, .int wel, .ref ba, .ref ka, .int srt, .ref fa, .ref qa, .ref ea, .ref za, .ref ya, .int wks])), (wa, .inl (cI, 70, .inl nw)), (ma, .inl (cI, 12, .inl mf))] t.heap ∧ va_D (va_A [(g0, .inr (5, [.ref ra, .ref wa, .ref ta, .int kpt, .ref ma, .int (nI cn), .ref pa, .int tpd, .int at0, .int wel, .ref ba, .ref ka, .int srt, .ref fa, .ref qa, .ref ea, .ref za, .ref ya, .int wks])), (wa, .inl (cI, 70, .inl nw)), (ma, .inl (cI, 12, .inl mf))] sz) [(g0, .inr (5, [.ref ra, .ref wa, .ref ta, .int kpt, .ref ma, .int 0, .ref pa, .int tpd, .int at0, .int wel, .ref ba, .ref ka, .int srt, .ref fa, .ref qa, .ref ea, .ref za, .ref ya, .int wks])), (wa, .inl (cI, 70, .inl nw)), (ma, .inl (cI, 12, .inl mf))]) (va_A [(g0, .inr (5, [.ref ra, .ref wa, .ref ta, .int kpt, .ref ma, .int (nI cn), .ref pa, .int tpd, .int at0, .int wel, .ref ba, .ref ka, .int srt, .ref fa, .ref qa, .ref ea, .ref za, .ref ya, .int wks])), (wa, .inl (cI, 70, .inl nw)), (ma, .inl (cI, 12, .inl mf))] sz)) 0 0 (va_A [(g0, .inr (5, [.ref ra, .ref wa, .ref ta, .int kpt, .ref ma, .int (nI cn), .ref pa, .int tpd, .int at0, .int wel, .ref ba, .ref ka, .int srt, .ref fa, .ref qa, .ref ea, .ref za, .ref ya, .int wks])), (wa, .inl (cI, 70, .inl nw)), (ma, .inl (cI, 12, .inl mf))] sz) := by
  refine Met.ofW (cc := cX5_judge) (maxL := 4) (ret := (some .int)) (by decide) rfl ?_
  intro p e s m args below meth c s₁ B hml hv
  obtain ⟨rfl, hsz, hP, hK, hD0⟩ := hv
  have hx := B.exec
  have hb := B.bytes
  have hr := B.returns
  have hts := atoms_spec (ws := wsX5_judge) B.pre
  have hown : s.vm.findClass RX5 = some m.cls := findClass_of_methodNamed B.named
  have hlocks := B.notSynchronized
  have hwX5 : ∀ w ∈ u_ws RX5 TX5 19, w ∈ wsX5_judge := fun _ h => List.mem_cons_of_mem _ (List.mem_append_right _ h)
  subst hsz
  have hD := hD0.self (sz := s.heap.size)
  generalize hAe : va_A [(g0, .inr (5, [.ref ra, .ref wa, .ref ta, .int kpt, .ref ma, .int (nI cn), .ref pa, .int tpd, .int at0, .int wel, .ref ba, .ref ka, .int srt, .ref fa, .ref qa, .ref ea, .ref za, .ref ya, .int wks])), (wa, .inl (cI, 70, .inl nw)), (ma, .inl (cI, 12, .inl mf))] s.heap.size = A at hD ⊢
  have hA : ∀ q : Nat, s.heap.size ≤ q → A q := fun q h => by rw [← hAe]; exact Or.inr h
  have hS : va_S A s.heap s.heap [] := va_S.rf
  have hP : va_P D vwCl [(g0, .inr (5, [.ref ra, .ref wa, .ref ta, .int kpt, .ref ma, .int (nI cn), .ref pa, .int tpd, .int at0, .int wel, .ref ba, .ref ka, .int srt, .ref fa, .ref qa, .ref ea, .ref za, .ref ya, .int wks])), (wa, .inl (cI, 70, .inl nw)), (ma, .inl (cI, 12, .inl mf))] s.heap := hP
  have hl := lv_entry ([.ref g0]) (n := 4) (Nat.le_of_ble_eq_true rfl)
  rw [lg_entry_eq]
  generalize (lg_sl ([.ref g0]) ++ List.replicate (4 - (lg_sl ([.ref g0])).length) Slot.unset).toArray = ls at hl ⊢
  have hl : lv_has ls 4 [(0, .ref g0)] := hl
  obtain ⟨J9, hJ⟩ : ∃ J : Nat → Bool, ∀ k, x5Jb st nw mf k = J k := ⟨_, fun _ => rfl⟩
  refine lv_bipush (v := -9) hx hb dX5_judge_0 (by decide) ?_
  refine lv_istore_n (lv' := [(1, .int (-9)), (0, .ref g0)]) hx hb dX5_judge_2 rfl hl (by decide) rfl (fun ls hl => ?_)
  refine lv_aload_n hx hb dX5_judge_3 rfl (lv_at hl 1 rfl) ?_
  refine va_get (D := D) (ci := 5) (v := .int (nI cn)) (C := RX5) (T := TX5) (N := 19) hx hb hts hwX5 hown hK hP 0 rfl rfl 5 (by decide) (hts (.fieldLink RX5 188 "WaitOrWalkOnModel" "marked" "I") (by decide +kernel)) (fun _ h9 => h9) rfl dX5_judge_4 ?_
  refine lv_iconst (v := 1) hx hb dX5_judge_7 (by decide) ?_
  refine lv_isub hx hb dX5_judge_8 ?_
  refine xv_int (y := nI (cn - 0) - 1) (by rw [Nat.sub_zero]) ?_
  refine lv_istore_n (lv' := [(2, .int (nI (cn - 0) - 1)), (1, .int (-9)), (0, .ref g0)]) hx hb dX5_judge_9 rfl hl (by decide) rfl (fun ls hl => ?_)
  refine xl_loopH (σ := Nat) (fun n q H locs ls => lv_has ls 4 [(2, .int (nI (cn - q) - 1)), (1, .int (x5D J9 cn q)), (0, .ref g0)] ∧ va_P D vwCl [(g0, .inr (5, [.ref ra, .ref wa, .ref ta, .int kpt, .ref ma, .int (nI cn), .ref pa, .int tpd, .int at0, .int wel, .ref ba, .ref ka, .int srt, .ref fa, .ref qa, .ref ea, .ref za, .ref ya, .int wks])), (wa, .inl (cI, 70, .inl nw)), (ma, .inl (cI, 12, .inl mf))] H ∧ va_D A [(g0, .inr (5, [.ref ra, .ref wa, .ref ta, .int kpt, .ref ma, .int (nI cn), .ref pa, .int tpd, .int at0, .int wel, .ref ba, .ref ka, .int srt, .ref fa, .ref qa, .ref ea, .ref za, .ref ya, .int wks])), (wa, .inl (cI, 70, .inl nw)), (ma, .inl (cI, 12, .inl mf))] ∧ va_S A s.heap H locs ∧ (cn - q < n) ∧ (q ≤ cn)) (cn + 1) (0) ⟨lv_sub hl [0, 1, 2] rfl, hP.sub [0, 1, 2] rfl, hD.sub [0, 1, 2] (by decide) rfl, hS, by (try dsimp only); exact ⟨by omega, by omega⟩⟩ (fun q H lc ls h => absurd h.2.2.2.2.1 (Nat.not_lt_zero _)) ?_
  intro n_10 q_10 H locs ls ih_10 hI_10
  obtain ⟨hl, hP, hD, hS, hI_10⟩ := hI_10
  obtain ⟨i, e_10⟩ : ∃ z, z = q_10 := ⟨_, rfl⟩
  subst e_10
  obtain ⟨h1, h2⟩ := hI_10
  try dsimp only at hl hP hD h1 h2
  refine lv_iload_n hx hb dX5_judge_10 rfl (lv_at hl 0 rfl) ?_
  refine lv_if_lt (tgt := 79) hx hb dX5_judge_11 (by decide) (fun c_1 => ?_) (fun c_1 => ?_)
  · refine lv_aload_n hx hb dX5_judge_79 rfl (lv_at hl 2 rfl) ?_
    refine lv_iconst (v := 0) hx hb dX5_judge_80 (by decide) ?_
    refine va_put (D := D) (ci := 5) (v := .int 0) (ty := .int) (C := RX5) (T := TX5) (N := 19) hx hb hts hwX5 tyX5 tyX5_ok nmX5 hown hK hP hD hS 0 rfl rfl 5 (by decide) (hts (.fieldLink RX5 188 "WaitOrWalkOnModel" "marked" "I") (by decide +kernel)) (fun _ h9 => h9) rfl (by decide +kernel) (by decide +kernel) rfl (Nat.le_of_ble_eq_true rfl) dX5_judge_81 (fun H locs hP hD hS => ?_)
    have hP : va_P D vwCl [(g0, .inr (5, [.ref ra, .ref wa, .ref ta, .int kpt, .ref ma, .int 0, .ref pa, .int tpd, .int at0, .int wel, .ref ba, .ref ka, .int srt, .ref fa, .ref qa, .ref ea, .ref za, .ref ya, .int wks])), (wa, .inl (cI, 70, .inl nw)), (ma, .inl (cI, 12, .inl mf))] H := hP
    have hD : va_D A [(g0, .inr (5, [.ref ra, .ref wa, .ref ta, .int kpt, .ref ma, .int 0, .ref pa, .int tpd, .int at0, .int wel, .ref ba, .ref ka, .int srt, .ref fa, .ref qa, .ref ea, .ref za, .ref ya, .int wks])), (wa, .inl (cI, 70, .inl nw)), (ma, .inl (cI, 12, .inl mf))] := hD
    refine lv_iload_n hx hb dX5_judge_84 rfl (lv_at hl 1 rfl) ?_
    have hP9 := hP.sub (ws' := [(g0, .inr (5, [.ref ra, .ref wa, .ref ta, .int kpt, .ref ma, .int 0, .ref pa, .int tpd, .int at0, .int wel, .ref ba, .ref ka, .int srt, .ref fa, .ref qa, .ref ea, .ref za, .ref ya, .int wks])), (wa, .inl (cI, 70, .inl nw)), (ma, .inl (cI, 12, .inl mf))]) [0, 1, 2] rfl
    have hD9 := hD.sub (ws' := [(g0, .inr (5, [.ref ra, .ref wa, .ref ta, .int kpt, .ref ma, .int 0, .ref pa, .int tpd, .int at0, .int wel, .ref ba, .ref ka, .int srt, .ref fa, .ref qa, .ref ea, .ref za, .ref ya, .int wks])), (wa, .inl (cI, 70, .inl nw)), (ma, .inl (cI, 12, .inl mf))]) [0, 1, 2] (by decide) rfl
    exact W.iret (v := x5D J9 cn i) hx hb hr (fun t ht hW => ⟨⟨_, (), rfl, (by have w := (x5D_0 (n := i) hcn h2).mp c_1; rw [show x5Jb st nw mf = J9 from funext hJ, w]), by rw [ht]; exact hP9, hD9⟩, hS.F ht⟩) hS.2.2 dX5_judge_85
  · have w4 : i < cn := by have w := mt (x5D_0 (n := i) hcn h2).mpr c_1; omega
    have e4 : nI (cn - i) - 1 = nI (cn - i - 1) := pk_sub (a := cn - i) (b := 1) (by omega)
    rw [e4] at hl
    refine xl_cut (σ := Unit) 62 (fun _ => [.int (if J9 (cn - i - 1) then 0 else 1)]) (fun _ ls => lv_has ls 4 [(2, .int (nI (cn - i - 1))), (1, .int (x5D J9 cn i)), (0, .ref g0)]) ?_ ?_
    · intro _ ls hl
      refine lv_istore_n (lv' := [(3, .int (if J9 (cn - i - 1) then 0 else 1)), (2, .int (nI (cn - i - 1))), (1, .int (x5D J9 cn i)), (0, .ref g0)]) hx hb dX5_judge_62 rfl hl (by decide) rfl (fun ls hl => ?_)
      refine lv_iload_n hx hb dX5_judge_63 rfl (lv_at hl 0 rfl) ?_
      refine lv_if_eq (tgt := 71) hx hb dX5_judge_64 (by decide) (fun c_2 => ?_) (fun c_2 => ?_)
      · refine lv_iload_n hx hb dX5_judge_71 rfl (lv_at hl 1 rfl) ?_
        refine xv_int (y := x5D J9 cn (i + 1)) (x5D_t (by by_cases w : J9 (cn - i - 1) = true; exact w; (rw [if_neg w] at c_2); exact absurd c_2 (by decide))) ?_
        refine lv_istore_n (lv' := [(1, .int (x5D J9 cn (i + 1))), (3, .int (if J9 (cn - i - 1) then 0 else 1)), (2, .int (nI (cn - i - 1))), (0, .ref g0)]) hx hb dX5_judge_72 rfl hl (by decide) rfl (fun ls hl => ?_)
        refine lv_iinc (v := nI (cn - (i + 1)) - 1) (lv' := [(2, .int (nI (cn - (i + 1)) - 1)), (1, .int (x5D J9 cn (i + 1))), (3, .int (if J9 (cn - i - 1) then 0 else 1)), (0, .ref g0)]) hx hb dX5_judge_73 hl (k := 2) rfl (x5D_i w4) (by decide) rfl (fun ls hl => ?_)
        refine lv_goto (tgt := 10) hx hb dX5_judge_76 (by decide) ?_
        exact ih_10 (i + 1) _ _ _ ⟨lv_sub hl [0, 1, 3] rfl, hP.sub [0, 1, 2] rfl, hD.sub [0, 1, 2] (by decide) rfl, hS, by (try dsimp only); exact ⟨by omega, by omega⟩⟩
      · refine lv_iload_n hx hb dX5_judge_67 rfl (lv_at hl 2 rfl) ?_
        refine lv_goto (tgt := 72) hx hb dX5_judge_68 (by decide) ?_
        refine xv_int (y := x5D J9 cn (i + 1)) (x5D_f (by by_cases w : J9 (cn - i - 1) = true; (rw [if_pos w] at c_2); exact absurd rfl c_2; simpa using w)) ?_
        refine lv_istore_n (lv' := [(1, .int (x5D J9 cn (i + 1))), (3, .int (if J9 (cn - i - 1) then 0 else 1)), (2, .int (nI (cn - i - 1))), (0, .ref g0)]) hx hb dX5_judge_72 rfl hl (by decide) rfl (fun ls hl => ?_)
        refine lv_iinc (v := nI (cn - (i + 1)) - 1) (lv' := [(2, .int (nI (cn - (i + 1)) - 1)), (1, .int (x5D J9 cn (i + 1))), (3, .int (if J9 (cn - i - 1) then 0 else 1)), (0, .ref g0)]) hx hb dX5_judge_73 hl (k := 2) rfl (x5D_i w4) (by decide) rfl (fun ls hl => ?_)
        refine lv_goto (tgt := 10) hx hb dX5_judge_76 (by decide) ?_
        exact ih_10 (i + 1) _ _ _ ⟨lv_sub hl [0, 1, 3] rfl, hP.sub [0, 1, 2] rfl, hD.sub [0, 1, 2] (by decide) rfl, hS, by (try dsimp only); exact ⟨by omega, by omega⟩⟩
    · intro K_62
      refine lv_iload_n hx hb dX5_judge_14 rfl (lv_at hl 0 rfl) ?_
      refine lv_if_eq (tgt := 57) hx hb dX5_judge_15 (by decide) (fun c_3 => ?_) (fun c_3 => ?_)
      · refine lv_iconst (v := 1) hx hb dX5_judge_57 (by decide) ?_
        refine lv_goto (tgt := 62) hx hb dX5_judge_58 (by decide) ?_
        refine xv_int (y := if J9 (cn - i - 1) then 0 else 1) (by have w8 : J9 (cn - i - 1) = false := (by have w5 := (nI_eq (a := cn - i - 1) (b := 0) (by omega) (by decide)).mp c_3; rw [← hJ]; simp [x5Jb, w5]); rw [w8]; rfl) ?_
        exact K_62 () _ (lv_sub hl [0, 1, 2] rfl)
      · refine lv_iload_n hx hb dX5_judge_18 rfl (lv_at hl 0 rfl) ?_
        refine lv_aload_n hx hb dX5_judge_19 rfl (lv_at hl 2 rfl) ?_
        refine va_get (D := D) (ci := 5) (v := .ref wa) (C := RX5) (T := TX5) (N := 19) hx hb hts hwX5 hown hK hP 0 rfl rfl 1 (by decide) (hts (.fieldLink RX5 19 "WaitOrWalkOnModel" "now" "[I") (by decide +kernel)) (fun _ h9 => h9) rfl dX5_judge_20 ?_
        refine lv_iconst (v := 0) hx hb dX5_judge_23 (by decide) ?_
        refine va_iald (D := D) hx hb hK hP 1 0 rfl rfl (by unfold vp_in; decide +kernel) dX5_judge_24 ?_
        refine xv_int (y := nw 0) rfl ?_
        refine xv_int (y := nI st) (hn0) ?_
        refine lv_icmp_ge (tgt := 61) hx hb dX5_judge_25 (by decide) (fun c_4 => ?_) (fun c_4 => ?_)
        · refine lv_iconst (v := 0) hx hb dX5_judge_61 (by decide) ?_
          refine xv_int (y := if J9 (cn - i - 1) then 0 else 1) (by have w8 : J9 (cn - i - 1) = true := (by have w5 := mt (nI_eq (a := cn - i - 1) (b := 0) (by omega) (by decide)).mpr c_3; have w6 := mt (nI_ltI (a := cn - i - 1) (b := st) (by omega) (by omega)).mpr (Int32.not_lt.mpr c_4); rw [← hJ]; simp [x5Jb, w6, show 0 < cn - i - 1 by omega]); rw [w8]; rfl) ?_
          exact K_62 () _ (lv_sub hl [0, 1, 2] rfl)
        · refine lv_aload_n hx hb dX5_judge_28 rfl (lv_at hl 2 rfl) ?_
          refine va_get (D := D) (ci := 5) (v := .ref ma) (C := RX5) (T := TX5) (N := 19) hx hb hts hwX5 hown hK hP 0 rfl rfl 4 (by decide) (hts (.fieldLink RX5 25 "WaitOrWalkOnModel" "marks" "[I") (by decide +kernel)) (fun _ h9 => h9) rfl dX5_judge_29 ?_
          refine lv_iload_n hx hb dX5_judge_32 rfl (lv_at hl 0 rfl) ?_
          refine va_iald (D := D) hx hb hK hP 2 0 rfl rfl (vp_in_nI (by omega) (by decide)) dX5_judge_33 ?_
          refine xv_int (y := mf (cn - i - 1)) (congrArg mf (nI_clamp (by omega))) ?_
          refine lv_aload_n hx hb dX5_judge_34 rfl (lv_at hl 2 rfl) ?_
          refine va_get (D := D) (ci := 5) (v := .ref ma) (C := RX5) (T := TX5) (N := 19) hx hb hts hwX5 hown hK hP 0 rfl rfl 4 (by decide) (hts (.fieldLink RX5 25 "WaitOrWalkOnModel" "marks" "[I") (by decide +kernel)) (fun _ h9 => h9) rfl dX5_judge_35 ?_
          refine lv_iload_n hx hb dX5_judge_38 rfl (lv_at hl 0 rfl) ?_
          refine lv_iconst (v := 1) hx hb dX5_judge_39 (by decide) ?_
          refine lv_isub hx hb dX5_judge_40 ?_
          refine xv_int (y := nI (cn - i - 1 - 1)) (pk_sub (a := cn - i - 1) (b := 1) (by have w5 := mt (nI_eq (a := cn - i - 1) (b := 0) (by omega) (by decide)).mpr c_3; omega)) ?_
          refine va_iald (D := D) hx hb hK hP 2 0 rfl rfl (vp_in_nI (by omega) (by decide)) dX5_judge_41 ?_
          refine xv_int (y := mf (cn - i - 1 - 1)) (congrArg mf (nI_clamp (by omega))) ?_
          refine lv_isub hx hb dX5_judge_42 ?_
          refine lv_aload_n hx hb dX5_judge_43 rfl (lv_at hl 2 rfl) ?_
          refine lv_iload_n hx hb dX5_judge_44 rfl (lv_at hl 0 rfl) ?_
          refine lv_aload_n hx hb dX5_judge_45 rfl (lv_at hl 2 rfl) ?_
          refine va_get (D := D) (ci := 5) (v := .ref wa) (C := RX5) (T := TX5) (N := 19) hx hb hts hwX5 hown hK hP 0 rfl rfl 1 (by decide) (hts (.fieldLink RX5 19 "WaitOrWalkOnModel" "now" "[I") (by decide +kernel)) (fun _ h9 => h9) rfl dX5_judge_46 ?_
          refine lv_iconst (v := 2) hx hb dX5_judge_49 (by decide) ?_
          refine va_iald (D := D) hx hb hK hP 1 0 rfl rfl (by unfold vp_in; decide +kernel) dX5_judge_50 ?_
          refine xv_int (y := nw 2) rfl ?_
          have hPc := hP.sub (ws' := [(g0, .inr (5, [.ref ra, .ref wa, .ref ta, .int kpt, .ref ma, .int (nI cn), .ref pa, .int tpd, .int at0, .int wel, .ref ba, .ref ka, .int srt, .ref fa, .ref qa, .ref ea, .ref za, .ref ya, .int wks])), (wa, .inl (cI, 70, .inl nw))]) [0, 1] rfl
          refine vp_callSi (va_Run.run (va_runV (As := [.int (nI (cn - i - 1)), .int (nw 2)]) (rest := [.int ((mf (cn - i - 1)) - (mf (cn - i - 1 - 1)))]) ⟨hx, hb, hml, hown, hts⟩ (g_X5_leg l D cI cL cZ cC g0 ra wa ta ma pa ba ka fa qa ea za ya kpt (nI cn) tpd at0 wel srt wks st nw (cn - i - 1) (nw 2) (by first | assumption | decide +kernel) (by first | assumption | decide +kernel) (by first | assumption | decide +kernel) (by have w6 := (nI_ltI (a := cn - i - 1) (b := st) (by omega) (by omega)).mp (Int32.not_le.mp c_4); omega) (hq2)) (cwV 2 hts gX5_judge_X5_leg rfl rfl rfl (by decide +kernel) ⟨Nat.le_of_ble_eq_true rfl, Nat.le_of_ble_eq_true rfl⟩) ⟨xPc_bl, va_recv hK hPc (ci := 5) (q0 := 0) rfl rfl, xPc_use hPc hK⟩ rfl rfl hl.1 rfl (lv_room (Nat.le_of_ble_eq_true rfl)) dX5_judge_51 ⟨Nat.le_of_ble_eq_true rfl, Nat.le_of_ble_eq_true rfl⟩)) (fun r_5 er_5 => ?_)
          obtain rfl : ((xLm nw st (cn - i - 1) + (nw 2) - 1) / (nw 2) : Int32) = r_5 := Eq.symm er_5
          refine lv_icmp_lt (tgt := 61) hx hb dX5_judge_54 (by decide) (fun c_6 => ?_) (fun c_6 => ?_)
          · refine lv_iconst (v := 0) hx hb dX5_judge_61 (by decide) ?_
            refine xv_int (y := if J9 (cn - i - 1) then 0 else 1) (by have w8 : J9 (cn - i - 1) = true := (by have w5 := mt (nI_eq (a := cn - i - 1) (b := 0) (by omega) (by decide)).mpr c_3; have w6 := (nI_ltI (a := cn - i - 1) (b := st) (by omega) (by omega)).mp (Int32.not_le.mp c_4); have w7 := c_6; rw [← hJ]; simp [x5Jb, w6, show 0 < cn - i - 1 by omega, w7]); rw [w8]; rfl) ?_
            exact K_62 () _ (lv_sub hl [0, 1, 2] rfl)
          · refine lv_iconst (v := 1) hx hb dX5_judge_57 (by decide) ?_
            refine lv_goto (tgt := 62) hx hb dX5_judge_58 (by decide) ?_
            refine xv_int (y := if J9 (cn - i - 1) then 0 else 1) (by have w8 : J9 (cn - i - 1) = false := (by have w5 := mt (nI_eq (a := cn - i - 1) (b := 0) (by omega) (by decide)).mpr c_3; have w6 := (nI_ltI (a := cn - i - 1) (b := st) (by omega) (by omega)).mp (Int32.not_le.mp c_4); have w7 := c_6; rw [← hJ]; simp [x5Jb, w6, show 0 < cn - i - 1 by omega, Int32.not_lt.mp w7]); rw [w8]; rfl) ?_
            exact K_62 () _ (lv_sub hl [0, 1, 2] rfl)

set_option maxHeartbeats 4000000 in
set_option maxRecDepth 100000 in
theorem g_X5_lots (l : Launch) (D : va_G) (cI cL cZ cC : ClassId) (sz : Nat) (g0 : Nat) (ra : Nat) (wa : Nat) (ta : Nat) (ma : Nat) (pa : Nat) (ba : Nat) (ka : Nat) (fa : Nat) (qa : Nat) (ea : Nat) (za : Nat) (ya : Nat) (kpt : Int32) (mkd : Int32) (tpd : Int32) (at0 : Int32) (wel : Int32) (srt : Int32) (wks : Int32) (st : Nat) (nw : Nat → Int32) (ln : Nat) (rf : Nat → Int32) (a1 : Int32) (a2 : Int32) (a3 : Int32) (a4 : Int32) (hn0 : nw 0 = nI st) (hs1 : 1 ≤ st) (hs7 : st ≤ 7) (hn3 : nw 3 = nI ln) (hln : ln ≤ 3) (hq2 : ¬ nw 2 = 0) (hq3 : ¬ 2 * nw 2 = 0) (hwq : ∀ j, j < ln → ¬ xWs (fun i => nw (20 + 16 * j + i)) 0 = 0) : Met l yX5_lots wsX5_lots ({ frames := 4, cells := 0, slots := 0, locals := 99 } : Room) (wPc D [.ref g0, .int a1, .int a2, .int a3, .int a4] [(g0, .inr (5, [.ref ra, .ref wa, .ref ta, .int kpt, .ref ma, .int mkd, .ref pa, .int tpd, .int at0, .int wel, .ref ba, .ref ka, .int srt, .ref fa, .ref qa, .ref ea, .ref za, .ref ya, .int wks])), (wa, .inl (cI, 70, .inl nw)), (ra, .inl (cI, 7, .inl rf))] (xTy cI cL cZ cC) sz) (va_Qi (fun (r : Int32) (_ : Unit) => r = if qLo ln a1 a2 a3 = 0 then v5Lo st nw a1 a2 a3 a4 else qLo ln a1 a2 a3) (fun (_ : Unit) t => va_P D vwCl [(g0, .inr (5, [.ref ra, .ref wa, .ref ta, .int kpt, .ref ma, .int mkd, .ref pa, .int tpd, .int at0, .int wel, .ref ba, .ref ka, .int srt, .ref fa, .ref qa, .ref ea, .ref za, .ref ya, .int wks])), (wa, .inl (cI, 70, .inl nw)), (ra, .inl (cI, 7, .inl (xRq rf (qLo ln a1 a2 a3))))] t.heap ∧ va_D (va_A [(g0, .inr (5, [.ref ra, .ref wa, .ref ta, .int kpt, .ref ma, .int mkd, .ref pa, .int tpd, .int at0, .int wel, .ref ba, .ref ka, .int srt, .ref fa, .ref qa, .ref ea, .ref za, .ref ya, .int wks])), (wa, .inl (cI, 70, .inl nw)), (ra, .inl (cI, 7, .inl rf))] sz) [(g0, .inr (5, [.ref ra, .ref wa, .ref ta, .int kpt, .ref ma, .int mkd, .ref pa, .int tpd, .int at0, .int wel, .ref ba, .ref ka, .int srt, .ref fa, .ref qa, .ref ea, .ref za, .ref ya, .int wks])), (wa, .inl (cI, 70, .inl nw)), (ra, .inl (cI, 7, .inl (xRq rf (qLo ln a1 a2 a3))))]) (va_A [(g0, .inr (5, [.ref ra, .ref wa, .ref ta, .int kpt, .ref ma, .int mkd, .ref pa, .int tpd, .int at0, .int wel, .ref ba, .ref ka, .int srt, .ref fa, .ref qa, .ref ea, .ref za, .ref ya, .int wks])), (wa, .inl (cI, 70, .inl nw)), (ra, .inl (cI, 7, .inl rf))] sz)) 0 0 (va_A [(g0, .inr (5, [.ref ra, .ref wa, .ref ta, .int kpt, .ref ma, .int mkd, .ref pa, .int tpd, .int at0, .int wel, .ref ba, .ref ka, .int srt, .ref fa, .ref qa, .ref ea, .ref za, .ref ya, .int wks])), (wa, .inl (cI, 70, .inl nw)), (ra, .inl (cI, 7, .inl rf))] sz) := by
  refine Met.ofW (cc := cX5_lots) (maxL := 10) (ret := (some .int)) (by decide) rfl ?_
  intro p e s m args below meth c s₁ B hml hv
  obtain ⟨rfl, hsz, hP, hK, hD0⟩ := hv
  have hx := B.exec
  have hb := B.bytes
  have hr := B.returns
  have hts := atoms_spec (ws := wsX5_lots) B.pre
  have hown : s.vm.findClass RX5 = some m.cls := findClass_of_methodNamed B.named
  have hlocks := B.notSynchronized
  subst hsz
  have hD := hD0.self (sz := s.heap.size)
  generalize hAe : va_A [(g0, .inr (5, [.ref ra, .ref wa, .ref ta, .int kpt, .ref ma, .int mkd, .ref pa, .int tpd, .int at0, .int wel, .ref ba, .ref ka, .int srt, .ref fa, .ref qa, .ref ea, .ref za, .ref ya, .int wks])), (wa, .inl (cI, 70, .inl nw)), (ra, .inl (cI, 7, .inl rf))] s.heap.size = A at hD ⊢
  have hA : ∀ q : Nat, s.heap.size ≤ q → A q := fun q h => by rw [← hAe]; exact Or.inr h
  have hS : va_S A s.heap s.heap [] := va_S.rf
  have hP : va_P D vwCl [(g0, .inr (5, [.ref ra, .ref wa, .ref ta, .int kpt, .ref ma, .int mkd, .ref pa, .int tpd, .int at0, .int wel, .ref ba, .ref ka, .int srt, .ref fa, .ref qa, .ref ea, .ref za, .ref ya, .int wks])), (wa, .inl (cI, 70, .inl nw)), (ra, .inl (cI, 7, .inl rf))] s.heap := hP
  have hl := lv_entry ([.ref g0, .int a1, .int a2, .int a3, .int a4]) (n := 10) (Nat.le_of_ble_eq_true rfl)
  rw [lg_entry_eq]
  generalize (lg_sl ([.ref g0, .int a1, .int a2, .int a3, .int a4]) ++ List.replicate (10 - (lg_sl ([.ref g0, .int a1, .int a2, .int a3, .int a4])).length) Slot.unset).toArray = ls at hl ⊢
  have hl : lv_has ls 10 [(0, .ref g0), (1, .int a1), (2, .int a2), (3, .int a3), (4, .int a4)] := hl
  by_cases h_1 : ¬ sNL ln a1 = 0
  · refine lv_aload_n hx hb dX5_lots_0 rfl (lv_at hl 0 rfl) ?_
    refine lv_iload_n hx hb dX5_lots_1 rfl (lv_at hl 1 rfl) ?_
    have hPc := hP.sub (ws' := [(g0, .inr (5, [.ref ra, .ref wa, .ref ta, .int kpt, .ref ma, .int mkd, .ref pa, .int tpd, .int at0, .int wel, .ref ba, .ref ka, .int srt, .ref fa, .ref qa, .ref ea, .ref za, .ref ya, .int wks])), (wa, .inl (cI, 70, .inl nw))]) [0, 1] rfl
    refine vp_callSi (va_Run.run (va_runV (As := [.int a1]) (rest := []) ⟨hx, hb, hml, hown, hts⟩ (g_X5_isNoLine l D cI cL cZ cC g0 ra wa ta ma pa ba ka fa qa ea za ya kpt mkd tpd at0 wel srt wks st nw ln a1 (by first | assumption | decide +kernel) (by first | assumption | decide +kernel) (by first | assumption | decide +kernel) (by first | assumption | decide +kernel) (by first | assumption | decide +kernel)) (cwV 1 hts gX5_lots_X5_isNoLine rfl rfl rfl (by decide +kernel) ⟨Nat.le_of_ble_eq_true rfl, Nat.le_of_ble_eq_true rfl⟩) ⟨xPc_bl, va_recv hK hPc (ci := 5) (q0 := 0) rfl rfl, xPc_use hPc hK⟩ rfl rfl hl.1 rfl (lv_room (Nat.le_of_ble_eq_true rfl)) dX5_lots_2 ⟨Nat.le_of_ble_eq_true rfl, Nat.le_of_ble_eq_true rfl⟩)) (fun r_1 er_1 => ?_)
    obtain rfl : (sNL ln a1 : Int32) = r_1 := Eq.symm er_1
    refine xv_int (y := 1) (sNL_bad h_1) ?_
    refine lv_if_eq (tgt := 14) hx hb dX5_lots_5 (by decide) (fun c_2 => absurd c_2 (by decide +kernel)) (fun c_2 => ?_)
    refine lv_aload_n hx hb dX5_lots_8 rfl (lv_at hl 0 rfl) ?_
    refine lv_iconst (v := -1) hx hb dX5_lots_9 (by decide) ?_
    have hPc := hP.sub (ws' := [(g0, .inr (5, [.ref ra, .ref wa, .ref ta, .int kpt, .ref ma, .int mkd, .ref pa, .int tpd, .int at0, .int wel, .ref ba, .ref ka, .int srt, .ref fa, .ref qa, .ref ea, .ref za, .ref ya, .int wks])), (ra, .inl (cI, 7, .inl rf))]) [0, 2] rfl
    have hDc := hD.sub (ws' := [(g0, .inr (5, [.ref ra, .ref wa, .ref ta, .int kpt, .ref ma, .int mkd, .ref pa, .int tpd, .int at0, .int wel, .ref ba, .ref ka, .int srt, .ref fa, .ref qa, .ref ea, .ref za, .ref ya, .int wks])), (ra, .inl (cI, 7, .inl rf))]) [0, 2] (by decide) rfl
    have hFc := va_free (wc := [(g0, .inr (5, [.ref ra, .ref wa, .ref ta, .int kpt, .ref ma, .int mkd, .ref pa, .int tpd, .int at0, .int wel, .ref ba, .ref ka, .int srt, .ref fa, .ref qa, .ref ea, .ref za, .ref ya, .int wks])), (ra, .inl (cI, 7, .inl rf))]) hD hS hA [0, 2] rfl
    refine va_calli (va_runV (As := [.int (-1)]) (rest := []) ⟨hx, hb, hml, hown, hts⟩ (g_X5_no l D cI cL cZ cC _ g0 ra wa ta ma pa ba ka fa qa ea za ya kpt mkd tpd at0 wel srt wks rf (-1) (by first | assumption | decide +kernel) (by first | assumption | decide +kernel)) (cwV 1 hts gX5_lots_X5_no rfl rfl rfl (by decide +kernel) ⟨Nat.le_of_ble_eq_true rfl, Nat.le_of_ble_eq_true rfl⟩) ⟨wPc_bl, va_recv hK hPc (ci := 5) (q0 := 0) rfl rfl, wPc_use hPc hK hDc⟩ rfl rfl hl.1 rfl (lv_room (Nat.le_of_ble_eq_true rfl)) dX5_lots_10 ⟨Nat.le_of_ble_eq_true rfl, Nat.le_of_ble_eq_true rfl⟩) hS (fun q _ h => hFc q h) hFc (fun r_3 u_3 t H1 locs ht hvm hw hB hz1 hk1 hS => ?_)
    obtain ⟨hP1, hD1⟩ := hB
    rw [ht] at hP1
    obtain ⟨hP, hD⟩ := va_join (wr := [(wa, .inl (cI, 70, .inl nw))]) (w1 := [(g0, .inr (5, [.ref ra, .ref wa, .ref ta, .int kpt, .ref ma, .int mkd, .ref pa, .int tpd, .int at0, .int wel, .ref ba, .ref ka, .int srt, .ref fa, .ref qa, .ref ea, .ref za, .ref ya, .int wks])), (ra, .inl (cI, 7, .inl (xRf rf (-1))))]) hP hD [0, 2] [1] rfl rfl (by decide) (by decide) hk1 hFc hP1 hD1
    generalize H1 = H at hP hS ⊢
    have hP : va_P D vwCl [(wa, .inl (cI, 70, .inl nw)), (g0, .inr (5, [.ref ra, .ref wa, .ref ta, .int kpt, .ref ma, .int mkd, .ref pa, .int tpd, .int at0, .int wel, .ref ba, .ref ka, .int srt, .ref fa, .ref qa, .ref ea, .ref za, .ref ya, .int wks])), (ra, .inl (cI, 7, .inl (xRf rf (-1))))] H := hP
    have hD : va_D A [(wa, .inl (cI, 70, .inl nw)), (g0, .inr (5, [.ref ra, .ref wa, .ref ta, .int kpt, .ref ma, .int mkd, .ref pa, .int tpd, .int at0, .int wel, .ref ba, .ref ka, .int srt, .ref fa, .ref qa, .ref ea, .ref za, .ref ya, .int wks])), (ra, .inl (cI, 7, .inl (xRf rf (-1))))] := hD
    obtain rfl : ((-1) : Int32) = r_3 := Eq.symm hw
    have hP9 := hP.sub (ws' := [(g0, .inr (5, [.ref ra, .ref wa, .ref ta, .int kpt, .ref ma, .int mkd, .ref pa, .int tpd, .int at0, .int wel, .ref ba, .ref ka, .int srt, .ref fa, .ref qa, .ref ea, .ref za, .ref ya, .int wks])), (wa, .inl (cI, 70, .inl nw)), (ra, .inl (cI, 7, .inl (xRf rf (-1))))]) [1, 0, 2] rfl
    have hD9 := hD.sub (ws' := [(g0, .inr (5, [.ref ra, .ref wa, .ref ta, .int kpt, .ref ma, .int mkd, .ref pa, .int tpd, .int at0, .int wel, .ref ba, .ref ka, .int srt, .ref fa, .ref qa, .ref ea, .ref za, .ref ya, .int wks])), (wa, .inl (cI, 70, .inl nw)), (ra, .inl (cI, 7, .inl (xRf rf (-1))))]) [1, 0, 2] (by decide) rfl
    have hE9 : ([(g0, .inr (5, [.ref ra, .ref wa, .ref ta, .int kpt, .ref ma, .int mkd, .ref pa, .int tpd, .int at0, .int wel, .ref ba, .ref ka, .int srt, .ref fa, .ref qa, .ref ea, .ref za, .ref ya, .int wks])), (wa, .inl (cI, 70, .inl nw)), (ra, .inl (cI, 7, .inl (xRf rf (-1))))] : va_W) = [(g0, .inr (5, [.ref ra, .ref wa, .ref ta, .int kpt, .ref ma, .int mkd, .ref pa, .int tpd, .int at0, .int wel, .ref ba, .ref ka, .int srt, .ref fa, .ref qa, .ref ea, .ref za, .ref ya, .int wks])), (wa, .inl (cI, 70, .inl nw)), (ra, .inl (cI, 7, .inl (xRq rf (qLo ln a1 a2 a3))))] := by simp [xRq, qLo, sNK, h_1, c_2]
    exact W.iret (v := -1) hx hb hr (fun t ht hW => ⟨⟨_, (), rfl, by simp [qLo, sNK, v5Lo, h_1, c_2], by rw [ht]; exact hE9 ▸ hP9, hE9 ▸ hD9⟩, hS.F ht⟩) hS.2.2 dX5_lots_13
  obtain ⟨j0, rfl, hj0⟩ := sNL_ok (by omega) h_1
  have h_0 := Classical.not_not.mp h_1
  have ha0 : j0 ≤ 2 := by omega
  refine lv_aload_n hx hb dX5_lots_0 rfl (lv_at hl 0 rfl) ?_
  refine lv_iload_n hx hb dX5_lots_1 rfl (lv_at hl 1 rfl) ?_
  have hPc := hP.sub (ws' := [(g0, .inr (5, [.ref ra, .ref wa, .ref ta, .int kpt, .ref ma, .int mkd, .ref pa, .int tpd, .int at0, .int wel, .ref ba, .ref ka, .int srt, .ref fa, .ref qa, .ref ea, .ref za, .ref ya, .int wks])), (wa, .inl (cI, 70, .inl nw))]) [0, 1] rfl
  refine vp_callSi (va_Run.run (va_runV (As := [.int (nI j0)]) (rest := []) ⟨hx, hb, hml, hown, hts⟩ (g_X5_isNoLine l D cI cL cZ cC g0 ra wa ta ma pa ba ka fa qa ea za ya kpt mkd tpd at0 wel srt wks st nw ln (nI j0) (by first | assumption | decide +kernel) (by first | assumption | decide +kernel) (by first | assumption | decide +kernel) (by first | assumption | decide +kernel) (by first | assumption | decide +kernel)) (cwV 1 hts gX5_lots_X5_isNoLine rfl rfl rfl (by decide +kernel) ⟨Nat.le_of_ble_eq_true rfl, Nat.le_of_ble_eq_true rfl⟩) ⟨xPc_bl, va_recv hK hPc (ci := 5) (q0 := 0) rfl rfl, xPc_use hPc hK⟩ rfl rfl hl.1 rfl (lv_room (Nat.le_of_ble_eq_true rfl)) dX5_lots_2 ⟨Nat.le_of_ble_eq_true rfl, Nat.le_of_ble_eq_true rfl⟩)) (fun r_4 er_4 => ?_)
  obtain rfl : (sNL ln (nI j0) : Int32) = r_4 := Eq.symm er_4
  refine xv_int (y := 0) (h_0) ?_
  refine lv_if_eq (tgt := 14) hx hb dX5_lots_5 (by decide) (fun c_5 => ?_) (fun c_5 => absurd c_5 (by decide +kernel))
  refine lv_iload_n hx hb dX5_lots_14 rfl (lv_at hl 2 rfl) ?_
  refine lv_if_lt (tgt := 23) hx hb dX5_lots_15 (by decide) (fun c_6 => ?_) (fun c_6 => ?_)
  · refine lv_aload_n hx hb dX5_lots_23 rfl (lv_at hl 0 rfl) ?_
    refine lv_bipush (v := -2) hx hb dX5_lots_24 (by decide) ?_
    have hPc := hP.sub (ws' := [(g0, .inr (5, [.ref ra, .ref wa, .ref ta, .int kpt, .ref ma, .int mkd, .ref pa, .int tpd, .int at0, .int wel, .ref ba, .ref ka, .int srt, .ref fa, .ref qa, .ref ea, .ref za, .ref ya, .int wks])), (ra, .inl (cI, 7, .inl rf))]) [0, 2] rfl
    have hDc := hD.sub (ws' := [(g0, .inr (5, [.ref ra, .ref wa, .ref ta, .int kpt, .ref ma, .int mkd, .ref pa, .int tpd, .int at0, .int wel, .ref ba, .ref ka, .int srt, .ref fa, .ref qa, .ref ea, .ref za, .ref ya, .int wks])), (ra, .inl (cI, 7, .inl rf))]) [0, 2] (by decide) rfl
    have hFc := va_free (wc := [(g0, .inr (5, [.ref ra, .ref wa, .ref ta, .int kpt, .ref ma, .int mkd, .ref pa, .int tpd, .int at0, .int wel, .ref ba, .ref ka, .int srt, .ref fa, .ref qa, .ref ea, .ref za, .ref ya, .int wks])), (ra, .inl (cI, 7, .inl rf))]) hD hS hA [0, 2] rfl
    refine va_calli (va_runV (As := [.int (-2)]) (rest := []) ⟨hx, hb, hml, hown, hts⟩ (g_X5_no l D cI cL cZ cC _ g0 ra wa ta ma pa ba ka fa qa ea za ya kpt mkd tpd at0 wel srt wks rf (-2) (by first | assumption | decide +kernel) (by first | assumption | decide +kernel)) (cwV 1 hts gX5_lots_X5_no rfl rfl rfl (by decide +kernel) ⟨Nat.le_of_ble_eq_true rfl, Nat.le_of_ble_eq_true rfl⟩) ⟨wPc_bl, va_recv hK hPc (ci := 5) (q0 := 0) rfl rfl, wPc_use hPc hK hDc⟩ rfl rfl hl.1 rfl (lv_room (Nat.le_of_ble_eq_true rfl)) dX5_lots_26 ⟨Nat.le_of_ble_eq_true rfl, Nat.le_of_ble_eq_true rfl⟩) hS (fun q _ h => hFc q h) hFc (fun r_7 u_7 t H1 locs ht hvm hw hB hz1 hk1 hS => ?_)
    obtain ⟨hP1, hD1⟩ := hB
    rw [ht] at hP1
    obtain ⟨hP, hD⟩ := va_join (wr := [(wa, .inl (cI, 70, .inl nw))]) (w1 := [(g0, .inr (5, [.ref ra, .ref wa, .ref ta, .int kpt, .ref ma, .int mkd, .ref pa, .int tpd, .int at0, .int wel, .ref ba, .ref ka, .int srt, .ref fa, .ref qa, .ref ea, .ref za, .ref ya, .int wks])), (ra, .inl (cI, 7, .inl (xRf rf (-2))))]) hP hD [0, 2] [1] rfl rfl (by decide) (by decide) hk1 hFc hP1 hD1
    generalize H1 = H at hP hS ⊢
    have hP : va_P D vwCl [(wa, .inl (cI, 70, .inl nw)), (g0, .inr (5, [.ref ra, .ref wa, .ref ta, .int kpt, .ref ma, .int mkd, .ref pa, .int tpd, .int at0, .int wel, .ref ba, .ref ka, .int srt, .ref fa, .ref qa, .ref ea, .ref za, .ref ya, .int wks])), (ra, .inl (cI, 7, .inl (xRf rf (-2))))] H := hP
    have hD : va_D A [(wa, .inl (cI, 70, .inl nw)), (g0, .inr (5, [.ref ra, .ref wa, .ref ta, .int kpt, .ref ma, .int mkd, .ref pa, .int tpd, .int at0, .int wel, .ref ba, .ref ka, .int srt, .ref fa, .ref qa, .ref ea, .ref za, .ref ya, .int wks])), (ra, .inl (cI, 7, .inl (xRf rf (-2))))] := hD
    obtain rfl : ((-2) : Int32) = r_7 := Eq.symm hw
    have hP9 := hP.sub (ws' := [(g0, .inr (5, [.ref ra, .ref wa, .ref ta, .int kpt, .ref ma, .int mkd, .ref pa, .int tpd, .int at0, .int wel, .ref ba, .ref ka, .int srt, .ref fa, .ref qa, .ref ea, .ref za, .ref ya, .int wks])), (wa, .inl (cI, 70, .inl nw)), (ra, .inl (cI, 7, .inl (xRf rf (-2))))]) [1, 0, 2] rfl
    have hD9 := hD.sub (ws' := [(g0, .inr (5, [.ref ra, .ref wa, .ref ta, .int kpt, .ref ma, .int mkd, .ref pa, .int tpd, .int at0, .int wel, .ref ba, .ref ka, .int srt, .ref fa, .ref qa, .ref ea, .ref za, .ref ya, .int wks])), (wa, .inl (cI, 70, .inl nw)), (ra, .inl (cI, 7, .inl (xRf rf (-2))))]) [1, 0, 2] (by decide) rfl
    have hE9 : ([(g0, .inr (5, [.ref ra, .ref wa, .ref ta, .int kpt, .ref ma, .int mkd, .ref pa, .int tpd, .int at0, .int wel, .ref ba, .ref ka, .int srt, .ref fa, .ref qa, .ref ea, .ref za, .ref ya, .int wks])), (wa, .inl (cI, 70, .inl nw)), (ra, .inl (cI, 7, .inl (xRf rf (-2))))] : va_W) = [(g0, .inr (5, [.ref ra, .ref wa, .ref ta, .int kpt, .ref ma, .int mkd, .ref pa, .int tpd, .int at0, .int wel, .ref ba, .ref ka, .int srt, .ref fa, .ref qa, .ref ea, .ref za, .ref ya, .int wks])), (wa, .inl (cI, 70, .inl nw)), (ra, .inl (cI, 7, .inl (xRq rf (qLo ln (nI j0) a2 a3))))] := by simp [xRq, qLo, sNK, h_0, c_5, c_6]
    exact W.iret (v := -2) hx hb hr (fun t ht hW => ⟨⟨_, (), rfl, by simp [qLo, sNK, v5Lo, h_0, c_5, c_6], by rw [ht]; exact hE9 ▸ hP9, hE9 ▸ hD9⟩, hS.F ht⟩) hS.2.2 dX5_lots_29
  · refine lv_iload_n hx hb dX5_lots_18 rfl (lv_at hl 2 rfl) ?_
    refine lv_iconst (v := 5) hx hb dX5_lots_19 (by decide) ?_
    refine lv_icmp_le (tgt := 30) hx hb dX5_lots_20 (by decide) (fun c_8 => ?_) (fun c_8 => ?_)
    · refine lv_iload_n hx hb dX5_lots_30 rfl (lv_at hl 3 rfl) ?_
      refine lv_iconst (v := 1) hx hb dX5_lots_31 (by decide) ?_
      refine lv_icmp_ge (tgt := 42) hx hb dX5_lots_32 (by decide) (fun c_9 => ?_) (fun c_9 => ?_)
      · refine lv_iload_n hx hb dX5_lots_42 rfl (lv_at hl 3 rfl) ?_
        refine lv_bipush (v := 30) hx hb dX5_lots_43 (by decide) ?_
        refine lv_icmp_le (tgt := 55) hx hb dX5_lots_45 (by decide) (fun c_10 => ?_) (fun c_10 => ?_)
        · have e5 : qLo ln (nI j0) a2 a3 = 0 := by simp [qLo, sNK, h_0, c_5, c_6, (Int32.not_lt.mpr c_8), (Int32.not_lt.mpr c_9), (Int32.not_lt.mpr c_10)]
          obtain ⟨n3, rfl, hn3⟩ := xInN1 (n := 30) (by decide) (Int32.not_lt.mpr c_9) (Int32.not_lt.mpr c_10)
          have hw0 := hwq j0 hj0
          refine lv_iload hx hb dX5_lots_55 (lv_at hl 4 rfl) ?_
          refine lv_istore (lv' := [(5, .int a4), (0, .ref g0), (1, .int (nI j0)), (2, .int a2), (3, .int (nI n3)), (4, .int a4)]) hx hb dX5_lots_57 hl (by decide) rfl (fun ls hl => ?_)
          refine lv_iconst (v := 0) hx hb dX5_lots_59 (by decide) ?_
          refine lv_istore (lv' := [(6, .int 0), (5, .int a4), (0, .ref g0), (1, .int (nI j0)), (2, .int a2), (3, .int (nI n3)), (4, .int a4)]) hx hb dX5_lots_60 hl (by decide) rfl (fun ls hl => ?_)
          refine lv_iconst (v := 0) hx hb dX5_lots_62 (by decide) ?_
          refine lv_istore (lv' := [(7, .int 0), (6, .int 0), (5, .int a4), (0, .ref g0), (1, .int (nI j0)), (2, .int a2), (3, .int (nI n3)), (4, .int a4)]) hx hb dX5_lots_63 hl (by decide) rfl (fun ls hl => ?_)
          refine xl_loopH (σ := Nat) (fun n q H locs ls => lv_has ls 10 [(7, .int (nI q)), (6, .int (xSm (x5L st nw (20 + 16 * j0) a2 a4) q)), (5, .int (xSd a4 q)), (0, .ref g0), (1, .int (nI j0)), (2, .int a2), (3, .int (nI n3)), (4, .int a4)] ∧ va_P D vwCl [(g0, .inr (5, [.ref ra, .ref wa, .ref ta, .int kpt, .ref ma, .int mkd, .ref pa, .int tpd, .int at0, .int wel, .ref ba, .ref ka, .int srt, .ref fa, .ref qa, .ref ea, .ref za, .ref ya, .int wks])), (wa, .inl (cI, 70, .inl nw)), (ra, .inl (cI, 7, .inl rf))] H ∧ va_D A [(g0, .inr (5, [.ref ra, .ref wa, .ref ta, .int kpt, .ref ma, .int mkd, .ref pa, .int tpd, .int at0, .int wel, .ref ba, .ref ka, .int srt, .ref fa, .ref qa, .ref ea, .ref za, .ref ya, .int wks])), (wa, .inl (cI, 70, .inl nw)), (ra, .inl (cI, 7, .inl rf))] ∧ va_S A s.heap H locs ∧ (n3 - q < n) ∧ (q ≤ n3)) (n3 + 1) (0) ⟨lv_sub hl [0, 1, 2, 3, 4, 5, 6, 7] rfl, hP.sub [0, 1, 2] rfl, hD.sub [0, 1, 2] (by decide) rfl, hS, by (try dsimp only); exact ⟨by omega, by omega⟩⟩ (fun q H lc ls h => absurd h.2.2.2.2.1 (Nat.not_lt_zero _)) ?_
          intro n_65 q_65 H locs ls ih_65 hI_65
          obtain ⟨hl, hP, hD, hS, hI_65⟩ := hI_65
          obtain ⟨k, e_65⟩ : ∃ z, z = q_65 := ⟨_, rfl⟩
          subst e_65
          obtain ⟨h1, h2⟩ := hI_65
          try dsimp only at hl hP hD h1 h2
          refine lv_iload hx hb dX5_lots_65 (lv_at hl 0 rfl) ?_
          refine lv_iload_n hx hb dX5_lots_67 rfl (lv_at hl 6 rfl) ?_
          refine lv_icmp_ge (tgt := 159) hx hb dX5_lots_68 (by decide) (fun c_11 => ?_) (fun c_11 => ?_)
          · refine lv_iload hx hb dX5_lots_159 (lv_at hl 1 rfl) ?_
            have hP9 := hP.sub (ws' := [(g0, .inr (5, [.ref ra, .ref wa, .ref ta, .int kpt, .ref ma, .int mkd, .ref pa, .int tpd, .int at0, .int wel, .ref ba, .ref ka, .int srt, .ref fa, .ref qa, .ref ea, .ref za, .ref ya, .int wks])), (wa, .inl (cI, 70, .inl nw)), (ra, .inl (cI, 7, .inl rf))]) [0, 1, 2] rfl
            have hD9 := hD.sub (ws' := [(g0, .inr (5, [.ref ra, .ref wa, .ref ta, .int kpt, .ref ma, .int mkd, .ref pa, .int tpd, .int at0, .int wel, .ref ba, .ref ka, .int srt, .ref fa, .ref qa, .ref ea, .ref za, .ref ya, .int wks])), (wa, .inl (cI, 70, .inl nw)), (ra, .inl (cI, 7, .inl rf))]) [0, 1, 2] (by decide) rfl
            have hE9 : ([(g0, .inr (5, [.ref ra, .ref wa, .ref ta, .int kpt, .ref ma, .int mkd, .ref pa, .int tpd, .int at0, .int wel, .ref ba, .ref ka, .int srt, .ref fa, .ref qa, .ref ea, .ref za, .ref ya, .int wks])), (wa, .inl (cI, 70, .inl nw)), (ra, .inl (cI, 7, .inl rf))] : va_W) = [(g0, .inr (5, [.ref ra, .ref wa, .ref ta, .int kpt, .ref ma, .int mkd, .ref pa, .int tpd, .int at0, .int wel, .ref ba, .ref ka, .int srt, .ref fa, .ref qa, .ref ea, .ref za, .ref ya, .int wks])), (wa, .inl (cI, 70, .inl nw)), (ra, .inl (cI, 7, .inl (xRq rf (qLo ln (nI j0) a2 (nI n3)))))] := by simp [xRq, e5]
            exact W.iret (v := xSm (x5L st nw (20 + 16 * j0) a2 a4) k) hx hb hr (fun t ht hW => ⟨⟨_, (), rfl, (by have w := mt (nI_ltI (a := k) (b := n3) (by omega) (by omega)).mpr (Int32.not_lt.mpr c_11); obtain rfl : k = n3 := (by omega); simp [e5, v5Lo, nI_clamp (show j0 < 2 ^ 31 by omega), nI_clamp (show k < 2 ^ 31 by omega)]), by rw [ht]; exact hE9 ▸ hP9, hE9 ▸ hD9⟩, hS.F ht⟩) hS.2.2 dX5_lots_161
          · refine lv_iload hx hb dX5_lots_71 (lv_at hl 2 rfl) ?_
            refine lv_ldc hx hb hown (hts (.constant RX5 191 (1664525)) (by decide +kernel)) dX5_lots_73 ?_
            refine lv_imul hx hb dX5_lots_75 ?_
            refine lv_ldc hx hb hown (hts (.constant RX5 192 (1013904223)) (by decide +kernel)) dX5_lots_76 ?_
            refine lv_iadd hx hb dX5_lots_78 ?_
            refine xv_int (y := xSd a4 (k + 1)) (rfl) ?_
            refine lv_istore (lv' := [(5, .int (xSd a4 (k + 1))), (7, .int (nI k)), (6, .int (xSm (x5L st nw (20 + 16 * j0) a2 a4) k)), (0, .ref g0), (1, .int (nI j0)), (2, .int a2), (3, .int (nI n3)), (4, .int a4)]) hx hb dX5_lots_79 hl (by decide) rfl (fun ls hl => ?_)
            refine lv_iload hx hb dX5_lots_81 (lv_at hl 0 rfl) ?_
            refine lv_ldc hx hb hown (hts (.constant RX5 193 (2147483647)) (by decide +kernel)) dX5_lots_83 ?_
            refine lv_iand hx hb dX5_lots_85 ?_
            refine lv_sipush (v := 256) hx hb dX5_lots_86 (by decide) ?_
            refine lv_idiv hx hb dX5_lots_89 ((by decide)) ?_
            refine lv_aload_n hx hb dX5_lots_90 rfl (lv_at hl 3 rfl) ?_
            refine lv_iload_n hx hb dX5_lots_91 rfl (lv_at hl 4 rfl) ?_
            refine lv_iconst (v := 0) hx hb dX5_lots_92 (by decide) ?_
            have hPc := hP.sub (ws' := [(g0, .inr (5, [.ref ra, .ref wa, .ref ta, .int kpt, .ref ma, .int mkd, .ref pa, .int tpd, .int at0, .int wel, .ref ba, .ref ka, .int srt, .ref fa, .ref qa, .ref ea, .ref za, .ref ya, .int wks])), (wa, .inl (cI, 70, .inl nw))]) [0, 1] rfl
            refine vp_callSi (va_Run.run (va_runV (As := [.int (nI j0), .int 0]) (rest := [.int (((xSd a4 (k + 1)) &&& 2147483647) / 256)]) ⟨hx, hb, hml, hown, hts⟩ (g_X5_weights l D cI cL cZ cC g0 ra wa ta ma pa ba ka fa qa ea za ya kpt mkd tpd at0 wel srt wks st nw j0 0 (by first | assumption | decide +kernel) (by first | assumption | decide +kernel) (by first | assumption | decide +kernel) (by omega) (by decide)) (cwV 2 hts gX5_lots_X5_weights rfl rfl rfl (by decide +kernel) ⟨Nat.le_of_ble_eq_true rfl, Nat.le_of_ble_eq_true rfl⟩) ⟨xPc_bl, va_recv hK hPc (ci := 5) (q0 := 0) rfl rfl, xPc_use hPc hK⟩ rfl rfl hl.1 rfl (lv_room (Nat.le_of_ble_eq_true rfl)) dX5_lots_93 ⟨Nat.le_of_ble_eq_true rfl, Nat.le_of_ble_eq_true rfl⟩)) (fun r_12 er_12 => ?_)
            obtain rfl : (xWs (fun i => nw (20 + 16 * j0 + i)) 0 : Int32) = r_12 := Eq.symm er_12
            refine lv_irem hx hb dX5_lots_96 (hw0) ?_
            refine xv_int (y := xRd (xSd a4 (k + 1)) (xWs (fun i => nw ((20 + 16 * j0) + i)) 0)) (rfl) ?_
            refine lv_istore (lv' := [(8, .int (xRd (xSd a4 (k + 1)) (xWs (fun i => nw ((20 + 16 * j0) + i)) 0))), (5, .int (xSd a4 (k + 1))), (7, .int (nI k)), (6, .int (xSm (x5L st nw (20 + 16 * j0) a2 a4) k)), (0, .ref g0), (1, .int (nI j0)), (2, .int a2), (3, .int (nI n3)), (4, .int a4)]) hx hb dX5_lots_97 hl (by decide) rfl (fun ls hl => ?_)
            refine lv_iconst (v := 0) hx hb dX5_lots_99 (by decide) ?_
            refine lv_istore (lv' := [(9, .int 0), (8, .int (xRd (xSd a4 (k + 1)) (xWs (fun i => nw ((20 + 16 * j0) + i)) 0))), (5, .int (xSd a4 (k + 1))), (7, .int (nI k)), (6, .int (xSm (x5L st nw (20 + 16 * j0) a2 a4) k)), (0, .ref g0), (1, .int (nI j0)), (2, .int a2), (3, .int (nI n3)), (4, .int a4)]) hx hb dX5_lots_100 hl (by decide) rfl (fun ls hl => ?_)
            refine xl_loopH (σ := Nat × Int32) (fun n q H locs ls => lv_has ls 10 [(9, .int (nI q.1)), (8, .int q.2), (5, .int (xSd a4 (k + 1))), (7, .int (nI k)), (6, .int (xSm (x5L st nw (20 + 16 * j0) a2 a4) k)), (0, .ref g0), (1, .int (nI j0)), (2, .int a2), (3, .int (nI n3)), (4, .int a4)] ∧ va_P D vwCl [(g0, .inr (5, [.ref ra, .ref wa, .ref ta, .int kpt, .ref ma, .int mkd, .ref pa, .int tpd, .int at0, .int wel, .ref ba, .ref ka, .int srt, .ref fa, .ref qa, .ref ea, .ref za, .ref ya, .int wks])), (wa, .inl (cI, 70, .inl nw)), (ra, .inl (cI, 7, .inl rf))] H ∧ va_D A [(g0, .inr (5, [.ref ra, .ref wa, .ref ta, .int kpt, .ref ma, .int mkd, .ref pa, .int tpd, .int at0, .int wel, .ref ba, .ref ka, .int srt, .ref fa, .ref qa, .ref ea, .ref za, .ref ya, .int wks])), (wa, .inl (cI, 70, .inl nw)), (ra, .inl (cI, 7, .inl rf))] ∧ va_S A s.heap H locs ∧ (12 - q.1 < n) ∧ (q.1 ≤ 12) ∧ (x5Lo (xWt (fun i => nw ((20 + 16 * j0) + i))) (12 - q.1) q.1 q.2 = x5Dr nw (20 + 16 * j0) (xSd a4 (k + 1)))) (13) (0, xRd (xSd a4 (k + 1)) (xWs (fun i => nw ((20 + 16 * j0) + i)) 0)) ⟨lv_sub hl [0, 1, 2, 3, 4, 5, 6, 7, 8, 9] rfl, hP.sub [0, 1, 2] rfl, hD.sub [0, 1, 2] (by decide) rfl, hS, by (try dsimp only); exact ⟨by omega, by omega, rfl⟩⟩ (fun q H lc ls h => absurd h.2.2.2.2.1 (Nat.not_lt_zero _)) ?_
            intro n_102 q_102 H locs ls ih_102 hI_102
            obtain ⟨hl, hP, hD, hS, hI_102⟩ := hI_102
            obtain ⟨t1, l1⟩ := q_102
            obtain ⟨i1, i2, i3⟩ := hI_102
            try dsimp only at hl hP hD i1 i2 i3
            refine lv_iload hx hb dX5_lots_102 (lv_at hl 0 rfl) ?_
            refine lv_bipush (v := 12) hx hb dX5_lots_104 (by decide) ?_
            refine lv_icmp_ge (tgt := 139) hx hb dX5_lots_106 (by decide) (fun c_13 => ?_) (fun c_13 => ?_)
            · have e6 : t1 = x5Dr nw (20 + 16 * j0) (xSd a4 (k + 1)) := by have w := mt (nI_ltI (a := t1) (b := 12) (by omega) (by omega)).mpr (Int32.not_lt.mpr c_13); rw [x5Lo_z (show t1 = 12 by omega)] at i3; exact i3
              have e7 : t1 ≤ 12 := by omega
              refine lv_iload hx hb dX5_lots_139 (lv_at hl 4 rfl) ?_
              refine lv_aload_n hx hb dX5_lots_141 rfl (lv_at hl 5 rfl) ?_
              refine lv_iload_n hx hb dX5_lots_142 rfl (lv_at hl 6 rfl) ?_
              refine lv_iload_n hx hb dX5_lots_143 rfl (lv_at hl 7 rfl) ?_
              refine lv_iconst (v := 5) hx hb dX5_lots_144 (by decide) ?_
              refine lv_iload hx hb dX5_lots_145 (lv_at hl 0 rfl) ?_
              have hPc := hP.sub (ws' := [(g0, .inr (5, [.ref ra, .ref wa, .ref ta, .int kpt, .ref ma, .int mkd, .ref pa, .int tpd, .int at0, .int wel, .ref ba, .ref ka, .int srt, .ref fa, .ref qa, .ref ea, .ref za, .ref ya, .int wks])), (wa, .inl (cI, 70, .inl nw))]) [0, 1] rfl
              refine vp_callSi (va_Run.run (va_runV (As := [.int (nI j0), .int a2, .int 5, .int (nI t1)]) (rest := [.int (xSm (x5L st nw (20 + 16 * j0) a2 a4) k)]) ⟨hx, hb, hml, hown, hts⟩ (g_X5_home l D cI cL cZ cC g0 ra wa ta ma pa ba ka fa qa ea za ya kpt mkd tpd at0 wel srt wks st nw j0 a2 5 (nI t1) (by first | assumption | decide +kernel) (by first | assumption | decide +kernel) (by first | assumption | decide +kernel) (by omega) (by first | assumption | decide +kernel) (by first | assumption | decide +kernel)) (cwV 4 hts gX5_lots_X5_home rfl rfl rfl (by decide +kernel) ⟨Nat.le_of_ble_eq_true rfl, Nat.le_of_ble_eq_true rfl⟩) ⟨xPc_bl, va_recv hK hPc (ci := 5) (q0 := 0) rfl rfl, xPc_use hPc hK⟩ rfl rfl hl.1 rfl (lv_room (Nat.le_of_ble_eq_true rfl)) dX5_lots_147 ⟨Nat.le_of_ble_eq_true rfl, Nat.le_of_ble_eq_true rfl⟩)) (fun r_14 er_14 => ?_)
              obtain rfl : (xHo st nw (20 + 16 * j0) a2 (5 : Int32) (nI t1) : Int32) = r_14 := Eq.symm er_14
              refine xv_int (y := (x5L st nw (20 + 16 * j0) a2 a4) k) (by rw [e6]; rfl) ?_
              refine lv_iadd hx hb dX5_lots_150 ?_
              refine xv_int (y := xSm (x5L st nw (20 + 16 * j0) a2 a4) (k + 1)) (rfl) ?_
              refine lv_istore (lv' := [(6, .int (xSm (x5L st nw (20 + 16 * j0) a2 a4) (k + 1))), (9, .int (nI t1)), (8, .int l1), (5, .int (xSd a4 (k + 1))), (7, .int (nI k)), (0, .ref g0), (1, .int (nI j0)), (2, .int a2), (3, .int (nI n3)), (4, .int a4)]) hx hb dX5_lots_151 hl (by decide) rfl (fun ls hl => ?_)
              refine lv_iinc (v := nI (k + 1)) (lv' := [(7, .int (nI (k + 1))), (6, .int (xSm (x5L st nw (20 + 16 * j0) a2 a4) (k + 1))), (9, .int (nI t1)), (8, .int l1), (5, .int (xSd a4 (k + 1))), (0, .ref g0), (1, .int (nI j0)), (2, .int a2), (3, .int (nI n3)), (4, .int a4)]) hx hb dX5_lots_153 hl (k := 4) rfl (nI_1 k) (by decide) rfl (fun ls hl => ?_)
              refine lv_goto (tgt := 65) hx hb dX5_lots_156 (by decide) ?_
              have w := (nI_ltI (a := k) (b := n3) (by omega) (by omega)).mp (Int32.not_le.mp c_11)
              exact ih_65 (k + 1) _ _ _ ⟨lv_sub hl [0, 1, 4, 5, 6, 7, 8, 9] rfl, hP.sub [0, 1, 2] rfl, hD.sub [0, 1, 2] (by decide) rfl, hS, by (try dsimp only); exact ⟨by omega, by omega⟩⟩
            · refine lv_iload hx hb dX5_lots_109 (lv_at hl 1 rfl) ?_
              refine lv_aload_n hx hb dX5_lots_111 rfl (lv_at hl 5 rfl) ?_
              refine lv_iload_n hx hb dX5_lots_112 rfl (lv_at hl 6 rfl) ?_
              refine lv_iload hx hb dX5_lots_113 (lv_at hl 0 rfl) ?_
              have hPc := hP.sub (ws' := [(g0, .inr (5, [.ref ra, .ref wa, .ref ta, .int kpt, .ref ma, .int mkd, .ref pa, .int tpd, .int at0, .int wel, .ref ba, .ref ka, .int srt, .ref fa, .ref qa, .ref ea, .ref za, .ref ya, .int wks])), (wa, .inl (cI, 70, .inl nw))]) [0, 1] rfl
              refine vp_callSi (va_Run.run (va_runV (As := [.int (nI j0), .int (nI t1)]) (rest := [.int l1]) ⟨hx, hb, hml, hown, hts⟩ (g_X5_weight l D cI cL cZ cC g0 ra wa ta ma pa ba ka fa qa ea za ya kpt mkd tpd at0 wel srt wks st nw j0 t1 (by first | assumption | decide +kernel) (by first | assumption | decide +kernel) (by first | assumption | decide +kernel) (by omega) (by omega)) (cwV 2 hts gX5_lots_X5_weight rfl rfl rfl (by decide +kernel) ⟨Nat.le_of_ble_eq_true rfl, Nat.le_of_ble_eq_true rfl⟩) ⟨xPc_bl, va_recv hK hPc (ci := 5) (q0 := 0) rfl rfl, xPc_use hPc hK⟩ rfl rfl hl.1 rfl (lv_room (Nat.le_of_ble_eq_true rfl)) dX5_lots_115 ⟨Nat.le_of_ble_eq_true rfl, Nat.le_of_ble_eq_true rfl⟩)) (fun r_15 er_15 => ?_)
              obtain rfl : (xWt (fun i => nw (20 + 16 * j0 + i)) t1 : Int32) = r_15 := Eq.symm er_15
              refine lv_icmp_lt (tgt := 139) hx hb dX5_lots_118 (by decide) (fun c_16 => ?_) (fun c_16 => ?_)
              · have e6 : t1 = x5Dr nw (20 + 16 * j0) (xSd a4 (k + 1)) := by have w := (nI_ltI (a := t1) (b := 12) (by omega) (by omega)).mp (Int32.not_le.mp c_13); rw [x5Lo_t w c_16] at i3; exact i3
                have e7 : t1 ≤ 12 := by omega
                refine lv_iload hx hb dX5_lots_139 (lv_at hl 4 rfl) ?_
                refine lv_aload_n hx hb dX5_lots_141 rfl (lv_at hl 5 rfl) ?_
                refine lv_iload_n hx hb dX5_lots_142 rfl (lv_at hl 6 rfl) ?_
                refine lv_iload_n hx hb dX5_lots_143 rfl (lv_at hl 7 rfl) ?_
                refine lv_iconst (v := 5) hx hb dX5_lots_144 (by decide) ?_
                refine lv_iload hx hb dX5_lots_145 (lv_at hl 0 rfl) ?_
                have hPc := hP.sub (ws' := [(g0, .inr (5, [.ref ra, .ref wa, .ref ta, .int kpt, .ref ma, .int mkd, .ref pa, .int tpd, .int at0, .int wel, .ref ba, .ref ka, .int srt, .ref fa, .ref qa, .ref ea, .ref za, .ref ya, .int wks])), (wa, .inl (cI, 70, .inl nw))]) [0, 1] rfl
                refine vp_callSi (va_Run.run (va_runV (As := [.int (nI j0), .int a2, .int 5, .int (nI t1)]) (rest := [.int (xSm (x5L st nw (20 + 16 * j0) a2 a4) k)]) ⟨hx, hb, hml, hown, hts⟩ (g_X5_home l D cI cL cZ cC g0 ra wa ta ma pa ba ka fa qa ea za ya kpt mkd tpd at0 wel srt wks st nw j0 a2 5 (nI t1) (by first | assumption | decide +kernel) (by first | assumption | decide +kernel) (by first | assumption | decide +kernel) (by omega) (by first | assumption | decide +kernel) (by first | assumption | decide +kernel)) (cwV 4 hts gX5_lots_X5_home rfl rfl rfl (by decide +kernel) ⟨Nat.le_of_ble_eq_true rfl, Nat.le_of_ble_eq_true rfl⟩) ⟨xPc_bl, va_recv hK hPc (ci := 5) (q0 := 0) rfl rfl, xPc_use hPc hK⟩ rfl rfl hl.1 rfl (lv_room (Nat.le_of_ble_eq_true rfl)) dX5_lots_147 ⟨Nat.le_of_ble_eq_true rfl, Nat.le_of_ble_eq_true rfl⟩)) (fun r_17 er_17 => ?_)
                obtain rfl : (xHo st nw (20 + 16 * j0) a2 (5 : Int32) (nI t1) : Int32) = r_17 := Eq.symm er_17
                refine xv_int (y := (x5L st nw (20 + 16 * j0) a2 a4) k) (by rw [e6]; rfl) ?_
                refine lv_iadd hx hb dX5_lots_150 ?_
                refine xv_int (y := xSm (x5L st nw (20 + 16 * j0) a2 a4) (k + 1)) (rfl) ?_
                refine lv_istore (lv' := [(6, .int (xSm (x5L st nw (20 + 16 * j0) a2 a4) (k + 1))), (9, .int (nI t1)), (8, .int l1), (5, .int (xSd a4 (k + 1))), (7, .int (nI k)), (0, .ref g0), (1, .int (nI j0)), (2, .int a2), (3, .int (nI n3)), (4, .int a4)]) hx hb dX5_lots_151 hl (by decide) rfl (fun ls hl => ?_)
                refine lv_iinc (v := nI (k + 1)) (lv' := [(7, .int (nI (k + 1))), (6, .int (xSm (x5L st nw (20 + 16 * j0) a2 a4) (k + 1))), (9, .int (nI t1)), (8, .int l1), (5, .int (xSd a4 (k + 1))), (0, .ref g0), (1, .int (nI j0)), (2, .int a2), (3, .int (nI n3)), (4, .int a4)]) hx hb dX5_lots_153 hl (k := 4) rfl (nI_1 k) (by decide) rfl (fun ls hl => ?_)
                refine lv_goto (tgt := 65) hx hb dX5_lots_156 (by decide) ?_
                have w := (nI_ltI (a := k) (b := n3) (by omega) (by omega)).mp (Int32.not_le.mp c_11)
                exact ih_65 (k + 1) _ _ _ ⟨lv_sub hl [0, 1, 4, 5, 6, 7, 8, 9] rfl, hP.sub [0, 1, 2] rfl, hD.sub [0, 1, 2] (by decide) rfl, hS, by (try dsimp only); exact ⟨by omega, by omega⟩⟩
              · refine lv_iload hx hb dX5_lots_121 (lv_at hl 1 rfl) ?_
                refine lv_aload_n hx hb dX5_lots_123 rfl (lv_at hl 5 rfl) ?_
                refine lv_iload_n hx hb dX5_lots_124 rfl (lv_at hl 6 rfl) ?_
                refine lv_iload hx hb dX5_lots_125 (lv_at hl 0 rfl) ?_
                have hPc := hP.sub (ws' := [(g0, .inr (5, [.ref ra, .ref wa, .ref ta, .int kpt, .ref ma, .int mkd, .ref pa, .int tpd, .int at0, .int wel, .ref ba, .ref ka, .int srt, .ref fa, .ref qa, .ref ea, .ref za, .ref ya, .int wks])), (wa, .inl (cI, 70, .inl nw))]) [0, 1] rfl
                refine vp_callSi (va_Run.run (va_runV (As := [.int (nI j0), .int (nI t1)]) (rest := [.int l1]) ⟨hx, hb, hml, hown, hts⟩ (g_X5_weight l D cI cL cZ cC g0 ra wa ta ma pa ba ka fa qa ea za ya kpt mkd tpd at0 wel srt wks st nw j0 t1 (by first | assumption | decide +kernel) (by first | assumption | decide +kernel) (by first | assumption | decide +kernel) (by omega) (by omega)) (cwV 2 hts gX5_lots_X5_weight rfl rfl rfl (by decide +kernel) ⟨Nat.le_of_ble_eq_true rfl, Nat.le_of_ble_eq_true rfl⟩) ⟨xPc_bl, va_recv hK hPc (ci := 5) (q0 := 0) rfl rfl, xPc_use hPc hK⟩ rfl rfl hl.1 rfl (lv_room (Nat.le_of_ble_eq_true rfl)) dX5_lots_127 ⟨Nat.le_of_ble_eq_true rfl, Nat.le_of_ble_eq_true rfl⟩)) (fun r_18 er_18 => ?_)
                obtain rfl : (xWt (fun i => nw (20 + 16 * j0 + i)) t1 : Int32) = r_18 := Eq.symm er_18
                refine lv_isub hx hb dX5_lots_130 ?_
                refine lv_istore (lv' := [(8, .int (l1 - (xWt (fun i => nw (20 + 16 * j0 + i)) t1))), (9, .int (nI t1)), (5, .int (xSd a4 (k + 1))), (7, .int (nI k)), (6, .int (xSm (x5L st nw (20 + 16 * j0) a2 a4) k)), (0, .ref g0), (1, .int (nI j0)), (2, .int a2), (3, .int (nI n3)), (4, .int a4)]) hx hb dX5_lots_131 hl (by decide) rfl (fun ls hl => ?_)
                refine lv_iinc (v := nI (t1 + 1)) (lv' := [(9, .int (nI (t1 + 1))), (8, .int (l1 - (xWt (fun i => nw (20 + 16 * j0 + i)) t1))), (5, .int (xSd a4 (k + 1))), (7, .int (nI k)), (6, .int (xSm (x5L st nw (20 + 16 * j0) a2 a4) k)), (0, .ref g0), (1, .int (nI j0)), (2, .int a2), (3, .int (nI n3)), (4, .int a4)]) hx hb dX5_lots_133 hl (k := 1) rfl (nI_1 t1) (by decide) rfl (fun ls hl => ?_)
                refine lv_goto (tgt := 102) hx hb dX5_lots_136 (by decide) ?_
                have w := (nI_ltI (a := t1) (b := 12) (by omega) (by omega)).mp (Int32.not_le.mp c_13)
                have e8 := (x5Lo_s w c_16).trans i3
                exact ih_102 (t1 + 1, l1 - (xWt (fun i => nw ((20 + 16 * j0) + i))) t1) _ _ _ ⟨lv_sub hl [0, 1, 2, 3, 4, 5, 6, 7, 8, 9] rfl, hP.sub [0, 1, 2] rfl, hD.sub [0, 1, 2] (by decide) rfl, hS, by (try dsimp only); exact ⟨by omega, by omega, e8⟩⟩
        · refine lv_aload_n hx hb dX5_lots_48 rfl (lv_at hl 0 rfl) ?_
          refine lv_bipush (v := -6) hx hb dX5_lots_49 (by decide) ?_
          have hPc := hP.sub (ws' := [(g0, .inr (5, [.ref ra, .ref wa, .ref ta, .int kpt, .ref ma, .int mkd, .ref pa, .int tpd, .int at0, .int wel, .ref ba, .ref ka, .int srt, .ref fa, .ref qa, .ref ea, .ref za, .ref ya, .int wks])), (ra, .inl (cI, 7, .inl rf))]) [0, 2] rfl
          have hDc := hD.sub (ws' := [(g0, .inr (5, [.ref ra, .ref wa, .ref ta, .int kpt, .ref ma, .int mkd, .ref pa, .int tpd, .int at0, .int wel, .ref ba, .ref ka, .int srt, .ref fa, .ref qa, .ref ea, .ref za, .ref ya, .int wks])), (ra, .inl (cI, 7, .inl rf))]) [0, 2] (by decide) rfl
          have hFc := va_free (wc := [(g0, .inr (5, [.ref ra, .ref wa, .ref ta, .int kpt, .ref ma, .int mkd, .ref pa, .int tpd, .int at0, .int wel, .ref ba, .ref ka, .int srt, .ref fa, .ref qa, .ref ea, .ref za, .ref ya, .int wks])), (ra, .inl (cI, 7, .inl rf))]) hD hS hA [0, 2] rfl
          refine va_calli (va_runV (As := [.int (-6)]) (rest := []) ⟨hx, hb, hml, hown, hts⟩ (g_X5_no l D cI cL cZ cC _ g0 ra wa ta ma pa ba ka fa qa ea za ya kpt mkd tpd at0 wel srt wks rf (-6) (by first | assumption | decide +kernel) (by first | assumption | decide +kernel)) (cwV 1 hts gX5_lots_X5_no rfl rfl rfl (by decide +kernel) ⟨Nat.le_of_ble_eq_true rfl, Nat.le_of_ble_eq_true rfl⟩) ⟨wPc_bl, va_recv hK hPc (ci := 5) (q0 := 0) rfl rfl, wPc_use hPc hK hDc⟩ rfl rfl hl.1 rfl (lv_room (Nat.le_of_ble_eq_true rfl)) dX5_lots_51 ⟨Nat.le_of_ble_eq_true rfl, Nat.le_of_ble_eq_true rfl⟩) hS (fun q _ h => hFc q h) hFc (fun r_19 u_19 t H1 locs ht hvm hw hB hz1 hk1 hS => ?_)
          obtain ⟨hP1, hD1⟩ := hB
          rw [ht] at hP1
          obtain ⟨hP, hD⟩ := va_join (wr := [(wa, .inl (cI, 70, .inl nw))]) (w1 := [(g0, .inr (5, [.ref ra, .ref wa, .ref ta, .int kpt, .ref ma, .int mkd, .ref pa, .int tpd, .int at0, .int wel, .ref ba, .ref ka, .int srt, .ref fa, .ref qa, .ref ea, .ref za, .ref ya, .int wks])), (ra, .inl (cI, 7, .inl (xRf rf (-6))))]) hP hD [0, 2] [1] rfl rfl (by decide) (by decide) hk1 hFc hP1 hD1
          generalize H1 = H at hP hS ⊢
          have hP : va_P D vwCl [(wa, .inl (cI, 70, .inl nw)), (g0, .inr (5, [.ref ra, .ref wa, .ref ta, .int kpt, .ref ma, .int mkd, .ref pa, .int tpd, .int at0, .int wel, .ref ba, .ref ka, .int srt, .ref fa, .ref qa, .ref ea, .ref za, .ref ya, .int wks])), (ra, .inl (cI, 7, .inl (xRf rf (-6))))] H := hP
          have hD : va_D A [(wa, .inl (cI, 70, .inl nw)), (g0, .inr (5, [.ref ra, .ref wa, .ref ta, .int kpt, .ref ma, .int mkd, .ref pa, .int tpd, .int at0, .int wel, .ref ba, .ref ka, .int srt, .ref fa, .ref qa, .ref ea, .ref za, .ref ya, .int wks])), (ra, .inl (cI, 7, .inl (xRf rf (-6))))] := hD
          obtain rfl : ((-6) : Int32) = r_19 := Eq.symm hw
          have hP9 := hP.sub (ws' := [(g0, .inr (5, [.ref ra, .ref wa, .ref ta, .int kpt, .ref ma, .int mkd, .ref pa, .int tpd, .int at0, .int wel, .ref ba, .ref ka, .int srt, .ref fa, .ref qa, .ref ea, .ref za, .ref ya, .int wks])), (wa, .inl (cI, 70, .inl nw)), (ra, .inl (cI, 7, .inl (xRf rf (-6))))]) [1, 0, 2] rfl
          have hD9 := hD.sub (ws' := [(g0, .inr (5, [.ref ra, .ref wa, .ref ta, .int kpt, .ref ma, .int mkd, .ref pa, .int tpd, .int at0, .int wel, .ref ba, .ref ka, .int srt, .ref fa, .ref qa, .ref ea, .ref za, .ref ya, .int wks])), (wa, .inl (cI, 70, .inl nw)), (ra, .inl (cI, 7, .inl (xRf rf (-6))))]) [1, 0, 2] (by decide) rfl
          have hE9 : ([(g0, .inr (5, [.ref ra, .ref wa, .ref ta, .int kpt, .ref ma, .int mkd, .ref pa, .int tpd, .int at0, .int wel, .ref ba, .ref ka, .int srt, .ref fa, .ref qa, .ref ea, .ref za, .ref ya, .int wks])), (wa, .inl (cI, 70, .inl nw)), (ra, .inl (cI, 7, .inl (xRf rf (-6))))] : va_W) = [(g0, .inr (5, [.ref ra, .ref wa, .ref ta, .int kpt, .ref ma, .int mkd, .ref pa, .int tpd, .int at0, .int wel, .ref ba, .ref ka, .int srt, .ref fa, .ref qa, .ref ea, .ref za, .ref ya, .int wks])), (wa, .inl (cI, 70, .inl nw)), (ra, .inl (cI, 7, .inl (xRq rf (qLo ln (nI j0) a2 a3))))] := by simp [xRq, qLo, sNK, h_0, c_5, c_6, (Int32.not_lt.mpr c_8), (Int32.not_lt.mpr c_9), (Int32.not_le.mp c_10)]
          exact W.iret (v := -6) hx hb hr (fun t ht hW => ⟨⟨_, (), rfl, by simp [qLo, sNK, v5Lo, h_0, c_5, c_6, (Int32.not_lt.mpr c_8), (Int32.not_lt.mpr c_9), (Int32.not_le.mp c_10)], by rw [ht]; exact hE9 ▸ hP9, hE9 ▸ hD9⟩, hS.F ht⟩) hS.2.2 dX5_lots_54
      · refine lv_aload_n hx hb dX5_lots_35 rfl (lv_at hl 0 rfl) ?_
        refine lv_bipush (v := -4) hx hb dX5_lots_36 (by decide) ?_
        have hPc := hP.sub (ws' := [(g0, .inr (5, [.ref ra, .ref wa, .ref ta, .int kpt, .ref ma, .int mkd, .ref pa, .int tpd, .int at0, .int wel, .ref ba, .ref ka, .int srt, .ref fa, .ref qa, .ref ea, .ref za, .ref ya, .int wks])), (ra, .inl (cI, 7, .inl rf))]) [0, 2] rfl
        have hDc := hD.sub (ws' := [(g0, .inr (5, [.ref ra, .ref wa, .ref ta, .int kpt, .ref ma, .int mkd, .ref pa, .int tpd, .int at0, .int wel, .ref ba, .ref ka, .int srt, .ref fa, .ref qa, .ref ea, .ref za, .ref ya, .int wks])), (ra, .inl (cI, 7, .inl rf))]) [0, 2] (by decide) rfl
        have hFc := va_free (wc := [(g0, .inr (5, [.ref ra, .ref wa, .ref ta, .int kpt, .ref ma, .int mkd, .ref pa, .int tpd, .int at0, .int wel, .ref ba, .ref ka, .int srt, .ref fa, .ref qa, .ref ea, .ref za, .ref ya, .int wks])), (ra, .inl (cI, 7, .inl rf))]) hD hS hA [0, 2] rfl
        refine va_calli (va_runV (As := [.int (-4)]) (rest := []) ⟨hx, hb, hml, hown, hts⟩ (g_X5_no l D cI cL cZ cC _ g0 ra wa ta ma pa ba ka fa qa ea za ya kpt mkd tpd at0 wel srt wks rf (-4) (by first | assumption | decide +kernel) (by first | assumption | decide +kernel)) (cwV 1 hts gX5_lots_X5_no rfl rfl rfl (by decide +kernel) ⟨Nat.le_of_ble_eq_true rfl, Nat.le_of_ble_eq_true rfl⟩) ⟨wPc_bl, va_recv hK hPc (ci := 5) (q0 := 0) rfl rfl, wPc_use hPc hK hDc⟩ rfl rfl hl.1 rfl (lv_room (Nat.le_of_ble_eq_true rfl)) dX5_lots_38 ⟨Nat.le_of_ble_eq_true rfl, Nat.le_of_ble_eq_true rfl⟩) hS (fun q _ h => hFc q h) hFc (fun r_20 u_20 t H1 locs ht hvm hw hB hz1 hk1 hS => ?_)
        obtain ⟨hP1, hD1⟩ := hB
        rw [ht] at hP1
        obtain ⟨hP, hD⟩ := va_join (wr := [(wa, .inl (cI, 70, .inl nw))]) (w1 := [(g0, .inr (5, [.ref ra, .ref wa, .ref ta, .int kpt, .ref ma, .int mkd, .ref pa, .int tpd, .int at0, .int wel, .ref ba, .ref ka, .int srt, .ref fa, .ref qa, .ref ea, .ref za, .ref ya, .int wks])), (ra, .inl (cI, 7, .inl (xRf rf (-4))))]) hP hD [0, 2] [1] rfl rfl (by decide) (by decide) hk1 hFc hP1 hD1
        generalize H1 = H at hP hS ⊢
        have hP : va_P D vwCl [(wa, .inl (cI, 70, .inl nw)), (g0, .inr (5, [.ref ra, .ref wa, .ref ta, .int kpt, .ref ma, .int mkd, .ref pa, .int tpd, .int at0, .int wel, .ref ba, .ref ka, .int srt, .ref fa, .ref qa, .ref ea, .ref za, .ref ya, .int wks])), (ra, .inl (cI, 7, .inl (xRf rf (-4))))] H := hP
        have hD : va_D A [(wa, .inl (cI, 70, .inl nw)), (g0, .inr (5, [.ref ra, .ref wa, .ref ta, .int kpt, .ref ma, .int mkd, .ref pa, .int tpd, .int at0, .int wel, .ref ba, .ref ka, .int srt, .ref fa, .ref qa, .ref ea, .ref za, .ref ya, .int wks])), (ra, .inl (cI, 7, .inl (xRf rf (-4))))] := hD
        obtain rfl : ((-4) : Int32) = r_20 := Eq.symm hw
        have hP9 := hP.sub (ws' := [(g0, .inr (5, [.ref ra, .ref wa, .ref ta, .int kpt, .ref ma, .int mkd, .ref pa, .int tpd, .int at0, .int wel, .ref ba, .ref ka, .int srt, .ref fa, .ref qa, .ref ea, .ref za, .ref ya, .int wks])), (wa, .inl (cI, 70, .inl nw)), (ra, .inl (cI, 7, .inl (xRf rf (-4))))]) [1, 0, 2] rfl
        have hD9 := hD.sub (ws' := [(g0, .inr (5, [.ref ra, .ref wa, .ref ta, .int kpt, .ref ma, .int mkd, .ref pa, .int tpd, .int at0, .int wel, .ref ba, .ref ka, .int srt, .ref fa, .ref qa, .ref ea, .ref za, .ref ya, .int wks])), (wa, .inl (cI, 70, .inl nw)), (ra, .inl (cI, 7, .inl (xRf rf (-4))))]) [1, 0, 2] (by decide) rfl
        have hE9 : ([(g0, .inr (5, [.ref ra, .ref wa, .ref ta, .int kpt, .ref ma, .int mkd, .ref pa, .int tpd, .int at0, .int wel, .ref ba, .ref ka, .int srt, .ref fa, .ref qa, .ref ea, .ref za, .ref ya, .int wks])), (wa, .inl (cI, 70, .inl nw)), (ra, .inl (cI, 7, .inl (xRf rf (-4))))] : va_W) = [(g0, .inr (5, [.ref ra, .ref wa, .ref ta, .int kpt, .ref ma, .int mkd, .ref pa, .int tpd, .int at0, .int wel, .ref ba, .ref ka, .int srt, .ref fa, .ref qa, .ref ea, .ref za, .ref ya, .int wks])), (wa, .inl (cI, 70, .inl nw)), (ra, .inl (cI, 7, .inl (xRq rf (qLo ln (nI j0) a2 a3))))] := by simp [xRq, qLo, sNK, h_0, c_5, c_6, (Int32.not_lt.mpr c_8), (Int32.not_le.mp c_9)]
        exact W.iret (v := -4) hx hb hr (fun t ht hW => ⟨⟨_, (), rfl, by simp [qLo, sNK, v5Lo, h_0, c_5, c_6, (Int32.not_lt.mpr c_8), (Int32.not_le.mp c_9)], by rw [ht]; exact hE9 ▸ hP9, hE9 ▸ hD9⟩, hS.F ht⟩) hS.2.2 dX5_lots_41
    · refine lv_aload_n hx hb dX5_lots_23 rfl (lv_at hl 0 rfl) ?_
      refine lv_bipush (v := -2) hx hb dX5_lots_24 (by decide) ?_
      have hPc := hP.sub (ws' := [(g0, .inr (5, [.ref ra, .ref wa, .ref ta, .int kpt, .ref ma, .int mkd, .ref pa, .int tpd, .int at0, .int wel, .ref ba, .ref ka, .int srt, .ref fa, .ref qa, .ref ea, .ref za, .ref ya, .int wks])), (ra, .inl (cI, 7, .inl rf))]) [0, 2] rfl
      have hDc := hD.sub (ws' := [(g0, .inr (5, [.ref ra, .ref wa, .ref ta, .int kpt, .ref ma, .int mkd, .ref pa, .int tpd, .int at0, .int wel, .ref ba, .ref ka, .int srt, .ref fa, .ref qa, .ref ea, .ref za, .ref ya, .int wks])), (ra, .inl (cI, 7, .inl rf))]) [0, 2] (by decide) rfl
      have hFc := va_free (wc := [(g0, .inr (5, [.ref ra, .ref wa, .ref ta, .int kpt, .ref ma, .int mkd, .ref pa, .int tpd, .int at0, .int wel, .ref ba, .ref ka, .int srt, .ref fa, .ref qa, .ref ea, .ref za, .ref ya, .int wks])), (ra, .inl (cI, 7, .inl rf))]) hD hS hA [0, 2] rfl
      refine va_calli (va_runV (As := [.int (-2)]) (rest := []) ⟨hx, hb, hml, hown, hts⟩ (g_X5_no l D cI cL cZ cC _ g0 ra wa ta ma pa ba ka fa qa ea za ya kpt mkd tpd at0 wel srt wks rf (-2) (by first | assumption | decide +kernel) (by first | assumption | decide +kernel)) (cwV 1 hts gX5_lots_X5_no rfl rfl rfl (by decide +kernel) ⟨Nat.le_of_ble_eq_true rfl, Nat.le_of_ble_eq_true rfl⟩) ⟨wPc_bl, va_recv hK hPc (ci := 5) (q0 := 0) rfl rfl, wPc_use hPc hK hDc⟩ rfl rfl hl.1 rfl (lv_room (Nat.le_of_ble_eq_true rfl)) dX5_lots_26 ⟨Nat.le_of_ble_eq_true rfl, Nat.le_of_ble_eq_true rfl⟩) hS (fun q _ h => hFc q h) hFc (fun r_21 u_21 t H1 locs ht hvm hw hB hz1 hk1 hS => ?_)
      obtain ⟨hP1, hD1⟩ := hB
      rw [ht] at hP1
      obtain ⟨hP, hD⟩ := va_join (wr := [(wa, .inl (cI, 70, .inl nw))]) (w1 := [(g0, .inr (5, [.ref ra, .ref wa, .ref ta, .int kpt, .ref ma, .int mkd, .ref pa, .int tpd, .int at0, .int wel, .ref ba, .ref ka, .int srt, .ref fa, .ref qa, .ref ea, .ref za, .ref ya, .int wks])), (ra, .inl (cI, 7, .inl (xRf rf (-2))))]) hP hD [0, 2] [1] rfl rfl (by decide) (by decide) hk1 hFc hP1 hD1
      generalize H1 = H at hP hS ⊢
      have hP : va_P D vwCl [(wa, .inl (cI, 70, .inl nw)), (g0, .inr (5, [.ref ra, .ref wa, .ref ta, .int kpt, .ref ma, .int mkd, .ref pa, .int tpd, .int at0, .int wel, .ref ba, .ref ka, .int srt, .ref fa, .ref qa, .ref ea, .ref za, .ref ya, .int wks])), (ra, .inl (cI, 7, .inl (xRf rf (-2))))] H := hP
      have hD : va_D A [(wa, .inl (cI, 70, .inl nw)), (g0, .inr (5, [.ref ra, .ref wa, .ref ta, .int kpt, .ref ma, .int mkd, .ref pa, .int tpd, .int at0, .int wel, .ref ba, .ref ka, .int srt, .ref fa, .ref qa, .ref ea, .ref za, .ref ya, .int wks])), (ra, .inl (cI, 7, .inl (xRf rf (-2))))] := hD
      obtain rfl : ((-2) : Int32) = r_21 := Eq.symm hw
      have hP9 := hP.sub (ws' := [(g0, .inr (5, [.ref ra, .ref wa, .ref ta, .int kpt, .ref ma, .int mkd, .ref pa, .int tpd, .int at0, .int wel, .ref ba, .ref ka, .int srt, .ref fa, .ref qa, .ref ea, .ref za, .ref ya, .int wks])), (wa, .inl (cI, 70, .inl nw)), (ra, .inl (cI, 7, .inl (xRf rf (-2))))]) [1, 0, 2] rfl
      have hD9 := hD.sub (ws' := [(g0, .inr (5, [.ref ra, .ref wa, .ref ta, .int kpt, .ref ma, .int mkd, .ref pa, .int tpd, .int at0, .int wel, .ref ba, .ref ka, .int srt, .ref fa, .ref qa, .ref ea, .ref za, .ref ya, .int wks])), (wa, .inl (cI, 70, .inl nw)), (ra, .inl (cI, 7, .inl (xRf rf (-2))))]) [1, 0, 2] (by decide) rfl
      have hE9 : ([(g0, .inr (5, [.ref ra, .ref wa, .ref ta, .int kpt, .ref ma, .int mkd, .ref pa, .int tpd, .int at0, .int wel, .ref ba, .ref ka, .int srt, .ref fa, .ref qa, .ref ea, .ref za, .ref ya, .int wks])), (wa, .inl (cI, 70, .inl nw)), (ra, .inl (cI, 7, .inl (xRf rf (-2))))] : va_W) = [(g0, .inr (5, [.ref ra, .ref wa, .ref ta, .int kpt, .ref ma, .int mkd, .ref pa, .int tpd, .int at0, .int wel, .ref ba, .ref ka, .int srt, .ref fa, .ref qa, .ref ea, .ref za, .ref ya, .int wks])), (wa, .inl (cI, 70, .inl nw)), (ra, .inl (cI, 7, .inl (xRq rf (qLo ln (nI j0) a2 a3))))] := by simp [xRq, qLo, sNK, h_0, c_5, c_6, (Int32.not_le.mp c_8)]
      exact W.iret (v := -2) hx hb hr (fun t ht hW => ⟨⟨_, (), rfl, by simp [qLo, sNK, v5Lo, h_0, c_5, c_6, (Int32.not_le.mp c_8)], by rw [ht]; exact hE9 ▸ hP9, hE9 ▸ hD9⟩, hS.F ht⟩) hS.2.2 dX5_lots_29

/-! the class: the mean where the second line is let go by -/
def vLm (st : Nat) (ho pa li : Int32) (lg : Nat → Int32) (ki ru ne : Nat → Int32) (ch : Nat → Nat → Int32) (a1 a2 a3 a4 : Int32) : Int64 :=
  xFr (xPSum st ho pa li lg ki ru ne ch a1.toNatClampNeg a2.toNatClampNeg a3) ((xSm (ch a1.toNatClampNeg) 12 + ne a1.toNatClampNeg) * (xSm (ch a2.toNatClampNeg) 12 + ne a2.toNatClampNeg)) a4

set_option maxHeartbeats 4000000 in
set_option maxRecDepth 100000 in
theorem g_X4_letMean (l : Launch) (D : va_G) (cI cL cZ cC : ClassId) (sz : Nat) (h0 : Nat) (rd : Nat) (dr : Nat) (kp : Nat) (pl : Nat) (tx : Nat) (nu : Nat) (rf_a : Nat) (nc : Int32) (hi : Int32) (pd : Int32) (r0 : Nat) (r1 : Nat) (st : Nat) (ln : Nat) (ho : Int32) (pa : Int32) (si : Int32) (li : Int32) (lg : Nat → Int32) (la : Nat → Nat) (lk : Nat → Nat) (ki : Nat → Int32) (ru : Nat → Int32) (ne : Nat → Int32) (ch : Nat → Nat → Int32) (rf : Nat → Int32) (a1 : Int32) (a2 : Int32) (a3 : Int32) (a4 : Int32) (hs1 : 1 ≤ st) (hs7 : st ≤ 7) (hln : ln ≤ 3) : Met l yX4_letMean wsX4_letMean ({ frames := 6, cells := 0, slots := 0, locals := 147 } : Room) (wPc D [.ref h0, .int a1, .int a2, .int a3, .int a4] [(h0, .inr (4, [.ref rd, .ref dr, .ref kp, .ref pl, .ref tx, .ref nu, .ref rf_a, .int nc, .int hi, .int pd])), (rd, .inr (2, [.int (nI st), .int ho, .int pa, .int si, .int li, .int (nI ln), .ref r0, .ref r1])), (r0, .inl (cI, 7, .inl lg)), (r1, .inl (cL, 3, .inr (.inr (.inr (.inr (xL3 (la 0) (la 1) (la 2))))))), (la 0, .inr (0, [.int (ki 0), .int (ru 0), .int (ne 0), .ref (lk 0)])), (lk 0, .inl (cI, 12, .inl (ch 0))), (la 1, .inr (0, [.int (ki 1), .int (ru 1), .int (ne 1), .ref (lk 1)])), (lk 1, .inl (cI, 12, .inl (ch 1))), (la 2, .inr (0, [.int (ki 2), .int (ru 2), .int (ne 2), .ref (lk 2)])), (lk 2, .inl (cI, 12, .inl (ch 2))), (rf_a, .inl (cI, 7, .inl rf))] (xTy cI cL cZ cC) sz) (va_Ql (fun (r : Int64) (_ : Unit) => r = if qLm ln a1 a2 a3 a4 = 0 then vLm st ho pa li lg ki ru ne ch a1 a2 a3 a4 else xLg (qLm ln a1 a2 a3 a4)) (fun (_ : Unit) t => va_P D vwCl [(h0, .inr (4, [.ref rd, .ref dr, .ref kp, .ref pl, .ref tx, .ref nu, .ref rf_a, .int nc, .int hi, .int pd])), (rd, .inr (2, [.int (nI st), .int ho, .int pa, .int si, .int li, .int (nI ln), .ref r0, .ref r1])), (r0, .inl (cI, 7, .inl lg)), (r1, .inl (cL, 3, .inr (.inr (.inr (.inr (xL3 (la 0) (la 1) (la 2))))))), (la 0, .inr (0, [.int (ki 0), .int (ru 0), .int (ne 0), .ref (lk 0)])), (lk 0, .inl (cI, 12, .inl (ch 0))), (la 1, .inr (0, [.int (ki 1), .int (ru 1), .int (ne 1), .ref (lk 1)])), (lk 1, .inl (cI, 12, .inl (ch 1))), (la 2, .inr (0, [.int (ki 2), .int (ru 2), .int (ne 2), .ref (lk 2)])), (lk 2, .inl (cI, 12, .inl (ch 2))), (rf_a, .inl (cI, 7, .inl (xRq rf (qLm ln a1 a2 a3 a4))))] t.heap ∧ va_D (va_A [(h0, .inr (4, [.ref rd, .ref dr, .ref kp, .ref pl, .ref tx, .ref nu, .ref rf_a, .int nc, .int hi, .int pd])), (rd, .inr (2, [.int (nI st), .int ho, .int pa, .int si, .int li, .int (nI ln), .ref r0, .ref r1])), (r0, .inl (cI, 7, .inl lg)), (r1, .inl (cL, 3, .inr (.inr (.inr (.inr (xL3 (la 0) (la 1) (la 2))))))), (la 0, .inr (0, [.int (ki 0), .int (ru 0), .int (ne 0), .ref (lk 0)])), (lk 0, .inl (cI, 12, .inl (ch 0))), (la 1, .inr (0, [.int (ki 1), .int (ru 1), .int (ne 1), .ref (lk 1)])), (lk 1, .inl (cI, 12, .inl (ch 1))), (la 2, .inr (0, [.int (ki 2), .int (ru 2), .int (ne 2), .ref (lk 2)])), (lk 2, .inl (cI, 12, .inl (ch 2))), (rf_a, .inl (cI, 7, .inl rf))] sz) [(h0, .inr (4, [.ref rd, .ref dr, .ref kp, .ref pl, .ref tx, .ref nu, .ref rf_a, .int nc, .int hi, .int pd])), (rd, .inr (2, [.int (nI st), .int ho, .int pa, .int si, .int li, .int (nI ln), .ref r0, .ref r1])), (r0, .inl (cI, 7, .inl lg)), (r1, .inl (cL, 3, .inr (.inr (.inr (.inr (xL3 (la 0) (la 1) (la 2))))))), (la 0, .inr (0, [.int (ki 0), .int (ru 0), .int (ne 0), .ref (lk 0)])), (lk 0, .inl (cI, 12, .inl (ch 0))), (la 1, .inr (0, [.int (ki 1), .int (ru 1), .int (ne 1), .ref (lk 1)])), (lk 1, .inl (cI, 12, .inl (ch 1))), (la 2, .inr (0, [.int (ki 2), .int (ru 2), .int (ne 2), .ref (lk 2)])), (lk 2, .inl (cI, 12, .inl (ch 2))), (rf_a, .inl (cI, 7, .inl (xRq rf (qLm ln a1 a2 a3 a4))))]) (va_A [(h0, .inr (4, [.ref rd, .ref dr, .ref kp, .ref pl, .ref tx, .ref nu, .ref rf_a, .int nc, .int hi, .int pd])), (rd, .inr (2, [.int (nI st), .int ho, .int pa, .int si, .int li, .int (nI ln), .ref r0, .ref r1])), (r0, .inl (cI, 7, .inl lg)), (r1, .inl (cL, 3, .inr (.inr (.inr (.inr (xL3 (la 0) (la 1) (la 2))))))), (la 0, .inr (0, [.int (ki 0), .int (ru 0), .int (ne 0), .ref (lk 0)])), (lk 0, .inl (cI, 12, .inl (ch 0))), (la 1, .inr (0, [.int (ki 1), .int (ru 1), .int (ne 1), .ref (lk 1)])), (lk 1, .inl (cI, 12, .inl (ch 1))), (la 2, .inr (0, [.int (ki 2), .int (ru 2), .int (ne 2), .ref (lk 2)])), (lk 2, .inl (cI, 12, .inl (ch 2))), (rf_a, .inl (cI, 7, .inl rf))] sz)) 0 0 (va_A [(h0, .inr (4, [.ref rd, .ref dr, .ref kp, .ref pl, .ref tx, .ref nu, .ref rf_a, .int nc, .int hi, .int pd])), (rd, .inr (2, [.int (nI st), .int ho, .int pa, .int si, .int li, .int (nI ln), .ref r0, .ref r1])), (r0, .inl (cI, 7, .inl lg)), (r1, .inl (cL, 3, .inr (.inr (.inr (.inr (xL3 (la 0) (la 1) (la 2))))))), (la 0, .inr (0, [.int (ki 0), .int (ru 0), .int (ne 0), .ref (lk 0)])), (lk 0, .inl (cI, 12, .inl (ch 0))), (la 1, .inr (0, [.int (ki 1), .int (ru 1), .int (ne 1), .ref (lk 1)])), (lk 1, .inl (cI, 12, .inl (ch 1))), (la 2, .inr (0, [.int (ki 2), .int (ru 2), .int (ne 2), .ref (lk 2)])), (lk 2, .inl (cI, 12, .inl (ch 2))), (rf_a, .inl (cI, 7, .inl rf))] sz) := by
  refine Met.ofW (cc := cX4_letMean) (maxL := 5) (ret := (some .long)) (by decide) rfl ?_
  intro p e s m args below meth c s₁ B hml hv
  obtain ⟨rfl, hsz, hP, hK, hD0⟩ := hv
  have hx := B.exec
  have hb := B.bytes
  have hr := B.returns
  have hts := atoms_spec (ws := wsX4_letMean) B.pre
  have hown : s.vm.findClass RX4 = some m.cls := findClass_of_methodNamed B.named
  have hlocks := B.notSynchronized
  subst hsz
  have hD := hD0.self (sz := s.heap.size)
  generalize hAe : va_A [(h0, .inr (4, [.ref rd, .ref dr, .ref kp, .ref pl, .ref tx, .ref nu, .ref rf_a, .int nc, .int hi, .int pd])), (rd, .inr (2, [.int (nI st), .int ho, .int pa, .int si, .int li, .int (nI ln), .ref r0, .ref r1])), (r0, .inl (cI, 7, .inl lg)), (r1, .inl (cL, 3, .inr (.inr (.inr (.inr (xL3 (la 0) (la 1) (la 2))))))), (la 0, .inr (0, [.int (ki 0), .int (ru 0), .int (ne 0), .ref (lk 0)])), (lk 0, .inl (cI, 12, .inl (ch 0))), (la 1, .inr (0, [.int (ki 1), .int (ru 1), .int (ne 1), .ref (lk 1)])), (lk 1, .inl (cI, 12, .inl (ch 1))), (la 2, .inr (0, [.int (ki 2), .int (ru 2), .int (ne 2), .ref (lk 2)])), (lk 2, .inl (cI, 12, .inl (ch 2))), (rf_a, .inl (cI, 7, .inl rf))] s.heap.size = A at hD ⊢
  have hA : ∀ q : Nat, s.heap.size ≤ q → A q := fun q h => by rw [← hAe]; exact Or.inr h
  have hS : va_S A s.heap s.heap [] := va_S.rf
  have hP : va_P D vwCl [(h0, .inr (4, [.ref rd, .ref dr, .ref kp, .ref pl, .ref tx, .ref nu, .ref rf_a, .int nc, .int hi, .int pd])), (rd, .inr (2, [.int (nI st), .int ho, .int pa, .int si, .int li, .int (nI ln), .ref r0, .ref r1])), (r0, .inl (cI, 7, .inl lg)), (r1, .inl (cL, 3, .inr (.inr (.inr (.inr (xL3 (la 0) (la 1) (la 2))))))), (la 0, .inr (0, [.int (ki 0), .int (ru 0), .int (ne 0), .ref (lk 0)])), (lk 0, .inl (cI, 12, .inl (ch 0))), (la 1, .inr (0, [.int (ki 1), .int (ru 1), .int (ne 1), .ref (lk 1)])), (lk 1, .inl (cI, 12, .inl (ch 1))), (la 2, .inr (0, [.int (ki 2), .int (ru 2), .int (ne 2), .ref (lk 2)])), (lk 2, .inl (cI, 12, .inl (ch 2))), (rf_a, .inl (cI, 7, .inl rf))] s.heap := hP
  have hl := lv_entry ([.ref h0, .int a1, .int a2, .int a3, .int a4]) (n := 5) (Nat.le_of_ble_eq_true rfl)
  rw [lg_entry_eq]
  generalize (lg_sl ([.ref h0, .int a1, .int a2, .int a3, .int a4]) ++ List.replicate (5 - (lg_sl ([.ref h0, .int a1, .int a2, .int a3, .int a4])).length) Slot.unset).toArray = ls at hl ⊢
  have hl : lv_has ls 5 [(0, .ref h0), (1, .int a1), (2, .int a2), (3, .int a3), (4, .int a4)] := hl
  by_cases h_1 : ¬ sPr ln a1 a2 = 0
  · refine lv_aload_n hx hb dX4_letMean_0 rfl (lv_at hl 0 rfl) ?_
    refine lv_iload_n hx hb dX4_letMean_1 rfl (lv_at hl 1 rfl) ?_
    refine lv_iload_n hx hb dX4_letMean_2 rfl (lv_at hl 2 rfl) ?_
    have hPc := hP.sub (ws' := [(h0, .inr (4, [.ref rd, .ref dr, .ref kp, .ref pl, .ref tx, .ref nu, .ref rf_a, .int nc, .int hi, .int pd])), (rd, .inr (2, [.int (nI st), .int ho, .int pa, .int si, .int li, .int (nI ln), .ref r0, .ref r1]))]) [0, 1] rfl
    refine vp_callSi (va_Run.run (va_runV (As := [.int a1, .int a2]) (rest := []) ⟨hx, hb, hml, hown, hts⟩ (g_X4_noPair l D cI cL cZ cC h0 rd dr kp pl tx nu rf_a nc hi pd r0 r1 st ln ho pa si li a1 a2 ) (cwV 2 hts gX4_letMean_X4_noPair rfl rfl rfl (by decide +kernel) ⟨Nat.le_of_ble_eq_true rfl, Nat.le_of_ble_eq_true rfl⟩) ⟨xPc_bl, va_recv hK hPc (ci := 4) (q0 := 0) rfl rfl, xPc_use hPc hK⟩ rfl rfl hl.1 rfl (lv_room (Nat.le_of_ble_eq_true rfl)) dX4_letMean_3 ⟨Nat.le_of_ble_eq_true rfl, Nat.le_of_ble_eq_true rfl⟩)) (fun r_1 er_1 => ?_)
    obtain rfl : (sPr ln a1 a2 : Int32) = r_1 := Eq.symm er_1
    refine xv_int (y := 1) (sPr_bad h_1) ?_
    refine lv_if_eq (tgt := 15) hx hb dX4_letMean_6 (by decide) (fun c_2 => absurd c_2 (by decide +kernel)) (fun c_2 => ?_)
    refine lv_aload_n hx hb dX4_letMean_9 rfl (lv_at hl 0 rfl) ?_
    refine lv_iconst (v := -1) hx hb dX4_letMean_10 (by decide) ?_
    have hPc := hP.sub (ws' := [(h0, .inr (4, [.ref rd, .ref dr, .ref kp, .ref pl, .ref tx, .ref nu, .ref rf_a, .int nc, .int hi, .int pd])), (rf_a, .inl (cI, 7, .inl rf))]) [0, 10] rfl
    have hDc := hD.sub (ws' := [(h0, .inr (4, [.ref rd, .ref dr, .ref kp, .ref pl, .ref tx, .ref nu, .ref rf_a, .int nc, .int hi, .int pd])), (rf_a, .inl (cI, 7, .inl rf))]) [0, 10] (by decide) rfl
    have hFc := va_free (wc := [(h0, .inr (4, [.ref rd, .ref dr, .ref kp, .ref pl, .ref tx, .ref nu, .ref rf_a, .int nc, .int hi, .int pd])), (rf_a, .inl (cI, 7, .inl rf))]) hD hS hA [0, 10] rfl
    refine va_calll (va_runV (As := [.int (-1)]) (rest := []) ⟨hx, hb, hml, hown, hts⟩ (g_X4_refuseLong l D cI cL cZ cC _ h0 rd dr kp pl tx nu rf_a nc hi pd rf (-1) (by first | assumption | decide +kernel) (by first | assumption | decide +kernel)) (cwV 1 hts gX4_letMean_X4_refuseLong rfl rfl rfl (by decide +kernel) ⟨Nat.le_of_ble_eq_true rfl, Nat.le_of_ble_eq_true rfl⟩) ⟨wPc_bl, va_recv hK hPc (ci := 4) (q0 := 0) rfl rfl, wPc_use hPc hK hDc⟩ rfl rfl hl.1 rfl (lv_room (Nat.le_of_ble_eq_true rfl)) dX4_letMean_11 ⟨Nat.le_of_ble_eq_true rfl, Nat.le_of_ble_eq_true rfl⟩) hS (fun q _ h => hFc q h) hFc (fun r_3 u_3 t H1 locs ht hvm hw hB hz1 hk1 hS => ?_)
    obtain ⟨hP1, hD1⟩ := hB
    rw [ht] at hP1
    obtain ⟨hP, hD⟩ := va_join (wr := [(rd, .inr (2, [.int (nI st), .int ho, .int pa, .int si, .int li, .int (nI ln), .ref r0, .ref r1])), (r0, .inl (cI, 7, .inl lg)), (r1, .inl (cL, 3, .inr (.inr (.inr (.inr (xL3 (la 0) (la 1) (la 2))))))), (la 0, .inr (0, [.int (ki 0), .int (ru 0), .int (ne 0), .ref (lk 0)])), (lk 0, .inl (cI, 12, .inl (ch 0))), (la 1, .inr (0, [.int (ki 1), .int (ru 1), .int (ne 1), .ref (lk 1)])), (lk 1, .inl (cI, 12, .inl (ch 1))), (la 2, .inr (0, [.int (ki 2), .int (ru 2), .int (ne 2), .ref (lk 2)])), (lk 2, .inl (cI, 12, .inl (ch 2)))]) (w1 := [(h0, .inr (4, [.ref rd, .ref dr, .ref kp, .ref pl, .ref tx, .ref nu, .ref rf_a, .int nc, .int hi, .int pd])), (rf_a, .inl (cI, 7, .inl (xRf rf (-1))))]) hP hD [0, 10] [1, 2, 3, 4, 5, 6, 7, 8, 9] rfl rfl (by decide) (by decide) hk1 hFc hP1 hD1
    generalize H1 = H at hP hS ⊢
    have hP : va_P D vwCl [(rd, .inr (2, [.int (nI st), .int ho, .int pa, .int si, .int li, .int (nI ln), .ref r0, .ref r1])), (r0, .inl (cI, 7, .inl lg)), (r1, .inl (cL, 3, .inr (.inr (.inr (.inr (xL3 (la 0) (la 1) (la 2))))))), (la 0, .inr (0, [.int (ki 0), .int (ru 0), .int (ne 0), .ref (lk 0)])), (lk 0, .inl (cI, 12, .inl (ch 0))), (la 1, .inr (0, [.int (ki 1), .int (ru 1), .int (ne 1), .ref (lk 1)])), (lk 1, .inl (cI, 12, .inl (ch 1))), (la 2, .inr (0, [.int (ki 2), .int (ru 2), .int (ne 2), .ref (lk 2)])), (lk 2, .inl (cI, 12, .inl (ch 2))), (h0, .inr (4, [.ref rd, .ref dr, .ref kp, .ref pl, .ref tx, .ref nu, .ref rf_a, .int nc, .int hi, .int pd])), (rf_a, .inl (cI, 7, .inl (xRf rf (-1))))] H := hP
    have hD : va_D A [(rd, .inr (2, [.int (nI st), .int ho, .int pa, .int si, .int li, .int (nI ln), .ref r0, .ref r1])), (r0, .inl (cI, 7, .inl lg)), (r1, .inl (cL, 3, .inr (.inr (.inr (.inr (xL3 (la 0) (la 1) (la 2))))))), (la 0, .inr (0, [.int (ki 0), .int (ru 0), .int (ne 0), .ref (lk 0)])), (lk 0, .inl (cI, 12, .inl (ch 0))), (la 1, .inr (0, [.int (ki 1), .int (ru 1), .int (ne 1), .ref (lk 1)])), (lk 1, .inl (cI, 12, .inl (ch 1))), (la 2, .inr (0, [.int (ki 2), .int (ru 2), .int (ne 2), .ref (lk 2)])), (lk 2, .inl (cI, 12, .inl (ch 2))), (h0, .inr (4, [.ref rd, .ref dr, .ref kp, .ref pl, .ref tx, .ref nu, .ref rf_a, .int nc, .int hi, .int pd])), (rf_a, .inl (cI, 7, .inl (xRf rf (-1))))] := hD
    obtain rfl : (xLg (-1 : Int32) : Int64) = r_3 := Eq.symm hw
    have hP9 := hP.sub (ws' := [(h0, .inr (4, [.ref rd, .ref dr, .ref kp, .ref pl, .ref tx, .ref nu, .ref rf_a, .int nc, .int hi, .int pd])), (rd, .inr (2, [.int (nI st), .int ho, .int pa, .int si, .int li, .int (nI ln), .ref r0, .ref r1])), (r0, .inl (cI, 7, .inl lg)), (r1, .inl (cL, 3, .inr (.inr (.inr (.inr (xL3 (la 0) (la 1) (la 2))))))), (la 0, .inr (0, [.int (ki 0), .int (ru 0), .int (ne 0), .ref (lk 0)])), (lk 0, .inl (cI, 12, .inl (ch 0))), (la 1, .inr (0, [.int (ki 1), .int (ru 1), .int (ne 1), .ref (lk 1)])), (lk 1, .inl (cI, 12, .inl (ch 1))), (la 2, .inr (0, [.int (ki 2), .int (ru 2), .int (ne 2), .ref (lk 2)])), (lk 2, .inl (cI, 12, .inl (ch 2))), (rf_a, .inl (cI, 7, .inl (xRf rf (-1))))]) [9, 0, 1, 2, 3, 4, 5, 6, 7, 8, 10] rfl
    have hD9 := hD.sub (ws' := [(h0, .inr (4, [.ref rd, .ref dr, .ref kp, .ref pl, .ref tx, .ref nu, .ref rf_a, .int nc, .int hi, .int pd])), (rd, .inr (2, [.int (nI st), .int ho, .int pa, .int si, .int li, .int (nI ln), .ref r0, .ref r1])), (r0, .inl (cI, 7, .inl lg)), (r1, .inl (cL, 3, .inr (.inr (.inr (.inr (xL3 (la 0) (la 1) (la 2))))))), (la 0, .inr (0, [.int (ki 0), .int (ru 0), .int (ne 0), .ref (lk 0)])), (lk 0, .inl (cI, 12, .inl (ch 0))), (la 1, .inr (0, [.int (ki 1), .int (ru 1), .int (ne 1), .ref (lk 1)])), (lk 1, .inl (cI, 12, .inl (ch 1))), (la 2, .inr (0, [.int (ki 2), .int (ru 2), .int (ne 2), .ref (lk 2)])), (lk 2, .inl (cI, 12, .inl (ch 2))), (rf_a, .inl (cI, 7, .inl (xRf rf (-1))))]) [9, 0, 1, 2, 3, 4, 5, 6, 7, 8, 10] (by decide) rfl
    have hE9 : ([(h0, .inr (4, [.ref rd, .ref dr, .ref kp, .ref pl, .ref tx, .ref nu, .ref rf_a, .int nc, .int hi, .int pd])), (rd, .inr (2, [.int (nI st), .int ho, .int pa, .int si, .int li, .int (nI ln), .ref r0, .ref r1])), (r0, .inl (cI, 7, .inl lg)), (r1, .inl (cL, 3, .inr (.inr (.inr (.inr (xL3 (la 0) (la 1) (la 2))))))), (la 0, .inr (0, [.int (ki 0), .int (ru 0), .int (ne 0), .ref (lk 0)])), (lk 0, .inl (cI, 12, .inl (ch 0))), (la 1, .inr (0, [.int (ki 1), .int (ru 1), .int (ne 1), .ref (lk 1)])), (lk 1, .inl (cI, 12, .inl (ch 1))), (la 2, .inr (0, [.int (ki 2), .int (ru 2), .int (ne 2), .ref (lk 2)])), (lk 2, .inl (cI, 12, .inl (ch 2))), (rf_a, .inl (cI, 7, .inl (xRf rf (-1))))] : va_W) = [(h0, .inr (4, [.ref rd, .ref dr, .ref kp, .ref pl, .ref tx, .ref nu, .ref rf_a, .int nc, .int hi, .int pd])), (rd, .inr (2, [.int (nI st), .int ho, .int pa, .int si, .int li, .int (nI ln), .ref r0, .ref r1])), (r0, .inl (cI, 7, .inl lg)), (r1, .inl (cL, 3, .inr (.inr (.inr (.inr (xL3 (la 0) (la 1) (la 2))))))), (la 0, .inr (0, [.int (ki 0), .int (ru 0), .int (ne 0), .ref (lk 0)])), (lk 0, .inl (cI, 12, .inl (ch 0))), (la 1, .inr (0, [.int (ki 1), .int (ru 1), .int (ne 1), .ref (lk 1)])), (lk 1, .inl (cI, 12, .inl (ch 1))), (la 2, .inr (0, [.int (ki 2), .int (ru 2), .int (ne 2), .ref (lk 2)])), (lk 2, .inl (cI, 12, .inl (ch 2))), (rf_a, .inl (cI, 7, .inl (xRq rf (qLm ln a1 a2 a3 a4))))] := by simp [xRq, qLm, vLm, xPSum, h_1, c_2]
    exact W.lret (v := xLg (-1 : Int32)) hx hb hr (fun t ht hW => ⟨⟨_, (), rfl, by simp [qLm, vLm, xPSum, h_1, c_2], by rw [ht]; exact hE9 ▸ hP9, hE9 ▸ hD9⟩, hS.F ht⟩) hS.2.2 dX4_letMean_14
  have h_9 := Classical.not_not.mp h_1
  obtain ⟨h_7, h_8⟩ := sPr_ok h_9
  obtain ⟨j0, rfl, hj0⟩ := sNL_ok (by omega) (not_not_intro h_7)
  obtain ⟨j1, rfl, hj1⟩ := sNL_ok (by omega) (not_not_intro h_8)
  refine lv_aload_n hx hb dX4_letMean_0 rfl (lv_at hl 0 rfl) ?_
  refine lv_iload_n hx hb dX4_letMean_1 rfl (lv_at hl 1 rfl) ?_
  refine lv_iload_n hx hb dX4_letMean_2 rfl (lv_at hl 2 rfl) ?_
  have hPc := hP.sub (ws' := [(h0, .inr (4, [.ref rd, .ref dr, .ref kp, .ref pl, .ref tx, .ref nu, .ref rf_a, .int nc, .int hi, .int pd])), (rd, .inr (2, [.int (nI st), .int ho, .int pa, .int si, .int li, .int (nI ln), .ref r0, .ref r1]))]) [0, 1] rfl
  refine vp_callSi (va_Run.run (va_runV (As := [.int (nI j0), .int (nI j1)]) (rest := []) ⟨hx, hb, hml, hown, hts⟩ (g_X4_noPair l D cI cL cZ cC h0 rd dr kp pl tx nu rf_a nc hi pd r0 r1 st ln ho pa si li (nI j0) (nI j1) ) (cwV 2 hts gX4_letMean_X4_noPair rfl rfl rfl (by decide +kernel) ⟨Nat.le_of_ble_eq_true rfl, Nat.le_of_ble_eq_true rfl⟩) ⟨xPc_bl, va_recv hK hPc (ci := 4) (q0 := 0) rfl rfl, xPc_use hPc hK⟩ rfl rfl hl.1 rfl (lv_room (Nat.le_of_ble_eq_true rfl)) dX4_letMean_3 ⟨Nat.le_of_ble_eq_true rfl, Nat.le_of_ble_eq_true rfl⟩)) (fun r_4 er_4 => ?_)
  obtain rfl : (sPr ln (nI j0) (nI j1) : Int32) = r_4 := Eq.symm er_4
  refine xv_int (y := 0) (h_9) ?_
  refine lv_if_eq (tgt := 15) hx hb dX4_letMean_6 (by decide) (fun c_5 => ?_) (fun c_5 => absurd c_5 (by decide +kernel))
  refine lv_iload_n hx hb dX4_letMean_15 rfl (lv_at hl 3 rfl) ?_
  refine lv_if_ge (tgt := 26) hx hb dX4_letMean_16 (by decide) (fun c_6 => ?_) (fun c_6 => ?_)
  · refine lv_iload_n hx hb dX4_letMean_26 rfl (lv_at hl 3 rfl) ?_
    refine lv_bipush (v := 12) hx hb dX4_letMean_27 (by decide) ?_
    refine lv_icmp_le (tgt := 39) hx hb dX4_letMean_29 (by decide) (fun c_7 => ?_) (fun c_7 => ?_)
    · refine lv_iload hx hb dX4_letMean_39 (lv_at hl 4 rfl) ?_
      have hPc := hP.sub (ws' := []) [] rfl
      refine vp_callSi (va_Run.run (va_runS (As := [.int a4]) (rest := []) ⟨hx, hb, hml, hown, hts⟩ (g_X4_noPart l D cI cL cZ cC a4 ) (va_cwS 1 hts gX4_letMean_X4_noPart rfl rfl rfl (by decide +kernel) ⟨Nat.le_of_ble_eq_true rfl, Nat.le_of_ble_eq_true rfl⟩) ⟨xPc_bl, xPc_use hPc hK⟩ rfl rfl hl.1 rfl (lv_room (Nat.le_of_ble_eq_true rfl)) dX4_letMean_41 ⟨Nat.le_of_ble_eq_true rfl, Nat.le_of_ble_eq_true rfl⟩)) (fun r_8 er_8 => ?_)
      obtain rfl : (sNP a4 : Int32) = r_8 := Eq.symm er_8
      refine lv_if_eq (tgt := 54) hx hb dX4_letMean_44 (by decide) (fun c_9 => ?_) (fun c_9 => ?_)
      · refine lv_aload_n hx hb dX4_letMean_54 rfl (lv_at hl 0 rfl) ?_
        refine lv_iload_n hx hb dX4_letMean_55 rfl (lv_at hl 1 rfl) ?_
        refine lv_iload_n hx hb dX4_letMean_56 rfl (lv_at hl 2 rfl) ?_
        refine lv_iload_n hx hb dX4_letMean_57 rfl (lv_at hl 3 rfl) ?_
        refine lv_iload hx hb dX4_letMean_58 (lv_at hl 4 rfl) ?_
        have hPc := hP.sub (ws' := [(h0, .inr (4, [.ref rd, .ref dr, .ref kp, .ref pl, .ref tx, .ref nu, .ref rf_a, .int nc, .int hi, .int pd])), (rd, .inr (2, [.int (nI st), .int ho, .int pa, .int si, .int li, .int (nI ln), .ref r0, .ref r1])), (r0, .inl (cI, 7, .inl lg)), (r1, .inl (cL, 3, .inr (.inr (.inr (.inr (xL3 (la 0) (la 1) (la 2))))))), (la 0, .inr (0, [.int (ki 0), .int (ru 0), .int (ne 0), .ref (lk 0)])), (lk 0, .inl (cI, 12, .inl (ch 0))), (la 1, .inr (0, [.int (ki 1), .int (ru 1), .int (ne 1), .ref (lk 1)])), (lk 1, .inl (cI, 12, .inl (ch 1))), (la 2, .inr (0, [.int (ki 2), .int (ru 2), .int (ne 2), .ref (lk 2)])), (lk 2, .inl (cI, 12, .inl (ch 2)))]) [0, 1, 2, 3, 4, 5, 6, 7, 8, 9] rfl
        refine vp_callSl (va_Run.run (va_runV (As := [.int (nI j0), .int (nI j1), .int a3, .int a4]) (rest := []) ⟨hx, hb, hml, hown, hts⟩ (g_X4_pairMean l D cI cL cZ cC h0 rd dr kp pl tx nu rf_a nc hi pd r0 r1 st ho pa si li (nI ln) lg la lk ki ru ne ch j0 j1 a3 a4 (by first | assumption | decide +kernel) (by first | assumption | decide +kernel) (by omega) (by omega)) (cwV 4 hts gX4_letMean_X4_pairMean rfl rfl rfl (by decide +kernel) ⟨Nat.le_of_ble_eq_true rfl, Nat.le_of_ble_eq_true rfl⟩) ⟨xPc_bl, va_recv hK hPc (ci := 4) (q0 := 0) rfl rfl, xPc_use hPc hK⟩ rfl rfl hl.1 rfl (lv_room (Nat.le_of_ble_eq_true rfl)) dX4_letMean_60 ⟨Nat.le_of_ble_eq_true rfl, Nat.le_of_ble_eq_true rfl⟩)) (fun r_10 er_10 => ?_)
        obtain rfl : (xFr (xPo (fun t => sWt (ne j0) (ch j0) (nI t)) (fun t u => sWt (ne j0) (ch j0) (nI t) * sWt (ne j1) (ch j1) (nI u) * sPH st (xWh st ho pa lg 0) li (nI t) (sRide (ki j0) (ru j0) (nI (st - 1)) + xWy (xYd st ho lg (st - 1)) pa) (if nI u < a3 then 12 else nI u) (sRide (ki j1) (ru j1) (nI (st - 1)) + xWy (xYd st ho lg (st - 1)) pa)) 13) ((xSm (ch j0) 12 + ne j0) * (xSm (ch j1) 12 + ne j1)) a4 : Int64) = r_10 := Eq.symm er_10
        have hP9 := hP.sub (ws' := [(h0, .inr (4, [.ref rd, .ref dr, .ref kp, .ref pl, .ref tx, .ref nu, .ref rf_a, .int nc, .int hi, .int pd])), (rd, .inr (2, [.int (nI st), .int ho, .int pa, .int si, .int li, .int (nI ln), .ref r0, .ref r1])), (r0, .inl (cI, 7, .inl lg)), (r1, .inl (cL, 3, .inr (.inr (.inr (.inr (xL3 (la 0) (la 1) (la 2))))))), (la 0, .inr (0, [.int (ki 0), .int (ru 0), .int (ne 0), .ref (lk 0)])), (lk 0, .inl (cI, 12, .inl (ch 0))), (la 1, .inr (0, [.int (ki 1), .int (ru 1), .int (ne 1), .ref (lk 1)])), (lk 1, .inl (cI, 12, .inl (ch 1))), (la 2, .inr (0, [.int (ki 2), .int (ru 2), .int (ne 2), .ref (lk 2)])), (lk 2, .inl (cI, 12, .inl (ch 2))), (rf_a, .inl (cI, 7, .inl rf))]) [0, 1, 2, 3, 4, 5, 6, 7, 8, 9, 10] rfl
        have hD9 := hD.sub (ws' := [(h0, .inr (4, [.ref rd, .ref dr, .ref kp, .ref pl, .ref tx, .ref nu, .ref rf_a, .int nc, .int hi, .int pd])), (rd, .inr (2, [.int (nI st), .int ho, .int pa, .int si, .int li, .int (nI ln), .ref r0, .ref r1])), (r0, .inl (cI, 7, .inl lg)), (r1, .inl (cL, 3, .inr (.inr (.inr (.inr (xL3 (la 0) (la 1) (la 2))))))), (la 0, .inr (0, [.int (ki 0), .int (ru 0), .int (ne 0), .ref (lk 0)])), (lk 0, .inl (cI, 12, .inl (ch 0))), (la 1, .inr (0, [.int (ki 1), .int (ru 1), .int (ne 1), .ref (lk 1)])), (lk 1, .inl (cI, 12, .inl (ch 1))), (la 2, .inr (0, [.int (ki 2), .int (ru 2), .int (ne 2), .ref (lk 2)])), (lk 2, .inl (cI, 12, .inl (ch 2))), (rf_a, .inl (cI, 7, .inl rf))]) [0, 1, 2, 3, 4, 5, 6, 7, 8, 9, 10] (by decide) rfl
        have hE9 : ([(h0, .inr (4, [.ref rd, .ref dr, .ref kp, .ref pl, .ref tx, .ref nu, .ref rf_a, .int nc, .int hi, .int pd])), (rd, .inr (2, [.int (nI st), .int ho, .int pa, .int si, .int li, .int (nI ln), .ref r0, .ref r1])), (r0, .inl (cI, 7, .inl lg)), (r1, .inl (cL, 3, .inr (.inr (.inr (.inr (xL3 (la 0) (la 1) (la 2))))))), (la 0, .inr (0, [.int (ki 0), .int (ru 0), .int (ne 0), .ref (lk 0)])), (lk 0, .inl (cI, 12, .inl (ch 0))), (la 1, .inr (0, [.int (ki 1), .int (ru 1), .int (ne 1), .ref (lk 1)])), (lk 1, .inl (cI, 12, .inl (ch 1))), (la 2, .inr (0, [.int (ki 2), .int (ru 2), .int (ne 2), .ref (lk 2)])), (lk 2, .inl (cI, 12, .inl (ch 2))), (rf_a, .inl (cI, 7, .inl rf))] : va_W) = [(h0, .inr (4, [.ref rd, .ref dr, .ref kp, .ref pl, .ref tx, .ref nu, .ref rf_a, .int nc, .int hi, .int pd])), (rd, .inr (2, [.int (nI st), .int ho, .int pa, .int si, .int li, .int (nI ln), .ref r0, .ref r1])), (r0, .inl (cI, 7, .inl lg)), (r1, .inl (cL, 3, .inr (.inr (.inr (.inr (xL3 (la 0) (la 1) (la 2))))))), (la 0, .inr (0, [.int (ki 0), .int (ru 0), .int (ne 0), .ref (lk 0)])), (lk 0, .inl (cI, 12, .inl (ch 0))), (la 1, .inr (0, [.int (ki 1), .int (ru 1), .int (ne 1), .ref (lk 1)])), (lk 1, .inl (cI, 12, .inl (ch 1))), (la 2, .inr (0, [.int (ki 2), .int (ru 2), .int (ne 2), .ref (lk 2)])), (lk 2, .inl (cI, 12, .inl (ch 2))), (rf_a, .inl (cI, 7, .inl (xRq rf (qLm ln (nI j0) (nI j1) a3 a4))))] := by simp [xRq, qLm, vLm, xPSum, h_9, c_5, (Int32.not_lt.mpr c_6), (Int32.not_lt.mpr c_7), c_9]
        exact W.lret (v := xFr (xPo (fun t => sWt (ne j0) (ch j0) (nI t)) (fun t u => sWt (ne j0) (ch j0) (nI t) * sWt (ne j1) (ch j1) (nI u) * sPH st (xWh st ho pa lg 0) li (nI t) (sRide (ki j0) (ru j0) (nI (st - 1)) + xWy (xYd st ho lg (st - 1)) pa) (if nI u < a3 then 12 else nI u) (sRide (ki j1) (ru j1) (nI (st - 1)) + xWy (xYd st ho lg (st - 1)) pa)) 13) ((xSm (ch j0) 12 + ne j0) * (xSm (ch j1) 12 + ne j1)) a4) hx hb hr (fun t ht hW => ⟨⟨_, (), rfl, by simp [qLm, vLm, xPSum, h_9, c_5, (Int32.not_lt.mpr c_6), (Int32.not_lt.mpr c_7), c_9, nI_clamp (show j0 < 2 ^ 31 by omega), nI_clamp (show j1 < 2 ^ 31 by omega)], by rw [ht]; exact hE9 ▸ hP9, hE9 ▸ hD9⟩, hS.F ht⟩) hS.2.2 dX4_letMean_63
      · refine lv_aload_n hx hb dX4_letMean_47 rfl (lv_at hl 0 rfl) ?_
        refine lv_bipush (v := -2) hx hb dX4_letMean_48 (by decide) ?_
        have hPc := hP.sub (ws' := [(h0, .inr (4, [.ref rd, .ref dr, .ref kp, .ref pl, .ref tx, .ref nu, .ref rf_a, .int nc, .int hi, .int pd])), (rf_a, .inl (cI, 7, .inl rf))]) [0, 10] rfl
        have hDc := hD.sub (ws' := [(h0, .inr (4, [.ref rd, .ref dr, .ref kp, .ref pl, .ref tx, .ref nu, .ref rf_a, .int nc, .int hi, .int pd])), (rf_a, .inl (cI, 7, .inl rf))]) [0, 10] (by decide) rfl
        have hFc := va_free (wc := [(h0, .inr (4, [.ref rd, .ref dr, .ref kp, .ref pl, .ref tx, .ref nu, .ref rf_a, .int nc, .int hi, .int pd])), (rf_a, .inl (cI, 7, .inl rf))]) hD hS hA [0, 10] rfl
        refine va_calll (va_runV (As := [.int (-2)]) (rest := []) ⟨hx, hb, hml, hown, hts⟩ (g_X4_refuseLong l D cI cL cZ cC _ h0 rd dr kp pl tx nu rf_a nc hi pd rf (-2) (by first | assumption | decide +kernel) (by first | assumption | decide +kernel)) (cwV 1 hts gX4_letMean_X4_refuseLong rfl rfl rfl (by decide +kernel) ⟨Nat.le_of_ble_eq_true rfl, Nat.le_of_ble_eq_true rfl⟩) ⟨wPc_bl, va_recv hK hPc (ci := 4) (q0 := 0) rfl rfl, wPc_use hPc hK hDc⟩ rfl rfl hl.1 rfl (lv_room (Nat.le_of_ble_eq_true rfl)) dX4_letMean_50 ⟨Nat.le_of_ble_eq_true rfl, Nat.le_of_ble_eq_true rfl⟩) hS (fun q _ h => hFc q h) hFc (fun r_11 u_11 t H1 locs ht hvm hw hB hz1 hk1 hS => ?_)
        obtain ⟨hP1, hD1⟩ := hB
        rw [ht] at hP1
        obtain ⟨hP, hD⟩ := va_join (wr := [(rd, .inr (2, [.int (nI st), .int ho, .int pa, .int si, .int li, .int (nI ln), .ref r0, .ref r1])), (r0, .inl (cI, 7, .inl lg)), (r1, .inl (cL, 3, .inr (.inr (.inr (.inr (xL3 (la 0) (la 1) (la 2))))))), (la 0, .inr (0, [.int (ki 0), .int (ru 0), .int (ne 0), .ref (lk 0)])), (lk 0, .inl (cI, 12, .inl (ch 0))), (la 1, .inr (0, [.int (ki 1), .int (ru 1), .int (ne 1), .ref (lk 1)])), (lk 1, .inl (cI, 12, .inl (ch 1))), (la 2, .inr (0, [.int (ki 2), .int (ru 2), .int (ne 2), .ref (lk 2)])), (lk 2, .inl (cI, 12, .inl (ch 2)))]) (w1 := [(h0, .inr (4, [.ref rd, .ref dr, .ref kp, .ref pl, .ref tx, .ref nu, .ref rf_a, .int nc, .int hi, .int pd])), (rf_a, .inl (cI, 7, .inl (xRf rf (-2))))]) hP hD [0, 10] [1, 2, 3, 4, 5, 6, 7, 8, 9] rfl rfl (by decide) (by decide) hk1 hFc hP1 hD1
        generalize H1 = H at hP hS ⊢
        have hP : va_P D vwCl [(rd, .inr (2, [.int (nI st), .int ho, .int pa, .int si, .int li, .int (nI ln), .ref r0, .ref r1])), (r0, .inl (cI, 7, .inl lg)), (r1, .inl (cL, 3, .inr (.inr (.inr (.inr (xL3 (la 0) (la 1) (la 2))))))), (la 0, .inr (0, [.int (ki 0), .int (ru 0), .int (ne 0), .ref (lk 0)])), (lk 0, .inl (cI, 12, .inl (ch 0))), (la 1, .inr (0, [.int (ki 1), .int (ru 1), .int (ne 1), .ref (lk 1)])), (lk 1, .inl (cI, 12, .inl (ch 1))), (la 2, .inr (0, [.int (ki 2), .int (ru 2), .int (ne 2), .ref (lk 2)])), (lk 2, .inl (cI, 12, .inl (ch 2))), (h0, .inr (4, [.ref rd, .ref dr, .ref kp, .ref pl, .ref tx, .ref nu, .ref rf_a, .int nc, .int hi, .int pd])), (rf_a, .inl (cI, 7, .inl (xRf rf (-2))))] H := hP
        have hD : va_D A [(rd, .inr (2, [.int (nI st), .int ho, .int pa, .int si, .int li, .int (nI ln), .ref r0, .ref r1])), (r0, .inl (cI, 7, .inl lg)), (r1, .inl (cL, 3, .inr (.inr (.inr (.inr (xL3 (la 0) (la 1) (la 2))))))), (la 0, .inr (0, [.int (ki 0), .int (ru 0), .int (ne 0), .ref (lk 0)])), (lk 0, .inl (cI, 12, .inl (ch 0))), (la 1, .inr (0, [.int (ki 1), .int (ru 1), .int (ne 1), .ref (lk 1)])), (lk 1, .inl (cI, 12, .inl (ch 1))), (la 2, .inr (0, [.int (ki 2), .int (ru 2), .int (ne 2), .ref (lk 2)])), (lk 2, .inl (cI, 12, .inl (ch 2))), (h0, .inr (4, [.ref rd, .ref dr, .ref kp, .ref pl, .ref tx, .ref nu, .ref rf_a, .int nc, .int hi, .int pd])), (rf_a, .inl (cI, 7, .inl (xRf rf (-2))))] := hD
        obtain rfl : (xLg (-2 : Int32) : Int64) = r_11 := Eq.symm hw
        have hP9 := hP.sub (ws' := [(h0, .inr (4, [.ref rd, .ref dr, .ref kp, .ref pl, .ref tx, .ref nu, .ref rf_a, .int nc, .int hi, .int pd])), (rd, .inr (2, [.int (nI st), .int ho, .int pa, .int si, .int li, .int (nI ln), .ref r0, .ref r1])), (r0, .inl (cI, 7, .inl lg)), (r1, .inl (cL, 3, .inr (.inr (.inr (.inr (xL3 (la 0) (la 1) (la 2))))))), (la 0, .inr (0, [.int (ki 0), .int (ru 0), .int (ne 0), .ref (lk 0)])), (lk 0, .inl (cI, 12, .inl (ch 0))), (la 1, .inr (0, [.int (ki 1), .int (ru 1), .int (ne 1), .ref (lk 1)])), (lk 1, .inl (cI, 12, .inl (ch 1))), (la 2, .inr (0, [.int (ki 2), .int (ru 2), .int (ne 2), .ref (lk 2)])), (lk 2, .inl (cI, 12, .inl (ch 2))), (rf_a, .inl (cI, 7, .inl (xRf rf (-2))))]) [9, 0, 1, 2, 3, 4, 5, 6, 7, 8, 10] rfl
        have hD9 := hD.sub (ws' := [(h0, .inr (4, [.ref rd, .ref dr, .ref kp, .ref pl, .ref tx, .ref nu, .ref rf_a, .int nc, .int hi, .int pd])), (rd, .inr (2, [.int (nI st), .int ho, .int pa, .int si, .int li, .int (nI ln), .ref r0, .ref r1])), (r0, .inl (cI, 7, .inl lg)), (r1, .inl (cL, 3, .inr (.inr (.inr (.inr (xL3 (la 0) (la 1) (la 2))))))), (la 0, .inr (0, [.int (ki 0), .int (ru 0), .int (ne 0), .ref (lk 0)])), (lk 0, .inl (cI, 12, .inl (ch 0))), (la 1, .inr (0, [.int (ki 1), .int (ru 1), .int (ne 1), .ref (lk 1)])), (lk 1, .inl (cI, 12, .inl (ch 1))), (la 2, .inr (0, [.int (ki 2), .int (ru 2), .int (ne 2), .ref (lk 2)])), (lk 2, .inl (cI, 12, .inl (ch 2))), (rf_a, .inl (cI, 7, .inl (xRf rf (-2))))]) [9, 0, 1, 2, 3, 4, 5, 6, 7, 8, 10] (by decide) rfl
        have hE9 : ([(h0, .inr (4, [.ref rd, .ref dr, .ref kp, .ref pl, .ref tx, .ref nu, .ref rf_a, .int nc, .int hi, .int pd])), (rd, .inr (2, [.int (nI st), .int ho, .int pa, .int si, .int li, .int (nI ln), .ref r0, .ref r1])), (r0, .inl (cI, 7, .inl lg)), (r1, .inl (cL, 3, .inr (.inr (.inr (.inr (xL3 (la 0) (la 1) (la 2))))))), (la 0, .inr (0, [.int (ki 0), .int (ru 0), .int (ne 0), .ref (lk 0)])), (lk 0, .inl (cI, 12, .inl (ch 0))), (la 1, .inr (0, [.int (ki 1), .int (ru 1), .int (ne 1), .ref (lk 1)])), (lk 1, .inl (cI, 12, .inl (ch 1))), (la 2, .inr (0, [.int (ki 2), .int (ru 2), .int (ne 2), .ref (lk 2)])), (lk 2, .inl (cI, 12, .inl (ch 2))), (rf_a, .inl (cI, 7, .inl (xRf rf (-2))))] : va_W) = [(h0, .inr (4, [.ref rd, .ref dr, .ref kp, .ref pl, .ref tx, .ref nu, .ref rf_a, .int nc, .int hi, .int pd])), (rd, .inr (2, [.int (nI st), .int ho, .int pa, .int si, .int li, .int (nI ln), .ref r0, .ref r1])), (r0, .inl (cI, 7, .inl lg)), (r1, .inl (cL, 3, .inr (.inr (.inr (.inr (xL3 (la 0) (la 1) (la 2))))))), (la 0, .inr (0, [.int (ki 0), .int (ru 0), .int (ne 0), .ref (lk 0)])), (lk 0, .inl (cI, 12, .inl (ch 0))), (la 1, .inr (0, [.int (ki 1), .int (ru 1), .int (ne 1), .ref (lk 1)])), (lk 1, .inl (cI, 12, .inl (ch 1))), (la 2, .inr (0, [.int (ki 2), .int (ru 2), .int (ne 2), .ref (lk 2)])), (lk 2, .inl (cI, 12, .inl (ch 2))), (rf_a, .inl (cI, 7, .inl (xRq rf (qLm ln (nI j0) (nI j1) a3 a4))))] := by simp [xRq, qLm, vLm, xPSum, h_9, c_5, (Int32.not_lt.mpr c_6), (Int32.not_lt.mpr c_7), c_9]
        exact W.lret (v := xLg (-2 : Int32)) hx hb hr (fun t ht hW => ⟨⟨_, (), rfl, by simp [qLm, vLm, xPSum, h_9, c_5, (Int32.not_lt.mpr c_6), (Int32.not_lt.mpr c_7), c_9, nI_clamp (show j0 < 2 ^ 31 by omega), nI_clamp (show j1 < 2 ^ 31 by omega)], by rw [ht]; exact hE9 ▸ hP9, hE9 ▸ hD9⟩, hS.F ht⟩) hS.2.2 dX4_letMean_53
    · refine lv_aload_n hx hb dX4_letMean_32 rfl (lv_at hl 0 rfl) ?_
      refine lv_bipush (v := -6) hx hb dX4_letMean_33 (by decide) ?_
      have hPc := hP.sub (ws' := [(h0, .inr (4, [.ref rd, .ref dr, .ref kp, .ref pl, .ref tx, .ref nu, .ref rf_a, .int nc, .int hi, .int pd])), (rf_a, .inl (cI, 7, .inl rf))]) [0, 10] rfl
      have hDc := hD.sub (ws' := [(h0, .inr (4, [.ref rd, .ref dr, .ref kp, .ref pl, .ref tx, .ref nu, .ref rf_a, .int nc, .int hi, .int pd])), (rf_a, .inl (cI, 7, .inl rf))]) [0, 10] (by decide) rfl
      have hFc := va_free (wc := [(h0, .inr (4, [.ref rd, .ref dr, .ref kp, .ref pl, .ref tx, .ref nu, .ref rf_a, .int nc, .int hi, .int pd])), (rf_a, .inl (cI, 7, .inl rf))]) hD hS hA [0, 10] rfl
      refine va_calll (va_runV (As := [.int (-6)]) (rest := []) ⟨hx, hb, hml, hown, hts⟩ (g_X4_refuseLong l D cI cL cZ cC _ h0 rd dr kp pl tx nu rf_a nc hi pd rf (-6) (by first | assumption | decide +kernel) (by first | assumption | decide +kernel)) (cwV 1 hts gX4_letMean_X4_refuseLong rfl rfl rfl (by decide +kernel) ⟨Nat.le_of_ble_eq_true rfl, Nat.le_of_ble_eq_true rfl⟩) ⟨wPc_bl, va_recv hK hPc (ci := 4) (q0 := 0) rfl rfl, wPc_use hPc hK hDc⟩ rfl rfl hl.1 rfl (lv_room (Nat.le_of_ble_eq_true rfl)) dX4_letMean_35 ⟨Nat.le_of_ble_eq_true rfl, Nat.le_of_ble_eq_true rfl⟩) hS (fun q _ h => hFc q h) hFc (fun r_12 u_12 t H1 locs ht hvm hw hB hz1 hk1 hS => ?_)
      obtain ⟨hP1, hD1⟩ := hB
      rw [ht] at hP1
      obtain ⟨hP, hD⟩ := va_join (wr := [(rd, .inr (2, [.int (nI st), .int ho, .int pa, .int si, .int li, .int (nI ln), .ref r0, .ref r1])), (r0, .inl (cI, 7, .inl lg)), (r1, .inl (cL, 3, .inr (.inr (.inr (.inr (xL3 (la 0) (la 1) (la 2))))))), (la 0, .inr (0, [.int (ki 0), .int (ru 0), .int (ne 0), .ref (lk 0)])), (lk 0, .inl (cI, 12, .inl (ch 0))), (la 1, .inr (0, [.int (ki 1), .int (ru 1), .int (ne 1), .ref (lk 1)])), (lk 1, .inl (cI, 12, .inl (ch 1))), (la 2, .inr (0, [.int (ki 2), .int (ru 2), .int (ne 2), .ref (lk 2)])), (lk 2, .inl (cI, 12, .inl (ch 2)))]) (w1 := [(h0, .inr (4, [.ref rd, .ref dr, .ref kp, .ref pl, .ref tx, .ref nu, .ref rf_a, .int nc, .int hi, .int pd])), (rf_a, .inl (cI, 7, .inl (xRf rf (-6))))]) hP hD [0, 10] [1, 2, 3, 4, 5, 6, 7, 8, 9] rfl rfl (by decide) (by decide) hk1 hFc hP1 hD1
      generalize H1 = H at hP hS ⊢
      have hP : va_P D vwCl [(rd, .inr (2, [.int (nI st), .int ho, .int pa, .int si, .int li, .int (nI ln), .ref r0, .ref r1])), (r0, .inl (cI, 7, .inl lg)), (r1, .inl (cL, 3, .inr (.inr (.inr (.inr (xL3 (la 0) (la 1) (la 2))))))), (la 0, .inr (0, [.int (ki 0), .int (ru 0), .int (ne 0), .ref (lk 0)])), (lk 0, .inl (cI, 12, .inl (ch 0))), (la 1, .inr (0, [.int (ki 1), .int (ru 1), .int (ne 1), .ref (lk 1)])), (lk 1, .inl (cI, 12, .inl (ch 1))), (la 2, .inr (0, [.int (ki 2), .int (ru 2), .int (ne 2), .ref (lk 2)])), (lk 2, .inl (cI, 12, .inl (ch 2))), (h0, .inr (4, [.ref rd, .ref dr, .ref kp, .ref pl, .ref tx, .ref nu, .ref rf_a, .int nc, .int hi, .int pd])), (rf_a, .inl (cI, 7, .inl (xRf rf (-6))))] H := hP
      have hD : va_D A [(rd, .inr (2, [.int (nI st), .int ho, .int pa, .int si, .int li, .int (nI ln), .ref r0, .ref r1])), (r0, .inl (cI, 7, .inl lg)), (r1, .inl (cL, 3, .inr (.inr (.inr (.inr (xL3 (la 0) (la 1) (la 2))))))), (la 0, .inr (0, [.int (ki 0), .int (ru 0), .int (ne 0), .ref (lk 0)])), (lk 0, .inl (cI, 12, .inl (ch 0))), (la 1, .inr (0, [.int (ki 1), .int (ru 1), .int (ne 1), .ref (lk 1)])), (lk 1, .inl (cI, 12, .inl (ch 1))), (la 2, .inr (0, [.int (ki 2), .int (ru 2), .int (ne 2), .ref (lk 2)])), (lk 2, .inl (cI, 12, .inl (ch 2))), (h0, .inr (4, [.ref rd, .ref dr, .ref kp, .ref pl, .ref tx, .ref nu, .ref rf_a, .int nc, .int hi, .int pd])), (rf_a, .inl (cI, 7, .inl (xRf rf (-6))))] := hD
      obtain rfl : (xLg (-6 : Int32) : Int64) = r_12 := Eq.symm hw
      have hP9 := hP.sub (ws' := [(h0, .inr (4, [.ref rd, .ref dr, .ref kp, .ref pl, .ref tx, .ref nu, .ref rf_a, .int nc, .int hi, .int pd])), (rd, .inr (2, [.int (nI st), .int ho, .int pa, .int si, .int li, .int (nI ln), .ref r0, .ref r1])), (r0, .inl (cI, 7, .inl lg)), (r1, .inl (cL, 3, .inr (.inr (.inr (.inr (xL3 (la 0) (la 1) (la 2))))))), (la 0, .inr (0, [.int (ki 0), .int (ru 0), .int (ne 0), .ref (lk 0)])), (lk 0, .inl (cI, 12, .inl (ch 0))), (la 1, .inr (0, [.int (ki 1), .int (ru 1), .int (ne 1), .ref (lk 1)])), (lk 1, .inl (cI, 12, .inl (ch 1))), (la 2, .inr (0, [.int (ki 2), .int (ru 2), .int (ne 2), .ref (lk 2)])), (lk 2, .inl (cI, 12, .inl (ch 2))), (rf_a, .inl (cI, 7, .inl (xRf rf (-6))))]) [9, 0, 1, 2, 3, 4, 5, 6, 7, 8, 10] rfl
      have hD9 := hD.sub (ws' := [(h0, .inr (4, [.ref rd, .ref dr, .ref kp, .ref pl, .ref tx, .ref nu, .ref rf_a, .int nc, .int hi, .int pd])), (rd, .inr (2, [.int (nI st), .int ho, .int pa, .int si, .int li, .int (nI ln), .ref r0, .ref r1])), (r0, .inl (cI, 7, .inl lg)), (r1, .inl (cL, 3, .inr (.inr (.inr (.inr (xL3 (la 0) (la 1) (la 2))))))), (la 0, .inr (0, [.int (ki 0), .int (ru 0), .int (ne 0), .ref (lk 0)])), (lk 0, .inl (cI, 12, .inl (ch 0))), (la 1, .inr (0, [.int (ki 1), .int (ru 1), .int (ne 1), .ref (lk 1)])), (lk 1, .inl (cI, 12, .inl (ch 1))), (la 2, .inr (0, [.int (ki 2), .int (ru 2), .int (ne 2), .ref (lk 2)])), (lk 2, .inl (cI, 12, .inl (ch 2))), (rf_a, .inl (cI, 7, .inl (xRf rf (-6))))]) [9, 0, 1, 2, 3, 4, 5, 6, 7, 8, 10] (by decide) rfl
      have hE9 : ([(h0, .inr (4, [.ref rd, .ref dr, .ref kp, .ref pl, .ref tx, .ref nu, .ref rf_a, .int nc, .int hi, .int pd])), (rd, .inr (2, [.int (nI st), .int ho, .int pa, .int si, .int li, .int (nI ln), .ref r0, .ref r1])), (r0, .inl (cI, 7, .inl lg)), (r1, .inl (cL, 3, .inr (.inr (.inr (.inr (xL3 (la 0) (la 1) (la 2))))))), (la 0, .inr (0, [.int (ki 0), .int (ru 0), .int (ne 0), .ref (lk 0)])), (lk 0, .inl (cI, 12, .inl (ch 0))), (la 1, .inr (0, [.int (ki 1), .int (ru 1), .int (ne 1), .ref (lk 1)])), (lk 1, .inl (cI, 12, .inl (ch 1))), (la 2, .inr (0, [.int (ki 2), .int (ru 2), .int (ne 2), .ref (lk 2)])), (lk 2, .inl (cI, 12, .inl (ch 2))), (rf_a, .inl (cI, 7, .inl (xRf rf (-6))))] : va_W) = [(h0, .inr (4, [.ref rd, .ref dr, .ref kp, .ref pl, .ref tx, .ref nu, .ref rf_a, .int nc, .int hi, .int pd])), (rd, .inr (2, [.int (nI st), .int ho, .int pa, .int si, .int li, .int (nI ln), .ref r0, .ref r1])), (r0, .inl (cI, 7, .inl lg)), (r1, .inl (cL, 3, .inr (.inr (.inr (.inr (xL3 (la 0) (la 1) (la 2))))))), (la 0, .inr (0, [.int (ki 0), .int (ru 0), .int (ne 0), .ref (lk 0)])), (lk 0, .inl (cI, 12, .inl (ch 0))), (la 1, .inr (0, [.int (ki 1), .int (ru 1), .int (ne 1), .ref (lk 1)])), (lk 1, .inl (cI, 12, .inl (ch 1))), (la 2, .inr (0, [.int (ki 2), .int (ru 2), .int (ne 2), .ref (lk 2)])), (lk 2, .inl (cI, 12, .inl (ch 2))), (rf_a, .inl (cI, 7, .inl (xRq rf (qLm ln (nI j0) (nI j1) a3 a4))))] := by simp [xRq, qLm, vLm, xPSum, h_9, c_5, (Int32.not_lt.mpr c_6), (Int32.not_le.mp c_7)]
      exact W.lret (v := xLg (-6 : Int32)) hx hb hr (fun t ht hW => ⟨⟨_, (), rfl, by simp [qLm, vLm, xPSum, h_9, c_5, (Int32.not_lt.mpr c_6), (Int32.not_le.mp c_7), nI_clamp (show j0 < 2 ^ 31 by omega), nI_clamp (show j1 < 2 ^ 31 by omega)], by rw [ht]; exact hE9 ▸ hP9, hE9 ▸ hD9⟩, hS.F ht⟩) hS.2.2 dX4_letMean_38
  · refine lv_aload_n hx hb dX4_letMean_19 rfl (lv_at hl 0 rfl) ?_
    refine lv_bipush (v := -4) hx hb dX4_letMean_20 (by decide) ?_
    have hPc := hP.sub (ws' := [(h0, .inr (4, [.ref rd, .ref dr, .ref kp, .ref pl, .ref tx, .ref nu, .ref rf_a, .int nc, .int hi, .int pd])), (rf_a, .inl (cI, 7, .inl rf))]) [0, 10] rfl
    have hDc := hD.sub (ws' := [(h0, .inr (4, [.ref rd, .ref dr, .ref kp, .ref pl, .ref tx, .ref nu, .ref rf_a, .int nc, .int hi, .int pd])), (rf_a, .inl (cI, 7, .inl rf))]) [0, 10] (by decide) rfl
    have hFc := va_free (wc := [(h0, .inr (4, [.ref rd, .ref dr, .ref kp, .ref pl, .ref tx, .ref nu, .ref rf_a, .int nc, .int hi, .int pd])), (rf_a, .inl (cI, 7, .inl rf))]) hD hS hA [0, 10] rfl
    refine va_calll (va_runV (As := [.int (-4)]) (rest := []) ⟨hx, hb, hml, hown, hts⟩ (g_X4_refuseLong l D cI cL cZ cC _ h0 rd dr kp pl tx nu rf_a nc hi pd rf (-4) (by first | assumption | decide +kernel) (by first | assumption | decide +kernel)) (cwV 1 hts gX4_letMean_X4_refuseLong rfl rfl rfl (by decide +kernel) ⟨Nat.le_of_ble_eq_true rfl, Nat.le_of_ble_eq_true rfl⟩) ⟨wPc_bl, va_recv hK hPc (ci := 4) (q0 := 0) rfl rfl, wPc_use hPc hK hDc⟩ rfl rfl hl.1 rfl (lv_room (Nat.le_of_ble_eq_true rfl)) dX4_letMean_22 ⟨Nat.le_of_ble_eq_true rfl, Nat.le_of_ble_eq_true rfl⟩) hS (fun q _ h => hFc q h) hFc (fun r_13 u_13 t H1 locs ht hvm hw hB hz1 hk1 hS => ?_)
    obtain ⟨hP1, hD1⟩ := hB
    rw [ht] at hP1
    obtain ⟨hP, hD⟩ := va_join (wr := [(rd, .inr (2, [.int (nI st), .int ho, .int pa, .int si, .int li, .int (nI ln), .ref r0, .ref r1])), (r0, .inl (cI, 7, .inl lg)), (r1, .inl (cL, 3, .inr (.inr (.inr (.inr (xL3 (la 0) (la 1) (la 2))))))), (la 0, .inr (0, [.int (ki 0), .int (ru 0), .int (ne 0), .ref (lk 0)])), (lk 0, .inl (cI, 12, .inl (ch 0))), (la 1, .inr (0, [.int (ki 1), .int (ru 1), .int (ne 1), .ref (lk 1)])), (lk 1, .inl (cI, 12, .inl (ch 1))), (la 2, .inr (0, [.int (ki 2), .int (ru 2), .int (ne 2), .ref (lk 2)])), (lk 2, .inl (cI, 12, .inl (ch 2)))]) (w1 := [(h0, .inr (4, [.ref rd, .ref dr, .ref kp, .ref pl, .ref tx, .ref nu, .ref rf_a, .int nc, .int hi, .int pd])), (rf_a, .inl (cI, 7, .inl (xRf rf (-4))))]) hP hD [0, 10] [1, 2, 3, 4, 5, 6, 7, 8, 9] rfl rfl (by decide) (by decide) hk1 hFc hP1 hD1
    generalize H1 = H at hP hS ⊢
    have hP : va_P D vwCl [(rd, .inr (2, [.int (nI st), .int ho, .int pa, .int si, .int li, .int (nI ln), .ref r0, .ref r1])), (r0, .inl (cI, 7, .inl lg)), (r1, .inl (cL, 3, .inr (.inr (.inr (.inr (xL3 (la 0) (la 1) (la 2))))))), (la 0, .inr (0, [.int (ki 0), .int (ru 0), .int (ne 0), .ref (lk 0)])), (lk 0, .inl (cI, 12, .inl (ch 0))), (la 1, .inr (0, [.int (ki 1), .int (ru 1), .int (ne 1), .ref (lk 1)])), (lk 1, .inl (cI, 12, .inl (ch 1))), (la 2, .inr (0, [.int (ki 2), .int (ru 2), .int (ne 2), .ref (lk 2)])), (lk 2, .inl (cI, 12, .inl (ch 2))), (h0, .inr (4, [.ref rd, .ref dr, .ref kp, .ref pl, .ref tx, .ref nu, .ref rf_a, .int nc, .int hi, .int pd])), (rf_a, .inl (cI, 7, .inl (xRf rf (-4))))] H := hP
    have hD : va_D A [(rd, .inr (2, [.int (nI st), .int ho, .int pa, .int si, .int li, .int (nI ln), .ref r0, .ref r1])), (r0, .inl (cI, 7, .inl lg)), (r1, .inl (cL, 3, .inr (.inr (.inr (.inr (xL3 (la 0) (la 1) (la 2))))))), (la 0, .inr (0, [.int (ki 0), .int (ru 0), .int (ne 0), .ref (lk 0)])), (lk 0, .inl (cI, 12, .inl (ch 0))), (la 1, .inr (0, [.int (ki 1), .int (ru 1), .int (ne 1), .ref (lk 1)])), (lk 1, .inl (cI, 12, .inl (ch 1))), (la 2, .inr (0, [.int (ki 2), .int (ru 2), .int (ne 2), .ref (lk 2)])), (lk 2, .inl (cI, 12, .inl (ch 2))), (h0, .inr (4, [.ref rd, .ref dr, .ref kp, .ref pl, .ref tx, .ref nu, .ref rf_a, .int nc, .int hi, .int pd])), (rf_a, .inl (cI, 7, .inl (xRf rf (-4))))] := hD
    obtain rfl : (xLg (-4 : Int32) : Int64) = r_13 := Eq.symm hw
    have hP9 := hP.sub (ws' := [(h0, .inr (4, [.ref rd, .ref dr, .ref kp, .ref pl, .ref tx, .ref nu, .ref rf_a, .int nc, .int hi, .int pd])), (rd, .inr (2, [.int (nI st), .int ho, .int pa, .int si, .int li, .int (nI ln), .ref r0, .ref r1])), (r0, .inl (cI, 7, .inl lg)), (r1, .inl (cL, 3, .inr (.inr (.inr (.inr (xL3 (la 0) (la 1) (la 2))))))), (la 0, .inr (0, [.int (ki 0), .int (ru 0), .int (ne 0), .ref (lk 0)])), (lk 0, .inl (cI, 12, .inl (ch 0))), (la 1, .inr (0, [.int (ki 1), .int (ru 1), .int (ne 1), .ref (lk 1)])), (lk 1, .inl (cI, 12, .inl (ch 1))), (la 2, .inr (0, [.int (ki 2), .int (ru 2), .int (ne 2), .ref (lk 2)])), (lk 2, .inl (cI, 12, .inl (ch 2))), (rf_a, .inl (cI, 7, .inl (xRf rf (-4))))]) [9, 0, 1, 2, 3, 4, 5, 6, 7, 8, 10] rfl
    have hD9 := hD.sub (ws' := [(h0, .inr (4, [.ref rd, .ref dr, .ref kp, .ref pl, .ref tx, .ref nu, .ref rf_a, .int nc, .int hi, .int pd])), (rd, .inr (2, [.int (nI st), .int ho, .int pa, .int si, .int li, .int (nI ln), .ref r0, .ref r1])), (r0, .inl (cI, 7, .inl lg)), (r1, .inl (cL, 3, .inr (.inr (.inr (.inr (xL3 (la 0) (la 1) (la 2))))))), (la 0, .inr (0, [.int (ki 0), .int (ru 0), .int (ne 0), .ref (lk 0)])), (lk 0, .inl (cI, 12, .inl (ch 0))), (la 1, .inr (0, [.int (ki 1), .int (ru 1), .int (ne 1), .ref (lk 1)])), (lk 1, .inl (cI, 12, .inl (ch 1))), (la 2, .inr (0, [.int (ki 2), .int (ru 2), .int (ne 2), .ref (lk 2)])), (lk 2, .inl (cI, 12, .inl (ch 2))), (rf_a, .inl (cI, 7, .inl (xRf rf (-4))))]) [9, 0, 1, 2, 3, 4, 5, 6, 7, 8, 10] (by decide) rfl
    have hE9 : ([(h0, .inr (4, [.ref rd, .ref dr, .ref kp, .ref pl, .ref tx, .ref nu, .ref rf_a, .int nc, .int hi, .int pd])), (rd, .inr (2, [.int (nI st), .int ho, .int pa, .int si, .int li, .int (nI ln), .ref r0, .ref r1])), (r0, .inl (cI, 7, .inl lg)), (r1, .inl (cL, 3, .inr (.inr (.inr (.inr (xL3 (la 0) (la 1) (la 2))))))), (la 0, .inr (0, [.int (ki 0), .int (ru 0), .int (ne 0), .ref (lk 0)])), (lk 0, .inl (cI, 12, .inl (ch 0))), (la 1, .inr (0, [.int (ki 1), .int (ru 1), .int (ne 1), .ref (lk 1)])), (lk 1, .inl (cI, 12, .inl (ch 1))), (la 2, .inr (0, [.int (ki 2), .int (ru 2), .int (ne 2), .ref (lk 2)])), (lk 2, .inl (cI, 12, .inl (ch 2))), (rf_a, .inl (cI, 7, .inl (xRf rf (-4))))] : va_W) = [(h0, .inr (4, [.ref rd, .ref dr, .ref kp, .ref pl, .ref tx, .ref nu, .ref rf_a, .int nc, .int hi, .int pd])), (rd, .inr (2, [.int (nI st), .int ho, .int pa, .int si, .int li, .int (nI ln), .ref r0, .ref r1])), (r0, .inl (cI, 7, .inl lg)), (r1, .inl (cL, 3, .inr (.inr (.inr (.inr (xL3 (la 0) (la 1) (la 2))))))), (la 0, .inr (0, [.int (ki 0), .int (ru 0), .int (ne 0), .ref (lk 0)])), (lk 0, .inl (cI, 12, .inl (ch 0))), (la 1, .inr (0, [.int (ki 1), .int (ru 1), .int (ne 1), .ref (lk 1)])), (lk 1, .inl (cI, 12, .inl (ch 1))), (la 2, .inr (0, [.int (ki 2), .int (ru 2), .int (ne 2), .ref (lk 2)])), (lk 2, .inl (cI, 12, .inl (ch 2))), (rf_a, .inl (cI, 7, .inl (xRq rf (qLm ln (nI j0) (nI j1) a3 a4))))] := by simp [xRq, qLm, vLm, xPSum, h_9, c_5, (Int32.not_le.mp c_6)]
    exact W.lret (v := xLg (-4 : Int32)) hx hb hr (fun t ht hW => ⟨⟨_, (), rfl, by simp [qLm, vLm, xPSum, h_9, c_5, (Int32.not_le.mp c_6), nI_clamp (show j0 < 2 ^ 31 by omega), nI_clamp (show j1 < 2 ^ 31 by omega)], by rw [ht]; exact hE9 ▸ hP9, hE9 ▸ hD9⟩, hS.F ht⟩) hS.2.2 dX4_letMean_25

set_option maxHeartbeats 4000000 in
set_option maxRecDepth 100000 in
theorem g_X5_count (l : Launch) (D : va_G) (cI cL cZ cC : ClassId) (g0 : Nat) (ra : Nat) (wa : Nat) (ta : Nat) (ma : Nat) (pa : Nat) (ba : Nat) (ka : Nat) (fa : Nat) (qa : Nat) (ea : Nat) (za : Nat) (ya : Nat) (kpt : Int32) (mkd : Int32) (at0 : Int32) (wel : Int32) (srt : Int32) (wks : Int32) (tn : Nat) (st : Nat) (nw : Nat → Int32) (ln : Nat) (rf : Nat → Int32) (a1 : Int32) (hn0 : nw 0 = nI st) (hs1 : 1 ≤ st) (hs7 : st ≤ 7) (hn3 : nw 3 = nI ln) (hln : ln ≤ 3) : Met l yX5_count wsX5_count ({ frames := 0, cells := 0, slots := 0, locals := 0 } : Room) (xPc D [.ref g0, .int a1] [(g0, .inr (5, [.ref ra, .ref wa, .ref ta, .int kpt, .ref ma, .int mkd, .ref pa, .int (nI tn), .int at0, .int wel, .ref ba, .ref ka, .int srt, .ref fa, .ref qa, .ref ea, .ref za, .ref ya, .int wks])), (wa, .inl (cI, 70, .inl nw)), (ra, .inl (cI, 7, .inl rf))] (xTy cI cL cZ cC)) (vp_Si (fun r : Int32 => r = sCnt st ln (nw 1) (nw 2) (nw 4) (nw 5) (fun i => nw (10 + i)) mkd tn rf a1)) 0 0 (fun _ => False) := by
  refine Met.ofW (cc := cX5_count) (maxL := 4) (ret := (some .int)) (by decide) rfl ?_
  intro p e s m args below meth c s₁ B hml hv
  obtain ⟨rfl, hP, hK⟩ := hv
  have hx := B.exec
  have hb := B.bytes
  have hr := B.returns
  have hts := atoms_spec (ws := wsX5_count) B.pre
  have hown : s.vm.findClass RX5 = some m.cls := findClass_of_methodNamed B.named
  have hlocks := B.notSynchronized
  have hwX5 : ∀ w ∈ u_ws RX5 TX5 19, w ∈ wsX5_count := fun _ h => List.mem_cons_of_mem _ (List.mem_append_right _ h)
  have hl := lv_entry ([.ref g0, .int a1]) (n := 4) (Nat.le_of_ble_eq_true rfl)
  rw [lg_entry_eq]
  generalize (lg_sl ([.ref g0, .int a1]) ++ List.replicate (4 - (lg_sl ([.ref g0, .int a1])).length) Slot.unset).toArray = ls at hl ⊢
  have hl : lv_has ls 4 [(0, .ref g0), (1, .int a1)] := hl
  by_cases h_1 : a1 < 0
  · refine lv_iload_n hx hb dX5_count_0 rfl (lv_at hl 1 rfl) ?_
    refine lv_tableOut (tgt := 132) hx hb dX5_count_1 (Or.inl ((xi_lt _ _).mp h_1)) (by decide) ?_
    refine lv_iload_n hx hb dX5_count_132 rfl (lv_at hl 1 rfl) ?_
    refine lv_bipush (v := 11) hx hb dX5_count_133 (by decide) ?_
    refine lv_icmp_lt (tgt := 156) hx hb dX5_count_135 (by decide) (fun c_1 => ?_) (fun c_1 => absurd (xlt h_1 (by decide)) c_1)
    refine lv_bipush (v := -9) hx hb dX5_count_156 (by decide) ?_
    exact W.iret (v := -9) hx hb hr (fun t ht hW => ⟨_, rfl, (sCnt_lo h_1).symm, ht⟩) (fun _ h => absurd h List.not_mem_nil) dX5_count_158
  by_cases h_2 : 16 < a1
  · refine lv_iload_n hx hb dX5_count_0 rfl (lv_at hl 1 rfl) ?_
    refine lv_tableOut (tgt := 132) hx hb dX5_count_1 (Or.inr ((xi_lt _ _).mp (xlt2 (a := 7) (b := 16) (by decide) h_2))) (by decide) ?_
    refine lv_iload_n hx hb dX5_count_132 rfl (lv_at hl 1 rfl) ?_
    refine lv_bipush (v := 11) hx hb dX5_count_133 (by decide) ?_
    refine lv_icmp_lt (tgt := 156) hx hb dX5_count_135 (by decide) (fun c_2 => (xno c_2 (by decide) h_2).elim) (fun c_2 => ?_)
    refine lv_iload_n hx hb dX5_count_138 rfl (lv_at hl 1 rfl) ?_
    refine lv_bipush (v := 16) hx hb dX5_count_139 (by decide) ?_
    refine lv_icmp_gt (tgt := 156) hx hb dX5_count_141 (by decide) (fun c_3 => ?_) (fun c_3 => absurd h_2 c_3)
    refine lv_bipush (v := -9) hx hb dX5_count_156 (by decide) ?_
    exact W.iret (v := -9) hx hb hr (fun t ht hW => ⟨_, rfl, (sCnt_hi h_2).symm, ht⟩) (fun _ h => absurd h List.not_mem_nil) dX5_count_158
  rcases xz17 h_1 h_2 with rfl | rfl | rfl | rfl | rfl | rfl | rfl | rfl | rfl | rfl | rfl | rfl | rfl | rfl | rfl | rfl | rfl
  · refine lv_iload_n hx hb dX5_count_0 rfl (lv_at hl 1 rfl) ?_
    refine lv_tableIn (off := 47) (tgt := 48) hx hb dX5_count_1 (by decide +kernel) (by decide +kernel) (by decide +kernel) (by decide) ?_
    refine lv_aload_n hx hb dX5_count_48 rfl (lv_at hl 0 rfl) ?_
    refine va_get (D := D) (ci := 5) (v := .ref wa) (C := RX5) (T := TX5) (N := 19) hx hb hts hwX5 hown hK hP 0 rfl rfl 1 (by decide) (hts (.fieldLink RX5 19 "WaitOrWalkOnModel" "now" "[I") (by decide +kernel)) (fun _ h9 => h9) rfl dX5_count_49 ?_
    refine lv_iconst (v := 0) hx hb dX5_count_52 (by decide) ?_
    refine va_iald (D := D) hx hb hK hP 1 0 rfl rfl (by unfold vp_in; decide +kernel) dX5_count_53 ?_
    refine xv_int (y := nw 0) rfl ?_
    refine xv_int (y := nI st) (hn0) ?_
    exact W.iret (v := nI st) hx hb hr (fun t ht hW => ⟨_, rfl, by simp [sCnt], ht⟩) (fun _ h => absurd h List.not_mem_nil) dX5_count_54
  · refine lv_iload_n hx hb dX5_count_0 rfl (lv_at hl 1 rfl) ?_
    refine lv_tableIn (off := 54) (tgt := 55) hx hb dX5_count_1 (by decide +kernel) (by decide +kernel) (by decide +kernel) (by decide) ?_
    refine lv_aload_n hx hb dX5_count_55 rfl (lv_at hl 0 rfl) ?_
    refine va_get (D := D) (ci := 5) (v := .ref wa) (C := RX5) (T := TX5) (N := 19) hx hb hts hwX5 hown hK hP 0 rfl rfl 1 (by decide) (hts (.fieldLink RX5 19 "WaitOrWalkOnModel" "now" "[I") (by decide +kernel)) (fun _ h9 => h9) rfl dX5_count_56 ?_
    refine lv_iconst (v := 3) hx hb dX5_count_59 (by decide) ?_
    refine va_iald (D := D) hx hb hK hP 1 0 rfl rfl (by unfold vp_in; decide +kernel) dX5_count_60 ?_
    refine xv_int (y := nw 3) rfl ?_
    refine xv_int (y := nI ln) (hn3) ?_
    exact W.iret (v := nI ln) hx hb hr (fun t ht hW => ⟨_, rfl, by simp [sCnt], ht⟩) (fun _ h => absurd h List.not_mem_nil) dX5_count_61
  · refine lv_iload_n hx hb dX5_count_0 rfl (lv_at hl 1 rfl) ?_
    refine lv_tableIn (off := 61) (tgt := 62) hx hb dX5_count_1 (by decide +kernel) (by decide +kernel) (by decide +kernel) (by decide) ?_
    refine lv_aload_n hx hb dX5_count_62 rfl (lv_at hl 0 rfl) ?_
    refine va_get (D := D) (ci := 5) (v := .ref wa) (C := RX5) (T := TX5) (N := 19) hx hb hts hwX5 hown hK hP 0 rfl rfl 1 (by decide) (hts (.fieldLink RX5 19 "WaitOrWalkOnModel" "now" "[I") (by decide +kernel)) (fun _ h9 => h9) rfl dX5_count_63 ?_
    refine lv_iconst (v := 1) hx hb dX5_count_66 (by decide) ?_
    refine va_iald (D := D) hx hb hK hP 1 0 rfl rfl (by unfold vp_in; decide +kernel) dX5_count_67 ?_
    refine xv_int (y := nw 1) rfl ?_
    refine lv_istore_n (lv' := [(2, .int (nw 1)), (0, .ref g0), (1, .int 2)]) hx hb dX5_count_68 rfl hl (by decide) rfl (fun ls hl => ?_)
    refine lv_iconst (v := 1) hx hb dX5_count_69 (by decide) ?_
    refine lv_istore_n (lv' := [(3, .int 1), (2, .int (nw 1)), (0, .ref g0), (1, .int 2)]) hx hb dX5_count_70 rfl hl (by decide) rfl (fun ls hl => ?_)
    refine xl_loop (σ := Nat) (fun n q ls => lv_has ls 4 [(3, .int (nI (q + 1))), (2, .int (xAcc (nw 1) (fun i => nw (10 + i)) q)), (0, .ref g0), (1, .int 2)] ∧ (st - (q + 1) < n) ∧ (q + 1 ≤ st)) (st + 1) (0) ⟨lv_sub hl [0, 1, 2, 3] rfl, by (try dsimp only); exact ⟨by omega, by omega⟩⟩ (fun q ls h => absurd h.2.1 (Nat.not_lt_zero _)) ?_
    intro n_71 q_71 ls ih_71 hI_71
    obtain ⟨hl, hI_71⟩ := hI_71
    obtain ⟨k, e_71⟩ : ∃ z, z = q_71 := ⟨_, rfl⟩
    subst e_71
    obtain ⟨h1, h2⟩ := hI_71
    try dsimp only at hl h1 h2
    refine lv_iload_n hx hb dX5_count_71 rfl (lv_at hl 0 rfl) ?_
    refine lv_aload_n hx hb dX5_count_72 rfl (lv_at hl 2 rfl) ?_
    refine va_get (D := D) (ci := 5) (v := .ref wa) (C := RX5) (T := TX5) (N := 19) hx hb hts hwX5 hown hK hP 0 rfl rfl 1 (by decide) (hts (.fieldLink RX5 19 "WaitOrWalkOnModel" "now" "[I") (by decide +kernel)) (fun _ h9 => h9) rfl dX5_count_73 ?_
    refine lv_iconst (v := 0) hx hb dX5_count_76 (by decide) ?_
    refine va_iald (D := D) hx hb hK hP 1 0 rfl rfl (by unfold vp_in; decide +kernel) dX5_count_77 ?_
    refine xv_int (y := nw 0) rfl ?_
    refine xv_int (y := nI st) (hn0) ?_
    refine lv_icmp_ge (tgt := 99) hx hb dX5_count_78 (by decide) (fun c_4 => ?_) (fun c_4 => ?_)
    · refine lv_iload_n hx hb dX5_count_99 rfl (lv_at hl 1 rfl) ?_
      exact W.iret (v := xAcc (nw 1) (fun i => nw (10 + i)) k) hx hb hr (fun t ht hW => ⟨_, rfl, (by have w := mt (nI_ltI (a := k + 1) (b := st) (by omega) (by omega)).mpr (Int32.not_lt.mpr c_4); rw [show k = st - 1 by omega]; simp [sCnt]), ht⟩) (fun _ h => absurd h List.not_mem_nil) dX5_count_100
    · refine lv_iload_n hx hb dX5_count_81 rfl (lv_at hl 1 rfl) ?_
      refine lv_aload_n hx hb dX5_count_82 rfl (lv_at hl 2 rfl) ?_
      refine va_get (D := D) (ci := 5) (v := .ref wa) (C := RX5) (T := TX5) (N := 19) hx hb hts hwX5 hown hK hP 0 rfl rfl 1 (by decide) (hts (.fieldLink RX5 19 "WaitOrWalkOnModel" "now" "[I") (by decide +kernel)) (fun _ h9 => h9) rfl dX5_count_83 ?_
      refine lv_bipush (v := 10) hx hb dX5_count_86 (by decide) ?_
      refine lv_iload_n hx hb dX5_count_88 rfl (lv_at hl 0 rfl) ?_
      refine lv_iadd hx hb dX5_count_89 ?_
      refine xv_int (y := nI (10 + (k + 1))) (nI_add 10 (k + 1)) ?_
      refine va_iald (D := D) hx hb hK hP 1 0 rfl rfl (vp_in_nI (by have w := (nI_ltI (a := k + 1) (b := st) (by omega) (by omega)).mp (Int32.not_le.mp c_4); omega) (by decide)) dX5_count_90 ?_
      refine xv_int (y := nw (10 + (k + 1))) (congrArg nw (nI_clamp (by omega))) ?_
      refine lv_iadd hx hb dX5_count_91 ?_
      refine xv_int (y := xAcc (nw 1) (fun i => nw (10 + i)) (k + 1)) (rfl) ?_
      refine lv_istore_n (lv' := [(2, .int (xAcc (nw 1) (fun i => nw (10 + i)) (k + 1))), (3, .int (nI (k + 1))), (0, .ref g0), (1, .int 2)]) hx hb dX5_count_92 rfl hl (by decide) rfl (fun ls hl => ?_)
      refine lv_iinc (v := nI (k + 1 + 1)) (lv' := [(3, .int (nI (k + 1 + 1))), (2, .int (xAcc (nw 1) (fun i => nw (10 + i)) (k + 1))), (0, .ref g0), (1, .int 2)]) hx hb dX5_count_93 hl (k := 1) rfl (nI_1 (k + 1)) (by decide) rfl (fun ls hl => ?_)
      refine lv_goto (tgt := 71) hx hb dX5_count_96 (by decide) ?_
      have w := (nI_ltI (a := k + 1) (b := st) (by omega) (by omega)).mp (Int32.not_le.mp c_4)
      exact ih_71 (k + 1) _ ⟨lv_sub hl [0, 1, 2, 3] rfl, by (try dsimp only); exact ⟨by omega, by omega⟩⟩
  · refine lv_iload_n hx hb dX5_count_0 rfl (lv_at hl 1 rfl) ?_
    refine lv_tableIn (off := 100) (tgt := 101) hx hb dX5_count_1 (by decide +kernel) (by decide +kernel) (by decide +kernel) (by decide) ?_
    refine lv_aload_n hx hb dX5_count_101 rfl (lv_at hl 0 rfl) ?_
    refine va_get (D := D) (ci := 5) (v := .ref wa) (C := RX5) (T := TX5) (N := 19) hx hb hts hwX5 hown hK hP 0 rfl rfl 1 (by decide) (hts (.fieldLink RX5 19 "WaitOrWalkOnModel" "now" "[I") (by decide +kernel)) (fun _ h9 => h9) rfl dX5_count_102 ?_
    refine lv_iconst (v := 2) hx hb dX5_count_105 (by decide) ?_
    refine va_iald (D := D) hx hb hK hP 1 0 rfl rfl (by unfold vp_in; decide +kernel) dX5_count_106 ?_
    refine xv_int (y := nw 2) rfl ?_
    exact W.iret (v := nw 2) hx hb hr (fun t ht hW => ⟨_, rfl, by simp [sCnt], ht⟩) (fun _ h => absurd h List.not_mem_nil) dX5_count_107
  · refine lv_iload_n hx hb dX5_count_0 rfl (lv_at hl 1 rfl) ?_
    refine lv_tableIn (off := 107) (tgt := 108) hx hb dX5_count_1 (by decide +kernel) (by decide +kernel) (by decide +kernel) (by decide) ?_
    refine lv_aload_n hx hb dX5_count_108 rfl (lv_at hl 0 rfl) ?_
    refine va_get (D := D) (ci := 5) (v := .ref wa) (C := RX5) (T := TX5) (N := 19) hx hb hts hwX5 hown hK hP 0 rfl rfl 1 (by decide) (hts (.fieldLink RX5 19 "WaitOrWalkOnModel" "now" "[I") (by decide +kernel)) (fun _ h9 => h9) rfl dX5_count_109 ?_
    refine lv_iconst (v := 4) hx hb dX5_count_112 (by decide) ?_
    refine va_iald (D := D) hx hb hK hP 1 0 rfl rfl (by unfold vp_in; decide +kernel) dX5_count_113 ?_
    refine xv_int (y := nw 4) rfl ?_
    exact W.iret (v := nw 4) hx hb hr (fun t ht hW => ⟨_, rfl, by simp [sCnt], ht⟩) (fun _ h => absurd h List.not_mem_nil) dX5_count_114
  · refine lv_iload_n hx hb dX5_count_0 rfl (lv_at hl 1 rfl) ?_
    refine lv_tableIn (off := 114) (tgt := 115) hx hb dX5_count_1 (by decide +kernel) (by decide +kernel) (by decide +kernel) (by decide) ?_
    refine lv_aload_n hx hb dX5_count_115 rfl (lv_at hl 0 rfl) ?_
    refine va_get (D := D) (ci := 5) (v := .ref wa) (C := RX5) (T := TX5) (N := 19) hx hb hts hwX5 hown hK hP 0 rfl rfl 1 (by decide) (hts (.fieldLink RX5 19 "WaitOrWalkOnModel" "now" "[I") (by decide +kernel)) (fun _ h9 => h9) rfl dX5_count_116 ?_
    refine lv_iconst (v := 5) hx hb dX5_count_119 (by decide) ?_
    refine va_iald (D := D) hx hb hK hP 1 0 rfl rfl (by unfold vp_in; decide +kernel) dX5_count_120 ?_
    refine xv_int (y := nw 5) rfl ?_
    exact W.iret (v := nw 5) hx hb hr (fun t ht hW => ⟨_, rfl, by simp [sCnt], ht⟩) (fun _ h => absurd h List.not_mem_nil) dX5_count_121
  · refine lv_iload_n hx hb dX5_count_0 rfl (lv_at hl 1 rfl) ?_
    refine lv_tableIn (off := 121) (tgt := 122) hx hb dX5_count_1 (by decide +kernel) (by decide +kernel) (by decide +kernel) (by decide) ?_
    refine lv_aload_n hx hb dX5_count_122 rfl (lv_at hl 0 rfl) ?_
    refine va_get (D := D) (ci := 5) (v := .int mkd) (C := RX5) (T := TX5) (N := 19) hx hb hts hwX5 hown hK hP 0 rfl rfl 5 (by decide) (hts (.fieldLink RX5 188 "WaitOrWalkOnModel" "marked" "I") (by decide +kernel)) (fun _ h9 => h9) rfl dX5_count_123 ?_
    exact W.iret (v := mkd) hx hb hr (fun t ht hW => ⟨_, rfl, by simp [sCnt], ht⟩) (fun _ h => absurd h List.not_mem_nil) dX5_count_126
  · refine lv_iload_n hx hb dX5_count_0 rfl (lv_at hl 1 rfl) ?_
    refine lv_tableIn (off := 126) (tgt := 127) hx hb dX5_count_1 (by decide +kernel) (by decide +kernel) (by decide +kernel) (by decide) ?_
    refine lv_aload_n hx hb dX5_count_127 rfl (lv_at hl 0 rfl) ?_
    refine va_get (D := D) (ci := 5) (v := .int (nI tn)) (C := RX5) (T := TX5) (N := 19) hx hb hts hwX5 hown hK hP 0 rfl rfl 7 (by decide) (hts (.fieldLink RX5 57 "WaitOrWalkOnModel" "taped" "I") (by decide +kernel)) (fun _ h9 => h9) rfl dX5_count_128 ?_
    exact W.iret (v := nI tn) hx hb hr (fun t ht hW => ⟨_, rfl, by simp [sCnt], ht⟩) (fun _ h => absurd h List.not_mem_nil) dX5_count_131
  · refine lv_iload_n hx hb dX5_count_0 rfl (lv_at hl 1 rfl) ?_
    refine lv_tableOut (tgt := 132) hx hb dX5_count_1 (by decide +kernel) (by decide) ?_
    refine lv_iload_n hx hb dX5_count_132 rfl (lv_at hl 1 rfl) ?_
    refine lv_bipush (v := 11) hx hb dX5_count_133 (by decide) ?_
    refine lv_icmp_lt (tgt := 156) hx hb dX5_count_135 (by decide) (fun c_5 => ?_) (fun c_5 => absurd c_5 (by decide +kernel))
    refine lv_bipush (v := -9) hx hb dX5_count_156 (by decide) ?_
    exact W.iret (v := -9) hx hb hr (fun t ht hW => ⟨_, rfl, by simp [sCnt], ht⟩) (fun _ h => absurd h List.not_mem_nil) dX5_count_158
  · refine lv_iload_n hx hb dX5_count_0 rfl (lv_at hl 1 rfl) ?_
    refine lv_tableOut (tgt := 132) hx hb dX5_count_1 (by decide +kernel) (by decide) ?_
    refine lv_iload_n hx hb dX5_count_132 rfl (lv_at hl 1 rfl) ?_
    refine lv_bipush (v := 11) hx hb dX5_count_133 (by decide) ?_
    refine lv_icmp_lt (tgt := 156) hx hb dX5_count_135 (by decide) (fun c_6 => ?_) (fun c_6 => absurd c_6 (by decide +kernel))
    refine lv_bipush (v := -9) hx hb dX5_count_156 (by decide) ?_
    exact W.iret (v := -9) hx hb hr (fun t ht hW => ⟨_, rfl, by simp [sCnt], ht⟩) (fun _ h => absurd h List.not_mem_nil) dX5_count_158
  · refine lv_iload_n hx hb dX5_count_0 rfl (lv_at hl 1 rfl) ?_
    refine lv_tableOut (tgt := 132) hx hb dX5_count_1 (by decide +kernel) (by decide) ?_
    refine lv_iload_n hx hb dX5_count_132 rfl (lv_at hl 1 rfl) ?_
    refine lv_bipush (v := 11) hx hb dX5_count_133 (by decide) ?_
    refine lv_icmp_lt (tgt := 156) hx hb dX5_count_135 (by decide) (fun c_7 => ?_) (fun c_7 => absurd c_7 (by decide +kernel))
    refine lv_bipush (v := -9) hx hb dX5_count_156 (by decide) ?_
    exact W.iret (v := -9) hx hb hr (fun t ht hW => ⟨_, rfl, by simp [sCnt], ht⟩) (fun _ h => absurd h List.not_mem_nil) dX5_count_158
  · refine lv_iload_n hx hb dX5_count_0 rfl (lv_at hl 1 rfl) ?_
    refine lv_tableOut (tgt := 132) hx hb dX5_count_1 (by decide +kernel) (by decide) ?_
    refine lv_iload_n hx hb dX5_count_132 rfl (lv_at hl 1 rfl) ?_
    refine lv_bipush (v := 11) hx hb dX5_count_133 (by decide) ?_
    refine lv_icmp_lt (tgt := 156) hx hb dX5_count_135 (by decide) (fun c_8 => absurd c_8 (by decide +kernel)) (fun c_8 => ?_)
    refine lv_iload_n hx hb dX5_count_138 rfl (lv_at hl 1 rfl) ?_
    refine lv_bipush (v := 16) hx hb dX5_count_139 (by decide) ?_
    refine lv_icmp_gt (tgt := 156) hx hb dX5_count_141 (by decide) (fun c_9 => absurd c_9 (by decide +kernel)) (fun c_9 => ?_)
    refine lv_aload_n hx hb dX5_count_144 rfl (lv_at hl 0 rfl) ?_
    refine va_get (D := D) (ci := 5) (v := .ref ra) (C := RX5) (T := TX5) (N := 19) hx hb hts hwX5 hown hK hP 0 rfl rfl 0 (by decide) (hts (.fieldLink RX5 1 "WaitOrWalkOnModel" "refused" "[I") (by decide +kernel)) (fun _ h9 => h9) rfl dX5_count_145 ?_
    refine lv_iload_n hx hb dX5_count_148 rfl (lv_at hl 1 rfl) ?_
    refine lv_bipush (v := 10) hx hb dX5_count_149 (by decide) ?_
    refine lv_isub hx hb dX5_count_151 ?_
    refine xv_int (y := 1) (by decide +kernel) ?_
    refine va_iald (D := D) hx hb hK hP 2 0 rfl rfl (by unfold vp_in; decide +kernel) dX5_count_152 ?_
    refine xv_int (y := rf 1) rfl ?_
    refine lv_goto (tgt := 158) hx hb dX5_count_153 (by decide) ?_
    exact W.iret (v := rf 1) hx hb hr (fun t ht hW => ⟨_, rfl, by simp [sCnt], ht⟩) (fun _ h => absurd h List.not_mem_nil) dX5_count_158
  · refine lv_iload_n hx hb dX5_count_0 rfl (lv_at hl 1 rfl) ?_
    refine lv_tableOut (tgt := 132) hx hb dX5_count_1 (by decide +kernel) (by decide) ?_
    refine lv_iload_n hx hb dX5_count_132 rfl (lv_at hl 1 rfl) ?_
    refine lv_bipush (v := 11) hx hb dX5_count_133 (by decide) ?_
    refine lv_icmp_lt (tgt := 156) hx hb dX5_count_135 (by decide) (fun c_10 => absurd c_10 (by decide +kernel)) (fun c_10 => ?_)
    refine lv_iload_n hx hb dX5_count_138 rfl (lv_at hl 1 rfl) ?_
    refine lv_bipush (v := 16) hx hb dX5_count_139 (by decide) ?_
    refine lv_icmp_gt (tgt := 156) hx hb dX5_count_141 (by decide) (fun c_11 => absurd c_11 (by decide +kernel)) (fun c_11 => ?_)
    refine lv_aload_n hx hb dX5_count_144 rfl (lv_at hl 0 rfl) ?_
    refine va_get (D := D) (ci := 5) (v := .ref ra) (C := RX5) (T := TX5) (N := 19) hx hb hts hwX5 hown hK hP 0 rfl rfl 0 (by decide) (hts (.fieldLink RX5 1 "WaitOrWalkOnModel" "refused" "[I") (by decide +kernel)) (fun _ h9 => h9) rfl dX5_count_145 ?_
    refine lv_iload_n hx hb dX5_count_148 rfl (lv_at hl 1 rfl) ?_
    refine lv_bipush (v := 10) hx hb dX5_count_149 (by decide) ?_
    refine lv_isub hx hb dX5_count_151 ?_
    refine xv_int (y := 2) (by decide +kernel) ?_
    refine va_iald (D := D) hx hb hK hP 2 0 rfl rfl (by unfold vp_in; decide +kernel) dX5_count_152 ?_
    refine xv_int (y := rf 2) rfl ?_
    refine lv_goto (tgt := 158) hx hb dX5_count_153 (by decide) ?_
    exact W.iret (v := rf 2) hx hb hr (fun t ht hW => ⟨_, rfl, by simp [sCnt], ht⟩) (fun _ h => absurd h List.not_mem_nil) dX5_count_158
  · refine lv_iload_n hx hb dX5_count_0 rfl (lv_at hl 1 rfl) ?_
    refine lv_tableOut (tgt := 132) hx hb dX5_count_1 (by decide +kernel) (by decide) ?_
    refine lv_iload_n hx hb dX5_count_132 rfl (lv_at hl 1 rfl) ?_
    refine lv_bipush (v := 11) hx hb dX5_count_133 (by decide) ?_
    refine lv_icmp_lt (tgt := 156) hx hb dX5_count_135 (by decide) (fun c_12 => absurd c_12 (by decide +kernel)) (fun c_12 => ?_)
    refine lv_iload_n hx hb dX5_count_138 rfl (lv_at hl 1 rfl) ?_
    refine lv_bipush (v := 16) hx hb dX5_count_139 (by decide) ?_
    refine lv_icmp_gt (tgt := 156) hx hb dX5_count_141 (by decide) (fun c_13 => absurd c_13 (by decide +kernel)) (fun c_13 => ?_)
    refine lv_aload_n hx hb dX5_count_144 rfl (lv_at hl 0 rfl) ?_
    refine va_get (D := D) (ci := 5) (v := .ref ra) (C := RX5) (T := TX5) (N := 19) hx hb hts hwX5 hown hK hP 0 rfl rfl 0 (by decide) (hts (.fieldLink RX5 1 "WaitOrWalkOnModel" "refused" "[I") (by decide +kernel)) (fun _ h9 => h9) rfl dX5_count_145 ?_
    refine lv_iload_n hx hb dX5_count_148 rfl (lv_at hl 1 rfl) ?_
    refine lv_bipush (v := 10) hx hb dX5_count_149 (by decide) ?_
    refine lv_isub hx hb dX5_count_151 ?_
    refine xv_int (y := 3) (by decide +kernel) ?_
    refine va_iald (D := D) hx hb hK hP 2 0 rfl rfl (by unfold vp_in; decide +kernel) dX5_count_152 ?_
    refine xv_int (y := rf 3) rfl ?_
    refine lv_goto (tgt := 158) hx hb dX5_count_153 (by decide) ?_
    exact W.iret (v := rf 3) hx hb hr (fun t ht hW => ⟨_, rfl, by simp [sCnt], ht⟩) (fun _ h => absurd h List.not_mem_nil) dX5_count_158
  · refine lv_iload_n hx hb dX5_count_0 rfl (lv_at hl 1 rfl) ?_
    refine lv_tableOut (tgt := 132) hx hb dX5_count_1 (by decide +kernel) (by decide) ?_
    refine lv_iload_n hx hb dX5_count_132 rfl (lv_at hl 1 rfl) ?_
    refine lv_bipush (v := 11) hx hb dX5_count_133 (by decide) ?_
    refine lv_icmp_lt (tgt := 156) hx hb dX5_count_135 (by decide) (fun c_14 => absurd c_14 (by decide +kernel)) (fun c_14 => ?_)
    refine lv_iload_n hx hb dX5_count_138 rfl (lv_at hl 1 rfl) ?_
    refine lv_bipush (v := 16) hx hb dX5_count_139 (by decide) ?_
    refine lv_icmp_gt (tgt := 156) hx hb dX5_count_141 (by decide) (fun c_15 => absurd c_15 (by decide +kernel)) (fun c_15 => ?_)
    refine lv_aload_n hx hb dX5_count_144 rfl (lv_at hl 0 rfl) ?_
    refine va_get (D := D) (ci := 5) (v := .ref ra) (C := RX5) (T := TX5) (N := 19) hx hb hts hwX5 hown hK hP 0 rfl rfl 0 (by decide) (hts (.fieldLink RX5 1 "WaitOrWalkOnModel" "refused" "[I") (by decide +kernel)) (fun _ h9 => h9) rfl dX5_count_145 ?_
    refine lv_iload_n hx hb dX5_count_148 rfl (lv_at hl 1 rfl) ?_
    refine lv_bipush (v := 10) hx hb dX5_count_149 (by decide) ?_
    refine lv_isub hx hb dX5_count_151 ?_
    refine xv_int (y := 4) (by decide +kernel) ?_
    refine va_iald (D := D) hx hb hK hP 2 0 rfl rfl (by unfold vp_in; decide +kernel) dX5_count_152 ?_
    refine xv_int (y := rf 4) rfl ?_
    refine lv_goto (tgt := 158) hx hb dX5_count_153 (by decide) ?_
    exact W.iret (v := rf 4) hx hb hr (fun t ht hW => ⟨_, rfl, by simp [sCnt], ht⟩) (fun _ h => absurd h List.not_mem_nil) dX5_count_158
  · refine lv_iload_n hx hb dX5_count_0 rfl (lv_at hl 1 rfl) ?_
    refine lv_tableOut (tgt := 132) hx hb dX5_count_1 (by decide +kernel) (by decide) ?_
    refine lv_iload_n hx hb dX5_count_132 rfl (lv_at hl 1 rfl) ?_
    refine lv_bipush (v := 11) hx hb dX5_count_133 (by decide) ?_
    refine lv_icmp_lt (tgt := 156) hx hb dX5_count_135 (by decide) (fun c_16 => absurd c_16 (by decide +kernel)) (fun c_16 => ?_)
    refine lv_iload_n hx hb dX5_count_138 rfl (lv_at hl 1 rfl) ?_
    refine lv_bipush (v := 16) hx hb dX5_count_139 (by decide) ?_
    refine lv_icmp_gt (tgt := 156) hx hb dX5_count_141 (by decide) (fun c_17 => absurd c_17 (by decide +kernel)) (fun c_17 => ?_)
    refine lv_aload_n hx hb dX5_count_144 rfl (lv_at hl 0 rfl) ?_
    refine va_get (D := D) (ci := 5) (v := .ref ra) (C := RX5) (T := TX5) (N := 19) hx hb hts hwX5 hown hK hP 0 rfl rfl 0 (by decide) (hts (.fieldLink RX5 1 "WaitOrWalkOnModel" "refused" "[I") (by decide +kernel)) (fun _ h9 => h9) rfl dX5_count_145 ?_
    refine lv_iload_n hx hb dX5_count_148 rfl (lv_at hl 1 rfl) ?_
    refine lv_bipush (v := 10) hx hb dX5_count_149 (by decide) ?_
    refine lv_isub hx hb dX5_count_151 ?_
    refine xv_int (y := 5) (by decide +kernel) ?_
    refine va_iald (D := D) hx hb hK hP 2 0 rfl rfl (by unfold vp_in; decide +kernel) dX5_count_152 ?_
    refine xv_int (y := rf 5) rfl ?_
    refine lv_goto (tgt := 158) hx hb dX5_count_153 (by decide) ?_
    exact W.iret (v := rf 5) hx hb hr (fun t ht hW => ⟨_, rfl, by simp [sCnt], ht⟩) (fun _ h => absurd h List.not_mem_nil) dX5_count_158
  · refine lv_iload_n hx hb dX5_count_0 rfl (lv_at hl 1 rfl) ?_
    refine lv_tableOut (tgt := 132) hx hb dX5_count_1 (by decide +kernel) (by decide) ?_
    refine lv_iload_n hx hb dX5_count_132 rfl (lv_at hl 1 rfl) ?_
    refine lv_bipush (v := 11) hx hb dX5_count_133 (by decide) ?_
    refine lv_icmp_lt (tgt := 156) hx hb dX5_count_135 (by decide) (fun c_18 => absurd c_18 (by decide +kernel)) (fun c_18 => ?_)
    refine lv_iload_n hx hb dX5_count_138 rfl (lv_at hl 1 rfl) ?_
    refine lv_bipush (v := 16) hx hb dX5_count_139 (by decide) ?_
    refine lv_icmp_gt (tgt := 156) hx hb dX5_count_141 (by decide) (fun c_19 => absurd c_19 (by decide +kernel)) (fun c_19 => ?_)
    refine lv_aload_n hx hb dX5_count_144 rfl (lv_at hl 0 rfl) ?_
    refine va_get (D := D) (ci := 5) (v := .ref ra) (C := RX5) (T := TX5) (N := 19) hx hb hts hwX5 hown hK hP 0 rfl rfl 0 (by decide) (hts (.fieldLink RX5 1 "WaitOrWalkOnModel" "refused" "[I") (by decide +kernel)) (fun _ h9 => h9) rfl dX5_count_145 ?_
    refine lv_iload_n hx hb dX5_count_148 rfl (lv_at hl 1 rfl) ?_
    refine lv_bipush (v := 10) hx hb dX5_count_149 (by decide) ?_
    refine lv_isub hx hb dX5_count_151 ?_
    refine xv_int (y := 6) (by decide +kernel) ?_
    refine va_iald (D := D) hx hb hK hP 2 0 rfl rfl (by unfold vp_in; decide +kernel) dX5_count_152 ?_
    refine xv_int (y := rf 6) rfl ?_
    refine lv_goto (tgt := 158) hx hb dX5_count_153 (by decide) ?_
    exact W.iret (v := rf 6) hx hb hr (fun t ht hW => ⟨_, rfl, by simp [sCnt], ht⟩) (fun _ h => absurd h List.not_mem_nil) dX5_count_158

/-! the reference: what is best, worked out -/
def xTO (nw : Nat → Int32) (lb k : Nat) : Int32 := xSm (fun j => sRd (nw lb) (nw (lb + 1)) (nI j)) k
def x5Fr (nw : Nat → Int32) (lb k m b : Nat) : Nat := xBn (xTO nw lb k) (nI m) (nI b)
theorem x5Fr_le (nw : Nat → Int32) (lb k m b : Nat) : x5Fr nw lb k m b ≤ 12 := xBn_le _ _ _
abbrev xWl (nw : Nat → Int32) (lb t : Nat) : Int32 := xWs (fun i => nw (lb + i)) t
def x5La (st : Nat) (nw : Nat → Int32) (lb : Nat) (y : Nat → Int32) (k m b : Nat) : Int32 :=
  if 60 < nI m then xWs (fun i => nw (lb + i)) (x5Fr nw lb k m b) * (nI m + xRs nw st k) else y ((k * 61 + m) * 13 + x5Fr nw lb k m b)
def x5Of (st : Nat) (nw : Nat → Int32) (lb : Nat) (wn : Nat → Nat) (y : Nat → Int32) (k m b : Nat) : Int32 :=
  if nI k = nI (st - 1) then xWs (fun i => nw (lb + i)) b * (nI m + xRs nw st k)
  else if nI m = 60 then xWs (fun i => nw (lb + i)) b * (nI m + xRs nw st k)
  else (xWs (fun i => nw (lb + i)) b - xWs (fun i => nw (lb + i)) (x5Fr nw lb (k + 1) (m + wn (k + 1)) b)) * (nI m + xRs nw st k) + x5La st nw lb y (k + 1) (m + wn (k + 1)) (x5Fr nw lb (k + 1) (m + wn (k + 1)) b)
def x5Is (nw : Nat → Int32) (lb k m b : Nat) : Int32 := if nI m - xTO nw lb k = nI b then (if nI b < 12 then 1 else 0) else 0
def x5Nx (nw : Nat → Int32) (lb k m b : Nat) : Nat := if x5Is nw lb k m b = 0 then b else b + 1
theorem x5Nx_le {nw : Nat → Int32} {lb k m b : Nat} (h : b ≤ 12) : x5Nx nw lb k m b ≤ 12 := by
  unfold x5Nx
  by_cases q : x5Is nw lb k m b = 0
  · rw [if_pos q]; exact h
  · rw [if_neg q]
    unfold x5Is at q
    by_cases q1 : nI m - xTO nw lb k = nI b
    · rw [if_pos q1] at q
      by_cases q2 : nI b < 12
      · have w := (nI_ltI (a := b) (b := 12) (by omega) (by decide)).mp q2; omega
      · rw [if_neg q2] at q; exact absurd rfl q
    · rw [if_neg q1] at q; exact absurd rfl q
def x5Sm (st : Nat) (nw : Nat → Int32) (lb k m b : Nat) : Int32 :=
  if x5Is nw lb k m b = 0 then 0 else xWt (fun i => nw (lb + i)) b * (if sHalt (nw lb) (nI k) (nI (st - 1)) = 0 then nI m + xRs nw st k else nI b + xTO nw lb (st - 1) + (xLm nw st st + nw 2 - 1) / nw 2)
def x5Wr (st : Nat) (nw : Nat → Int32) (lb : Nat) (wn : Nat → Nat) (y : Nat → Int32) (k m b : Nat) : Int32 :=
  if nI k = nI (st - 1) then x5Sm st nw lb k m b + x5Of st nw lb wn y k m (x5Nx nw lb k m b)
  else if nI m = 60 then x5Sm st nw lb k m b + x5Of st nw lb wn y k m (x5Nx nw lb k m b)
  else x5Sm st nw lb k m b + xMn (x5Of st nw lb wn y k m (x5Nx nw lb k m b)) (x5La st nw lb y k (m + 1) (x5Nx nw lb k m b))
def x5Wk (st : Nat) (nw : Nat → Int32) (lb : Nat) (wn : Nat → Nat) (y : Nat → Int32) (k m b : Nat) : Int32 :=
  if nI k = nI (st - 1) then 1 else if nI m = 60 then 1
  else if x5Of st nw lb wn y k m (x5Nx nw lb k m b) < x5La st nw lb y k (m + 1) (x5Nx nw lb k m b) then 1 else 0
theorem x5W_a {st : Nat} {nw : Nat → Int32} {lb : Nat} {wn : Nat → Nat} {y : Nat → Int32} {k m b : Nat} (h : nI k = nI (st - 1)) : x5Sm st nw lb k m b + x5Of st nw lb wn y k m (x5Nx nw lb k m b) = x5Wr st nw lb wn y k m b ∧ (1 : Int32) = x5Wk st nw lb wn y k m b := ⟨(if_pos h).symm, (if_pos h).symm⟩
theorem x5W_b {st : Nat} {nw : Nat → Int32} {lb : Nat} {wn : Nat → Nat} {y : Nat → Int32} {k m b : Nat} (h : ¬ nI k = nI (st - 1)) (h2 : nI m = 60) : x5Sm st nw lb k m b + x5Of st nw lb wn y k m (x5Nx nw lb k m b) = x5Wr st nw lb wn y k m b ∧ (1 : Int32) = x5Wk st nw lb wn y k m b := ⟨by rw [x5Wr, if_neg h, if_pos h2], by rw [x5Wk, if_neg h, if_pos h2]⟩
theorem x5W_c {st : Nat} {nw : Nat → Int32} {lb : Nat} {wn : Nat → Nat} {y : Nat → Int32} {k m b : Nat} (h : ¬ nI k = nI (st - 1)) (h2 : ¬ nI m = 60) : x5Sm st nw lb k m b + xMn (x5Of st nw lb wn y k m (x5Nx nw lb k m b)) (x5La st nw lb y k (m + 1) (x5Nx nw lb k m b)) = x5Wr st nw lb wn y k m b := by rw [x5Wr, if_neg h, if_neg h2]
theorem x5W_t {st : Nat} {nw : Nat → Int32} {lb : Nat} {wn : Nat → Nat} {y : Nat → Int32} {k m b : Nat} (h : ¬ nI k = nI (st - 1)) (h2 : ¬ nI m = 60) (h3 : x5Of st nw lb wn y k m (x5Nx nw lb k m b) < x5La st nw lb y k (m + 1) (x5Nx nw lb k m b)) : (1 : Int32) = x5Wk st nw lb wn y k m b := by rw [x5Wk, if_neg h, if_neg h2, if_pos h3]
theorem x5W_f {st : Nat} {nw : Nat → Int32} {lb : Nat} {wn : Nat → Nat} {y : Nat → Int32} {k m b : Nat} (h : ¬ nI k = nI (st - 1)) (h2 : ¬ nI m = 60) (h3 : ¬ x5Of st nw lb wn y k m (x5Nx nw lb k m b) < x5La st nw lb y k (m + 1) (x5Nx nw lb k m b)) : (0 : Int32) = x5Wk st nw lb wn y k m b := by rw [x5Wk, if_neg h, if_neg h2, if_neg h3]
def x5Y1 (st : Nat) (nw : Nat → Int32) (lb : Nat) (wn : Nat → Nat) (y : Nat → Int32) (k m b : Nat) : Nat → Nat → Int32
  | 0 => y
  | n + 1 => upd (x5Y1 st nw lb wn y k m b n) ((k * 61 + m) * 13 + (b + n)) (x5Wr st nw lb wn (x5Y1 st nw lb wn y k m b n) k m (b + n))
def x5Y2 (st : Nat) (nw : Nat → Int32) (lb : Nat) (wn : Nat → Nat) (y : Nat → Int32) (k : Nat) : Nat → Nat → Int32
  | 0 => y
  | n + 1 => x5Y1 st nw lb wn (x5Y2 st nw lb wn y k n) k (61 - n - 1) (x5Fs nw lb k (nI (61 - n - 1))) (13 - x5Fs nw lb k (nI (61 - n - 1)))
def x5Y3 (st : Nat) (nw : Nat → Int32) (lb : Nat) (wn : Nat → Nat) (y : Nat → Int32) : Nat → Nat → Int32
  | 0 => y
  | n + 1 => x5Y2 st nw lb wn (x5Y3 st nw lb wn y n) (st - n - 1) 61
theorem x5D_z {cn n : Nat} (hc : cn ≤ 1000) (hn : n ≤ cn) : nI (cn - n) - 1 < 0 ↔ cn = n := by
  have e1 : nI (cn - n) - 1 = nI (cn - n) - nI 1 := rfl
  rw [e1, xi_lt, pk_sub_toInt (by omega) (by decide)]
  have e0 : (0 : Int32).toInt = 0 := by decide
  omega
theorem x5Y1_s {st : Nat} {nw : Nat → Int32} {lb : Nat} {wn : Nat → Nat} {y g : Nat → Int32} {k m b n : Nat} (h : g = x5Y1 st nw lb wn y k m b n) : upd g ((k * 61 + m) * 13 + (b + n)) (x5Wr st nw lb wn g k m (b + n)) = x5Y1 st nw lb wn y k m b (n + 1) := by rw [h]; rfl
def q5Be (ln st : Nat) (a1 a2 a3 : Int32) : Int32 := if sNL ln a1 = 0 then (if sNL st a2 = 0 then (if a3 < 0 then -4 else if 60 < a3 then -6 else 0) else -1) else -1
def q5Bm (ln st : Nat) (a1 a2 a3 a4 : Int32) : Int32 := if sNL ln a1 = 0 then (if sNL st a2 = 0 then (if a3 < 0 then -4 else if 60 < a3 then -6 else if sNP a4 = 0 then 0 else -2) else -1) else -1
def qNw (ln : Nat) (a1 a2 : Int32) : Int32 := if sNL ln a1 = 0 then (if sNP a2 = 0 then 0 else -2) else -1

set_option maxHeartbeats 4000000 in
set_option maxRecDepth 100000 in
theorem g_X5_cell (l : Launch) (D : va_G) (cI cL cZ cC : ClassId) (g0 : Nat) (ra : Nat) (wa : Nat) (ta : Nat) (ma : Nat) (pa : Nat) (ba : Nat) (ka : Nat) (fa : Nat) (qa : Nat) (ea : Nat) (za : Nat) (ya : Nat) (kpt : Int32) (mkd : Int32) (tpd : Int32) (at0 : Int32) (wel : Int32) (srt : Int32) (wks : Int32) (q0 : Nat) (m0 : Nat) (b0 : Nat)  : Met l yX5_cell wsX5_cell ({ frames := 0, cells := 0, slots := 0, locals := 0 } : Room) (xPc D [.ref g0, .int (nI q0), .int (nI m0), .int (nI b0)] [(g0, .inr (5, [.ref ra, .ref wa, .ref ta, .int kpt, .ref ma, .int mkd, .ref pa, .int tpd, .int at0, .int wel, .ref ba, .ref ka, .int srt, .ref fa, .ref qa, .ref ea, .ref za, .ref ya, .int wks]))] (xTy cI cL cZ cC)) (vp_Si (fun r : Int32 => r = nI ((q0 * 61 + m0) * 13 + b0))) 0 0 (fun _ => False) := by
  refine Met.ofW (cc := cX5_cell) (maxL := 4) (ret := (some .int)) (by decide) rfl ?_
  intro p e s m args below meth c s₁ B hml hv
  obtain ⟨rfl, hP, hK⟩ := hv
  have hx := B.exec
  have hb := B.bytes
  have hr := B.returns
  have hts := atoms_spec (ws := wsX5_cell) B.pre
  have hown : s.vm.findClass RX5 = some m.cls := findClass_of_methodNamed B.named
  have hlocks := B.notSynchronized
  have hl := lv_entry ([.ref g0, .int (nI q0), .int (nI m0), .int (nI b0)]) (n := 4) (Nat.le_of_ble_eq_true rfl)
  rw [lg_entry_eq]
  generalize (lg_sl ([.ref g0, .int (nI q0), .int (nI m0), .int (nI b0)]) ++ List.replicate (4 - (lg_sl ([.ref g0, .int (nI q0), .int (nI m0), .int (nI b0)])).length) Slot.unset).toArray = ls at hl ⊢
  have hl : lv_has ls 4 [(0, .ref g0), (1, .int (nI q0)), (2, .int (nI m0)), (3, .int (nI b0))] := hl
  refine lv_iload_n hx hb dX5_cell_0 rfl (lv_at hl 1 rfl) ?_
  refine lv_bipush (v := 61) hx hb dX5_cell_1 (by decide) ?_
  refine lv_imul hx hb dX5_cell_3 ?_
  refine lv_iload_n hx hb dX5_cell_4 rfl (lv_at hl 2 rfl) ?_
  refine lv_iadd hx hb dX5_cell_5 ?_
  refine lv_bipush (v := 13) hx hb dX5_cell_6 (by decide) ?_
  refine lv_imul hx hb dX5_cell_8 ?_
  refine lv_iload_n hx hb dX5_cell_9 rfl (lv_at hl 3 rfl) ?_
  refine lv_iadd hx hb dX5_cell_10 ?_
  refine xv_int (y := nI ((q0 * 61 + m0) * 13 + b0)) (pk_idx q0 m0 b0) ?_
  exact W.iret (v := nI ((q0 * 61 + m0) * 13 + b0)) hx hb hr (fun t ht hW => ⟨_, rfl, rfl, ht⟩) (fun _ h => absurd h List.not_mem_nil) dX5_cell_11

set_option maxHeartbeats 4000000 in
set_option maxRecDepth 100000 in
theorem g_X5_later (l : Launch) (D : va_G) (cI cL cZ cC : ClassId) (g0 : Nat) (ra : Nat) (wa : Nat) (ta : Nat) (ma : Nat) (pa : Nat) (ba : Nat) (ka : Nat) (fa : Nat) (qa : Nat) (ea : Nat) (za : Nat) (ya : Nat) (kpt : Int32) (mkd : Int32) (tpd : Int32) (at0 : Int32) (wel : Int32) (srt : Int32) (wks : Int32) (st : Nat) (nw : Nat → Int32) (a0 : Nat) (j0 : Nat) (m0 : Nat) (b0 : Nat) (y : Nat → Int32) (hn0 : nw 0 = nI st) (hs1 : 1 ≤ st) (hs7 : st ≤ 7) (ha : a0 ≤ 2) (hq2 : ¬ nw 2 = 0) (hjs : j0 < st) (hm0 : m0 ≤ 2000) (hb0 : b0 ≤ 12) : Met l yX5_later wsX5_later ({ frames := 3, cells := 0, slots := 0, locals := 66 } : Room) (xPc D [.ref g0, .int (nI a0), .int (nI j0), .int (nI m0), .int (nI b0)] [(g0, .inr (5, [.ref ra, .ref wa, .ref ta, .int kpt, .ref ma, .int mkd, .ref pa, .int tpd, .int at0, .int wel, .ref ba, .ref ka, .int srt, .ref fa, .ref qa, .ref ea, .ref za, .ref ya, .int wks])), (wa, .inl (cI, 70, .inl nw)), (ya, .inl (cI, 5600, .inl y))] (xTy cI cL cZ cC)) (vp_Si (fun r : Int32 => r = x5La st nw (20 + 16 * a0) y j0 m0 b0)) 0 0 (fun _ => False) := by
  refine Met.ofW (cc := cX5_later) (maxL := 6) (ret := (some .int)) (by decide) rfl ?_
  intro p e s m args below meth c s₁ B hml hv
  obtain ⟨rfl, hP, hK⟩ := hv
  have hx := B.exec
  have hb := B.bytes
  have hr := B.returns
  have hts := atoms_spec (ws := wsX5_later) B.pre
  have hown : s.vm.findClass RX5 = some m.cls := findClass_of_methodNamed B.named
  have hlocks := B.notSynchronized
  have hwX5 : ∀ w ∈ u_ws RX5 TX5 19, w ∈ wsX5_later := fun _ h => List.mem_cons_of_mem _ (List.mem_append_right _ h)
  have hl := lv_entry ([.ref g0, .int (nI a0), .int (nI j0), .int (nI m0), .int (nI b0)]) (n := 6) (Nat.le_of_ble_eq_true rfl)
  rw [lg_entry_eq]
  generalize (lg_sl ([.ref g0, .int (nI a0), .int (nI j0), .int (nI m0), .int (nI b0)]) ++ List.replicate (6 - (lg_sl ([.ref g0, .int (nI a0), .int (nI j0), .int (nI m0), .int (nI b0)])).length) Slot.unset).toArray = ls at hl ⊢
  have hl : lv_has ls 6 [(0, .ref g0), (1, .int (nI a0)), (2, .int (nI j0)), (3, .int (nI m0)), (4, .int (nI b0))] := hl
  refine lv_bipush (v := 12) hx hb dX5_later_0 (by decide) ?_
  refine lv_iload hx hb dX5_later_2 (lv_at hl 4 rfl) ?_
  refine lv_iload_n hx hb dX5_later_4 rfl (lv_at hl 3 rfl) ?_
  refine lv_aload_n hx hb dX5_later_5 rfl (lv_at hl 0 rfl) ?_
  refine lv_iload_n hx hb dX5_later_6 rfl (lv_at hl 1 rfl) ?_
  refine lv_iload_n hx hb dX5_later_7 rfl (lv_at hl 2 rfl) ?_
  have hPc := hP.sub (ws' := [(g0, .inr (5, [.ref ra, .ref wa, .ref ta, .int kpt, .ref ma, .int mkd, .ref pa, .int tpd, .int at0, .int wel, .ref ba, .ref ka, .int srt, .ref fa, .ref qa, .ref ea, .ref za, .ref ya, .int wks])), (wa, .inl (cI, 70, .inl nw))]) [0, 1] rfl
  refine vp_callSi (va_Run.run (va_runV (As := [.int (nI a0), .int (nI j0)]) (rest := [.int (nI m0), .int (nI b0), .int 12]) ⟨hx, hb, hml, hown, hts⟩ (g_X5_to l D cI cL cZ cC g0 ra wa ta ma pa ba ka fa qa ea za ya kpt mkd tpd at0 wel srt wks st nw a0 j0 (by first | assumption | decide +kernel) (by first | assumption | decide +kernel) (by first | assumption | decide +kernel) (by omega) (by omega)) (cwV 2 hts gX5_later_X5_to rfl rfl rfl (by decide +kernel) ⟨Nat.le_of_ble_eq_true rfl, Nat.le_of_ble_eq_true rfl⟩) ⟨xPc_bl, va_recv hK hPc (ci := 5) (q0 := 0) rfl rfl, xPc_use hPc hK⟩ rfl rfl hl.1 rfl (lv_room (Nat.le_of_ble_eq_true rfl)) dX5_later_8 ⟨Nat.le_of_ble_eq_true rfl, Nat.le_of_ble_eq_true rfl⟩)) (fun r_1 er_1 => ?_)
  obtain rfl : (xSm (fun i => sRd (nw (20 + 16 * a0)) (nw (20 + 16 * a0 + 1)) (nI i)) j0 : Int32) = r_1 := Eq.symm er_1
  refine xv_int (y := xTO nw (20 + 16 * a0) j0) (rfl) ?_
  refine lv_isub hx hb dX5_later_11 ?_
  refine va_mmax hx hb (hml.trans hl.1.symm) hown (hts (.methodLink RX5 152 Lib.Math.max.name) (by decide +kernel)) (hts (.static Lib.Math.max.name) (by decide +kernel)) (hts (.initialized "java/lang/Math") (by decide +kernel)) (hts (.code Lib.Math.max.name Lib.Math.max.code 2 (some .int)) (by decide +kernel)) (Nat.le_of_ble_eq_true rfl) (Nat.le_of_ble_eq_true rfl) (Nat.le_of_ble_eq_true rfl) (Nat.le_of_ble_eq_true rfl) dX5_later_12 ?_
  refine va_mmin hx hb (hml.trans hl.1.symm) hown (hts (.methodLink RX5 157 Lib.Math.min.name) (by decide +kernel)) (hts (.static Lib.Math.min.name) (by decide +kernel)) (hts (.initialized "java/lang/Math") (by decide +kernel)) (hts (.code Lib.Math.min.name Lib.Math.min.code 2 (some .int)) (by decide +kernel)) (Nat.le_of_ble_eq_true rfl) (Nat.le_of_ble_eq_true rfl) (Nat.le_of_ble_eq_true rfl) (Nat.le_of_ble_eq_true rfl) dX5_later_15 ?_
  refine xv_int (y := nI (x5Fr nw (20 + 16 * a0) j0 (m0) (b0))) (xBd_n (le := nI b0) (xNn (by omega))) ?_
  refine lv_istore (lv' := [(5, .int (nI (x5Fr nw (20 + 16 * a0) j0 (m0) (b0)))), (0, .ref g0), (1, .int (nI a0)), (2, .int (nI j0)), (3, .int (nI m0)), (4, .int (nI b0))]) hx hb dX5_later_18 hl (by decide) rfl (fun ls hl => ?_)
  refine lv_iload_n hx hb dX5_later_20 rfl (lv_at hl 4 rfl) ?_
  refine lv_bipush (v := 60) hx hb dX5_later_21 (by decide) ?_
  refine lv_icmp_le (tgt := 44) hx hb dX5_later_23 (by decide) (fun c_2 => ?_) (fun c_2 => ?_)
  · refine lv_aload_n hx hb dX5_later_44 rfl (lv_at hl 1 rfl) ?_
    refine va_get (D := D) (ci := 5) (v := .ref ya) (C := RX5) (T := TX5) (N := 19) hx hb hts hwX5 hown hK hP 0 rfl rfl 17 (by decide) (hts (.fieldLink RX5 50 "WaitOrWalkOnModel" "value" "[I") (by decide +kernel)) (fun _ h9 => h9) rfl dX5_later_45 ?_
    refine lv_aload_n hx hb dX5_later_48 rfl (lv_at hl 1 rfl) ?_
    refine lv_iload_n hx hb dX5_later_49 rfl (lv_at hl 3 rfl) ?_
    refine lv_iload_n hx hb dX5_later_50 rfl (lv_at hl 4 rfl) ?_
    refine lv_iload hx hb dX5_later_51 (lv_at hl 0 rfl) ?_
    have hPc := hP.sub (ws' := [(g0, .inr (5, [.ref ra, .ref wa, .ref ta, .int kpt, .ref ma, .int mkd, .ref pa, .int tpd, .int at0, .int wel, .ref ba, .ref ka, .int srt, .ref fa, .ref qa, .ref ea, .ref za, .ref ya, .int wks]))]) [0] rfl
    refine vp_callSi (va_Run.run (va_runV (As := [.int (nI j0), .int (nI m0), .int (nI (x5Fr nw (20 + 16 * a0) j0 (m0) (b0)))]) (rest := [.ref ya]) ⟨hx, hb, hml, hown, hts⟩ (g_X5_cell l D cI cL cZ cC g0 ra wa ta ma pa ba ka fa qa ea za ya kpt mkd tpd at0 wel srt wks j0 m0 (x5Fr nw (20 + 16 * a0) j0 (m0) (b0)) ) (cwV 3 hts gX5_later_X5_cell rfl rfl rfl (by decide +kernel) ⟨Nat.le_of_ble_eq_true rfl, Nat.le_of_ble_eq_true rfl⟩) ⟨xPc_bl, va_recv hK hPc (ci := 5) (q0 := 0) rfl rfl, xPc_use hPc hK⟩ rfl rfl hl.1 rfl (lv_room (Nat.le_of_ble_eq_true rfl)) dX5_later_53 ⟨Nat.le_of_ble_eq_true rfl, Nat.le_of_ble_eq_true rfl⟩)) (fun r_3 er_3 => ?_)
    obtain rfl : (nI ((j0 * 61 + m0) * 13 + (x5Fr nw (20 + 16 * a0) j0 (m0) (b0))) : Int32) = r_3 := Eq.symm er_3
    refine va_iald (D := D) hx hb hK hP 2 0 rfl rfl (vp_in_nI (by have w6 := mt (nI_ltI (a := 60) (b := m0) (by decide) (by omega)).mpr (Int32.not_lt.mpr c_2); have w7 := x5Fr_le nw (20 + 16 * a0) j0 m0 b0; omega) (by decide)) dX5_later_56 ?_
    refine xv_int (y := y ((j0 * 61 + m0) * 13 + x5Fr nw (20 + 16 * a0) j0 (m0) (b0))) (congrArg y (nI_clamp (by have w6 := mt (nI_ltI (a := 60) (b := m0) (by decide) (by omega)).mpr (Int32.not_lt.mpr c_2); have w7 := x5Fr_le nw (20 + 16 * a0) j0 m0 b0; omega))) ?_
    exact W.iret (v := y ((j0 * 61 + m0) * 13 + x5Fr nw (20 + 16 * a0) j0 (m0) (b0))) hx hb hr (fun t ht hW => ⟨_, rfl, (by rw [x5La, if_neg (Int32.not_lt.mpr c_2)]), ht⟩) (fun _ h => absurd h List.not_mem_nil) dX5_later_57
  · refine lv_aload_n hx hb dX5_later_26 rfl (lv_at hl 1 rfl) ?_
    refine lv_iload_n hx hb dX5_later_27 rfl (lv_at hl 2 rfl) ?_
    refine lv_iload hx hb dX5_later_28 (lv_at hl 0 rfl) ?_
    have hPc := hP.sub (ws' := [(g0, .inr (5, [.ref ra, .ref wa, .ref ta, .int kpt, .ref ma, .int mkd, .ref pa, .int tpd, .int at0, .int wel, .ref ba, .ref ka, .int srt, .ref fa, .ref qa, .ref ea, .ref za, .ref ya, .int wks])), (wa, .inl (cI, 70, .inl nw))]) [0, 1] rfl
    refine vp_callSi (va_Run.run (va_runV (As := [.int (nI a0), .int (nI (x5Fr nw (20 + 16 * a0) j0 (m0) (b0)))]) (rest := []) ⟨hx, hb, hml, hown, hts⟩ (g_X5_weights l D cI cL cZ cC g0 ra wa ta ma pa ba ka fa qa ea za ya kpt mkd tpd at0 wel srt wks st nw a0 (x5Fr nw (20 + 16 * a0) j0 (m0) (b0)) (by first | assumption | decide +kernel) (by first | assumption | decide +kernel) (by first | assumption | decide +kernel) (by omega) (x5Fr_le _ _ _ _ _)) (cwV 2 hts gX5_later_X5_weights rfl rfl rfl (by decide +kernel) ⟨Nat.le_of_ble_eq_true rfl, Nat.le_of_ble_eq_true rfl⟩) ⟨xPc_bl, va_recv hK hPc (ci := 5) (q0 := 0) rfl rfl, xPc_use hPc hK⟩ rfl rfl hl.1 rfl (lv_room (Nat.le_of_ble_eq_true rfl)) dX5_later_30 ⟨Nat.le_of_ble_eq_true rfl, Nat.le_of_ble_eq_true rfl⟩)) (fun r_4 er_4 => ?_)
    obtain rfl : (xWs (fun i => nw (20 + 16 * a0 + i)) (x5Fr nw (20 + 16 * a0) j0 (m0) (b0)) : Int32) = r_4 := Eq.symm er_4
    refine lv_iload_n hx hb dX5_later_33 rfl (lv_at hl 4 rfl) ?_
    refine lv_aload_n hx hb dX5_later_34 rfl (lv_at hl 1 rfl) ?_
    refine lv_iload_n hx hb dX5_later_35 rfl (lv_at hl 3 rfl) ?_
    have hPc := hP.sub (ws' := [(g0, .inr (5, [.ref ra, .ref wa, .ref ta, .int kpt, .ref ma, .int mkd, .ref pa, .int tpd, .int at0, .int wel, .ref ba, .ref ka, .int srt, .ref fa, .ref qa, .ref ea, .ref za, .ref ya, .int wks])), (wa, .inl (cI, 70, .inl nw))]) [0, 1] rfl
    refine vp_callSi (va_Run.run (va_runV (As := [.int (nI j0)]) (rest := [.int (nI m0), .int (xWs (fun i => nw (20 + 16 * a0 + i)) (x5Fr nw (20 + 16 * a0) j0 (m0) (b0)))]) ⟨hx, hb, hml, hown, hts⟩ (g_X5_rest l D cI cL cZ cC g0 ra wa ta ma pa ba ka fa qa ea za ya kpt mkd tpd at0 wel srt wks st nw j0 (by first | assumption | decide +kernel) (by first | assumption | decide +kernel) (by first | assumption | decide +kernel) (by omega) (hq2)) (cwV 1 hts gX5_later_X5_rest rfl rfl rfl (by decide +kernel) ⟨Nat.le_of_ble_eq_true rfl, Nat.le_of_ble_eq_true rfl⟩) ⟨xPc_bl, va_recv hK hPc (ci := 5) (q0 := 0) rfl rfl, xPc_use hPc hK⟩ rfl rfl hl.1 rfl (lv_room (Nat.le_of_ble_eq_true rfl)) dX5_later_36 ⟨Nat.le_of_ble_eq_true rfl, Nat.le_of_ble_eq_true rfl⟩)) (fun r_5 er_5 => ?_)
    obtain rfl : (xRs nw st j0 : Int32) = r_5 := Eq.symm er_5
    refine lv_iadd hx hb dX5_later_39 ?_
    refine lv_imul hx hb dX5_later_40 ?_
    refine lv_goto (tgt := 57) hx hb dX5_later_41 (by decide) ?_
    exact W.iret (v := (xWs (fun i => nw (20 + 16 * a0 + i)) (x5Fr nw (20 + 16 * a0) j0 (m0) (b0))) * ((nI m0) + (xRs nw st j0))) hx hb hr (fun t ht hW => ⟨_, rfl, (by rw [x5La, if_pos (Int32.not_le.mp c_2)]), ht⟩) (fun _ h => absurd h List.not_mem_nil) dX5_later_57

set_option maxHeartbeats 4000000 in
set_option maxRecDepth 100000 in
theorem g_X5_onFoot (l : Launch) (D : va_G) (cI cL cZ cC : ClassId) (g0 : Nat) (ra : Nat) (wa : Nat) (ta : Nat) (ma : Nat) (pa : Nat) (ba : Nat) (ka : Nat) (fa : Nat) (qa : Nat) (ea : Nat) (za : Nat) (ya : Nat) (kpt : Int32) (mkd : Int32) (tpd : Int32) (at0 : Int32) (wel : Int32) (srt : Int32) (wks : Int32) (st : Nat) (nw : Nat → Int32) (a0 : Nat) (wn : Nat → Nat) (j0 : Nat) (m0 : Nat) (b0 : Nat) (y : Nat → Int32) (hn0 : nw 0 = nI st) (hs1 : 1 ≤ st) (hs7 : st ≤ 7) (ha : a0 ≤ 2) (hq2 : ¬ nw 2 = 0) (hwn : ∀ j, 1 ≤ j → j ≤ st → (xLm nw st j + nw 2 - 1) / nw 2 = nI (wn j) ∧ wn j ≤ 1000) (hjs : j0 < st) (hm0 : m0 ≤ 60) (hb0 : b0 ≤ 12) : Met l yX5_onFoot wsX5_onFoot ({ frames := 4, cells := 0, slots := 0, locals := 91 } : Room) (xPc D [.ref g0, .int (nI a0), .int (nI j0), .int (nI m0), .int (nI b0)] [(g0, .inr (5, [.ref ra, .ref wa, .ref ta, .int kpt, .ref ma, .int mkd, .ref pa, .int tpd, .int at0, .int wel, .ref ba, .ref ka, .int srt, .ref fa, .ref qa, .ref ea, .ref za, .ref ya, .int wks])), (wa, .inl (cI, 70, .inl nw)), (ya, .inl (cI, 5600, .inl y))] (xTy cI cL cZ cC)) (vp_Si (fun r : Int32 => r = x5Of st nw (20 + 16 * a0) wn y j0 m0 b0)) 0 0 (fun _ => False) := by
  refine Met.ofW (cc := cX5_onFoot) (maxL := 8) (ret := (some .int)) (by decide) rfl ?_
  intro p e s m args below meth c s₁ B hml hv
  obtain ⟨rfl, hP, hK⟩ := hv
  have hx := B.exec
  have hb := B.bytes
  have hr := B.returns
  have hts := atoms_spec (ws := wsX5_onFoot) B.pre
  have hown : s.vm.findClass RX5 = some m.cls := findClass_of_methodNamed B.named
  have hlocks := B.notSynchronized
  have hwX5 : ∀ w ∈ u_ws RX5 TX5 19, w ∈ wsX5_onFoot := fun _ h => List.mem_cons_of_mem _ (List.mem_append_right _ h)
  have hl := lv_entry ([.ref g0, .int (nI a0), .int (nI j0), .int (nI m0), .int (nI b0)]) (n := 8) (Nat.le_of_ble_eq_true rfl)
  rw [lg_entry_eq]
  generalize (lg_sl ([.ref g0, .int (nI a0), .int (nI j0), .int (nI m0), .int (nI b0)]) ++ List.replicate (8 - (lg_sl ([.ref g0, .int (nI a0), .int (nI j0), .int (nI m0), .int (nI b0)])).length) Slot.unset).toArray = ls at hl ⊢
  have hl : lv_has ls 8 [(0, .ref g0), (1, .int (nI a0)), (2, .int (nI j0)), (3, .int (nI m0)), (4, .int (nI b0))] := hl
  refine lv_iload_n hx hb dX5_onFoot_0 rfl (lv_at hl 3 rfl) ?_
  refine lv_aload_n hx hb dX5_onFoot_1 rfl (lv_at hl 0 rfl) ?_
  refine lv_iload_n hx hb dX5_onFoot_2 rfl (lv_at hl 2 rfl) ?_
  have hPc := hP.sub (ws' := [(g0, .inr (5, [.ref ra, .ref wa, .ref ta, .int kpt, .ref ma, .int mkd, .ref pa, .int tpd, .int at0, .int wel, .ref ba, .ref ka, .int srt, .ref fa, .ref qa, .ref ea, .ref za, .ref ya, .int wks])), (wa, .inl (cI, 70, .inl nw))]) [0, 1] rfl
  refine vp_callSi (va_Run.run (va_runV (As := [.int (nI j0)]) (rest := [.int (nI m0)]) ⟨hx, hb, hml, hown, hts⟩ (g_X5_rest l D cI cL cZ cC g0 ra wa ta ma pa ba ka fa qa ea za ya kpt mkd tpd at0 wel srt wks st nw j0 (by first | assumption | decide +kernel) (by first | assumption | decide +kernel) (by first | assumption | decide +kernel) (by omega) (hq2)) (cwV 1 hts gX5_onFoot_X5_rest rfl rfl rfl (by decide +kernel) ⟨Nat.le_of_ble_eq_true rfl, Nat.le_of_ble_eq_true rfl⟩) ⟨xPc_bl, va_recv hK hPc (ci := 5) (q0 := 0) rfl rfl, xPc_use hPc hK⟩ rfl rfl hl.1 rfl (lv_room (Nat.le_of_ble_eq_true rfl)) dX5_onFoot_3 ⟨Nat.le_of_ble_eq_true rfl, Nat.le_of_ble_eq_true rfl⟩)) (fun r_1 er_1 => ?_)
  obtain rfl : (xRs nw st j0 : Int32) = r_1 := Eq.symm er_1
  refine lv_iadd hx hb dX5_onFoot_6 ?_
  refine lv_istore (lv' := [(5, .int ((nI m0) + (xRs nw st j0))), (0, .ref g0), (1, .int (nI a0)), (2, .int (nI j0)), (3, .int (nI m0)), (4, .int (nI b0))]) hx hb dX5_onFoot_7 hl (by decide) rfl (fun ls hl => ?_)
  refine lv_iload_n hx hb dX5_onFoot_9 rfl (lv_at hl 3 rfl) ?_
  refine lv_aload_n hx hb dX5_onFoot_10 rfl (lv_at hl 1 rfl) ?_
  refine va_get (D := D) (ci := 5) (v := .ref wa) (C := RX5) (T := TX5) (N := 19) hx hb hts hwX5 hown hK hP 0 rfl rfl 1 (by decide) (hts (.fieldLink RX5 19 "WaitOrWalkOnModel" "now" "[I") (by decide +kernel)) (fun _ h9 => h9) rfl dX5_onFoot_11 ?_
  refine lv_iconst (v := 0) hx hb dX5_onFoot_14 (by decide) ?_
  refine va_iald (D := D) hx hb hK hP 1 0 rfl rfl (by unfold vp_in; decide +kernel) dX5_onFoot_15 ?_
  refine xv_int (y := nw 0) rfl ?_
  refine xv_int (y := nI st) (hn0) ?_
  refine lv_iconst (v := 1) hx hb dX5_onFoot_16 (by decide) ?_
  refine lv_isub hx hb dX5_onFoot_17 ?_
  refine xv_int (y := nI (st - 1)) (pk_sub hs1) ?_
  refine lv_icmp_eq (tgt := 27) hx hb dX5_onFoot_18 (by decide) (fun c_2 => ?_) (fun c_2 => ?_)
  · refine lv_aload_n hx hb dX5_onFoot_27 rfl (lv_at hl 1 rfl) ?_
    refine lv_iload_n hx hb dX5_onFoot_28 rfl (lv_at hl 2 rfl) ?_
    refine lv_iload hx hb dX5_onFoot_29 (lv_at hl 5 rfl) ?_
    have hPc := hP.sub (ws' := [(g0, .inr (5, [.ref ra, .ref wa, .ref ta, .int kpt, .ref ma, .int mkd, .ref pa, .int tpd, .int at0, .int wel, .ref ba, .ref ka, .int srt, .ref fa, .ref qa, .ref ea, .ref za, .ref ya, .int wks])), (wa, .inl (cI, 70, .inl nw))]) [0, 1] rfl
    refine vp_callSi (va_Run.run (va_runV (As := [.int (nI a0), .int (nI b0)]) (rest := []) ⟨hx, hb, hml, hown, hts⟩ (g_X5_weights l D cI cL cZ cC g0 ra wa ta ma pa ba ka fa qa ea za ya kpt mkd tpd at0 wel srt wks st nw a0 b0 (by first | assumption | decide +kernel) (by first | assumption | decide +kernel) (by first | assumption | decide +kernel) (by omega) (by omega)) (cwV 2 hts gX5_onFoot_X5_weights rfl rfl rfl (by decide +kernel) ⟨Nat.le_of_ble_eq_true rfl, Nat.le_of_ble_eq_true rfl⟩) ⟨xPc_bl, va_recv hK hPc (ci := 5) (q0 := 0) rfl rfl, xPc_use hPc hK⟩ rfl rfl hl.1 rfl (lv_room (Nat.le_of_ble_eq_true rfl)) dX5_onFoot_31 ⟨Nat.le_of_ble_eq_true rfl, Nat.le_of_ble_eq_true rfl⟩)) (fun r_3 er_3 => ?_)
    obtain rfl : (xWs (fun i => nw (20 + 16 * a0 + i)) b0 : Int32) = r_3 := Eq.symm er_3
    refine lv_iload hx hb dX5_onFoot_34 (lv_at hl 0 rfl) ?_
    refine lv_imul hx hb dX5_onFoot_36 ?_
    exact W.iret (v := (xWs (fun i => nw (20 + 16 * a0 + i)) b0) * ((nI m0) + (xRs nw st j0))) hx hb hr (fun t ht hW => ⟨_, rfl, (by rw [x5Of, if_pos c_2]), ht⟩) (fun _ h => absurd h List.not_mem_nil) dX5_onFoot_37
  · refine lv_iload_n hx hb dX5_onFoot_21 rfl (lv_at hl 4 rfl) ?_
    refine lv_bipush (v := 60) hx hb dX5_onFoot_22 (by decide) ?_
    refine lv_icmp_ne (tgt := 38) hx hb dX5_onFoot_24 (by decide) (fun c_4 => ?_) (fun c_4 => ?_)
    · refine lv_iload_n hx hb dX5_onFoot_38 rfl (lv_at hl 4 rfl) ?_
      refine lv_aload_n hx hb dX5_onFoot_39 rfl (lv_at hl 1 rfl) ?_
      refine lv_iload_n hx hb dX5_onFoot_40 rfl (lv_at hl 3 rfl) ?_
      refine lv_iconst (v := 1) hx hb dX5_onFoot_41 (by decide) ?_
      refine lv_iadd hx hb dX5_onFoot_42 ?_
      refine xv_int (y := nI (j0 + 1)) (nI_1 j0) ?_
      refine lv_aload_n hx hb dX5_onFoot_43 rfl (lv_at hl 1 rfl) ?_
      refine va_get (D := D) (ci := 5) (v := .ref wa) (C := RX5) (T := TX5) (N := 19) hx hb hts hwX5 hown hK hP 0 rfl rfl 1 (by decide) (hts (.fieldLink RX5 19 "WaitOrWalkOnModel" "now" "[I") (by decide +kernel)) (fun _ h9 => h9) rfl dX5_onFoot_44 ?_
      refine lv_iconst (v := 2) hx hb dX5_onFoot_47 (by decide) ?_
      refine va_iald (D := D) hx hb hK hP 1 0 rfl rfl (by unfold vp_in; decide +kernel) dX5_onFoot_48 ?_
      refine xv_int (y := nw 2) rfl ?_
      have hPc := hP.sub (ws' := [(g0, .inr (5, [.ref ra, .ref wa, .ref ta, .int kpt, .ref ma, .int mkd, .ref pa, .int tpd, .int at0, .int wel, .ref ba, .ref ka, .int srt, .ref fa, .ref qa, .ref ea, .ref za, .ref ya, .int wks])), (wa, .inl (cI, 70, .inl nw))]) [0, 1] rfl
      refine vp_callSi (va_Run.run (va_runV (As := [.int (nI (j0 + 1)), .int (nw 2)]) (rest := [.int (nI m0)]) ⟨hx, hb, hml, hown, hts⟩ (g_X5_leg l D cI cL cZ cC g0 ra wa ta ma pa ba ka fa qa ea za ya kpt mkd tpd at0 wel srt wks st nw (j0 + 1) (nw 2) (by first | assumption | decide +kernel) (by first | assumption | decide +kernel) (by first | assumption | decide +kernel) (by omega) (hq2)) (cwV 2 hts gX5_onFoot_X5_leg rfl rfl rfl (by decide +kernel) ⟨Nat.le_of_ble_eq_true rfl, Nat.le_of_ble_eq_true rfl⟩) ⟨xPc_bl, va_recv hK hPc (ci := 5) (q0 := 0) rfl rfl, xPc_use hPc hK⟩ rfl rfl hl.1 rfl (lv_room (Nat.le_of_ble_eq_true rfl)) dX5_onFoot_49 ⟨Nat.le_of_ble_eq_true rfl, Nat.le_of_ble_eq_true rfl⟩)) (fun r_5 er_5 => ?_)
      obtain rfl : ((xLm nw st (j0 + 1) + (nw 2) - 1) / (nw 2) : Int32) = r_5 := Eq.symm er_5
      refine xv_int (y := nI (wn (j0 + 1))) ((hwn (j0 + 1) (by omega) (by omega)).1) ?_
      refine lv_iadd hx hb dX5_onFoot_52 ?_
      refine xv_int (y := nI (m0 + wn (j0 + 1))) (nI_add _ _) ?_
      refine lv_istore (lv' := [(6, .int (nI (m0 + wn (j0 + 1)))), (5, .int ((nI m0) + (xRs nw st j0))), (0, .ref g0), (1, .int (nI a0)), (2, .int (nI j0)), (3, .int (nI m0)), (4, .int (nI b0))]) hx hb dX5_onFoot_53 hl (by decide) rfl (fun ls hl => ?_)
      refine lv_bipush (v := 12) hx hb dX5_onFoot_55 (by decide) ?_
      refine lv_iload hx hb dX5_onFoot_57 (lv_at hl 6 rfl) ?_
      refine lv_iload hx hb dX5_onFoot_59 (lv_at hl 0 rfl) ?_
      refine lv_aload_n hx hb dX5_onFoot_61 rfl (lv_at hl 2 rfl) ?_
      refine lv_iload_n hx hb dX5_onFoot_62 rfl (lv_at hl 3 rfl) ?_
      refine lv_iload_n hx hb dX5_onFoot_63 rfl (lv_at hl 4 rfl) ?_
      refine lv_iconst (v := 1) hx hb dX5_onFoot_64 (by decide) ?_
      refine lv_iadd hx hb dX5_onFoot_65 ?_
      refine xv_int (y := nI (j0 + 1)) (nI_1 j0) ?_
      have hPc := hP.sub (ws' := [(g0, .inr (5, [.ref ra, .ref wa, .ref ta, .int kpt, .ref ma, .int mkd, .ref pa, .int tpd, .int at0, .int wel, .ref ba, .ref ka, .int srt, .ref fa, .ref qa, .ref ea, .ref za, .ref ya, .int wks])), (wa, .inl (cI, 70, .inl nw))]) [0, 1] rfl
      refine vp_callSi (va_Run.run (va_runV (As := [.int (nI a0), .int (nI (j0 + 1))]) (rest := [.int (nI (m0 + wn (j0 + 1))), .int (nI b0), .int 12]) ⟨hx, hb, hml, hown, hts⟩ (g_X5_to l D cI cL cZ cC g0 ra wa ta ma pa ba ka fa qa ea za ya kpt mkd tpd at0 wel srt wks st nw a0 (j0 + 1) (by first | assumption | decide +kernel) (by first | assumption | decide +kernel) (by first | assumption | decide +kernel) (by omega) (by omega)) (cwV 2 hts gX5_onFoot_X5_to rfl rfl rfl (by decide +kernel) ⟨Nat.le_of_ble_eq_true rfl, Nat.le_of_ble_eq_true rfl⟩) ⟨xPc_bl, va_recv hK hPc (ci := 5) (q0 := 0) rfl rfl, xPc_use hPc hK⟩ rfl rfl hl.1 rfl (lv_room (Nat.le_of_ble_eq_true rfl)) dX5_onFoot_66 ⟨Nat.le_of_ble_eq_true rfl, Nat.le_of_ble_eq_true rfl⟩)) (fun r_6 er_6 => ?_)
      obtain rfl : (xSm (fun i => sRd (nw (20 + 16 * a0)) (nw (20 + 16 * a0 + 1)) (nI i)) (j0 + 1) : Int32) = r_6 := Eq.symm er_6
      refine xv_int (y := xTO nw (20 + 16 * a0) (j0 + 1)) (rfl) ?_
      refine lv_isub hx hb dX5_onFoot_69 ?_
      refine va_mmax hx hb (hml.trans hl.1.symm) hown (hts (.methodLink RX5 152 Lib.Math.max.name) (by decide +kernel)) (hts (.static Lib.Math.max.name) (by decide +kernel)) (hts (.initialized "java/lang/Math") (by decide +kernel)) (hts (.code Lib.Math.max.name Lib.Math.max.code 2 (some .int)) (by decide +kernel)) (Nat.le_of_ble_eq_true rfl) (Nat.le_of_ble_eq_true rfl) (Nat.le_of_ble_eq_true rfl) (Nat.le_of_ble_eq_true rfl) dX5_onFoot_70 ?_
      refine va_mmin hx hb (hml.trans hl.1.symm) hown (hts (.methodLink RX5 157 Lib.Math.min.name) (by decide +kernel)) (hts (.static Lib.Math.min.name) (by decide +kernel)) (hts (.initialized "java/lang/Math") (by decide +kernel)) (hts (.code Lib.Math.min.name Lib.Math.min.code 2 (some .int)) (by decide +kernel)) (Nat.le_of_ble_eq_true rfl) (Nat.le_of_ble_eq_true rfl) (Nat.le_of_ble_eq_true rfl) (Nat.le_of_ble_eq_true rfl) dX5_onFoot_73 ?_
      refine xv_int (y := nI (x5Fr nw (20 + 16 * a0) (j0 + 1) (m0 + wn (j0 + 1)) (b0))) (xBd_n (le := nI b0) (xNn (by omega))) ?_
      refine lv_istore (lv' := [(7, .int (nI (x5Fr nw (20 + 16 * a0) (j0 + 1) (m0 + wn (j0 + 1)) (b0)))), (6, .int (nI (m0 + wn (j0 + 1)))), (5, .int ((nI m0) + (xRs nw st j0))), (0, .ref g0), (1, .int (nI a0)), (2, .int (nI j0)), (3, .int (nI m0)), (4, .int (nI b0))]) hx hb dX5_onFoot_76 hl (by decide) rfl (fun ls hl => ?_)
      refine lv_aload_n hx hb dX5_onFoot_78 rfl (lv_at hl 3 rfl) ?_
      refine lv_iload_n hx hb dX5_onFoot_79 rfl (lv_at hl 4 rfl) ?_
      refine lv_iload hx hb dX5_onFoot_80 (lv_at hl 7 rfl) ?_
      have hPc := hP.sub (ws' := [(g0, .inr (5, [.ref ra, .ref wa, .ref ta, .int kpt, .ref ma, .int mkd, .ref pa, .int tpd, .int at0, .int wel, .ref ba, .ref ka, .int srt, .ref fa, .ref qa, .ref ea, .ref za, .ref ya, .int wks])), (wa, .inl (cI, 70, .inl nw))]) [0, 1] rfl
      refine vp_callSi (va_Run.run (va_runV (As := [.int (nI a0), .int (nI b0)]) (rest := []) ⟨hx, hb, hml, hown, hts⟩ (g_X5_weights l D cI cL cZ cC g0 ra wa ta ma pa ba ka fa qa ea za ya kpt mkd tpd at0 wel srt wks st nw a0 b0 (by first | assumption | decide +kernel) (by first | assumption | decide +kernel) (by first | assumption | decide +kernel) (by omega) (by omega)) (cwV 2 hts gX5_onFoot_X5_weights rfl rfl rfl (by decide +kernel) ⟨Nat.le_of_ble_eq_true rfl, Nat.le_of_ble_eq_true rfl⟩) ⟨xPc_bl, va_recv hK hPc (ci := 5) (q0 := 0) rfl rfl, xPc_use hPc hK⟩ rfl rfl hl.1 rfl (lv_room (Nat.le_of_ble_eq_true rfl)) dX5_onFoot_82 ⟨Nat.le_of_ble_eq_true rfl, Nat.le_of_ble_eq_true rfl⟩)) (fun r_7 er_7 => ?_)
      obtain rfl : (xWs (fun i => nw (20 + 16 * a0 + i)) b0 : Int32) = r_7 := Eq.symm er_7
      refine lv_aload_n hx hb dX5_onFoot_85 rfl (lv_at hl 3 rfl) ?_
      refine lv_iload_n hx hb dX5_onFoot_86 rfl (lv_at hl 4 rfl) ?_
      refine lv_iload hx hb dX5_onFoot_87 (lv_at hl 0 rfl) ?_
      have hPc := hP.sub (ws' := [(g0, .inr (5, [.ref ra, .ref wa, .ref ta, .int kpt, .ref ma, .int mkd, .ref pa, .int tpd, .int at0, .int wel, .ref ba, .ref ka, .int srt, .ref fa, .ref qa, .ref ea, .ref za, .ref ya, .int wks])), (wa, .inl (cI, 70, .inl nw))]) [0, 1] rfl
      refine vp_callSi (va_Run.run (va_runV (As := [.int (nI a0), .int (nI (x5Fr nw (20 + 16 * a0) (j0 + 1) (m0 + wn (j0 + 1)) (b0)))]) (rest := [.int (xWs (fun i => nw (20 + 16 * a0 + i)) b0)]) ⟨hx, hb, hml, hown, hts⟩ (g_X5_weights l D cI cL cZ cC g0 ra wa ta ma pa ba ka fa qa ea za ya kpt mkd tpd at0 wel srt wks st nw a0 (x5Fr nw (20 + 16 * a0) (j0 + 1) (m0 + wn (j0 + 1)) (b0)) (by first | assumption | decide +kernel) (by first | assumption | decide +kernel) (by first | assumption | decide +kernel) (by omega) (x5Fr_le _ _ _ _ _)) (cwV 2 hts gX5_onFoot_X5_weights rfl rfl rfl (by decide +kernel) ⟨Nat.le_of_ble_eq_true rfl, Nat.le_of_ble_eq_true rfl⟩) ⟨xPc_bl, va_recv hK hPc (ci := 5) (q0 := 0) rfl rfl, xPc_use hPc hK⟩ rfl rfl hl.1 rfl (lv_room (Nat.le_of_ble_eq_true rfl)) dX5_onFoot_89 ⟨Nat.le_of_ble_eq_true rfl, Nat.le_of_ble_eq_true rfl⟩)) (fun r_8 er_8 => ?_)
      obtain rfl : (xWs (fun i => nw (20 + 16 * a0 + i)) (x5Fr nw (20 + 16 * a0) (j0 + 1) (m0 + wn (j0 + 1)) (b0)) : Int32) = r_8 := Eq.symm er_8
      refine lv_isub hx hb dX5_onFoot_92 ?_
      refine lv_iload hx hb dX5_onFoot_93 (lv_at hl 2 rfl) ?_
      refine lv_imul hx hb dX5_onFoot_95 ?_
      refine lv_aload_n hx hb dX5_onFoot_96 rfl (lv_at hl 3 rfl) ?_
      refine lv_iload_n hx hb dX5_onFoot_97 rfl (lv_at hl 4 rfl) ?_
      refine lv_iload_n hx hb dX5_onFoot_98 rfl (lv_at hl 5 rfl) ?_
      refine lv_iconst (v := 1) hx hb dX5_onFoot_99 (by decide) ?_
      refine lv_iadd hx hb dX5_onFoot_100 ?_
      refine xv_int (y := nI (j0 + 1)) (nI_1 j0) ?_
      refine lv_iload hx hb dX5_onFoot_101 (lv_at hl 1 rfl) ?_
      refine lv_iload hx hb dX5_onFoot_103 (lv_at hl 0 rfl) ?_
      have hPc := hP.sub (ws' := [(g0, .inr (5, [.ref ra, .ref wa, .ref ta, .int kpt, .ref ma, .int mkd, .ref pa, .int tpd, .int at0, .int wel, .ref ba, .ref ka, .int srt, .ref fa, .ref qa, .ref ea, .ref za, .ref ya, .int wks])), (wa, .inl (cI, 70, .inl nw)), (ya, .inl (cI, 5600, .inl y))]) [0, 1, 2] rfl
      refine vp_callSi (va_Run.run (va_runV (As := [.int (nI a0), .int (nI (j0 + 1)), .int (nI (m0 + wn (j0 + 1))), .int (nI (x5Fr nw (20 + 16 * a0) (j0 + 1) (m0 + wn (j0 + 1)) (b0)))]) (rest := [.int (((xWs (fun i => nw (20 + 16 * a0 + i)) b0) - (xWs (fun i => nw (20 + 16 * a0 + i)) (x5Fr nw (20 + 16 * a0) (j0 + 1) (m0 + wn (j0 + 1)) (b0)))) * ((nI m0) + (xRs nw st j0)))]) ⟨hx, hb, hml, hown, hts⟩ (g_X5_later l D cI cL cZ cC g0 ra wa ta ma pa ba ka fa qa ea za ya kpt mkd tpd at0 wel srt wks st nw a0 (j0 + 1) (m0 + wn (j0 + 1)) (x5Fr nw (20 + 16 * a0) (j0 + 1) (m0 + wn (j0 + 1)) (b0)) y (by first | assumption | decide +kernel) (by first | assumption | decide +kernel) (by first | assumption | decide +kernel) (by first | assumption | decide +kernel) (by first | assumption | decide +kernel) (by have w8 : j0 + 1 < st := (by have w9 := mt (nI_eq (a := j0) (b := st - 1) (by omega) (by omega)).mpr c_2; omega); exact w8) (by have w := (hwn (j0 + 1) (by omega) (by omega)).2; omega) (x5Fr_le _ _ _ _ _)) (cwV 4 hts gX5_onFoot_X5_later rfl rfl rfl (by decide +kernel) ⟨Nat.le_of_ble_eq_true rfl, Nat.le_of_ble_eq_true rfl⟩) ⟨xPc_bl, va_recv hK hPc (ci := 5) (q0 := 0) rfl rfl, xPc_use hPc hK⟩ rfl rfl hl.1 rfl (lv_room (Nat.le_of_ble_eq_true rfl)) dX5_onFoot_105 ⟨Nat.le_of_ble_eq_true rfl, Nat.le_of_ble_eq_true rfl⟩)) (fun r_9 er_9 => ?_)
      obtain rfl : (x5La st nw (20 + 16 * a0) y (j0 + 1) (m0 + wn (j0 + 1)) (x5Fr nw (20 + 16 * a0) (j0 + 1) (m0 + wn (j0 + 1)) (b0)) : Int32) = r_9 := Eq.symm er_9
      refine lv_iadd hx hb dX5_onFoot_108 ?_
      exact W.iret (v := (((xWs (fun i => nw (20 + 16 * a0 + i)) b0) - (xWs (fun i => nw (20 + 16 * a0 + i)) (x5Fr nw (20 + 16 * a0) (j0 + 1) (m0 + wn (j0 + 1)) (b0)))) * ((nI m0) + (xRs nw st j0))) + (x5La st nw (20 + 16 * a0) y (j0 + 1) (m0 + wn (j0 + 1)) (x5Fr nw (20 + 16 * a0) (j0 + 1) (m0 + wn (j0 + 1)) (b0)))) hx hb hr (fun t ht hW => ⟨_, rfl, (by rw [x5Of, if_neg c_2, if_neg c_4]), ht⟩) (fun _ h => absurd h List.not_mem_nil) dX5_onFoot_109
    · refine lv_aload_n hx hb dX5_onFoot_27 rfl (lv_at hl 1 rfl) ?_
      refine lv_iload_n hx hb dX5_onFoot_28 rfl (lv_at hl 2 rfl) ?_
      refine lv_iload hx hb dX5_onFoot_29 (lv_at hl 5 rfl) ?_
      have hPc := hP.sub (ws' := [(g0, .inr (5, [.ref ra, .ref wa, .ref ta, .int kpt, .ref ma, .int mkd, .ref pa, .int tpd, .int at0, .int wel, .ref ba, .ref ka, .int srt, .ref fa, .ref qa, .ref ea, .ref za, .ref ya, .int wks])), (wa, .inl (cI, 70, .inl nw))]) [0, 1] rfl
      refine vp_callSi (va_Run.run (va_runV (As := [.int (nI a0), .int (nI b0)]) (rest := []) ⟨hx, hb, hml, hown, hts⟩ (g_X5_weights l D cI cL cZ cC g0 ra wa ta ma pa ba ka fa qa ea za ya kpt mkd tpd at0 wel srt wks st nw a0 b0 (by first | assumption | decide +kernel) (by first | assumption | decide +kernel) (by first | assumption | decide +kernel) (by omega) (by omega)) (cwV 2 hts gX5_onFoot_X5_weights rfl rfl rfl (by decide +kernel) ⟨Nat.le_of_ble_eq_true rfl, Nat.le_of_ble_eq_true rfl⟩) ⟨xPc_bl, va_recv hK hPc (ci := 5) (q0 := 0) rfl rfl, xPc_use hPc hK⟩ rfl rfl hl.1 rfl (lv_room (Nat.le_of_ble_eq_true rfl)) dX5_onFoot_31 ⟨Nat.le_of_ble_eq_true rfl, Nat.le_of_ble_eq_true rfl⟩)) (fun r_10 er_10 => ?_)
      obtain rfl : (xWs (fun i => nw (20 + 16 * a0 + i)) b0 : Int32) = r_10 := Eq.symm er_10
      refine lv_iload hx hb dX5_onFoot_34 (lv_at hl 0 rfl) ?_
      refine lv_imul hx hb dX5_onFoot_36 ?_
      exact W.iret (v := (xWs (fun i => nw (20 + 16 * a0 + i)) b0) * ((nI m0) + (xRs nw st j0))) hx hb hr (fun t ht hW => ⟨_, rfl, (by rw [x5Of, if_neg c_2, if_pos c_4]), ht⟩) (fun _ h => absurd h List.not_mem_nil) dX5_onFoot_37

set_option maxHeartbeats 4000000 in
set_option maxRecDepth 100000 in
theorem g_X5_worked (l : Launch) (D : va_G) (cI cL cZ cC : ClassId) (sz : Nat) (g0 : Nat) (ra : Nat) (wa : Nat) (ta : Nat) (ma : Nat) (pa : Nat) (ba : Nat) (ka : Nat) (fa : Nat) (qa : Nat) (ea : Nat) (za : Nat) (ya : Nat) (kpt : Int32) (mkd : Int32) (tpd : Int32) (at0 : Int32) (wel : Int32) (srt : Int32) (wks : Int32) (st : Nat) (nw : Nat → Int32) (a0 : Nat) (wn : Nat → Nat) (j0 : Nat) (m0 : Nat) (b0 : Nat) (y : Nat → Int32) (hn0 : nw 0 = nI st) (hs1 : 1 ≤ st) (hs7 : st ≤ 7) (ha : a0 ≤ 2) (hq2 : ¬ nw 2 = 0) (hwn : ∀ j, 1 ≤ j → j ≤ st → (xLm nw st j + nw 2 - 1) / nw 2 = nI (wn j) ∧ wn j ≤ 1000) (hjs : j0 < st) (hm0 : m0 ≤ 60) (hb0 : b0 ≤ 12) : Met l yX5_worked wsX5_worked ({ frames := 5, cells := 0, slots := 0, locals := 118 } : Room) (wPc D [.ref g0, .int (nI a0), .int (nI j0), .int (nI m0), .int (nI b0)] [(g0, .inr (5, [.ref ra, .ref wa, .ref ta, .int kpt, .ref ma, .int mkd, .ref pa, .int tpd, .int at0, .int wel, .ref ba, .ref ka, .int srt, .ref fa, .ref qa, .ref ea, .ref za, .ref ya, .int wks])), (wa, .inl (cI, 70, .inl nw)), (ya, .inl (cI, 5600, .inl y))] (xTy cI cL cZ cC) sz) (va_Qi (fun (r : Int32) (_ : Unit) => r = x5Wr st nw (20 + 16 * a0) wn y j0 m0 b0) (fun (_ : Unit) t => va_P D vwCl [(g0, .inr (5, [.ref ra, .ref wa, .ref ta, .int kpt, .ref ma, .int mkd, .ref pa, .int tpd, .int at0, .int wel, .ref ba, .ref ka, .int srt, .ref fa, .ref qa, .ref ea, .ref za, .ref ya, .int (x5Wk st nw (20 + 16 * a0) wn y j0 m0 b0)])), (wa, .inl (cI, 70, .inl nw)), (ya, .inl (cI, 5600, .inl y))] t.heap ∧ va_D (va_A [(g0, .inr (5, [.ref ra, .ref wa, .ref ta, .int kpt, .ref ma, .int mkd, .ref pa, .int tpd, .int at0, .int wel, .ref ba, .ref ka, .int srt, .ref fa, .ref qa, .ref ea, .ref za, .ref ya, .int wks])), (wa, .inl (cI, 70, .inl nw)), (ya, .inl (cI, 5600, .inl y))] sz) [(g0, .inr (5, [.ref ra, .ref wa, .ref ta, .int kpt, .ref ma, .int mkd, .ref pa, .int tpd, .int at0, .int wel, .ref ba, .ref ka, .int srt, .ref fa, .ref qa, .ref ea, .ref za, .ref ya, .int (x5Wk st nw (20 + 16 * a0) wn y j0 m0 b0)])), (wa, .inl (cI, 70, .inl nw)), (ya, .inl (cI, 5600, .inl y))]) (va_A [(g0, .inr (5, [.ref ra, .ref wa, .ref ta, .int kpt, .ref ma, .int mkd, .ref pa, .int tpd, .int at0, .int wel, .ref ba, .ref ka, .int srt, .ref fa, .ref qa, .ref ea, .ref za, .ref ya, .int wks])), (wa, .inl (cI, 70, .inl nw)), (ya, .inl (cI, 5600, .inl y))] sz)) 0 0 (va_A [(g0, .inr (5, [.ref ra, .ref wa, .ref ta, .int kpt, .ref ma, .int mkd, .ref pa, .int tpd, .int at0, .int wel, .ref ba, .ref ka, .int srt, .ref fa, .ref qa, .ref ea, .ref za, .ref ya, .int wks])), (wa, .inl (cI, 70, .inl nw)), (ya, .inl (cI, 5600, .inl y))] sz) := by
  refine Met.ofW (cc := cX5_worked) (maxL := 11) (ret := (some .int)) (by decide) rfl ?_
  intro p e s m args below meth c s₁ B hml hv
  obtain ⟨rfl, hsz, hP, hK, hD0⟩ := hv
  have hx := B.exec
  have hb := B.bytes
  have hr := B.returns
  have hts := atoms_spec (ws := wsX5_worked) B.pre
  have hown : s.vm.findClass RX5 = some m.cls := findClass_of_methodNamed B.named
  have hlocks := B.notSynchronized
  have hwX5 : ∀ w ∈ u_ws RX5 TX5 19, w ∈ wsX5_worked := fun _ h => List.mem_cons_of_mem _ (List.mem_append_right _ h)
  subst hsz
  have hD := hD0.self (sz := s.heap.size)
  generalize hAe : va_A [(g0, .inr (5, [.ref ra, .ref wa, .ref ta, .int kpt, .ref ma, .int mkd, .ref pa, .int tpd, .int at0, .int wel, .ref ba, .ref ka, .int srt, .ref fa, .ref qa, .ref ea, .ref za, .ref ya, .int wks])), (wa, .inl (cI, 70, .inl nw)), (ya, .inl (cI, 5600, .inl y))] s.heap.size = A at hD ⊢
  have hA : ∀ q : Nat, s.heap.size ≤ q → A q := fun q h => by rw [← hAe]; exact Or.inr h
  have hS : va_S A s.heap s.heap [] := va_S.rf
  have hP : va_P D vwCl [(g0, .inr (5, [.ref ra, .ref wa, .ref ta, .int kpt, .ref ma, .int mkd, .ref pa, .int tpd, .int at0, .int wel, .ref ba, .ref ka, .int srt, .ref fa, .ref qa, .ref ea, .ref za, .ref ya, .int wks])), (wa, .inl (cI, 70, .inl nw)), (ya, .inl (cI, 5600, .inl y))] s.heap := hP
  have hl := lv_entry ([.ref g0, .int (nI a0), .int (nI j0), .int (nI m0), .int (nI b0)]) (n := 11) (Nat.le_of_ble_eq_true rfl)
  rw [lg_entry_eq]
  generalize (lg_sl ([.ref g0, .int (nI a0), .int (nI j0), .int (nI m0), .int (nI b0)]) ++ List.replicate (11 - (lg_sl ([.ref g0, .int (nI a0), .int (nI j0), .int (nI m0), .int (nI b0)])).length) Slot.unset).toArray = ls at hl ⊢
  have hl : lv_has ls 11 [(0, .ref g0), (1, .int (nI a0)), (2, .int (nI j0)), (3, .int (nI m0)), (4, .int (nI b0))] := hl
  refine lv_iload_n hx hb dX5_worked_0 rfl (lv_at hl 3 rfl) ?_
  refine lv_aload_n hx hb dX5_worked_1 rfl (lv_at hl 0 rfl) ?_
  refine lv_iload_n hx hb dX5_worked_2 rfl (lv_at hl 1 rfl) ?_
  refine lv_iload_n hx hb dX5_worked_3 rfl (lv_at hl 2 rfl) ?_
  have hPc := hP.sub (ws' := [(g0, .inr (5, [.ref ra, .ref wa, .ref ta, .int kpt, .ref ma, .int mkd, .ref pa, .int tpd, .int at0, .int wel, .ref ba, .ref ka, .int srt, .ref fa, .ref qa, .ref ea, .ref za, .ref ya, .int wks])), (wa, .inl (cI, 70, .inl nw))]) [0, 1] rfl
  refine vp_callSi (va_Run.run (va_runV (As := [.int (nI a0), .int (nI j0)]) (rest := [.int (nI m0)]) ⟨hx, hb, hml, hown, hts⟩ (g_X5_to l D cI cL cZ cC g0 ra wa ta ma pa ba ka fa qa ea za ya kpt mkd tpd at0 wel srt wks st nw a0 j0 (by first | assumption | decide +kernel) (by first | assumption | decide +kernel) (by first | assumption | decide +kernel) (by omega) (by omega)) (cwV 2 hts gX5_worked_X5_to rfl rfl rfl (by decide +kernel) ⟨Nat.le_of_ble_eq_true rfl, Nat.le_of_ble_eq_true rfl⟩) ⟨xPc_bl, va_recv hK hPc (ci := 5) (q0 := 0) rfl rfl, xPc_use hPc hK⟩ rfl rfl hl.1 rfl (lv_room (Nat.le_of_ble_eq_true rfl)) dX5_worked_4 ⟨Nat.le_of_ble_eq_true rfl, Nat.le_of_ble_eq_true rfl⟩)) (fun r_1 er_1 => ?_)
  obtain rfl : (xSm (fun i => sRd (nw (20 + 16 * a0)) (nw (20 + 16 * a0 + 1)) (nI i)) j0 : Int32) = r_1 := Eq.symm er_1
  refine xv_int (y := xTO nw (20 + 16 * a0) j0) (rfl) ?_
  refine lv_isub hx hb dX5_worked_7 ?_
  refine lv_istore (lv' := [(5, .int ((nI m0) - (xTO nw (20 + 16 * a0) j0))), (0, .ref g0), (1, .int (nI a0)), (2, .int (nI j0)), (3, .int (nI m0)), (4, .int (nI b0))]) hx hb dX5_worked_8 hl (by decide) rfl (fun ls hl => ?_)
  refine xl_cut (σ := Unit) 29 (fun _ => [.int (x5Is nw (20 + 16 * a0) j0 m0 b0)]) (fun _ ls => lv_has ls 11 [(5, .int ((nI m0) - (xTO nw (20 + 16 * a0) j0))), (0, .ref g0), (1, .int (nI a0)), (2, .int (nI j0)), (3, .int (nI m0)), (4, .int (nI b0))]) ?_ ?_
  · intro _ ls hl
    refine lv_istore (lv' := [(6, .int (x5Is nw (20 + 16 * a0) j0 m0 b0)), (5, .int ((nI m0) - (xTO nw (20 + 16 * a0) j0))), (0, .ref g0), (1, .int (nI a0)), (2, .int (nI j0)), (3, .int (nI m0)), (4, .int (nI b0))]) hx hb dX5_worked_29 hl (by decide) rfl (fun ls hl => ?_)
    refine xl_cut (σ := Unit) 45 (fun _ => [.int (nI (x5Nx nw (20 + 16 * a0) j0 m0 b0))]) (fun _ ls => lv_has ls 11 [(6, .int (x5Is nw (20 + 16 * a0) j0 m0 b0)), (5, .int ((nI m0) - (xTO nw (20 + 16 * a0) j0))), (0, .ref g0), (1, .int (nI a0)), (2, .int (nI j0)), (3, .int (nI m0)), (4, .int (nI b0))]) ?_ ?_
    · intro _ ls hl
      refine lv_istore (lv' := [(7, .int (nI (x5Nx nw (20 + 16 * a0) j0 m0 b0))), (6, .int (x5Is nw (20 + 16 * a0) j0 m0 b0)), (5, .int ((nI m0) - (xTO nw (20 + 16 * a0) j0))), (0, .ref g0), (1, .int (nI a0)), (2, .int (nI j0)), (3, .int (nI m0)), (4, .int (nI b0))]) hx hb dX5_worked_45 hl (by decide) rfl (fun ls hl => ?_)
      refine xl_cut (σ := Unit) 108 (fun _ => [.int (x5Sm st nw (20 + 16 * a0) j0 m0 b0)]) (fun _ ls => lv_has ls 11 [(7, .int (nI (x5Nx nw (20 + 16 * a0) j0 m0 b0))), (6, .int (x5Is nw (20 + 16 * a0) j0 m0 b0)), (5, .int ((nI m0) - (xTO nw (20 + 16 * a0) j0))), (0, .ref g0), (1, .int (nI a0)), (2, .int (nI j0)), (3, .int (nI m0)), (4, .int (nI b0))]) ?_ ?_
      · intro _ ls hl
        refine lv_istore (lv' := [(8, .int (x5Sm st nw (20 + 16 * a0) j0 m0 b0)), (7, .int (nI (x5Nx nw (20 + 16 * a0) j0 m0 b0))), (6, .int (x5Is nw (20 + 16 * a0) j0 m0 b0)), (5, .int ((nI m0) - (xTO nw (20 + 16 * a0) j0))), (0, .ref g0), (1, .int (nI a0)), (2, .int (nI j0)), (3, .int (nI m0)), (4, .int (nI b0))]) hx hb dX5_worked_108 hl (by decide) rfl (fun ls hl => ?_)
        refine lv_aload_n hx hb dX5_worked_110 rfl (lv_at hl 4 rfl) ?_
        refine lv_iload_n hx hb dX5_worked_111 rfl (lv_at hl 5 rfl) ?_
        refine lv_iload_n hx hb dX5_worked_112 rfl (lv_at hl 6 rfl) ?_
        refine lv_iload_n hx hb dX5_worked_113 rfl (lv_at hl 7 rfl) ?_
        refine lv_iload hx hb dX5_worked_114 (lv_at hl 1 rfl) ?_
        have hPc := hP.sub (ws' := [(g0, .inr (5, [.ref ra, .ref wa, .ref ta, .int kpt, .ref ma, .int mkd, .ref pa, .int tpd, .int at0, .int wel, .ref ba, .ref ka, .int srt, .ref fa, .ref qa, .ref ea, .ref za, .ref ya, .int wks])), (wa, .inl (cI, 70, .inl nw)), (ya, .inl (cI, 5600, .inl y))]) [0, 1, 2] rfl
        refine vp_callSi (va_Run.run (va_runV (As := [.int (nI a0), .int (nI j0), .int (nI m0), .int (nI (x5Nx nw (20 + 16 * a0) j0 m0 b0))]) (rest := []) ⟨hx, hb, hml, hown, hts⟩ (g_X5_onFoot l D cI cL cZ cC g0 ra wa ta ma pa ba ka fa qa ea za ya kpt mkd tpd at0 wel srt wks st nw a0 wn j0 m0 (x5Nx nw (20 + 16 * a0) j0 m0 b0) y (by first | assumption | decide +kernel) (by first | assumption | decide +kernel) (by first | assumption | decide +kernel) (by first | assumption | decide +kernel) (by first | assumption | decide +kernel) (hwn) (hjs) (hm0) (x5Nx_le hb0)) (cwV 4 hts gX5_worked_X5_onFoot rfl rfl rfl (by decide +kernel) ⟨Nat.le_of_ble_eq_true rfl, Nat.le_of_ble_eq_true rfl⟩) ⟨xPc_bl, va_recv hK hPc (ci := 5) (q0 := 0) rfl rfl, xPc_use hPc hK⟩ rfl rfl hl.1 rfl (lv_room (Nat.le_of_ble_eq_true rfl)) dX5_worked_116 ⟨Nat.le_of_ble_eq_true rfl, Nat.le_of_ble_eq_true rfl⟩)) (fun r_2 er_2 => ?_)
        obtain rfl : (x5Of st nw (20 + 16 * a0) wn y j0 m0 (x5Nx nw (20 + 16 * a0) j0 m0 b0) : Int32) = r_2 := Eq.symm er_2
        refine lv_istore (lv' := [(9, .int (x5Of st nw (20 + 16 * a0) wn y j0 m0 (x5Nx nw (20 + 16 * a0) j0 m0 b0))), (8, .int (x5Sm st nw (20 + 16 * a0) j0 m0 b0)), (7, .int (nI (x5Nx nw (20 + 16 * a0) j0 m0 b0))), (6, .int (x5Is nw (20 + 16 * a0) j0 m0 b0)), (5, .int ((nI m0) - (xTO nw (20 + 16 * a0) j0))), (0, .ref g0), (1, .int (nI a0)), (2, .int (nI j0)), (3, .int (nI m0)), (4, .int (nI b0))]) hx hb dX5_worked_119 hl (by decide) rfl (fun ls hl => ?_)
        refine lv_iload_n hx hb dX5_worked_121 rfl (lv_at hl 7 rfl) ?_
        refine lv_aload_n hx hb dX5_worked_122 rfl (lv_at hl 5 rfl) ?_
        refine va_get (D := D) (ci := 5) (v := .ref wa) (C := RX5) (T := TX5) (N := 19) hx hb hts hwX5 hown hK hP 0 rfl rfl 1 (by decide) (hts (.fieldLink RX5 19 "WaitOrWalkOnModel" "now" "[I") (by decide +kernel)) (fun _ h9 => h9) rfl dX5_worked_123 ?_
        refine lv_iconst (v := 0) hx hb dX5_worked_126 (by decide) ?_
        refine va_iald (D := D) hx hb hK hP 1 0 rfl rfl (by unfold vp_in; decide +kernel) dX5_worked_127 ?_
        refine xv_int (y := nw 0) rfl ?_
        refine xv_int (y := nI st) (hn0) ?_
        refine lv_iconst (v := 1) hx hb dX5_worked_128 (by decide) ?_
        refine lv_isub hx hb dX5_worked_129 ?_
        refine xv_int (y := nI (st - 1)) (pk_sub hs1) ?_
        refine lv_icmp_eq (tgt := 139) hx hb dX5_worked_130 (by decide) (fun c_3 => ?_) (fun c_3 => ?_)
        · refine lv_aload_n hx hb dX5_worked_139 rfl (lv_at hl 5 rfl) ?_
          refine lv_iconst (v := 1) hx hb dX5_worked_140 (by decide) ?_
          refine va_put (D := D) (ci := 5) (v := .int 1) (ty := .boolean) (C := RX5) (T := TX5) (N := 19) hx hb hts hwX5 tyX5 tyX5_ok nmX5 hown hK hP hD hS 0 rfl rfl 18 (by decide) (hts (.fieldLink RX5 169 "WaitOrWalkOnModel" "walks" "Z") (by decide +kernel)) (fun _ h9 => h9) rfl (by decide +kernel) (by decide +kernel) rfl (Nat.le_of_ble_eq_true rfl) dX5_worked_141 (fun H locs hP hD hS => ?_)
          have hP : va_P D vwCl [(g0, .inr (5, [.ref ra, .ref wa, .ref ta, .int kpt, .ref ma, .int mkd, .ref pa, .int tpd, .int at0, .int wel, .ref ba, .ref ka, .int srt, .ref fa, .ref qa, .ref ea, .ref za, .ref ya, .int 1])), (wa, .inl (cI, 70, .inl nw)), (ya, .inl (cI, 5600, .inl y))] H := hP
          have hD : va_D A [(g0, .inr (5, [.ref ra, .ref wa, .ref ta, .int kpt, .ref ma, .int mkd, .ref pa, .int tpd, .int at0, .int wel, .ref ba, .ref ka, .int srt, .ref fa, .ref qa, .ref ea, .ref za, .ref ya, .int 1])), (wa, .inl (cI, 70, .inl nw)), (ya, .inl (cI, 5600, .inl y))] := hD
          refine lv_iload hx hb dX5_worked_144 (lv_at hl 1 rfl) ?_
          refine lv_iload hx hb dX5_worked_146 (lv_at hl 0 rfl) ?_
          refine lv_iadd hx hb dX5_worked_148 ?_
          have hP9 := hP.sub (ws' := [(g0, .inr (5, [.ref ra, .ref wa, .ref ta, .int kpt, .ref ma, .int mkd, .ref pa, .int tpd, .int at0, .int wel, .ref ba, .ref ka, .int srt, .ref fa, .ref qa, .ref ea, .ref za, .ref ya, .int 1])), (wa, .inl (cI, 70, .inl nw)), (ya, .inl (cI, 5600, .inl y))]) [0, 1, 2] rfl
          have hD9 := hD.sub (ws' := [(g0, .inr (5, [.ref ra, .ref wa, .ref ta, .int kpt, .ref ma, .int mkd, .ref pa, .int tpd, .int at0, .int wel, .ref ba, .ref ka, .int srt, .ref fa, .ref qa, .ref ea, .ref za, .ref ya, .int 1])), (wa, .inl (cI, 70, .inl nw)), (ya, .inl (cI, 5600, .inl y))]) [0, 1, 2] (by decide) rfl
          have hE9 : ([(g0, .inr (5, [.ref ra, .ref wa, .ref ta, .int kpt, .ref ma, .int mkd, .ref pa, .int tpd, .int at0, .int wel, .ref ba, .ref ka, .int srt, .ref fa, .ref qa, .ref ea, .ref za, .ref ya, .int 1])), (wa, .inl (cI, 70, .inl nw)), (ya, .inl (cI, 5600, .inl y))] : va_W) = [(g0, .inr (5, [.ref ra, .ref wa, .ref ta, .int kpt, .ref ma, .int mkd, .ref pa, .int tpd, .int at0, .int wel, .ref ba, .ref ka, .int srt, .ref fa, .ref qa, .ref ea, .ref za, .ref ya, .int (x5Wk st nw (20 + 16 * a0) wn y j0 m0 b0)])), (wa, .inl (cI, 70, .inl nw)), (ya, .inl (cI, 5600, .inl y))] := by have w9 : (1 : Int32) = x5Wk st nw (20 + 16 * a0) wn y j0 m0 b0 := (x5W_a c_3).2; rw [← w9]
          exact W.iret (v := (x5Sm st nw (20 + 16 * a0) j0 m0 b0) + (x5Of st nw (20 + 16 * a0) wn y j0 m0 (x5Nx nw (20 + 16 * a0) j0 m0 b0))) hx hb hr (fun t ht hW => ⟨⟨_, (), rfl, (x5W_a c_3).1, by rw [ht]; exact hE9 ▸ hP9, hE9 ▸ hD9⟩, hS.F ht⟩) hS.2.2 dX5_worked_149
        · refine lv_iload_n hx hb dX5_worked_133 rfl (lv_at hl 8 rfl) ?_
          refine lv_bipush (v := 60) hx hb dX5_worked_134 (by decide) ?_
          refine lv_icmp_ne (tgt := 150) hx hb dX5_worked_136 (by decide) (fun c_4 => ?_) (fun c_4 => ?_)
          · refine lv_aload_n hx hb dX5_worked_150 rfl (lv_at hl 5 rfl) ?_
            refine lv_iload_n hx hb dX5_worked_151 rfl (lv_at hl 6 rfl) ?_
            refine lv_iload_n hx hb dX5_worked_152 rfl (lv_at hl 7 rfl) ?_
            refine lv_iload_n hx hb dX5_worked_153 rfl (lv_at hl 8 rfl) ?_
            refine lv_iconst (v := 1) hx hb dX5_worked_154 (by decide) ?_
            refine lv_iadd hx hb dX5_worked_155 ?_
            refine xv_int (y := nI (m0 + 1)) (nI_1 m0) ?_
            refine lv_iload hx hb dX5_worked_156 (lv_at hl 2 rfl) ?_
            have hPc := hP.sub (ws' := [(g0, .inr (5, [.ref ra, .ref wa, .ref ta, .int kpt, .ref ma, .int mkd, .ref pa, .int tpd, .int at0, .int wel, .ref ba, .ref ka, .int srt, .ref fa, .ref qa, .ref ea, .ref za, .ref ya, .int wks])), (wa, .inl (cI, 70, .inl nw)), (ya, .inl (cI, 5600, .inl y))]) [0, 1, 2] rfl
            refine vp_callSi (va_Run.run (va_runV (As := [.int (nI a0), .int (nI j0), .int (nI (m0 + 1)), .int (nI (x5Nx nw (20 + 16 * a0) j0 m0 b0))]) (rest := []) ⟨hx, hb, hml, hown, hts⟩ (g_X5_later l D cI cL cZ cC g0 ra wa ta ma pa ba ka fa qa ea za ya kpt mkd tpd at0 wel srt wks st nw a0 j0 (m0 + 1) (x5Nx nw (20 + 16 * a0) j0 m0 b0) y (by first | assumption | decide +kernel) (by first | assumption | decide +kernel) (by first | assumption | decide +kernel) (by first | assumption | decide +kernel) (by first | assumption | decide +kernel) (hjs) (by omega) (x5Nx_le hb0)) (cwV 4 hts gX5_worked_X5_later rfl rfl rfl (by decide +kernel) ⟨Nat.le_of_ble_eq_true rfl, Nat.le_of_ble_eq_true rfl⟩) ⟨xPc_bl, va_recv hK hPc (ci := 5) (q0 := 0) rfl rfl, xPc_use hPc hK⟩ rfl rfl hl.1 rfl (lv_room (Nat.le_of_ble_eq_true rfl)) dX5_worked_158 ⟨Nat.le_of_ble_eq_true rfl, Nat.le_of_ble_eq_true rfl⟩)) (fun r_5 er_5 => ?_)
            obtain rfl : (x5La st nw (20 + 16 * a0) y j0 (m0 + 1) (x5Nx nw (20 + 16 * a0) j0 m0 b0) : Int32) = r_5 := Eq.symm er_5
            refine lv_istore (lv' := [(10, .int (x5La st nw (20 + 16 * a0) y j0 (m0 + 1) (x5Nx nw (20 + 16 * a0) j0 m0 b0))), (9, .int (x5Of st nw (20 + 16 * a0) wn y j0 m0 (x5Nx nw (20 + 16 * a0) j0 m0 b0))), (8, .int (x5Sm st nw (20 + 16 * a0) j0 m0 b0)), (7, .int (nI (x5Nx nw (20 + 16 * a0) j0 m0 b0))), (6, .int (x5Is nw (20 + 16 * a0) j0 m0 b0)), (5, .int ((nI m0) - (xTO nw (20 + 16 * a0) j0))), (0, .ref g0), (1, .int (nI a0)), (2, .int (nI j0)), (3, .int (nI m0)), (4, .int (nI b0))]) hx hb dX5_worked_161 hl (by decide) rfl (fun ls hl => ?_)
            refine lv_aload_n hx hb dX5_worked_163 rfl (lv_at hl 6 rfl) ?_
            refine lv_iload hx hb dX5_worked_164 (lv_at hl 1 rfl) ?_
            refine lv_iload hx hb dX5_worked_166 (lv_at hl 0 rfl) ?_
            refine lv_icmp_ge (tgt := 175) hx hb dX5_worked_168 (by decide) (fun c_6 => ?_) (fun c_6 => ?_)
            · refine lv_iconst (v := 0) hx hb dX5_worked_175 (by decide) ?_
              refine va_put (D := D) (ci := 5) (v := .int 0) (ty := .boolean) (C := RX5) (T := TX5) (N := 19) hx hb hts hwX5 tyX5 tyX5_ok nmX5 hown hK hP hD hS 0 rfl rfl 18 (by decide) (hts (.fieldLink RX5 169 "WaitOrWalkOnModel" "walks" "Z") (by decide +kernel)) (fun _ h9 => h9) rfl (by decide +kernel) (by decide +kernel) rfl (Nat.le_of_ble_eq_true rfl) dX5_worked_176 (fun H locs hP hD hS => ?_)
              have hP : va_P D vwCl [(g0, .inr (5, [.ref ra, .ref wa, .ref ta, .int kpt, .ref ma, .int mkd, .ref pa, .int tpd, .int at0, .int wel, .ref ba, .ref ka, .int srt, .ref fa, .ref qa, .ref ea, .ref za, .ref ya, .int 0])), (wa, .inl (cI, 70, .inl nw)), (ya, .inl (cI, 5600, .inl y))] H := hP
              have hD : va_D A [(g0, .inr (5, [.ref ra, .ref wa, .ref ta, .int kpt, .ref ma, .int mkd, .ref pa, .int tpd, .int at0, .int wel, .ref ba, .ref ka, .int srt, .ref fa, .ref qa, .ref ea, .ref za, .ref ya, .int 0])), (wa, .inl (cI, 70, .inl nw)), (ya, .inl (cI, 5600, .inl y))] := hD
              refine lv_iload hx hb dX5_worked_179 (lv_at hl 2 rfl) ?_
              refine lv_iload hx hb dX5_worked_181 (lv_at hl 1 rfl) ?_
              refine lv_iload hx hb dX5_worked_183 (lv_at hl 0 rfl) ?_
              refine va_mmin hx hb (hml.trans hl.1.symm) hown (hts (.methodLink RX5 157 Lib.Math.min.name) (by decide +kernel)) (hts (.static Lib.Math.min.name) (by decide +kernel)) (hts (.initialized "java/lang/Math") (by decide +kernel)) (hts (.code Lib.Math.min.name Lib.Math.min.code 2 (some .int)) (by decide +kernel)) (Nat.le_of_ble_eq_true rfl) (Nat.le_of_ble_eq_true rfl) (Nat.le_of_ble_eq_true rfl) (Nat.le_of_ble_eq_true rfl) dX5_worked_185 ?_
              refine xv_int (y := xMn (x5Of st nw (20 + 16 * a0) wn y j0 m0 (x5Nx nw (20 + 16 * a0) j0 m0 b0)) (x5La st nw (20 + 16 * a0) y j0 (m0 + 1) (x5Nx nw (20 + 16 * a0) j0 m0 b0))) (rfl) ?_
              refine lv_iadd hx hb dX5_worked_188 ?_
              have hP9 := hP.sub (ws' := [(g0, .inr (5, [.ref ra, .ref wa, .ref ta, .int kpt, .ref ma, .int mkd, .ref pa, .int tpd, .int at0, .int wel, .ref ba, .ref ka, .int srt, .ref fa, .ref qa, .ref ea, .ref za, .ref ya, .int 0])), (wa, .inl (cI, 70, .inl nw)), (ya, .inl (cI, 5600, .inl y))]) [0, 1, 2] rfl
              have hD9 := hD.sub (ws' := [(g0, .inr (5, [.ref ra, .ref wa, .ref ta, .int kpt, .ref ma, .int mkd, .ref pa, .int tpd, .int at0, .int wel, .ref ba, .ref ka, .int srt, .ref fa, .ref qa, .ref ea, .ref za, .ref ya, .int 0])), (wa, .inl (cI, 70, .inl nw)), (ya, .inl (cI, 5600, .inl y))]) [0, 1, 2] (by decide) rfl
              have hE9 : ([(g0, .inr (5, [.ref ra, .ref wa, .ref ta, .int kpt, .ref ma, .int mkd, .ref pa, .int tpd, .int at0, .int wel, .ref ba, .ref ka, .int srt, .ref fa, .ref qa, .ref ea, .ref za, .ref ya, .int 0])), (wa, .inl (cI, 70, .inl nw)), (ya, .inl (cI, 5600, .inl y))] : va_W) = [(g0, .inr (5, [.ref ra, .ref wa, .ref ta, .int kpt, .ref ma, .int mkd, .ref pa, .int tpd, .int at0, .int wel, .ref ba, .ref ka, .int srt, .ref fa, .ref qa, .ref ea, .ref za, .ref ya, .int (x5Wk st nw (20 + 16 * a0) wn y j0 m0 b0)])), (wa, .inl (cI, 70, .inl nw)), (ya, .inl (cI, 5600, .inl y))] := by have w9 : (0 : Int32) = x5Wk st nw (20 + 16 * a0) wn y j0 m0 b0 := x5W_f c_3 c_4 (Int32.not_lt.mpr c_6); rw [← w9]
              exact W.iret (v := (x5Sm st nw (20 + 16 * a0) j0 m0 b0) + (xMn (x5Of st nw (20 + 16 * a0) wn y j0 m0 (x5Nx nw (20 + 16 * a0) j0 m0 b0)) (x5La st nw (20 + 16 * a0) y j0 (m0 + 1) (x5Nx nw (20 + 16 * a0) j0 m0 b0)))) hx hb hr (fun t ht hW => ⟨⟨_, (), rfl, x5W_c c_3 c_4, by rw [ht]; exact hE9 ▸ hP9, hE9 ▸ hD9⟩, hS.F ht⟩) hS.2.2 dX5_worked_189
            · refine lv_iconst (v := 1) hx hb dX5_worked_171 (by decide) ?_
              refine lv_goto (tgt := 176) hx hb dX5_worked_172 (by decide) ?_
              refine va_put (D := D) (ci := 5) (v := .int 1) (ty := .boolean) (C := RX5) (T := TX5) (N := 19) hx hb hts hwX5 tyX5 tyX5_ok nmX5 hown hK hP hD hS 0 rfl rfl 18 (by decide) (hts (.fieldLink RX5 169 "WaitOrWalkOnModel" "walks" "Z") (by decide +kernel)) (fun _ h9 => h9) rfl (by decide +kernel) (by decide +kernel) rfl (Nat.le_of_ble_eq_true rfl) dX5_worked_176 (fun H locs hP hD hS => ?_)
              have hP : va_P D vwCl [(g0, .inr (5, [.ref ra, .ref wa, .ref ta, .int kpt, .ref ma, .int mkd, .ref pa, .int tpd, .int at0, .int wel, .ref ba, .ref ka, .int srt, .ref fa, .ref qa, .ref ea, .ref za, .ref ya, .int 1])), (wa, .inl (cI, 70, .inl nw)), (ya, .inl (cI, 5600, .inl y))] H := hP
              have hD : va_D A [(g0, .inr (5, [.ref ra, .ref wa, .ref ta, .int kpt, .ref ma, .int mkd, .ref pa, .int tpd, .int at0, .int wel, .ref ba, .ref ka, .int srt, .ref fa, .ref qa, .ref ea, .ref za, .ref ya, .int 1])), (wa, .inl (cI, 70, .inl nw)), (ya, .inl (cI, 5600, .inl y))] := hD
              refine lv_iload hx hb dX5_worked_179 (lv_at hl 2 rfl) ?_
              refine lv_iload hx hb dX5_worked_181 (lv_at hl 1 rfl) ?_
              refine lv_iload hx hb dX5_worked_183 (lv_at hl 0 rfl) ?_
              refine va_mmin hx hb (hml.trans hl.1.symm) hown (hts (.methodLink RX5 157 Lib.Math.min.name) (by decide +kernel)) (hts (.static Lib.Math.min.name) (by decide +kernel)) (hts (.initialized "java/lang/Math") (by decide +kernel)) (hts (.code Lib.Math.min.name Lib.Math.min.code 2 (some .int)) (by decide +kernel)) (Nat.le_of_ble_eq_true rfl) (Nat.le_of_ble_eq_true rfl) (Nat.le_of_ble_eq_true rfl) (Nat.le_of_ble_eq_true rfl) dX5_worked_185 ?_
              refine xv_int (y := xMn (x5Of st nw (20 + 16 * a0) wn y j0 m0 (x5Nx nw (20 + 16 * a0) j0 m0 b0)) (x5La st nw (20 + 16 * a0) y j0 (m0 + 1) (x5Nx nw (20 + 16 * a0) j0 m0 b0))) (rfl) ?_
              refine lv_iadd hx hb dX5_worked_188 ?_
              have hP9 := hP.sub (ws' := [(g0, .inr (5, [.ref ra, .ref wa, .ref ta, .int kpt, .ref ma, .int mkd, .ref pa, .int tpd, .int at0, .int wel, .ref ba, .ref ka, .int srt, .ref fa, .ref qa, .ref ea, .ref za, .ref ya, .int 1])), (wa, .inl (cI, 70, .inl nw)), (ya, .inl (cI, 5600, .inl y))]) [0, 1, 2] rfl
              have hD9 := hD.sub (ws' := [(g0, .inr (5, [.ref ra, .ref wa, .ref ta, .int kpt, .ref ma, .int mkd, .ref pa, .int tpd, .int at0, .int wel, .ref ba, .ref ka, .int srt, .ref fa, .ref qa, .ref ea, .ref za, .ref ya, .int 1])), (wa, .inl (cI, 70, .inl nw)), (ya, .inl (cI, 5600, .inl y))]) [0, 1, 2] (by decide) rfl
              have hE9 : ([(g0, .inr (5, [.ref ra, .ref wa, .ref ta, .int kpt, .ref ma, .int mkd, .ref pa, .int tpd, .int at0, .int wel, .ref ba, .ref ka, .int srt, .ref fa, .ref qa, .ref ea, .ref za, .ref ya, .int 1])), (wa, .inl (cI, 70, .inl nw)), (ya, .inl (cI, 5600, .inl y))] : va_W) = [(g0, .inr (5, [.ref ra, .ref wa, .ref ta, .int kpt, .ref ma, .int mkd, .ref pa, .int tpd, .int at0, .int wel, .ref ba, .ref ka, .int srt, .ref fa, .ref qa, .ref ea, .ref za, .ref ya, .int (x5Wk st nw (20 + 16 * a0) wn y j0 m0 b0)])), (wa, .inl (cI, 70, .inl nw)), (ya, .inl (cI, 5600, .inl y))] := by have w9 : (1 : Int32) = x5Wk st nw (20 + 16 * a0) wn y j0 m0 b0 := x5W_t c_3 c_4 (Int32.not_le.mp c_6); rw [← w9]
              exact W.iret (v := (x5Sm st nw (20 + 16 * a0) j0 m0 b0) + (xMn (x5Of st nw (20 + 16 * a0) wn y j0 m0 (x5Nx nw (20 + 16 * a0) j0 m0 b0)) (x5La st nw (20 + 16 * a0) y j0 (m0 + 1) (x5Nx nw (20 + 16 * a0) j0 m0 b0)))) hx hb hr (fun t ht hW => ⟨⟨_, (), rfl, x5W_c c_3 c_4, by rw [ht]; exact hE9 ▸ hP9, hE9 ▸ hD9⟩, hS.F ht⟩) hS.2.2 dX5_worked_189
          · refine lv_aload_n hx hb dX5_worked_139 rfl (lv_at hl 5 rfl) ?_
            refine lv_iconst (v := 1) hx hb dX5_worked_140 (by decide) ?_
            refine va_put (D := D) (ci := 5) (v := .int 1) (ty := .boolean) (C := RX5) (T := TX5) (N := 19) hx hb hts hwX5 tyX5 tyX5_ok nmX5 hown hK hP hD hS 0 rfl rfl 18 (by decide) (hts (.fieldLink RX5 169 "WaitOrWalkOnModel" "walks" "Z") (by decide +kernel)) (fun _ h9 => h9) rfl (by decide +kernel) (by decide +kernel) rfl (Nat.le_of_ble_eq_true rfl) dX5_worked_141 (fun H locs hP hD hS => ?_)
            have hP : va_P D vwCl [(g0, .inr (5, [.ref ra, .ref wa, .ref ta, .int kpt, .ref ma, .int mkd, .ref pa, .int tpd, .int at0, .int wel, .ref ba, .ref ka, .int srt, .ref fa, .ref qa, .ref ea, .ref za, .ref ya, .int 1])), (wa, .inl (cI, 70, .inl nw)), (ya, .inl (cI, 5600, .inl y))] H := hP
            have hD : va_D A [(g0, .inr (5, [.ref ra, .ref wa, .ref ta, .int kpt, .ref ma, .int mkd, .ref pa, .int tpd, .int at0, .int wel, .ref ba, .ref ka, .int srt, .ref fa, .ref qa, .ref ea, .ref za, .ref ya, .int 1])), (wa, .inl (cI, 70, .inl nw)), (ya, .inl (cI, 5600, .inl y))] := hD
            refine lv_iload hx hb dX5_worked_144 (lv_at hl 1 rfl) ?_
            refine lv_iload hx hb dX5_worked_146 (lv_at hl 0 rfl) ?_
            refine lv_iadd hx hb dX5_worked_148 ?_
            have hP9 := hP.sub (ws' := [(g0, .inr (5, [.ref ra, .ref wa, .ref ta, .int kpt, .ref ma, .int mkd, .ref pa, .int tpd, .int at0, .int wel, .ref ba, .ref ka, .int srt, .ref fa, .ref qa, .ref ea, .ref za, .ref ya, .int 1])), (wa, .inl (cI, 70, .inl nw)), (ya, .inl (cI, 5600, .inl y))]) [0, 1, 2] rfl
            have hD9 := hD.sub (ws' := [(g0, .inr (5, [.ref ra, .ref wa, .ref ta, .int kpt, .ref ma, .int mkd, .ref pa, .int tpd, .int at0, .int wel, .ref ba, .ref ka, .int srt, .ref fa, .ref qa, .ref ea, .ref za, .ref ya, .int 1])), (wa, .inl (cI, 70, .inl nw)), (ya, .inl (cI, 5600, .inl y))]) [0, 1, 2] (by decide) rfl
            have hE9 : ([(g0, .inr (5, [.ref ra, .ref wa, .ref ta, .int kpt, .ref ma, .int mkd, .ref pa, .int tpd, .int at0, .int wel, .ref ba, .ref ka, .int srt, .ref fa, .ref qa, .ref ea, .ref za, .ref ya, .int 1])), (wa, .inl (cI, 70, .inl nw)), (ya, .inl (cI, 5600, .inl y))] : va_W) = [(g0, .inr (5, [.ref ra, .ref wa, .ref ta, .int kpt, .ref ma, .int mkd, .ref pa, .int tpd, .int at0, .int wel, .ref ba, .ref ka, .int srt, .ref fa, .ref qa, .ref ea, .ref za, .ref ya, .int (x5Wk st nw (20 + 16 * a0) wn y j0 m0 b0)])), (wa, .inl (cI, 70, .inl nw)), (ya, .inl (cI, 5600, .inl y))] := by have w9 : (1 : Int32) = x5Wk st nw (20 + 16 * a0) wn y j0 m0 b0 := (x5W_b c_3 c_4).2; rw [← w9]
            exact W.iret (v := (x5Sm st nw (20 + 16 * a0) j0 m0 b0) + (x5Of st nw (20 + 16 * a0) wn y j0 m0 (x5Nx nw (20 + 16 * a0) j0 m0 b0))) hx hb hr (fun t ht hW => ⟨⟨_, (), rfl, (x5W_b c_3 c_4).1, by rw [ht]; exact hE9 ▸ hP9, hE9 ▸ hD9⟩, hS.F ht⟩) hS.2.2 dX5_worked_149
      · intro K_108
        refine lv_iload hx hb dX5_worked_47 (lv_at hl 1 rfl) ?_
        refine lv_if_eq (tgt := 107) hx hb dX5_worked_49 (by decide) (fun c_7 => ?_) (fun c_7 => ?_)
        · refine lv_iconst (v := 0) hx hb dX5_worked_107 (by decide) ?_
          refine xv_int (y := x5Sm st nw (20 + 16 * a0) j0 m0 b0) (by rw [x5Sm, if_pos c_7]) ?_
          exact K_108 () _ (lv_sub hl [0, 1, 2, 3, 4, 5, 6, 7] rfl)
        · refine lv_aload_n hx hb dX5_worked_52 rfl (lv_at hl 3 rfl) ?_
          refine lv_iload_n hx hb dX5_worked_53 rfl (lv_at hl 4 rfl) ?_
          refine lv_iload hx hb dX5_worked_54 (lv_at hl 7 rfl) ?_
          have hPc := hP.sub (ws' := [(g0, .inr (5, [.ref ra, .ref wa, .ref ta, .int kpt, .ref ma, .int mkd, .ref pa, .int tpd, .int at0, .int wel, .ref ba, .ref ka, .int srt, .ref fa, .ref qa, .ref ea, .ref za, .ref ya, .int wks])), (wa, .inl (cI, 70, .inl nw))]) [0, 1] rfl
          refine vp_callSi (va_Run.run (va_runV (As := [.int (nI a0), .int (nI b0)]) (rest := []) ⟨hx, hb, hml, hown, hts⟩ (g_X5_weight l D cI cL cZ cC g0 ra wa ta ma pa ba ka fa qa ea za ya kpt mkd tpd at0 wel srt wks st nw a0 b0 (by first | assumption | decide +kernel) (by first | assumption | decide +kernel) (by first | assumption | decide +kernel) (by omega) (by omega)) (cwV 2 hts gX5_worked_X5_weight rfl rfl rfl (by decide +kernel) ⟨Nat.le_of_ble_eq_true rfl, Nat.le_of_ble_eq_true rfl⟩) ⟨xPc_bl, va_recv hK hPc (ci := 5) (q0 := 0) rfl rfl, xPc_use hPc hK⟩ rfl rfl hl.1 rfl (lv_room (Nat.le_of_ble_eq_true rfl)) dX5_worked_56 ⟨Nat.le_of_ble_eq_true rfl, Nat.le_of_ble_eq_true rfl⟩)) (fun r_8 er_8 => ?_)
          obtain rfl : (xWt (fun i => nw (20 + 16 * a0 + i)) b0 : Int32) = r_8 := Eq.symm er_8
          refine lv_aload_n hx hb dX5_worked_59 rfl (lv_at hl 3 rfl) ?_
          refine lv_iload_n hx hb dX5_worked_60 rfl (lv_at hl 4 rfl) ?_
          refine lv_iload_n hx hb dX5_worked_61 rfl (lv_at hl 5 rfl) ?_
          have hPc := hP.sub (ws' := [(g0, .inr (5, [.ref ra, .ref wa, .ref ta, .int kpt, .ref ma, .int mkd, .ref pa, .int tpd, .int at0, .int wel, .ref ba, .ref ka, .int srt, .ref fa, .ref qa, .ref ea, .ref za, .ref ya, .int wks])), (wa, .inl (cI, 70, .inl nw))]) [0, 1] rfl
          refine vp_callSi (va_Run.run (va_runV (As := [.int (nI a0), .int (nI j0)]) (rest := [.int (xWt (fun i => nw (20 + 16 * a0 + i)) b0)]) ⟨hx, hb, hml, hown, hts⟩ (g_X5_halts l D cI cL cZ cC g0 ra wa ta ma pa ba ka fa qa ea za ya kpt mkd tpd at0 wel srt wks st nw a0 (nI j0) (by first | assumption | decide +kernel) (by first | assumption | decide +kernel) (by first | assumption | decide +kernel) (by first | assumption | decide +kernel)) (cwV 2 hts gX5_worked_X5_halts rfl rfl rfl (by decide +kernel) ⟨Nat.le_of_ble_eq_true rfl, Nat.le_of_ble_eq_true rfl⟩) ⟨xPc_bl, va_recv hK hPc (ci := 5) (q0 := 0) rfl rfl, xPc_use hPc hK⟩ rfl rfl hl.1 rfl (lv_room (Nat.le_of_ble_eq_true rfl)) dX5_worked_62 ⟨Nat.le_of_ble_eq_true rfl, Nat.le_of_ble_eq_true rfl⟩)) (fun r_9 er_9 => ?_)
          obtain rfl : (sHalt (nw (20 + 16 * a0)) (nI j0) (nI (st - 1)) : Int32) = r_9 := Eq.symm er_9
          refine lv_if_eq (tgt := 96) hx hb dX5_worked_65 (by decide) (fun c_10 => ?_) (fun c_10 => ?_)
          · refine lv_iload_n hx hb dX5_worked_96 rfl (lv_at hl 6 rfl) ?_
            refine lv_aload_n hx hb dX5_worked_97 rfl (lv_at hl 3 rfl) ?_
            refine lv_iload_n hx hb dX5_worked_98 rfl (lv_at hl 5 rfl) ?_
            have hPc := hP.sub (ws' := [(g0, .inr (5, [.ref ra, .ref wa, .ref ta, .int kpt, .ref ma, .int mkd, .ref pa, .int tpd, .int at0, .int wel, .ref ba, .ref ka, .int srt, .ref fa, .ref qa, .ref ea, .ref za, .ref ya, .int wks])), (wa, .inl (cI, 70, .inl nw))]) [0, 1] rfl
            refine vp_callSi (va_Run.run (va_runV (As := [.int (nI j0)]) (rest := [.int (nI m0), .int (xWt (fun i => nw (20 + 16 * a0 + i)) b0)]) ⟨hx, hb, hml, hown, hts⟩ (g_X5_rest l D cI cL cZ cC g0 ra wa ta ma pa ba ka fa qa ea za ya kpt mkd tpd at0 wel srt wks st nw j0 (by first | assumption | decide +kernel) (by first | assumption | decide +kernel) (by first | assumption | decide +kernel) (by omega) (hq2)) (cwV 1 hts gX5_worked_X5_rest rfl rfl rfl (by decide +kernel) ⟨Nat.le_of_ble_eq_true rfl, Nat.le_of_ble_eq_true rfl⟩) ⟨xPc_bl, va_recv hK hPc (ci := 5) (q0 := 0) rfl rfl, xPc_use hPc hK⟩ rfl rfl hl.1 rfl (lv_room (Nat.le_of_ble_eq_true rfl)) dX5_worked_99 ⟨Nat.le_of_ble_eq_true rfl, Nat.le_of_ble_eq_true rfl⟩)) (fun r_11 er_11 => ?_)
            obtain rfl : (xRs nw st j0 : Int32) = r_11 := Eq.symm er_11
            refine lv_iadd hx hb dX5_worked_102 ?_
            refine lv_imul hx hb dX5_worked_103 ?_
            refine lv_goto (tgt := 108) hx hb dX5_worked_104 (by decide) ?_
            refine xv_int (y := x5Sm st nw (20 + 16 * a0) j0 m0 b0) (by rw [x5Sm, if_neg c_7, if_pos c_10]) ?_
            exact K_108 () _ (lv_sub hl [0, 1, 2, 3, 4, 5, 6, 7] rfl)
          · refine lv_iload hx hb dX5_worked_68 (lv_at hl 7 rfl) ?_
            refine lv_aload_n hx hb dX5_worked_70 rfl (lv_at hl 3 rfl) ?_
            refine lv_iload_n hx hb dX5_worked_71 rfl (lv_at hl 4 rfl) ?_
            have hPc := hP.sub (ws' := [(g0, .inr (5, [.ref ra, .ref wa, .ref ta, .int kpt, .ref ma, .int mkd, .ref pa, .int tpd, .int at0, .int wel, .ref ba, .ref ka, .int srt, .ref fa, .ref qa, .ref ea, .ref za, .ref ya, .int wks])), (wa, .inl (cI, 70, .inl nw))]) [0, 1] rfl
            refine vp_callSi (va_Run.run (va_runV (As := [.int (nI a0)]) (rest := [.int (nI b0), .int (xWt (fun i => nw (20 + 16 * a0 + i)) b0)]) ⟨hx, hb, hml, hown, hts⟩ (g_X5_toLast l D cI cL cZ cC g0 ra wa ta ma pa ba ka fa qa ea za ya kpt mkd tpd at0 wel srt wks st nw a0 (by first | assumption | decide +kernel) (by first | assumption | decide +kernel) (by first | assumption | decide +kernel) (by omega)) (cwV 1 hts gX5_worked_X5_toLast rfl rfl rfl (by decide +kernel) ⟨Nat.le_of_ble_eq_true rfl, Nat.le_of_ble_eq_true rfl⟩) ⟨xPc_bl, va_recv hK hPc (ci := 5) (q0 := 0) rfl rfl, xPc_use hPc hK⟩ rfl rfl hl.1 rfl (lv_room (Nat.le_of_ble_eq_true rfl)) dX5_worked_72 ⟨Nat.le_of_ble_eq_true rfl, Nat.le_of_ble_eq_true rfl⟩)) (fun r_12 er_12 => ?_)
            obtain rfl : (xSm (fun i => sRd (nw (20 + 16 * a0)) (nw (20 + 16 * a0 + 1)) (nI i)) (st - 1) : Int32) = r_12 := Eq.symm er_12
            refine xv_int (y := xTO nw (20 + 16 * a0) (st - 1)) (rfl) ?_
            refine lv_iadd hx hb dX5_worked_75 ?_
            refine lv_aload_n hx hb dX5_worked_76 rfl (lv_at hl 3 rfl) ?_
            refine lv_aload_n hx hb dX5_worked_77 rfl (lv_at hl 3 rfl) ?_
            refine va_get (D := D) (ci := 5) (v := .ref wa) (C := RX5) (T := TX5) (N := 19) hx hb hts hwX5 hown hK hP 0 rfl rfl 1 (by decide) (hts (.fieldLink RX5 19 "WaitOrWalkOnModel" "now" "[I") (by decide +kernel)) (fun _ h9 => h9) rfl dX5_worked_78 ?_
            refine lv_iconst (v := 0) hx hb dX5_worked_81 (by decide) ?_
            refine va_iald (D := D) hx hb hK hP 1 0 rfl rfl (by unfold vp_in; decide +kernel) dX5_worked_82 ?_
            refine xv_int (y := nw 0) rfl ?_
            refine xv_int (y := nI st) (hn0) ?_
            refine lv_aload_n hx hb dX5_worked_83 rfl (lv_at hl 3 rfl) ?_
            refine va_get (D := D) (ci := 5) (v := .ref wa) (C := RX5) (T := TX5) (N := 19) hx hb hts hwX5 hown hK hP 0 rfl rfl 1 (by decide) (hts (.fieldLink RX5 19 "WaitOrWalkOnModel" "now" "[I") (by decide +kernel)) (fun _ h9 => h9) rfl dX5_worked_84 ?_
            refine lv_iconst (v := 2) hx hb dX5_worked_87 (by decide) ?_
            refine va_iald (D := D) hx hb hK hP 1 0 rfl rfl (by unfold vp_in; decide +kernel) dX5_worked_88 ?_
            refine xv_int (y := nw 2) rfl ?_
            have hPc := hP.sub (ws' := [(g0, .inr (5, [.ref ra, .ref wa, .ref ta, .int kpt, .ref ma, .int mkd, .ref pa, .int tpd, .int at0, .int wel, .ref ba, .ref ka, .int srt, .ref fa, .ref qa, .ref ea, .ref za, .ref ya, .int wks])), (wa, .inl (cI, 70, .inl nw))]) [0, 1] rfl
            refine vp_callSi (va_Run.run (va_runV (As := [.int (nI st), .int (nw 2)]) (rest := [.int ((nI b0) + (xTO nw (20 + 16 * a0) (st - 1))), .int (xWt (fun i => nw (20 + 16 * a0 + i)) b0)]) ⟨hx, hb, hml, hown, hts⟩ (g_X5_leg l D cI cL cZ cC g0 ra wa ta ma pa ba ka fa qa ea za ya kpt mkd tpd at0 wel srt wks st nw st (nw 2) (by first | assumption | decide +kernel) (by first | assumption | decide +kernel) (by first | assumption | decide +kernel) (by omega) (hq2)) (cwV 2 hts gX5_worked_X5_leg rfl rfl rfl (by decide +kernel) ⟨Nat.le_of_ble_eq_true rfl, Nat.le_of_ble_eq_true rfl⟩) ⟨xPc_bl, va_recv hK hPc (ci := 5) (q0 := 0) rfl rfl, xPc_use hPc hK⟩ rfl rfl hl.1 rfl (lv_room (Nat.le_of_ble_eq_true rfl)) dX5_worked_89 ⟨Nat.le_of_ble_eq_true rfl, Nat.le_of_ble_eq_true rfl⟩)) (fun r_13 er_13 => ?_)
            obtain rfl : ((xLm nw st st + (nw 2) - 1) / (nw 2) : Int32) = r_13 := Eq.symm er_13
            refine lv_iadd hx hb dX5_worked_92 ?_
            refine lv_goto (tgt := 103) hx hb dX5_worked_93 (by decide) ?_
            refine lv_imul hx hb dX5_worked_103 ?_
            refine lv_goto (tgt := 108) hx hb dX5_worked_104 (by decide) ?_
            refine xv_int (y := x5Sm st nw (20 + 16 * a0) j0 m0 b0) (by rw [x5Sm, if_neg c_7, if_neg c_10]) ?_
            exact K_108 () _ (lv_sub hl [0, 1, 2, 3, 4, 5, 6, 7] rfl)
    · intro K_45
      refine lv_iload hx hb dX5_worked_31 (lv_at hl 0 rfl) ?_
      refine lv_if_eq (tgt := 43) hx hb dX5_worked_33 (by decide) (fun c_14 => ?_) (fun c_14 => ?_)
      · refine lv_iload hx hb dX5_worked_43 (lv_at hl 6 rfl) ?_
        refine xv_int (y := nI (x5Nx nw (20 + 16 * a0) j0 m0 b0)) (congrArg nI (show _ = x5Nx nw (20 + 16 * a0) j0 m0 b0 by rw [x5Nx, if_pos c_14])) ?_
        exact K_45 () _ (lv_sub hl [0, 1, 2, 3, 4, 5, 6] rfl)
      · refine lv_iload hx hb dX5_worked_36 (lv_at hl 6 rfl) ?_
        refine lv_iconst (v := 1) hx hb dX5_worked_38 (by decide) ?_
        refine lv_iadd hx hb dX5_worked_39 ?_
        refine xv_int (y := nI (b0 + 1)) (nI_1 b0) ?_
        refine lv_goto (tgt := 45) hx hb dX5_worked_40 (by decide) ?_
        refine xv_int (y := nI (x5Nx nw (20 + 16 * a0) j0 m0 b0)) (congrArg nI (show _ = x5Nx nw (20 + 16 * a0) j0 m0 b0 by rw [x5Nx, if_neg c_14])) ?_
        exact K_45 () _ (lv_sub hl [0, 1, 2, 3, 4, 5, 6] rfl)
  · intro K_29
    refine lv_iload hx hb dX5_worked_10 (lv_at hl 0 rfl) ?_
    refine lv_iload hx hb dX5_worked_12 (lv_at hl 5 rfl) ?_
    refine lv_icmp_ne (tgt := 28) hx hb dX5_worked_14 (by decide) (fun c_15 => ?_) (fun c_15 => ?_)
    · refine lv_iconst (v := 0) hx hb dX5_worked_28 (by decide) ?_
      refine xv_int (y := x5Is nw (20 + 16 * a0) j0 m0 b0) (by rw [x5Is, if_neg c_15]) ?_
      exact K_29 () _ (lv_sub hl [0, 1, 2, 3, 4, 5] rfl)
    · refine lv_iload hx hb dX5_worked_17 (lv_at hl 5 rfl) ?_
      refine lv_bipush (v := 12) hx hb dX5_worked_19 (by decide) ?_
      refine lv_icmp_ge (tgt := 28) hx hb dX5_worked_21 (by decide) (fun c_16 => ?_) (fun c_16 => ?_)
      · refine lv_iconst (v := 0) hx hb dX5_worked_28 (by decide) ?_
        refine xv_int (y := x5Is nw (20 + 16 * a0) j0 m0 b0) (by rw [x5Is, if_pos c_15, if_neg (Int32.not_lt.mpr c_16)]) ?_
        exact K_29 () _ (lv_sub hl [0, 1, 2, 3, 4, 5] rfl)
      · refine lv_iconst (v := 1) hx hb dX5_worked_24 (by decide) ?_
        refine lv_goto (tgt := 29) hx hb dX5_worked_25 (by decide) ?_
        refine xv_int (y := x5Is nw (20 + 16 * a0) j0 m0 b0) (by rw [x5Is, if_pos c_15, if_pos (Int32.not_le.mp c_16)]) ?_
        exact K_29 () _ (lv_sub hl [0, 1, 2, 3, 4, 5] rfl)

/-! the reference: the working out -/

set_option maxHeartbeats 4000000 in
set_option maxRecDepth 100000 in
theorem g_X5_workOut (l : Launch) (D : va_G) (cI cL cZ cC : ClassId) (sz : Nat) (g0 : Nat) (ra : Nat) (wa : Nat) (ta : Nat) (ma : Nat) (pa : Nat) (ba : Nat) (ka : Nat) (fa : Nat) (qa : Nat) (ea : Nat) (za : Nat) (ya : Nat) (kpt : Int32) (mkd : Int32) (tpd : Int32) (at0 : Int32) (wel : Int32) (srt : Int32) (wks : Int32) (st : Nat) (nw : Nat → Int32) (a0 : Nat) (wn : Nat → Nat) (y : Nat → Int32) (hn0 : nw 0 = nI st) (hs1 : 1 ≤ st) (hs7 : st ≤ 7) (ha : a0 ≤ 2) (hq2 : ¬ nw 2 = 0) (hwn : ∀ j, 1 ≤ j → j ≤ st → (xLm nw st j + nw 2 - 1) / nw 2 = nI (wn j) ∧ wn j ≤ 1000) : Met l yX5_workOut wsX5_workOut ({ frames := 6, cells := 0, slots := 0, locals := 148 } : Room) (wPc D [.ref g0, .int (nI a0)] [(g0, .inr (5, [.ref ra, .ref wa, .ref ta, .int kpt, .ref ma, .int mkd, .ref pa, .int tpd, .int at0, .int wel, .ref ba, .ref ka, .int srt, .ref fa, .ref qa, .ref ea, .ref za, .ref ya, .int wks])), (wa, .inl (cI, 70, .inl nw)), (ya, .inl (cI, 5600, .inl y))] (xTy cI cL cZ cC) sz) (va_Qv (fun (_ : Unit) => True) (fun (_ : Unit) t => ∃ wk9 : Int32, va_P D vwCl [(g0, .inr (5, [.ref ra, .ref wa, .ref ta, .int kpt, .ref ma, .int mkd, .ref pa, .int tpd, .int at0, .int wel, .ref ba, .ref ka, .int srt, .ref fa, .ref qa, .ref ea, .ref za, .ref ya, .int wk9])), (wa, .inl (cI, 70, .inl nw)), (ya, .inl (cI, 5600, .inl (x5Y3 st nw (20 + 16 * a0) wn y st)))] t.heap ∧ va_D (va_A [(g0, .inr (5, [.ref ra, .ref wa, .ref ta, .int kpt, .ref ma, .int mkd, .ref pa, .int tpd, .int at0, .int wel, .ref ba, .ref ka, .int srt, .ref fa, .ref qa, .ref ea, .ref za, .ref ya, .int wks])), (wa, .inl (cI, 70, .inl nw)), (ya, .inl (cI, 5600, .inl y))] sz) [(g0, .inr (5, [.ref ra, .ref wa, .ref ta, .int kpt, .ref ma, .int mkd, .ref pa, .int tpd, .int at0, .int wel, .ref ba, .ref ka, .int srt, .ref fa, .ref qa, .ref ea, .ref za, .ref ya, .int wk9])), (wa, .inl (cI, 70, .inl nw)), (ya, .inl (cI, 5600, .inl (x5Y3 st nw (20 + 16 * a0) wn y st)))]) (va_A [(g0, .inr (5, [.ref ra, .ref wa, .ref ta, .int kpt, .ref ma, .int mkd, .ref pa, .int tpd, .int at0, .int wel, .ref ba, .ref ka, .int srt, .ref fa, .ref qa, .ref ea, .ref za, .ref ya, .int wks])), (wa, .inl (cI, 70, .inl nw)), (ya, .inl (cI, 5600, .inl y))] sz)) 0 0 (va_A [(g0, .inr (5, [.ref ra, .ref wa, .ref ta, .int kpt, .ref ma, .int mkd, .ref pa, .int tpd, .int at0, .int wel, .ref ba, .ref ka, .int srt, .ref fa, .ref qa, .ref ea, .ref za, .ref ya, .int wks])), (wa, .inl (cI, 70, .inl nw)), (ya, .inl (cI, 5600, .inl y))] sz) := by
  refine Met.ofW (cc := cX5_workOut) (maxL := 5) (ret := none) (by decide) rfl ?_
  intro p e s m args below meth c s₁ B hml hv
  obtain ⟨rfl, hsz, hP, hK, hD0⟩ := hv
  have hx := B.exec
  have hb := B.bytes
  have hr := B.returns
  have hts := atoms_spec (ws := wsX5_workOut) B.pre
  have hown : s.vm.findClass RX5 = some m.cls := findClass_of_methodNamed B.named
  have hlocks := B.notSynchronized
  have hwX5 : ∀ w ∈ u_ws RX5 TX5 19, w ∈ wsX5_workOut := fun _ h => List.mem_cons_of_mem _ (List.mem_append_right _ h)
  subst hsz
  have hD := hD0.self (sz := s.heap.size)
  generalize hAe : va_A [(g0, .inr (5, [.ref ra, .ref wa, .ref ta, .int kpt, .ref ma, .int mkd, .ref pa, .int tpd, .int at0, .int wel, .ref ba, .ref ka, .int srt, .ref fa, .ref qa, .ref ea, .ref za, .ref ya, .int wks])), (wa, .inl (cI, 70, .inl nw)), (ya, .inl (cI, 5600, .inl y))] s.heap.size = A at hD ⊢
  have hA : ∀ q : Nat, s.heap.size ≤ q → A q := fun q h => by rw [← hAe]; exact Or.inr h
  have hS : va_S A s.heap s.heap [] := va_S.rf
  have hP : va_P D vwCl [(g0, .inr (5, [.ref ra, .ref wa, .ref ta, .int kpt, .ref ma, .int mkd, .ref pa, .int tpd, .int at0, .int wel, .ref ba, .ref ka, .int srt, .ref fa, .ref qa, .ref ea, .ref za, .ref ya, .int wks])), (wa, .inl (cI, 70, .inl nw)), (ya, .inl (cI, 5600, .inl y))] s.heap := hP
  have hl := lv_entry ([.ref g0, .int (nI a0)]) (n := 5) (Nat.le_of_ble_eq_true rfl)
  rw [lg_entry_eq]
  generalize (lg_sl ([.ref g0, .int (nI a0)]) ++ List.replicate (5 - (lg_sl ([.ref g0, .int (nI a0)])).length) Slot.unset).toArray = ls at hl ⊢
  have hl : lv_has ls 5 [(0, .ref g0), (1, .int (nI a0))] := hl
  refine lv_aload_n hx hb dX5_workOut_0 rfl (lv_at hl 0 rfl) ?_
  refine va_get (D := D) (ci := 5) (v := .ref wa) (C := RX5) (T := TX5) (N := 19) hx hb hts hwX5 hown hK hP 0 rfl rfl 1 (by decide) (hts (.fieldLink RX5 19 "WaitOrWalkOnModel" "now" "[I") (by decide +kernel)) (fun _ h9 => h9) rfl dX5_workOut_1 ?_
  refine lv_iconst (v := 0) hx hb dX5_workOut_4 (by decide) ?_
  refine va_iald (D := D) hx hb hK hP 1 0 rfl rfl (by unfold vp_in; decide +kernel) dX5_workOut_5 ?_
  refine xv_int (y := nw 0) rfl ?_
  refine xv_int (y := nI st) (hn0) ?_
  refine lv_iconst (v := 1) hx hb dX5_workOut_6 (by decide) ?_
  refine lv_isub hx hb dX5_workOut_7 ?_
  refine xv_int (y := nI (st - 0) - 1) (by rw [Nat.sub_zero]) ?_
  refine lv_istore_n (lv' := [(2, .int (nI (st - 0) - 1)), (0, .ref g0), (1, .int (nI a0))]) hx hb dX5_workOut_8 rfl hl (by decide) rfl (fun ls hl => ?_)
  refine xl_loopH (σ := Nat × (Nat → Int32) × Int32) (fun n q H locs ls => lv_has ls 5 [(2, .int (nI (st - q.1) - 1)), (0, .ref g0), (1, .int (nI a0))] ∧ va_P D vwCl [(g0, .inr (5, [.ref ra, .ref wa, .ref ta, .int kpt, .ref ma, .int mkd, .ref pa, .int tpd, .int at0, .int wel, .ref ba, .ref ka, .int srt, .ref fa, .ref qa, .ref ea, .ref za, .ref ya, .int q.2.2])), (wa, .inl (cI, 70, .inl nw)), (ya, .inl (cI, 5600, .inl q.2.1))] H ∧ va_D A [(g0, .inr (5, [.ref ra, .ref wa, .ref ta, .int kpt, .ref ma, .int mkd, .ref pa, .int tpd, .int at0, .int wel, .ref ba, .ref ka, .int srt, .ref fa, .ref qa, .ref ea, .ref za, .ref ya, .int q.2.2])), (wa, .inl (cI, 70, .inl nw)), (ya, .inl (cI, 5600, .inl q.2.1))] ∧ va_S A s.heap H locs ∧ (st - q.1 < n) ∧ (q.1 ≤ st) ∧ (q.2.1 = x5Y3 st nw (20 + 16 * a0) wn y q.1)) (st + 1) (0, y, wks) ⟨lv_sub hl [0, 1, 2] rfl, hP.sub [0, 1, 2] rfl, hD.sub [0, 1, 2] (by decide) rfl, hS, by (try dsimp only); exact ⟨by omega, by omega, rfl⟩⟩ (fun q H lc ls h => absurd h.2.2.2.2.1 (Nat.not_lt_zero _)) ?_
  intro n_9 q_9 H locs ls ih_9 hI_9
  obtain ⟨hl, hP, hD, hS, hI_9⟩ := hI_9
  obtain ⟨i, g, wk⟩ := q_9
  obtain ⟨h1, h2, h3⟩ := hI_9
  try dsimp only at hl hP hD h1 h2 h3
  refine lv_iload_n hx hb dX5_workOut_9 rfl (lv_at hl 0 rfl) ?_
  refine lv_if_lt (tgt := 86) hx hb dX5_workOut_10 (by decide) (fun c_1 => ?_) (fun c_1 => ?_)
  · have hP9 := hP.sub (ws' := [(g0, .inr (5, [.ref ra, .ref wa, .ref ta, .int kpt, .ref ma, .int mkd, .ref pa, .int tpd, .int at0, .int wel, .ref ba, .ref ka, .int srt, .ref fa, .ref qa, .ref ea, .ref za, .ref ya, .int wk])), (wa, .inl (cI, 70, .inl nw)), (ya, .inl (cI, 5600, .inl g))]) [0, 1, 2] rfl
    have hD9 := hD.sub (ws' := [(g0, .inr (5, [.ref ra, .ref wa, .ref ta, .int kpt, .ref ma, .int mkd, .ref pa, .int tpd, .int at0, .int wel, .ref ba, .ref ka, .int srt, .ref fa, .ref qa, .ref ea, .ref za, .ref ya, .int wk])), (wa, .inl (cI, 70, .inl nw)), (ya, .inl (cI, 5600, .inl g))]) [0, 1, 2] (by decide) rfl
    have hE9 : ([(g0, .inr (5, [.ref ra, .ref wa, .ref ta, .int kpt, .ref ma, .int mkd, .ref pa, .int tpd, .int at0, .int wel, .ref ba, .ref ka, .int srt, .ref fa, .ref qa, .ref ea, .ref za, .ref ya, .int wk])), (wa, .inl (cI, 70, .inl nw)), (ya, .inl (cI, 5600, .inl g))] : va_W) = [(g0, .inr (5, [.ref ra, .ref wa, .ref ta, .int kpt, .ref ma, .int mkd, .ref pa, .int tpd, .int at0, .int wel, .ref ba, .ref ka, .int srt, .ref fa, .ref qa, .ref ea, .ref za, .ref ya, .int wk])), (wa, .inl (cI, 70, .inl nw)), (ya, .inl (cI, 5600, .inl (x5Y3 st nw (20 + 16 * a0) wn y st)))] := by have w := (x5D_z (n := i) (by omega) h2).mp c_1; rw [h3, ← w]
    exact W.vret hx hb hr (fun t ht hW => ⟨⟨(), rfl, trivial, (wk : Int32), by rw [ht]; exact hE9 ▸ hP9, hE9 ▸ hD9⟩, hS.F ht⟩) hS.2.2 dX5_workOut_86
  · have w4 : i < st := by have w := mt (x5D_z (n := i) (by omega) h2).mpr c_1; omega
    have e13 : nI (st - i) - 1 = nI (st - i - 1) := pk_sub (a := st - i) (b := 1) (by omega)
    rw [e13] at hl
    refine lv_bipush (v := 60) hx hb dX5_workOut_13 (by decide) ?_
    refine xv_int (y := nI (61 - 0) - 1) (by decide +kernel) ?_
    refine lv_istore_n (lv' := [(3, .int (nI (61 - 0) - 1)), (2, .int (nI (st - i - 1))), (0, .ref g0), (1, .int (nI a0))]) hx hb dX5_workOut_15 rfl hl (by decide) rfl (fun ls hl => ?_)
    refine xl_loopH (σ := Nat × (Nat → Int32) × Int32) (fun n q H locs ls => lv_has ls 5 [(3, .int (nI (61 - q.1) - 1)), (2, .int (nI (st - i - 1))), (0, .ref g0), (1, .int (nI a0))] ∧ va_P D vwCl [(g0, .inr (5, [.ref ra, .ref wa, .ref ta, .int kpt, .ref ma, .int mkd, .ref pa, .int tpd, .int at0, .int wel, .ref ba, .ref ka, .int srt, .ref fa, .ref qa, .ref ea, .ref za, .ref ya, .int q.2.2])), (wa, .inl (cI, 70, .inl nw)), (ya, .inl (cI, 5600, .inl q.2.1))] H ∧ va_D A [(g0, .inr (5, [.ref ra, .ref wa, .ref ta, .int kpt, .ref ma, .int mkd, .ref pa, .int tpd, .int at0, .int wel, .ref ba, .ref ka, .int srt, .ref fa, .ref qa, .ref ea, .ref za, .ref ya, .int q.2.2])), (wa, .inl (cI, 70, .inl nw)), (ya, .inl (cI, 5600, .inl q.2.1))] ∧ va_S A s.heap H locs ∧ (61 - q.1 < n) ∧ (q.1 ≤ 61) ∧ (q.2.1 = x5Y2 st nw (20 + 16 * a0) wn (x5Y3 st nw (20 + 16 * a0) wn y i) (st - i - 1) q.1)) (62) (0, g, wk) ⟨lv_sub hl [0, 1, 2, 3] rfl, hP.sub [0, 1, 2] rfl, hD.sub [0, 1, 2] (by decide) rfl, hS, by (try dsimp only); exact ⟨by omega, by omega, h3⟩⟩ (fun q H lc ls h => absurd h.2.2.2.2.1 (Nat.not_lt_zero _)) ?_
    intro n_16 q_16 H locs ls ih_16 hI_16
    obtain ⟨hl, hP, hD, hS, hI_16⟩ := hI_16
    obtain ⟨u, g2, wk2⟩ := q_16
    obtain ⟨i1, i2, i3⟩ := hI_16
    try dsimp only at hl hP hD i1 i2 i3
    refine lv_iload_n hx hb dX5_workOut_16 rfl (lv_at hl 0 rfl) ?_
    refine lv_if_lt (tgt := 80) hx hb dX5_workOut_17 (by decide) (fun c_2 => ?_) (fun c_2 => ?_)
    · refine lv_iinc (v := nI (st - (i + 1)) - 1) (lv' := [(2, .int (nI (st - (i + 1)) - 1)), (3, .int (nI (61 - u) - 1)), (0, .ref g0), (1, .int (nI a0))]) hx hb dX5_workOut_80 hl (k := 1) rfl (x5D_i w4) (by decide) rfl (fun ls hl => ?_)
      refine lv_goto (tgt := 9) hx hb dX5_workOut_83 (by decide) ?_
      have w9 := (x5D_z (n := u) (by omega) i2).mp c_2
      have e30 : g2 = x5Y3 st nw (20 + 16 * a0) wn y (i + 1) := by rw [i3, ← w9]; rfl
      exact ih_9 (i + 1, g2, wk2) _ _ _ ⟨lv_sub hl [0, 2, 3] rfl, hP.sub [0, 1, 2] rfl, hD.sub [0, 1, 2] (by decide) rfl, hS, by (try dsimp only); exact ⟨by omega, by omega, e30⟩⟩
    · have w5 : u < 61 := by have w := mt (x5D_z (n := u) (by omega) i2).mpr c_2; omega
      have e20 : nI (61 - u) - 1 = nI (61 - u - 1) := pk_sub (a := 61 - u) (b := 1) (by omega)
      rw [e20] at hl
      have w6 := x5Fs_le nw (20 + 16 * a0) (st - i - 1) (nI (61 - u - 1))
      refine lv_bipush (v := 12) hx hb dX5_workOut_20 (by decide) ?_
      refine lv_iconst (v := 0) hx hb dX5_workOut_22 (by decide) ?_
      refine lv_iload_n hx hb dX5_workOut_23 rfl (lv_at hl 0 rfl) ?_
      refine lv_aload_n hx hb dX5_workOut_24 rfl (lv_at hl 2 rfl) ?_
      refine lv_iload_n hx hb dX5_workOut_25 rfl (lv_at hl 3 rfl) ?_
      refine lv_iload_n hx hb dX5_workOut_26 rfl (lv_at hl 1 rfl) ?_
      have hPc := hP.sub (ws' := [(g0, .inr (5, [.ref ra, .ref wa, .ref ta, .int kpt, .ref ma, .int mkd, .ref pa, .int tpd, .int at0, .int wel, .ref ba, .ref ka, .int srt, .ref fa, .ref qa, .ref ea, .ref za, .ref ya, .int wk2])), (wa, .inl (cI, 70, .inl nw))]) [0, 1] rfl
      refine vp_callSi (va_Run.run (va_runV (As := [.int (nI a0), .int (nI (st - i - 1))]) (rest := [.int (nI (61 - u - 1)), .int 0, .int 12]) ⟨hx, hb, hml, hown, hts⟩ (g_X5_to l D cI cL cZ cC g0 ra wa ta ma pa ba ka fa qa ea za ya kpt mkd tpd at0 wel srt wk2 st nw a0 (st - i - 1) (by first | assumption | decide +kernel) (by first | assumption | decide +kernel) (by first | assumption | decide +kernel) (by omega) (by omega)) (cwV 2 hts gX5_workOut_X5_to rfl rfl rfl (by decide +kernel) ⟨Nat.le_of_ble_eq_true rfl, Nat.le_of_ble_eq_true rfl⟩) ⟨xPc_bl, va_recv hK hPc (ci := 5) (q0 := 0) rfl rfl, xPc_use hPc hK⟩ rfl rfl hl.1 rfl (lv_room (Nat.le_of_ble_eq_true rfl)) dX5_workOut_27 ⟨Nat.le_of_ble_eq_true rfl, Nat.le_of_ble_eq_true rfl⟩)) (fun r_3 er_3 => ?_)
      obtain rfl : (xSm (fun i => sRd (nw (20 + 16 * a0)) (nw (20 + 16 * a0 + 1)) (nI i)) (st - i - 1) : Int32) = r_3 := Eq.symm er_3
      refine lv_isub hx hb dX5_workOut_30 ?_
      refine va_mmax hx hb (hml.trans hl.1.symm) hown (hts (.methodLink RX5 152 Lib.Math.max.name) (by decide +kernel)) (hts (.static Lib.Math.max.name) (by decide +kernel)) (hts (.initialized "java/lang/Math") (by decide +kernel)) (hts (.code Lib.Math.max.name Lib.Math.max.code 2 (some .int)) (by decide +kernel)) (Nat.le_of_ble_eq_true rfl) (Nat.le_of_ble_eq_true rfl) (Nat.le_of_ble_eq_true rfl) (Nat.le_of_ble_eq_true rfl) dX5_workOut_31 ?_
      refine va_mmin hx hb (hml.trans hl.1.symm) hown (hts (.methodLink RX5 157 Lib.Math.min.name) (by decide +kernel)) (hts (.static Lib.Math.min.name) (by decide +kernel)) (hts (.initialized "java/lang/Math") (by decide +kernel)) (hts (.code Lib.Math.min.name Lib.Math.min.code 2 (some .int)) (by decide +kernel)) (Nat.le_of_ble_eq_true rfl) (Nat.le_of_ble_eq_true rfl) (Nat.le_of_ble_eq_true rfl) (Nat.le_of_ble_eq_true rfl) dX5_workOut_34 ?_
      refine xv_int (y := nI ((x5Fs nw (20 + 16 * a0) (st - i - 1) (nI (61 - u - 1))) + 0)) (xBd_n (le := 0) (by decide)) ?_
      refine lv_istore (lv' := [(4, .int (nI ((x5Fs nw (20 + 16 * a0) (st - i - 1) (nI (61 - u - 1))) + 0))), (3, .int (nI (61 - u - 1))), (2, .int (nI (st - i - 1))), (0, .ref g0), (1, .int (nI a0))]) hx hb dX5_workOut_37 hl (by decide) rfl (fun ls hl => ?_)
      refine xl_loopH (σ := Nat × (Nat → Int32) × Int32) (fun n q H locs ls => lv_has ls 5 [(4, .int (nI ((x5Fs nw (20 + 16 * a0) (st - i - 1) (nI (61 - u - 1))) + q.1))), (3, .int (nI (61 - u - 1))), (2, .int (nI (st - i - 1))), (0, .ref g0), (1, .int (nI a0))] ∧ va_P D vwCl [(g0, .inr (5, [.ref ra, .ref wa, .ref ta, .int kpt, .ref ma, .int mkd, .ref pa, .int tpd, .int at0, .int wel, .ref ba, .ref ka, .int srt, .ref fa, .ref qa, .ref ea, .ref za, .ref ya, .int q.2.2])), (wa, .inl (cI, 70, .inl nw)), (ya, .inl (cI, 5600, .inl q.2.1))] H ∧ va_D A [(g0, .inr (5, [.ref ra, .ref wa, .ref ta, .int kpt, .ref ma, .int mkd, .ref pa, .int tpd, .int at0, .int wel, .ref ba, .ref ka, .int srt, .ref fa, .ref qa, .ref ea, .ref za, .ref ya, .int q.2.2])), (wa, .inl (cI, 70, .inl nw)), (ya, .inl (cI, 5600, .inl q.2.1))] ∧ va_S A s.heap H locs ∧ (13 - q.1 < n) ∧ ((x5Fs nw (20 + 16 * a0) (st - i - 1) (nI (61 - u - 1))) + q.1 ≤ 13) ∧ (q.2.1 = x5Y1 st nw (20 + 16 * a0) wn (x5Y2 st nw (20 + 16 * a0) wn (x5Y3 st nw (20 + 16 * a0) wn y i) (st - i - 1) u) (st - i - 1) (61 - u - 1) (x5Fs nw (20 + 16 * a0) (st - i - 1) (nI (61 - u - 1))) q.1)) (14) (0, g2, wk2) ⟨lv_sub hl [0, 1, 2, 3, 4] rfl, hP.sub [0, 1, 2] rfl, hD.sub [0, 1, 2] (by decide) rfl, hS, by (try dsimp only); exact ⟨by omega, by omega, i3⟩⟩ (fun q H lc ls h => absurd h.2.2.2.2.1 (Nat.not_lt_zero _)) ?_
      intro n_39 q_39 H locs ls ih_39 hI_39
      obtain ⟨hl, hP, hD, hS, hI_39⟩ := hI_39
      obtain ⟨v, g3, wk3⟩ := q_39
      obtain ⟨j1, j2, j3⟩ := hI_39
      try dsimp only at hl hP hD j1 j2 j3
      refine lv_iload hx hb dX5_workOut_39 (lv_at hl 0 rfl) ?_
      refine lv_bipush (v := 12) hx hb dX5_workOut_41 (by decide) ?_
      refine lv_icmp_gt (tgt := 74) hx hb dX5_workOut_43 (by decide) (fun c_4 => ?_) (fun c_4 => ?_)
      · refine lv_iinc (v := nI (61 - (u + 1)) - 1) (lv' := [(3, .int (nI (61 - (u + 1)) - 1)), (4, .int (nI ((x5Fs nw (20 + 16 * a0) (st - i - 1) (nI (61 - u - 1))) + v))), (2, .int (nI (st - i - 1))), (0, .ref g0), (1, .int (nI a0))]) hx hb dX5_workOut_74 hl (k := 1) rfl (x5D_i w5) (by decide) rfl (fun ls hl => ?_)
        refine lv_goto (tgt := 16) hx hb dX5_workOut_77 (by decide) ?_
        have w9 := (nI_ltI (a := 12) (b := (x5Fs nw (20 + 16 * a0) (st - i - 1) (nI (61 - u - 1))) + v) (by decide) (by omega)).mp c_4
        have e31 : g3 = x5Y2 st nw (20 + 16 * a0) wn (x5Y3 st nw (20 + 16 * a0) wn y i) (st - i - 1) (u + 1) := by rw [j3, show v = 13 - (x5Fs nw (20 + 16 * a0) (st - i - 1) (nI (61 - u - 1))) by omega]; rfl
        exact ih_16 (u + 1, g3, wk3) _ _ _ ⟨lv_sub hl [0, 2, 3, 4] rfl, hP.sub [0, 1, 2] rfl, hD.sub [0, 1, 2] (by decide) rfl, hS, by (try dsimp only); exact ⟨by omega, by omega, e31⟩⟩
      · refine lv_aload_n hx hb dX5_workOut_46 rfl (lv_at hl 3 rfl) ?_
        refine va_get (D := D) (ci := 5) (v := .ref ya) (C := RX5) (T := TX5) (N := 19) hx hb hts hwX5 hown hK hP 0 rfl rfl 17 (by decide) (hts (.fieldLink RX5 50 "WaitOrWalkOnModel" "value" "[I") (by decide +kernel)) (fun _ h9 => h9) rfl dX5_workOut_47 ?_
        refine lv_aload_n hx hb dX5_workOut_50 rfl (lv_at hl 3 rfl) ?_
        refine lv_iload_n hx hb dX5_workOut_51 rfl (lv_at hl 2 rfl) ?_
        refine lv_iload_n hx hb dX5_workOut_52 rfl (lv_at hl 1 rfl) ?_
        refine lv_iload hx hb dX5_workOut_53 (lv_at hl 0 rfl) ?_
        have hPc := hP.sub (ws' := [(g0, .inr (5, [.ref ra, .ref wa, .ref ta, .int kpt, .ref ma, .int mkd, .ref pa, .int tpd, .int at0, .int wel, .ref ba, .ref ka, .int srt, .ref fa, .ref qa, .ref ea, .ref za, .ref ya, .int wk3]))]) [0] rfl
        refine vp_callSi (va_Run.run (va_runV (As := [.int (nI (st - i - 1)), .int (nI (61 - u - 1)), .int (nI ((x5Fs nw (20 + 16 * a0) (st - i - 1) (nI (61 - u - 1))) + v))]) (rest := [.ref ya]) ⟨hx, hb, hml, hown, hts⟩ (g_X5_cell l D cI cL cZ cC g0 ra wa ta ma pa ba ka fa qa ea za ya kpt mkd tpd at0 wel srt wk3 (st - i - 1) (61 - u - 1) ((x5Fs nw (20 + 16 * a0) (st - i - 1) (nI (61 - u - 1))) + v) ) (cwV 3 hts gX5_workOut_X5_cell rfl rfl rfl (by decide +kernel) ⟨Nat.le_of_ble_eq_true rfl, Nat.le_of_ble_eq_true rfl⟩) ⟨xPc_bl, va_recv hK hPc (ci := 5) (q0 := 0) rfl rfl, xPc_use hPc hK⟩ rfl rfl hl.1 rfl (lv_room (Nat.le_of_ble_eq_true rfl)) dX5_workOut_55 ⟨Nat.le_of_ble_eq_true rfl, Nat.le_of_ble_eq_true rfl⟩)) (fun r_5 er_5 => ?_)
        obtain rfl : (nI (((st - i - 1) * 61 + (61 - u - 1)) * 13 + ((x5Fs nw (20 + 16 * a0) (st - i - 1) (nI (61 - u - 1))) + v)) : Int32) = r_5 := Eq.symm er_5
        refine lv_aload_n hx hb dX5_workOut_58 rfl (lv_at hl 3 rfl) ?_
        refine lv_iload_n hx hb dX5_workOut_59 rfl (lv_at hl 4 rfl) ?_
        refine lv_iload_n hx hb dX5_workOut_60 rfl (lv_at hl 2 rfl) ?_
        refine lv_iload_n hx hb dX5_workOut_61 rfl (lv_at hl 1 rfl) ?_
        refine lv_iload hx hb dX5_workOut_62 (lv_at hl 0 rfl) ?_
        have hPc := hP.sub (ws' := [(g0, .inr (5, [.ref ra, .ref wa, .ref ta, .int kpt, .ref ma, .int mkd, .ref pa, .int tpd, .int at0, .int wel, .ref ba, .ref ka, .int srt, .ref fa, .ref qa, .ref ea, .ref za, .ref ya, .int wk3])), (wa, .inl (cI, 70, .inl nw)), (ya, .inl (cI, 5600, .inl g3))]) [0, 1, 2] rfl
        have hDc := hD.sub (ws' := [(g0, .inr (5, [.ref ra, .ref wa, .ref ta, .int kpt, .ref ma, .int mkd, .ref pa, .int tpd, .int at0, .int wel, .ref ba, .ref ka, .int srt, .ref fa, .ref qa, .ref ea, .ref za, .ref ya, .int wk3])), (wa, .inl (cI, 70, .inl nw)), (ya, .inl (cI, 5600, .inl g3))]) [0, 1, 2] (by decide) rfl
        have hFc := va_free (wc := [(g0, .inr (5, [.ref ra, .ref wa, .ref ta, .int kpt, .ref ma, .int mkd, .ref pa, .int tpd, .int at0, .int wel, .ref ba, .ref ka, .int srt, .ref fa, .ref qa, .ref ea, .ref za, .ref ya, .int wk3])), (wa, .inl (cI, 70, .inl nw)), (ya, .inl (cI, 5600, .inl g3))]) hD hS hA [0, 1, 2] rfl
        refine va_calli (va_runV (As := [.int (nI a0), .int (nI (st - i - 1)), .int (nI (61 - u - 1)), .int (nI ((x5Fs nw (20 + 16 * a0) (st - i - 1) (nI (61 - u - 1))) + v))]) (rest := [.int (nI (((st - i - 1) * 61 + (61 - u - 1)) * 13 + ((x5Fs nw (20 + 16 * a0) (st - i - 1) (nI (61 - u - 1))) + v))), .ref ya]) ⟨hx, hb, hml, hown, hts⟩ (g_X5_worked l D cI cL cZ cC _ g0 ra wa ta ma pa ba ka fa qa ea za ya kpt mkd tpd at0 wel srt wk3 st nw a0 wn (st - i - 1) (61 - u - 1) ((x5Fs nw (20 + 16 * a0) (st - i - 1) (nI (61 - u - 1))) + v) g3 (by first | assumption | decide +kernel) (by first | assumption | decide +kernel) (by first | assumption | decide +kernel) (by first | assumption | decide +kernel) (by first | assumption | decide +kernel) (hwn) (by omega) (by omega) (by have w := mt (nI_ltI (a := 12) (b := (x5Fs nw (20 + 16 * a0) (st - i - 1) (nI (61 - u - 1))) + v) (by decide) (by omega)).mpr c_4; omega)) (cwV 4 hts gX5_workOut_X5_worked rfl rfl rfl (by decide +kernel) ⟨Nat.le_of_ble_eq_true rfl, Nat.le_of_ble_eq_true rfl⟩) ⟨wPc_bl, va_recv hK hPc (ci := 5) (q0 := 0) rfl rfl, wPc_use hPc hK hDc⟩ rfl rfl hl.1 rfl (lv_room (Nat.le_of_ble_eq_true rfl)) dX5_workOut_64 ⟨Nat.le_of_ble_eq_true rfl, Nat.le_of_ble_eq_true rfl⟩) hS (fun q _ h => hFc q h) hFc (fun r_6 u_6 t H1 locs ht hvm hw hB hz1 hk1 hS => ?_)
        obtain ⟨hP1, hD1⟩ := hB
        rw [ht] at hP1
        obtain ⟨hP, hD⟩ := va_join (wr := []) (w1 := [(g0, .inr (5, [.ref ra, .ref wa, .ref ta, .int kpt, .ref ma, .int mkd, .ref pa, .int tpd, .int at0, .int wel, .ref ba, .ref ka, .int srt, .ref fa, .ref qa, .ref ea, .ref za, .ref ya, .int (x5Wk st nw (20 + 16 * a0) wn g3 (st - i - 1) (61 - u - 1) ((x5Fs nw (20 + 16 * a0) (st - i - 1) (nI (61 - u - 1))) + v))])), (wa, .inl (cI, 70, .inl nw)), (ya, .inl (cI, 5600, .inl g3))]) hP hD [0, 1, 2] [] rfl rfl (by decide) (by decide) hk1 hFc hP1 hD1
        generalize H1 = H at hP hS ⊢
        have hP : va_P D vwCl [(g0, .inr (5, [.ref ra, .ref wa, .ref ta, .int kpt, .ref ma, .int mkd, .ref pa, .int tpd, .int at0, .int wel, .ref ba, .ref ka, .int srt, .ref fa, .ref qa, .ref ea, .ref za, .ref ya, .int (x5Wk st nw (20 + 16 * a0) wn g3 (st - i - 1) (61 - u - 1) ((x5Fs nw (20 + 16 * a0) (st - i - 1) (nI (61 - u - 1))) + v))])), (wa, .inl (cI, 70, .inl nw)), (ya, .inl (cI, 5600, .inl g3))] H := hP
        have hD : va_D A [(g0, .inr (5, [.ref ra, .ref wa, .ref ta, .int kpt, .ref ma, .int mkd, .ref pa, .int tpd, .int at0, .int wel, .ref ba, .ref ka, .int srt, .ref fa, .ref qa, .ref ea, .ref za, .ref ya, .int (x5Wk st nw (20 + 16 * a0) wn g3 (st - i - 1) (61 - u - 1) ((x5Fs nw (20 + 16 * a0) (st - i - 1) (nI (61 - u - 1))) + v))])), (wa, .inl (cI, 70, .inl nw)), (ya, .inl (cI, 5600, .inl g3))] := hD
        obtain rfl : (x5Wr st nw (20 + 16 * a0) wn g3 (st - i - 1) (61 - u - 1) ((x5Fs nw (20 + 16 * a0) (st - i - 1) (nI (61 - u - 1))) + v) : Int32) = r_6 := Eq.symm hw
        refine va_iast (D := D) hx hb hK hP hD hS 2 0 rfl rfl (vp_in_nI (by have w7 : (x5Fs nw (20 + 16 * a0) (st - i - 1) (nI (61 - u - 1))) + v ≤ 12 := (by have w := mt (nI_ltI (a := 12) (b := (x5Fs nw (20 + 16 * a0) (st - i - 1) (nI (61 - u - 1))) + v) (by decide) (by omega)).mpr c_4; omega); omega) (by decide)) dX5_workOut_67 (fun H locs hP hD hS => ?_)
        rw [nI_clamp (show ((st - i - 1) * 61 + (61 - u - 1)) * 13 + ((x5Fs nw (20 + 16 * a0) (st - i - 1) (nI (61 - u - 1))) + v) < 2 ^ 31 by omega)] at hP hD
        have hP : va_P D vwCl [(g0, .inr (5, [.ref ra, .ref wa, .ref ta, .int kpt, .ref ma, .int mkd, .ref pa, .int tpd, .int at0, .int wel, .ref ba, .ref ka, .int srt, .ref fa, .ref qa, .ref ea, .ref za, .ref ya, .int (x5Wk st nw (20 + 16 * a0) wn g3 (st - i - 1) (61 - u - 1) ((x5Fs nw (20 + 16 * a0) (st - i - 1) (nI (61 - u - 1))) + v))])), (wa, .inl (cI, 70, .inl nw)), (ya, .inl (cI, 5600, .inl (upd g3 (((st - i - 1) * 61 + (61 - u - 1)) * 13 + ((x5Fs nw (20 + 16 * a0) (st - i - 1) (nI (61 - u - 1))) + v)) (x5Wr st nw (20 + 16 * a0) wn g3 (st - i - 1) (61 - u - 1) ((x5Fs nw (20 + 16 * a0) (st - i - 1) (nI (61 - u - 1))) + v)))))] H := hP
        have hD : va_D A [(g0, .inr (5, [.ref ra, .ref wa, .ref ta, .int kpt, .ref ma, .int mkd, .ref pa, .int tpd, .int at0, .int wel, .ref ba, .ref ka, .int srt, .ref fa, .ref qa, .ref ea, .ref za, .ref ya, .int (x5Wk st nw (20 + 16 * a0) wn g3 (st - i - 1) (61 - u - 1) ((x5Fs nw (20 + 16 * a0) (st - i - 1) (nI (61 - u - 1))) + v))])), (wa, .inl (cI, 70, .inl nw)), (ya, .inl (cI, 5600, .inl (upd g3 (((st - i - 1) * 61 + (61 - u - 1)) * 13 + ((x5Fs nw (20 + 16 * a0) (st - i - 1) (nI (61 - u - 1))) + v)) (x5Wr st nw (20 + 16 * a0) wn g3 (st - i - 1) (61 - u - 1) ((x5Fs nw (20 + 16 * a0) (st - i - 1) (nI (61 - u - 1))) + v)))))] := hD
        refine lv_iinc (v := nI ((x5Fs nw (20 + 16 * a0) (st - i - 1) (nI (61 - u - 1))) + (v + 1))) (lv' := [(4, .int (nI ((x5Fs nw (20 + 16 * a0) (st - i - 1) (nI (61 - u - 1))) + (v + 1)))), (3, .int (nI (61 - u - 1))), (2, .int (nI (st - i - 1))), (0, .ref g0), (1, .int (nI a0))]) hx hb dX5_workOut_68 hl (k := 0) rfl (nI_1 ((x5Fs nw (20 + 16 * a0) (st - i - 1) (nI (61 - u - 1))) + v)) (by decide) rfl (fun ls hl => ?_)
        refine lv_goto (tgt := 39) hx hb dX5_workOut_71 (by decide) ?_
        have w7 : (x5Fs nw (20 + 16 * a0) (st - i - 1) (nI (61 - u - 1))) + v ≤ 12 := (by have w := mt (nI_ltI (a := 12) (b := (x5Fs nw (20 + 16 * a0) (st - i - 1) (nI (61 - u - 1))) + v) (by decide) (by omega)).mpr c_4; omega)
        exact ih_39 (v + 1, upd g3 (((st - i - 1) * 61 + (61 - u - 1)) * 13 + ((x5Fs nw (20 + 16 * a0) (st - i - 1) (nI (61 - u - 1))) + v)) (x5Wr st nw (20 + 16 * a0) wn g3 (st - i - 1) (61 - u - 1) ((x5Fs nw (20 + 16 * a0) (st - i - 1) (nI (61 - u - 1))) + v)), x5Wk st nw (20 + 16 * a0) wn g3 (st - i - 1) (61 - u - 1) ((x5Fs nw (20 + 16 * a0) (st - i - 1) (nI (61 - u - 1))) + v)) _ _ _ ⟨lv_sub hl [0, 1, 2, 3, 4] rfl, hP.sub [0, 1, 2] rfl, hD.sub [0, 1, 2] (by decide) rfl, hS, by (try dsimp only); exact ⟨by omega, by omega, x5Y1_s j3⟩⟩

def v5Be (st : Nat) (nw : Nat → Int32) (wn : Nat → Nat) (y : Nat → Int32) (a1 a2 a3 : Int32) : Int32 :=
  if xWs (fun i => nw (20 + 16 * a1.toNatClampNeg + i)) (x5Fs nw (20 + 16 * a1.toNatClampNeg) a2.toNatClampNeg a3) = 0 then -9
  else if x5Wk st nw (20 + 16 * a1.toNatClampNeg) wn (x5Y3 st nw (20 + 16 * a1.toNatClampNeg) wn y st) a2.toNatClampNeg a3.toNatClampNeg (x5Fs nw (20 + 16 * a1.toNatClampNeg) a2.toNatClampNeg a3) = 0 then 0 else 1
def v5Bm (st : Nat) (nw : Nat → Int32) (wn : Nat → Nat) (y : Nat → Int32) (a1 a2 a3 a4 : Int32) : Int64 :=
  xPt (x5Y3 st nw (20 + 16 * a1.toNatClampNeg) wn y st ((a2.toNatClampNeg * 61 + a3.toNatClampNeg) * 13 + x5Fs nw (20 + 16 * a1.toNatClampNeg) a2.toNatClampNeg a3)).toInt64 (xWs (fun i => nw (20 + 16 * a1.toNatClampNeg + i)) (x5Fs nw (20 + 16 * a1.toNatClampNeg) a2.toNatClampNeg a3)).toInt64 a4
/-- the first minute in which one walks, of so many from a place on; -9 as soon as it can not be -/
def x5Pa (w k : Nat → Int32) : Nat → Nat → Int32
  | 0, _ => -9
  | n + 1, m => if w m = 0 then -9 else if k m = 0 then x5Pa w k n (m + 1) else nI m
theorem x5Pa_z {w k : Nat → Int32} {m : Nat} (h : w m = 0) (hm : m < 60) : x5Pa w k (60 - m) m = -9 := by rw [show 60 - m = (60 - (m + 1)) + 1 by omega]; simp only [x5Pa]; rw [if_pos h]
theorem x5Pa_k {w k : Nat → Int32} {m : Nat} (h : ¬ w m = 0) (h2 : ¬ k m = 0) (hm : m < 60) : x5Pa w k (60 - m) m = nI m := by rw [show 60 - m = (60 - (m + 1)) + 1 by omega]; simp only [x5Pa]; rw [if_neg h, if_neg h2]
theorem x5Pa_s {w k : Nat → Int32} {m : Nat} (h : ¬ w m = 0) (h2 : k m = 0) (hm : m < 60) : x5Pa w k (60 - (m + 1)) (m + 1) = x5Pa w k (60 - m) m := by rw [show 60 - m = (60 - (m + 1)) + 1 by omega]; simp only [x5Pa]; rw [if_neg h, if_pos h2]
def v5Pa (st : Nat) (nw : Nat → Int32) (wn : Nat → Nat) (y : Nat → Int32) (a1 : Int32) : Int32 :=
  x5Pa (fun m => xWs (fun i => nw (20 + 16 * a1.toNatClampNeg + i)) (x5Fs nw (20 + 16 * a1.toNatClampNeg) 0 (nI m))) (fun m => x5Wk st nw (20 + 16 * a1.toNatClampNeg) wn (x5Y3 st nw (20 + 16 * a1.toNatClampNeg) wn y st) 0 m (x5Fs nw (20 + 16 * a1.toNatClampNeg) 0 (nI m))) 60 0
/-- what is taken off: the sums of one who is told -/
def x5Ns (a : Int32) (f : Nat → Int32) : Nat → Int32
  | 0 => a
  | n + 1 => x5Ns a f n - f n
def x5Nf (st : Nat) (nw : Nat → Int32) (lb : Nat) : Nat → Int32 := fun t => xWt (fun i => nw (lb + i)) t * xMn (xRs nw st 0) (nI t + xTO nw lb (st - 1) + (xLm nw st st + nw 2 - 1) / nw 2)
def v5Nw (st : Nat) (nw : Nat → Int32) (wn : Nat → Nat) (y : Nat → Int32) (a1 a2 : Int32) : Int64 :=
  xPt (x5Ns (x5Y3 st nw (20 + 16 * a1.toNatClampNeg) wn y st 0 - xWt (fun i => nw (20 + 16 * a1.toNatClampNeg + i)) 12 * xRs nw st 0) (x5Nf st nw (20 + 16 * a1.toNatClampNeg)) 12).toInt64 (xWs (fun i => nw (20 + 16 * a1.toNatClampNeg + i)) 0).toInt64 a2
