set_option maxHeartbeats 4000000 in
set_option maxRecDepth 100000 in
theorem g_X5_judge (l : Launch) (D : va_G) (cI cL cZ cC : ClassId) (sz : Nat) (g0 : Nat) (ra : Nat) (wa : Nat) (ta : Nat) (ma : Nat) (pa : Nat) (ba : Nat) (ka : Nat) (fa : Nat) (qa : Nat) (ea : Nat) (za : Nat) (ya : Nat) (kpt : Int32) (tpd : Int32) (at0 : Int32) (wel : Int32) (srt : Int32) (wks : Int32) (cn : Nat) (st : Nat) (nw : Nat → Int32) (mf : Nat → Int32) (hn0 : nw 0 = nI st) (hs1 : 1 ≤ st) (hs7 : st ≤ 7) (hcn : cn ≤ 12) (hq2 : ¬ nw 2 = 0) : Met l yX5_judge wsX5_judge ({ frames := 2, cells := 0, slots := 0, locals := 43 } : Room) (wPc D [.ref g0] [(g0, .inr (5, [.ref ra, .ref wa, .ref ta, .int kpt, .ref ma, .int (nI cn), .ref pa, .int tpd, .int at0, .int wel, .ref ba, .ref ka, .int srt, .ref fa, .ref qa, .ref ea, .ref za, .ref ya, .int wks])), (wa, .inl (cI, 70, .inl nw)), (ma, .inl (cI, 12, .inl mf))] (xTy cI cL cZ cC) sz) (va_Qi (fun (r : Int32) (_ : Unit) => r = x5D (x5Jb st nw mf) cn cn) (fun (_ : Unit) t => va_P D vwCl [(g0, .inr (5, [.ref ra, .ref wa, .ref ta, .int kpt, .ref ma, .int 0, .ref pa, .int tpd, .int at0, .int wel, .ref ba, .ref ka, .int srt, .ref fa, .ref qa, .ref ea, .ref za, .ref ya, .int wks])), (wa, .inl (cI, 70, .inl nw)), (ma, .inl (cI, 12, .inl mf))] t.heap ∧ va_D (va_A [(g0, .inr (5, [.ref ra, .ref wa, .ref ta, .int kpt, .ref ma, .int (nI cn), .ref pa, .int tpd, .int at0, .int wel, .ref ba, .ref ka, .int srt, .ref fa, .ref qa, .ref ea, .ref za, .ref ya, .int wks])), (wa, .inl (cI, 70, .inl nw)), (ma, .inl (cI, 12, .inl mf))] sz) [(g0, .inr (5, [.ref ra, .ref wa, .ref ta, .int kpt, .ref ma, .int 0, .ref pa, .int tpd, .int at0, .int wel, .ref ba, .ref ka, .int srt, .ref fa, .ref qa, .ref ea, .ref za, .ref ya, .int wks])), (wa, .inl (cI, 70, .inl nw)), (ma, .inl (cI, 12, .inl mf))]) (va_A [(g0, .inr (5, [.ref ra, .ref wa, .ref ta, .int kpt, .ref ma, .int (nI cn), .ref pa, .int tpd, .int at0, .int wel, .ref ba, .ref ka, .int srt, .ref fa, .ref qa, .ref ea, .ref za, .ref ya, .int wks])), (wa, .inl (cI, 70, .inl nw)), (ma, .inl (cI, 12, .inl mf))] sz)) 0 0 (va_A [(g0, .inr (5, [.ref ra, .ref wa, .ref ta, .int kpt, .ref ma, .int (nI cn), .ref pa, .int tpd, .int at0, .int wel, .ref ba, .ref ka, .int srt, .ref fa, .ref qa, .ref ea, .ref za, .ref ya, .int wks])), (wa, .inl (cI, 70, .inl nw)), (ma, .inl (cI, 12, .inl mf))] sz) := by
  refine Met.ofW (cc := cX5_judge) (maxL := 4) (ret := (some .int)) (by decide) rfl ?_
  intro p e s m args below meth c s₁ B hml hv
  obtain ⟨rfl, hsz, hP, hK, hD0⟩ := hv
  have hx := B.exec
  have hb := B.bytes
  have hr := B.returns
  have hts := atoms_spec (ws := wsX5_judge) B.pre
  have hown : s.vm.findClass RX5 = some m.cls := findClass_of_methodNamed B.named
  have hlocks := B.notSynchronized
  have hwX5 : ∀ w ∈ u_ws RX5 TX5 19, w ∈ wsX5_judge := fun _ h => List.mem_cons_of_mem _ (List.mem_append_right _ h)
  subst hsz
  have hD := hD0.self (sz := s.heap.size)
  generalize hAe : va_A [(g0, .inr (5, [.ref ra, .ref wa, .ref ta, .int kpt, .ref ma, .int (nI cn), .ref pa, .int tpd, .int at0, .int wel, .ref ba, .ref ka, .int srt, .ref fa, .ref qa, .ref ea, .ref za, .ref ya, .int wks])), (wa, .inl (cI, 70, .inl nw)), (ma, .inl (cI, 12, .inl mf))] s.heap.size = A at hD ⊢
  have hA : ∀ q : Nat, s.heap.size ≤ q → A q := fun q h => by rw [← hAe]; exact Or.inr h
  have hS : va_S A s.heap s.heap [] := va_S.rf
  have hP : va_P D vwCl [(g0, .inr (5, [.ref ra, .ref wa, .ref ta, .int kpt, .ref ma, .int (nI cn), .ref pa, .int tpd, .int at0, .int wel, .ref ba, .ref ka, .int srt, .ref fa, .ref qa, .ref ea, .ref za, .ref ya, .int wks])), (wa, .inl (cI, 70, .inl nw)), (ma, .inl (cI, 12, .inl mf))] s.heap := hP
  have hl := lv_entry ([.ref g0]) (n := 4) (Nat.le_of_ble_eq_true rfl)
  rw [lg_entry_eq]
  generalize (lg_sl ([.ref g0]) ++ List.replicate (4 - (lg_sl ([.ref g0])).length) Slot.unset).toArray = ls at hl ⊢
  have hl : lv_has ls 4 [(0, .ref g0)] := hl
  obtain ⟨J9, hJ⟩ : ∃ J : Nat → Bool, ∀ k, x5Jb st nw mf k = J k := ⟨_, fun _ => rfl⟩
  refine lv_bipush (v := -9) hx hb dX5_judge_0 (by decide) ?_
  refine lv_istore_n (lv' := [(1, .int (-9)), (0, .ref g0)]) hx hb dX5_judge_2 rfl hl (by decide) rfl (fun ls hl => ?_)
  refine lv_aload_n hx hb dX5_judge_3 rfl (lv_at hl 1 rfl) ?_
  refine va_get (D := D) (ci := 5) (v := .int (nI cn)) (C := RX5) (T := TX5) (N := 19) hx hb hts hwX5 hown hK hP 0 rfl rfl 5 (by decide) (hts (.fieldLink RX5 188 "WaitOrWalkOnModel" "marked" "I") (by decide +kernel)) (fun _ h9 => h9) rfl dX5_judge_4 ?_
  refine lv_iconst (v := 1) hx hb dX5_judge_7 (by decide) ?_
  refine lv_isub hx hb dX5_judge_8 ?_
  refine xv_int (y := nI (cn - 0) - 1) (by rw [Nat.sub_zero]) ?_
  refine lv_istore_n (lv' := [(2, .int (nI (cn - 0) - 1)), (1, .int (-9)), (0, .ref g0)]) hx hb dX5_judge_9 rfl hl (by decide) rfl (fun ls hl => ?_)
  refine xl_loopH (σ := Nat) (fun n q H locs ls => lv_has ls 4 [(2, .int (nI (cn - q) - 1)), (1, .int (x5D J9 cn q)), (0, .ref g0)] ∧ va_P D vwCl [(g0, .inr (5, [.ref ra, .ref wa, .ref ta, .int kpt, .ref ma, .int (nI cn), .ref pa, .int tpd, .int at0, .int wel, .ref ba, .ref ka, .int srt, .ref fa, .ref qa, .ref ea, .ref za, .ref ya, .int wks])), (wa, .inl (cI, 70, .inl nw)), (ma, .inl (cI, 12, .inl mf))] H ∧ va_D A [(g0, .inr (5, [.ref ra, .ref wa, .ref ta, .int kpt, .ref ma, .int (nI cn), .ref pa, .int tpd, .int at0, .int wel, .ref ba, .ref ka, .int srt, .ref fa, .ref qa, .ref ea, .ref za, .ref ya, .int wks])), (wa, .inl (cI, 70, .inl nw)), (ma, .inl (cI, 12, .inl mf))] ∧ va_S A s.heap H locs ∧ (cn - q < n) ∧ (q ≤ cn)) (cn + 1) (0) ⟨lv_sub hl [0, 1, 2] rfl, hP.sub [0, 1, 2] rfl, hD.sub [0, 1, 2] (by decide) rfl, hS, by (try dsimp only); exact ⟨by omega, by omega⟩⟩ (fun q H lc ls h => absurd h.2.2.2.2.1 (Nat.not_lt_zero _)) ?_
  intro n_10 q_10 H locs ls ih_10 hI_10
  obtain ⟨hl, hP, hD, hS, hI_10⟩ := hI_10
  obtain ⟨i, e_10⟩ : ∃ z, z = q_10 := ⟨_, rfl⟩
  subst e_10
  obtain ⟨h1, h2⟩ := hI_10
  try dsimp only at hl hP hD h1 h2
  refine lv_iload_n hx hb dX5_judge_10 rfl (lv_at hl 0 rfl) ?_
  refine lv_if_lt (tgt := 79) hx hb dX5_judge_11 (by decide) (fun c_1 => ?_) (fun c_1 => ?_)
  · refine lv_aload_n hx hb dX5_judge_79 rfl (lv_at hl 2 rfl) ?_
    refine lv_iconst (v := 0) hx hb dX5_judge_80 (by decide) ?_
    refine va_put (D := D) (ci := 5) (v := .int 0) (ty := .int) (C := RX5) (T := TX5) (N := 19) hx hb hts hwX5 tyX5 tyX5_ok nmX5 hown hK hP hD hS 0 rfl rfl 5 (by decide) (hts (.fieldLink RX5 188 "WaitOrWalkOnModel" "marked" "I") (by decide +kernel)) (fun _ h9 => h9) rfl (by decide +kernel) (by decide +kernel) rfl (Nat.le_of_ble_eq_true rfl) dX5_judge_81 (fun H locs hP hD hS => ?_)
    have hP : va_P D vwCl [(g0, .inr (5, [.ref ra, .ref wa, .ref ta, .int kpt, .ref ma, .int 0, .ref pa, .int tpd, .int at0, .int wel, .ref ba, .ref ka, .int srt, .ref fa, .ref qa, .ref ea, .ref za, .ref ya, .int wks])), (wa, .inl (cI, 70, .inl nw)), (ma, .inl (cI, 12, .inl mf))] H := hP
    have hD : va_D A [(g0, .inr (5, [.ref ra, .ref wa, .ref ta, .int kpt, .ref ma, .int 0, .ref pa, .int tpd, .int at0, .int wel, .ref ba, .ref ka, .int srt, .ref fa, .ref qa, .ref ea, .ref za, .ref ya, .int wks])), (wa, .inl (cI, 70, .inl nw)), (ma, .inl (cI, 12, .inl mf))] := hD
    refine lv_iload_n hx hb dX5_judge_84 rfl (lv_at hl 1 rfl) ?_
    have hP9 := hP.sub (ws' := [(g0, .inr (5, [.ref ra, .ref wa, .ref ta, .int kpt, .ref ma, .int 0, .ref pa, .int tpd, .int at0, .int wel, .ref ba, .ref ka, .int srt, .ref fa, .ref qa, .ref ea, .ref za, .ref ya, .int wks])), (wa, .inl (cI, 70, .inl nw)), (ma, .inl (cI, 12, .inl mf))]) [0, 1, 2] rfl
    have hD9 := hD.sub (ws' := [(g0, .inr (5, [.ref ra, .ref wa, .ref ta, .int kpt, .ref ma, .int 0, .ref pa, .int tpd, .int at0, .int wel, .ref ba, .ref ka, .int srt, .ref fa, .ref qa, .ref ea, .ref za, .ref ya, .int wks])), (wa, .inl (cI, 70, .inl nw)), (ma, .inl (cI, 12, .inl mf))]) [0, 1, 2] (by decide) rfl
    exact W.iret (v := x5D J9 cn i) hx hb hr (fun t ht hW => ⟨⟨_, (), rfl, (by have w := (x5D_0 (n := i) hcn h2).mp c_1; rw [show x5Jb st nw mf = J9 from funext hJ, w]), by rw [ht]; exact hP9, hD9⟩, hS.F ht⟩) hS.2.2 dX5_judge_85
  · have w4 : i < cn := by have w := mt (x5D_0 (n := i) hcn h2).mpr c_1; omega
    have e4 : nI (cn - i) - 1 = nI (cn - i - 1) := pk_sub (a := cn - i) (b := 1) (by omega)
    rw [e4] at hl
    refine xl_cut (σ := Unit) 62 (fun _ => [.int (if J9 (cn - i - 1) then 0 else 1)]) (fun _ ls => lv_has ls 4 [(2, .int (nI (cn - i - 1))), (1, .int (x5D J9 cn i)), (0, .ref g0)]) ?_ ?_
    · intro _ ls hl
      refine lv_istore_n (lv' := [(3, .int (if J9 (cn - i - 1) then 0 else 1)), (2, .int (nI (cn - i - 1))), (1, .int (x5D J9 cn i)), (0, .ref g0)]) hx hb dX5_judge_62 rfl hl (by decide) rfl (fun ls hl => ?_)
      refine lv_iload_n hx hb dX5_judge_63 rfl (lv_at hl 0 rfl) ?_
      refine lv_if_eq (tgt := 71) hx hb dX5_judge_64 (by decide) (fun c_2 => ?_) (fun c_2 => ?_)
      · refine lv_iload_n hx hb dX5_judge_71 rfl (lv_at hl 1 rfl) ?_
        refine xv_int (y := x5D J9 cn (i + 1)) (x5D_t (by by_cases w : J9 (cn - i - 1) = true; exact w; (rw [if_neg w] at c_2); exact absurd c_2 (by decide))) ?_
        refine lv_istore_n (lv' := [(1, .int (x5D J9 cn (i + 1))), (3, .int (if J9 (cn - i - 1) then 0 else 1)), (2, .int (nI (cn - i - 1))), (0, .ref g0)]) hx hb dX5_judge_72 rfl hl (by decide) rfl (fun ls hl => ?_)
        refine lv_iinc (v := nI (cn - (i + 1)) - 1) (lv' := [(2, .int (nI (cn - (i + 1)) - 1)), (1, .int (x5D J9 cn (i + 1))), (3, .int (if J9 (cn - i - 1) then 0 else 1)), (0, .ref g0)]) hx hb dX5_judge_73 hl (k := 2) rfl (x5D_i w4) (by decide) rfl (fun ls hl => ?_)
        refine lv_goto (tgt := 10) hx hb dX5_judge_76 (by decide) ?_
        exact ih_10 (i + 1) _ _ _ ⟨lv_sub hl [0, 1, 3] rfl, hP.sub [0, 1, 2] rfl, hD.sub [0, 1, 2] (by decide) rfl, hS, by (try dsimp only); exact ⟨by omega, by omega⟩⟩
      · refine lv_iload_n hx hb dX5_judge_67 rfl (lv_at hl 2 rfl) ?_
        refine lv_goto (tgt := 72) hx hb dX5_judge_68 (by decide) ?_
        refine xv_int (y := x5D J9 cn (i + 1)) (x5D_f (by by_cases w : J9 (cn - i - 1) = true; (rw [if_pos w] at c_2); exact absurd rfl c_2; simpa using w)) ?_
        refine lv_istore_n (lv' := [(1, .int (x5D J9 cn (i + 1))), (3, .int (if J9 (cn - i - 1) then 0 else 1)), (2, .int (nI (cn - i - 1))), (0, .ref g0)]) hx hb dX5_judge_72 rfl hl (by decide) rfl (fun ls hl => ?_)
        refine lv_iinc (v := nI (cn - (i + 1)) - 1) (lv' := [(2, .int (nI (cn - (i + 1)) - 1)), (1, .int (x5D J9 cn (i + 1))), (3, .int (if J9 (cn - i - 1) then 0 else 1)), (0, .ref g0)]) hx hb dX5_judge_73 hl (k := 2) rfl (x5D_i w4) (by decide) rfl (fun ls hl => ?_)
        refine lv_goto (tgt := 10) hx hb dX5_judge_76 (by decide) ?_
        exact ih_10 (i + 1) _ _ _ ⟨lv_sub hl [0, 1, 3] rfl, hP.sub [0, 1, 2] rfl, hD.sub [0, 1, 2] (by decide) rfl, hS, by (try dsimp only); exact ⟨by omega, by omega⟩⟩
    · intro K_62
      refine lv_iload_n hx hb dX5_judge_14 rfl (lv_at hl 0 rfl) ?_
      refine lv_if_eq (tgt := 57) hx hb dX5_judge_15 (by decide) (fun c_3 => ?_) (fun c_3 => ?_)
      · refine lv_iconst (v := 1) hx hb dX5_judge_57 (by decide) ?_
        refine lv_goto (tgt := 62) hx hb dX5_judge_58 (by decide) ?_
        refine xv_int (y := if J9 (cn - i - 1) then 0 else 1) (by have w8 : J9 (cn - i - 1) = false := (by have w5 := (nI_eq (a := cn - i - 1) (b := 0) (by omega) (by decide)).mp c_3; rw [← hJ]; simp [x5Jb, w5]); rw [w8]; rfl) ?_
        exact K_62 () _ (lv_sub hl [0, 1, 2] rfl)
      · refine lv_iload_n hx hb dX5_judge_18 rfl (lv_at hl 0 rfl) ?_
        refine lv_aload_n hx hb dX5_judge_19 rfl (lv_at hl 2 rfl) ?_
        refine va_get (D := D) (ci := 5) (v := .ref wa) (C := RX5) (T := TX5) (N := 19) hx hb hts hwX5 hown hK hP 0 rfl rfl 1 (by decide) (hts (.fieldLink RX5 19 "WaitOrWalkOnModel" "now" "[I") (by decide +kernel)) (fun _ h9 => h9) rfl dX5_judge_20 ?_
        refine lv_iconst (v := 0) hx hb dX5_judge_23 (by decide) ?_
        refine va_iald (D := D) hx hb hK hP 1 0 rfl rfl (by unfold vp_in; decide +kernel) dX5_judge_24 ?_
        refine xv_int (y := nw 0) rfl ?_
        refine xv_int (y := nI st) (hn0) ?_
        refine lv_icmp_ge (tgt := 61) hx hb dX5_judge_25 (by decide) (fun c_4 => ?_) (fun c_4 => ?_)
        · refine lv_iconst (v := 0) hx hb dX5_judge_61 (by decide) ?_
          refine xv_int (y := if J9 (cn - i - 1) then 0 else 1) (by have w8 : J9 (cn - i - 1) = true := (by have w5 := mt (nI_eq (a := cn - i - 1) (b := 0) (by omega) (by decide)).mpr c_3; have w6 := mt (nI_ltI (a := cn - i - 1) (b := st) (by omega) (by omega)).mpr (Int32.not_lt.mpr c_4); rw [← hJ]; simp [x5Jb, w6, show 0 < cn - i - 1 by omega]); rw [w8]; rfl) ?_
          exact K_62 () _ (lv_sub hl [0, 1, 2] rfl)
        · refine lv_aload_n hx hb dX5_judge_28 rfl (lv_at hl 2 rfl) ?_
          refine va_get (D := D) (ci := 5) (v := .ref ma) (C := RX5) (T := TX5) (N := 19) hx hb hts hwX5 hown hK hP 0 rfl rfl 4 (by decide) (hts (.fieldLink RX5 25 "WaitOrWalkOnModel" "marks" "[I") (by decide +kernel)) (fun _ h9 => h9) rfl dX5_judge_29 ?_
          refine lv_iload_n hx hb dX5_judge_32 rfl (lv_at hl 0 rfl) ?_
          refine va_iald (D := D) hx hb hK hP 2 0 rfl rfl (vp_in_nI (by omega) (by decide)) dX5_judge_33 ?_
          refine xv_int (y := mf (cn - i - 1)) (congrArg mf (nI_clamp (by omega))) ?_
          refine lv_aload_n hx hb dX5_judge_34 rfl (lv_at hl 2 rfl) ?_
          refine va_get (D := D) (ci := 5) (v := .ref ma) (C := RX5) (T := TX5) (N := 19) hx hb hts hwX5 hown hK hP 0 rfl rfl 4 (by decide) (hts (.fieldLink RX5 25 "WaitOrWalkOnModel" "marks" "[I") (by decide +kernel)) (fun _ h9 => h9) rfl dX5_judge_35 ?_
          refine lv_iload_n hx hb dX5_judge_38 rfl (lv_at hl 0 rfl) ?_
          refine lv_iconst (v := 1) hx hb dX5_judge_39 (by decide) ?_
          refine lv_isub hx hb dX5_judge_40 ?_
          refine xv_int (y := nI (cn - i - 1 - 1)) (pk_sub (a := cn - i - 1) (b := 1) (by have w5 := mt (nI_eq (a := cn - i - 1) (b := 0) (by omega) (by decide)).mpr c_3; omega)) ?_
          refine va_iald (D := D) hx hb hK hP 2 0 rfl rfl (vp_in_nI (by omega) (by decide)) dX5_judge_41 ?_
          refine xv_int (y := mf (cn - i - 1 - 1)) (congrArg mf (nI_clamp (by omega))) ?_
          refine lv_isub hx hb dX5_judge_42 ?_
          refine lv_aload_n hx hb dX5_judge_43 rfl (lv_at hl 2 rfl) ?_
          refine lv_iload_n hx hb dX5_judge_44 rfl (lv_at hl 0 rfl) ?_
          refine lv_aload_n hx hb dX5_judge_45 rfl (lv_at hl 2 rfl) ?_
          refine va_get (D := D) (ci := 5) (v := .ref wa) (C := RX5) (T := TX5) (N := 19) hx hb hts hwX5 hown hK hP 0 rfl rfl 1 (by decide) (hts (.fieldLink RX5 19 "WaitOrWalkOnModel" "now" "[I") (by decide +kernel)) (fun _ h9 => h9) rfl dX5_judge_46 ?_
          refine lv_iconst (v := 2) hx hb dX5_judge_49 (by decide) ?_
          refine va_iald (D := D) hx hb hK hP 1 0 rfl rfl (by unfold vp_in; decide +kernel) dX5_judge_50 ?_
          refine xv_int (y := nw 2) rfl ?_
          have hPc := hP.sub (ws' := [(g0, .inr (5, [.ref ra, .ref wa, .ref ta, .int kpt, .ref ma, .int (nI cn), .ref pa, .int tpd, .int at0, .int wel, .ref ba, .ref ka, .int srt, .ref fa, .ref qa, .ref ea, .ref za, .ref ya, .int wks])), (wa, .inl (cI, 70, .inl nw))]) [0, 1] rfl
          refine vp_callSi (va_Run.run (va_runV (As := [.int (nI (cn - i - 1)), .int (nw 2)]) (rest := [.int ((mf (cn - i - 1)) - (mf (cn - i - 1 - 1)))]) ⟨hx, hb, hml, hown, hts⟩ (g_X5_leg l D cI cL cZ cC g0 ra wa ta ma pa ba ka fa qa ea za ya kpt (nI cn) tpd at0 wel srt wks st nw (cn - i - 1) (nw 2) (by first | assumption | decide +kernel) (by first | assumption | decide +kernel) (by first | assumption | decide +kernel) (by have w6 := (nI_ltI (a := cn - i - 1) (b := st) (by omega) (by omega)).mp (Int32.not_le.mp c_4); omega) (hq2)) (cwV 2 hts gX5_judge_X5_leg rfl rfl rfl (by decide +kernel) ⟨Nat.le_of_ble_eq_true rfl, Nat.le_of_ble_eq_true rfl⟩) ⟨xPc_bl, va_recv hK hPc (ci := 5) (q0 := 0) rfl rfl, xPc_use hPc hK⟩ rfl rfl hl.1 rfl (lv_room (Nat.le_of_ble_eq_true rfl)) dX5_judge_51 ⟨Nat.le_of_ble_eq_true rfl, Nat.le_of_ble_eq_true rfl⟩)) (fun r_5 er_5 => ?_)
          obtain rfl : ((xLm nw st (cn - i - 1) + (nw 2) - 1) / (nw 2) : Int32) = r_5 := Eq.symm er_5
          refine lv_icmp_lt (tgt := 61) hx hb dX5_judge_54 (by decide) (fun c_6 => ?_) (fun c_6 => ?_)
          · refine lv_iconst (v := 0) hx hb dX5_judge_61 (by decide) ?_
            refine xv_int (y := if J9 (cn - i - 1) then 0 else 1) (by have w8 : J9 (cn - i - 1) = true := (by have w5 := mt (nI_eq (a := cn - i - 1) (b := 0) (by omega) (by decide)).mpr c_3; have w6 := (nI_ltI (a := cn - i - 1) (b := st) (by omega) (by omega)).mp (Int32.not_le.mp c_4); have w7 := c_6; rw [← hJ]; simp [x5Jb, w6, show 0 < cn - i - 1 by omega, w7]); rw [w8]; rfl) ?_
            exact K_62 () _ (lv_sub hl [0, 1, 2] rfl)
          · refine lv_iconst (v := 1) hx hb dX5_judge_57 (by decide) ?_
            refine lv_goto (tgt := 62) hx hb dX5_judge_58 (by decide) ?_
            refine xv_int (y := if J9 (cn - i - 1) then 0 else 1) (by have w8 : J9 (cn - i - 1) = false := (by have w5 := mt (nI_eq (a := cn - i - 1) (b := 0) (by omega) (by decide)).mpr c_3; have w6 := (nI_ltI (a := cn - i - 1) (b := st) (by omega) (by omega)).mp (Int32.not_le.mp c_4); have w7 := c_6; rw [← hJ]; simp [x5Jb, w6, show 0 < cn - i - 1 by omega, Int32.not_lt.mp w7]); rw [w8]; rfl) ?_
            exact K_62 () _ (lv_sub hl [0, 1, 2] rfl)

set_option maxHeartbeats 4000000 in
set_option maxRecDepth 100000 in
theorem g_X5_lots (l : Launch) (D : va_G) (cI cL cZ cC : ClassId) (sz : Nat) (g0 : Nat) (ra : Nat) (wa : Nat) (ta : Nat) (ma : Nat) (pa : Nat) (ba : Nat) (ka : Nat) (fa : Nat) (qa : Nat) (ea : Nat) (za : Nat) (ya : Nat) (kpt : Int32) (mkd : Int32) (tpd : Int32) (at0 : Int32) (wel : Int32) (srt : Int32) (wks : Int32) (st : Nat) (nw : Nat → Int32) (ln : Nat) (rf : Nat → Int32) (a1 : Int32) (a2 : Int32) (a3 : Int32) (a4 : Int32) (hn0 : nw 0 = nI st) (hs1 : 1 ≤ st) (hs7 : st ≤ 7) (hn3 : nw 3 = nI ln) (hln : ln ≤ 3) (hq2 : ¬ nw 2 = 0) (hq3 : ¬ 2 * nw 2 = 0) (hwq : ∀ j, j < ln → ¬ xWs (fun i => nw (20 + 16 * j + i)) 0 = 0) : Met l yX5_lots wsX5_lots ({ frames := 4, cells := 0, slots := 0, locals := 99 } : Room) (wPc D [.ref g0, .int a1, .int a2, .int a3, .int a4] [(g0, .inr (5, [.ref ra, .ref wa, .ref ta, .int kpt, .ref ma, .int mkd, .ref pa, .int tpd, .int at0, .int wel, .ref ba, .ref ka, .int srt, .ref fa, .ref qa, .ref ea, .ref za, .ref ya, .int wks])), (wa, .inl (cI, 70, .inl nw)), (ra, .inl (cI, 7, .inl rf))] (xTy cI cL cZ cC) sz) (va_Qi (fun (r : Int32) (_ : Unit) => r = if qLo ln a1 a2 a3 = 0 then v5Lo st nw a1 a2 a3 a4 else qLo ln a1 a2 a3) (fun (_ : Unit) t => va_P D vwCl [(g0, .inr (5, [.ref ra, .ref wa, .ref ta, .int kpt, .ref ma, .int mkd, .ref pa, .int tpd, .int at0, .int wel, .ref ba, .ref ka, .int srt, .ref fa, .ref qa, .ref ea, .ref za, .ref ya, .int wks])), (wa, .inl (cI, 70, .inl nw)), (ra, .inl (cI, 7, .inl (xRq rf (qLo ln a1 a2 a3))))] t.heap ∧ va_D (va_A [(g0, .inr (5, [.ref ra, .ref wa, .ref ta, .int kpt, .ref ma, .int mkd, .ref pa, .int tpd, .int at0, .int wel, .ref ba, .ref ka, .int srt, .ref fa, .ref qa, .ref ea, .ref za, .ref ya, .int wks])), (wa, .inl (cI, 70, .inl nw)), (ra, .inl (cI, 7, .inl rf))] sz) [(g0, .inr (5, [.ref ra, .ref wa, .ref ta, .int kpt, .ref ma, .int mkd, .ref pa, .int tpd, .int at0, .int wel, .ref ba, .ref ka, .int srt, .ref fa, .ref qa, .ref ea, .ref za, .ref ya, .int wks])), (wa, .inl (cI, 70, .inl nw)), (ra, .inl (cI, 7, .inl (xRq rf (qLo ln a1 a2 a3))))]) (va_A [(g0, .inr (5, [.ref ra, .ref wa, .ref ta, .int kpt, .ref ma, .int mkd, .ref pa, .int tpd, .int at0, .int wel, .ref ba, .ref ka, .int srt, .ref fa, .ref qa, .ref ea, .ref za, .ref ya, .int wks])), (wa, .inl (cI, 70, .inl nw)), (ra, .inl (cI, 7, .inl rf))] sz)) 0 0 (va_A [(g0, .inr (5, [.ref ra, .ref wa, .ref ta, .int kpt, .ref ma, .int mkd, .ref pa, .int tpd, .int at0, .int wel, .ref ba, .ref ka, .int srt, .ref fa, .ref qa, .ref ea, .ref za, .ref ya, .int wks])), (wa, .inl (cI, 70, .inl nw)), (ra, .inl (cI, 7, .inl rf))] sz) := by
  refine Met.ofW (cc := cX5_lots) (maxL := 10) (ret := (some .int)) (by decide) rfl ?_
  intro p e s m args below meth c s₁ B hml hv
  obtain ⟨rfl, hsz, hP, hK, hD0⟩ := hv
  have hx := B.exec
  have hb := B.bytes
  have hr := B.returns
  have hts := atoms_spec (ws := wsX5_lots) B.pre
  have hown : s.vm.findClass RX5 = some m.cls := findClass_of_methodNamed B.named
  have hlocks := B.notSynchronized
  subst hsz
  have hD := hD0.self (sz := s.heap.size)
  generalize hAe : va_A [(g0, .inr (5, [.ref ra, .ref wa, .ref ta, .int kpt, .ref ma, .int mkd, .ref pa, .int tpd, .int at0, .int wel, .ref ba, .ref ka, .int srt, .ref fa, .ref qa, .ref ea, .ref za, .ref ya, .int wks])), (wa, .inl (cI, 70, .inl nw)), (ra, .inl (cI, 7, .inl rf))] s.heap.size = A at hD ⊢
  have hA : ∀ q : Nat, s.heap.size ≤ q → A q := fun q h => by rw [← hAe]; exact Or.inr h
  have hS : va_S A s.heap s.heap [] := va_S.rf
  have hP : va_P D vwCl [(g0, .inr (5, [.ref ra, .ref wa, .ref ta, .int kpt, .ref ma, .int mkd, .ref pa, .int tpd, .int at0, .int wel, .ref ba, .ref ka, .int srt, .ref fa, .ref qa, .ref ea, .ref za, .ref ya, .int wks])), (wa, .inl (cI, 70, .inl nw)), (ra, .inl (cI, 7, .inl rf))] s.heap := hP
  have hl := lv_entry ([.ref g0, .int a1, .int a2, .int a3, .int a4]) (n := 10) (Nat.le_of_ble_eq_true rfl)
  rw [lg_entry_eq]
  generalize (lg_sl ([.ref g0, .int a1, .int a2, .int a3, .int a4]) ++ List.replicate (10 - (lg_sl ([.ref g0, .int a1, .int a2, .int a3, .int a4])).length) Slot.unset).toArray = ls at hl ⊢
  have hl : lv_has ls 10 [(0, .ref g0), (1, .int a1), (2, .int a2), (3, .int a3), (4, .int a4)] := hl
  by_cases h_1 : ¬ sNL ln a1 = 0
  · refine lv_aload_n hx hb dX5_lots_0 rfl (lv_at hl 0 rfl) ?_
    refine lv_iload_n hx hb dX5_lots_1 rfl (lv_at hl 1 rfl) ?_
    have hPc := hP.sub (ws' := [(g0, .inr (5, [.ref ra, .ref wa, .ref ta, .int kpt, .ref ma, .int mkd, .ref pa, .int tpd, .int at0, .int wel, .ref ba, .ref ka, .int srt, .ref fa, .ref qa, .ref ea, .ref za, .ref ya, .int wks])), (wa, .inl (cI, 70, .inl nw))]) [0, 1] rfl
    refine vp_callSi (va_Run.run (va_runV (As := [.int a1]) (rest := []) ⟨hx, hb, hml, hown, hts⟩ (g_X5_isNoLine l D cI cL cZ cC g0 ra wa ta ma pa ba ka fa qa ea za ya kpt mkd tpd at0 wel srt wks st nw ln a1 (by first | assumption | decide +kernel) (by first | assumption | decide +kernel) (by first | assumption | decide +kernel) (by first | assumption | decide +kernel) (by first | assumption | decide +kernel)) (cwV 1 hts gX5_lots_X5_isNoLine rfl rfl rfl (by decide +kernel) ⟨Nat.le_of_ble_eq_true rfl, Nat.le_of_ble_eq_true rfl⟩) ⟨xPc_bl, va_recv hK hPc (ci := 5) (q0 := 0) rfl rfl, xPc_use hPc hK⟩ rfl rfl hl.1 rfl (lv_room (Nat.le_of_ble_eq_true rfl)) dX5_lots_2 ⟨Nat.le_of_ble_eq_true rfl, Nat.le_of_ble_eq_true rfl⟩)) (fun r_1 er_1 => ?_)
    obtain rfl : (sNL ln a1 : Int32) = r_1 := Eq.symm er_1
    refine xv_int (y := 1) (sNL_bad h_1) ?_
    refine lv_if_eq (tgt := 14) hx hb dX5_lots_5 (by decide) (fun c_2 => absurd c_2 (by decide +kernel)) (fun c_2 => ?_)
    refine lv_aload_n hx hb dX5_lots_8 rfl (lv_at hl 0 rfl) ?_
    refine lv_iconst (v := -1) hx hb dX5_lots_9 (by decide) ?_
    have hPc := hP.sub (ws' := [(g0, .inr (5, [.ref ra, .ref wa, .ref ta, .int kpt, .ref ma, .int mkd, .ref pa, .int tpd, .int at0, .int wel, .ref ba, .ref ka, .int srt, .ref fa, .ref qa, .ref ea, .ref za, .ref ya, .int wks])), (ra, .inl (cI, 7, .inl rf))]) [0, 2] rfl
    have hDc := hD.sub (ws' := [(g0, .inr (5, [.ref ra, .ref wa, .ref ta, .int kpt, .ref ma, .int mkd, .ref pa, .int tpd, .int at0, .int wel, .ref ba, .ref ka, .int srt, .ref fa, .ref qa, .ref ea, .ref za, .ref ya, .int wks])), (ra, .inl (cI, 7, .inl rf))]) [0, 2] (by decide) rfl
    have hFc := va_free (wc := [(g0, .inr (5, [.ref ra, .ref wa, .ref ta, .int kpt, .ref ma, .int mkd, .ref pa, .int tpd, .int at0, .int wel, .ref ba, .ref ka, .int srt, .ref fa, .ref qa, .ref ea, .ref za, .ref ya, .int wks])), (ra, .inl (cI, 7, .inl rf))]) hD hS hA [0, 2] rfl
    refine va_calli (va_runV (As := [.int (-1)]) (rest := []) ⟨hx, hb, hml, hown, hts⟩ (g_X5_no l D cI cL cZ cC _ g0 ra wa ta ma pa ba ka fa qa ea za ya kpt mkd tpd at0 wel srt wks rf (-1) (by first | assumption | decide +kernel) (by first | assumption | decide +kernel)) (cwV 1 hts gX5_lots_X5_no rfl rfl rfl (by decide +kernel) ⟨Nat.le_of_ble_eq_true rfl, Nat.le_of_ble_eq_true rfl⟩) ⟨wPc_bl, va_recv hK hPc (ci := 5) (q0 := 0) rfl rfl, wPc_use hPc hK hDc⟩ rfl rfl hl.1 rfl (lv_room (Nat.le_of_ble_eq_true rfl)) dX5_lots_10 ⟨Nat.le_of_ble_eq_true rfl, Nat.le_of_ble_eq_true rfl⟩) hS (fun q _ h => hFc q h) hFc (fun r_3 u_3 t H1 locs ht hvm hw hB hz1 hk1 hS => ?_)
    obtain ⟨hP1, hD1⟩ := hB
    rw [ht] at hP1
    obtain ⟨hP, hD⟩ := va_join (wr := [(wa, .inl (cI, 70, .inl nw))]) (w1 := [(g0, .inr (5, [.ref ra, .ref wa, .ref ta, .int kpt, .ref ma, .int mkd, .ref pa, .int tpd, .int at0, .int wel, .ref ba, .ref ka, .int srt, .ref fa, .ref qa, .ref ea, .ref za, .ref ya, .int wks])), (ra, .inl (cI, 7, .inl (xRf rf (-1))))]) hP hD [0, 2] [1] rfl rfl (by decide) (by decide) hk1 hFc hP1 hD1
    generalize H1 = H at hP hS ⊢
    have hP : va_P D vwCl [(wa, .inl (cI, 70, .inl nw)), (g0, .inr (5, [.ref ra, .ref wa, .ref ta, .int kpt, .ref ma, .int mkd, .ref pa, .int tpd, .int at0, .int wel, .ref ba, .ref ka, .int srt, .ref fa, .ref qa, .ref ea, .ref za, .ref ya, .int wks])), (ra, .inl (cI, 7, .inl (xRf rf (-1))))] H := hP
    have hD : va_D A [(wa, .inl (cI, 70, .inl nw)), (g0, .inr (5, [.ref ra, .ref wa, .ref ta, .int kpt, .ref ma, .int mkd, .ref pa, .int tpd, .int at0, .int wel, .ref ba, .ref ka, .int srt, .ref fa, .ref qa, .ref ea, .ref za, .ref ya, .int wks])), (ra, .inl (cI, 7, .inl (xRf rf (-1))))] := hD
    obtain rfl : ((-1) : Int32) = r_3 := Eq.symm hw
    have hP9 := hP.sub (ws' := [(g0, .inr (5, [.ref ra, .ref wa, .ref ta, .int kpt, .ref ma, .int mkd, .ref pa, .int tpd, .int at0, .int wel, .ref ba, .ref ka, .int srt, .ref fa, .ref qa, .ref ea, .ref za, .ref ya, .int wks])), (wa, .inl (cI, 70, .inl nw)), (ra, .inl (cI, 7, .inl (xRf rf (-1))))]) [1, 0, 2] rfl
    have hD9 := hD.sub (ws' := [(g0, .inr (5, [.ref ra, .ref wa, .ref ta, .int kpt, .ref ma, .int mkd, .ref pa, .int tpd, .int at0, .int wel, .ref ba, .ref ka, .int srt, .ref fa, .ref qa, .ref ea, .ref za, .ref ya, .int wks])), (wa, .inl (cI, 70, .inl nw)), (ra, .inl (cI, 7, .inl (xRf rf (-1))))]) [1, 0, 2] (by decide) rfl
    have hE9 : ([(g0, .inr (5, [.ref ra, .ref wa, .ref ta, .int kpt, .ref ma, .int mkd, .ref pa, .int tpd, .int at0, .int wel, .ref ba, .ref ka, .int srt, .ref fa, .ref qa, .ref ea, .ref za, .ref ya, .int wks])), (wa, .inl (cI, 70, .inl nw)), (ra, .inl (cI, 7, .inl (xRf rf (-1))))] : va_W) = [(g0, .inr (5, [.ref ra, .ref wa, .ref ta, .int kpt, .ref ma, .int mkd, .ref pa, .int tpd, .int at0, .int wel, .ref ba, .ref ka, .int srt, .ref fa, .ref qa, .ref ea, .ref za, .ref ya, .int wks])), (wa, .inl (cI, 70, .inl nw)), (ra, .inl (cI, 7, .inl (xRq rf (qLo ln a1 a2 a3))))] := by simp [xRq, qLo, sNK, h_1, c_2]
    exact W.iret (v := -1) hx hb hr (fun t ht hW => ⟨⟨_, (), rfl, by simp [qLo, sNK, v5Lo, h_1, c_2], by rw [ht]; exact hE9 ▸ hP9, hE9 ▸ hD9⟩, hS.F ht⟩) hS.2.2 dX5_lots_13
  obtain ⟨j0, rfl, hj0⟩ := sNL_ok (by omega) h_1
  have h_0 := Classical.not_not.mp h_1
  have ha0 : j0 ≤ 2 := by omega
  refine lv_aload_n hx hb dX5_lots_0 rfl (lv_at hl 0 rfl) ?_
  refine lv_iload_n hx hb dX5_lots_1 rfl (lv_at hl 1 rfl) ?_
  have hPc := hP.sub (ws' := [(g0, .inr (5, [.ref ra, .ref wa, .ref ta, .int kpt, .ref ma, .int mkd, .ref pa, .int tpd, .int at0, .int wel, .ref ba, .ref ka, .int srt, .ref fa, .ref qa, .ref ea, .ref za, .ref ya, .int wks])), (wa, .inl (cI, 70, .inl nw))]) [0, 1] rfl
  refine vp_callSi (va_Run.run (va_runV (As := [.int (nI j0)]) (rest := []) ⟨hx, hb, hml, hown, hts⟩ (g_X5_isNoLine l D cI cL cZ cC g0 ra wa ta ma pa ba ka fa qa ea za ya kpt mkd tpd at0 wel srt wks st nw ln (nI j0) (by first | assumption | decide +kernel) (by first | assumption | decide +kernel) (by first | assumption | decide +kernel) (by first | assumption | decide +kernel) (by first | assumption | decide +kernel)) (cwV 1 hts gX5_lots_X5_isNoLine rfl rfl rfl (by decide +kernel) ⟨Nat.le_of_ble_eq_true rfl, Nat.le_of_ble_eq_true rfl⟩) ⟨xPc_bl, va_recv hK hPc (ci := 5) (q0 := 0) rfl rfl, xPc_use hPc hK⟩ rfl rfl hl.1 rfl (lv_room (Nat.le_of_ble_eq_true rfl)) dX5_lots_2 ⟨Nat.le_of_ble_eq_true rfl, Nat.le_of_ble_eq_true rfl⟩)) (fun r_4 er_4 => ?_)
  obtain rfl : (sNL ln (nI j0) : Int32) = r_4 := Eq.symm er_4
  refine xv_int (y := 0) (h_0) ?_
  refine lv_if_eq (tgt := 14) hx hb dX5_lots_5 (by decide) (fun c_5 => ?_) (fun c_5 => absurd c_5 (by decide +kernel))
  refine lv_iload_n hx hb dX5_lots_14 rfl (lv_at hl 2 rfl) ?_
  refine lv_if_lt (tgt := 23) hx hb dX5_lots_15 (by decide) (fun c_6 => ?_) (fun c_6 => ?_)
  · refine lv_aload_n hx hb dX5_lots_23 rfl (lv_at hl 0 rfl) ?_
    refine lv_bipush (v := -2) hx hb dX5_lots_24 (by decide) ?_
    have hPc := hP.sub (ws' := [(g0, .inr (5, [.ref ra, .ref wa, .ref ta, .int kpt, .ref ma, .int mkd, .ref pa, .int tpd, .int at0, .int wel, .ref ba, .ref ka, .int srt, .ref fa, .ref qa, .ref ea, .ref za, .ref ya, .int wks])), (ra, .inl (cI, 7, .inl rf))]) [0, 2] rfl
    have hDc := hD.sub (ws' := [(g0, .inr (5, [.ref ra, .ref wa, .ref ta, .int kpt, .ref ma, .int mkd, .ref pa, .int tpd, .int at0, .int wel, .ref ba, .ref ka, .int srt, .ref fa, .ref qa, .ref ea, .ref za, .ref ya, .int wks])), (ra, .inl (cI, 7, .inl rf))]) [0, 2] (by decide) rfl
    have hFc := va_free (wc := [(g0, .inr (5, [.ref ra, .ref wa, .ref ta, .int kpt, .ref ma, .int mkd, .ref pa, .int tpd, .int at0, .int wel, .ref ba, .ref ka, .int srt, .ref fa, .ref qa, .ref ea, .ref za, .ref ya, .int wks])), (ra, .inl (cI, 7, .inl rf))]) hD hS hA [0, 2] rfl
    refine va_calli (va_runV (As := [.int (-2)]) (rest := []) ⟨hx, hb, hml, hown, hts⟩ (g_X5_no l D cI cL cZ cC _ g0 ra wa ta ma pa ba ka fa qa ea za ya kpt mkd tpd at0 wel srt wks rf (-2) (by first | assumption | decide +kernel) (by first | assumption | decide +kernel)) (cwV 1 hts gX5_lots_X5_no rfl rfl rfl (by decide +kernel) ⟨Nat.le_of_ble_eq_true rfl, Nat.le_of_ble_eq_true rfl⟩) ⟨wPc_bl, va_recv hK hPc (ci := 5) (q0 := 0) rfl rfl, wPc_use hPc hK hDc⟩ rfl rfl hl.1 rfl (lv_room (Nat.le_of_ble_eq_true rfl)) dX5_lots_26 ⟨Nat.le_of_ble_eq_true rfl, Nat.le_of_ble_eq_true rfl⟩) hS (fun q _ h => hFc q h) hFc (fun r_7 u_7 t H1 locs ht hvm hw hB hz1 hk1 hS => ?_)
    obtain ⟨hP1, hD1⟩ := hB
    rw [ht] at hP1
    obtain ⟨hP, hD⟩ := va_join (wr := [(wa, .inl (cI, 70, .inl nw))]) (w1 := [(g0, .inr (5, [.ref ra, .ref wa, .ref ta, .int kpt, .ref ma, .int mkd, .ref pa, .int tpd, .int at0, .int wel, .ref ba, .ref ka, .int srt, .ref fa, .ref qa, .ref ea, .ref za, .ref ya, .int wks])), (ra, .inl (cI, 7, .inl (xRf rf (-2))))]) hP hD [0, 2] [1] rfl rfl (by decide) (by decide) hk1 hFc hP1 hD1
    generalize H1 = H at hP hS ⊢
    have hP : va_P D vwCl [(wa, .inl (cI, 70, .inl nw)), (g0, .inr (5, [.ref ra, .ref wa, .ref ta, .int kpt, .ref ma, .int mkd, .ref pa, .int tpd, .int at0, .int wel, .ref ba, .ref ka, .int srt, .ref fa, .ref qa, .ref ea, .ref za, .ref ya, .int wks])), (ra, .inl (cI, 7, .inl (xRf rf (-2))))] H := hP
    have hD : va_D A [(wa, .inl (cI, 70, .inl nw)), (g0, .inr (5, [.ref ra, .ref wa, .ref ta, .int kpt, .ref ma, .int mkd, .ref pa, .int tpd, .int at0, .int wel, .ref ba, .ref ka, .int srt, .ref fa, .ref qa, .ref ea, .ref za, .ref ya, .int wks])), (ra, .inl (cI, 7, .inl (xRf rf (-2))))] := hD
    obtain rfl : ((-2) : Int32) = r_7 := Eq.symm hw
    have hP9 := hP.sub (ws' := [(g0, .inr (5, [.ref ra, .ref wa, .ref ta, .int kpt, .ref ma, .int mkd, .ref pa, .int tpd, .int at0, .int wel, .ref ba, .ref ka, .int srt, .ref fa, .ref qa, .ref ea, .ref za, .ref ya, .int wks])), (wa, .inl (cI, 70, .inl nw)), (ra, .inl (cI, 7, .inl (xRf rf (-2))))]) [1, 0, 2] rfl
    have hD9 := hD.sub (ws' := [(g0, .inr (5, [.ref ra, .ref wa, .ref ta, .int kpt, .ref ma, .int mkd, .ref pa, .int tpd, .int at0, .int wel, .ref ba, .ref ka, .int srt, .ref fa, .ref qa, .ref ea, .ref za, .ref ya, .int wks])), (wa, .inl (cI, 70, .inl nw)), (ra, .inl (cI, 7, .inl (xRf rf (-2))))]) [1, 0, 2] (by decide) rfl
    have hE9 : ([(g0, .inr (5, [.ref ra, .ref wa, .ref ta, .int kpt, .ref ma, .int mkd, .ref pa, .int tpd, .int at0, .int wel, .ref ba, .ref ka, .int srt, .ref fa, .ref qa, .ref ea, .ref za, .ref ya, .int wks])), (wa, .inl (cI, 70, .inl nw)), (ra, .inl (cI, 7, .inl (xRf rf (-2))))] : va_W) = [(g0, .inr (5, [.ref ra, .ref wa, .ref ta, .int kpt, .ref ma, .int mkd, .ref pa, .int tpd, .int at0, .int wel, .ref ba, .ref ka, .int srt, .ref fa, .ref qa, .ref ea, .ref za, .ref ya, .int wks])), (wa, .inl (cI, 70, .inl nw)), (ra, .inl (cI, 7, .inl (xRq rf (qLo ln (nI j0) a2 a3))))] := by simp [xRq, qLo, sNK, h_0, c_5, c_6]
    exact W.iret (v := -2) hx hb hr (fun t ht hW => ⟨⟨_, (), rfl, by simp [qLo, sNK, v5Lo, h_0, c_5, c_6], by rw [ht]; exact hE9 ▸ hP9, hE9 ▸ hD9⟩, hS.F ht⟩) hS.2.2 dX5_lots_29
  · refine lv_iload_n hx hb dX5_lots_18 rfl (lv_at hl 2 rfl) ?_
    refine lv_iconst (v := 5) hx hb dX5_lots_19 (by decide) ?_
    refine lv_icmp_le (tgt := 30) hx hb dX5_lots_20 (by decide) (fun c_8 => ?_) (fun c_8 => ?_)
    · refine lv_iload_n hx hb dX5_lots_30 rfl (lv_at hl 3 rfl) ?_
      refine lv_iconst (v := 1) hx hb dX5_lots_31 (by decide) ?_
      refine lv_icmp_ge (tgt := 42) hx hb dX5_lots_32 (by decide) (fun c_9 => ?_) (fun c_9 => ?_)
      · refine lv_iload_n hx hb dX5_lots_42 rfl (lv_at hl 3 rfl) ?_
        refine lv_bipush (v := 30) hx hb dX5_lots_43 (by decide) ?_
        refine lv_icmp_le (tgt := 55) hx hb dX5_lots_45 (by decide) (fun c_10 => ?_) (fun c_10 => ?_)
        · have e5 : qLo ln (nI j0) a2 a3 = 0 := by simp [qLo, sNK, h_0, c_5, c_6, (Int32.not_lt.mpr c_8), (Int32.not_lt.mpr c_9), (Int32.not_lt.mpr c_10)]
          obtain ⟨n3, rfl, hn3⟩ := xInN1 (n := 30) (by decide) (Int32.not_lt.mpr c_9) (Int32.not_lt.mpr c_10)
          have hw0 := hwq j0 hj0
          refine lv_iload hx hb dX5_lots_55 (lv_at hl 4 rfl) ?_
          refine lv_istore (lv' := [(5, .int a4), (0, .ref g0), (1, .int (nI j0)), (2, .int a2), (3, .int (nI n3)), (4, .int a4)]) hx hb dX5_lots_57 hl (by decide) rfl (fun ls hl => ?_)
          refine lv_iconst (v := 0) hx hb dX5_lots_59 (by decide) ?_
          refine lv_istore (lv' := [(6, .int 0), (5, .int a4), (0, .ref g0), (1, .int (nI j0)), (2, .int a2), (3, .int (nI n3)), (4, .int a4)]) hx hb dX5_lots_60 hl (by decide) rfl (fun ls hl => ?_)
          refine lv_iconst (v := 0) hx hb dX5_lots_62 (by decide) ?_
          refine lv_istore (lv' := [(7, .int 0), (6, .int 0), (5, .int a4), (0, .ref g0), (1, .int (nI j0)), (2, .int a2), (3, .int (nI n3)), (4, .int a4)]) hx hb dX5_lots_63 hl (by decide) rfl (fun ls hl => ?_)
          refine xl_loopH (σ := Nat) (fun n q H locs ls => lv_has ls 10 [(7, .int (nI q)), (6, .int (xSm (x5L st nw (20 + 16 * j0) a2 a4) q)), (5, .int (xSd a4 q)), (0, .ref g0), (1, .int (nI j0)), (2, .int a2), (3, .int (nI n3)), (4, .int a4)] ∧ va_P D vwCl [(g0, .inr (5, [.ref ra, .ref wa, .ref ta, .int kpt, .ref ma, .int mkd, .ref pa, .int tpd, .int at0, .int wel, .ref ba, .ref ka, .int srt, .ref fa, .ref qa, .ref ea, .ref za, .ref ya, .int wks])), (wa, .inl (cI, 70, .inl nw)), (ra, .inl (cI, 7, .inl rf))] H ∧ va_D A [(g0, .inr (5, [.ref ra, .ref wa, .ref ta, .int kpt, .ref ma, .int mkd, .ref pa, .int tpd, .int at0, .int wel, .ref ba, .ref ka, .int srt, .ref fa, .ref qa, .ref ea, .ref za, .ref ya, .int wks])), (wa, .inl (cI, 70, .inl nw)), (ra, .inl (cI, 7, .inl rf))] ∧ va_S A s.heap H locs ∧ (n3 - q < n) ∧ (q ≤ n3)) (n3 + 1) (0) ⟨lv_sub hl [0, 1, 2, 3, 4, 5, 6, 7] rfl, hP.sub [0, 1, 2] rfl, hD.sub [0, 1, 2] (by decide) rfl, hS, by (try dsimp only); exact ⟨by omega, by omega⟩⟩ (fun q H lc ls h => absurd h.2.2.2.2.1 (Nat.not_lt_zero _)) ?_
          intro n_65 q_65 H locs ls ih_65 hI_65
          obtain ⟨hl, hP, hD, hS, hI_65⟩ := hI_65
          obtain ⟨k, e_65⟩ : ∃ z, z = q_65 := ⟨_, rfl⟩
          subst e_65
          obtain ⟨h1, h2⟩ := hI_65
          try dsimp only at hl hP hD h1 h2
          refine lv_iload hx hb dX5_lots_65 (lv_at hl 0 rfl) ?_
          refine lv_iload_n hx hb dX5_lots_67 rfl (lv_at hl 6 rfl) ?_
          refine lv_icmp_ge (tgt := 159) hx hb dX5_lots_68 (by decide) (fun c_11 => ?_) (fun c_11 => ?_)
          · refine lv_iload hx hb dX5_lots_159 (lv_at hl 1 rfl) ?_
            have hP9 := hP.sub (ws' := [(g0, .inr (5, [.ref ra, .ref wa, .ref ta, .int kpt, .ref ma, .int mkd, .ref pa, .int tpd, .int at0, .int wel, .ref ba, .ref ka, .int srt, .ref fa, .ref qa, .ref ea, .ref za, .ref ya, .int wks])), (wa, .inl (cI, 70, .inl nw)), (ra, .inl (cI, 7, .inl rf))]) [0, 1, 2] rfl
            have hD9 := hD.sub (ws' := [(g0, .inr (5, [.ref ra, .ref wa, .ref ta, .int kpt, .ref ma, .int mkd, .ref pa, .int tpd, .int at0, .int wel, .ref ba, .ref ka, .int srt, .ref fa, .ref qa, .ref ea, .ref za, .ref ya, .int wks])), (wa, .inl (cI, 70, .inl nw)), (ra, .inl (cI, 7, .inl rf))]) [0, 1, 2] (by decide) rfl
            have hE9 : ([(g0, .inr (5, [.ref ra, .ref wa, .ref ta, .int kpt, .ref ma, .int mkd, .ref pa, .int tpd, .int at0, .int wel, .ref ba, .ref ka, .int srt, .ref fa, .ref qa, .ref ea, .ref za, .ref ya, .int wks])), (wa, .inl (cI, 70, .inl nw)), (ra, .inl (cI, 7, .inl rf))] : va_W) = [(g0, .inr (5, [.ref ra, .ref wa, .ref ta, .int kpt, .ref ma, .int mkd, .ref pa, .int tpd, .int at0, .int wel, .ref ba, .ref ka, .int srt, .ref fa, .ref qa, .ref ea, .ref za, .ref ya, .int wks])), (wa, .inl (cI, 70, .inl nw)), (ra, .inl (cI, 7, .inl (xRq rf (qLo ln (nI j0) a2 (nI n3)))))] := by simp [xRq, e5]
            exact W.iret (v := xSm (x5L st nw (20 + 16 * j0) a2 a4) k) hx hb hr (fun t ht hW => ⟨⟨_, (), rfl, (by have w := mt (nI_ltI (a := k) (b := n3) (by omega) (by omega)).mpr (Int32.not_lt.mpr c_11); obtain rfl : k = n3 := (by omega); simp [e5, v5Lo, nI_clamp (show j0 < 2 ^ 31 by omega), nI_clamp (show k < 2 ^ 31 by omega)]), by rw [ht]; exact hE9 ▸ hP9, hE9 ▸ hD9⟩, hS.F ht⟩) hS.2.2 dX5_lots_161
          · refine lv_iload hx hb dX5_lots_71 (lv_at hl 2 rfl) ?_
            refine lv_ldc hx hb hown (hts (.constant RX5 191 (1664525)) (by decide +kernel)) dX5_lots_73 ?_
            refine lv_imul hx hb dX5_lots_75 ?_
            refine lv_ldc hx hb hown (hts (.constant RX5 192 (1013904223)) (by decide +kernel)) dX5_lots_76 ?_
            refine lv_iadd hx hb dX5_lots_78 ?_
            refine xv_int (y := xSd a4 (k + 1)) (rfl) ?_
            refine lv_istore (lv' := [(5, .int (xSd a4 (k + 1))), (7, .int (nI k)), (6, .int (xSm (x5L st nw (20 + 16 * j0) a2 a4) k)), (0, .ref g0), (1, .int (nI j0)), (2, .int a2), (3, .int (nI n3)), (4, .int a4)]) hx hb dX5_lots_79 hl (by decide) rfl (fun ls hl => ?_)
            refine lv_iload hx hb dX5_lots_81 (lv_at hl 0 rfl) ?_
            refine lv_ldc hx hb hown (hts (.constant RX5 193 (2147483647)) (by decide +kernel)) dX5_lots_83 ?_
            refine lv_iand hx hb dX5_lots_85 ?_
            refine lv_sipush (v := 256) hx hb dX5_lots_86 (by decide) ?_
            refine lv_idiv hx hb dX5_lots_89 ((by decide)) ?_
            refine lv_aload_n hx hb dX5_lots_90 rfl (lv_at hl 3 rfl) ?_
            refine lv_iload_n hx hb dX5_lots_91 rfl (lv_at hl 4 rfl) ?_
            refine lv_iconst (v := 0) hx hb dX5_lots_92 (by decide) ?_
            have hPc := hP.sub (ws' := [(g0, .inr (5, [.ref ra, .ref wa, .ref ta, .int kpt, .ref ma, .int mkd, .ref pa, .int tpd, .int at0, .int wel, .ref ba, .ref ka, .int srt, .ref fa, .ref qa, .ref ea, .ref za, .ref ya, .int wks])), (wa, .inl (cI, 70, .inl nw))]) [0, 1] rfl
            refine vp_callSi (va_Run.run (va_runV (As := [.int (nI j0), .int 0]) (rest := [.int (((xSd a4 (k + 1)) &&& 2147483647) / 256)]) ⟨hx, hb, hml, hown, hts⟩ (g_X5_weights l D cI cL cZ cC g0 ra wa ta ma pa ba ka fa qa ea za ya kpt mkd tpd at0 wel srt wks st nw j0 0 (by first | assumption | decide +kernel) (by first | assumption | decide +kernel) (by first | assumption | decide +kernel) (by omega) (by decide)) (cwV 2 hts gX5_lots_X5_weights rfl rfl rfl (by decide +kernel) ⟨Nat.le_of_ble_eq_true rfl, Nat.le_of_ble_eq_true rfl⟩) ⟨xPc_bl, va_recv hK hPc (ci := 5) (q0 := 0) rfl rfl, xPc_use hPc hK⟩ rfl rfl hl.1 rfl (lv_room (Nat.le_of_ble_eq_true rfl)) dX5_lots_93 ⟨Nat.le_of_ble_eq_true rfl, Nat.le_of_ble_eq_true rfl⟩)) (fun r_12 er_12 => ?_)
            obtain rfl : (xWs (fun i => nw (20 + 16 * j0 + i)) 0 : Int32) = r_12 := Eq.symm er_12
            refine lv_irem hx hb dX5_lots_96 (hw0) ?_
            refine xv_int (y := xRd (xSd a4 (k + 1)) (xWs (fun i => nw ((20 + 16 * j0) + i)) 0)) (rfl) ?_
            refine lv_istore (lv' := [(8, .int (xRd (xSd a4 (k + 1)) (xWs (fun i => nw ((20 + 16 * j0) + i)) 0))), (5, .int (xSd a4 (k + 1))), (7, .int (nI k)), (6, .int (xSm (x5L st nw (20 + 16 * j0) a2 a4) k)), (0, .ref g0), (1, .int (nI j0)), (2, .int a2), (3, .int (nI n3)), (4, .int a4)]) hx hb dX5_lots_97 hl (by decide) rfl (fun ls hl => ?_)
            refine lv_iconst (v := 0) hx hb dX5_lots_99 (by decide) ?_
            refine lv_istore (lv' := [(9, .int 0), (8, .int (xRd (xSd a4 (k + 1)) (xWs (fun i => nw ((20 + 16 * j0) + i)) 0))), (5, .int (xSd a4 (k + 1))), (7, .int (nI k)), (6, .int (xSm (x5L st nw (20 + 16 * j0) a2 a4) k)), (0, .ref g0), (1, .int (nI j0)), (2, .int a2), (3, .int (nI n3)), (4, .int a4)]) hx hb dX5_lots_100 hl (by decide) rfl (fun ls hl => ?_)
            refine xl_loopH (σ := Nat × Int32) (fun n q H locs ls => lv_has ls 10 [(9, .int (nI q.1)), (8, .int q.2), (5, .int (xSd a4 (k + 1))), (7, .int (nI k)), (6, .int (xSm (x5L st nw (20 + 16 * j0) a2 a4) k)), (0, .ref g0), (1, .int (nI j0)), (2, .int a2), (3, .int (nI n3)), (4, .int a4)] ∧ va_P D vwCl [(g0, .inr (5, [.ref ra, .ref wa, .ref ta, .int kpt, .ref ma, .int mkd, .ref pa, .int tpd, .int at0, .int wel, .ref ba, .ref ka, .int srt, .ref fa, .ref qa, .ref ea, .ref za, .ref ya, .int wks])), (wa, .inl (cI, 70, .inl nw)), (ra, .inl (cI, 7, .inl rf))] H ∧ va_D A [(g0, .inr (5, [.ref ra, .ref wa, .ref ta, .int kpt, .ref ma, .int mkd, .ref pa, .int tpd, .int at0, .int wel, .ref ba, .ref ka, .int srt, .ref fa, .ref qa, .ref ea, .ref za, .ref ya, .int wks])), (wa, .inl (cI, 70, .inl nw)), (ra, .inl (cI, 7, .inl rf))] ∧ va_S A s.heap H locs ∧ (12 - q.1 < n) ∧ (q.1 ≤ 12) ∧ (x5Lo (xWt (fun i => nw ((20 + 16 * j0) + i))) (12 - q.1) q.1 q.2 = x5Dr nw (20 + 16 * j0) (xSd a4 (k + 1)))) (13) (0, xRd (xSd a4 (k + 1)) (xWs (fun i => nw ((20 + 16 * j0) + i)) 0)) ⟨lv_sub hl [0, 1, 2, 3, 4, 5, 6, 7, 8, 9] rfl, hP.sub [0, 1, 2] rfl, hD.sub [0, 1, 2] (by decide) rfl, hS, by (try dsimp only); exact ⟨by omega, by omega, rfl⟩⟩ (fun q H lc ls h => absurd h.2.2.2.2.1 (Nat.not_lt_zero _)) ?_
            intro n_102 q_102 H locs ls ih_102 hI_102
            obtain ⟨hl, hP, hD, hS, hI_102⟩ := hI_102
            obtain ⟨t1, l1⟩ := q_102
            obtain ⟨i1, i2, i3⟩ := hI_102
            try dsimp only at hl hP hD i1 i2 i3
            refine lv_iload hx hb dX5_lots_102 (lv_at hl 0 rfl) ?_
            refine lv_bipush (v := 12) hx hb dX5_lots_104 (by decide) ?_
            refine lv_icmp_ge (tgt := 139) hx hb dX5_lots_106 (by decide) (fun c_13 => ?_) (fun c_13 => ?_)
            · have e6 : t1 = x5Dr nw (20 + 16 * j0) (xSd a4 (k + 1)) := by have w := mt (nI_ltI (a := t1) (b := 12) (by omega) (by omega)).mpr (Int32.not_lt.mpr c_13); rw [x5Lo_z (show t1 = 12 by omega)] at i3; exact i3
              have e7 : t1 ≤ 12 := by omega
              refine lv_iload hx hb dX5_lots_139 (lv_at hl 4 rfl) ?_
              refine lv_aload_n hx hb dX5_lots_141 rfl (lv_at hl 5 rfl) ?_
              refine lv_iload_n hx hb dX5_lots_142 rfl (lv_at hl 6 rfl) ?_
              refine lv_iload_n hx hb dX5_lots_143 rfl (lv_at hl 7 rfl) ?_
              refine lv_iconst (v := 5) hx hb dX5_lots_144 (by decide) ?_
              refine lv_iload hx hb dX5_lots_145 (lv_at hl 0 rfl) ?_
              have hPc := hP.sub (ws' := [(g0, .inr (5, [.ref ra, .ref wa, .ref ta, .int kpt, .ref ma, .int mkd, .ref pa, .int tpd, .int at0, .int wel, .ref ba, .ref ka, .int srt, .ref fa, .ref qa, .ref ea, .ref za, .ref ya, .int wks])), (wa, .inl (cI, 70, .inl nw))]) [0, 1] rfl
              refine vp_callSi (va_Run.run (va_runV (As := [.int (nI j0), .int a2, .int 5, .int (nI t1)]) (rest := [.int (xSm (x5L st nw (20 + 16 * j0) a2 a4) k)]) ⟨hx, hb, hml, hown, hts⟩ (g_X5_home l D cI cL cZ cC g0 ra wa ta ma pa ba ka fa qa ea za ya kpt mkd tpd at0 wel srt wks st nw j0 a2 5 (nI t1) (by first | assumption | decide +kernel) (by first | assumption | decide +kernel) (by first | assumption | decide +kernel) (by omega) (by first | assumption | decide +kernel) (by first | assumption | decide +kernel)) (cwV 4 hts gX5_lots_X5_home rfl rfl rfl (by decide +kernel) ⟨Nat.le_of_ble_eq_true rfl, Nat.le_of_ble_eq_true rfl⟩) ⟨xPc_bl, va_recv hK hPc (ci := 5) (q0 := 0) rfl rfl, xPc_use hPc hK⟩ rfl rfl hl.1 rfl (lv_room (Nat.le_of_ble_eq_true rfl)) dX5_lots_147 ⟨Nat.le_of_ble_eq_true rfl, Nat.le_of_ble_eq_true rfl⟩)) (fun r_14 er_14 => ?_)
              obtain rfl : (xHo st nw (20 + 16 * j0) a2 (5 : Int32) (nI t1) : Int32) = r_14 := Eq.symm er_14
              refine xv_int (y := (x5L st nw (20 + 16 * j0) a2 a4) k) (by rw [e6]; rfl) ?_
              refine lv_iadd hx hb dX5_lots_150 ?_
              refine xv_int (y := xSm (x5L st nw (20 + 16 * j0) a2 a4) (k + 1)) (rfl) ?_
              refine lv_istore (lv' := [(6, .int (xSm (x5L st nw (20 + 16 * j0) a2 a4) (k + 1))), (9, .int (nI t1)), (8, .int l1), (5, .int (xSd a4 (k + 1))), (7, .int (nI k)), (0, .ref g0), (1, .int (nI j0)), (2, .int a2), (3, .int (nI n3)), (4, .int a4)]) hx hb dX5_lots_151 hl (by decide) rfl (fun ls hl => ?_)
              refine lv_iinc (v := nI (k + 1)) (lv' := [(7, .int (nI (k + 1))), (6, .int (xSm (x5L st nw (20 + 16 * j0) a2 a4) (k + 1))), (9, .int (nI t1)), (8, .int l1), (5, .int (xSd a4 (k + 1))), (0, .ref g0), (1, .int (nI j0)), (2, .int a2), (3, .int (nI n3)), (4, .int a4)]) hx hb dX5_lots_153 hl (k := 4) rfl (nI_1 k) (by decide) rfl (fun ls hl => ?_)
              refine lv_goto (tgt := 65) hx hb dX5_lots_156 (by decide) ?_
              have w := (nI_ltI (a := k) (b := n3) (by omega) (by omega)).mp (Int32.not_le.mp c_11)
              exact ih_65 (k + 1) _ _ _ ⟨lv_sub hl [0, 1, 4, 5, 6, 7, 8, 9] rfl, hP.sub [0, 1, 2] rfl, hD.sub [0, 1, 2] (by decide) rfl, hS, by (try dsimp only); exact ⟨by omega, by omega⟩⟩
            · refine lv_iload hx hb dX5_lots_109 (lv_at hl 1 rfl) ?_
              refine lv_aload_n hx hb dX5_lots_111 rfl (lv_at hl 5 rfl) ?_
              refine lv_iload_n hx hb dX5_lots_112 rfl (lv_at hl 6 rfl) ?_
              refine lv_iload hx hb dX5_lots_113 (lv_at hl 0 rfl) ?_
              have hPc := hP.sub (ws' := [(g0, .inr (5, [.ref ra, .ref wa, .ref ta, .int kpt, .ref ma, .int mkd, .ref pa, .int tpd, .int at0, .int wel, .ref ba, .ref ka, .int srt, .ref fa, .ref qa, .ref ea, .ref za, .ref ya, .int wks])), (wa, .inl (cI, 70, .inl nw))]) [0, 1] rfl
              refine vp_callSi (va_Run.run (va_runV (As := [.int (nI j0), .int (nI t1)]) (rest := [.int l1]) ⟨hx, hb, hml, hown, hts⟩ (g_X5_weight l D cI cL cZ cC g0 ra wa ta ma pa ba ka fa qa ea za ya kpt mkd tpd at0 wel srt wks st nw j0 t1 (by first | assumption | decide +kernel) (by first | assumption | decide +kernel) (by first | assumption | decide +kernel) (by omega) (by omega)) (cwV 2 hts gX5_lots_X5_weight rfl rfl rfl (by decide +kernel) ⟨Nat.le_of_ble_eq_true rfl, Nat.le_of_ble_eq_true rfl⟩) ⟨xPc_bl, va_recv hK hPc (ci := 5) (q0 := 0) rfl rfl, xPc_use hPc hK⟩ rfl rfl hl.1 rfl (lv_room (Nat.le_of_ble_eq_true rfl)) dX5_lots_115 ⟨Nat.le_of_ble_eq_true rfl, Nat.le_of_ble_eq_true rfl⟩)) (fun r_15 er_15 => ?_)
              obtain rfl : (xWt (fun i => nw (20 + 16 * j0 + i)) t1 : Int32) = r_15 := Eq.symm er_15
              refine lv_icmp_lt (tgt := 139) hx hb dX5_lots_118 (by decide) (fun c_16 => ?_) (fun c_16 => ?_)
              · have e6 : t1 = x5Dr nw (20 + 16 * j0) (xSd a4 (k + 1)) := by have w := (nI_ltI (a := t1) (b := 12) (by omega) (by omega)).mp (Int32.not_le.mp c_13); rw [x5Lo_t w c_16] at i3; exact i3
                have e7 : t1 ≤ 12 := by omega
                refine lv_iload hx hb dX5_lots_139 (lv_at hl 4 rfl) ?_
                refine lv_aload_n hx hb dX5_lots_141 rfl (lv_at hl 5 rfl) ?_
                refine lv_iload_n hx hb dX5_lots_142 rfl (lv_at hl 6 rfl) ?_
                refine lv_iload_n hx hb dX5_lots_143 rfl (lv_at hl 7 rfl) ?_
                refine lv_iconst (v := 5) hx hb dX5_lots_144 (by decide) ?_
                refine lv_iload hx hb dX5_lots_145 (lv_at hl 0 rfl) ?_
                have hPc := hP.sub (ws' := [(g0, .inr (5, [.ref ra, .ref wa, .ref ta, .int kpt, .ref ma, .int mkd, .ref pa, .int tpd, .int at0, .int wel, .ref ba, .ref ka, .int srt, .ref fa, .ref qa, .ref ea, .ref za, .ref ya, .int wks])), (wa, .inl (cI, 70, .inl nw))]) [0, 1] rfl
                refine vp_callSi (va_Run.run (va_runV (As := [.int (nI j0), .int a2, .int 5, .int (nI t1)]) (rest := [.int (xSm (x5L st nw (20 + 16 * j0) a2 a4) k)]) ⟨hx, hb, hml, hown, hts⟩ (g_X5_home l D cI cL cZ cC g0 ra wa ta ma pa ba ka fa qa ea za ya kpt mkd tpd at0 wel srt wks st nw j0 a2 5 (nI t1) (by first | assumption | decide +kernel) (by first | assumption | decide +kernel) (by first | assumption | decide +kernel) (by omega) (by first | assumption | decide +kernel) (by first | assumption | decide +kernel)) (cwV 4 hts gX5_lots_X5_home rfl rfl rfl (by decide +kernel) ⟨Nat.le_of_ble_eq_true rfl, Nat.le_of_ble_eq_true rfl⟩) ⟨xPc_bl, va_recv hK hPc (ci := 5) (q0 := 0) rfl rfl, xPc_use hPc hK⟩ rfl rfl hl.1 rfl (lv_room (Nat.le_of_ble_eq_true rfl)) dX5_lots_147 ⟨Nat.le_of_ble_eq_true rfl, Nat.le_of_ble_eq_true rfl⟩)) (fun r_17 er_17 => ?_)
                obtain rfl : (xHo st nw (20 + 16 * j0) a2 (5 : Int32) (nI t1) : Int32) = r_17 := Eq.symm er_17
                refine xv_int (y := (x5L st nw (20 + 16 * j0) a2 a4) k) (by rw [e6]; rfl) ?_
                refine lv_iadd hx hb dX5_lots_150 ?_
                refine xv_int (y := xSm (x5L st nw (20 + 16 * j0) a2 a4) (k + 1)) (rfl) ?_
                refine lv_istore (lv' := [(6, .int (xSm (x5L st nw (20 + 16 * j0) a2 a4) (k + 1))), (9, .int (nI t1)), (8, .int l1), (5, .int (xSd a4 (k + 1))), (7, .int (nI k)), (0, .ref g0), (1, .int (nI j0)), (2, .int a2), (3, .int (nI n3)), (4, .int a4)]) hx hb dX5_lots_151 hl (by decide) rfl (fun ls hl => ?_)
                refine lv_iinc (v := nI (k + 1)) (lv' := [(7, .int (nI (k + 1))), (6, .int (xSm (x5L st nw (20 + 16 * j0) a2 a4) (k + 1))), (9, .int (nI t1)), (8, .int l1), (5, .int (xSd a4 (k + 1))), (0, .ref g0), (1, .int (nI j0)), (2, .int a2), (3, .int (nI n3)), (4, .int a4)]) hx hb dX5_lots_153 hl (k := 4) rfl (nI_1 k) (by decide) rfl (fun ls hl => ?_)
                refine lv_goto (tgt := 65) hx hb dX5_lots_156 (by decide) ?_
                have w := (nI_ltI (a := k) (b := n3) (by omega) (by omega)).mp (Int32.not_le.mp c_11)
                exact ih_65 (k + 1) _ _ _ ⟨lv_sub hl [0, 1, 4, 5, 6, 7, 8, 9] rfl, hP.sub [0, 1, 2] rfl, hD.sub [0, 1, 2] (by decide) rfl, hS, by (try dsimp only); exact ⟨by omega, by omega⟩⟩
              · refine lv_iload hx hb dX5_lots_121 (lv_at hl 1 rfl) ?_
                refine lv_aload_n hx hb dX5_lots_123 rfl (lv_at hl 5 rfl) ?_
                refine lv_iload_n hx hb dX5_lots_124 rfl (lv_at hl 6 rfl) ?_
                refine lv_iload hx hb dX5_lots_125 (lv_at hl 0 rfl) ?_
                have hPc := hP.sub (ws' := [(g0, .inr (5, [.ref ra, .ref wa, .ref ta, .int kpt, .ref ma, .int mkd, .ref pa, .int tpd, .int at0, .int wel, .ref ba, .ref ka, .int srt, .ref fa, .ref qa, .ref ea, .ref za, .ref ya, .int wks])), (wa, .inl (cI, 70, .inl nw))]) [0, 1] rfl
                refine vp_callSi (va_Run.run (va_runV (As := [.int (nI j0), .int (nI t1)]) (rest := [.int l1]) ⟨hx, hb, hml, hown, hts⟩ (g_X5_weight l D cI cL cZ cC g0 ra wa ta ma pa ba ka fa qa ea za ya kpt mkd tpd at0 wel srt wks st nw j0 t1 (by first | assumption | decide +kernel) (by first | assumption | decide +kernel) (by first | assumption | decide +kernel) (by omega) (by omega)) (cwV 2 hts gX5_lots_X5_weight rfl rfl rfl (by decide +kernel) ⟨Nat.le_of_ble_eq_true rfl, Nat.le_of_ble_eq_true rfl⟩) ⟨xPc_bl, va_recv hK hPc (ci := 5) (q0 := 0) rfl rfl, xPc_use hPc hK⟩ rfl rfl hl.1 rfl (lv_room (Nat.le_of_ble_eq_true rfl)) dX5_lots_127 ⟨Nat.le_of_ble_eq_true rfl, Nat.le_of_ble_eq_true rfl⟩)) (fun r_18 er_18 => ?_)
                obtain rfl : (xWt (fun i => nw (20 + 16 * j0 + i)) t1 : Int32) = r_18 := Eq.symm er_18
                refine lv_isub hx hb dX5_lots_130 ?_
                refine lv_istore (lv' := [(8, .int (l1 - (xWt (fun i => nw (20 + 16 * j0 + i)) t1))), (9, .int (nI t1)), (5, .int (xSd a4 (k + 1))), (7, .int (nI k)), (6, .int (xSm (x5L st nw (20 + 16 * j0) a2 a4) k)), (0, .ref g0), (1, .int (nI j0)), (2, .int a2), (3, .int (nI n3)), (4, .int a4)]) hx hb dX5_lots_131 hl (by decide) rfl (fun ls hl => ?_)
                refine lv_iinc (v := nI (t1 + 1)) (lv' := [(9, .int (nI (t1 + 1))), (8, .int (l1 - (xWt (fun i => nw (20 + 16 * j0 + i)) t1))), (5, .int (xSd a4 (k + 1))), (7, .int (nI k)), (6, .int (xSm (x5L st nw (20 + 16 * j0) a2 a4) k)), (0, .ref g0), (1, .int (nI j0)), (2, .int a2), (3, .int (nI n3)), (4, .int a4)]) hx hb dX5_lots_133 hl (k := 1) rfl (nI_1 t1) (by decide) rfl (fun ls hl => ?_)
                refine lv_goto (tgt := 102) hx hb dX5_lots_136 (by decide) ?_
                have w := (nI_ltI (a := t1) (b := 12) (by omega) (by omega)).mp (Int32.not_le.mp c_13)
                have e8 := (x5Lo_s w c_16).trans i3
                exact ih_102 (t1 + 1, l1 - (xWt (fun i => nw ((20 + 16 * j0) + i))) t1) _ _ _ ⟨lv_sub hl [0, 1, 2, 3, 4, 5, 6, 7, 8, 9] rfl, hP.sub [0, 1, 2] rfl, hD.sub [0, 1, 2] (by decide) rfl, hS, by (try dsimp only); exact ⟨by omega, by omega, e8⟩⟩
        · refine lv_aload_n hx hb dX5_lots_48 rfl (lv_at hl 0 rfl) ?_
          refine lv_bipush (v := -6) hx hb dX5_lots_49 (by decide) ?_
          have hPc := hP.sub (ws' := [(g0, .inr (5, [.ref ra, .ref wa, .ref ta, .int kpt, .ref ma, .int mkd, .ref pa, .int tpd, .int at0, .int wel, .ref ba, .ref ka, .int srt, .ref fa, .ref qa, .ref ea, .ref za, .ref ya, .int wks])), (ra, .inl (cI, 7, .inl rf))]) [0, 2] rfl
          have hDc := hD.sub (ws' := [(g0, .inr (5, [.ref ra, .ref wa, .ref ta, .int kpt, .ref ma, .int mkd, .ref pa, .int tpd, .int at0, .int wel, .ref ba, .ref ka, .int srt, .ref fa, .ref qa, .ref ea, .ref za, .ref ya, .int wks])), (ra, .inl (cI, 7, .inl rf))]) [0, 2] (by decide) rfl
          have hFc := va_free (wc := [(g0, .inr (5, [.ref ra, .ref wa, .ref ta, .int kpt, .ref ma, .int mkd, .ref pa, .int tpd, .int at0, .int wel, .ref ba, .ref ka, .int srt, .ref fa, .ref qa, .ref ea, .ref za, .ref ya, .int wks])), (ra, .inl (cI, 7, .inl rf))]) hD hS hA [0, 2] rfl
          refine va_calli (va_runV (As := [.int (-6)]) (rest := []) ⟨hx, hb, hml, hown, hts⟩ (g_X5_no l D cI cL cZ cC _ g0 ra wa ta ma pa ba ka fa qa ea za ya kpt mkd tpd at0 wel srt wks rf (-6) (by first | assumption | decide +kernel) (by first | assumption | decide +kernel)) (cwV 1 hts gX5_lots_X5_no rfl rfl rfl (by decide +kernel) ⟨Nat.le_of_ble_eq_true rfl, Nat.le_of_ble_eq_true rfl⟩) ⟨wPc_bl, va_recv hK hPc (ci := 5) (q0 := 0) rfl rfl, wPc_use hPc hK hDc⟩ rfl rfl hl.1 rfl (lv_room (Nat.le_of_ble_eq_true rfl)) dX5_lots_51 ⟨Nat.le_of_ble_eq_true rfl, Nat.le_of_ble_eq_true rfl⟩) hS (fun q _ h => hFc q h) hFc (fun r_19 u_19 t H1 locs ht hvm hw hB hz1 hk1 hS => ?_)
          obtain ⟨hP1, hD1⟩ := hB
          rw [ht] at hP1
          obtain ⟨hP, hD⟩ := va_join (wr := [(wa, .inl (cI, 70, .inl nw))]) (w1 := [(g0, .inr (5, [.ref ra, .ref wa, .ref ta, .int kpt, .ref ma, .int mkd, .ref pa, .int tpd, .int at0, .int wel, .ref ba, .ref ka, .int srt, .ref fa, .ref qa, .ref ea, .ref za, .ref ya, .int wks])), (ra, .inl (cI, 7, .inl (xRf rf (-6))))]) hP hD [0, 2] [1] rfl rfl (by decide) (by decide) hk1 hFc hP1 hD1
          generalize H1 = H at hP hS ⊢
          have hP : va_P D vwCl [(wa, .inl (cI, 70, .inl nw)), (g0, .inr (5, [.ref ra, .ref wa, .ref ta, .int kpt, .ref ma, .int mkd, .ref pa, .int tpd, .int at0, .int wel, .ref ba, .ref ka, .int srt, .ref fa, .ref qa, .ref ea, .ref za, .ref ya, .int wks])), (ra, .inl (cI, 7, .inl (xRf rf (-6))))] H := hP
          have hD : va_D A [(wa, .inl (cI, 70, .inl nw)), (g0, .inr (5, [.ref ra, .ref wa, .ref ta, .int kpt, .ref ma, .int mkd, .ref pa, .int tpd, .int at0, .int wel, .ref ba, .ref ka, .int srt, .ref fa, .ref qa, .ref ea, .ref za, .ref ya, .int wks])), (ra, .inl (cI, 7, .inl (xRf rf (-6))))] := hD
          obtain rfl : ((-6) : Int32) = r_19 := Eq.symm hw
          have hP9 := hP.sub (ws' := [(g0, .inr (5, [.ref ra, .ref wa, .ref ta, .int kpt, .ref ma, .int mkd, .ref pa, .int tpd, .int at0, .int wel, .ref ba, .ref ka, .int srt, .ref fa, .ref qa, .ref ea, .ref za, .ref ya, .int wks])), (wa, .inl (cI, 70, .inl nw)), (ra, .inl (cI, 7, .inl (xRf rf (-6))))]) [1, 0, 2] rfl
          have hD9 := hD.sub (ws' := [(g0, .inr (5, [.ref ra, .ref wa, .ref ta, .int kpt, .ref ma, .int mkd, .ref pa, .int tpd, .int at0, .int wel, .ref ba, .ref ka, .int srt, .ref fa, .ref qa, .ref ea, .ref za, .ref ya, .int wks])), (wa, .inl (cI, 70, .inl nw)), (ra, .inl (cI, 7, .inl (xRf rf (-6))))]) [1, 0, 2] (by decide) rfl
          have hE9 : ([(g0, .inr (5, [.ref ra, .ref wa, .ref ta, .int kpt, .ref ma, .int mkd, .ref pa, .int tpd, .int at0, .int wel, .ref ba, .ref ka, .int srt, .ref fa, .ref qa, .ref ea, .ref za, .ref ya, .int wks])), (wa, .inl (cI, 70, .inl nw)), (ra, .inl (cI, 7, .inl (xRf rf (-6))))] : va_W) = [(g0, .inr (5, [.ref ra, .ref wa, .ref ta, .int kpt, .ref ma, .int mkd, .ref pa, .int tpd, .int at0, .int wel, .ref ba, .ref ka, .int srt, .ref fa, .ref qa, .ref ea, .ref za, .ref ya, .int wks])), (wa, .inl (cI, 70, .inl nw)), (ra, .inl (cI, 7, .inl (xRq rf (qLo ln (nI j0) a2 a3))))] := by simp [xRq, qLo, sNK, h_0, c_5, c_6, (Int32.not_lt.mpr c_8), (Int32.not_lt.mpr c_9), (Int32.not_le.mp c_10)]
          exact W.iret (v := -6) hx hb hr (fun t ht hW => ⟨⟨_, (), rfl, by simp [qLo, sNK, v5Lo, h_0, c_5, c_6, (Int32.not_lt.mpr c_8), (Int32.not_lt.mpr c_9), (Int32.not_le.mp c_10)], by rw [ht]; exact hE9 ▸ hP9, hE9 ▸ hD9⟩, hS.F ht⟩) hS.2.2 dX5_lots_54
      · refine lv_aload_n hx hb dX5_lots_35 rfl (lv_at hl 0 rfl) ?_
        refine lv_bipush (v := -4) hx hb dX5_lots_36 (by decide) ?_
        have hPc := hP.sub (ws' := [(g0, .inr (5, [.ref ra, .ref wa, .ref ta, .int kpt, .ref ma, .int mkd, .ref pa, .int tpd, .int at0, .int wel, .ref ba, .ref ka, .int srt, .ref fa, .ref qa, .ref ea, .ref za, .ref ya, .int wks])), (ra, .inl (cI, 7, .inl rf))]) [0, 2] rfl
        have hDc := hD.sub (ws' := [(g0, .inr (5, [.ref ra, .ref wa, .ref ta, .int kpt, .ref ma, .int mkd, .ref pa, .int tpd, .int at0, .int wel, .ref ba, .ref ka, .int srt, .ref fa, .ref qa, .ref ea, .ref za, .ref ya, .int wks])), (ra, .inl (cI, 7, .inl rf))]) [0, 2] (by decide) rfl
        have hFc := va_free (wc := [(g0, .inr (5, [.ref ra, .ref wa, .ref ta, .int kpt, .ref ma, .int mkd, .ref pa, .int tpd, .int at0, .int wel, .ref ba, .ref ka, .int srt, .ref fa, .ref qa, .ref ea, .ref za, .ref ya, .int wks])), (ra, .inl (cI, 7, .inl rf))]) hD hS hA [0, 2] rfl
        refine va_calli (va_runV (As := [.int (-4)]) (rest := []) ⟨hx, hb, hml, hown, hts⟩ (g_X5_no l D cI cL cZ cC _ g0 ra wa ta ma pa ba ka fa qa ea za ya kpt mkd tpd at0 wel srt wks rf (-4) (by first | assumption | decide +kernel) (by first | assumption | decide +kernel)) (cwV 1 hts gX5_lots_X5_no rfl rfl rfl (by decide +kernel) ⟨Nat.le_of_ble_eq_true rfl, Nat.le_of_ble_eq_true rfl⟩) ⟨wPc_bl, va_recv hK hPc (ci := 5) (q0 := 0) rfl rfl, wPc_use hPc hK hDc⟩ rfl rfl hl.1 rfl (lv_room (Nat.le_of_ble_eq_true rfl)) dX5_lots_38 ⟨Nat.le_of_ble_eq_true rfl, Nat.le_of_ble_eq_true rfl⟩) hS (fun q _ h => hFc q h) hFc (fun r_20 u_20 t H1 locs ht hvm hw hB hz1 hk1 hS => ?_)
        obtain ⟨hP1, hD1⟩ := hB
        rw [ht] at hP1
        obtain ⟨hP, hD⟩ := va_join (wr := [(wa, .inl (cI, 70, .inl nw))]) (w1 := [(g0, .inr (5, [.ref ra, .ref wa, .ref ta, .int kpt, .ref ma, .int mkd, .ref pa, .int tpd, .int at0, .int wel, .ref ba, .ref ka, .int srt, .ref fa, .ref qa, .ref ea, .ref za, .ref ya, .int wks])), (ra, .inl (cI, 7, .inl (xRf rf (-4))))]) hP hD [0, 2] [1] rfl rfl (by decide) (by decide) hk1 hFc hP1 hD1
        generalize H1 = H at hP hS ⊢
        have hP : va_P D vwCl [(wa, .inl (cI, 70, .inl nw)), (g0, .inr (5, [.ref ra, .ref wa, .ref ta, .int kpt, .ref ma, .int mkd, .ref pa, .int tpd, .int at0, .int wel, .ref ba, .ref ka, .int srt, .ref fa, .ref qa, .ref ea, .ref za, .ref ya, .int wks])), (ra, .inl (cI, 7, .inl (xRf rf (-4))))] H := hP
        have hD : va_D A [(wa, .inl (cI, 70, .inl nw)), (g0, .inr (5, [.ref ra, .ref wa, .ref ta, .int kpt, .ref ma, .int mkd, .ref pa, .int tpd, .int at0, .int wel, .ref ba, .ref ka, .int srt, .ref fa, .ref qa, .ref ea, .ref za, .ref ya, .int wks])), (ra, .inl (cI, 7, .inl (xRf rf (-4))))] := hD
        obtain rfl : ((-4) : Int32) = r_20 := Eq.symm hw
        have hP9 := hP.sub (ws' := [(g0, .inr (5, [.ref ra, .ref wa, .ref ta, .int kpt, .ref ma, .int mkd, .ref pa, .int tpd, .int at0, .int wel, .ref ba, .ref ka, .int srt, .ref fa, .ref qa, .ref ea, .ref za, .ref ya, .int wks])), (wa, .inl (cI, 70, .inl nw)), (ra, .inl (cI, 7, .inl (xRf rf (-4))))]) [1, 0, 2] rfl
        have hD9 := hD.sub (ws' := [(g0, .inr (5, [.ref ra, .ref wa, .ref ta, .int kpt, .ref ma, .int mkd, .ref pa, .int tpd, .int at0, .int wel, .ref ba, .ref ka, .int srt, .ref fa, .ref qa, .ref ea, .ref za, .ref ya, .int wks])), (wa, .inl (cI, 70, .inl nw)), (ra, .inl (cI, 7, .inl (xRf rf (-4))))]) [1, 0, 2] (by decide) rfl
        have hE9 : ([(g0, .inr (5, [.ref ra, .ref wa, .ref ta, .int kpt, .ref ma, .int mkd, .ref pa, .int tpd, .int at0, .int wel, .ref ba, .ref ka, .int srt, .ref fa, .ref qa, .ref ea, .ref za, .ref ya, .int wks])), (wa, .inl (cI, 70, .inl nw)), (ra, .inl (cI, 7, .inl (xRf rf (-4))))] : va_W) = [(g0, .inr (5, [.ref ra, .ref wa, .ref ta, .int kpt, .ref ma, .int mkd, .ref pa, .int tpd, .int at0, .int wel, .ref ba, .ref ka, .int srt, .ref fa, .ref qa, .ref ea, .ref za, .ref ya, .int wks])), (wa, .inl (cI, 70, .inl nw)), (ra, .inl (cI, 7, .inl (xRq rf (qLo ln (nI j0) a2 a3))))] := by simp [xRq, qLo, sNK, h_0, c_5, c_6, (Int32.not_lt.mpr c_8), (Int32.not_le.mp c_9)]
        exact W.iret (v := -4) hx hb hr (fun t ht hW => ⟨⟨_, (), rfl, by simp [qLo, sNK, v5Lo, h_0, c_5, c_6, (Int32.not_lt.mpr c_8), (Int32.not_le.mp c_9)], by rw [ht]; exact hE9 ▸ hP9, hE9 ▸ hD9⟩, hS.F ht⟩) hS.2.2 dX5_lots_41
    · refine lv_aload_n hx hb dX5_lots_23 rfl (lv_at hl 0 rfl) ?_
      refine lv_bipush (v := -2) hx hb dX5_lots_24 (by decide) ?_
      have hPc := hP.sub (ws' := [(g0, .inr (5, [.ref ra, .ref wa, .ref ta, .int kpt, .ref ma, .int mkd, .ref pa, .int tpd, .int at0, .int wel, .ref ba, .ref ka, .int srt, .ref fa, .ref qa, .ref ea, .ref za, .ref ya, .int wks])), (ra, .inl (cI, 7, .inl rf))]) [0, 2] rfl
      have hDc := hD.sub (ws' := [(g0, .inr (5, [.ref ra, .ref wa, .ref ta, .int kpt, .ref ma, .int mkd, .ref pa, .int tpd, .int at0, .int wel, .ref ba, .ref ka, .int srt, .ref fa, .ref qa, .ref ea, .ref za, .ref ya, .int wks])), (ra, .inl (cI, 7, .inl rf))]) [0, 2] (by decide) rfl
      have hFc := va_free (wc := [(g0, .inr (5, [.ref ra, .ref wa, .ref ta, .int kpt, .ref ma, .int mkd, .ref pa, .int tpd, .int at0, .int wel, .ref ba, .ref ka, .int srt, .ref fa, .ref qa, .ref ea, .ref za, .ref ya, .int wks])), (ra, .inl (cI, 7, .inl rf))]) hD hS hA [0, 2] rfl
      refine va_calli (va_runV (As := [.int (-2)]) (rest := []) ⟨hx, hb, hml, hown, hts⟩ (g_X5_no l D cI cL cZ cC _ g0 ra wa ta ma pa ba ka fa qa ea za ya kpt mkd tpd at0 wel srt wks rf (-2) (by first | assumption | decide +kernel) (by first | assumption | decide +kernel)) (cwV 1 hts gX5_lots_X5_no rfl rfl rfl (by decide +kernel) ⟨Nat.le_of_ble_eq_true rfl, Nat.le_of_ble_eq_true rfl⟩) ⟨wPc_bl, va_recv hK hPc (ci := 5) (q0 := 0) rfl rfl, wPc_use hPc hK hDc⟩ rfl rfl hl.1 rfl (lv_room (Nat.le_of_ble_eq_true rfl)) dX5_lots_26 ⟨Nat.le_of_ble_eq_true rfl, Nat.le_of_ble_eq_true rfl⟩) hS (fun q _ h => hFc q h) hFc (fun r_21 u_21 t H1 locs ht hvm hw hB hz1 hk1 hS => ?_)
      obtain ⟨hP1, hD1⟩ := hB
      rw [ht] at hP1
      obtain ⟨hP, hD⟩ := va_join (wr := [(wa, .inl (cI, 70, .inl nw))]) (w1 := [(g0, .inr (5, [.ref ra, .ref wa, .ref ta, .int kpt, .ref ma, .int mkd, .ref pa, .int tpd, .int at0, .int wel, .ref ba, .ref ka, .int srt, .ref fa, .ref qa, .ref ea, .ref za, .ref ya, .int wks])), (ra, .inl (cI, 7, .inl (xRf rf (-2))))]) hP hD [0, 2] [1] rfl rfl (by decide) (by decide) hk1 hFc hP1 hD1
      generalize H1 = H at hP hS ⊢
      have hP : va_P D vwCl [(wa, .inl (cI, 70, .inl nw)), (g0, .inr (5, [.ref ra, .ref wa, .ref ta, .int kpt, .ref ma, .int mkd, .ref pa, .int tpd, .int at0, .int wel, .ref ba, .ref ka, .int srt, .ref fa, .ref qa, .ref ea, .ref za, .ref ya, .int wks])), (ra, .inl (cI, 7, .inl (xRf rf (-2))))] H := hP
      have hD : va_D A [(wa, .inl (cI, 70, .inl nw)), (g0, .inr (5, [.ref ra, .ref wa, .ref ta, .int kpt, .ref ma, .int mkd, .ref pa, .int tpd, .int at0, .int wel, .ref ba, .ref ka, .int srt, .ref fa, .ref qa, .ref ea, .ref za, .ref ya, .int wks])), (ra, .inl (cI, 7, .inl (xRf rf (-2))))] := hD
      obtain rfl : ((-2) : Int32) = r_21 := Eq.symm hw
      have hP9 := hP.sub (ws' := [(g0, .inr (5, [.ref ra, .ref wa, .ref ta, .int kpt, .ref ma, .int mkd, .ref pa, .int tpd, .int at0, .int wel, .ref ba, .ref ka, .int srt, .ref fa, .ref qa, .ref ea, .ref za, .ref ya, .int wks])), (wa, .inl (cI, 70, .inl nw)), (ra, .inl (cI, 7, .inl (xRf rf (-2))))]) [1, 0, 2] rfl
      have hD9 := hD.sub (ws' := [(g0, .inr (5, [.ref ra, .ref wa, .ref ta, .int kpt, .ref ma, .int mkd, .ref pa, .int tpd, .int at0, .int wel, .ref ba, .ref ka, .int srt, .ref fa, .ref qa, .ref ea, .ref za, .ref ya, .int wks])), (wa, .inl (cI, 70, .inl nw)), (ra, .inl (cI, 7, .inl (xRf rf (-2))))]) [1, 0, 2] (by decide) rfl
      have hE9 : ([(g0, .inr (5, [.ref ra, .ref wa, .ref ta, .int kpt, .ref ma, .int mkd, .ref pa, .int tpd, .int at0, .int wel, .ref ba, .ref ka, .int srt, .ref fa, .ref qa, .ref ea, .ref za, .ref ya, .int wks])), (wa, .inl (cI, 70, .inl nw)), (ra, .inl (cI, 7, .inl (xRf rf (-2))))] : va_W) = [(g0, .inr (5, [.ref ra, .ref wa, .ref ta, .int kpt, .ref ma, .int mkd, .ref pa, .int tpd, .int at0, .int wel, .ref ba, .ref ka, .int srt, .ref fa, .ref qa, .ref ea, .ref za, .ref ya, .int wks])), (wa, .inl (cI, 70, .inl nw)), (ra, .inl (cI, 7, .inl (xRq rf (qLo ln (nI j0) a2 a3))))] := by simp [xRq, qLo, sNK, h_0, c_5, c_6, (Int32.not_le.mp c_8)]
      exact W.iret (v := -2) hx hb hr (fun t ht hW => ⟨⟨_, (), rfl, by simp [qLo, sNK, v5Lo, h_0, c_5, c_6, (Int32.not_le.mp c_8)], by rw [ht]; exact hE9 ▸ hP9, hE9 ▸ hD9⟩, hS.F ht⟩) hS.2.2 dX5_lots_29
