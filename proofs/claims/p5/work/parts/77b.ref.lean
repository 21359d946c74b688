set_option maxHeartbeats 4000000 in
set_option maxRecDepth 100000 in
theorem g_X5_isAsItMustBe (l : Launch) (D : va_G) (cI cL cZ cC : ClassId) (g0 : Nat) (ra : Nat) (wa : Nat) (ta : Nat) (ma : Nat) (pa : Nat) (ba : Nat) (ka : Nat) (fa : Nat) (qa : Nat) (ea : Nat) (za : Nat) (ya : Nat) (kpt : Int32) (mkd : Int32) (tpd : Int32) (at0 : Int32) (wel : Int32) (srt : Int32) (wks : Int32) (ff : Nat → Int32) (s1 : Int32) (l1 : Int32)  : Met l yX5_isAsItMustBe wsX5_isAsItMustBe ({ frames := 0, cells := 0, slots := 0, locals := 0 } : Room) (xPc D [.ref g0, .int s1, .int l1] [(g0, .inr (5, [.ref ra, .ref wa, .ref ta, .int kpt, .ref ma, .int mkd, .ref pa, .int tpd, .int at0, .int wel, .ref ba, .ref ka, .int srt, .ref fa, .ref qa, .ref ea, .ref za, .ref ya, .int wks])), (fa, .inl (cI, 15, .inl ff))] (xTy cI cL cZ cC)) (vp_Si (fun r : Int32 => r = xMb srt ff s1 l1)) 0 0 (fun _ => False) := by
  refine Met.ofW (cc := cX5_isAsItMustBe) (maxL := 5) (ret := (some .boolean)) (by decide) rfl ?_
  intro p e s m args below meth c s₁ B hml hv
  obtain ⟨rfl, hP, hK⟩ := hv
  have hx := B.exec
  have hb := B.bytes
  have hr := B.returns
  have hts := atoms_spec (ws := wsX5_isAsItMustBe) B.pre
  have hown : s.vm.findClass RX5 = some m.cls := findClass_of_methodNamed B.named
  have hlocks := B.notSynchronized
  have hwX5 : ∀ w ∈ u_ws RX5 TX5 19, w ∈ wsX5_isAsItMustBe := fun _ h => List.mem_cons_of_mem _ (List.mem_append_right _ h)
  have hl := lv_entry ([.ref g0, .int s1, .int l1]) (n := 5) (Nat.le_of_ble_eq_true rfl)
  rw [lg_entry_eq]
  generalize (lg_sl ([.ref g0, .int s1, .int l1]) ++ List.replicate (5 - (lg_sl ([.ref g0, .int s1, .int l1])).length) Slot.unset).toArray = ls at hl ⊢
  have hl : lv_has ls 5 [(0, .ref g0), (1, .int s1), (2, .int l1)] := hl
  refine lv_aload_n hx hb dX5_isAsItMustBe_0 rfl (lv_at hl 0 rfl) ?_
  refine va_get (D := D) (ci := 5) (v := .int srt) (C := RX5) (T := TX5) (N := 19) hx hb hts hwX5 hown hK hP 0 rfl rfl 12 (by decide) (hts (.fieldLink RX5 75 "WaitOrWalkOnModel" "sort" "I") (by decide +kernel)) (fun _ h9 => h9) rfl dX5_isAsItMustBe_1 ?_
  refine lv_iconst (v := 3) hx hb dX5_isAsItMustBe_4 (by decide) ?_
  refine lv_icmp_ne (tgt := 60) hx hb dX5_isAsItMustBe_5 (by decide) (fun c_1 => ?_) (fun c_1 => ?_)
  · refine lv_aload_n hx hb dX5_isAsItMustBe_60 rfl (lv_at hl 0 rfl) ?_
    refine va_get (D := D) (ci := 5) (v := .int srt) (C := RX5) (T := TX5) (N := 19) hx hb hts hwX5 hown hK hP 0 rfl rfl 12 (by decide) (hts (.fieldLink RX5 75 "WaitOrWalkOnModel" "sort" "I") (by decide +kernel)) (fun _ h9 => h9) rfl dX5_isAsItMustBe_61 ?_
    refine lv_if_ne (tgt := 90) hx hb dX5_isAsItMustBe_64 (by decide) (fun c_2 => ?_) (fun c_2 => ?_)
    · refine lv_aload_n hx hb dX5_isAsItMustBe_90 rfl (lv_at hl 0 rfl) ?_
      refine va_get (D := D) (ci := 5) (v := .int srt) (C := RX5) (T := TX5) (N := 19) hx hb hts hwX5 hown hK hP 0 rfl rfl 12 (by decide) (hts (.fieldLink RX5 75 "WaitOrWalkOnModel" "sort" "I") (by decide +kernel)) (fun _ h9 => h9) rfl dX5_isAsItMustBe_91 ?_
      refine lv_iconst (v := 2) hx hb dX5_isAsItMustBe_94 (by decide) ?_
      refine lv_icmp_ne (tgt := 129) hx hb dX5_isAsItMustBe_95 (by decide) (fun c_3 => ?_) (fun c_3 => ?_)
      · refine lv_aload_n hx hb dX5_isAsItMustBe_129 rfl (lv_at hl 0 rfl) ?_
        refine va_get (D := D) (ci := 5) (v := .int srt) (C := RX5) (T := TX5) (N := 19) hx hb hts hwX5 hown hK hP 0 rfl rfl 12 (by decide) (hts (.fieldLink RX5 75 "WaitOrWalkOnModel" "sort" "I") (by decide +kernel)) (fun _ h9 => h9) rfl dX5_isAsItMustBe_130 ?_
        refine lv_iconst (v := 5) hx hb dX5_isAsItMustBe_133 (by decide) ?_
        refine lv_icmp_ne (tgt := 158) hx hb dX5_isAsItMustBe_134 (by decide) (fun c_4 => ?_) (fun c_4 => ?_)
        · refine lv_iconst (v := 1) hx hb dX5_isAsItMustBe_158 (by decide) ?_
          refine lv_goto (tgt := 163) hx hb dX5_isAsItMustBe_159 (by decide) ?_
          exact W.zret (v := 1) (ty := .boolean) hx hb hr (by decide +kernel) (fun t ht hW => ⟨_, rfl, (by rw [xMb, if_neg c_1, if_neg c_2, if_neg c_3, if_neg c_4]), ht⟩) (fun _ h => absurd h List.not_mem_nil) dX5_isAsItMustBe_163
        · refine lv_aload_n hx hb dX5_isAsItMustBe_137 rfl (lv_at hl 0 rfl) ?_
          refine va_get (D := D) (ci := 5) (v := .ref fa) (C := RX5) (T := TX5) (N := 19) hx hb hts hwX5 hown hK hP 0 rfl rfl 13 (by decide) (hts (.fieldLink RX5 38 "WaitOrWalkOnModel" "field" "[I") (by decide +kernel)) (fun _ h9 => h9) rfl dX5_isAsItMustBe_138 ?_
          refine lv_iconst (v := 0) hx hb dX5_isAsItMustBe_141 (by decide) ?_
          refine va_iald (D := D) hx hb hK hP 1 0 rfl rfl (by unfold vp_in; decide +kernel) dX5_isAsItMustBe_142 ?_
          refine xv_int (y := ff 0) rfl ?_
          refine lv_iconst (v := 1) hx hb dX5_isAsItMustBe_143 (by decide) ?_
          refine lv_icmp_lt (tgt := 162) hx hb dX5_isAsItMustBe_144 (by decide) (fun c_5 => ?_) (fun c_5 => ?_)
          · refine lv_iconst (v := 0) hx hb dX5_isAsItMustBe_162 (by decide) ?_
            exact W.zret (v := 0) (ty := .boolean) hx hb hr (by decide +kernel) (fun t ht hW => ⟨_, rfl, (by rw [xMb, if_neg c_1, if_neg c_2, if_neg c_3, if_pos c_4, if_pos c_5]), ht⟩) (fun _ h => absurd h List.not_mem_nil) dX5_isAsItMustBe_163
          · refine lv_aload_n hx hb dX5_isAsItMustBe_147 rfl (lv_at hl 0 rfl) ?_
            refine va_get (D := D) (ci := 5) (v := .ref fa) (C := RX5) (T := TX5) (N := 19) hx hb hts hwX5 hown hK hP 0 rfl rfl 13 (by decide) (hts (.fieldLink RX5 38 "WaitOrWalkOnModel" "field" "[I") (by decide +kernel)) (fun _ h9 => h9) rfl dX5_isAsItMustBe_148 ?_
            refine lv_iconst (v := 0) hx hb dX5_isAsItMustBe_151 (by decide) ?_
            refine va_iald (D := D) hx hb hK hP 1 0 rfl rfl (by unfold vp_in; decide +kernel) dX5_isAsItMustBe_152 ?_
            refine xv_int (y := ff 0) rfl ?_
            refine lv_bipush (v := 60) hx hb dX5_isAsItMustBe_153 (by decide) ?_
            refine lv_icmp_gt (tgt := 162) hx hb dX5_isAsItMustBe_155 (by decide) (fun c_6 => ?_) (fun c_6 => ?_)
            · refine lv_iconst (v := 0) hx hb dX5_isAsItMustBe_162 (by decide) ?_
              exact W.zret (v := 0) (ty := .boolean) hx hb hr (by decide +kernel) (fun t ht hW => ⟨_, rfl, (by rw [xMb, if_neg c_1, if_neg c_2, if_neg c_3, if_pos c_4, if_neg c_5, if_pos c_6]), ht⟩) (fun _ h => absurd h List.not_mem_nil) dX5_isAsItMustBe_163
            · refine lv_iconst (v := 1) hx hb dX5_isAsItMustBe_158 (by decide) ?_
              refine lv_goto (tgt := 163) hx hb dX5_isAsItMustBe_159 (by decide) ?_
              exact W.zret (v := 1) (ty := .boolean) hx hb hr (by decide +kernel) (fun t ht hW => ⟨_, rfl, (by rw [xMb, if_neg c_1, if_neg c_2, if_neg c_3, if_pos c_4, if_neg c_5, if_neg c_6]), ht⟩) (fun _ h => absurd h List.not_mem_nil) dX5_isAsItMustBe_163
      · refine lv_aload_n hx hb dX5_isAsItMustBe_98 rfl (lv_at hl 0 rfl) ?_
        refine va_get (D := D) (ci := 5) (v := .ref fa) (C := RX5) (T := TX5) (N := 19) hx hb hts hwX5 hown hK hP 0 rfl rfl 13 (by decide) (hts (.fieldLink RX5 38 "WaitOrWalkOnModel" "field" "[I") (by decide +kernel)) (fun _ h9 => h9) rfl dX5_isAsItMustBe_99 ?_
        refine lv_iconst (v := 0) hx hb dX5_isAsItMustBe_102 (by decide) ?_
        refine va_iald (D := D) hx hb hK hP 1 0 rfl rfl (by unfold vp_in; decide +kernel) dX5_isAsItMustBe_103 ?_
        refine xv_int (y := ff 0) rfl ?_
        refine lv_bipush (v := 20) hx hb dX5_isAsItMustBe_104 (by decide) ?_
        refine lv_icmp_lt (tgt := 125) hx hb dX5_isAsItMustBe_106 (by decide) (fun c_7 => ?_) (fun c_7 => ?_)
        · refine lv_iconst (v := 0) hx hb dX5_isAsItMustBe_125 (by decide) ?_
          refine lv_goto (tgt := 163) hx hb dX5_isAsItMustBe_126 (by decide) ?_
          exact W.zret (v := 0) (ty := .boolean) hx hb hr (by decide +kernel) (fun t ht hW => ⟨_, rfl, (by rw [xMb, if_neg c_1, if_neg c_2, if_pos c_3, if_pos c_7]), ht⟩) (fun _ h => absurd h List.not_mem_nil) dX5_isAsItMustBe_163
        · refine lv_aload_n hx hb dX5_isAsItMustBe_109 rfl (lv_at hl 0 rfl) ?_
          refine va_get (D := D) (ci := 5) (v := .ref fa) (C := RX5) (T := TX5) (N := 19) hx hb hts hwX5 hown hK hP 0 rfl rfl 13 (by decide) (hts (.fieldLink RX5 38 "WaitOrWalkOnModel" "field" "[I") (by decide +kernel)) (fun _ h9 => h9) rfl dX5_isAsItMustBe_110 ?_
          refine lv_iconst (v := 0) hx hb dX5_isAsItMustBe_113 (by decide) ?_
          refine va_iald (D := D) hx hb hK hP 1 0 rfl rfl (by unfold vp_in; decide +kernel) dX5_isAsItMustBe_114 ?_
          refine xv_int (y := ff 0) rfl ?_
          refine lv_sipush (v := 200) hx hb dX5_isAsItMustBe_115 (by decide) ?_
          refine lv_icmp_gt (tgt := 125) hx hb dX5_isAsItMustBe_118 (by decide) (fun c_8 => ?_) (fun c_8 => ?_)
          · refine lv_iconst (v := 0) hx hb dX5_isAsItMustBe_125 (by decide) ?_
            refine lv_goto (tgt := 163) hx hb dX5_isAsItMustBe_126 (by decide) ?_
            exact W.zret (v := 0) (ty := .boolean) hx hb hr (by decide +kernel) (fun t ht hW => ⟨_, rfl, (by rw [xMb, if_neg c_1, if_neg c_2, if_pos c_3, if_neg c_7, if_pos c_8]), ht⟩) (fun _ h => absurd h List.not_mem_nil) dX5_isAsItMustBe_163
          · refine lv_iconst (v := 1) hx hb dX5_isAsItMustBe_121 (by decide) ?_
            refine lv_goto (tgt := 163) hx hb dX5_isAsItMustBe_122 (by decide) ?_
            exact W.zret (v := 1) (ty := .boolean) hx hb hr (by decide +kernel) (fun t ht hW => ⟨_, rfl, (by rw [xMb, if_neg c_1, if_neg c_2, if_pos c_3, if_neg c_7, if_neg c_8]), ht⟩) (fun _ h => absurd h List.not_mem_nil) dX5_isAsItMustBe_163
    · refine lv_aload_n hx hb dX5_isAsItMustBe_67 rfl (lv_at hl 0 rfl) ?_
      refine va_get (D := D) (ci := 5) (v := .ref fa) (C := RX5) (T := TX5) (N := 19) hx hb hts hwX5 hown hK hP 0 rfl rfl 13 (by decide) (hts (.fieldLink RX5 38 "WaitOrWalkOnModel" "field" "[I") (by decide +kernel)) (fun _ h9 => h9) rfl dX5_isAsItMustBe_68 ?_
      refine lv_iconst (v := 0) hx hb dX5_isAsItMustBe_71 (by decide) ?_
      refine va_iald (D := D) hx hb hK hP 1 0 rfl rfl (by unfold vp_in; decide +kernel) dX5_isAsItMustBe_72 ?_
      refine xv_int (y := ff 0) rfl ?_
      refine lv_if_le (tgt := 86) hx hb dX5_isAsItMustBe_73 (by decide) (fun c_9 => ?_) (fun c_9 => ?_)
      · refine lv_iconst (v := 0) hx hb dX5_isAsItMustBe_86 (by decide) ?_
        refine lv_goto (tgt := 163) hx hb dX5_isAsItMustBe_87 (by decide) ?_
        exact W.zret (v := 0) (ty := .boolean) hx hb hr (by decide +kernel) (fun t ht hW => ⟨_, rfl, (by rw [xMb, if_neg c_1, if_pos c_2, if_neg (Int32.not_lt.mpr c_9)]), ht⟩) (fun _ h => absurd h List.not_mem_nil) dX5_isAsItMustBe_163
      · refine lv_iload_n hx hb dX5_isAsItMustBe_76 rfl (lv_at hl 1 rfl) ?_
        refine lv_bipush (v := 7) hx hb dX5_isAsItMustBe_77 (by decide) ?_
        refine lv_icmp_ge (tgt := 86) hx hb dX5_isAsItMustBe_79 (by decide) (fun c_10 => ?_) (fun c_10 => ?_)
        · refine lv_iconst (v := 0) hx hb dX5_isAsItMustBe_86 (by decide) ?_
          refine lv_goto (tgt := 163) hx hb dX5_isAsItMustBe_87 (by decide) ?_
          exact W.zret (v := 0) (ty := .boolean) hx hb hr (by decide +kernel) (fun t ht hW => ⟨_, rfl, (by rw [xMb, if_neg c_1, if_pos c_2, if_pos (Int32.not_le.mp c_9), if_neg (Int32.not_lt.mpr c_10)]), ht⟩) (fun _ h => absurd h List.not_mem_nil) dX5_isAsItMustBe_163
        · refine lv_iconst (v := 1) hx hb dX5_isAsItMustBe_82 (by decide) ?_
          refine lv_goto (tgt := 163) hx hb dX5_isAsItMustBe_83 (by decide) ?_
          exact W.zret (v := 1) (ty := .boolean) hx hb hr (by decide +kernel) (fun t ht hW => ⟨_, rfl, (by rw [xMb, if_neg c_1, if_pos c_2, if_pos (Int32.not_le.mp c_9), if_pos (Int32.not_le.mp c_10)]), ht⟩) (fun _ h => absurd h List.not_mem_nil) dX5_isAsItMustBe_163
  · refine lv_iconst (v := 0) hx hb dX5_isAsItMustBe_8 (by decide) ?_
    refine lv_istore_n (lv' := [(3, .int 0), (0, .ref g0), (1, .int s1), (2, .int l1)]) hx hb dX5_isAsItMustBe_9 rfl hl (by decide) rfl (fun ls hl => ?_)
    refine lv_iconst (v := 2) hx hb dX5_isAsItMustBe_10 (by decide) ?_
    refine lv_istore (lv' := [(4, .int 2), (3, .int 0), (0, .ref g0), (1, .int s1), (2, .int l1)]) hx hb dX5_isAsItMustBe_11 hl (by decide) rfl (fun ls hl => ?_)
    refine xl_loop (σ := Nat) (fun n q ls => lv_has ls 5 [(4, .int (nI (q + 2))), (3, .int (xSmF ff 2 q)), (0, .ref g0), (1, .int s1), (2, .int l1)] ∧ (13 - q < n) ∧ (q ≤ 13)) (14) (0) ⟨lv_sub hl [0, 1, 2, 3, 4] rfl, by (try dsimp only); exact ⟨by omega, by omega⟩⟩ (fun q ls h => absurd h.2.1 (Nat.not_lt_zero _)) ?_
    intro n_13 q_13 ls ih_13 hI_13
    obtain ⟨hl, hI_13⟩ := hI_13
    obtain ⟨k, e_13⟩ : ∃ z, z = q_13 := ⟨_, rfl⟩
    subst e_13
    obtain ⟨h1, h2⟩ := hI_13
    try dsimp only at hl h1 h2
    refine lv_iload hx hb dX5_isAsItMustBe_13 (lv_at hl 0 rfl) ?_
    refine lv_bipush (v := 15) hx hb dX5_isAsItMustBe_15 (by decide) ?_
    refine lv_icmp_ge (tgt := 36) hx hb dX5_isAsItMustBe_17 (by decide) (fun c_11 => ?_) (fun c_11 => ?_)
    · refine lv_aload_n hx hb dX5_isAsItMustBe_36 rfl (lv_at hl 2 rfl) ?_
      refine va_get (D := D) (ci := 5) (v := .ref fa) (C := RX5) (T := TX5) (N := 19) hx hb hts hwX5 hown hK hP 0 rfl rfl 13 (by decide) (hts (.fieldLink RX5 38 "WaitOrWalkOnModel" "field" "[I") (by decide +kernel)) (fun _ h9 => h9) rfl dX5_isAsItMustBe_37 ?_
      refine lv_iconst (v := 1) hx hb dX5_isAsItMustBe_40 (by decide) ?_
      refine va_iald (D := D) hx hb hK hP 1 0 rfl rfl (by unfold vp_in; decide +kernel) dX5_isAsItMustBe_41 ?_
      refine xv_int (y := ff 1) rfl ?_
      refine lv_if_le (tgt := 58) hx hb dX5_isAsItMustBe_42 (by decide) (fun c_12 => ?_) (fun c_12 => ?_)
      · refine lv_iconst (v := 0) hx hb dX5_isAsItMustBe_58 (by decide) ?_
        exact W.zret (v := 0) (ty := .boolean) hx hb hr (by decide +kernel) (fun t ht hW => ⟨_, rfl, (by have w := mt (nI_ltI (a := k + 2) (b := 15) (by omega) (by omega)).mpr (Int32.not_lt.mpr c_11); obtain rfl : k = 13 := (by omega); rw [xMb, if_pos c_1, if_neg (Int32.not_lt.mpr c_12)]), ht⟩) (fun _ h => absurd h List.not_mem_nil) dX5_isAsItMustBe_59
      · refine lv_iload_n hx hb dX5_isAsItMustBe_45 rfl (lv_at hl 1 rfl) ?_
        refine lv_if_le (tgt := 58) hx hb dX5_isAsItMustBe_46 (by decide) (fun c_13 => ?_) (fun c_13 => ?_)
        · refine lv_iconst (v := 0) hx hb dX5_isAsItMustBe_58 (by decide) ?_
          exact W.zret (v := 0) (ty := .boolean) hx hb hr (by decide +kernel) (fun t ht hW => ⟨_, rfl, (by have w := mt (nI_ltI (a := k + 2) (b := 15) (by omega) (by omega)).mpr (Int32.not_lt.mpr c_11); obtain rfl : k = 13 := (by omega); rw [xMb, if_pos c_1, if_pos (Int32.not_le.mp c_12), if_neg (Int32.not_lt.mpr c_13)]), ht⟩) (fun _ h => absurd h List.not_mem_nil) dX5_isAsItMustBe_59
        · refine lv_iload_n hx hb dX5_isAsItMustBe_49 rfl (lv_at hl 4 rfl) ?_
          refine lv_iconst (v := 3) hx hb dX5_isAsItMustBe_50 (by decide) ?_
          refine lv_icmp_ge (tgt := 58) hx hb dX5_isAsItMustBe_51 (by decide) (fun c_14 => ?_) (fun c_14 => ?_)
          · refine lv_iconst (v := 0) hx hb dX5_isAsItMustBe_58 (by decide) ?_
            exact W.zret (v := 0) (ty := .boolean) hx hb hr (by decide +kernel) (fun t ht hW => ⟨_, rfl, (by have w := mt (nI_ltI (a := k + 2) (b := 15) (by omega) (by omega)).mpr (Int32.not_lt.mpr c_11); obtain rfl : k = 13 := (by omega); rw [xMb, if_pos c_1, if_pos (Int32.not_le.mp c_12), if_pos (Int32.not_le.mp c_13), if_neg (Int32.not_lt.mpr c_14)]), ht⟩) (fun _ h => absurd h List.not_mem_nil) dX5_isAsItMustBe_59
          · refine lv_iconst (v := 1) hx hb dX5_isAsItMustBe_54 (by decide) ?_
            refine lv_goto (tgt := 59) hx hb dX5_isAsItMustBe_55 (by decide) ?_
            exact W.zret (v := 1) (ty := .boolean) hx hb hr (by decide +kernel) (fun t ht hW => ⟨_, rfl, (by have w := mt (nI_ltI (a := k + 2) (b := 15) (by omega) (by omega)).mpr (Int32.not_lt.mpr c_11); obtain rfl : k = 13 := (by omega); rw [xMb, if_pos c_1, if_pos (Int32.not_le.mp c_12), if_pos (Int32.not_le.mp c_13), if_pos (Int32.not_le.mp c_14)]), ht⟩) (fun _ h => absurd h List.not_mem_nil) dX5_isAsItMustBe_59
    · refine lv_iload_n hx hb dX5_isAsItMustBe_20 rfl (lv_at hl 1 rfl) ?_
      refine lv_aload_n hx hb dX5_isAsItMustBe_21 rfl (lv_at hl 2 rfl) ?_
      refine va_get (D := D) (ci := 5) (v := .ref fa) (C := RX5) (T := TX5) (N := 19) hx hb hts hwX5 hown hK hP 0 rfl rfl 13 (by decide) (hts (.fieldLink RX5 38 "WaitOrWalkOnModel" "field" "[I") (by decide +kernel)) (fun _ h9 => h9) rfl dX5_isAsItMustBe_22 ?_
      refine lv_iload hx hb dX5_isAsItMustBe_25 (lv_at hl 0 rfl) ?_
      refine va_iald (D := D) hx hb hK hP 1 0 rfl rfl (vp_in_nI (by have w := (nI_ltI (a := k + 2) (b := 15) (by omega) (by omega)).mp (Int32.not_le.mp c_11); omega) (by decide)) dX5_isAsItMustBe_27 ?_
      refine xv_int (y := ff (2 + k)) (congrArg ff ((nI_clamp (by omega)).trans (Nat.add_comm k 2))) ?_
      refine lv_iadd hx hb dX5_isAsItMustBe_28 ?_
      refine xv_int (y := xSmF ff 2 (k + 1)) (rfl) ?_
      refine lv_istore_n (lv' := [(3, .int (xSmF ff 2 (k + 1))), (4, .int (nI (k + 2))), (0, .ref g0), (1, .int s1), (2, .int l1)]) hx hb dX5_isAsItMustBe_29 rfl hl (by decide) rfl (fun ls hl => ?_)
      refine lv_iinc (v := nI (k + 1 + 2)) (lv' := [(4, .int (nI (k + 1 + 2))), (3, .int (xSmF ff 2 (k + 1))), (0, .ref g0), (1, .int s1), (2, .int l1)]) hx hb dX5_isAsItMustBe_30 hl (k := 1) rfl (by rw [show k + 1 + 2 = k + 2 + 1 by omega]; exact nI_1 (k + 2)) (by decide) rfl (fun ls hl => ?_)
      refine lv_goto (tgt := 13) hx hb dX5_isAsItMustBe_33 (by decide) ?_
      have w := (nI_ltI (a := k + 2) (b := 15) (by omega) (by omega)).mp (Int32.not_le.mp c_11)
      exact ih_13 (k + 1) _ ⟨lv_sub hl [0, 1, 2, 3, 4] rfl, by (try dsimp only); exact ⟨by omega, by omega⟩⟩
