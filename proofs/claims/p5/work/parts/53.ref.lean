set_option maxHeartbeats 4000000 in
set_option maxRecDepth 100000 in
theorem g_X5_workOut (l : Launch) (D : va_G) (cI cL cZ cC : ClassId) (sz : Nat) (g0 : Nat) (ra : Nat) (wa : Nat) (ta : Nat) (ma : Nat) (pa : Nat) (ba : Nat) (ka : Nat) (fa : Nat) (qa : Nat) (ea : Nat) (za : Nat) (ya : Nat) (kpt : Int32) (mkd : Int32) (tpd : Int32) (at0 : Int32) (wel : Int32) (srt : Int32) (wks : Int32) (st : Nat) (nw : Nat → Int32) (a0 : Nat) (wn : Nat → Nat) (y : Nat → Int32) (hn0 : nw 0 = nI st) (hs1 : 1 ≤ st) (hs7 : st ≤ 7) (ha : a0 ≤ 2) (hq2 : ¬ nw 2 = 0) (hwn : ∀ j, 1 ≤ j → j ≤ st → (xLm nw st j + nw 2 - 1) / nw 2 = nI (wn j) ∧ wn j ≤ 1000) : Met l yX5_workOut wsX5_workOut ({ frames := 6, cells := 0, slots := 0, locals := 148 } : Room) (wPc D [.ref g0, .int (nI a0)] [(g0, .inr (5, [.ref ra, .ref wa, .ref ta, .int kpt, .ref ma, .int mkd, .ref pa, .int tpd, .int at0, .int wel, .ref ba, .ref ka, .int srt, .ref fa, .ref qa, .ref ea, .ref za, .ref ya, .int wks])), (wa, .inl (cI, 70, .inl nw)), (ya, .inl (cI, 5600, .inl y))] (xTy cI cL cZ cC) sz) (va_Qv (fun (_ : Unit) => True) (fun (_ : Unit) t => ∃ wk9 : Int32, va_P D vwCl [(g0, .inr (5, [.ref ra, .ref wa, .ref ta, .int kpt, .ref ma, .int mkd, .ref pa, .int tpd, .int at0, .int wel, .ref ba, .ref ka, .int srt, .ref fa, .ref qa, .ref ea, .ref za, .ref ya, .int wk9])), (wa, .inl (cI, 70, .inl nw)), (ya, .inl (cI, 5600, .inl (x5Y3 st nw (20 + 16 * a0) wn y st)))] t.heap ∧ va_D (va_A [(g0, .inr (5, [.ref ra, .ref wa, .ref ta, .int kpt, .ref ma, .int mkd, .ref pa, .int tpd, .int at0, .int wel, .ref ba, .ref ka, .int srt, .ref fa, .ref qa, .ref ea, .ref za, .ref ya, .int wks])), (wa, .inl (cI, 70, .inl nw)), (ya, .inl (cI, 5600, .inl y))] sz) [(g0, .inr (5, [.ref ra, .ref wa, .ref ta, .int kpt, .ref ma, .int mkd, .ref pa, .int tpd, .int at0, .int wel, .ref ba, .ref ka, .int srt, .ref fa, .ref qa, .ref ea, .ref za, .ref ya, .int wk9])), (wa, .inl (cI, 70, .inl nw)), (ya, .inl (cI, 5600, .inl (x5Y3 st nw (20 + 16 * a0) wn y st)))]) (va_A [(g0, .inr (5, [.ref ra, .ref wa, .ref ta, .int kpt, .ref ma, .int mkd, .ref pa, .int tpd, .int at0, .int wel, .ref ba, .ref ka, .int srt, .ref fa, .ref qa, .ref ea, .ref za, .ref ya, .int wks])), (wa, .inl (cI, 70, .inl nw)), (ya, .inl (cI, 5600, .inl y))] sz)) 0 0 (va_A [(g0, .inr (5, [.ref ra, .ref wa, .ref ta, .int kpt, .ref ma, .int mkd, .ref pa, .int tpd, .int at0, .int wel, .ref ba, .ref ka, .int srt, .ref fa, .ref qa, .ref ea, .ref za, .ref ya, .int wks])), (wa, .inl (cI, 70, .inl nw)), (ya, .inl (cI, 5600, .inl y))] sz) := by
  refine Met.ofW (cc := cX5_workOut) (maxL := 5) (ret := none) (by decide) rfl ?_
  intro p e s m args below meth c s₁ B hml hv
  obtain ⟨rfl, hsz, hP, hK, hD0⟩ := hv
  have hx := B.exec
  have hb := B.bytes
  have hr := B.returns
  have hts := atoms_spec (ws := wsX5_workOut) B.pre
  have hown : s.vm.findClass RX5 = some m.cls := findClass_of_methodNamed B.named
  have hlocks := B.notSynchronized
  have hwX5 : ∀ w ∈ u_ws RX5 TX5 19, w ∈ wsX5_workOut := fun _ h => List.mem_cons_of_mem _ (List.mem_append_right _ h)
  subst hsz
  have hD := hD0.self (sz := s.heap.size)
  generalize hAe : va_A [(g0, .inr (5, [.ref ra, .ref wa, .ref ta, .int kpt, .ref ma, .int mkd, .ref pa, .int tpd, .int at0, .int wel, .ref ba, .ref ka, .int srt, .ref fa, .ref qa, .ref ea, .ref za, .ref ya, .int wks])), (wa, .inl (cI, 70, .inl nw)), (ya, .inl (cI, 5600, .inl y))] s.heap.size = A at hD ⊢
  have hA : ∀ q : Nat, s.heap.size ≤ q → A q := fun q h => by rw [← hAe]; exact Or.inr h
  have hS : va_S A s.heap s.heap [] := va_S.rf
  have hP : va_P D vwCl [(g0, .inr (5, [.ref ra, .ref wa, .ref ta, .int kpt, .ref ma, .int mkd, .ref pa, .int tpd, .int at0, .int wel, .ref ba, .ref ka, .int srt, .ref fa, .ref qa, .ref ea, .ref za, .ref ya, .int wks])), (wa, .inl (cI, 70, .inl nw)), (ya, .inl (cI, 5600, .inl y))] s.heap := hP
  have hl := lv_entry ([.ref g0, .int (nI a0)]) (n := 5) (Nat.le_of_ble_eq_true rfl)
  rw [lg_entry_eq]
  generalize (lg_sl ([.ref g0, .int (nI a0)]) ++ List.replicate (5 - (lg_sl ([.ref g0, .int (nI a0)])).length) Slot.unset).toArray = ls at hl ⊢
  have hl : lv_has ls 5 [(0, .ref g0), (1, .int (nI a0))] := hl
  refine lv_aload_n hx hb dX5_workOut_0 rfl (lv_at hl 0 rfl) ?_
  refine va_get (D := D) (ci := 5) (v := .ref wa) (C := RX5) (T := TX5) (N := 19) hx hb hts hwX5 hown hK hP 0 rfl rfl 1 (by decide) (hts (.fieldLink RX5 19 "WaitOrWalkOnModel" "now" "[I") (by decide +kernel)) (fun _ h9 => h9) rfl dX5_workOut_1 ?_
  refine lv_iconst (v := 0) hx hb dX5_workOut_4 (by decide) ?_
  refine va_iald (D := D) hx hb hK hP 1 0 rfl rfl (by unfold vp_in; decide +kernel) dX5_workOut_5 ?_
  refine xv_int (y := nw 0) rfl ?_
  refine xv_int (y := nI st) (hn0) ?_
  refine lv_iconst (v := 1) hx hb dX5_workOut_6 (by decide) ?_
  refine lv_isub hx hb dX5_workOut_7 ?_
  refine xv_int (y := nI (st - 0) - 1) (by rw [Nat.sub_zero]) ?_
  refine lv_istore_n (lv' := [(2, .int (nI (st - 0) - 1)), (0, .ref g0), (1, .int (nI a0))]) hx hb dX5_workOut_8 rfl hl (by decide) rfl (fun ls hl => ?_)
  refine xl_loopH (σ := Nat × (Nat → Int32) × Int32) (fun n q H locs ls => lv_has ls 5 [(2, .int (nI (st - q.1) - 1)), (0, .ref g0), (1, .int (nI a0))] ∧ va_P D vwCl [(g0, .inr (5, [.ref ra, .ref wa, .ref ta, .int kpt, .ref ma, .int mkd, .ref pa, .int tpd, .int at0, .int wel, .ref ba, .ref ka, .int srt, .ref fa, .ref qa, .ref ea, .ref za, .ref ya, .int q.2.2])), (wa, .inl (cI, 70, .inl nw)), (ya, .inl (cI, 5600, .inl q.2.1))] H ∧ va_D A [(g0, .inr (5, [.ref ra, .ref wa, .ref ta, .int kpt, .ref ma, .int mkd, .ref pa, .int tpd, .int at0, .int wel, .ref ba, .ref ka, .int srt, .ref fa, .ref qa, .ref ea, .ref za, .ref ya, .int q.2.2])), (wa, .inl (cI, 70, .inl nw)), (ya, .inl (cI, 5600, .inl q.2.1))] ∧ va_S A s.heap H locs ∧ (st - q.1 < n) ∧ (q.1 ≤ st) ∧ (q.2.1 = x5Y3 st nw (20 + 16 * a0) wn y q.1)) (st + 1) (0, y, wks) ⟨lv_sub hl [0, 1, 2] rfl, hP.sub [0, 1, 2] rfl, hD.sub [0, 1, 2] (by decide) rfl, hS, by (try dsimp only); exact ⟨by omega, by omega, rfl⟩⟩ (fun q H lc ls h => absurd h.2.2.2.2.1 (Nat.not_lt_zero _)) ?_
  intro n_9 q_9 H locs ls ih_9 hI_9
  obtain ⟨hl, hP, hD, hS, hI_9⟩ := hI_9
  obtain ⟨i, g, wk⟩ := q_9
  obtain ⟨h1, h2, h3⟩ := hI_9
  try dsimp only at hl hP hD h1 h2 h3
  refine lv_iload_n hx hb dX5_workOut_9 rfl (lv_at hl 0 rfl) ?_
  refine lv_if_lt (tgt := 86) hx hb dX5_workOut_10 (by decide) (fun c_1 => ?_) (fun c_1 => ?_)
  · have hP9 := hP.sub (ws' := [(g0, .inr (5, [.ref ra, .ref wa, .ref ta, .int kpt, .ref ma, .int mkd, .ref pa, .int tpd, .int at0, .int wel, .ref ba, .ref ka, .int srt, .ref fa, .ref qa, .ref ea, .ref za, .ref ya, .int wk])), (wa, .inl (cI, 70, .inl nw)), (ya, .inl (cI, 5600, .inl g))]) [0, 1, 2] rfl
    have hD9 := hD.sub (ws' := [(g0, .inr (5, [.ref ra, .ref wa, .ref ta, .int kpt, .ref ma, .int mkd, .ref pa, .int tpd, .int at0, .int wel, .ref ba, .ref ka, .int srt, .ref fa, .ref qa, .ref ea, .ref za, .ref ya, .int wk])), (wa, .inl (cI, 70, .inl nw)), (ya, .inl (cI, 5600, .inl g))]) [0, 1, 2] (by decide) rfl
    have hE9 : ([(g0, .inr (5, [.ref ra, .ref wa, .ref ta, .int kpt, .ref ma, .int mkd, .ref pa, .int tpd, .int at0, .int wel, .ref ba, .ref ka, .int srt, .ref fa, .ref qa, .ref ea, .ref za, .ref ya, .int wk])), (wa, .inl (cI, 70, .inl nw)), (ya, .inl (cI, 5600, .inl g))] : va_W) = [(g0, .inr (5, [.ref ra, .ref wa, .ref ta, .int kpt, .ref ma, .int mkd, .ref pa, .int tpd, .int at0, .int wel, .ref ba, .ref ka, .int srt, .ref fa, .ref qa, .ref ea, .ref za, .ref ya, .int wk])), (wa, .inl (cI, 70, .inl nw)), (ya, .inl (cI, 5600, .inl (x5Y3 st nw (20 + 16 * a0) wn y st)))] := by have w := (x5D_z (n := i) (by omega) h2).mp c_1; rw [h3, ← w]
    exact W.vret hx hb hr (fun t ht hW => ⟨⟨(), rfl, trivial, (wk : Int32), by rw [ht]; exact hE9 ▸ hP9, hE9 ▸ hD9⟩, hS.F ht⟩) hS.2.2 dX5_workOut_86
  · have w4 : i < st := by have w := mt (x5D_z (n := i) (by omega) h2).mpr c_1; omega
    have e13 : nI (st - i) - 1 = nI (st - i - 1) := pk_sub (a := st - i) (b := 1) (by omega)
    rw [e13] at hl
    refine lv_bipush (v := 60) hx hb dX5_workOut_13 (by decide) ?_
    refine xv_int (y := nI (61 - 0) - 1) (by decide +kernel) ?_
    refine lv_istore_n (lv' := [(3, .int (nI (61 - 0) - 1)), (2, .int (nI (st - i - 1))), (0, .ref g0), (1, .int (nI a0))]) hx hb dX5_workOut_15 rfl hl (by decide) rfl (fun ls hl => ?_)
    refine xl_loopH (σ := Nat × (Nat → Int32) × Int32) (fun n q H locs ls => lv_has ls 5 [(3, .int (nI (61 - q.1) - 1)), (2, .int (nI (st - i - 1))), (0, .ref g0), (1, .int (nI a0))] ∧ va_P D vwCl [(g0, .inr (5, [.ref ra, .ref wa, .ref ta, .int kpt, .ref ma, .int mkd, .ref pa, .int tpd, .int at0, .int wel, .ref ba, .ref ka, .int srt, .ref fa, .ref qa, .ref ea, .ref za, .ref ya, .int q.2.2])), (wa, .inl (cI, 70, .inl nw)), (ya, .inl (cI, 5600, .inl q.2.1))] H ∧ va_D A [(g0, .inr (5, [.ref ra, .ref wa, .ref ta, .int kpt, .ref ma, .int mkd, .ref pa, .int tpd, .int at0, .int wel, .ref ba, .ref ka, .int srt, .ref fa, .ref qa, .ref ea, .ref za, .ref ya, .int q.2.2])), (wa, .inl (cI, 70, .inl nw)), (ya, .inl (cI, 5600, .inl q.2.1))] ∧ va_S A s.heap H locs ∧ (61 - q.1 < n) ∧ (q.1 ≤ 61) ∧ (q.2.1 = x5Y2 st nw (20 + 16 * a0) wn (x5Y3 st nw (20 + 16 * a0) wn y i) (st - i - 1) q.1)) (62) (0, g, wk) ⟨lv_sub hl [0, 1, 2, 3] rfl, hP.sub [0, 1, 2] rfl, hD.sub [0, 1, 2] (by decide) rfl, hS, by (try dsimp only); exact ⟨by omega, by omega, h3⟩⟩ (fun q H lc ls h => absurd h.2.2.2.2.1 (Nat.not_lt_zero _)) ?_
    intro n_16 q_16 H locs ls ih_16 hI_16
    obtain ⟨hl, hP, hD, hS, hI_16⟩ := hI_16
    obtain ⟨u, g2, wk2⟩ := q_16
    obtain ⟨i1, i2, i3⟩ := hI_16
    try dsimp only at hl hP hD i1 i2 i3
    refine lv_iload_n hx hb dX5_workOut_16 rfl (lv_at hl 0 rfl) ?_
    refine lv_if_lt (tgt := 80) hx hb dX5_workOut_17 (by decide) (fun c_2 => ?_) (fun c_2 => ?_)
    · refine lv_iinc (v := nI (st - (i + 1)) - 1) (lv' := [(2, .int (nI (st - (i + 1)) - 1)), (3, .int (nI (61 - u) - 1)), (0, .ref g0), (1, .int (nI a0))]) hx hb dX5_workOut_80 hl (k := 1) rfl (x5D_i w4) (by decide) rfl (fun ls hl => ?_)
      refine lv_goto (tgt := 9) hx hb dX5_workOut_83 (by decide) ?_
      have w9 := (x5D_z (n := u) (by omega) i2).mp c_2
      have e30 : g2 = x5Y3 st nw (20 + 16 * a0) wn y (i + 1) := by rw [i3, ← w9]; rfl
      exact ih_9 (i + 1, g2, wk2) _ _ _ ⟨lv_sub hl [0, 2, 3] rfl, hP.sub [0, 1, 2] rfl, hD.sub [0, 1, 2] (by decide) rfl, hS, by (try dsimp only); exact ⟨by omega, by omega, e30⟩⟩
    · have w5 : u < 61 := by have w := mt (x5D_z (n := u) (by omega) i2).mpr c_2; omega
      have e20 : nI (61 - u) - 1 = nI (61 - u - 1) := pk_sub (a := 61 - u) (b := 1) (by omega)
      rw [e20] at hl
      have w6 := x5Fs_le nw (20 + 16 * a0) (st - i - 1) (nI (61 - u - 1))
      refine lv_bipush (v := 12) hx hb dX5_workOut_20 (by decide) ?_
      refine lv_iconst (v := 0) hx hb dX5_workOut_22 (by decide) ?_
      refine lv_iload_n hx hb dX5_workOut_23 rfl (lv_at hl 0 rfl) ?_
      refine lv_aload_n hx hb dX5_workOut_24 rfl (lv_at hl 2 rfl) ?_
      refine lv_iload_n hx hb dX5_workOut_25 rfl (lv_at hl 3 rfl) ?_
      refine lv_iload_n hx hb dX5_workOut_26 rfl (lv_at hl 1 rfl) ?_
      have hPc := hP.sub (ws' := [(g0, .inr (5, [.ref ra, .ref wa, .ref ta, .int kpt, .ref ma, .int mkd, .ref pa, .int tpd, .int at0, .int wel, .ref ba, .ref ka, .int srt, .ref fa, .ref qa, .ref ea, .ref za, .ref ya, .int wk2])), (wa, .inl (cI, 70, .inl nw))]) [0, 1] rfl
      refine vp_callSi (va_Run.run (va_runV (As := [.int (nI a0), .int (nI (st - i - 1))]) (rest := [.int (nI (61 - u - 1)), .int 0, .int 12]) ⟨hx, hb, hml, hown, hts⟩ (g_X5_to l D cI cL cZ cC g0 ra wa ta ma pa ba ka fa qa ea za ya kpt mkd tpd at0 wel srt wk2 st nw a0 (st - i - 1) (by first | assumption | decide +kernel) (by first | assumption | decide +kernel) (by first | assumption | decide +kernel) (by omega) (by omega)) (cwV 2 hts gX5_workOut_X5_to rfl rfl rfl (by decide +kernel) ⟨Nat.le_of_ble_eq_true rfl, Nat.le_of_ble_eq_true rfl⟩) ⟨xPc_bl, va_recv hK hPc (ci := 5) (q0 := 0) rfl rfl, xPc_use hPc hK⟩ rfl rfl hl.1 rfl (lv_room (Nat.le_of_ble_eq_true rfl)) dX5_workOut_27 ⟨Nat.le_of_ble_eq_true rfl, Nat.le_of_ble_eq_true rfl⟩)) (fun r_3 er_3 => ?_)
      obtain rfl : (xSm (fun i => sRd (nw (20 + 16 * a0)) (nw (20 + 16 * a0 + 1)) (nI i)) (st - i - 1) : Int32) = r_3 := Eq.symm er_3
      refine lv_isub hx hb dX5_workOut_30 ?_
      refine va_mmax hx hb (hml.trans hl.1.symm) hown (hts (.methodLink RX5 152 Lib.Math.max.name) (by decide +kernel)) (hts (.static Lib.Math.max.name) (by decide +kernel)) (hts (.initialized "java/lang/Math") (by decide +kernel)) (hts (.code Lib.Math.max.name Lib.Math.max.code 2 (some .int)) (by decide +kernel)) (Nat.le_of_ble_eq_true rfl) (Nat.le_of_ble_eq_true rfl) (Nat.le_of_ble_eq_true rfl) (Nat.le_of_ble_eq_true rfl) dX5_workOut_31 ?_
      refine va_mmin hx hb (hml.trans hl.1.symm) hown (hts (.methodLink RX5 157 Lib.Math.min.name) (by decide +kernel)) (hts (.static Lib.Math.min.name) (by decide +kernel)) (hts (.initialized "java/lang/Math") (by decide +kernel)) (hts (.code Lib.Math.min.name Lib.Math.min.code 2 (some .int)) (by decide +kernel)) (Nat.le_of_ble_eq_true rfl) (Nat.le_of_ble_eq_true rfl) (Nat.le_of_ble_eq_true rfl) (Nat.le_of_ble_eq_true rfl) dX5_workOut_34 ?_
      refine xv_int (y := nI ((x5Fs nw (20 + 16 * a0) (st - i - 1) (nI (61 - u - 1))) + 0)) (xBd_n (le := 0) (by decide)) ?_
      refine lv_istore (lv' := [(4, .int (nI ((x5Fs nw (20 + 16 * a0) (st - i - 1) (nI (61 - u - 1))) + 0))), (3, .int (nI (61 - u - 1))), (2, .int (nI (st - i - 1))), (0, .ref g0), (1, .int (nI a0))]) hx hb dX5_workOut_37 hl (by decide) rfl (fun ls hl => ?_)
      refine xl_loopH (σ := Nat × (Nat → Int32) × Int32) (fun n q H locs ls => lv_has ls 5 [(4, .int (nI ((x5Fs nw (20 + 16 * a0) (st - i - 1) (nI (61 - u - 1))) + q.1))), (3, .int (nI (61 - u - 1))), (2, .int (nI (st - i - 1))), (0, .ref g0), (1, .int (nI a0))] ∧ va_P D vwCl [(g0, .inr (5, [.ref ra, .ref wa, .ref ta, .int kpt, .ref ma, .int mkd, .ref pa, .int tpd, .int at0, .int wel, .ref ba, .ref ka, .int srt, .ref fa, .ref qa, .ref ea, .ref za, .ref ya, .int q.2.2])), (wa, .inl (cI, 70, .inl nw)), (ya, .inl (cI, 5600, .inl q.2.1))] H ∧ va_D A [(g0, .inr (5, [.ref ra, .ref wa, .ref ta, .int kpt, .ref ma, .int mkd, .ref pa, .int tpd, .int at0, .int wel, .ref ba, .ref ka, .int srt, .ref fa, .ref qa, .ref ea, .ref za, .ref ya, .int q.2.2])), (wa, .inl (cI, 70, .inl nw)), (ya, .inl (cI, 5600, .inl q.2.1))] ∧ va_S A s.heap H locs ∧ (13 - q.1 < n) ∧ ((x5Fs nw (20 + 16 * a0) (st - i - 1) (nI (61 - u - 1))) + q.1 ≤ 13) ∧ (q.2.1 = x5Y1 st nw (20 + 16 * a0) wn (x5Y2 st nw (20 + 16 * a0) wn (x5Y3 st nw (20 + 16 * a0) wn y i) (st - i - 1) u) (st - i - 1) (61 - u - 1) (x5Fs nw (20 + 16 * a0) (st - i - 1) (nI (61 - u - 1))) q.1)) (14) (0, g2, wk2) ⟨lv_sub hl [0, 1, 2, 3, 4] rfl, hP.sub [0, 1, 2] rfl, hD.sub [0, 1, 2] (by decide) rfl, hS, by (try dsimp only); exact ⟨by omega, by omega, i3⟩⟩ (fun q H lc ls h => absurd h.2.2.2.2.1 (Nat.not_lt_zero _)) ?_
      intro n_39 q_39 H locs ls ih_39 hI_39
      obtain ⟨hl, hP, hD, hS, hI_39⟩ := hI_39
      obtain ⟨v, g3, wk3⟩ := q_39
      obtain ⟨j1, j2, j3⟩ := hI_39
      try dsimp only at hl hP hD j1 j2 j3
      refine lv_iload hx hb dX5_workOut_39 (lv_at hl 0 rfl) ?_
      refine lv_bipush (v := 12) hx hb dX5_workOut_41 (by decide) ?_
      refine lv_icmp_gt (tgt := 74) hx hb dX5_workOut_43 (by decide) (fun c_4 => ?_) (fun c_4 => ?_)
      · refine lv_iinc (v := nI (61 - (u + 1)) - 1) (lv' := [(3, .int (nI (61 - (u + 1)) - 1)), (4, .int (nI ((x5Fs nw (20 + 16 * a0) (st - i - 1) (nI (61 - u - 1))) + v))), (2, .int (nI (st - i - 1))), (0, .ref g0), (1, .int (nI a0))]) hx hb dX5_workOut_74 hl (k := 1) rfl (x5D_i w5) (by decide) rfl (fun ls hl => ?_)
        refine lv_goto (tgt := 16) hx hb dX5_workOut_77 (by decide) ?_
        have w9 := (nI_ltI (a := 12) (b := (x5Fs nw (20 + 16 * a0) (st - i - 1) (nI (61 - u - 1))) + v) (by decide) (by omega)).mp c_4
        have e31 : g3 = x5Y2 st nw (20 + 16 * a0) wn (x5Y3 st nw (20 + 16 * a0) wn y i) (st - i - 1) (u + 1) := by rw [j3, show v = 13 - (x5Fs nw (20 + 16 * a0) (st - i - 1) (nI (61 - u - 1))) by omega]; rfl
        exact ih_16 (u + 1, g3, wk3) _ _ _ ⟨lv_sub hl [0, 2, 3, 4] rfl, hP.sub [0, 1, 2] rfl, hD.sub [0, 1, 2] (by decide) rfl, hS, by (try dsimp only); exact ⟨by omega, by omega, e31⟩⟩
      · refine lv_aload_n hx hb dX5_workOut_46 rfl (lv_at hl 3 rfl) ?_
        refine va_get (D := D) (ci := 5) (v := .ref ya) (C := RX5) (T := TX5) (N := 19) hx hb hts hwX5 hown hK hP 0 rfl rfl 17 (by decide) (hts (.fieldLink RX5 50 "WaitOrWalkOnModel" "value" "[I") (by decide +kernel)) (fun _ h9 => h9) rfl dX5_workOut_47 ?_
        refine lv_aload_n hx hb dX5_workOut_50 rfl (lv_at hl 3 rfl) ?_
        refine lv_iload_n hx hb dX5_workOut_51 rfl (lv_at hl 2 rfl) ?_
        refine lv_iload_n hx hb dX5_workOut_52 rfl (lv_at hl 1 rfl) ?_
        refine lv_iload hx hb dX5_workOut_53 (lv_at hl 0 rfl) ?_
        have hPc := hP.sub (ws' := [(g0, .inr (5, [.ref ra, .ref wa, .ref ta, .int kpt, .ref ma, .int mkd, .ref pa, .int tpd, .int at0, .int wel, .ref ba, .ref ka, .int srt, .ref fa, .ref qa, .ref ea, .ref za, .ref ya, .int wk3]))]) [0] rfl
        refine vp_callSi (va_Run.run (va_runV (As := [.int (nI (st - i - 1)), .int (nI (61 - u - 1)), .int (nI ((x5Fs nw (20 + 16 * a0) (st - i - 1) (nI (61 - u - 1))) + v))]) (rest := [.ref ya]) ⟨hx, hb, hml, hown, hts⟩ (g_X5_cell l D cI cL cZ cC g0 ra wa ta ma pa ba ka fa qa ea za ya kpt mkd tpd at0 wel srt wk3 (st - i - 1) (61 - u - 1) ((x5Fs nw (20 + 16 * a0) (st - i - 1) (nI (61 - u - 1))) + v) ) (cwV 3 hts gX5_workOut_X5_cell rfl rfl rfl (by decide +kernel) ⟨Nat.le_of_ble_eq_true rfl, Nat.le_of_ble_eq_true rfl⟩) ⟨xPc_bl, va_recv hK hPc (ci := 5) (q0 := 0) rfl rfl, xPc_use hPc hK⟩ rfl rfl hl.1 rfl (lv_room (Nat.le_of_ble_eq_true rfl)) dX5_workOut_55 ⟨Nat.le_of_ble_eq_true rfl, Nat.le_of_ble_eq_true rfl⟩)) (fun r_5 er_5 => ?_)
        obtain rfl : (nI (((st - i - 1) * 61 + (61 - u - 1)) * 13 + ((x5Fs nw (20 + 16 * a0) (st - i - 1) (nI (61 - u - 1))) + v)) : Int32) = r_5 := Eq.symm er_5
        refine lv_aload_n hx hb dX5_workOut_58 rfl (lv_at hl 3 rfl) ?_
        refine lv_iload_n hx hb dX5_workOut_59 rfl (lv_at hl 4 rfl) ?_
        refine lv_iload_n hx hb dX5_workOut_60 rfl (lv_at hl 2 rfl) ?_
        refine lv_iload_n hx hb dX5_workOut_61 rfl (lv_at hl 1 rfl) ?_
        refine lv_iload hx hb dX5_workOut_62 (lv_at hl 0 rfl) ?_
        have hPc := hP.sub (ws' := [(g0, .inr (5, [.ref ra, .ref wa, .ref ta, .int kpt, .ref ma, .int mkd, .ref pa, .int tpd, .int at0, .int wel, .ref ba, .ref ka, .int srt, .ref fa, .ref qa, .ref ea, .ref za, .ref ya, .int wk3])), (wa, .inl (cI, 70, .inl nw)), (ya, .inl (cI, 5600, .inl g3))]) [0, 1, 2] rfl
        have hDc := hD.sub (ws' := [(g0, .inr (5, [.ref ra, .ref wa, .ref ta, .int kpt, .ref ma, .int mkd, .ref pa, .int tpd, .int at0, .int wel, .ref ba, .ref ka, .int srt, .ref fa, .ref qa, .ref ea, .ref za, .ref ya, .int wk3])), (wa, .inl (cI, 70, .inl nw)), (ya, .inl (cI, 5600, .inl g3))]) [0, 1, 2] (by decide) rfl
        have hFc := va_free (wc := [(g0, .inr (5, [.ref ra, .ref wa, .ref ta, .int kpt, .ref ma, .int mkd, .ref pa, .int tpd, .int at0, .int wel, .ref ba, .ref ka, .int srt, .ref fa, .ref qa, .ref ea, .ref za, .ref ya, .int wk3])), (wa, .inl (cI, 70, .inl nw)), (ya, .inl (cI, 5600, .inl g3))]) hD hS hA [0, 1, 2] rfl
        refine va_calli (va_runV (As := [.int (nI a0), .int (nI (st - i - 1)), .int (nI (61 - u - 1)), .int (nI ((x5Fs nw (20 + 16 * a0) (st - i - 1) (nI (61 - u - 1))) + v))]) (rest := [.int (nI (((st - i - 1) * 61 + (61 - u - 1)) * 13 + ((x5Fs nw (20 + 16 * a0) (st - i - 1) (nI (61 - u - 1))) + v))), .ref ya]) ⟨hx, hb, hml, hown, hts⟩ (g_X5_worked l D cI cL cZ cC _ g0 ra wa ta ma pa ba ka fa qa ea za ya kpt mkd tpd at0 wel srt wk3 st nw a0 wn (st - i - 1) (61 - u - 1) ((x5Fs nw (20 + 16 * a0) (st - i - 1) (nI (61 - u - 1))) + v) g3 (by first | assumption | decide +kernel) (by first | assumption | decide +kernel) (by first | assumption | decide +kernel) (by first | assumption | decide +kernel) (by first | assumption | decide +kernel) (hwn) (by omega) (by omega) (by have w := mt (nI_ltI (a := 12) (b := (x5Fs nw (20 + 16 * a0) (st - i - 1) (nI (61 - u - 1))) + v) (by decide) (by omega)).mpr c_4; omega)) (cwV 4 hts gX5_workOut_X5_worked rfl rfl rfl (by decide +kernel) ⟨Nat.le_of_ble_eq_true rfl, Nat.le_of_ble_eq_true rfl⟩) ⟨wPc_bl, va_recv hK hPc (ci := 5) (q0 := 0) rfl rfl, wPc_use hPc hK hDc⟩ rfl rfl hl.1 rfl (lv_room (Nat.le_of_ble_eq_true rfl)) dX5_workOut_64 ⟨Nat.le_of_ble_eq_true rfl, Nat.le_of_ble_eq_true rfl⟩) hS (fun q _ h => hFc q h) hFc (fun r_6 u_6 t H1 locs ht hvm hw hB hz1 hk1 hS => ?_)
        obtain ⟨hP1, hD1⟩ := hB
        rw [ht] at hP1
        obtain ⟨hP, hD⟩ := va_join (wr := []) (w1 := [(g0, .inr (5, [.ref ra, .ref wa, .ref ta, .int kpt, .ref ma, .int mkd, .ref pa, .int tpd, .int at0, .int wel, .ref ba, .ref ka, .int srt, .ref fa, .ref qa, .ref ea, .ref za, .ref ya, .int (x5Wk st nw (20 + 16 * a0) wn g3 (st - i - 1) (61 - u - 1) ((x5Fs nw (20 + 16 * a0) (st - i - 1) (nI (61 - u - 1))) + v))])), (wa, .inl (cI, 70, .inl nw)), (ya, .inl (cI, 5600, .inl g3))]) hP hD [0, 1, 2] [] rfl rfl (by decide) (by decide) hk1 hFc hP1 hD1
        generalize H1 = H at hP hS ⊢
        have hP : va_P D vwCl [(g0, .inr (5, [.ref ra, .ref wa, .ref ta, .int kpt, .ref ma, .int mkd, .ref pa, .int tpd, .int at0, .int wel, .ref ba, .ref ka, .int srt, .ref fa, .ref qa, .ref ea, .ref za, .ref ya, .int (x5Wk st nw (20 + 16 * a0) wn g3 (st - i - 1) (61 - u - 1) ((x5Fs nw (20 + 16 * a0) (st - i - 1) (nI (61 - u - 1))) + v))])), (wa, .inl (cI, 70, .inl nw)), (ya, .inl (cI, 5600, .inl g3))] H := hP
        have hD : va_D A [(g0, .inr (5, [.ref ra, .ref wa, .ref ta, .int kpt, .ref ma, .int mkd, .ref pa, .int tpd, .int at0, .int wel, .ref ba, .ref ka, .int srt, .ref fa, .ref qa, .ref ea, .ref za, .ref ya, .int (x5Wk st nw (20 + 16 * a0) wn g3 (st - i - 1) (61 - u - 1) ((x5Fs nw (20 + 16 * a0) (st - i - 1) (nI (61 - u - 1))) + v))])), (wa, .inl (cI, 70, .inl nw)), (ya, .inl (cI, 5600, .inl g3))] := hD
        obtain rfl : (x5Wr st nw (20 + 16 * a0) wn g3 (st - i - 1) (61 - u - 1) ((x5Fs nw (20 + 16 * a0) (st - i - 1) (nI (61 - u - 1))) + v) : Int32) = r_6 := Eq.symm hw
        refine va_iast (D := D) hx hb hK hP hD hS 2 0 rfl rfl (vp_in_nI (by have w7 : (x5Fs nw (20 + 16 * a0) (st - i - 1) (nI (61 - u - 1))) + v ≤ 12 := (by have w := mt (nI_ltI (a := 12) (b := (x5Fs nw (20 + 16 * a0) (st - i - 1) (nI (61 - u - 1))) + v) (by decide) (by omega)).mpr c_4; omega); omega) (by decide)) dX5_workOut_67 (fun H locs hP hD hS => ?_)
        rw [nI_clamp (show ((st - i - 1) * 61 + (61 - u - 1)) * 13 + ((x5Fs nw (20 + 16 * a0) (st - i - 1) (nI (61 - u - 1))) + v) < 2 ^ 31 by omega)] at hP hD
        have hP : va_P D vwCl [(g0, .inr (5, [.ref ra, .ref wa, .ref ta, .int kpt, .ref ma, .int mkd, .ref pa, .int tpd, .int at0, .int wel, .ref ba, .ref ka, .int srt, .ref fa, .ref qa, .ref ea, .ref za, .ref ya, .int (x5Wk st nw (20 + 16 * a0) wn g3 (st - i - 1) (61 - u - 1) ((x5Fs nw (20 + 16 * a0) (st - i - 1) (nI (61 - u - 1))) + v))])), (wa, .inl (cI, 70, .inl nw)), (ya, .inl (cI, 5600, .inl (upd g3 (((st - i - 1) * 61 + (61 - u - 1)) * 13 + ((x5Fs nw (20 + 16 * a0) (st - i - 1) (nI (61 - u - 1))) + v)) (x5Wr st nw (20 + 16 * a0) wn g3 (st - i - 1) (61 - u - 1) ((x5Fs nw (20 + 16 * a0) (st - i - 1) (nI (61 - u - 1))) + v)))))] H := hP
        have hD : va_D A [(g0, .inr (5, [.ref ra, .ref wa, .ref ta, .int kpt, .ref ma, .int mkd, .ref pa, .int tpd, .int at0, .int wel, .ref ba, .ref ka, .int srt, .ref fa, .ref qa, .ref ea, .ref za, .ref ya, .int (x5Wk st nw (20 + 16 * a0) wn g3 (st - i - 1) (61 - u - 1) ((x5Fs nw (20 + 16 * a0) (st - i - 1) (nI (61 - u - 1))) + v))])), (wa, .inl (cI, 70, .inl nw)), (ya, .inl (cI, 5600, .inl (upd g3 (((st - i - 1) * 61 + (61 - u - 1)) * 13 + ((x5Fs nw (20 + 16 * a0) (st - i - 1) (nI (61 - u - 1))) + v)) (x5Wr st nw (20 + 16 * a0) wn g3 (st - i - 1) (61 - u - 1) ((x5Fs nw (20 + 16 * a0) (st - i - 1) (nI (61 - u - 1))) + v)))))] := hD
        refine lv_iinc (v := nI ((x5Fs nw (20 + 16 * a0) (st - i - 1) (nI (61 - u - 1))) + (v + 1))) (lv' := [(4, .int (nI ((x5Fs nw (20 + 16 * a0) (st - i - 1) (nI (61 - u - 1))) + (v + 1)))), (3, .int (nI (61 - u - 1))), (2, .int (nI (st - i - 1))), (0, .ref g0), (1, .int (nI a0))]) hx hb dX5_workOut_68 hl (k := 0) rfl (nI_1 ((x5Fs nw (20 + 16 * a0) (st - i - 1) (nI (61 - u - 1))) + v)) (by decide) rfl (fun ls hl => ?_)
        refine lv_goto (tgt := 39) hx hb dX5_workOut_71 (by decide) ?_
        have w7 : (x5Fs nw (20 + 16 * a0) (st - i - 1) (nI (61 - u - 1))) + v ≤ 12 := (by have w := mt (nI_ltI (a := 12) (b := (x5Fs nw (20 + 16 * a0) (st - i - 1) (nI (61 - u - 1))) + v) (by decide) (by omega)).mpr c_4; omega)
        exact ih_39 (v + 1, upd g3 (((st - i - 1) * 61 + (61 - u - 1)) * 13 + ((x5Fs nw (20 + 16 * a0) (st - i - 1) (nI (61 - u - 1))) + v)) (x5Wr st nw (20 + 16 * a0) wn g3 (st - i - 1) (61 - u - 1) ((x5Fs nw (20 + 16 * a0) (st - i - 1) (nI (61 - u - 1))) + v)), x5Wk st nw (20 + 16 * a0) wn g3 (st - i - 1) (61 - u - 1) ((x5Fs nw (20 + 16 * a0) (st - i - 1) (nI (61 - u - 1))) + v)) _ _ _ ⟨lv_sub hl [0, 1, 2, 3, 4] rfl, hP.sub [0, 1, 2] rfl, hD.sub [0, 1, 2] (by decide) rfl, hS, by (try dsimp only); exact ⟨by omega, by omega, x5Y1_s j3⟩⟩
