set_option maxHeartbeats 4000000 in
set_option maxRecDepth 100000 in
theorem g_X5_readE (l : Launch) (D : va_G) (cI cL cZ cC : ClassId) (sz : Nat) (g0 : Nat) (ra : Nat) (wa : Nat) (ta : Nat) (ma : Nat) (pa : Nat) (ba : Nat) (ka : Nat) (fa : Nat) (qa : Nat) (ea : Nat) (za : Nat) (ya : Nat) (kpt : Int32) (mkd : Int32) (at0 : Int32) (wel : Int32) (srt : Int32) (wks : Int32) (tn : Nat) (lt : Nat → Int32) (bf : Nat → Int32) (kf : Nat → Int32) (ff : Nat → Int32) (st : Nat) (ln : Nat) (nw : Nat → Int32) (T : xT) (htn : tn ≤ 96) (hV : xVd nw st ln) (hB : xByt lt tn) (hR : xRel T nw) (hT : T.1 = st ∧ T.2.1 = ln) (hbf : bf = xBF) (hkf : kf = xKF) : Met l yX5_read wsX5_read ({ frames := 3, cells := 0, slots := 0, locals := 65 } : Room) (wPc D [.ref g0] [(g0, .inr (5, [.ref ra, .ref wa, .ref ta, .int kpt, .ref ma, .int mkd, .ref pa, .int (nI tn), .int at0, .int wel, .ref ba, .ref ka, .int srt, .ref fa, .ref qa, .ref ea, .ref za, .ref ya, .int wks])), (pa, .inl (cI, 96, .inl lt)), (ba, .inl (cC, 6, .inl bf)), (ka, .inl (cC, 5, .inl kf)), (fa, .inl (cI, 15, .inl ff)), (wa, .inl (cI, 70, .inl nw))] (xTy cI cL cZ cC) sz) (va_Qi (fun (r : Int32) (_ : Unit) => r = (xRO lt tn T).2) (fun (_ : Unit) t => ∃ a9 : Int32, ∃ w9 : Int32, ∃ s9 : Int32, ∃ ff9 : Nat → Int32, ∃ nw9 : Nat → Int32, (xJR lt tn T nw9) ∧ va_P D vwCl [(g0, .inr (5, [.ref ra, .ref wa, .ref ta, .int kpt, .ref ma, .int mkd, .ref pa, .int (nI tn), .int a9, .int w9, .ref ba, .ref ka, .int s9, .ref fa, .ref qa, .ref ea, .ref za, .ref ya, .int wks])), (pa, .inl (cI, 96, .inl lt)), (ba, .inl (cC, 6, .inl bf)), (ka, .inl (cC, 5, .inl kf)), (fa, .inl (cI, 15, .inl ff9)), (wa, .inl (cI, 70, .inl nw9))] t.heap ∧ va_D (va_A [(g0, .inr (5, [.ref ra, .ref wa, .ref ta, .int kpt, .ref ma, .int mkd, .ref pa, .int (nI tn), .int at0, .int wel, .ref ba, .ref ka, .int srt, .ref fa, .ref qa, .ref ea, .ref za, .ref ya, .int wks])), (pa, .inl (cI, 96, .inl lt)), (ba, .inl (cC, 6, .inl bf)), (ka, .inl (cC, 5, .inl kf)), (fa, .inl (cI, 15, .inl ff)), (wa, .inl (cI, 70, .inl nw))] sz) [(g0, .inr (5, [.ref ra, .ref wa, .ref ta, .int kpt, .ref ma, .int mkd, .ref pa, .int (nI tn), .int a9, .int w9, .ref ba, .ref ka, .int s9, .ref fa, .ref qa, .ref ea, .ref za, .ref ya, .int wks])), (pa, .inl (cI, 96, .inl lt)), (ba, .inl (cC, 6, .inl bf)), (ka, .inl (cC, 5, .inl kf)), (fa, .inl (cI, 15, .inl ff9)), (wa, .inl (cI, 70, .inl nw9))]) (va_A [(g0, .inr (5, [.ref ra, .ref wa, .ref ta, .int kpt, .ref ma, .int mkd, .ref pa, .int (nI tn), .int at0, .int wel, .ref ba, .ref ka, .int srt, .ref fa, .ref qa, .ref ea, .ref za, .ref ya, .int wks])), (pa, .inl (cI, 96, .inl lt)), (ba, .inl (cC, 6, .inl bf)), (ka, .inl (cC, 5, .inl kf)), (fa, .inl (cI, 15, .inl ff)), (wa, .inl (cI, 70, .inl nw))] sz)) 0 0 (va_A [(g0, .inr (5, [.ref ra, .ref wa, .ref ta, .int kpt, .ref ma, .int mkd, .ref pa, .int (nI tn), .int at0, .int wel, .ref ba, .ref ka, .int srt, .ref fa, .ref qa, .ref ea, .ref za, .ref ya, .int wks])), (pa, .inl (cI, 96, .inl lt)), (ba, .inl (cC, 6, .inl bf)), (ka, .inl (cC, 5, .inl kf)), (fa, .inl (cI, 15, .inl ff)), (wa, .inl (cI, 70, .inl nw))] sz) := by
  refine Met.ofW (cc := cX5_read) (maxL := 5) (ret := (some .int)) (by decide) rfl ?_
  intro p e s m args below meth c s₁ B hml hv
  obtain ⟨rfl, hsz, hP, hK, hD0⟩ := hv
  have hx := B.exec
  have hb := B.bytes
  have hr := B.returns
  have hts := atoms_spec (ws := wsX5_read) B.pre
  have hown : s.vm.findClass RX5 = some m.cls := findClass_of_methodNamed B.named
  have hlocks := B.notSynchronized
  have hwX5 : ∀ w ∈ u_ws RX5 TX5 19, w ∈ wsX5_read := fun _ h => List.mem_cons_of_mem _ (List.mem_append_right _ h)
  subst hsz
  have hD := hD0.self (sz := s.heap.size)
  generalize hAe : va_A [(g0, .inr (5, [.ref ra, .ref wa, .ref ta, .int kpt, .ref ma, .int mkd, .ref pa, .int (nI tn), .int at0, .int wel, .ref ba, .ref ka, .int srt, .ref fa, .ref qa, .ref ea, .ref za, .ref ya, .int wks])), (pa, .inl (cI, 96, .inl lt)), (ba, .inl (cC, 6, .inl bf)), (ka, .inl (cC, 5, .inl kf)), (fa, .inl (cI, 15, .inl ff)), (wa, .inl (cI, 70, .inl nw))] s.heap.size = A at hD ⊢
  have hA : ∀ q : Nat, s.heap.size ≤ q → A q := fun q h => by rw [← hAe]; exact Or.inr h
  have hS : va_S A s.heap s.heap [] := va_S.rf
  have hP : va_P D vwCl [(g0, .inr (5, [.ref ra, .ref wa, .ref ta, .int kpt, .ref ma, .int mkd, .ref pa, .int (nI tn), .int at0, .int wel, .ref ba, .ref ka, .int srt, .ref fa, .ref qa, .ref ea, .ref za, .ref ya, .int wks])), (pa, .inl (cI, 96, .inl lt)), (ba, .inl (cC, 6, .inl bf)), (ka, .inl (cC, 5, .inl kf)), (fa, .inl (cI, 15, .inl ff)), (wa, .inl (cI, 70, .inl nw))] s.heap := hP
  have hl := lv_entry ([.ref g0]) (n := 5) (Nat.le_of_ble_eq_true rfl)
  rw [lg_entry_eq]
  generalize (lg_sl ([.ref g0]) ++ List.replicate (5 - (lg_sl ([.ref g0])).length) Slot.unset).toArray = ls at hl ⊢
  have hl : lv_has ls 5 [(0, .ref g0)] := hl
  have hE : xEv lt tn bf kf := ⟨htn, hB, hbf, hkf⟩
  refine lv_iconst (v := 0) hx hb dX5_read_0 (by decide) ?_
  refine lv_istore_n (lv' := [(1, .int 0), (0, .ref g0)]) hx hb dX5_read_1 rfl hl (by decide) rfl (fun ls hl => ?_)
  refine lv_aload_n hx hb dX5_read_2 rfl (lv_at hl 1 rfl) ?_
  refine lv_iconst (v := 0) hx hb dX5_read_3 (by decide) ?_
  refine va_put (D := D) (ci := 5) (v := .int 0) (ty := .int) (C := RX5) (T := TX5) (N := 19) hx hb hts hwX5 tyX5 tyX5_ok nmX5 hown hK hP hD hS 0 rfl rfl 8 (by decide) (hts (.fieldLink RX5 64 "WaitOrWalkOnModel" "at" "I") (by decide +kernel)) (fun _ h9 => h9) rfl (by decide +kernel) (by decide +kernel) rfl (Nat.le_of_ble_eq_true rfl) dX5_read_4 (fun H locs hP hD hS => ?_)
  have hP : va_P D vwCl [(g0, .inr (5, [.ref ra, .ref wa, .ref ta, .int kpt, .ref ma, .int mkd, .ref pa, .int (nI tn), .int 0, .int wel, .ref ba, .ref ka, .int srt, .ref fa, .ref qa, .ref ea, .ref za, .ref ya, .int wks])), (pa, .inl (cI, 96, .inl lt)), (ba, .inl (cC, 6, .inl bf)), (ka, .inl (cC, 5, .inl kf)), (fa, .inl (cI, 15, .inl ff)), (wa, .inl (cI, 70, .inl nw))] H := hP
  have hD : va_D A [(g0, .inr (5, [.ref ra, .ref wa, .ref ta, .int kpt, .ref ma, .int mkd, .ref pa, .int (nI tn), .int 0, .int wel, .ref ba, .ref ka, .int srt, .ref fa, .ref qa, .ref ea, .ref za, .ref ya, .int wks])), (pa, .inl (cI, 96, .inl lt)), (ba, .inl (cC, 6, .inl bf)), (ka, .inl (cC, 5, .inl kf)), (fa, .inl (cI, 15, .inl ff)), (wa, .inl (cI, 70, .inl nw))] := hD
  refine lv_aload_n hx hb dX5_read_7 rfl (lv_at hl 1 rfl) ?_
  refine lv_iconst (v := 1) hx hb dX5_read_8 (by decide) ?_
  refine va_put (D := D) (ci := 5) (v := .int 1) (ty := .boolean) (C := RX5) (T := TX5) (N := 19) hx hb hts hwX5 tyX5 tyX5_ok nmX5 hown hK hP hD hS 0 rfl rfl 9 (by decide) (hts (.fieldLink RX5 61 "WaitOrWalkOnModel" "well" "Z") (by decide +kernel)) (fun _ h9 => h9) rfl (by decide +kernel) (by decide +kernel) rfl (Nat.le_of_ble_eq_true rfl) dX5_read_9 (fun H locs hP hD hS => ?_)
  have hP : va_P D vwCl [(g0, .inr (5, [.ref ra, .ref wa, .ref ta, .int kpt, .ref ma, .int mkd, .ref pa, .int (nI tn), .int 0, .int 1, .ref ba, .ref ka, .int srt, .ref fa, .ref qa, .ref ea, .ref za, .ref ya, .int wks])), (pa, .inl (cI, 96, .inl lt)), (ba, .inl (cC, 6, .inl bf)), (ka, .inl (cC, 5, .inl kf)), (fa, .inl (cI, 15, .inl ff)), (wa, .inl (cI, 70, .inl nw))] H := hP
  have hD : va_D A [(g0, .inr (5, [.ref ra, .ref wa, .ref ta, .int kpt, .ref ma, .int mkd, .ref pa, .int (nI tn), .int 0, .int 1, .ref ba, .ref ka, .int srt, .ref fa, .ref qa, .ref ea, .ref za, .ref ya, .int wks])), (pa, .inl (cI, 96, .inl lt)), (ba, .inl (cC, 6, .inl bf)), (ka, .inl (cC, 5, .inl kf)), (fa, .inl (cI, 15, .inl ff)), (wa, .inl (cI, 70, .inl nw))] := hD
  refine xl_loopH (σ := Nat × (Nat × Int32) × Int32 × (Nat → Int32)) (fun n q H locs ls => lv_has ls 5 [(1, .int (nI q.1)), (0, .ref g0)] ∧ va_P D vwCl [(g0, .inr (5, [.ref ra, .ref wa, .ref ta, .int kpt, .ref ma, .int mkd, .ref pa, .int (nI tn), .int (nI q.2.1.1), .int q.2.1.2, .ref ba, .ref ka, .int q.2.2.1, .ref fa, .ref qa, .ref ea, .ref za, .ref ya, .int wks])), (pa, .inl (cI, 96, .inl lt)), (ba, .inl (cC, 6, .inl bf)), (ka, .inl (cC, 5, .inl kf)), (fa, .inl (cI, 15, .inl q.2.2.2)), (wa, .inl (cI, 70, .inl nw))] H ∧ va_D A [(g0, .inr (5, [.ref ra, .ref wa, .ref ta, .int kpt, .ref ma, .int mkd, .ref pa, .int (nI tn), .int (nI q.2.1.1), .int q.2.1.2, .ref ba, .ref ka, .int q.2.2.1, .ref fa, .ref qa, .ref ea, .ref za, .ref ya, .int wks])), (pa, .inl (cI, 96, .inl lt)), (ba, .inl (cC, 6, .inl bf)), (ka, .inl (cC, 5, .inl kf)), (fa, .inl (cI, 15, .inl q.2.2.2)), (wa, .inl (cI, 70, .inl nw))] ∧ va_S A s.heap H locs ∧ (tn + 1 - q.2.1.1 < n) ∧ (q.2.1.1 ≤ tn) ∧ (q.2.1.2 = 1) ∧ (∀ v, xGd lt tn bf kf v q.2.1 → xGd lt tn bf kf (v + q.1) (0, 1)) ∧ (xJ1 lt tn q.1 q.2.1)) (tn + 2) (0, (0, 1), srt, ff) ⟨lv_sub hl [0, 1] rfl, hP.sub [0, 1, 2, 3, 4, 5] rfl, hD.sub [0, 1, 2, 3, 4, 5] (by decide) rfl, hS, by (try dsimp only); exact ⟨by omega, by omega, rfl, fun v h => h, xJ1_0 lt tn⟩⟩ (fun q H lc ls h => absurd h.2.2.2.2.1 (Nat.not_lt_zero _)) ?_
  intro n_12 q_12 H locs ls ih_12 hI_12
  obtain ⟨hl, hP, hD, hS, hI_12⟩ := hI_12
  obtain ⟨i, p9, s9, g9⟩ := q_12
  obtain ⟨h1, h2, h3, h4, h5⟩ := hI_12
  try dsimp only at hl hP hD h1 h2 h3 h4 h5
  refine lv_aload_n hx hb dX5_read_12 rfl (lv_at hl 1 rfl) ?_
  have hPc := hP.sub (ws' := [(g0, .inr (5, [.ref ra, .ref wa, .ref ta, .int kpt, .ref ma, .int mkd, .ref pa, .int (nI tn), .int (nI p9.1), .int p9.2, .ref ba, .ref ka, .int s9, .ref fa, .ref qa, .ref ea, .ref za, .ref ya, .int wks])), (pa, .inl (cI, 96, .inl lt)), (ba, .inl (cC, 6, .inl bf)), (ka, .inl (cC, 5, .inl kf)), (fa, .inl (cI, 15, .inl g9))]) [0, 1, 2, 3, 4] rfl
  have hDc := hD.sub (ws' := [(g0, .inr (5, [.ref ra, .ref wa, .ref ta, .int kpt, .ref ma, .int mkd, .ref pa, .int (nI tn), .int (nI p9.1), .int p9.2, .ref ba, .ref ka, .int s9, .ref fa, .ref qa, .ref ea, .ref za, .ref ya, .int wks])), (pa, .inl (cI, 96, .inl lt)), (ba, .inl (cC, 6, .inl bf)), (ka, .inl (cC, 5, .inl kf)), (fa, .inl (cI, 15, .inl g9))]) [0, 1, 2, 3, 4] (by decide) rfl
  have hFc := va_free (wc := [(g0, .inr (5, [.ref ra, .ref wa, .ref ta, .int kpt, .ref ma, .int mkd, .ref pa, .int (nI tn), .int (nI p9.1), .int p9.2, .ref ba, .ref ka, .int s9, .ref fa, .ref qa, .ref ea, .ref za, .ref ya, .int wks])), (pa, .inl (cI, 96, .inl lt)), (ba, .inl (cC, 6, .inl bf)), (ka, .inl (cC, 5, .inl kf)), (fa, .inl (cI, 15, .inl g9))]) hD hS hA [0, 1, 2, 3, 4] rfl
  refine va_callv (va_runV (As := []) (rest := []) ⟨hx, hb, hml, hown, hts⟩ (g_X5_statement l D cI cL cZ cC _ g0 ra wa ta ma pa ba ka fa qa ea za ya kpt mkd s9 wks tn p9 lt bf kf g9 (htn) (h2)) (cwV 0 hts gX5_read_X5_statement rfl rfl rfl (by decide +kernel) ⟨Nat.le_of_ble_eq_true rfl, Nat.le_of_ble_eq_true rfl⟩) ⟨wPc_bl, va_recv hK hPc (ci := 5) (q0 := 0) rfl rfl, wPc_use hPc hK hDc⟩ rfl rfl hl.1 rfl (lv_room (Nat.le_of_ble_eq_true rfl)) dX5_read_13 ⟨Nat.le_of_ble_eq_true rfl, Nat.le_of_ble_eq_true rfl⟩) hS (fun q _ h => hFc q h) hFc (fun u_1 t H1 locs ht hvm hw hB hz1 hk1 hS => ?_)
  obtain ⟨hP1, hD1⟩ := hB
  rw [ht] at hP1
  obtain ⟨hP, hD⟩ := va_join (wr := [(wa, .inl (cI, 70, .inl nw))]) (w1 := [(g0, .inr (5, [.ref ra, .ref wa, .ref ta, .int kpt, .ref ma, .int mkd, .ref pa, .int (nI tn), .int (nI (xSp lt tn bf kf p9).1), .int ((xSp lt tn bf kf p9).2), .ref ba, .ref ka, .int (xSs lt tn bf p9), .ref fa, .ref qa, .ref ea, .ref za, .ref ya, .int wks])), (pa, .inl (cI, 96, .inl lt)), (ba, .inl (cC, 6, .inl bf)), (ka, .inl (cC, 5, .inl kf)), (fa, .inl (cI, 15, .inl (xSf lt tn bf kf g9 p9)))]) hP hD [0, 1, 2, 3, 4] [5] rfl rfl (by decide) (by decide) hk1 hFc hP1 hD1
  generalize H1 = H at hP hS ⊢
  have hP : va_P D vwCl [(wa, .inl (cI, 70, .inl nw)), (g0, .inr (5, [.ref ra, .ref wa, .ref ta, .int kpt, .ref ma, .int mkd, .ref pa, .int (nI tn), .int (nI (xSp lt tn bf kf p9).1), .int ((xSp lt tn bf kf p9).2), .ref ba, .ref ka, .int (xSs lt tn bf p9), .ref fa, .ref qa, .ref ea, .ref za, .ref ya, .int wks])), (pa, .inl (cI, 96, .inl lt)), (ba, .inl (cC, 6, .inl bf)), (ka, .inl (cC, 5, .inl kf)), (fa, .inl (cI, 15, .inl (xSf lt tn bf kf g9 p9)))] H := hP
  have hD : va_D A [(wa, .inl (cI, 70, .inl nw)), (g0, .inr (5, [.ref ra, .ref wa, .ref ta, .int kpt, .ref ma, .int mkd, .ref pa, .int (nI tn), .int (nI (xSp lt tn bf kf p9).1), .int ((xSp lt tn bf kf p9).2), .ref ba, .ref ka, .int (xSs lt tn bf p9), .ref fa, .ref qa, .ref ea, .ref za, .ref ya, .int wks])), (pa, .inl (cI, 96, .inl lt)), (ba, .inl (cC, 6, .inl bf)), (ka, .inl (cC, 5, .inl kf)), (fa, .inl (cI, 15, .inl (xSf lt tn bf kf g9 p9)))] := hD
  obtain ⟨q9, eq9⟩ : ∃ z : Nat × Int32, xSp lt tn bf kf p9 = z := ⟨_, rfl⟩
  obtain ⟨t9, et9⟩ : ∃ z : Int32, xSs lt tn bf p9 = z := ⟨_, rfl⟩
  obtain ⟨f9, ef9⟩ : ∃ z : Nat → Int32, xSf lt tn bf kf g9 p9 = z := ⟨_, rfl⟩
  rw [eq9, et9, ef9] at hP hD
  have hP : va_P D vwCl [(wa, .inl (cI, 70, .inl nw)), (g0, .inr (5, [.ref ra, .ref wa, .ref ta, .int kpt, .ref ma, .int mkd, .ref pa, .int (nI tn), .int (nI q9.1), .int (q9.2), .ref ba, .ref ka, .int t9, .ref fa, .ref qa, .ref ea, .ref za, .ref ya, .int wks])), (pa, .inl (cI, 96, .inl lt)), (ba, .inl (cC, 6, .inl bf)), (ka, .inl (cC, 5, .inl kf)), (fa, .inl (cI, 15, .inl f9))] H := hP
  have hD : va_D A [(wa, .inl (cI, 70, .inl nw)), (g0, .inr (5, [.ref ra, .ref wa, .ref ta, .int kpt, .ref ma, .int mkd, .ref pa, .int (nI tn), .int (nI q9.1), .int (q9.2), .ref ba, .ref ka, .int t9, .ref fa, .ref qa, .ref ea, .ref za, .ref ya, .int wks])), (pa, .inl (cI, 96, .inl lt)), (ba, .inl (cC, 6, .inl bf)), (ka, .inl (cC, 5, .inl kf)), (fa, .inl (cI, 15, .inl f9))] := hD
  have hle := xSp_le (lt := lt) (bf := bf) (kf := kf) h2
  rw [eq9] at hle
  refine lv_iinc (v := nI (i + 1)) (lv' := [(1, .int (nI (i + 1))), (0, .ref g0)]) hx hb dX5_read_16 hl (k := 0) rfl (nI_1 i) (by decide) rfl (fun ls hl => ?_)
  refine lv_aload_n hx hb dX5_read_19 rfl (lv_at hl 1 rfl) ?_
  refine va_get (D := D) (ci := 5) (v := .int (q9.2)) (C := RX5) (T := TX5) (N := 19) hx hb hts hwX5 hown hK hP 1 rfl rfl 9 (by decide) (hts (.fieldLink RX5 61 "WaitOrWalkOnModel" "well" "Z") (by decide +kernel)) (fun _ h9 => h9) rfl dX5_read_20 ?_
  refine lv_if_eq (tgt := 37) hx hb dX5_read_23 (by decide) (fun c_2 => ?_) (fun c_2 => ?_)
  · refine lv_aload_n hx hb dX5_read_37 rfl (lv_at hl 1 rfl) ?_
    refine va_get (D := D) (ci := 5) (v := .int (q9.2)) (C := RX5) (T := TX5) (N := 19) hx hb hts hwX5 hown hK hP 1 rfl rfl 9 (by decide) (hts (.fieldLink RX5 61 "WaitOrWalkOnModel" "well" "Z") (by decide +kernel)) (fun _ h9 => h9) rfl dX5_read_38 ?_
    refine lv_if_ne (tgt := 53) hx hb dX5_read_41 (by decide) (fun c_3 => absurd c_2 c_3) (fun c_3 => ?_)
    refine lv_sipush (v := -1000) hx hb dX5_read_44 (by decide) ?_
    refine lv_aload_n hx hb dX5_read_47 rfl (lv_at hl 1 rfl) ?_
    refine va_get (D := D) (ci := 5) (v := .int (nI q9.1)) (C := RX5) (T := TX5) (N := 19) hx hb hts hwX5 hown hK hP 1 rfl rfl 8 (by decide) (hts (.fieldLink RX5 64 "WaitOrWalkOnModel" "at" "I") (by decide +kernel)) (fun _ h9 => h9) rfl dX5_read_48 ?_
    refine lv_isub hx hb dX5_read_51 ?_
    have hP9 := hP.sub (ws' := [(g0, .inr (5, [.ref ra, .ref wa, .ref ta, .int kpt, .ref ma, .int mkd, .ref pa, .int (nI tn), .int (nI q9.1), .int (q9.2), .ref ba, .ref ka, .int t9, .ref fa, .ref qa, .ref ea, .ref za, .ref ya, .int wks])), (pa, .inl (cI, 96, .inl lt)), (ba, .inl (cC, 6, .inl bf)), (ka, .inl (cC, 5, .inl kf)), (fa, .inl (cI, 15, .inl f9)), (wa, .inl (cI, 70, .inl nw))]) [1, 2, 3, 4, 5, 0] rfl
    have hD9 := hD.sub (ws' := [(g0, .inr (5, [.ref ra, .ref wa, .ref ta, .int kpt, .ref ma, .int mkd, .ref pa, .int (nI tn), .int (nI q9.1), .int (q9.2), .ref ba, .ref ka, .int t9, .ref fa, .ref qa, .ref ea, .ref za, .ref ya, .int wks])), (pa, .inl (cI, 96, .inl lt)), (ba, .inl (cC, 6, .inl bf)), (ka, .inl (cC, 5, .inl kf)), (fa, .inl (cI, 15, .inl f9)), (wa, .inl (cI, 70, .inl nw))]) [1, 2, 3, 4, 5, 0] (by decide) rfl
    exact W.iret (v := (-1000) - (nI q9.1)) hx hb hr (fun t ht hW => ⟨⟨_, (), rfl, (xJ1_f hE h5 h2 h3 eq9 c_2 T).1, (nI q9.1 : Int32), (q9.2 : Int32), (t9 : Int32), (f9 : Nat → Int32), (nw : Nat → Int32), xJR_n hV hR hT (xJ1_f hE h5 h2 h3 eq9 c_2 T).2, by rw [ht]; exact hP9, hD9⟩, hS.F ht⟩) hS.2.2 dX5_read_52
  · refine lv_aload_n hx hb dX5_read_26 rfl (lv_at hl 1 rfl) ?_
    refine va_get (D := D) (ci := 5) (v := .int (nI q9.1)) (C := RX5) (T := TX5) (N := 19) hx hb hts hwX5 hown hK hP 1 rfl rfl 8 (by decide) (hts (.fieldLink RX5 64 "WaitOrWalkOnModel" "at" "I") (by decide +kernel)) (fun _ h9 => h9) rfl dX5_read_27 ?_
    refine lv_aload_n hx hb dX5_read_30 rfl (lv_at hl 1 rfl) ?_
    refine va_get (D := D) (ci := 5) (v := .int (nI tn)) (C := RX5) (T := TX5) (N := 19) hx hb hts hwX5 hown hK hP 1 rfl rfl 7 (by decide) (hts (.fieldLink RX5 57 "WaitOrWalkOnModel" "taped" "I") (by decide +kernel)) (fun _ h9 => h9) rfl dX5_read_31 ?_
    refine lv_icmp_lt (tgt := 12) hx hb dX5_read_34 (by decide) (fun c_4 => ?_) (fun c_4 => ?_)
    · have hh : ¬ (xSp lt tn bf kf p9).2 = 0 := by rw [eq9]; exact c_2
      have ha := xSp_adv hh
      rw [eq9] at ha
      have w := (nI_ltI (a := q9.1) (b := tn) (by omega) (by omega)).mp c_4
      have hs : ∀ v, xGd lt tn bf kf v q9 → xGd lt tn bf kf (v + (i + 1)) (0, 1) := fun v hv => by have w9 := h4 (v + 1) (fun _ => ⟨hh, by rw [eq9]; exact hv⟩); rw [show v + (i + 1) = v + 1 + i by omega]; exact w9
      have h5n := xJ1_s hE h5 h2 h3 eq9 hh w
      exact ih_12 (i + 1, q9, t9, f9) _ _ _ ⟨lv_sub hl [0, 1] rfl, hP.sub [1, 2, 3, 4, 5, 0] rfl, hD.sub [1, 2, 3, 4, 5, 0] (by decide) rfl, hS, by (try dsimp only); exact ⟨by omega, ha.2.2, ha.2.1, hs, h5n⟩⟩
    · refine lv_aload_n hx hb dX5_read_37 rfl (lv_at hl 1 rfl) ?_
      refine va_get (D := D) (ci := 5) (v := .int (q9.2)) (C := RX5) (T := TX5) (N := 19) hx hb hts hwX5 hown hK hP 1 rfl rfl 9 (by decide) (hts (.fieldLink RX5 61 "WaitOrWalkOnModel" "well" "Z") (by decide +kernel)) (fun _ h9 => h9) rfl dX5_read_38 ?_
      refine lv_if_ne (tgt := 53) hx hb dX5_read_41 (by decide) (fun c_5 => ?_) (fun c_5 => absurd c_5 c_2)
      have hh : ¬ (xSp lt tn bf kf p9).2 = 0 := by rw [eq9]; exact c_5
      have ha := xSp_adv hh
      rw [eq9] at ha
      have hg0 : xGd lt tn bf kf (1 + i) (0, 1) := h4 1 (fun _ => ⟨hh, by rw [eq9]; exact mt (nI_ltI (a := q9.1) (b := tn) (by omega) (by omega)).mpr c_4⟩)
      rw [ha.2.1] at hP hD
      have hP : va_P D vwCl [(wa, .inl (cI, 70, .inl nw)), (g0, .inr (5, [.ref ra, .ref wa, .ref ta, .int kpt, .ref ma, .int mkd, .ref pa, .int (nI tn), .int (nI q9.1), .int 1, .ref ba, .ref ka, .int t9, .ref fa, .ref qa, .ref ea, .ref za, .ref ya, .int wks])), (pa, .inl (cI, 96, .inl lt)), (ba, .inl (cC, 6, .inl bf)), (ka, .inl (cC, 5, .inl kf)), (fa, .inl (cI, 15, .inl f9))] H := hP
      have hD : va_D A [(wa, .inl (cI, 70, .inl nw)), (g0, .inr (5, [.ref ra, .ref wa, .ref ta, .int kpt, .ref ma, .int mkd, .ref pa, .int (nI tn), .int (nI q9.1), .int 1, .ref ba, .ref ka, .int t9, .ref fa, .ref qa, .ref ea, .ref za, .ref ya, .int wks])), (pa, .inl (cI, 96, .inl lt)), (ba, .inl (cC, 6, .inl bf)), (ka, .inl (cC, 5, .inl kf)), (fa, .inl (cI, 15, .inl f9))] := hD
      obtain ⟨hF0, hNS, hi97⟩ := xJ1_e hE h5 h2 h3 eq9 hh (mt (nI_ltI (a := q9.1) (b := tn) (by omega) (by omega)).mpr c_4)
      refine lv_aload_n hx hb dX5_read_53 rfl (lv_at hl 1 rfl) ?_
      refine lv_iconst (v := 0) hx hb dX5_read_54 (by decide) ?_
      refine va_put (D := D) (ci := 5) (v := .int 0) (ty := .int) (C := RX5) (T := TX5) (N := 19) hx hb hts hwX5 tyX5 tyX5_ok nmX5 hown hK hP hD hS 1 rfl rfl 8 (by decide) (hts (.fieldLink RX5 64 "WaitOrWalkOnModel" "at" "I") (by decide +kernel)) (fun _ h9 => h9) rfl (by decide +kernel) (by decide +kernel) rfl (Nat.le_of_ble_eq_true rfl) dX5_read_55 (fun H locs hP hD hS => ?_)
      have hP : va_P D vwCl [(wa, .inl (cI, 70, .inl nw)), (g0, .inr (5, [.ref ra, .ref wa, .ref ta, .int kpt, .ref ma, .int mkd, .ref pa, .int (nI tn), .int 0, .int 1, .ref ba, .ref ka, .int t9, .ref fa, .ref qa, .ref ea, .ref za, .ref ya, .int wks])), (pa, .inl (cI, 96, .inl lt)), (ba, .inl (cC, 6, .inl bf)), (ka, .inl (cC, 5, .inl kf)), (fa, .inl (cI, 15, .inl f9))] H := hP
      have hD : va_D A [(wa, .inl (cI, 70, .inl nw)), (g0, .inr (5, [.ref ra, .ref wa, .ref ta, .int kpt, .ref ma, .int mkd, .ref pa, .int (nI tn), .int 0, .int 1, .ref ba, .ref ka, .int t9, .ref fa, .ref qa, .ref ea, .ref za, .ref ya, .int wks])), (pa, .inl (cI, 96, .inl lt)), (ba, .inl (cC, 6, .inl bf)), (ka, .inl (cC, 5, .inl kf)), (fa, .inl (cI, 15, .inl f9))] := hD
      refine lv_aload_n hx hb dX5_read_58 rfl (lv_at hl 1 rfl) ?_
      refine va_get (D := D) (ci := 5) (v := .ref wa) (C := RX5) (T := TX5) (N := 19) hx hb hts hwX5 hown hK hP 1 rfl rfl 1 (by decide) (hts (.fieldLink RX5 19 "WaitOrWalkOnModel" "now" "[I") (by decide +kernel)) (fun _ h9 => h9) rfl dX5_read_59 ?_
      refine lv_iconst (v := 0) hx hb dX5_read_62 (by decide) ?_
      refine va_iald (D := D) hx hb hK hP 0 0 rfl rfl (by unfold vp_in; decide +kernel) dX5_read_63 ?_
      refine xv_int (y := nw 0) rfl ?_
      refine lv_istore_n (lv' := [(2, .int (nw 0)), (1, .int (nI (i + 1))), (0, .ref g0)]) hx hb dX5_read_64 rfl hl (by decide) rfl (fun ls hl => ?_)
      refine lv_aload_n hx hb dX5_read_65 rfl (lv_at hl 2 rfl) ?_
      refine va_get (D := D) (ci := 5) (v := .ref wa) (C := RX5) (T := TX5) (N := 19) hx hb hts hwX5 hown hK hP 1 rfl rfl 1 (by decide) (hts (.fieldLink RX5 19 "WaitOrWalkOnModel" "now" "[I") (by decide +kernel)) (fun _ h9 => h9) rfl dX5_read_66 ?_
      refine lv_iconst (v := 3) hx hb dX5_read_69 (by decide) ?_
      refine va_iald (D := D) hx hb hK hP 0 0 rfl rfl (by unfold vp_in; decide +kernel) dX5_read_70 ?_
      refine xv_int (y := nw 3) rfl ?_
      refine lv_istore_n (lv' := [(3, .int (nw 3)), (2, .int (nw 0)), (1, .int (nI (i + 1))), (0, .ref g0)]) hx hb dX5_read_71 rfl hl (by decide) rfl (fun ls hl => ?_)
      refine xl_loopH (σ := Nat × Nat × (Nat × Int32) × Int32 × (Nat → Int32) × Int32 × Int32) (fun n q H locs ls => lv_has ls 5 [(3, .int q.2.2.2.2.2.2), (2, .int q.2.2.2.2.2.1), (1, .int (nI (i + 1))), (0, .ref g0)] ∧ va_P D vwCl [(wa, .inl (cI, 70, .inl nw)), (g0, .inr (5, [.ref ra, .ref wa, .ref ta, .int kpt, .ref ma, .int mkd, .ref pa, .int (nI tn), .int (nI q.2.2.1.1), .int q.2.2.1.2, .ref ba, .ref ka, .int q.2.2.2.1, .ref fa, .ref qa, .ref ea, .ref za, .ref ya, .int wks])), (pa, .inl (cI, 96, .inl lt)), (ba, .inl (cC, 6, .inl bf)), (ka, .inl (cC, 5, .inl kf)), (fa, .inl (cI, 15, .inl q.2.2.2.2.1))] H ∧ va_D A [(wa, .inl (cI, 70, .inl nw)), (g0, .inr (5, [.ref ra, .ref wa, .ref ta, .int kpt, .ref ma, .int mkd, .ref pa, .int (nI tn), .int (nI q.2.2.1.1), .int q.2.2.1.2, .ref ba, .ref ka, .int q.2.2.2.1, .ref fa, .ref qa, .ref ea, .ref za, .ref ya, .int wks])), (pa, .inl (cI, 96, .inl lt)), (ba, .inl (cC, 6, .inl bf)), (ka, .inl (cC, 5, .inl kf)), (fa, .inl (cI, 15, .inl q.2.2.2.2.1))] ∧ va_S A s.heap H locs ∧ (q.1 < n) ∧ (q.2.2.1.1 ≤ tn) ∧ (q.2.2.1.2 = 1) ∧ (xGd lt tn bf kf q.1 q.2.2.1) ∧ (∀ v, xVl lt tn bf kf v q.2.2.1 q.2.2.2.2.2.1 q.2.2.2.2.2.2 → xVl lt tn bf kf (v + q.2.1) (0, 1) (nw 0) (nw 3)) ∧ (xJ2 lt tn T q.2.1 q.2.2.1 q.2.2.2.2.2.1 q.2.2.2.2.2.2)) (2 + i) (1 + i, 0, (0, 1), t9, f9, nw 0, nw 3) ⟨lv_sub hl [0, 1, 2, 3] rfl, hP.sub [0, 1, 2, 3, 4, 5] rfl, hD.sub [0, 1, 2, 3, 4, 5] (by decide) rfl, hS, by (try dsimp only); exact ⟨by omega, by omega, rfl, hg0, fun v h => h, xJ2_0 hV hT⟩⟩ (fun q H lc ls h => absurd h.2.2.2.2.1 (Nat.not_lt_zero _)) ?_
      intro n_72 q_72 H locs ls ih_72 hI_72
      obtain ⟨hl, hP, hD, hS, hI_72⟩ := hI_72
      obtain ⟨u8, c8, p8, s8, g8, s1, l1⟩ := q_72
      obtain ⟨k0, k1, k2, k3, k4, k5⟩ := hI_72
      try dsimp only at hl hP hD k0 k1 k2 k3 k4 k5
      refine lv_aload_n hx hb dX5_read_72 rfl (lv_at hl 3 rfl) ?_
      refine va_get (D := D) (ci := 5) (v := .int (nI p8.1)) (C := RX5) (T := TX5) (N := 19) hx hb hts hwX5 hown hK hP 1 rfl rfl 8 (by decide) (hts (.fieldLink RX5 64 "WaitOrWalkOnModel" "at" "I") (by decide +kernel)) (fun _ h9 => h9) rfl dX5_read_73 ?_
      refine lv_aload_n hx hb dX5_read_76 rfl (lv_at hl 3 rfl) ?_
      refine va_get (D := D) (ci := 5) (v := .int (nI tn)) (C := RX5) (T := TX5) (N := 19) hx hb hts hwX5 hown hK hP 1 rfl rfl 7 (by decide) (hts (.fieldLink RX5 57 "WaitOrWalkOnModel" "taped" "I") (by decide +kernel)) (fun _ h9 => h9) rfl dX5_read_77 ?_
      refine lv_icmp_ge (tgt := 143) hx hb dX5_read_80 (by decide) (fun c_6 => ?_) (fun c_6 => ?_)
      · have hR9 := xJ2_e k5 (mt (nI_ltI (a := p8.1) (b := tn) (by omega) (by omega)).mpr (Int32.not_lt.mpr c_6)) hF0 hNS
        have hv0 := k4 0 (mt (nI_ltI (a := p8.1) (b := tn) (by omega) (by omega)).mpr (Int32.not_lt.mpr c_6))
        rw [hV.1.1, hV.2.1.1] at hv0
        rw [k2] at hP hD
        have hP : va_P D vwCl [(wa, .inl (cI, 70, .inl nw)), (g0, .inr (5, [.ref ra, .ref wa, .ref ta, .int kpt, .ref ma, .int mkd, .ref pa, .int (nI tn), .int (nI p8.1), .int 1, .ref ba, .ref ka, .int s8, .ref fa, .ref qa, .ref ea, .ref za, .ref ya, .int wks])), (pa, .inl (cI, 96, .inl lt)), (ba, .inl (cC, 6, .inl bf)), (ka, .inl (cC, 5, .inl kf)), (fa, .inl (cI, 15, .inl g8))] H := hP
        have hD : va_D A [(wa, .inl (cI, 70, .inl nw)), (g0, .inr (5, [.ref ra, .ref wa, .ref ta, .int kpt, .ref ma, .int mkd, .ref pa, .int (nI tn), .int (nI p8.1), .int 1, .ref ba, .ref ka, .int s8, .ref fa, .ref qa, .ref ea, .ref za, .ref ya, .int wks])), (pa, .inl (cI, 96, .inl lt)), (ba, .inl (cC, 6, .inl bf)), (ka, .inl (cC, 5, .inl kf)), (fa, .inl (cI, 15, .inl g8))] := hD
        refine lv_aload_n hx hb dX5_read_143 rfl (lv_at hl 3 rfl) ?_
        refine lv_iconst (v := 0) hx hb dX5_read_144 (by decide) ?_
        refine va_put (D := D) (ci := 5) (v := .int 0) (ty := .int) (C := RX5) (T := TX5) (N := 19) hx hb hts hwX5 tyX5 tyX5_ok nmX5 hown hK hP hD hS 1 rfl rfl 8 (by decide) (hts (.fieldLink RX5 64 "WaitOrWalkOnModel" "at" "I") (by decide +kernel)) (fun _ h9 => h9) rfl (by decide +kernel) (by decide +kernel) rfl (Nat.le_of_ble_eq_true rfl) dX5_read_145 (fun H locs hP hD hS => ?_)
        have hP : va_P D vwCl [(wa, .inl (cI, 70, .inl nw)), (g0, .inr (5, [.ref ra, .ref wa, .ref ta, .int kpt, .ref ma, .int mkd, .ref pa, .int (nI tn), .int 0, .int 1, .ref ba, .ref ka, .int s8, .ref fa, .ref qa, .ref ea, .ref za, .ref ya, .int wks])), (pa, .inl (cI, 96, .inl lt)), (ba, .inl (cC, 6, .inl bf)), (ka, .inl (cC, 5, .inl kf)), (fa, .inl (cI, 15, .inl g8))] H := hP
        have hD : va_D A [(wa, .inl (cI, 70, .inl nw)), (g0, .inr (5, [.ref ra, .ref wa, .ref ta, .int kpt, .ref ma, .int mkd, .ref pa, .int (nI tn), .int 0, .int 1, .ref ba, .ref ka, .int s8, .ref fa, .ref qa, .ref ea, .ref za, .ref ya, .int wks])), (pa, .inl (cI, 96, .inl lt)), (ba, .inl (cC, 6, .inl bf)), (ka, .inl (cC, 5, .inl kf)), (fa, .inl (cI, 15, .inl g8))] := hD
        refine xl_loopH (σ := Nat × (Nat × Int32) × Int32 × (Nat → Int32) × (Nat → Int32) × Nat × Nat) (fun n q H locs ls => lv_has ls 5 [(1, .int (nI (i + 1))), (0, .ref g0)] ∧ va_P D vwCl [(wa, .inl (cI, 70, .inl q.2.2.2.2.1)), (g0, .inr (5, [.ref ra, .ref wa, .ref ta, .int kpt, .ref ma, .int mkd, .ref pa, .int (nI tn), .int (nI q.2.1.1), .int q.2.1.2, .ref ba, .ref ka, .int q.2.2.1, .ref fa, .ref qa, .ref ea, .ref za, .ref ya, .int wks])), (pa, .inl (cI, 96, .inl lt)), (ba, .inl (cC, 6, .inl bf)), (ka, .inl (cC, 5, .inl kf)), (fa, .inl (cI, 15, .inl q.2.2.2.1))] H ∧ va_D A [(wa, .inl (cI, 70, .inl q.2.2.2.2.1)), (g0, .inr (5, [.ref ra, .ref wa, .ref ta, .int kpt, .ref ma, .int mkd, .ref pa, .int (nI tn), .int (nI q.2.1.1), .int q.2.1.2, .ref ba, .ref ka, .int q.2.2.1, .ref fa, .ref qa, .ref ea, .ref za, .ref ya, .int wks])), (pa, .inl (cI, 96, .inl lt)), (ba, .inl (cC, 6, .inl bf)), (ka, .inl (cC, 5, .inl kf)), (fa, .inl (cI, 15, .inl q.2.2.2.1))] ∧ va_S A s.heap H locs ∧ (q.1 < n) ∧ (q.2.1.1 ≤ tn) ∧ (q.2.1.2 = 1) ∧ (xVl lt tn bf kf q.1 q.2.1 (nI q.2.2.2.2.2.1) (nI q.2.2.2.2.2.2)) ∧ (xVd q.2.2.2.2.1 q.2.2.2.2.2.1 q.2.2.2.2.2.2) ∧ (xJ3 lt tn T q.2.1 q.2.2.2.2.1 q.2.2.2.2.2.1 q.2.2.2.2.2.2)) (1 + (0 + c8)) (0 + c8, (0, 1), s8, g8, nw, st, ln) ⟨lv_sub hl [2, 3] rfl, hP.sub [0, 1, 2, 3, 4, 5] rfl, hD.sub [0, 1, 2, 3, 4, 5] (by decide) rfl, hS, by (try dsimp only); exact ⟨by omega, by omega, rfl, hv0, hV, xJ3_0 hR hT⟩⟩ (fun q H lc ls h => absurd h.2.2.2.2.1 (Nat.not_lt_zero _)) ?_
        intro n_148 q_148 H locs ls ih_148 hI_148
        obtain ⟨hl, hP, hD, hS, hI_148⟩ := hI_148
        obtain ⟨u7, p7, s7, g7, nw7, st7, ln7⟩ := q_148
        obtain ⟨o0, o1, o2, o3, o4, o5⟩ := hI_148
        try dsimp only at hl hP hD o0 o1 o2 o3 o4 o5
        refine lv_aload_n hx hb dX5_read_148 rfl (lv_at hl 1 rfl) ?_
        refine va_get (D := D) (ci := 5) (v := .int (nI p7.1)) (C := RX5) (T := TX5) (N := 19) hx hb hts hwX5 hown hK hP 1 rfl rfl 8 (by decide) (hts (.fieldLink RX5 64 "WaitOrWalkOnModel" "at" "I") (by decide +kernel)) (fun _ h9 => h9) rfl dX5_read_149 ?_
        refine lv_aload_n hx hb dX5_read_152 rfl (lv_at hl 1 rfl) ?_
        refine va_get (D := D) (ci := 5) (v := .int (nI tn)) (C := RX5) (T := TX5) (N := 19) hx hb hts hwX5 hown hK hP 1 rfl rfl 7 (by decide) (hts (.fieldLink RX5 57 "WaitOrWalkOnModel" "taped" "I") (by decide +kernel)) (fun _ h9 => h9) rfl dX5_read_153 ?_
        refine lv_icmp_ge (tgt := 170) hx hb dX5_read_156 (by decide) (fun c_7 => ?_) (fun c_7 => ?_)
        · refine lv_iload_n hx hb dX5_read_170 rfl (lv_at hl 0 rfl) ?_
          have hP9 := hP.sub (ws' := [(g0, .inr (5, [.ref ra, .ref wa, .ref ta, .int kpt, .ref ma, .int mkd, .ref pa, .int (nI tn), .int (nI p7.1), .int p7.2, .ref ba, .ref ka, .int s7, .ref fa, .ref qa, .ref ea, .ref za, .ref ya, .int wks])), (pa, .inl (cI, 96, .inl lt)), (ba, .inl (cC, 6, .inl bf)), (ka, .inl (cC, 5, .inl kf)), (fa, .inl (cI, 15, .inl g7)), (wa, .inl (cI, 70, .inl nw7))]) [1, 2, 3, 4, 5, 0] rfl
          have hD9 := hD.sub (ws' := [(g0, .inr (5, [.ref ra, .ref wa, .ref ta, .int kpt, .ref ma, .int mkd, .ref pa, .int (nI tn), .int (nI p7.1), .int p7.2, .ref ba, .ref ka, .int s7, .ref fa, .ref qa, .ref ea, .ref za, .ref ya, .int wks])), (pa, .inl (cI, 96, .inl lt)), (ba, .inl (cC, 6, .inl bf)), (ka, .inl (cC, 5, .inl kf)), (fa, .inl (cI, 15, .inl g7)), (wa, .inl (cI, 70, .inl nw7))]) [1, 2, 3, 4, 5, 0] (by decide) rfl
          exact W.iret (v := nI (i + 1)) hx hb hr (fun t ht hW => ⟨⟨_, (), rfl, hR9.symm, (nI p7.1 : Int32), (p7.2 : Int32), (s7 : Int32), (g7 : Nat → Int32), (nw7 : Nat → Int32), xJ3_e o5 (mt (nI_ltI (a := p7.1) (b := tn) (by omega) (by omega)).mpr (Int32.not_lt.mpr c_7)) hF0 hi97 hR9 o4, by rw [ht]; exact hP9, hD9⟩, hS.F ht⟩) hS.2.2 dX5_read_171
        · have w7 := (nI_ltI (a := p7.1) (b := tn) (by omega) (by omega)).mp (Int32.not_le.mp c_7)
          obtain ⟨v7, rfl, hq7⟩ := xVl_s o3 w7
          have ha7 := xSp_adv hq7.1
          have hm7 : ¬ xMb (xSs lt tn bf p7) (xSf lt tn bf kf g7 p7) (nI st7) (nI ln7) = 0 := by rw [xMb_fa lt tn bf kf g7 (fun _ => 0) p7]; exact hq7.2.1
          have hn7 := hq7.2.2
          rw [xN0_e, xN3_e] at hn7
          refine lv_aload_n hx hb dX5_read_159 rfl (lv_at hl 1 rfl) ?_
          have hPc := hP.sub (ws' := [(g0, .inr (5, [.ref ra, .ref wa, .ref ta, .int kpt, .ref ma, .int mkd, .ref pa, .int (nI tn), .int (nI p7.1), .int p7.2, .ref ba, .ref ka, .int s7, .ref fa, .ref qa, .ref ea, .ref za, .ref ya, .int wks])), (pa, .inl (cI, 96, .inl lt)), (ba, .inl (cC, 6, .inl bf)), (ka, .inl (cC, 5, .inl kf)), (fa, .inl (cI, 15, .inl g7))]) [1, 2, 3, 4, 5] rfl
          have hDc := hD.sub (ws' := [(g0, .inr (5, [.ref ra, .ref wa, .ref ta, .int kpt, .ref ma, .int mkd, .ref pa, .int (nI tn), .int (nI p7.1), .int p7.2, .ref ba, .ref ka, .int s7, .ref fa, .ref qa, .ref ea, .ref za, .ref ya, .int wks])), (pa, .inl (cI, 96, .inl lt)), (ba, .inl (cC, 6, .inl bf)), (ka, .inl (cC, 5, .inl kf)), (fa, .inl (cI, 15, .inl g7))]) [1, 2, 3, 4, 5] (by decide) rfl
          have hFc := va_free (wc := [(g0, .inr (5, [.ref ra, .ref wa, .ref ta, .int kpt, .ref ma, .int mkd, .ref pa, .int (nI tn), .int (nI p7.1), .int p7.2, .ref ba, .ref ka, .int s7, .ref fa, .ref qa, .ref ea, .ref za, .ref ya, .int wks])), (pa, .inl (cI, 96, .inl lt)), (ba, .inl (cC, 6, .inl bf)), (ka, .inl (cC, 5, .inl kf)), (fa, .inl (cI, 15, .inl g7))]) hD hS hA [1, 2, 3, 4, 5] rfl
          refine va_callv (va_runV (As := []) (rest := []) ⟨hx, hb, hml, hown, hts⟩ (g_X5_statement l D cI cL cZ cC _ g0 ra wa ta ma pa ba ka fa qa ea za ya kpt mkd s7 wks tn p7 lt bf kf g7 (htn) (o1)) (cwV 0 hts gX5_read_X5_statement rfl rfl rfl (by decide +kernel) ⟨Nat.le_of_ble_eq_true rfl, Nat.le_of_ble_eq_true rfl⟩) ⟨wPc_bl, va_recv hK hPc (ci := 5) (q0 := 0) rfl rfl, wPc_use hPc hK hDc⟩ rfl rfl hl.1 rfl (lv_room (Nat.le_of_ble_eq_true rfl)) dX5_read_160 ⟨Nat.le_of_ble_eq_true rfl, Nat.le_of_ble_eq_true rfl⟩) hS (fun q _ h => hFc q h) hFc (fun u_8 t H1 locs ht hvm hw hB hz1 hk1 hS => ?_)
          obtain ⟨hP1, hD1⟩ := hB
          rw [ht] at hP1
          obtain ⟨hP, hD⟩ := va_join (wr := [(wa, .inl (cI, 70, .inl nw7))]) (w1 := [(g0, .inr (5, [.ref ra, .ref wa, .ref ta, .int kpt, .ref ma, .int mkd, .ref pa, .int (nI tn), .int (nI (xSp lt tn bf kf p7).1), .int ((xSp lt tn bf kf p7).2), .ref ba, .ref ka, .int (xSs lt tn bf p7), .ref fa, .ref qa, .ref ea, .ref za, .ref ya, .int wks])), (pa, .inl (cI, 96, .inl lt)), (ba, .inl (cC, 6, .inl bf)), (ka, .inl (cC, 5, .inl kf)), (fa, .inl (cI, 15, .inl (xSf lt tn bf kf g7 p7)))]) hP hD [1, 2, 3, 4, 5] [0] rfl rfl (by decide) (by decide) hk1 hFc hP1 hD1
          generalize H1 = H at hP hS ⊢
          have hP : va_P D vwCl [(wa, .inl (cI, 70, .inl nw7)), (g0, .inr (5, [.ref ra, .ref wa, .ref ta, .int kpt, .ref ma, .int mkd, .ref pa, .int (nI tn), .int (nI (xSp lt tn bf kf p7).1), .int ((xSp lt tn bf kf p7).2), .ref ba, .ref ka, .int (xSs lt tn bf p7), .ref fa, .ref qa, .ref ea, .ref za, .ref ya, .int wks])), (pa, .inl (cI, 96, .inl lt)), (ba, .inl (cC, 6, .inl bf)), (ka, .inl (cC, 5, .inl kf)), (fa, .inl (cI, 15, .inl (xSf lt tn bf kf g7 p7)))] H := hP
          have hD : va_D A [(wa, .inl (cI, 70, .inl nw7)), (g0, .inr (5, [.ref ra, .ref wa, .ref ta, .int kpt, .ref ma, .int mkd, .ref pa, .int (nI tn), .int (nI (xSp lt tn bf kf p7).1), .int ((xSp lt tn bf kf p7).2), .ref ba, .ref ka, .int (xSs lt tn bf p7), .ref fa, .ref qa, .ref ea, .ref za, .ref ya, .int wks])), (pa, .inl (cI, 96, .inl lt)), (ba, .inl (cC, 6, .inl bf)), (ka, .inl (cC, 5, .inl kf)), (fa, .inl (cI, 15, .inl (xSf lt tn bf kf g7 p7)))] := hD
          obtain ⟨q7, eq7⟩ : ∃ z : Nat × Int32, xSp lt tn bf kf p7 = z := ⟨_, rfl⟩
          obtain ⟨t7, et7⟩ : ∃ z : Int32, xSs lt tn bf p7 = z := ⟨_, rfl⟩
          obtain ⟨f7, ef7⟩ : ∃ z : Nat → Int32, xSf lt tn bf kf g7 p7 = z := ⟨_, rfl⟩
          rw [eq7, et7, ef7] at hP hD
          have hP : va_P D vwCl [(wa, .inl (cI, 70, .inl nw7)), (g0, .inr (5, [.ref ra, .ref wa, .ref ta, .int kpt, .ref ma, .int mkd, .ref pa, .int (nI tn), .int (nI q7.1), .int (q7.2), .ref ba, .ref ka, .int t7, .ref fa, .ref qa, .ref ea, .ref za, .ref ya, .int wks])), (pa, .inl (cI, 96, .inl lt)), (ba, .inl (cC, 6, .inl bf)), (ka, .inl (cC, 5, .inl kf)), (fa, .inl (cI, 15, .inl f7))] H := hP
          have hD : va_D A [(wa, .inl (cI, 70, .inl nw7)), (g0, .inr (5, [.ref ra, .ref wa, .ref ta, .int kpt, .ref ma, .int mkd, .ref pa, .int (nI tn), .int (nI q7.1), .int (q7.2), .ref ba, .ref ka, .int t7, .ref fa, .ref qa, .ref ea, .ref za, .ref ya, .int wks])), (pa, .inl (cI, 96, .inl lt)), (ba, .inl (cC, 6, .inl bf)), (ka, .inl (cC, 5, .inl kf)), (fa, .inl (cI, 15, .inl f7))] := hD
          rw [eq7] at ha7
          rw [et7, ef7] at hm7
          rw [eq7, et7] at hn7
          have hc7 := xVd_cm o4 hm7 (fun h => by rw [← ef7]; exact xSf_b (by rw [et7]; exact h) o1)
          refine lv_aload_n hx hb dX5_read_163 rfl (lv_at hl 1 rfl) ?_
          have hPc := hP.sub (ws' := [(g0, .inr (5, [.ref ra, .ref wa, .ref ta, .int kpt, .ref ma, .int mkd, .ref pa, .int (nI tn), .int (nI q7.1), .int q7.2, .ref ba, .ref ka, .int t7, .ref fa, .ref qa, .ref ea, .ref za, .ref ya, .int wks])), (wa, .inl (cI, 70, .inl nw7)), (fa, .inl (cI, 15, .inl f7))]) [1, 0, 5] rfl
          have hDc := hD.sub (ws' := [(g0, .inr (5, [.ref ra, .ref wa, .ref ta, .int kpt, .ref ma, .int mkd, .ref pa, .int (nI tn), .int (nI q7.1), .int q7.2, .ref ba, .ref ka, .int t7, .ref fa, .ref qa, .ref ea, .ref za, .ref ya, .int wks])), (wa, .inl (cI, 70, .inl nw7)), (fa, .inl (cI, 15, .inl f7))]) [1, 0, 5] (by decide) rfl
          have hFc := va_free (wc := [(g0, .inr (5, [.ref ra, .ref wa, .ref ta, .int kpt, .ref ma, .int mkd, .ref pa, .int (nI tn), .int (nI q7.1), .int q7.2, .ref ba, .ref ka, .int t7, .ref fa, .ref qa, .ref ea, .ref za, .ref ya, .int wks])), (wa, .inl (cI, 70, .inl nw7)), (fa, .inl (cI, 15, .inl f7))]) hD hS hA [1, 0, 5] rfl
          refine va_callv (va_runV (As := []) (rest := []) ⟨hx, hb, hml, hown, hts⟩ (g_X5_come l D cI cL cZ cC _ g0 ra wa ta ma pa ba ka fa qa ea za ya kpt mkd (nI tn) (nI q7.1) q7.2 t7 wks st7 nw7 ln7 f7 (o4.1.1) (o4.1.2.1) (o4.1.2.2) (o4.2.1.1) (o4.2.1.2) (fun h => (nI_ltI (a := ln7) (b := 3) (by have := o4.2.1.2; omega) (by decide)).mp (xMb_3 hm7 h).2)) (cwV 0 hts gX5_read_X5_come rfl rfl rfl (by decide +kernel) ⟨Nat.le_of_ble_eq_true rfl, Nat.le_of_ble_eq_true rfl⟩) ⟨wPc_bl, va_recv hK hPc (ci := 5) (q0 := 0) rfl rfl, wPc_use hPc hK hDc⟩ rfl rfl hl.1 rfl (lv_room (Nat.le_of_ble_eq_true rfl)) dX5_read_164 ⟨Nat.le_of_ble_eq_true rfl, Nat.le_of_ble_eq_true rfl⟩) hS (fun q _ h => hFc q h) hFc (fun u_9 t H1 locs ht hvm hw hB hz1 hk1 hS => ?_)
          obtain ⟨hP1, hD1⟩ := hB
          rw [ht] at hP1
          obtain ⟨hP, hD⟩ := va_join (wr := [(pa, .inl (cI, 96, .inl lt)), (ba, .inl (cC, 6, .inl bf)), (ka, .inl (cC, 5, .inl kf))]) (w1 := [(g0, .inr (5, [.ref ra, .ref wa, .ref ta, .int kpt, .ref ma, .int mkd, .ref pa, .int (nI tn), .int (nI q7.1), .int q7.2, .ref ba, .ref ka, .int t7, .ref fa, .ref qa, .ref ea, .ref za, .ref ya, .int wks])), (wa, .inl (cI, 70, .inl (xCm t7 f7 nw7 st7 ln7))), (fa, .inl (cI, 15, .inl f7))]) hP hD [1, 0, 5] [2, 3, 4] rfl rfl (by decide) (by decide) hk1 hFc hP1 hD1
          generalize H1 = H at hP hS ⊢
          have hP : va_P D vwCl [(pa, .inl (cI, 96, .inl lt)), (ba, .inl (cC, 6, .inl bf)), (ka, .inl (cC, 5, .inl kf)), (g0, .inr (5, [.ref ra, .ref wa, .ref ta, .int kpt, .ref ma, .int mkd, .ref pa, .int (nI tn), .int (nI q7.1), .int q7.2, .ref ba, .ref ka, .int t7, .ref fa, .ref qa, .ref ea, .ref za, .ref ya, .int wks])), (wa, .inl (cI, 70, .inl (xCm t7 f7 nw7 st7 ln7))), (fa, .inl (cI, 15, .inl f7))] H := hP
          have hD : va_D A [(pa, .inl (cI, 96, .inl lt)), (ba, .inl (cC, 6, .inl bf)), (ka, .inl (cC, 5, .inl kf)), (g0, .inr (5, [.ref ra, .ref wa, .ref ta, .int kpt, .ref ma, .int mkd, .ref pa, .int (nI tn), .int (nI q7.1), .int q7.2, .ref ba, .ref ka, .int t7, .ref fa, .ref qa, .ref ea, .ref za, .ref ya, .int wks])), (wa, .inl (cI, 70, .inl (xCm t7 f7 nw7 st7 ln7))), (fa, .inl (cI, 15, .inl f7))] := hD
          refine lv_goto (tgt := 148) hx hb dX5_read_167 (by decide) ?_
          have o5n := xJ3_s hE o5 w7 o2 eq7 et7 ef7 hq7.1 o4 hm7
          exact ih_148 (v7, q7, t7, f7, xCm t7 f7 nw7 st7 ln7, st7 + xN0 t7, ln7 + xN3 t7) _ _ _ ⟨lv_sub hl [0, 1] rfl, hP.sub [4, 3, 0, 1, 2, 5] rfl, hD.sub [4, 3, 0, 1, 2, 5] (by decide) rfl, hS, by (try dsimp only); exact ⟨by omega, ha7.2.2, ha7.2.1, hn7, hc7, o5n⟩⟩
      · have w8 := (nI_ltI (a := p8.1) (b := tn) (by omega) (by omega)).mp (Int32.not_le.mp c_6)
        obtain ⟨v8, rfl, hq8⟩ := xGd_s k3 w8
        have ha8 := xSp_adv hq8.1
        refine lv_aload_n hx hb dX5_read_83 rfl (lv_at hl 3 rfl) ?_
        refine va_get (D := D) (ci := 5) (v := .int (nI p8.1)) (C := RX5) (T := TX5) (N := 19) hx hb hts hwX5 hown hK hP 1 rfl rfl 8 (by decide) (hts (.fieldLink RX5 64 "WaitOrWalkOnModel" "at" "I") (by decide +kernel)) (fun _ h9 => h9) rfl dX5_read_84 ?_
        refine lv_istore (lv' := [(4, .int (nI p8.1)), (3, .int l1), (2, .int s1), (1, .int (nI (i + 1))), (0, .ref g0)]) hx hb dX5_read_87 hl (by decide) rfl (fun ls hl => ?_)
        refine lv_aload_n hx hb dX5_read_89 rfl (lv_at hl 4 rfl) ?_
        have hPc := hP.sub (ws' := [(g0, .inr (5, [.ref ra, .ref wa, .ref ta, .int kpt, .ref ma, .int mkd, .ref pa, .int (nI tn), .int (nI p8.1), .int p8.2, .ref ba, .ref ka, .int s8, .ref fa, .ref qa, .ref ea, .ref za, .ref ya, .int wks])), (pa, .inl (cI, 96, .inl lt)), (ba, .inl (cC, 6, .inl bf)), (ka, .inl (cC, 5, .inl kf)), (fa, .inl (cI, 15, .inl g8))]) [1, 2, 3, 4, 5] rfl
        have hDc := hD.sub (ws' := [(g0, .inr (5, [.ref ra, .ref wa, .ref ta, .int kpt, .ref ma, .int mkd, .ref pa, .int (nI tn), .int (nI p8.1), .int p8.2, .ref ba, .ref ka, .int s8, .ref fa, .ref qa, .ref ea, .ref za, .ref ya, .int wks])), (pa, .inl (cI, 96, .inl lt)), (ba, .inl (cC, 6, .inl bf)), (ka, .inl (cC, 5, .inl kf)), (fa, .inl (cI, 15, .inl g8))]) [1, 2, 3, 4, 5] (by decide) rfl
        have hFc := va_free (wc := [(g0, .inr (5, [.ref ra, .ref wa, .ref ta, .int kpt, .ref ma, .int mkd, .ref pa, .int (nI tn), .int (nI p8.1), .int p8.2, .ref ba, .ref ka, .int s8, .ref fa, .ref qa, .ref ea, .ref za, .ref ya, .int wks])), (pa, .inl (cI, 96, .inl lt)), (ba, .inl (cC, 6, .inl bf)), (ka, .inl (cC, 5, .inl kf)), (fa, .inl (cI, 15, .inl g8))]) hD hS hA [1, 2, 3, 4, 5] rfl
        refine va_callv (va_runV (As := []) (rest := []) ⟨hx, hb, hml, hown, hts⟩ (g_X5_statement l D cI cL cZ cC _ g0 ra wa ta ma pa ba ka fa qa ea za ya kpt mkd s8 wks tn p8 lt bf kf g8 (htn) (k1)) (cwV 0 hts gX5_read_X5_statement rfl rfl rfl (by decide +kernel) ⟨Nat.le_of_ble_eq_true rfl, Nat.le_of_ble_eq_true rfl⟩) ⟨wPc_bl, va_recv hK hPc (ci := 5) (q0 := 0) rfl rfl, wPc_use hPc hK hDc⟩ rfl rfl hl.1 rfl (lv_room (Nat.le_of_ble_eq_true rfl)) dX5_read_90 ⟨Nat.le_of_ble_eq_true rfl, Nat.le_of_ble_eq_true rfl⟩) hS (fun q _ h => hFc q h) hFc (fun u_10 t H1 locs ht hvm hw hB hz1 hk1 hS => ?_)
        obtain ⟨hP1, hD1⟩ := hB
        rw [ht] at hP1
        obtain ⟨hP, hD⟩ := va_join (wr := [(wa, .inl (cI, 70, .inl nw))]) (w1 := [(g0, .inr (5, [.ref ra, .ref wa, .ref ta, .int kpt, .ref ma, .int mkd, .ref pa, .int (nI tn), .int (nI (xSp lt tn bf kf p8).1), .int ((xSp lt tn bf kf p8).2), .ref ba, .ref ka, .int (xSs lt tn bf p8), .ref fa, .ref qa, .ref ea, .ref za, .ref ya, .int wks])), (pa, .inl (cI, 96, .inl lt)), (ba, .inl (cC, 6, .inl bf)), (ka, .inl (cC, 5, .inl kf)), (fa, .inl (cI, 15, .inl (xSf lt tn bf kf g8 p8)))]) hP hD [1, 2, 3, 4, 5] [0] rfl rfl (by decide) (by decide) hk1 hFc hP1 hD1
        generalize H1 = H at hP hS ⊢
        have hP : va_P D vwCl [(wa, .inl (cI, 70, .inl nw)), (g0, .inr (5, [.ref ra, .ref wa, .ref ta, .int kpt, .ref ma, .int mkd, .ref pa, .int (nI tn), .int (nI (xSp lt tn bf kf p8).1), .int ((xSp lt tn bf kf p8).2), .ref ba, .ref ka, .int (xSs lt tn bf p8), .ref fa, .ref qa, .ref ea, .ref za, .ref ya, .int wks])), (pa, .inl (cI, 96, .inl lt)), (ba, .inl (cC, 6, .inl bf)), (ka, .inl (cC, 5, .inl kf)), (fa, .inl (cI, 15, .inl (xSf lt tn bf kf g8 p8)))] H := hP
        have hD : va_D A [(wa, .inl (cI, 70, .inl nw)), (g0, .inr (5, [.ref ra, .ref wa, .ref ta, .int kpt, .ref ma, .int mkd, .ref pa, .int (nI tn), .int (nI (xSp lt tn bf kf p8).1), .int ((xSp lt tn bf kf p8).2), .ref ba, .ref ka, .int (xSs lt tn bf p8), .ref fa, .ref qa, .ref ea, .ref za, .ref ya, .int wks])), (pa, .inl (cI, 96, .inl lt)), (ba, .inl (cC, 6, .inl bf)), (ka, .inl (cC, 5, .inl kf)), (fa, .inl (cI, 15, .inl (xSf lt tn bf kf g8 p8)))] := hD
        obtain ⟨q8, eq8⟩ : ∃ z : Nat × Int32, xSp lt tn bf kf p8 = z := ⟨_, rfl⟩
        obtain ⟨t8, et8⟩ : ∃ z : Int32, xSs lt tn bf p8 = z := ⟨_, rfl⟩
        obtain ⟨f8, ef8⟩ : ∃ z : Nat → Int32, xSf lt tn bf kf g8 p8 = z := ⟨_, rfl⟩
        rw [eq8, et8, ef8] at hP hD
        have hP : va_P D vwCl [(wa, .inl (cI, 70, .inl nw)), (g0, .inr (5, [.ref ra, .ref wa, .ref ta, .int kpt, .ref ma, .int mkd, .ref pa, .int (nI tn), .int (nI q8.1), .int (q8.2), .ref ba, .ref ka, .int t8, .ref fa, .ref qa, .ref ea, .ref za, .ref ya, .int wks])), (pa, .inl (cI, 96, .inl lt)), (ba, .inl (cC, 6, .inl bf)), (ka, .inl (cC, 5, .inl kf)), (fa, .inl (cI, 15, .inl f8))] H := hP
        have hD : va_D A [(wa, .inl (cI, 70, .inl nw)), (g0, .inr (5, [.ref ra, .ref wa, .ref ta, .int kpt, .ref ma, .int mkd, .ref pa, .int (nI tn), .int (nI q8.1), .int (q8.2), .ref ba, .ref ka, .int t8, .ref fa, .ref qa, .ref ea, .ref za, .ref ya, .int wks])), (pa, .inl (cI, 96, .inl lt)), (ba, .inl (cC, 6, .inl bf)), (ka, .inl (cC, 5, .inl kf)), (fa, .inl (cI, 15, .inl f8))] := hD
        refine lv_aload_n hx hb dX5_read_93 rfl (lv_at hl 4 rfl) ?_
        refine lv_iload_n hx hb dX5_read_94 rfl (lv_at hl 2 rfl) ?_
        refine lv_iload_n hx hb dX5_read_95 rfl (lv_at hl 1 rfl) ?_
        have hPc := hP.sub (ws' := [(g0, .inr (5, [.ref ra, .ref wa, .ref ta, .int kpt, .ref ma, .int mkd, .ref pa, .int (nI tn), .int (nI q8.1), .int q8.2, .ref ba, .ref ka, .int t8, .ref fa, .ref qa, .ref ea, .ref za, .ref ya, .int wks])), (fa, .inl (cI, 15, .inl f8))]) [1, 5] rfl
        refine vp_callSi (va_Run.run (va_runV (As := [.int s1, .int l1]) (rest := []) ⟨hx, hb, hml, hown, hts⟩ (g_X5_isAsItMustBe l D cI cL cZ cC g0 ra wa ta ma pa ba ka fa qa ea za ya kpt mkd (nI tn) (nI q8.1) q8.2 t8 wks f8 s1 l1 ) (cwV 2 hts gX5_read_X5_isAsItMustBe rfl rfl rfl (by decide +kernel) ⟨Nat.le_of_ble_eq_true rfl, Nat.le_of_ble_eq_true rfl⟩) ⟨xPc_bl, va_recv hK hPc (ci := 5) (q0 := 0) rfl rfl, xPc_use hPc hK⟩ rfl rfl hl.1 rfl (lv_room (Nat.le_of_ble_eq_true rfl)) dX5_read_96 ⟨Nat.le_of_ble_eq_true rfl, Nat.le_of_ble_eq_true rfl⟩)) (fun r_11 er_11 => ?_)
        obtain rfl : (xMb t8 f8 s1 l1 : Int32) = r_11 := Eq.symm er_11
        refine lv_if_ne (tgt := 109) hx hb dX5_read_99 (by decide) (fun c_12 => ?_) (fun c_12 => ?_)
        · refine lv_iload_n hx hb dX5_read_109 rfl (lv_at hl 2 rfl) ?_
          refine xl_cut (σ := Unit) 122 (fun _ => [.int (xB0 t8), .int s1]) (fun _ ls => lv_has ls 5 [(4, .int (nI p8.1)), (3, .int l1), (2, .int s1), (1, .int (nI (i + 1))), (0, .ref g0)]) ?_ ?_
          · intro _ ls hl
            refine lv_iadd hx hb dX5_read_122 ?_
            refine lv_istore_n (lv' := [(2, .int (s1 + (xB0 t8))), (4, .int (nI p8.1)), (3, .int l1), (1, .int (nI (i + 1))), (0, .ref g0)]) hx hb dX5_read_123 rfl hl (by decide) rfl (fun ls hl => ?_)
            refine lv_iload_n hx hb dX5_read_124 rfl (lv_at hl 2 rfl) ?_
            refine xl_cut (σ := Unit) 138 (fun _ => [.int (xB3 t8), .int l1]) (fun _ ls => lv_has ls 5 [(2, .int (s1 + (xB0 t8))), (4, .int (nI p8.1)), (3, .int l1), (1, .int (nI (i + 1))), (0, .ref g0)]) ?_ ?_
            · intro _ ls hl
              refine lv_iadd hx hb dX5_read_138 ?_
              refine lv_istore_n (lv' := [(3, .int (l1 + (xB3 t8))), (2, .int (s1 + (xB0 t8))), (4, .int (nI p8.1)), (1, .int (nI (i + 1))), (0, .ref g0)]) hx hb dX5_read_139 rfl hl (by decide) rfl (fun ls hl => ?_)
              refine lv_goto (tgt := 72) hx hb dX5_read_140 (by decide) ?_
              have k5n := xJ2_s hE k5 w8 k2 eq8 et8 ef8 hq8.1 c_12
              have hm8 : ¬ xMb (xSs lt tn bf p8) (xSf lt tn bf kf (fun _ => 0) p8) s1 l1 = 0 := by rw [xMb_fa lt tn bf kf (fun _ => 0) g8 p8 s1 l1, et8, ef8]; exact c_12
              have hs8 : ∀ v, xVl lt tn bf kf v q8 (s1 + xB0 t8) (l1 + xB3 t8) → xVl lt tn bf kf (v + (c8 + 1)) (0, 1) (nw 0) (nw 3) := fun v hv => by have w9 := k4 (v + 1) (fun _ => ⟨hq8.1, hm8, by rw [eq8, et8]; exact hv⟩); rw [show v + (c8 + 1) = v + 1 + c8 by omega]; exact w9
              rw [eq8] at ha8
              have hq8b := hq8.2
              rw [eq8] at hq8b
              exact ih_72 (v8, c8 + 1, q8, t8, f8, s1 + xB0 t8, l1 + xB3 t8) _ _ _ ⟨lv_sub hl [0, 1, 3, 4] rfl, hP.sub [0, 1, 2, 3, 4, 5] rfl, hD.sub [0, 1, 2, 3, 4, 5] (by decide) rfl, hS, by (try dsimp only); exact ⟨by omega, ha8.2.2, ha8.2.1, hq8b, hs8, k5n⟩⟩
            · intro K_138
              refine lv_aload_n hx hb dX5_read_125 rfl (lv_at hl 4 rfl) ?_
              refine va_get (D := D) (ci := 5) (v := .int t8) (C := RX5) (T := TX5) (N := 19) hx hb hts hwX5 hown hK hP 1 rfl rfl 12 (by decide) (hts (.fieldLink RX5 75 "WaitOrWalkOnModel" "sort" "I") (by decide +kernel)) (fun _ h9 => h9) rfl dX5_read_126 ?_
              refine lv_iconst (v := 3) hx hb dX5_read_129 (by decide) ?_
              refine lv_icmp_ne (tgt := 137) hx hb dX5_read_130 (by decide) (fun c_13 => ?_) (fun c_13 => ?_)
              · refine lv_iconst (v := 0) hx hb dX5_read_137 (by decide) ?_
                refine xv_int (y := xB3 t8) (by rw [xB3, if_neg c_13]) ?_
                exact K_138 () _ (lv_sub hl [0, 1, 2, 3, 4] rfl)
              · refine lv_iconst (v := 1) hx hb dX5_read_133 (by decide) ?_
                refine lv_goto (tgt := 138) hx hb dX5_read_134 (by decide) ?_
                refine xv_int (y := xB3 t8) (by rw [xB3, if_pos c_13]) ?_
                exact K_138 () _ (lv_sub hl [0, 1, 2, 3, 4] rfl)
          · intro K_122
            refine lv_aload_n hx hb dX5_read_110 rfl (lv_at hl 4 rfl) ?_
            refine va_get (D := D) (ci := 5) (v := .int t8) (C := RX5) (T := TX5) (N := 19) hx hb hts hwX5 hown hK hP 1 rfl rfl 12 (by decide) (hts (.fieldLink RX5 75 "WaitOrWalkOnModel" "sort" "I") (by decide +kernel)) (fun _ h9 => h9) rfl dX5_read_111 ?_
            refine lv_if_ne (tgt := 121) hx hb dX5_read_114 (by decide) (fun c_14 => ?_) (fun c_14 => ?_)
            · refine lv_iconst (v := 0) hx hb dX5_read_121 (by decide) ?_
              refine xv_int (y := xB0 t8) (by rw [xB0, if_neg c_14]) ?_
              exact K_122 () _ (lv_sub hl [0, 1, 2, 3, 4] rfl)
            · refine lv_iconst (v := 1) hx hb dX5_read_117 (by decide) ?_
              refine lv_goto (tgt := 122) hx hb dX5_read_118 (by decide) ?_
              refine xv_int (y := xB0 t8) (by rw [xB0, if_pos c_14]) ?_
              exact K_122 () _ (lv_sub hl [0, 1, 2, 3, 4] rfl)
        · refine lv_sipush (v := -2000) hx hb dX5_read_102 (by decide) ?_
          refine lv_iload hx hb dX5_read_105 (lv_at hl 0 rfl) ?_
          refine lv_isub hx hb dX5_read_107 ?_
          have hP9 := hP.sub (ws' := [(g0, .inr (5, [.ref ra, .ref wa, .ref ta, .int kpt, .ref ma, .int mkd, .ref pa, .int (nI tn), .int (nI q8.1), .int (q8.2), .ref ba, .ref ka, .int t8, .ref fa, .ref qa, .ref ea, .ref za, .ref ya, .int wks])), (pa, .inl (cI, 96, .inl lt)), (ba, .inl (cC, 6, .inl bf)), (ka, .inl (cC, 5, .inl kf)), (fa, .inl (cI, 15, .inl f8)), (wa, .inl (cI, 70, .inl nw))]) [1, 2, 3, 4, 5, 0] rfl
          have hD9 := hD.sub (ws' := [(g0, .inr (5, [.ref ra, .ref wa, .ref ta, .int kpt, .ref ma, .int mkd, .ref pa, .int (nI tn), .int (nI q8.1), .int (q8.2), .ref ba, .ref ka, .int t8, .ref fa, .ref qa, .ref ea, .ref za, .ref ya, .int wks])), (pa, .inl (cI, 96, .inl lt)), (ba, .inl (cC, 6, .inl bf)), (ka, .inl (cC, 5, .inl kf)), (fa, .inl (cI, 15, .inl f8)), (wa, .inl (cI, 70, .inl nw))]) [1, 2, 3, 4, 5, 0] (by decide) rfl
          exact W.iret (v := (-2000) - (nI p8.1)) hx hb hr (fun t ht hW => ⟨⟨_, (), rfl, (xJ2_f hE k5 w8 k2 et8 ef8 hq8.1 c_12 hF0).1, (nI q8.1 : Int32), (q8.2 : Int32), (t8 : Int32), (f8 : Nat → Int32), (nw : Nat → Int32), xJR_n hV hR hT (xJ2_f hE k5 w8 k2 et8 ef8 hq8.1 c_12 hF0).2, by rw [ht]; exact hP9, hD9⟩, hS.F ht⟩) hS.2.2 dX5_read_108
