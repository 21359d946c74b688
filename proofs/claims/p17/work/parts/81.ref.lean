set_option maxHeartbeats 4000000 in
set_option maxRecDepth 100000 in
theorem g_X5_read (l : Launch) (D : va_G) (cI cL cZ cC : ClassId) (sz : Nat) (g0 : Nat) (ra : Nat) (wa : Nat) (ta : Nat) (ma : Nat) (pa : Nat) (ba : Nat) (ka : Nat) (fa : Nat) (qa : Nat) (ea : Nat) (za : Nat) (ya : Nat) (kpt : Int32) (mkd : Int32) (at0 : Int32) (wel : Int32) (srt : Int32) (wks : Int32) (tn : Nat) (lt : Nat → Int32) (bf : Nat → Int32) (kf : Nat → Int32) (ff : Nat → Int32) (st : Nat) (ln : Nat) (nw : Nat → Int32) (htn : tn ≤ 96) (hV : xVd nw st ln) : Met l yX5_read wsX5_read ({ frames := 3, cells := 0, slots := 0, locals := 65 } : Room) (wPc D [.ref g0] [(g0, .inr (5, [.ref ra, .ref wa, .ref ta, .int kpt, .ref ma, .int mkd, .ref pa, .int (nI tn), .int at0, .int wel, .ref ba, .ref ka, .int srt, .ref fa, .ref qa, .ref ea, .ref za, .ref ya, .int wks])), (pa, .inl (cI, 96, .inl lt)), (ba, .inl (cC, 6, .inl bf)), (ka, .inl (cC, 5, .inl kf)), (fa, .inl (cI, 15, .inl ff)), (wa, .inl (cI, 70, .inl nw))] (xTy cI cL cZ cC) sz) (va_Qi (fun (r : Int32) (_ : Unit) => True) (fun (_ : Unit) t => ∃ a9 : Int32, ∃ w9 : Int32, ∃ s9 : Int32, ∃ ff9 : Nat → Int32, ∃ nw9 : Nat → Int32, ∃ st9 : Nat, ∃ ln9 : Nat, (xVd nw9 st9 ln9) ∧ va_P D vwCl [(g0, .inr (5, [.ref ra, .ref wa, .ref ta, .int kpt, .ref ma, .int mkd, .ref pa, .int (nI tn), .int a9, .int w9, .ref ba, .ref ka, .int s9, .ref fa, .ref qa, .ref ea, .ref za, .ref ya, .int wks])), (pa, .inl (cI, 96, .inl lt)), (ba, .inl (cC, 6, .inl bf)), (ka, .inl (cC, 5, .inl kf)), (fa, .inl (cI, 15, .inl ff9)), (wa, .inl (cI, 70, .inl nw9))] t.heap ∧ va_D (va_A [(g0, .inr (5, [.ref ra, .ref wa, .ref ta, .int kpt, .ref ma, .int mkd, .ref pa, .int (nI tn), .int at0, .int wel, .ref ba, .ref ka, .int srt, .ref fa, .ref qa, .ref ea, .ref za, .ref ya, .int wks])), (pa, .inl (cI, 96, .inl lt)), (ba, .inl (cC, 6, .inl bf)), (ka, .inl (cC, 5, .inl kf)), (fa, .inl (cI, 15, .inl ff)), (wa, .inl (cI, 70, .inl nw))] sz) [(g0, .inr (5, [.ref ra, .ref wa, .ref ta, .int kpt, .ref ma, .int mkd, .ref pa, .int (nI tn), .int a9, .int w9, .ref ba, .ref ka, .int s9, .ref fa, .ref qa, .ref ea, .ref za, .ref ya, .int wks])), (pa, .inl (cI, 96, .inl lt)), (ba, .inl (cC, 6, .inl bf)), (ka, .inl (cC, 5, .inl kf)), (fa, .inl (cI, 15, .inl ff9)), (wa, .inl (cI, 70, .inl nw9))]) (va_A [(g0, .inr (5, [.ref ra, .ref wa, .ref ta, .int kpt, .ref ma, .int mkd, .ref pa, .int (nI tn), .int at0, .int wel, .ref ba, .ref ka, .int srt, .ref fa, .ref qa, .ref ea, .ref za, .ref ya, .int wks])), (pa, .inl (cI, 96, .inl lt)), (ba, .inl (cC, 6, .inl bf)), (ka, .inl (cC, 5, .inl kf)), (fa, .inl (cI, 15, .inl ff)), (wa, .inl (cI, 70, .inl nw))] sz)) 0 0 (va_A [(g0, .inr (5, [.ref ra, .ref wa, .ref ta, .int kpt, .ref ma, .int mkd, .ref pa, .int (nI tn), .int at0, .int wel, .ref ba, .ref ka, .int srt, .ref fa, .ref qa, .ref ea, .ref za, .ref ya, .int wks])), (pa, .inl (cI, 96, .inl lt)), (ba, .inl (cC, 6, .inl bf)), (ka, .inl (cC, 5, .inl kf)), (fa, .inl (cI, 15, .inl ff)), (wa, .inl (cI, 70, .inl nw))] sz) := by
  refine Met.ofW (cc := cX5_read) (maxL := 5) (ret := (some .int)) (by decide) rfl ?_
  intro p e s m args below meth c s₁ B hml hv
  obtain ⟨rfl, hsz, hP, hK, hD0⟩ := hv
  have hx := B.exec
  have hb := B.bytes
  have hr := B.returns
  have hts := atoms_spec (ws := wsX5_read) B.pre
  have hown : s.vm.findClass RX5 = some m.cls := findClass_of_methodNamed B.named
  have hlocks := B.notSynchronized
  have hwX5 : ∀ w ∈ u_ws RX5 TX5 19, w ∈ wsX5_read := fun _ h => List.mem_cons_of_mem _ (List.mem_append_right _ h)
  subst hsz
  have hD := hD0.self (sz := s.heap.size)
  generalize hAe : va_A [(g0, .inr (5, [.ref ra, .ref wa, .ref ta, .int kpt, .ref ma, .int mkd, .ref pa, .int (nI tn), .int at0, .int wel, .ref ba, .ref ka, .int srt, .ref fa, .ref qa, .ref ea, .ref za, .ref ya, .int wks])), (pa, .inl (cI, 96, .inl lt)), (ba, .inl (cC, 6, .inl bf)), (ka, .inl (cC, 5, .inl kf)), (fa, .inl (cI, 15, .inl ff)), (wa, .inl (cI, 70, .inl nw))] s.heap.size = A at hD ⊢
  have hA : ∀ q : Nat, s.heap.size ≤ q → A q := fun q h => by rw [← hAe]; exact Or.inr h
  have hS : va_S A s.heap s.heap [] := va_S.rf
  have hP : va_P D vwCl [(g0, .inr (5, [.ref ra, .ref wa, .ref ta, .int kpt, .ref ma, .int mkd, .ref pa, .int (nI tn), .int at0, .int wel, .ref ba, .ref ka, .int srt, .ref fa, .ref qa, .ref ea, .ref za, .ref ya, .int wks])), (pa, .inl (cI, 96, .inl lt)), (ba, .inl (cC, 6, .inl bf)), (ka, .inl (cC, 5, .inl kf)), (fa, .inl (cI, 15, .inl ff)), (wa, .inl (cI, 70, .inl nw))] s.heap := hP
  have hl := lv_entry ([.ref g0]) (n := 5) (Nat.le_of_ble_eq_true rfl)
  rw [lg_entry_eq]
  generalize (lg_sl ([.ref g0]) ++ List.replicate (5 - (lg_sl ([.ref g0])).length) Slot.unset).toArray = ls at hl ⊢
  have hl : lv_has ls 5 [(0, .ref g0)] := hl
  refine lv_iconst (v := 0) hx hb dX5_read_0 (by decide) ?_
  refine lv_istore_n (lv' := [(1, .int 0), (0, .ref g0)]) hx hb dX5_read_1 rfl hl (by decide) rfl (fun ls hl => ?_)
  refine lv_aload_n hx hb dX5_read_2 rfl (lv_at hl 1 rfl) ?_
  refine lv_iconst (v := 0) hx hb dX5_read_3 (by decide) ?_
  refine va_put (D := D) (ci := 5) (v := .int 0) (ty := .int) (C := RX5) (T := TX5) (N := 19) hx hb hts hwX5 tyX5 tyX5_ok nmX5 hown hK hP hD hS 0 rfl rfl 8 (by decide) (hts (.fieldLink RX5 64 "WaitOrWalkOnModel" "at" "I") (by decide +kernel)) (fun _ h9 => h9) rfl (by decide +kernel) (by decide +kernel) rfl (Nat.le_of_ble_eq_true rfl) dX5_read_4 (fun H locs hP hD hS => ?_)
  have hP : va_P D vwCl [(g0, .inr (5, [.ref ra, .ref wa, .ref ta, .int kpt, .ref ma, .int mkd, .ref pa, .int (nI tn), .int 0, .int wel, .ref ba, .ref ka, .int srt, .ref fa, .ref qa, .ref ea, .ref za, .ref ya, .int wks])), (pa, .inl (cI, 96, .inl lt)), (ba, .inl (cC, 6, .inl bf)), (ka, .inl (cC, 5, .inl kf)), (fa, .inl (cI, 15, .inl ff)), (wa, .inl (cI, 70, .inl nw))] H := hP
  have hD : va_D A [(g0, .inr (5, [.ref ra, .ref wa, .ref ta, .int kpt, .ref ma, .int mkd, .ref pa, .int (nI tn), .int 0, .int wel, .ref ba, .ref ka, .int srt, .ref fa, .ref qa, .ref ea, .ref za, .ref ya, .int wks])), (pa, .inl (cI, 96, .inl lt)), (ba, .inl (cC, 6, .inl bf)), (ka, .inl (cC, 5, .inl kf)), (fa, .inl (cI, 15, .inl ff)), (wa, .inl (cI, 70, .inl nw))] := hD
  refine lv_aload_n hx hb dX5_read_7 rfl (lv_at hl 1 rfl) ?_
  refine lv_iconst (v := 1) hx hb dX5_read_8 (by decide) ?_
  refine va_put (D := D) (ci := 5) (v := .int 1) (ty := .boolean) (C := RX5) (T := TX5) (N := 19) hx hb hts hwX5 tyX5 tyX5_ok nmX5 hown hK hP hD hS 0 rfl rfl 9 (by decide) (hts (.fieldLink RX5 61 "WaitOrWalkOnModel" "well" "Z") (by decide +kernel)) (fun _ h9 => h9) rfl (by decide +kernel) (by decide +kernel) rfl (Nat.le_of_ble_eq_true rfl) dX5_read_9 (fun H locs hP hD hS => ?_)
  have hP : va_P D vwCl [(g0, .inr (5, [.ref ra, .ref wa, .ref ta, .int kpt, .ref ma, .int mkd, .ref pa, .int (nI tn), .int 0, .int 1, .ref ba, .ref ka, .int srt, .ref fa, .ref qa, .ref ea, .ref za, .ref ya, .int wks])), (pa, .inl (cI, 96, .inl lt)), (ba, .inl (cC, 6, .inl bf)), (ka, .inl (cC, 5, .inl kf)), (fa, .inl (cI, 15, .inl ff)), (wa, .inl (cI, 70, .inl nw))] H := hP
  have hD : va_D A [(g0, .inr (5, [.ref ra, .ref wa, .ref ta, .int kpt, .ref ma, .int mkd, .ref pa, .int (nI tn), .int 0, .int 1, .ref ba, .ref ka, .int srt, .ref fa, .ref qa, .ref ea, .ref za, .ref ya, .int wks])), (pa, .inl (cI, 96, .inl lt)), (ba, .inl (cC, 6, .inl bf)), (ka, .inl (cC, 5, .inl kf)), (fa, .inl (cI, 15, .inl ff)), (wa, .inl (cI, 70, .inl nw))] := hD
  refine xl_loopH (σ := Nat × (Nat × Int32) × Int32 × (Nat → Int32)) (fun n q H locs ls => lv_has ls 5 [(1, .int (nI q.1)), (0, .ref g0)] ∧ va_P D vwCl [(g0, .inr (5, [.ref ra, .ref wa, .ref ta, .int kpt, .ref ma, .int mkd, .ref pa, .int (nI tn), .int (nI q.2.1.1), .int q.2.1.2, .ref ba, .ref ka, .int q.2.2.1, .ref fa, .ref qa, .ref ea, .ref za, .ref ya, .int wks])), (pa, .inl (cI, 96, .inl lt)), (ba, .inl (cC, 6, .inl bf)), (ka, .inl (cC, 5, .inl kf)), (fa, .inl (cI, 15, .inl q.2.2.2)), (wa, .inl (cI, 70, .inl nw))] H ∧ va_D A [(g0, .inr (5, [.ref ra, .ref wa, .ref ta, .int kpt, .ref ma, .int mkd, .ref pa, .int (nI tn), .int (nI q.2.1.1), .int q.2.1.2, .ref ba, .ref ka, .int q.2.2.1, .ref fa, .ref qa, .ref ea, .ref za, .ref ya, .int wks])), (pa, .inl (cI, 96, .inl lt)), (ba, .inl (cC, 6, .inl bf)), (ka, .inl (cC, 5, .inl kf)), (fa, .inl (cI, 15, .inl q.2.2.2)), (wa, .inl (cI, 70, .inl nw))] ∧ va_S A s.heap H locs ∧ (tn + 1 - q.2.1.1 < n) ∧ (q.2.1.1 ≤ tn) ∧ (q.2.1.2 = 1) ∧ (∀ v, xGd lt tn bf kf v q.2.1 → xGd lt tn bf kf (v + q.1) (0, 1))) (tn + 2) (0, (0, 1), srt, ff) ⟨lv_sub hl [0, 1] rfl, hP.sub [0, 1, 2, 3, 4, 5] rfl, hD.sub [0, 1, 2, 3, 4, 5] (by decide) rfl, hS, by (try dsimp only); exact ⟨by omega, by omega, rfl, fun v h => h⟩⟩ (fun q H lc ls h => absurd h.2.2.2.2.1 (Nat.not_lt_zero _)) ?_
  intro n_12 q_12 H locs ls ih_12 hI_12
  obtain ⟨hl, hP, hD, hS, hI_12⟩ := hI_12
  obtain ⟨i, p9, s9, g9⟩ := q_12
  obtain ⟨h1, h2, h3, h4⟩ := hI_12
  try dsimp only at hl hP hD h1 h2 h3 h4
  refine lv_aload_n hx hb dX5_read_12 rfl (lv_at hl 1 rfl) ?_
  have hPc := hP.sub (ws' := [(g0, .inr (5, [.ref ra, .ref wa, .ref ta, .int kpt, .ref ma, .int mkd, .ref pa, .int (nI tn), .int (nI p9.1), .int p9.2, .ref ba, .ref ka, .int s9, .ref fa, .ref qa, .ref ea, .ref za, .ref ya, .int wks])), (pa, .inl (cI, 96, .inl lt)), (ba, .inl (cC, 6, .inl bf)), (ka, .inl (cC, 5, .inl kf)), (fa, .inl (cI, 15, .inl g9))]) [0, 1, 2, 3, 4] rfl
  have hDc := hD.sub (ws' := [(g0, .inr (5, [.ref ra, .ref wa, .ref ta, .int kpt, .ref ma, .int mkd, .ref pa, .int (nI tn), .int (nI p9.1), .int p9.2, .ref ba, .ref ka, .int s9, .ref fa, .ref qa, .ref ea, .ref za, .ref ya, .int wks])), (pa, .inl (cI, 96, .inl lt)), (ba, .inl (cC, 6, .inl bf)), (ka, .inl (cC, 5, .inl kf)), (fa, .inl (cI, 15, .inl g9))]) [0, 1, 2, 3, 4] (by decide) rfl
  have hFc := va_free (wc := [(g0, .inr (5, [.ref ra, .ref wa, .ref ta, .int kpt, .ref ma, .int mkd, .ref pa, .int (nI tn), .int (nI p9.1), .int p9.2, .ref ba, .ref ka, .int s9, .ref fa, .ref qa, .ref ea, .ref za, .ref ya, .int wks])), (pa, .inl (cI, 96, .inl lt)), (ba, .inl (cC, 6, .inl bf)), (ka, .inl (cC, 5, .inl kf)), (fa, .inl (cI, 15, .inl g9))]) hD hS hA [0, 1, 2, 3, 4] rfl
  refine va_callv (va_runV (As := []) (rest := []) ⟨hx, hb, hml, hown, hts⟩ (g_X5_statement l D cI cL cZ cC _ g0 ra wa ta ma pa ba ka fa qa ea za ya kpt mkd s9 wks tn p9 lt bf kf g9 (htn) (h2)) (cwV 0 hts gX5_read_X5_statement rfl rfl rfl (by decide +kernel) ⟨Nat.le_of_ble_eq_true rfl, Nat.le_of_ble_eq_true rfl⟩) ⟨wPc_bl, va_recv hK hPc (ci := 5) (q0 := 0) rfl rfl, wPc_use hPc hK hDc⟩ rfl rfl hl.1 rfl (lv_room (Nat.le_of_ble_eq_true rfl)) dX5_read_13 ⟨Nat.le_of_ble_eq_true rfl, Nat.le_of_ble_eq_true rfl⟩) hS (fun q _ h => hFc q h) hFc (fun u_1 t H1 locs ht hvm hw hB hz1 hk1 hS => ?_)
  obtain ⟨hP1, hD1⟩ := hB
  rw [ht] at hP1
  obtain ⟨hP, hD⟩ := va_join (wr := [(wa, .inl (cI, 70, .inl nw))]) (w1 := [(g0, .inr (5, [.ref ra, .ref wa, .ref ta, .int kpt, .ref ma, .int mkd, .ref pa, .int (nI tn), .int (nI (xSp lt tn bf kf p9).1), .int ((xSp lt tn bf kf p9).2), .ref ba, .ref ka, .int (xSs lt tn bf p9), .ref fa, .ref qa, .ref ea, .ref za, .ref ya, .int wks])), (pa, .inl (cI, 96, .inl lt)), (ba, .inl (cC, 6, .inl bf)), (ka, .inl (cC, 5, .inl kf)), (fa, .inl (cI, 15, .inl (xSf lt tn bf kf g9 p9)))]) hP hD [0, 1, 2, 3, 4] [5] rfl rfl (by decide) (by decide) hk1 hFc hP1 hD1
  generalize H1 = H at hP hS ⊢
  have hP : va_P D vwCl [(wa, .inl (cI, 70, .inl nw)), (g0, .inr (5, [.ref ra, .ref wa, .ref ta, .int kpt, .ref ma, .int mkd, .ref pa, .int (nI tn), .int (nI (xSp lt tn bf kf p9).1), .int ((xSp lt tn bf kf p9).2), .ref ba, .ref ka, .int (xSs lt tn bf p9), .ref fa, .ref qa, .ref ea, .ref za, .ref ya, .int wks])), (pa, .inl (cI, 96, .inl lt)), (ba, .inl (cC, 6, .inl bf)), (ka, .inl (cC, 5, .inl kf)), (fa, .inl (cI, 15, .inl (xSf lt tn bf kf g9 p9)))] H := hP
  have hD : va_D A [(wa, .inl (cI, 70, .inl nw)), (g0, .inr (5, [.ref ra, .ref wa, .ref ta, .int kpt, .ref ma, .int mkd, .ref pa, .int (nI tn), .int (nI (xSp lt tn bf kf p9).1), .int ((xSp lt tn bf kf p9).2), .ref ba, .ref ka, .int (xSs lt tn bf p9), .ref fa, .ref qa, .ref ea, .ref za, .ref ya, .int wks])), (pa, .inl (cI, 96, .inl lt)), (ba, .inl (cC, 6, .inl bf)), (ka, .inl (cC, 5, .inl kf)), (fa, .inl (cI, 15, .inl (xSf lt tn bf kf g9 p9)))] := hD
  obtain ⟨q9, eq9⟩ : ∃ z : Nat × Int32, xSp lt tn bf kf p9 = z := ⟨_, rfl⟩
  obtain ⟨t9, et9⟩ : ∃ z : Int32, xSs lt tn bf p9 = z := ⟨_, rfl⟩
  obtain ⟨f9, ef9⟩ : ∃ z : Nat → Int32, xSf lt tn bf kf g9 p9 = z := ⟨_, rfl⟩
  rw [eq9, et9, ef9] at hP hD
  have hP : va_P D vwCl [(wa, .inl (cI, 70, .inl nw)), (g0, .inr (5, [.ref ra, .ref wa, .ref ta, .int kpt, .ref ma, .int mkd, .ref pa, .int (nI tn), .int (nI q9.1), .int (q9.2), .ref ba, .ref ka, .int t9, .ref fa, .ref qa, .ref ea, .ref za, .ref ya, .int wks])), (pa, .inl (cI, 96, .inl lt)), (ba, .inl (cC, 6, .inl bf)), (ka, .inl (cC, 5, .inl kf)), (fa, .inl (cI, 15, .inl f9))] H := hP
  have hD : va_D A [(wa, .inl (cI, 70, .inl nw)), (g0, .inr (5, [.ref ra, .ref wa, .ref ta, .int kpt, .ref ma, .int mkd, .ref pa, .int (nI tn), .int (nI q9.1), .int (q9.2), .ref ba, .ref ka, .int t9, .ref fa, .ref qa, .ref ea, .ref za, .ref ya, .int wks])), (pa, .inl (cI, 96, .inl lt)), (ba, .inl (cC, 6, .inl bf)), (ka, .inl (cC, 5, .inl kf)), (fa, .inl (cI, 15, .inl f9))] := hD
  have hle := xSp_le (lt := lt) (bf := bf) (kf := kf) h2
  rw [eq9] at hle
  refine lv_iinc (v := nI (i + 1)) (lv' := [(1, .int (nI (i + 1))), (0, .ref g0)]) hx hb dX5_read_16 hl (k := 0) rfl (nI_1 i) (by decide) rfl (fun ls hl => ?_)
  refine lv_aload_n hx hb dX5_read_19 rfl (lv_at hl 1 rfl) ?_
  refine va_get (D := D) (ci := 5) (v := .int (q9.2)) (C := RX5) (T := TX5) (N := 19) hx hb hts hwX5 hown hK hP 1 rfl rfl 9 (by decide) (hts (.fieldLink RX5 61 "WaitOrWalkOnModel" "well" "Z") (by decide +kernel)) (fun _ h9 => h9) rfl dX5_read_20 ?_
  refine lv_if_eq (tgt := 37) hx hb dX5_read_23 (by decide) (fun c_2 => ?_) (fun c_2 => ?_)
  · refine lv_aload_n hx hb dX5_read_37 rfl (lv_at hl 1 rfl) ?_
    refine va_get (D := D) (ci := 5) (v := .int (q9.2)) (C := RX5) (T := TX5) (N := 19) hx hb hts hwX5 hown hK hP 1 rfl rfl 9 (by decide) (hts (.fieldLink RX5 61 "WaitOrWalkOnModel" "well" "Z") (by decide +kernel)) (fun _ h9 => h9) rfl dX5_read_38 ?_
    refine lv_if_ne (tgt := 53) hx hb dX5_read_41 (by decide) (fun c_3 => absurd c_2 c_3) (fun c_3 => ?_)
    refine lv_sipush (v := -1000) hx hb dX5_read_44 (by decide) ?_
    refine lv_aload_n hx hb dX5_read_47 rfl (lv_at hl 1 rfl) ?_
    refine va_get (D := D) (ci := 5) (v := .int (nI q9.1)) (C := RX5) (T := TX5) (N := 19) hx hb hts hwX5 hown hK hP 1 rfl rfl 8 (by decide) (hts (.fieldLink RX5 64 "WaitOrWalkOnModel" "at" "I") (by decide +kernel)) (fun _ h9 => h9) rfl dX5_read_48 ?_
    refine lv_isub hx hb dX5_read_51 ?_
    have hP9 := hP.sub (ws' := [(g0, .inr (5, [.ref ra, .ref wa, .ref ta, .int kpt, .ref ma, .int mkd, .ref pa, .int (nI tn), .int (nI q9.1), .int (q9.2), .ref ba, .ref ka, .int t9, .ref fa, .ref qa, .ref ea, .ref za, .ref ya, .int wks])), (pa, .inl (cI, 96, .inl lt)), (ba, .inl (cC, 6, .inl bf)), (ka, .inl (cC, 5, .inl kf)), (fa, .inl (cI, 15, .inl f9)), (wa, .inl (cI, 70, .inl nw))]) [1, 2, 3, 4, 5, 0] rfl
    have hD9 := hD.sub (ws' := [(g0, .inr (5, [.ref ra, .ref wa, .ref ta, .int kpt, .ref ma, .int mkd, .ref pa, .int (nI tn), .int (nI q9.1), .int (q9.2), .ref ba, .ref ka, .int t9, .ref fa, .ref qa, .ref ea, .ref za, .ref ya, .int wks])), (pa, .inl (cI, 96, .inl lt)), (ba, .inl (cC, 6, .inl bf)), (ka, .inl (cC, 5, .inl kf)), (fa, .inl (cI, 15, .inl f9)), (wa, .inl (cI, 70, .inl nw))]) [1, 2, 3, 4, 5, 0] (by decide) rfl
    exact W.iret (v := (-1000) - (nI q9.1)) hx hb hr (fun t ht hW => ⟨⟨_, (), rfl, trivial, (nI q9.1 : Int32), (q9.2 : Int32), (t9 : Int32), (f9 : Nat → Int32), (nw : Nat → Int32), (st : Nat), (ln : Nat), hV, by rw [ht]; exact hP9, hD9⟩, hS.F ht⟩) hS.2.2 dX5_read_52
  · refine lv_aload_n hx hb dX5_read_26 rfl (lv_at hl 1 rfl) ?_
    refine va_get (D := D) (ci := 5) (v := .int (nI q9.1)) (C := RX5) (T := TX5) (N := 19) hx hb hts hwX5 hown hK hP 1 rfl rfl 8 (by decide) (hts (.fieldLink RX5 64 "WaitOrWalkOnModel" "at" "I") (by decide +kernel)) (fun _ h9 => h9) rfl dX5_read_27 ?_
    refine lv_aload_n hx hb dX5_read_30 rfl (lv_at hl 1 rfl) ?_
    refine va_get (D := D) (ci := 5) (v := .int (nI tn)) (C := RX5) (T := TX5) (N := 19) hx hb hts hwX5 hown hK hP 1 rfl rfl 7 (by decide) (hts (.fieldLink RX5 57 "WaitOrWalkOnModel" "taped" "I") (by decide +kernel)) (fun _ h9 => h9) rfl dX5_read_31 ?_
    refine lv_icmp_lt (tgt := 12) hx hb dX5_read_34 (by decide) (fun c_4 => ?_) (fun c_4 => ?_)
    · have hh : ¬ (xSp lt tn bf kf p9).2 = 0 := by rw [eq9]; exact c_2
      have ha := xSp_adv hh
      rw [eq9] at ha
      have w := (nI_ltI (a := q9.1) (b := tn) (by omega) (by omega)).mp c_4
      have hs : ∀ v, xGd lt tn bf kf v q9 → xGd lt tn bf kf (v + (i + 1)) (0, 1) := fun v hv => by have w9 := h4 (v + 1) (fun _ => ⟨hh, by rw [eq9]; exact hv⟩); rw [show v + (i + 1) = v + 1 + i by omega]; exact w9
      exact ih_12 (i + 1, q9, t9, f9) _ _ _ ⟨lv_sub hl [0, 1] rfl, hP.sub [1, 2, 3, 4, 5, 0] rfl, hD.sub [1, 2, 3, 4, 5, 0] (by decide) rfl, hS, by (try dsimp only); exact ⟨by omega, ha.2.2, ha.2.1, hs⟩⟩
    · refine lv_aload_n hx hb dX5_read_37 rfl (lv_at hl 1 rfl) ?_
      refine va_get (D := D) (ci := 5) (v := .int (q9.2)) (C := RX5) (T := TX5) (N := 19) hx hb hts hwX5 hown hK hP 1 rfl rfl 9 (by decide) (hts (.fieldLink RX5 61 "WaitOrWalkOnModel" "well" "Z") (by decide +kernel)) (fun _ h9 => h9) rfl dX5_read_38 ?_
      refine lv_if_ne (tgt := 53) hx hb dX5_read_41 (by decide) (fun c_5 => ?_) (fun c_5 => absurd c_5 c_2)
      have hh : ¬ (xSp lt tn bf kf p9).2 = 0 := by rw [eq9]; exact c_5
      have ha := xSp_adv hh
      rw [eq9] at ha
      have hg0 : xGd lt tn bf kf (1 + i) (0, 1) := h4 1 (fun _ => ⟨hh, by rw [eq9]; exact mt (nI_ltI (a := q9.1) (b := tn) (by omega) (by omega)).mpr c_4⟩)
      rw [ha.2.1] at hP hD
      have hP : va_P D vwCl [(wa, .inl (cI, 70, .inl nw)), (g0, .inr (5, [.ref ra, .ref wa, .ref ta, .int kpt, .ref ma, .int mkd, .ref pa, .int (nI tn), .int (nI q9.1), .int 1, .ref ba, .ref ka, .int t9, .ref fa, .ref qa, .ref ea, .ref za, .ref ya, .int wks])), (pa, .inl (cI, 96, .inl lt)), (ba, .inl (cC, 6, .inl bf)), (ka, .inl (cC, 5, .inl kf)), (fa, .inl (cI, 15, .inl f9))] H := hP
      have hD : va_D A [(wa, .inl (cI, 70, .inl nw)), (g0, .inr (5, [.ref ra, .ref wa, .ref ta, .int kpt, .ref ma, .int mkd, .ref pa, .int (nI tn), .int (nI q9.1), .int 1, .ref ba, .ref ka, .int t9, .ref fa, .ref qa, .ref ea, .ref za, .ref ya, .int wks])), (pa, .inl (cI, 96, .inl lt)), (ba, .inl (cC, 6, .inl bf)), (ka, .inl (cC, 5, .inl kf)), (fa, .inl (cI, 15, .inl f9))] := hD
      refine lv_aload_n hx hb dX5_read_53 rfl (lv_at hl 1 rfl) ?_
      refine lv_iconst (v := 0) hx hb dX5_read_54 (by decide) ?_
      refine va_put (D := D) (ci := 5) (v := .int 0) (ty := .int) (C := RX5) (T := TX5) (N := 19) hx hb hts hwX5 tyX5 tyX5_ok nmX5 hown hK hP hD hS 1 rfl rfl 8 (by decide) (hts (.fieldLink RX5 64 "WaitOrWalkOnModel" "at" "I") (by decide +kernel)) (fun _ h9 => h9) rfl (by decide +kernel) (by decide +kernel) rfl (Nat.le_of_ble_eq_true rfl) dX5_read_55 (fun H locs hP hD hS => ?_)
      have hP : va_P D vwCl [(wa, .inl (cI, 70, .inl nw)), (g0, .inr (5, [.ref ra, .ref wa, .ref ta, .int kpt, .ref ma, .int mkd, .ref pa, .int (nI tn), .int 0, .int 1, .ref ba, .ref ka, .int t9, .ref fa, .ref qa, .ref ea, .ref za, .ref ya, .int wks])), (pa, .inl (cI, 96, .inl lt)), (ba, .inl (cC, 6, .inl bf)), (ka, .inl (cC, 5, .inl kf)), (fa, .inl (cI, 15, .inl f9))] H := hP
      have hD : va_D A [(wa, .inl (cI, 70, .inl nw)), (g0, .inr (5, [.ref ra, .ref wa, .ref ta, .int kpt, .ref ma, .int mkd, .ref pa, .int (nI tn), .int 0, .int 1, .ref ba, .ref ka, .int t9, .ref fa, .ref qa, .ref ea, .ref za, .ref ya, .int wks])), (pa, .inl (cI, 96, .inl lt)), (ba, .inl (cC, 6, .inl bf)), (ka, .inl (cC, 5, .inl kf)), (fa, .inl (cI, 15, .inl f9))] := hD
      refine lv_aload_n hx hb dX5_read_58 rfl (lv_at hl 1 rfl) ?_
      refine va_get (D := D) (ci := 5) (v := .ref wa) (C := RX5) (T := TX5) (N := 19) hx hb hts hwX5 hown hK hP 1 rfl rfl 1 (by decide) (hts (.fieldLink RX5 19 "WaitOrWalkOnModel" "now" "[I") (by decide +kernel)) (fun _ h9 => h9) rfl dX5_read_59 ?_
      refine lv_iconst (v := 0) hx hb dX5_read_62 (by decide) ?_
      refine va_iald (D := D) hx hb hK hP 0 0 rfl rfl (by unfold vp_in; decide +kernel) dX5_read_63 ?_
      refine xv_int (y := nw 0) rfl ?_
      refine lv_istore_n (lv' := [(2, .int (nw 0)), (1, .int (nI (i + 1))), (0, .ref g0)]) hx hb dX5_read_64 rfl hl (by decide) rfl (fun ls hl => ?_)
      refine lv_aload_n hx hb dX5_read_65 rfl (lv_at hl 2 rfl) ?_
      refine va_get (D := D) (ci := 5) (v := .ref wa) (C := RX5) (T := TX5) (N := 19) hx hb hts hwX5 hown hK hP 1 rfl rfl 1 (by decide) (hts (.fieldLink RX5 19 "WaitOrWalkOnModel" "now" "[I") (by decide +kernel)) (fun _ h9 => h9) rfl dX5_read_66 ?_
      refine lv_iconst (v := 3) hx hb dX5_read_69 (by decide) ?_
      refine va_iald (D := D) hx hb hK hP 0 0 rfl rfl (by unfold vp_in; decide +kernel) dX5_read_70 ?_
      refine xv_int (y := nw 3) rfl ?_
      refine lv_istore_n (lv' := [(3, .int (nw 3)), (2, .int (nw 0)), (1, .int (nI (i + 1))), (0, .ref g0)]) hx hb dX5_read_71 rfl hl (by decide) rfl (fun ls hl => ?_)
      refine xl_loopH (σ := Nat × Nat × (Nat × Int32) × Int32 × (Nat → Int32) × Int32 × Int32) (fun n q H locs ls => lv_has ls 5 [(3, .int q.2.2.2.2.2.2), (2, .int q.2.2.2.2.2.1), (1, .int (nI (i + 1))), (0, .ref g0)] ∧ va_P D vwCl [(wa, .inl (cI, 70, .inl nw)), (g0, .inr (5, [.ref ra, .ref wa, .ref ta, .int kpt, .ref ma, .int mkd, .ref pa, .int (nI tn), .int (nI q.2.2.1.1), .int q.2.2.1.2, .ref ba, .ref ka, .int q.2.2.2.1, .ref fa, .ref qa, .ref ea, .ref za, .ref ya, .int wks])), (pa, .inl (cI, 96, .inl lt)), (ba, .inl (cC, 6, .inl bf)), (ka, .inl (cC, 5, .inl kf)), (fa, .inl (cI, 15, .inl q.2.2.2.2.1))] H ∧ va_D A [(wa, .inl (cI, 70, .inl nw)), (g0, .inr (5, [.ref ra, .ref wa, .ref ta, .int kpt, .ref ma, .int mkd, .ref pa, .int (nI tn), .int (nI q.2.2.1.1), .int q.2.2.1.2, .ref ba, .ref ka, .int q.2.2.2.1, .ref fa, .ref qa, .ref ea, .ref za, .ref ya, .int wks])), (pa, .inl (cI, 96, .inl lt)), (ba, .inl (cC, 6, .inl bf)), (ka, .inl (cC, 5, .inl kf)), (fa, .inl (cI, 15, .inl q.2.2.2.2.1))] ∧ va_S A s.heap H locs ∧ (q.1 < n) ∧ (q.2.2.1.1 ≤ tn) ∧ (q.2.2.1.2 = 1) ∧ (xGd lt tn bf kf q.1 q.2.2.1) ∧ (∀ v, xVl lt tn bf kf v q.2.2.1 q.2.2.2.2.2.1 q.2.2.2.2.2.2 → xVl lt tn bf kf (v + q.2.1) (0, 1) (nw 0) (nw 3))) (2 + i) (1 + i, 0, (0, 1), t9, f9, nw 0, nw 3) ⟨lv_sub hl [0, 1, 2, 3] rfl, hP.sub [0, 1, 2, 3, 4, 5] rfl, hD.sub [0, 1, 2, 3, 4, 5] (by decide) rfl, hS, by (try dsimp only); exact ⟨by omega, by omega, rfl, hg0, fun v h => h⟩⟩ (fun q H lc ls h => absurd h.2.2.2.2.1 (Nat.not_lt_zero _)) ?_
      intro n_72 q_72 H locs ls ih_72 hI_72
      obtain ⟨hl, hP, hD, hS, hI_72⟩ := hI_72
      obtain ⟨u8, c8, p8, s8, g8, s1, l1⟩ := q_72
      obtain ⟨k0, k1, k2, k3, k4⟩ := hI_72
      try dsimp only at hl hP hD k0 k1 k2 k3 k4
      refine lv_aload_n hx hb dX5_read_72 rfl (lv_at hl 3 rfl) ?_
      refine va_get (D := D) (ci := 5) (v := .int (nI p8.1)) (C := RX5) (T := TX5) (N := 19) hx hb hts hwX5 hown hK hP 1 rfl rfl 8 (by decide) (hts (.fieldLink RX5 64 "WaitOrWalkOnModel" "at" "I") (by decide +kernel)) (fun _ h9 => h9) rfl dX5_read_73 ?_
      refine lv_aload_n hx hb dX5_read_76 rfl (lv_at hl 3 rfl) ?_
      refine va_get (D := D) (ci := 5) (v := .int (nI tn)) (C := RX5) (T := TX5) (N := 19) hx hb hts hwX5 hown hK hP 1 rfl rfl 7 (by decide) (hts (.fieldLink RX5 57 "WaitOrWalkOnModel" "taped" "I") (by decide +kernel)) (fun _ h9 => h9) rfl dX5_read_77 ?_
      refine lv_icmp_ge (tgt := 143) hx hb dX5_read_80 (by decide) (fun c_6 => ?_) (fun c_6 => ?_)
      · have hv0 := k4 0 (mt (nI_ltI (a := p8.1) (b := tn) (by omega) (by omega)).mpr (Int32.not_lt.mpr c_6))
        rw [hV.1.1, hV.2.1.1] at hv0
        rw [k2] at hP hD
        have hP : va_P D vwCl [(wa, .inl (cI, 70, .inl nw)), (g0, .inr (5, [.ref ra, .ref wa, .ref ta, .int kpt, .ref ma, .int mkd, .ref pa, .int (nI tn), .int (nI p8.1), .int 1, .ref ba, .ref ka, .int s8, .ref fa, .ref qa, .ref ea, .ref za, .ref ya, .int wks])), (pa, .inl (cI, 96, .inl lt)), (ba, .inl (cC, 6, .inl bf)), (ka, .inl (cC, 5, .inl kf)), (fa, .inl (cI, 15, .inl g8))] H := hP
        have hD : va_D A [(wa, .inl (cI, 70, .inl nw)), (g0, .inr (5, [.ref ra, .ref wa, .ref ta, .int kpt, .ref ma, .int mkd, .ref pa, .int (nI tn), .int (nI p8.1), .int 1, .ref ba, .ref ka, .int s8, .ref fa, .ref qa, .ref ea, .ref za, .ref ya, .int wks])), (pa, .inl (cI, 96, .inl lt)), (ba, .inl (cC, 6, .inl bf)), (ka, .inl (cC, 5, .inl kf)), (fa, .inl (cI, 15, .inl g8))] := hD
        refine lv_aload_n hx hb dX5_read_143 rfl (lv_at hl 3 rfl) ?_
        refine lv_iconst (v := 0) hx hb dX5_read_144 (by decide) ?_
        refine va_put (D := D) (ci := 5) (v := .int 0) (ty := .int) (C := RX5) (T := TX5) (N := 19) hx hb hts hwX5 tyX5 tyX5_ok nmX5 hown hK hP hD hS 1 rfl rfl 8 (by decide) (hts (.fieldLink RX5 64 "WaitOrWalkOnModel" "at" "I") (by decide +kernel)) (fun _ h9 => h9) rfl (by decide +kernel) (by decide +kernel) rfl (Nat.le_of_ble_eq_true rfl) dX5_read_145 (fun H locs hP hD hS => ?_)
        have hP : va_P D vwCl [(wa, .inl (cI, 70, .inl nw)), (g0, .inr (5, [.ref ra, .ref wa, .ref ta, .int kpt, .ref ma, .int mkd, .ref pa, .int (nI tn), .int 0, .int 1, .ref ba, .ref ka, .int s8, .ref fa, .ref qa, .ref ea, .ref za, .ref ya, .int wks])), (pa, .inl (cI, 96, .inl lt)), (ba, .inl (cC, 6, .inl bf)), (ka, .inl (cC, 5, .inl kf)), (fa, .inl (cI, 15, .inl g8))] H := hP
        have hD : va_D A [(wa, .inl (cI, 70, .inl nw)), (g0, .inr (5, [.ref ra, .ref wa, .ref ta, .int kpt, .ref ma, .int mkd, .ref pa, .int (nI tn), .int 0, .int 1, .ref ba, .ref ka, .int s8, .ref fa, .ref qa, .ref ea, .ref za, .ref ya, .int wks])), (pa, .inl (cI, 96, .inl lt)), (ba, .inl (cC, 6, .inl bf)), (ka, .inl (cC, 5, .inl kf)), (fa, .inl (cI, 15, .inl g8))] := hD
        refine xl_loopH (σ := Nat × (Nat × Int32) × Int32 × (Nat → Int32) × (Nat → Int32) × Nat × Nat) (fun n q H locs ls => lv_has ls 5 [(1, .int (nI (i + 1))), (0, .ref g0)] ∧ va_P D vwCl [(wa, .inl (cI, 70, .inl q.2.2.2.2.1)), (g0, .inr (5, [.ref ra, .ref wa, .ref ta, .int kpt, .ref ma, .int mkd, .ref pa, .int (nI tn), .int (nI q.2.1.1), .int q.2.1.2, .ref ba, .ref ka, .int q.2.2.1, .ref fa, .ref qa, .ref ea, .ref za, .ref ya, .int wks])), (pa, .inl (cI, 96, .inl lt)), (ba, .inl (cC, 6, .inl bf)), (ka, .inl (cC, 5, .inl kf)), (fa, .inl (cI, 15, .inl q.2.2.2.1))] H ∧ va_D A [(wa, .inl (cI, 70, .inl q.2.2.2.2.1)), (g0, .inr (5, [.ref ra, .ref wa, .ref ta, .int kpt, .ref ma, .int mkd, .ref pa, .int (nI tn), .int (nI q.2.1.1), .int q.2.1.2, .ref ba, .ref ka, .int q.2.2.1, .ref fa, .ref qa, .ref ea, .ref za, .ref ya, .int wks])), (pa, .inl (cI, 96, .inl lt)), (ba, .inl (cC, 6, .inl bf)), (ka, .inl (cC, 5, .inl kf)), (fa, .inl (cI, 15, .inl q.2.2.2.1))] ∧ va_S A s.heap H locs ∧ (q.1 < n) ∧ (q.2.1.1 ≤ tn) ∧ (q.2.1.2 = 1) ∧ (xVl lt tn bf kf q.1 q.2.1 (nI q.2.2.2.2.2.1) (nI q.2.2.2.2.2.2)) ∧ (xVd q.2.2.2.2.1 q.2.2.2.2.2.1 q.2.2.2.2.2.2)) (1 + (0 + c8)) (0 + c8, (0, 1), s8, g8, nw, st, ln) ⟨lv_sub hl [2, 3] rfl, hP.sub [0, 1, 2, 3, 4, 5] rfl, hD.sub [0, 1, 2, 3, 4, 5] (by decide) rfl, hS, by (try dsimp only); exact ⟨by omega, by omega, rfl, hv0, hV⟩⟩ (fun q H lc ls h => absurd h.2.2.2.2.1 (Nat.not_lt_zero _)) ?_
        intro n_148 q_148 H locs ls ih_148 hI_148
        obtain ⟨hl, hP, hD, hS, hI_148⟩ := hI_148
        obtain ⟨u7, p7, s7, g7, nw7, st7, ln7⟩ := q_148
        obtain ⟨o0, o1, o2, o3, o4⟩ := hI_148
        try dsimp only at hl hP hD o0 o1 o2 o3 o4
        refine lv_aload_n hx hb dX5_read_148 rfl (lv_at hl 1 rfl) ?_
        refine va_get (D := D) (ci := 5) (v := .int (nI p7.1)) (C := RX5) (T := TX5) (N := 19) hx hb hts hwX5 hown hK hP 1 rfl rfl 8 (by decide) (hts (.fieldLink RX5 64 "WaitOrWalkOnModel" "at" "I") (by decide +kernel)) (fun _ h9 => h9) rfl dX5_read_149 ?_
        refine lv_aload_n hx hb dX5_read_152 rfl (lv_at hl 1 rfl) ?_
        refine va_get (D := D) (ci := 5) (v := .int (nI tn)) (C := RX5) (T := TX5) (N := 19) hx hb hts hwX5 hown hK hP 1 rfl rfl 7 (by decide) (hts (.fieldLink RX5 57 "WaitOrWalkOnModel" "taped" "I") (by decide +kernel)) (fun _ h9 => h9) rfl dX5_read_153 ?_
        refine lv_icmp_ge (tgt := 170) hx hb dX5_read_156 (by decide) (fun c_7 => ?_) (fun c_7 => ?_)
        · refine lv_iload_n hx hb dX5_read_170 rfl (lv_at hl 0 rfl) ?_
          have hP9 := hP.sub (ws' := [(g0, .inr (5, [.ref ra, .ref wa, .ref ta, .int kpt, .ref ma, .int mkd, .ref pa, .int (nI tn), .int (nI p7.1), .int p7.2, .ref ba, .ref ka, .int s7, .ref fa, .ref qa, .ref ea, .ref za, .ref ya, .int wks])), (pa, .inl (cI, 96, .inl lt)), (ba, .inl (cC, 6, .inl bf)), (ka, .inl (cC, 5, .inl kf)), (fa, .inl (cI, 15, .inl g7)), (wa, .inl (cI, 70, .inl nw7))]) [1, 2, 3, 4, 5, 0] rfl
          have hD9 := hD.sub (ws' := [(g0, .inr (5, [.ref ra, .ref wa, .ref ta, .int kpt, .ref ma, .int mkd, .ref pa, .int (nI tn), .int (nI p7.1), .int p7.2, .ref ba, .ref ka, .int s7, .ref fa, .ref qa, .ref ea, .ref za, .ref ya, .int wks])), (pa, .inl (cI, 96, .inl lt)), (ba, .inl (cC, 6, .inl bf)), (ka, .inl (cC, 5, .inl kf)), (fa, .inl (cI, 15, .inl g7)), (wa, .inl (cI, 70, .inl nw7))]) [1, 2, 3, 4, 5, 0] (by decide) rfl
          exact W.iret (v := nI (i + 1)) hx hb hr (fun t ht hW => ⟨⟨_, (), rfl, trivial, (nI p7.1 : Int32), (p7.2 : Int32), (s7 : Int32), (g7 : Nat → Int32), (nw7 : Nat → Int32), (st7 : Nat), (ln7 : Nat), o4, by rw [ht]; exact hP9, hD9⟩, hS.F ht⟩) hS.2.2 dX5_read_171
        · have w7 := (nI_ltI (a := p7.1) (b := tn) (by omega) (by omega)).mp (Int32.not_le.mp c_7)
          obtain ⟨v7, rfl, hq7⟩ := xVl_s o3 w7
          have ha7 := xSp_adv hq7.1
          have hm7 : ¬ xMb (xSs lt tn bf p7) (xSf lt tn bf kf g7 p7) (nI st7) (nI ln7) = 0 := by rw [xMb_fa lt tn bf kf g7 (fun _ => 0) p7]; exact hq7.2.1
          have hn7 := hq7.2.2
          rw [xN0_e, xN3_e] at hn7
          refine lv_aload_n hx hb dX5_read_159 rfl (lv_at hl 1 rfl) ?_
          have hPc := hP.sub (ws' := [(g0, .inr (5, [.ref ra, .ref wa, .ref ta, .int kpt, .ref ma, .int mkd, .ref pa, .int (nI tn), .int (nI p7.1), .int p7.2, .ref ba, .ref ka, .int s7, .ref fa, .ref qa, .ref ea, .ref za, .ref ya, .int wks])), (pa, .inl (cI, 96, .inl lt)), (ba, .inl (cC, 6, .inl bf)), (ka, .inl (cC, 5, .inl kf)), (fa, .inl (cI, 15, .inl g7))]) [1, 2, 3, 4, 5] rfl
          have hDc := hD.sub (ws' := [(g0, .inr (5, [.ref ra, .ref wa, .ref ta, .int kpt, .ref ma, .int mkd, .ref pa, .int (nI tn), .int (nI p7.1), .int p7.2, .ref ba, .ref ka, .int s7, .ref fa, .ref qa, .ref ea, .ref za, .ref ya, .int wks])), (pa, .inl (cI, 96, .inl lt)), (ba, .inl (cC, 6, .inl bf)), (ka, .inl (cC, 5, .inl kf)), (fa, .inl (cI, 15, .inl g7))]) [1, 2, 3, 4, 5] (by decide) rfl
          have hFc := va_free (wc := [(g0, .inr (5, [.ref ra, .ref wa, .ref ta, .int kpt, .ref ma, .int mkd, .ref pa, .int (nI tn), .int (nI p7.1), .int p7.2, .ref ba, .ref ka, .int s7, .ref fa, .ref qa, .ref ea, .ref za, .ref ya, .int wks])), (pa, .inl (cI, 96, .inl lt)), (ba, .inl (cC, 6, .inl bf)), (ka, .inl (cC, 5, .inl kf)), (fa, .inl (cI, 15, .inl g7))]) hD hS hA [1, 2, 3, 4, 5] rfl
          refine va_callv (va_runV (As := []) (rest := []) ⟨hx, hb, hml, hown, hts⟩ (g_X5_statement l D cI cL cZ cC _ g0 ra wa ta ma pa ba ka fa qa ea za ya kpt mkd s7 wks tn p7 lt bf kf g7 (htn) (o1)) (cwV 0 hts gX5_read_X5_statement rfl rfl rfl (by decide +kernel) ⟨Nat.le_of_ble_eq_true rfl, Nat.le_of_ble_eq_true rfl⟩) ⟨wPc_bl, va_recv hK hPc (ci := 5) (q0 := 0) rfl rfl, wPc_use hPc hK hDc⟩ rfl rfl hl.1 rfl (lv_room (Nat.le_of_ble_eq_true rfl)) dX5_read_160 ⟨Nat.le_of_ble_eq_true rfl, Nat.le_of_ble_eq_true rfl⟩) hS (fun q _ h => hFc q h) hFc (fun u_8 t H1 locs ht hvm hw hB hz1 hk1 hS => ?_)
          obtain ⟨hP1, hD1⟩ := hB
          rw [ht] at hP1
          obtain ⟨hP, hD⟩ := va_join (wr := [(wa, .inl (cI, 70, .inl nw7))]) (w1 := [(g0, .inr (5, [.ref ra, .ref wa, .ref ta, .int kpt, .ref ma, .int mkd, .ref pa, .int (nI tn), .int (nI (xSp lt tn bf kf p7).1), .int ((xSp lt tn bf kf p7).2), .ref ba, .ref ka, .int (xSs lt tn bf p7), .ref fa, .ref qa, .ref ea, .ref za, .ref ya, .int wks])), (pa, .inl (cI, 96, .inl lt)), (ba, .inl (cC, 6, .inl bf)), (ka, .inl (cC, 5, .inl kf)), (fa, .inl (cI, 15, .inl (xSf lt tn bf kf g7 p7)))]) hP hD [1, 2, 3, 4, 5] [0] rfl rfl (by decide) (by decide) hk1 hFc hP1 hD1
          generalize H1 = H at hP hS ⊢
          have hP : va_P D vwCl [(wa, .inl (cI, 70, .inl nw7)), (g0, .inr (5, [.ref ra, .ref wa, .ref ta, .int kpt, .ref ma, .int mkd, .ref pa, .int (nI tn), .int (nI (xSp lt tn bf kf p7).1), .int ((xSp lt tn bf kf p7).2), .ref ba, .ref ka, .int (xSs lt tn bf p7), .ref fa, .ref qa, .ref ea, .ref za, .ref ya, .int wks])), (pa, .inl (cI, 96, .inl lt)), (ba, .inl (cC, 6, .inl bf)), (ka, .inl (cC, 5, .inl kf)), (fa, .inl (cI, 15, .inl (xSf lt tn bf kf g7 p7)))] H := hP
          have hD : va_D A [(wa, .inl (cI, 70, .inl nw7)), (g0, .inr (5, [.ref ra, .ref wa, .ref ta, .int kpt, .ref ma, .int mkd, .ref pa, .int (nI tn), .int (nI (xSp lt tn bf kf p7).1), .int ((xSp lt tn bf kf p7).2), .ref ba, .ref ka, .int (xSs lt tn bf p7), .ref fa, .ref qa, .ref ea, .ref za, .ref ya, .int wks])), (pa, .inl (cI, 96, .inl lt)), (ba, .inl (cC, 6, .inl bf)), (ka, .inl (cC, 5, .inl kf)), (fa, .inl (cI, 15, .inl (xSf lt tn bf kf g7 p7)))] := hD
          obtain ⟨q7, eq7⟩ : ∃ z : Nat × Int32, xSp lt tn bf kf p7 = z := ⟨_, rfl⟩
          obtain ⟨t7, et7⟩ : ∃ z : Int32, xSs lt tn bf p7 = z := ⟨_, rfl⟩
          obtain ⟨f7, ef7⟩ : ∃ z : Nat → Int32, xSf lt tn bf kf g7 p7 = z := ⟨_, rfl⟩
          rw [eq7, et7, ef7] at hP hD
          have hP : va_P D vwCl [(wa, .inl (cI, 70, .inl nw7)), (g0, .inr (5, [.ref ra, .ref wa, .ref ta, .int kpt, .ref ma, .int mkd, .ref pa, .int (nI tn), .int (nI q7.1), .int (q7.2), .ref ba, .ref ka, .int t7, .ref fa, .ref qa, .ref ea, .ref za, .ref ya, .int wks])), (pa, .inl (cI, 96, .inl lt)), (ba, .inl (cC, 6, .inl bf)), (ka, .inl (cC, 5, .inl kf)), (fa, .inl (cI, 15, .inl f7))] H := hP
          have hD : va_D A [(wa, .inl (cI, 70, .inl nw7)), (g0, .inr (5, [.ref ra, .ref wa, .ref ta, .int kpt, .ref ma, .int mkd, .ref pa, .int (nI tn), .int (nI q7.1), .int (q7.2), .ref ba, .ref ka, .int t7, .ref fa, .ref qa, .ref ea, .ref za, .ref ya, .int wks])), (pa, .inl (cI, 96, .inl lt)), (ba, .inl (cC, 6, .inl bf)), (ka, .inl (cC, 5, .inl kf)), (fa, .inl (cI, 15, .inl f7))] := hD
          rw [eq7] at ha7
          rw [et7, ef7] at hm7
          rw [eq7, et7] at hn7
          have hc7 := xVd_cm o4 hm7 (fun h => by rw [← ef7]; exact xSf_b (by rw [et7]; exact h) o1)
          refine lv_aload_n hx hb dX5_read_163 rfl (lv_at hl 1 rfl) ?_
          have hPc := hP.sub (ws' := [(g0, .inr (5, [.ref ra, .ref wa, .ref ta, .int kpt, .ref ma, .int mkd, .ref pa, .int (nI tn), .int (nI q7.1), .int q7.2, .ref ba, .ref ka, .int t7, .ref fa, .ref qa, .ref ea, .ref za, .ref ya, .int wks])), (wa, .inl (cI, 70, .inl nw7)), (fa, .inl (cI, 15, .inl f7))]) [1, 0, 5] rfl
          have hDc := hD.sub (ws' := [(g0, .inr (5, [.ref ra, .ref wa, .ref ta, .int kpt, .ref ma, .int mkd, .ref pa, .int (nI tn), .int (nI q7.1), .int q7.2, .ref ba, .ref ka, .int t7, .ref fa, .ref qa, .ref ea, .ref za, .ref ya, .int wks])), (wa, .inl (cI, 70, .inl nw7)), (fa, .inl (cI, 15, .inl f7))]) [1, 0, 5] (by decide) rfl
          have hFc := va_free (wc := [(g0, .inr (5, [.ref ra, .ref wa, .ref ta, .int kpt, .ref ma, .int mkd, .ref pa, .int (nI tn), .int (nI q7.1), .int q7.2, .ref ba, .ref ka, .int t7, .ref fa, .ref qa, .ref ea, .ref za, .ref ya, .int wks])), (wa, .inl (cI, 70, .inl nw7)), (fa, .inl (cI, 15, .inl f7))]) hD hS hA [1, 0, 5] rfl
          refine va_callv (va_runV (As := []) (rest := []) ⟨hx, hb, hml, hown, hts⟩ (g_X5_come l D cI cL cZ cC _ g0 ra wa ta ma pa ba ka fa qa ea za ya kpt mkd (nI tn) (nI q7.1) q7.2 t7 wks st7 nw7 ln7 f7 (o4.1.1) (o4.1.2.1) (o4.1.2.2) (o4.2.1.1) (o4.2.1.2) (fun h => (nI_ltI (a := ln7) (b := 3) (by have := o4.2.1.2; omega) (by decide)).mp (xMb_3 hm7 h).2)) (cwV 0 hts gX5_read_X5_come rfl rfl rfl (by decide +kernel) ⟨Nat.le_of_ble_eq_true rfl, Nat.le_of_ble_eq_true rfl⟩) ⟨wPc_bl, va_recv hK hPc (ci := 5) (q0 := 0) rfl rfl, wPc_use hPc hK hDc⟩ rfl rfl hl.1 rfl (lv_room (Nat.le_of_ble_eq_true rfl)) dX5_read_164 ⟨Nat.le_of_ble_eq_true rfl, Nat.le_of_ble_eq_true rfl⟩) hS (fun q _ h => hFc q h) hFc (fun u_9 t H1 locs ht hvm hw hB hz1 hk1 hS => ?_)
          obtain ⟨hP1, hD1⟩ := hB
          rw [ht] at hP1
          obtain ⟨hP, hD⟩ := va_join (wr := [(pa, .inl (cI, 96, .inl lt)), (ba, .inl (cC, 6, .inl bf)), (ka, .inl (cC, 5, .inl kf))]) (w1 := [(g0, .inr (5, [.ref ra, .ref wa, .ref ta, .int kpt, .ref ma, .int mkd, .ref pa, .int (nI tn), .int (nI q7.1), .int q7.2, .ref ba, .ref ka, .int t7, .ref fa, .ref qa, .ref ea, .ref za, .ref ya, .int wks])), (wa, .inl (cI, 70, .inl (xCm t7 f7 nw7 st7 ln7))), (fa, .inl (cI, 15, .inl f7))]) hP hD [1, 0, 5] [2, 3, 4] rfl rfl (by decide) (by decide) hk1 hFc hP1 hD1
          generalize H1 = H at hP hS ⊢
          have hP : va_P D vwCl [(pa, .inl (cI, 96, .inl lt)), (ba, .inl (cC, 6, .inl bf)), (ka, .inl (cC, 5, .inl kf)), (g0, .inr (5, [.ref ra, .ref wa, .ref ta, .int kpt, .ref ma, .int mkd, .ref pa, .int (nI tn), .int (nI q7.1), .int q7.2, .ref ba, .ref ka, .int t7, .ref fa, .ref qa, .ref ea, .ref za, .ref ya, .int wks])), (wa, .inl (cI, 70, .inl (xCm t7 f7 nw7 st7 ln7))), (fa, .inl (cI, 15, .inl f7))] H := hP
          have hD : va_D A [(pa, .inl (cI, 96, .inl lt)), (ba, .inl (cC, 6, .inl bf)), (ka, .inl (cC, 5, .inl kf)), (g0, .inr (5, [.ref ra, .ref wa, .ref ta, .int kpt, .ref ma, .int mkd, .ref pa, .int (nI tn), .int (nI q7.1), .int q7.2, .ref ba, .ref ka, .int t7, .ref fa, .ref qa, .ref ea, .ref za, .ref ya, .int wks])), (wa, .inl (cI, 70, .inl (xCm t7 f7 nw7 st7 ln7))), (fa, .inl (cI, 15, .inl f7))] := hD
          refine lv_goto (tgt := 148) hx hb dX5_read_167 (by decide) ?_
          exact ih_148 (v7, q7, t7, f7, xCm t7 f7 nw7 st7 ln7, st7 + xN0 t7, ln7 + xN3 t7) _ _ _ ⟨lv_sub hl [0, 1] rfl, hP.sub [4, 3, 0, 1, 2, 5] rfl, hD.sub [4, 3, 0, 1, 2, 5] (by decide) rfl, hS, by (try dsimp only); exact ⟨by omega, ha7.2.2, ha7.2.1, hn7, hc7⟩⟩
      · have w8 := (nI_ltI (a := p8.1) (b := tn) (by omega) (by omega)).mp (Int32.not_le.mp c_6)
        obtain ⟨v8, rfl, hq8⟩ := xGd_s k3 w8
        have ha8 := xSp_adv hq8.1
        refine lv_aload_n hx hb dX5_read_83 rfl (lv_at hl 3 rfl) ?_
        refine va_get (D := D) (ci := 5) (v := .int (nI p8.1)) (C := RX5) (T := TX5) (N := 19) hx hb hts hwX5 hown hK hP 1 rfl rfl 8 (by decide) (hts (.fieldLink RX5 64 "WaitOrWalkOnModel" "at" "I") (by decide +kernel)) (fun _ h9 => h9) rfl dX5_read_84 ?_
        refine lv_istore (lv' := [(4, .int (nI p8.1)), (3, .int l1), (2, .int s1), (1, .int (nI (i + 1))), (0, .ref g0)]) hx hb dX5_read_87 hl (by decide) rfl (fun ls hl => ?_)
        refine lv_aload_n hx hb dX5_read_89 rfl (lv_at hl 4 rfl) ?_
        have hPc := hP.sub (ws' := [(g0, .inr (5, [.ref ra, .ref wa, .ref ta, .int kpt, .ref ma, .int mkd, .ref pa, .int (nI tn), .int (nI p8.1), .int p8.2, .ref ba, .ref ka, .int s8, .ref fa, .ref qa, .ref ea, .ref za, .ref ya, .int wks])), (pa, .inl (cI, 96, .inl lt)), (ba, .inl (cC, 6, .inl bf)), (ka, .inl (cC, 5, .inl kf)), (fa, .inl (cI, 15, .inl g8))]) [1, 2, 3, 4, 5] rfl
        have hDc := hD.sub (ws' := [(g0, .inr (5, [.ref ra, .ref wa, .ref ta, .int kpt, .ref ma, .int mkd, .ref pa, .int (nI tn), .int (nI p8.1), .int p8.2, .ref ba, .ref ka, .int s8, .ref fa, .ref qa, .ref ea, .ref za, .ref ya, .int wks])), (pa, .inl (cI, 96, .inl lt)), (ba, .inl (cC, 6, .inl bf)), (ka, .inl (cC, 5, .inl kf)), (fa, .inl (cI, 15, .inl g8))]) [1, 2, 3, 4, 5] (by decide) rfl
        have hFc := va_free (wc := [(g0, .inr (5, [.ref ra, .ref wa, .ref ta, .int kpt, .ref ma, .int mkd, .ref pa, .int (nI tn), .int (nI p8.1), .int p8.2, .ref ba, .ref ka, .int s8, .ref fa, .ref qa, .ref ea, .ref za, .ref ya, .int wks])), (pa, .inl (cI, 96, .inl lt)), (ba, .inl (cC, 6, .inl bf)), (ka, .inl (cC, 5, .inl kf)), (fa, .inl (cI, 15, .inl g8))]) hD hS hA [1, 2, 3, 4, 5] rfl
        refine va_callv (va_runV (As := []) (rest := []) ⟨hx, hb, hml, hown, hts⟩ (g_X5_statement l D cI cL cZ cC _ g0 ra wa ta ma pa ba ka fa qa ea za ya kpt mkd s8 wks tn p8 lt bf kf g8 (htn) (k1)) (cwV 0 hts gX5_read_X5_statement rfl rfl rfl (by decide +kernel) ⟨Nat.le_of_ble_eq_true rfl, Nat.le_of_ble_eq_true rfl⟩) ⟨wPc_bl, va_recv hK hPc (ci := 5) (q0 := 0) rfl rfl, wPc_use hPc hK hDc⟩ rfl rfl hl.1 rfl (lv_room (Nat.le_of_ble_eq_true rfl)) dX5_read_90 ⟨Nat.le_of_ble_eq_true rfl, Nat.le_of_ble_eq_true rfl⟩) hS (fun q _ h => hFc q h) hFc (fun u_10 t H1 locs ht hvm hw hB hz1 hk1 hS => ?_)
        obtain ⟨hP1, hD1⟩ := hB
        rw [ht] at hP1
        obtain ⟨hP, hD⟩ := va_join (wr := [(wa, .inl (cI, 70, .inl nw))]) (w1 := [(g0, .inr (5, [.ref ra, .ref wa, .ref ta, .int kpt, .ref ma, .int mkd, .ref pa, .int (nI tn), .int (nI (xSp lt tn bf kf p8).1), .int ((xSp lt tn bf kf p8).2), .ref ba, .ref ka, .int (xSs lt tn bf p8), .ref fa, .ref qa, .ref ea, .ref za, .ref ya, .int wks])), (pa, .inl (cI, 96, .inl lt)), (ba, .inl (cC, 6, .inl bf)), (ka, .inl (cC, 5, .inl kf)), (fa, .inl (cI, 15, .inl (xSf lt tn bf kf g8 p8)))]) hP hD [1, 2, 3, 4, 5] [0] rfl rfl (by decide) (by decide) hk1 hFc hP1 hD1
        generalize H1 = H at hP hS ⊢
        have hP : va_P D vwCl [(wa, .inl (cI, 70, .inl nw)), (g0, .inr (5, [.ref ra, .ref wa, .ref ta, .int kpt, .ref ma, .int mkd, .ref pa, .int (nI tn), .int (nI (xSp lt tn bf kf p8).1), .int ((xSp lt tn bf kf p8).2), .ref ba, .ref ka, .int (xSs lt tn bf p8), .ref fa, .ref qa, .ref ea, .ref za, .ref ya, .int wks])), (pa, .inl (cI, 96, .inl lt)), (ba, .inl (cC, 6, .inl bf)), (ka, .inl (cC, 5, .inl kf)), (fa, .inl (cI, 15, .inl (xSf lt tn bf kf g8 p8)))] H := hP
        have hD : va_D A [(wa, .inl (cI, 70, .inl nw)), (g0, .inr (5, [.ref ra, .ref wa, .ref ta, .int kpt, .ref ma, .int mkd, .ref pa, .int (nI tn), .int (nI (xSp lt tn bf kf p8).1), .int ((xSp lt tn bf kf p8).2), .ref ba, .ref ka, .int (xSs lt tn bf p8), .ref fa, .ref qa, .ref ea, .ref za, .ref ya, .int wks])), (pa, .inl (cI, 96, .inl lt)), (ba, .inl (cC, 6, .inl bf)), (ka, .inl (cC, 5, .inl kf)), (fa, .inl (cI, 15, .inl (xSf lt tn bf kf g8 p8)))] := hD
        obtain ⟨q8, eq8⟩ : ∃ z : Nat × Int32, xSp lt tn bf kf p8 = z := ⟨_, rfl⟩
        obtain ⟨t8, et8⟩ : ∃ z : Int32, xSs lt tn bf p8 = z := ⟨_, rfl⟩
        obtain ⟨f8, ef8⟩ : ∃ z : Nat → Int32, xSf lt tn bf kf g8 p8 = z := ⟨_, rfl⟩
        rw [eq8, et8, ef8] at hP hD
        have hP : va_P D vwCl [(wa, .inl (cI, 70, .inl nw)), (g0, .inr (5, [.ref ra, .ref wa, .ref ta, .int kpt, .ref ma, .int mkd, .ref pa, .int (nI tn), .int (nI q8.1), .int (q8.2), .ref ba, .ref ka, .int t8, .ref fa, .ref qa, .ref ea, .ref za, .ref ya, .int wks])), (pa, .inl (cI, 96, .inl lt)), (ba, .inl (cC, 6, .inl bf)), (ka, .inl (cC, 5, .inl kf)), (fa, .inl (cI, 15, .inl f8))] H := hP
        have hD : va_D A [(wa, .inl (cI, 70, .inl nw)), (g0, .inr (5, [.ref ra, .ref wa, .ref ta, .int kpt, .ref ma, .int mkd, .ref pa, .int (nI tn), .int (nI q8.1), .int (q8.2), .ref ba, .ref ka, .int t8, .ref fa, .ref qa, .ref ea, .ref za, .ref ya, .int wks])), (pa, .inl (cI, 96, .inl lt)), (ba, .inl (cC, 6, .inl bf)), (ka, .inl (cC, 5, .inl kf)), (fa, .inl (cI, 15, .inl f8))] := hD
        refine lv_aload_n hx hb dX5_read_93 rfl (lv_at hl 4 rfl) ?_
        refine lv_iload_n hx hb dX5_read_94 rfl (lv_at hl 2 rfl) ?_
        refine lv_iload_n hx hb dX5_read_95 rfl (lv_at hl 1 rfl) ?_
        have hPc := hP.sub (ws' := [(g0, .inr (5, [.ref ra, .ref wa, .ref ta, .int kpt, .ref ma, .int mkd, .ref pa, .int (nI tn), .int (nI q8.1), .int q8.2, .ref ba, .ref ka, .int t8, .ref fa, .ref qa, .ref ea, .ref za, .ref ya, .int wks])), (fa, .inl (cI, 15, .inl f8))]) [1, 5] rfl
        refine vp_callSi (va_Run.run (va_runV (As := [.int s1, .int l1]) (rest := []) ⟨hx, hb, hml, hown, hts⟩ (g_X5_isAsItMustBe l D cI cL cZ cC g0 ra wa ta ma pa ba ka fa qa ea za ya kpt mkd (nI tn) (nI q8.1) q8.2 t8 wks f8 s1 l1 ) (cwV 2 hts gX5_read_X5_isAsItMustBe rfl rfl rfl (by decide +kernel) ⟨Nat.le_of_ble_eq_true rfl, Nat.le_of_ble_eq_true rfl⟩) ⟨xPc_bl, va_recv hK hPc (ci := 5) (q0 := 0) rfl rfl, xPc_use hPc hK⟩ rfl rfl hl.1 rfl (lv_room (Nat.le_of_ble_eq_true rfl)) dX5_read_96 ⟨Nat.le_of_ble_eq_true rfl, Nat.le_of_ble_eq_true rfl⟩)) (fun r_11 er_11 => ?_)
        obtain rfl : (xMb t8 f8 s1 l1 : Int32) = r_11 := Eq.symm er_11
        refine lv_if_ne (tgt := 109) hx hb dX5_read_99 (by decide) (fun c_12 => ?_) (fun c_12 => ?_)
        · refine lv_iload_n hx hb dX5_read_109 rfl (lv_at hl 2 rfl) ?_
          refine xl_cut (σ := Unit) 122 (fun _ => [.int (xB0 t8), .int s1]) (fun _ ls => lv_has ls 5 [(4, .int (nI p8.1)), (3, .int l1), (2, .int s1), (1, .int (nI (i + 1))), (0, .ref g0)]) ?_ ?_
          · intro _ ls hl
            refine lv_iadd hx hb dX5_read_122 ?_
            refine lv_istore_n (lv' := [(2, .int (s1 + (xB0 t8))), (4, .int (nI p8.1)), (3, .int l1), (1, .int (nI (i + 1))), (0, .ref g0)]) hx hb dX5_read_123 rfl hl (by decide) rfl (fun ls hl => ?_)
            refine lv_iload_n hx hb dX5_read_124 rfl (lv_at hl 2 rfl) ?_
            refine xl_cut (σ := Unit) 138 (fun _ => [.int (xB3 t8), .int l1]) (fun _ ls => lv_has ls 5 [(2, .int (s1 + (xB0 t8))), (4, .int (nI p8.1)), (3, .int l1), (1, .int (nI (i + 1))), (0, .ref g0)]) ?_ ?_
            · intro _ ls hl
              refine lv_iadd hx hb dX5_read_138 ?_
              refine lv_istore_n (lv' := [(3, .int (l1 + (xB3 t8))), (2, .int (s1 + (xB0 t8))), (4, .int (nI p8.1)), (1, .int (nI (i + 1))), (0, .ref g0)]) hx hb dX5_read_139 rfl hl (by decide) rfl (fun ls hl => ?_)
              refine lv_goto (tgt := 72) hx hb dX5_read_140 (by decide) ?_
              have hm8 : ¬ xMb (xSs lt tn bf p8) (xSf lt tn bf kf (fun _ => 0) p8) s1 l1 = 0 := by rw [xMb_fa lt tn bf kf (fun _ => 0) g8 p8 s1 l1, et8, ef8]; exact c_12
              have hs8 : ∀ v, xVl lt tn bf kf v q8 (s1 + xB0 t8) (l1 + xB3 t8) → xVl lt tn bf kf (v + (c8 + 1)) (0, 1) (nw 0) (nw 3) := fun v hv => by have w9 := k4 (v + 1) (fun _ => ⟨hq8.1, hm8, by rw [eq8, et8]; exact hv⟩); rw [show v + (c8 + 1) = v + 1 + c8 by omega]; exact w9
              rw [eq8] at ha8
              have hq8b := hq8.2
              rw [eq8] at hq8b
              exact ih_72 (v8, c8 + 1, q8, t8, f8, s1 + xB0 t8, l1 + xB3 t8) _ _ _ ⟨lv_sub hl [0, 1, 3, 4] rfl, hP.sub [0, 1, 2, 3, 4, 5] rfl, hD.sub [0, 1, 2, 3, 4, 5] (by decide) rfl, hS, by (try dsimp only); exact ⟨by omega, ha8.2.2, ha8.2.1, hq8b, hs8⟩⟩
            · intro K_138
              refine lv_aload_n hx hb dX5_read_125 rfl (lv_at hl 4 rfl) ?_
              refine va_get (D := D) (ci := 5) (v := .int t8) (C := RX5) (T := TX5) (N := 19) hx hb hts hwX5 hown hK hP 1 rfl rfl 12 (by decide) (hts (.fieldLink RX5 75 "WaitOrWalkOnModel" "sort" "I") (by decide +kernel)) (fun _ h9 => h9) rfl dX5_read_126 ?_
              refine lv_iconst (v := 3) hx hb dX5_read_129 (by decide) ?_
              refine lv_icmp_ne (tgt := 137) hx hb dX5_read_130 (by decide) (fun c_13 => ?_) (fun c_13 => ?_)
              · refine lv_iconst (v := 0) hx hb dX5_read_137 (by decide) ?_
                refine xv_int (y := xB3 t8) (by rw [xB3, if_neg c_13]) ?_
                exact K_138 () _ (lv_sub hl [0, 1, 2, 3, 4] rfl)
              · refine lv_iconst (v := 1) hx hb dX5_read_133 (by decide) ?_
                refine lv_goto (tgt := 138) hx hb dX5_read_134 (by decide) ?_
                refine xv_int (y := xB3 t8) (by rw [xB3, if_pos c_13]) ?_
                exact K_138 () _ (lv_sub hl [0, 1, 2, 3, 4] rfl)
          · intro K_122
            refine lv_aload_n hx hb dX5_read_110 rfl (lv_at hl 4 rfl) ?_
            refine va_get (D := D) (ci := 5) (v := .int t8) (C := RX5) (T := TX5) (N := 19) hx hb hts hwX5 hown hK hP 1 rfl rfl 12 (by decide) (hts (.fieldLink RX5 75 "WaitOrWalkOnModel" "sort" "I") (by decide +kernel)) (fun _ h9 => h9) rfl dX5_read_111 ?_
            refine lv_if_ne (tgt := 121) hx hb dX5_read_114 (by decide) (fun c_14 => ?_) (fun c_14 => ?_)
            · refine lv_iconst (v := 0) hx hb dX5_read_121 (by decide) ?_
              refine xv_int (y := xB0 t8) (by rw [xB0, if_neg c_14]) ?_
              exact K_122 () _ (lv_sub hl [0, 1, 2, 3, 4] rfl)
            · refine lv_iconst (v := 1) hx hb dX5_read_117 (by decide) ?_
              refine lv_goto (tgt := 122) hx hb dX5_read_118 (by decide) ?_
              refine xv_int (y := xB0 t8) (by rw [xB0, if_pos c_14]) ?_
              exact K_122 () _ (lv_sub hl [0, 1, 2, 3, 4] rfl)
        · refine lv_sipush (v := -2000) hx hb dX5_read_102 (by decide) ?_
          refine lv_iload hx hb dX5_read_105 (lv_at hl 0 rfl) ?_
          refine lv_isub hx hb dX5_read_107 ?_
          have hP9 := hP.sub (ws' := [(g0, .inr (5, [.ref ra, .ref wa, .ref ta, .int kpt, .ref ma, .int mkd, .ref pa, .int (nI tn), .int (nI q8.1), .int (q8.2), .ref ba, .ref ka, .int t8, .ref fa, .ref qa, .ref ea, .ref za, .ref ya, .int wks])), (pa, .inl (cI, 96, .inl lt)), (ba, .inl (cC, 6, .inl bf)), (ka, .inl (cC, 5, .inl kf)), (fa, .inl (cI, 15, .inl f8)), (wa, .inl (cI, 70, .inl nw))]) [1, 2, 3, 4, 5, 0] rfl
          have hD9 := hD.sub (ws' := [(g0, .inr (5, [.ref ra, .ref wa, .ref ta, .int kpt, .ref ma, .int mkd, .ref pa, .int (nI tn), .int (nI q8.1), .int (q8.2), .ref ba, .ref ka, .int t8, .ref fa, .ref qa, .ref ea, .ref za, .ref ya, .int wks])), (pa, .inl (cI, 96, .inl lt)), (ba, .inl (cC, 6, .inl bf)), (ka, .inl (cC, 5, .inl kf)), (fa, .inl (cI, 15, .inl f8)), (wa, .inl (cI, 70, .inl nw))]) [1, 2, 3, 4, 5, 0] (by decide) rfl
          exact W.iret (v := (-2000) - (nI p8.1)) hx hb hr (fun t ht hW => ⟨⟨_, (), rfl, trivial, (nI q8.1 : Int32), (q8.2 : Int32), (t8 : Int32), (f8 : Nat → Int32), (nw : Nat → Int32), (st : Nat), (ln : Nat), hV, by rw [ht]; exact hP9, hD9⟩, hS.F ht⟩) hS.2.2 dX5_read_108

set_option maxHeartbeats 4000000 in
set_option maxRecDepth 100000 in
theorem g_X5_road (l : Launch) (D : va_G) (cI cL cZ cC : ClassId) (sz : Nat) (g0 : Nat) (ra : Nat) (wa : Nat) (ta : Nat) (ma : Nat) (pa : Nat) (ba : Nat) (ka : Nat) (fa : Nat) (qa : Nat) (ea : Nat) (za : Nat) (ya : Nat) (kpt : Int32) (mkd : Int32) (at0 : Int32) (wel : Int32) (srt : Int32) (wks : Int32) (tn : Nat) (lt : Nat → Int32) (bf : Nat → Int32) (kf : Nat → Int32) (ff : Nat → Int32) (st : Nat) (ln : Nat) (nw : Nat → Int32) (htn : tn ≤ 96) (hV : xVd nw st ln) : Met l yX5_road wsX5_road ({ frames := 4, cells := 0, slots := 0, locals := 89 } : Room) (wPc D [.ref g0] [(g0, .inr (5, [.ref ra, .ref wa, .ref ta, .int kpt, .ref ma, .int mkd, .ref pa, .int (nI tn), .int at0, .int wel, .ref ba, .ref ka, .int srt, .ref fa, .ref qa, .ref ea, .ref za, .ref ya, .int wks])), (pa, .inl (cI, 96, .inl lt)), (ba, .inl (cC, 6, .inl bf)), (ka, .inl (cC, 5, .inl kf)), (fa, .inl (cI, 15, .inl ff)), (wa, .inl (cI, 70, .inl nw))] (xTy cI cL cZ cC) sz) (va_Qi (fun (r : Int32) (_ : Unit) => True) (fun (_ : Unit) t => ∃ a9 : Int32, ∃ w9 : Int32, ∃ s9 : Int32, ∃ ff9 : Nat → Int32, ∃ nw9 : Nat → Int32, ∃ st9 : Nat, ∃ ln9 : Nat, (xVd nw9 st9 ln9) ∧ va_P D vwCl [(g0, .inr (5, [.ref ra, .ref wa, .ref ta, .int kpt, .ref ma, .int mkd, .ref pa, .int 0, .int a9, .int w9, .ref ba, .ref ka, .int s9, .ref fa, .ref qa, .ref ea, .ref za, .ref ya, .int wks])), (pa, .inl (cI, 96, .inl lt)), (ba, .inl (cC, 6, .inl bf)), (ka, .inl (cC, 5, .inl kf)), (fa, .inl (cI, 15, .inl ff9)), (wa, .inl (cI, 70, .inl nw9))] t.heap ∧ va_D (va_A [(g0, .inr (5, [.ref ra, .ref wa, .ref ta, .int kpt, .ref ma, .int mkd, .ref pa, .int (nI tn), .int at0, .int wel, .ref ba, .ref ka, .int srt, .ref fa, .ref qa, .ref ea, .ref za, .ref ya, .int wks])), (pa, .inl (cI, 96, .inl lt)), (ba, .inl (cC, 6, .inl bf)), (ka, .inl (cC, 5, .inl kf)), (fa, .inl (cI, 15, .inl ff)), (wa, .inl (cI, 70, .inl nw))] sz) [(g0, .inr (5, [.ref ra, .ref wa, .ref ta, .int kpt, .ref ma, .int mkd, .ref pa, .int 0, .int a9, .int w9, .ref ba, .ref ka, .int s9, .ref fa, .ref qa, .ref ea, .ref za, .ref ya, .int wks])), (pa, .inl (cI, 96, .inl lt)), (ba, .inl (cC, 6, .inl bf)), (ka, .inl (cC, 5, .inl kf)), (fa, .inl (cI, 15, .inl ff9)), (wa, .inl (cI, 70, .inl nw9))]) (va_A [(g0, .inr (5, [.ref ra, .ref wa, .ref ta, .int kpt, .ref ma, .int mkd, .ref pa, .int (nI tn), .int at0, .int wel, .ref ba, .ref ka, .int srt, .ref fa, .ref qa, .ref ea, .ref za, .ref ya, .int wks])), (pa, .inl (cI, 96, .inl lt)), (ba, .inl (cC, 6, .inl bf)), (ka, .inl (cC, 5, .inl kf)), (fa, .inl (cI, 15, .inl ff)), (wa, .inl (cI, 70, .inl nw))] sz)) 0 0 (va_A [(g0, .inr (5, [.ref ra, .ref wa, .ref ta, .int kpt, .ref ma, .int mkd, .ref pa, .int (nI tn), .int at0, .int wel, .ref ba, .ref ka, .int srt, .ref fa, .ref qa, .ref ea, .ref za, .ref ya, .int wks])), (pa, .inl (cI, 96, .inl lt)), (ba, .inl (cC, 6, .inl bf)), (ka, .inl (cC, 5, .inl kf)), (fa, .inl (cI, 15, .inl ff)), (wa, .inl (cI, 70, .inl nw))] sz) := by
  refine Met.ofW (cc := cX5_road) (maxL := 2) (ret := (some .int)) (by decide) rfl ?_
  intro p e s m args below meth c s₁ B hml hv
  obtain ⟨rfl, hsz, hP, hK, hD0⟩ := hv
  have hx := B.exec
  have hb := B.bytes
  have hr := B.returns
  have hts := atoms_spec (ws := wsX5_road) B.pre
  have hown : s.vm.findClass RX5 = some m.cls := findClass_of_methodNamed B.named
  have hlocks := B.notSynchronized
  have hwX5 : ∀ w ∈ u_ws RX5 TX5 19, w ∈ wsX5_road := fun _ h => List.mem_cons_of_mem _ (List.mem_append_right _ h)
  subst hsz
  have hD := hD0.self (sz := s.heap.size)
  generalize hAe : va_A [(g0, .inr (5, [.ref ra, .ref wa, .ref ta, .int kpt, .ref ma, .int mkd, .ref pa, .int (nI tn), .int at0, .int wel, .ref ba, .ref ka, .int srt, .ref fa, .ref qa, .ref ea, .ref za, .ref ya, .int wks])), (pa, .inl (cI, 96, .inl lt)), (ba, .inl (cC, 6, .inl bf)), (ka, .inl (cC, 5, .inl kf)), (fa, .inl (cI, 15, .inl ff)), (wa, .inl (cI, 70, .inl nw))] s.heap.size = A at hD ⊢
  have hA : ∀ q : Nat, s.heap.size ≤ q → A q := fun q h => by rw [← hAe]; exact Or.inr h
  have hS : va_S A s.heap s.heap [] := va_S.rf
  have hP : va_P D vwCl [(g0, .inr (5, [.ref ra, .ref wa, .ref ta, .int kpt, .ref ma, .int mkd, .ref pa, .int (nI tn), .int at0, .int wel, .ref ba, .ref ka, .int srt, .ref fa, .ref qa, .ref ea, .ref za, .ref ya, .int wks])), (pa, .inl (cI, 96, .inl lt)), (ba, .inl (cC, 6, .inl bf)), (ka, .inl (cC, 5, .inl kf)), (fa, .inl (cI, 15, .inl ff)), (wa, .inl (cI, 70, .inl nw))] s.heap := hP
  have hl := lv_entry ([.ref g0]) (n := 2) (Nat.le_of_ble_eq_true rfl)
  rw [lg_entry_eq]
  generalize (lg_sl ([.ref g0]) ++ List.replicate (2 - (lg_sl ([.ref g0])).length) Slot.unset).toArray = ls at hl ⊢
  have hl : lv_has ls 2 [(0, .ref g0)] := hl
  refine lv_aload_n hx hb dX5_road_0 rfl (lv_at hl 0 rfl) ?_
  have hPc := hP.sub (ws' := [(g0, .inr (5, [.ref ra, .ref wa, .ref ta, .int kpt, .ref ma, .int mkd, .ref pa, .int (nI tn), .int at0, .int wel, .ref ba, .ref ka, .int srt, .ref fa, .ref qa, .ref ea, .ref za, .ref ya, .int wks])), (pa, .inl (cI, 96, .inl lt)), (ba, .inl (cC, 6, .inl bf)), (ka, .inl (cC, 5, .inl kf)), (fa, .inl (cI, 15, .inl ff)), (wa, .inl (cI, 70, .inl nw))]) [0, 1, 2, 3, 4, 5] rfl
  have hDc := hD.sub (ws' := [(g0, .inr (5, [.ref ra, .ref wa, .ref ta, .int kpt, .ref ma, .int mkd, .ref pa, .int (nI tn), .int at0, .int wel, .ref ba, .ref ka, .int srt, .ref fa, .ref qa, .ref ea, .ref za, .ref ya, .int wks])), (pa, .inl (cI, 96, .inl lt)), (ba, .inl (cC, 6, .inl bf)), (ka, .inl (cC, 5, .inl kf)), (fa, .inl (cI, 15, .inl ff)), (wa, .inl (cI, 70, .inl nw))]) [0, 1, 2, 3, 4, 5] (by decide) rfl
  have hFc := va_free (wc := [(g0, .inr (5, [.ref ra, .ref wa, .ref ta, .int kpt, .ref ma, .int mkd, .ref pa, .int (nI tn), .int at0, .int wel, .ref ba, .ref ka, .int srt, .ref fa, .ref qa, .ref ea, .ref za, .ref ya, .int wks])), (pa, .inl (cI, 96, .inl lt)), (ba, .inl (cC, 6, .inl bf)), (ka, .inl (cC, 5, .inl kf)), (fa, .inl (cI, 15, .inl ff)), (wa, .inl (cI, 70, .inl nw))]) hD hS hA [0, 1, 2, 3, 4, 5] rfl
  refine va_calli (va_runV (As := []) (rest := []) ⟨hx, hb, hml, hown, hts⟩ (g_X5_read l D cI cL cZ cC _ g0 ra wa ta ma pa ba ka fa qa ea za ya kpt mkd at0 wel srt wks tn lt bf kf ff st ln nw (htn) (hV)) (cwV 0 hts gX5_road_X5_read rfl rfl rfl (by decide +kernel) ⟨Nat.le_of_ble_eq_true rfl, Nat.le_of_ble_eq_true rfl⟩) ⟨wPc_bl, va_recv hK hPc (ci := 5) (q0 := 0) rfl rfl, wPc_use hPc hK hDc⟩ rfl rfl hl.1 rfl (lv_room (Nat.le_of_ble_eq_true rfl)) dX5_road_1 ⟨Nat.le_of_ble_eq_true rfl, Nat.le_of_ble_eq_true rfl⟩) hS (fun q _ h => hFc q h) hFc (fun r_1 u_1 t H1 locs ht hvm hw_1 hB hz1 hk1 hS => ?_)
  obtain ⟨a9_1, w9_1, s9_1, ff9_1, nw9_1, st9_1, ln9_1, hx0_1, hP1, hD1⟩ := hB
  rw [ht] at hP1
  obtain ⟨hP, hD⟩ := va_join (wr := []) (w1 := [(g0, .inr (5, [.ref ra, .ref wa, .ref ta, .int kpt, .ref ma, .int mkd, .ref pa, .int (nI tn), .int a9_1, .int w9_1, .ref ba, .ref ka, .int s9_1, .ref fa, .ref qa, .ref ea, .ref za, .ref ya, .int wks])), (pa, .inl (cI, 96, .inl lt)), (ba, .inl (cC, 6, .inl bf)), (ka, .inl (cC, 5, .inl kf)), (fa, .inl (cI, 15, .inl ff9_1)), (wa, .inl (cI, 70, .inl nw9_1))]) hP hD [0, 1, 2, 3, 4, 5] [] rfl rfl (by decide) (by decide) hk1 hFc hP1 hD1
  generalize H1 = H at hP hS ⊢
  have hP : va_P D vwCl [(g0, .inr (5, [.ref ra, .ref wa, .ref ta, .int kpt, .ref ma, .int mkd, .ref pa, .int (nI tn), .int a9_1, .int w9_1, .ref ba, .ref ka, .int s9_1, .ref fa, .ref qa, .ref ea, .ref za, .ref ya, .int wks])), (pa, .inl (cI, 96, .inl lt)), (ba, .inl (cC, 6, .inl bf)), (ka, .inl (cC, 5, .inl kf)), (fa, .inl (cI, 15, .inl ff9_1)), (wa, .inl (cI, 70, .inl nw9_1))] H := hP
  have hD : va_D A [(g0, .inr (5, [.ref ra, .ref wa, .ref ta, .int kpt, .ref ma, .int mkd, .ref pa, .int (nI tn), .int a9_1, .int w9_1, .ref ba, .ref ka, .int s9_1, .ref fa, .ref qa, .ref ea, .ref za, .ref ya, .int wks])), (pa, .inl (cI, 96, .inl lt)), (ba, .inl (cC, 6, .inl bf)), (ka, .inl (cC, 5, .inl kf)), (fa, .inl (cI, 15, .inl ff9_1)), (wa, .inl (cI, 70, .inl nw9_1))] := hD
  refine lv_istore_n (lv' := [(1, .int r_1), (0, .ref g0)]) hx hb dX5_road_4 rfl hl (by decide) rfl (fun ls hl => ?_)
  refine lv_aload_n hx hb dX5_road_5 rfl (lv_at hl 1 rfl) ?_
  refine lv_iconst (v := 0) hx hb dX5_road_6 (by decide) ?_
  refine va_put (D := D) (ci := 5) (v := .int 0) (ty := .int) (C := RX5) (T := TX5) (N := 19) hx hb hts hwX5 tyX5 tyX5_ok nmX5 hown hK hP hD hS 0 rfl rfl 7 (by decide) (hts (.fieldLink RX5 57 "WaitOrWalkOnModel" "taped" "I") (by decide +kernel)) (fun _ h9 => h9) rfl (by decide +kernel) (by decide +kernel) rfl (Nat.le_of_ble_eq_true rfl) dX5_road_7 (fun H locs hP hD hS => ?_)
  have hP : va_P D vwCl [(g0, .inr (5, [.ref ra, .ref wa, .ref ta, .int kpt, .ref ma, .int mkd, .ref pa, .int 0, .int a9_1, .int w9_1, .ref ba, .ref ka, .int s9_1, .ref fa, .ref qa, .ref ea, .ref za, .ref ya, .int wks])), (pa, .inl (cI, 96, .inl lt)), (ba, .inl (cC, 6, .inl bf)), (ka, .inl (cC, 5, .inl kf)), (fa, .inl (cI, 15, .inl ff9_1)), (wa, .inl (cI, 70, .inl nw9_1))] H := hP
  have hD : va_D A [(g0, .inr (5, [.ref ra, .ref wa, .ref ta, .int kpt, .ref ma, .int mkd, .ref pa, .int 0, .int a9_1, .int w9_1, .ref ba, .ref ka, .int s9_1, .ref fa, .ref qa, .ref ea, .ref za, .ref ya, .int wks])), (pa, .inl (cI, 96, .inl lt)), (ba, .inl (cC, 6, .inl bf)), (ka, .inl (cC, 5, .inl kf)), (fa, .inl (cI, 15, .inl ff9_1)), (wa, .inl (cI, 70, .inl nw9_1))] := hD
  refine lv_iload_n hx hb dX5_road_10 rfl (lv_at hl 0 rfl) ?_
  have hP9 := hP.sub (ws' := [(g0, .inr (5, [.ref ra, .ref wa, .ref ta, .int kpt, .ref ma, .int mkd, .ref pa, .int 0, .int a9_1, .int w9_1, .ref ba, .ref ka, .int s9_1, .ref fa, .ref qa, .ref ea, .ref za, .ref ya, .int wks])), (pa, .inl (cI, 96, .inl lt)), (ba, .inl (cC, 6, .inl bf)), (ka, .inl (cC, 5, .inl kf)), (fa, .inl (cI, 15, .inl ff9_1)), (wa, .inl (cI, 70, .inl nw9_1))]) [0, 1, 2, 3, 4, 5] rfl
  have hD9 := hD.sub (ws' := [(g0, .inr (5, [.ref ra, .ref wa, .ref ta, .int kpt, .ref ma, .int mkd, .ref pa, .int 0, .int a9_1, .int w9_1, .ref ba, .ref ka, .int s9_1, .ref fa, .ref qa, .ref ea, .ref za, .ref ya, .int wks])), (pa, .inl (cI, 96, .inl lt)), (ba, .inl (cC, 6, .inl bf)), (ka, .inl (cC, 5, .inl kf)), (fa, .inl (cI, 15, .inl ff9_1)), (wa, .inl (cI, 70, .inl nw9_1))]) [0, 1, 2, 3, 4, 5] (by decide) rfl
  exact W.iret (v := r_1) hx hb hr (fun t ht hW => ⟨⟨_, (), rfl, trivial, (a9_1 : Int32), (w9_1 : Int32), (s9_1 : Int32), (ff9_1 : Nat → Int32), (nw9_1 : Nat → Int32), (st9_1 : Nat), (ln9_1 : Nat), hx0_1, by rw [ht]; exact hP9, hD9⟩, hS.F ht⟩) hS.2.2 dX5_road_11

set_option maxHeartbeats 4000000 in
set_option maxRecDepth 100000 in
theorem g_X5_others (l : Launch) (D : va_G) (cI cL cZ cC : ClassId) (sz : Nat) (g0 : Nat) (ra : Nat) (wa : Nat) (ta : Nat) (ma : Nat) (pa : Nat) (ba : Nat) (ka : Nat) (fa : Nat) (qa : Nat) (ea : Nat) (za : Nat) (ya : Nat) (kpt : Int32) (mkd : Int32) (tpd : Int32) (at0 : Int32) (wel : Int32) (srt : Int32) (wks : Int32) (rf : Nat → Int32) (a1 : Int32) (a2 : Int32) (a3 : Int32) (a4 : Int32)  : Met l yX5_others wsX5_others ({ frames := 1, cells := 1, slots := 9, locals := 21 } : Room) (wPc D [.ref g0, .int a1, .int a2, .int a3, .int a4] [(g0, .inr (5, [.ref ra, .ref wa, .ref ta, .int kpt, .ref ma, .int mkd, .ref pa, .int tpd, .int at0, .int wel, .ref ba, .ref ka, .int srt, .ref fa, .ref qa, .ref ea, .ref za, .ref ya, .int wks])), (ra, .inl (cI, 7, .inl rf))] (xTy cI cL cZ cC) sz) (va_Qi (fun (r : Int32) (_ : Unit) => True) (fun (_ : Unit) t => va_P D vwCl [(g0, .inr (5, [.ref ra, .ref wa, .ref ta, .int kpt, .ref ma, .int mkd, .ref pa, .int tpd, .int at0, .int wel, .ref ba, .ref ka, .int srt, .ref fa, .ref qa, .ref ea, .ref za, .ref ya, .int wks])), (ra, .inl (cI, 7, .inl (xRq rf (qOt a1 a2 a3 a4))))] t.heap ∧ va_D (va_A [(g0, .inr (5, [.ref ra, .ref wa, .ref ta, .int kpt, .ref ma, .int mkd, .ref pa, .int tpd, .int at0, .int wel, .ref ba, .ref ka, .int srt, .ref fa, .ref qa, .ref ea, .ref za, .ref ya, .int wks])), (ra, .inl (cI, 7, .inl rf))] sz) [(g0, .inr (5, [.ref ra, .ref wa, .ref ta, .int kpt, .ref ma, .int mkd, .ref pa, .int tpd, .int at0, .int wel, .ref ba, .ref ka, .int srt, .ref fa, .ref qa, .ref ea, .ref za, .ref ya, .int wks])), (ra, .inl (cI, 7, .inl (xRq rf (qOt a1 a2 a3 a4))))]) (va_A [(g0, .inr (5, [.ref ra, .ref wa, .ref ta, .int kpt, .ref ma, .int mkd, .ref pa, .int tpd, .int at0, .int wel, .ref ba, .ref ka, .int srt, .ref fa, .ref qa, .ref ea, .ref za, .ref ya, .int wks])), (ra, .inl (cI, 7, .inl rf))] sz)) 1 9 (va_A [(g0, .inr (5, [.ref ra, .ref wa, .ref ta, .int kpt, .ref ma, .int mkd, .ref pa, .int tpd, .int at0, .int wel, .ref ba, .ref ka, .int srt, .ref fa, .ref qa, .ref ea, .ref za, .ref ya, .int wks])), (ra, .inl (cI, 7, .inl rf))] sz) := by
  refine Met.ofW (cc := cX5_others) (maxL := 11) (ret := (some .int)) (by decide) rfl ?_
  intro p e s m args below meth c s₁ B hml hv
  obtain ⟨rfl, hsz, hP, hK, hD0⟩ := hv
  have hx := B.exec
  have hb := B.bytes
  have hr := B.returns
  have hts := atoms_spec (ws := wsX5_others) B.pre
  have hown : s.vm.findClass RX5 = some m.cls := findClass_of_methodNamed B.named
  have hlocks := B.notSynchronized
  subst hsz
  have hD := hD0.self (sz := s.heap.size)
  generalize hAe : va_A [(g0, .inr (5, [.ref ra, .ref wa, .ref ta, .int kpt, .ref ma, .int mkd, .ref pa, .int tpd, .int at0, .int wel, .ref ba, .ref ka, .int srt, .ref fa, .ref qa, .ref ea, .ref za, .ref ya, .int wks])), (ra, .inl (cI, 7, .inl rf))] s.heap.size = A at hD ⊢
  have hA : ∀ q : Nat, s.heap.size ≤ q → A q := fun q h => by rw [← hAe]; exact Or.inr h
  have hS : va_S A s.heap s.heap [] := va_S.rf
  have hP : va_P D vwCl [(g0, .inr (5, [.ref ra, .ref wa, .ref ta, .int kpt, .ref ma, .int mkd, .ref pa, .int tpd, .int at0, .int wel, .ref ba, .ref ka, .int srt, .ref fa, .ref qa, .ref ea, .ref za, .ref ya, .int wks])), (ra, .inl (cI, 7, .inl rf))] s.heap := hP
  have hl := lv_entry ([.ref g0, .int a1, .int a2, .int a3, .int a4]) (n := 11) (Nat.le_of_ble_eq_true rfl)
  rw [lg_entry_eq]
  generalize (lg_sl ([.ref g0, .int a1, .int a2, .int a3, .int a4]) ++ List.replicate (11 - (lg_sl ([.ref g0, .int a1, .int a2, .int a3, .int a4])).length) Slot.unset).toArray = ls at hl ⊢
  have hl : lv_has ls 11 [(0, .ref g0), (1, .int a1), (2, .int a2), (3, .int a3), (4, .int a4)] := hl
  refine lv_iload_n hx hb dX5_others_0 rfl (lv_at hl 1 rfl) ?_
  refine lv_iconst (v := 1) hx hb dX5_others_1 (by decide) ?_
  refine lv_icmp_lt (tgt := 18) hx hb dX5_others_2 (by decide) (fun c_1 => ?_) (fun c_1 => ?_)
  · refine lv_aload_n hx hb dX5_others_18 rfl (lv_at hl 0 rfl) ?_
    refine lv_bipush (v := -4) hx hb dX5_others_19 (by decide) ?_
    have hPc := hP.sub (ws' := [(g0, .inr (5, [.ref ra, .ref wa, .ref ta, .int kpt, .ref ma, .int mkd, .ref pa, .int tpd, .int at0, .int wel, .ref ba, .ref ka, .int srt, .ref fa, .ref qa, .ref ea, .ref za, .ref ya, .int wks])), (ra, .inl (cI, 7, .inl rf))]) [0, 1] rfl
    have hDc := hD.sub (ws' := [(g0, .inr (5, [.ref ra, .ref wa, .ref ta, .int kpt, .ref ma, .int mkd, .ref pa, .int tpd, .int at0, .int wel, .ref ba, .ref ka, .int srt, .ref fa, .ref qa, .ref ea, .ref za, .ref ya, .int wks])), (ra, .inl (cI, 7, .inl rf))]) [0, 1] (by decide) rfl
    have hFc := va_free (wc := [(g0, .inr (5, [.ref ra, .ref wa, .ref ta, .int kpt, .ref ma, .int mkd, .ref pa, .int tpd, .int at0, .int wel, .ref ba, .ref ka, .int srt, .ref fa, .ref qa, .ref ea, .ref za, .ref ya, .int wks])), (ra, .inl (cI, 7, .inl rf))]) hD hS hA [0, 1] rfl
    refine va_calli (va_runV (As := [.int (-4)]) (rest := []) ⟨hx, hb, hml, hown, hts⟩ (g_X5_no l D cI cL cZ cC _ g0 ra wa ta ma pa ba ka fa qa ea za ya kpt mkd tpd at0 wel srt wks rf (-4) (by first | assumption | decide +kernel) (by first | assumption | decide +kernel)) (cwV 1 hts gX5_others_X5_no rfl rfl rfl (by decide +kernel) ⟨Nat.le_of_ble_eq_true rfl, Nat.le_of_ble_eq_true rfl⟩) ⟨wPc_bl, va_recv hK hPc (ci := 5) (q0 := 0) rfl rfl, wPc_use hPc hK hDc⟩ rfl rfl hl.1 rfl (lv_room (Nat.le_of_ble_eq_true rfl)) dX5_others_21 ⟨Nat.le_of_ble_eq_true rfl, Nat.le_of_ble_eq_true rfl⟩) hS (fun q _ h => hFc q h) hFc (fun r_2 u_2 t H1 locs ht hvm hw hB hz1 hk1 hS => ?_)
    obtain ⟨hP1, hD1⟩ := hB
    rw [ht] at hP1
    obtain ⟨hP, hD⟩ := va_join (wr := []) (w1 := [(g0, .inr (5, [.ref ra, .ref wa, .ref ta, .int kpt, .ref ma, .int mkd, .ref pa, .int tpd, .int at0, .int wel, .ref ba, .ref ka, .int srt, .ref fa, .ref qa, .ref ea, .ref za, .ref ya, .int wks])), (ra, .inl (cI, 7, .inl (xRf rf (-4))))]) hP hD [0, 1] [] rfl rfl (by decide) (by decide) hk1 hFc hP1 hD1
    generalize H1 = H at hP hS ⊢
    have hP : va_P D vwCl [(g0, .inr (5, [.ref ra, .ref wa, .ref ta, .int kpt, .ref ma, .int mkd, .ref pa, .int tpd, .int at0, .int wel, .ref ba, .ref ka, .int srt, .ref fa, .ref qa, .ref ea, .ref za, .ref ya, .int wks])), (ra, .inl (cI, 7, .inl (xRf rf (-4))))] H := hP
    have hD : va_D A [(g0, .inr (5, [.ref ra, .ref wa, .ref ta, .int kpt, .ref ma, .int mkd, .ref pa, .int tpd, .int at0, .int wel, .ref ba, .ref ka, .int srt, .ref fa, .ref qa, .ref ea, .ref za, .ref ya, .int wks])), (ra, .inl (cI, 7, .inl (xRf rf (-4))))] := hD
    obtain rfl : ((-4) : Int32) = r_2 := Eq.symm hw
    have hP9 := hP.sub (ws' := [(g0, .inr (5, [.ref ra, .ref wa, .ref ta, .int kpt, .ref ma, .int mkd, .ref pa, .int tpd, .int at0, .int wel, .ref ba, .ref ka, .int srt, .ref fa, .ref qa, .ref ea, .ref za, .ref ya, .int wks])), (ra, .inl (cI, 7, .inl (xRf rf (-4))))]) [0, 1] rfl
    have hD9 := hD.sub (ws' := [(g0, .inr (5, [.ref ra, .ref wa, .ref ta, .int kpt, .ref ma, .int mkd, .ref pa, .int tpd, .int at0, .int wel, .ref ba, .ref ka, .int srt, .ref fa, .ref qa, .ref ea, .ref za, .ref ya, .int wks])), (ra, .inl (cI, 7, .inl (xRf rf (-4))))]) [0, 1] (by decide) rfl
    have hE9 : ([(g0, .inr (5, [.ref ra, .ref wa, .ref ta, .int kpt, .ref ma, .int mkd, .ref pa, .int tpd, .int at0, .int wel, .ref ba, .ref ka, .int srt, .ref fa, .ref qa, .ref ea, .ref za, .ref ya, .int wks])), (ra, .inl (cI, 7, .inl (xRf rf (-4))))] : va_W) = [(g0, .inr (5, [.ref ra, .ref wa, .ref ta, .int kpt, .ref ma, .int mkd, .ref pa, .int tpd, .int at0, .int wel, .ref ba, .ref ka, .int srt, .ref fa, .ref qa, .ref ea, .ref za, .ref ya, .int wks])), (ra, .inl (cI, 7, .inl (xRq rf (qOt a1 a2 a3 a4))))] := by simp [xRq, qOt, c_1]
    refine W.widen (k := 1) (n := 9) (Nat.le_of_ble_eq_true rfl) (Nat.le_of_ble_eq_true rfl) ?_
    exact W.iret (v := -4) hx hb hr (fun t ht hW => ⟨⟨_, (), rfl, trivial, by rw [ht]; exact hE9 ▸ hP9, hE9 ▸ hD9⟩, hS.F ht⟩) hS.2.2 dX5_others_24
  · refine lv_iload_n hx hb dX5_others_5 rfl (lv_at hl 2 rfl) ?_
    refine lv_if_lt (tgt := 18) hx hb dX5_others_6 (by decide) (fun c_3 => ?_) (fun c_3 => ?_)
    · refine lv_aload_n hx hb dX5_others_18 rfl (lv_at hl 0 rfl) ?_
      refine lv_bipush (v := -4) hx hb dX5_others_19 (by decide) ?_
      have hPc := hP.sub (ws' := [(g0, .inr (5, [.ref ra, .ref wa, .ref ta, .int kpt, .ref ma, .int mkd, .ref pa, .int tpd, .int at0, .int wel, .ref ba, .ref ka, .int srt, .ref fa, .ref qa, .ref ea, .ref za, .ref ya, .int wks])), (ra, .inl (cI, 7, .inl rf))]) [0, 1] rfl
      have hDc := hD.sub (ws' := [(g0, .inr (5, [.ref ra, .ref wa, .ref ta, .int kpt, .ref ma, .int mkd, .ref pa, .int tpd, .int at0, .int wel, .ref ba, .ref ka, .int srt, .ref fa, .ref qa, .ref ea, .ref za, .ref ya, .int wks])), (ra, .inl (cI, 7, .inl rf))]) [0, 1] (by decide) rfl
      have hFc := va_free (wc := [(g0, .inr (5, [.ref ra, .ref wa, .ref ta, .int kpt, .ref ma, .int mkd, .ref pa, .int tpd, .int at0, .int wel, .ref ba, .ref ka, .int srt, .ref fa, .ref qa, .ref ea, .ref za, .ref ya, .int wks])), (ra, .inl (cI, 7, .inl rf))]) hD hS hA [0, 1] rfl
      refine va_calli (va_runV (As := [.int (-4)]) (rest := []) ⟨hx, hb, hml, hown, hts⟩ (g_X5_no l D cI cL cZ cC _ g0 ra wa ta ma pa ba ka fa qa ea za ya kpt mkd tpd at0 wel srt wks rf (-4) (by first | assumption | decide +kernel) (by first | assumption | decide +kernel)) (cwV 1 hts gX5_others_X5_no rfl rfl rfl (by decide +kernel) ⟨Nat.le_of_ble_eq_true rfl, Nat.le_of_ble_eq_true rfl⟩) ⟨wPc_bl, va_recv hK hPc (ci := 5) (q0 := 0) rfl rfl, wPc_use hPc hK hDc⟩ rfl rfl hl.1 rfl (lv_room (Nat.le_of_ble_eq_true rfl)) dX5_others_21 ⟨Nat.le_of_ble_eq_true rfl, Nat.le_of_ble_eq_true rfl⟩) hS (fun q _ h => hFc q h) hFc (fun r_4 u_4 t H1 locs ht hvm hw hB hz1 hk1 hS => ?_)
      obtain ⟨hP1, hD1⟩ := hB
      rw [ht] at hP1
      obtain ⟨hP, hD⟩ := va_join (wr := []) (w1 := [(g0, .inr (5, [.ref ra, .ref wa, .ref ta, .int kpt, .ref ma, .int mkd, .ref pa, .int tpd, .int at0, .int wel, .ref ba, .ref ka, .int srt, .ref fa, .ref qa, .ref ea, .ref za, .ref ya, .int wks])), (ra, .inl (cI, 7, .inl (xRf rf (-4))))]) hP hD [0, 1] [] rfl rfl (by decide) (by decide) hk1 hFc hP1 hD1
      generalize H1 = H at hP hS ⊢
      have hP : va_P D vwCl [(g0, .inr (5, [.ref ra, .ref wa, .ref ta, .int kpt, .ref ma, .int mkd, .ref pa, .int tpd, .int at0, .int wel, .ref ba, .ref ka, .int srt, .ref fa, .ref qa, .ref ea, .ref za, .ref ya, .int wks])), (ra, .inl (cI, 7, .inl (xRf rf (-4))))] H := hP
      have hD : va_D A [(g0, .inr (5, [.ref ra, .ref wa, .ref ta, .int kpt, .ref ma, .int mkd, .ref pa, .int tpd, .int at0, .int wel, .ref ba, .ref ka, .int srt, .ref fa, .ref qa, .ref ea, .ref za, .ref ya, .int wks])), (ra, .inl (cI, 7, .inl (xRf rf (-4))))] := hD
      obtain rfl : ((-4) : Int32) = r_4 := Eq.symm hw
      have hP9 := hP.sub (ws' := [(g0, .inr (5, [.ref ra, .ref wa, .ref ta, .int kpt, .ref ma, .int mkd, .ref pa, .int tpd, .int at0, .int wel, .ref ba, .ref ka, .int srt, .ref fa, .ref qa, .ref ea, .ref za, .ref ya, .int wks])), (ra, .inl (cI, 7, .inl (xRf rf (-4))))]) [0, 1] rfl
      have hD9 := hD.sub (ws' := [(g0, .inr (5, [.ref ra, .ref wa, .ref ta, .int kpt, .ref ma, .int mkd, .ref pa, .int tpd, .int at0, .int wel, .ref ba, .ref ka, .int srt, .ref fa, .ref qa, .ref ea, .ref za, .ref ya, .int wks])), (ra, .inl (cI, 7, .inl (xRf rf (-4))))]) [0, 1] (by decide) rfl
      have hE9 : ([(g0, .inr (5, [.ref ra, .ref wa, .ref ta, .int kpt, .ref ma, .int mkd, .ref pa, .int tpd, .int at0, .int wel, .ref ba, .ref ka, .int srt, .ref fa, .ref qa, .ref ea, .ref za, .ref ya, .int wks])), (ra, .inl (cI, 7, .inl (xRf rf (-4))))] : va_W) = [(g0, .inr (5, [.ref ra, .ref wa, .ref ta, .int kpt, .ref ma, .int mkd, .ref pa, .int tpd, .int at0, .int wel, .ref ba, .ref ka, .int srt, .ref fa, .ref qa, .ref ea, .ref za, .ref ya, .int wks])), (ra, .inl (cI, 7, .inl (xRq rf (qOt a1 a2 a3 a4))))] := by simp [xRq, qOt, c_1, c_3]
      refine W.widen (k := 1) (n := 9) (Nat.le_of_ble_eq_true rfl) (Nat.le_of_ble_eq_true rfl) ?_
      exact W.iret (v := -4) hx hb hr (fun t ht hW => ⟨⟨_, (), rfl, trivial, by rw [ht]; exact hE9 ▸ hP9, hE9 ▸ hD9⟩, hS.F ht⟩) hS.2.2 dX5_others_24
    · refine lv_iload_n hx hb dX5_others_9 rfl (lv_at hl 3 rfl) ?_
      refine lv_if_lt (tgt := 18) hx hb dX5_others_10 (by decide) (fun c_5 => ?_) (fun c_5 => ?_)
      · refine lv_aload_n hx hb dX5_others_18 rfl (lv_at hl 0 rfl) ?_
        refine lv_bipush (v := -4) hx hb dX5_others_19 (by decide) ?_
        have hPc := hP.sub (ws' := [(g0, .inr (5, [.ref ra, .ref wa, .ref ta, .int kpt, .ref ma, .int mkd, .ref pa, .int tpd, .int at0, .int wel, .ref ba, .ref ka, .int srt, .ref fa, .ref qa, .ref ea, .ref za, .ref ya, .int wks])), (ra, .inl (cI, 7, .inl rf))]) [0, 1] rfl
        have hDc := hD.sub (ws' := [(g0, .inr (5, [.ref ra, .ref wa, .ref ta, .int kpt, .ref ma, .int mkd, .ref pa, .int tpd, .int at0, .int wel, .ref ba, .ref ka, .int srt, .ref fa, .ref qa, .ref ea, .ref za, .ref ya, .int wks])), (ra, .inl (cI, 7, .inl rf))]) [0, 1] (by decide) rfl
        have hFc := va_free (wc := [(g0, .inr (5, [.ref ra, .ref wa, .ref ta, .int kpt, .ref ma, .int mkd, .ref pa, .int tpd, .int at0, .int wel, .ref ba, .ref ka, .int srt, .ref fa, .ref qa, .ref ea, .ref za, .ref ya, .int wks])), (ra, .inl (cI, 7, .inl rf))]) hD hS hA [0, 1] rfl
        refine va_calli (va_runV (As := [.int (-4)]) (rest := []) ⟨hx, hb, hml, hown, hts⟩ (g_X5_no l D cI cL cZ cC _ g0 ra wa ta ma pa ba ka fa qa ea za ya kpt mkd tpd at0 wel srt wks rf (-4) (by first | assumption | decide +kernel) (by first | assumption | decide +kernel)) (cwV 1 hts gX5_others_X5_no rfl rfl rfl (by decide +kernel) ⟨Nat.le_of_ble_eq_true rfl, Nat.le_of_ble_eq_true rfl⟩) ⟨wPc_bl, va_recv hK hPc (ci := 5) (q0 := 0) rfl rfl, wPc_use hPc hK hDc⟩ rfl rfl hl.1 rfl (lv_room (Nat.le_of_ble_eq_true rfl)) dX5_others_21 ⟨Nat.le_of_ble_eq_true rfl, Nat.le_of_ble_eq_true rfl⟩) hS (fun q _ h => hFc q h) hFc (fun r_6 u_6 t H1 locs ht hvm hw hB hz1 hk1 hS => ?_)
        obtain ⟨hP1, hD1⟩ := hB
        rw [ht] at hP1
        obtain ⟨hP, hD⟩ := va_join (wr := []) (w1 := [(g0, .inr (5, [.ref ra, .ref wa, .ref ta, .int kpt, .ref ma, .int mkd, .ref pa, .int tpd, .int at0, .int wel, .ref ba, .ref ka, .int srt, .ref fa, .ref qa, .ref ea, .ref za, .ref ya, .int wks])), (ra, .inl (cI, 7, .inl (xRf rf (-4))))]) hP hD [0, 1] [] rfl rfl (by decide) (by decide) hk1 hFc hP1 hD1
        generalize H1 = H at hP hS ⊢
        have hP : va_P D vwCl [(g0, .inr (5, [.ref ra, .ref wa, .ref ta, .int kpt, .ref ma, .int mkd, .ref pa, .int tpd, .int at0, .int wel, .ref ba, .ref ka, .int srt, .ref fa, .ref qa, .ref ea, .ref za, .ref ya, .int wks])), (ra, .inl (cI, 7, .inl (xRf rf (-4))))] H := hP
        have hD : va_D A [(g0, .inr (5, [.ref ra, .ref wa, .ref ta, .int kpt, .ref ma, .int mkd, .ref pa, .int tpd, .int at0, .int wel, .ref ba, .ref ka, .int srt, .ref fa, .ref qa, .ref ea, .ref za, .ref ya, .int wks])), (ra, .inl (cI, 7, .inl (xRf rf (-4))))] := hD
        obtain rfl : ((-4) : Int32) = r_6 := Eq.symm hw
        have hP9 := hP.sub (ws' := [(g0, .inr (5, [.ref ra, .ref wa, .ref ta, .int kpt, .ref ma, .int mkd, .ref pa, .int tpd, .int at0, .int wel, .ref ba, .ref ka, .int srt, .ref fa, .ref qa, .ref ea, .ref za, .ref ya, .int wks])), (ra, .inl (cI, 7, .inl (xRf rf (-4))))]) [0, 1] rfl
        have hD9 := hD.sub (ws' := [(g0, .inr (5, [.ref ra, .ref wa, .ref ta, .int kpt, .ref ma, .int mkd, .ref pa, .int tpd, .int at0, .int wel, .ref ba, .ref ka, .int srt, .ref fa, .ref qa, .ref ea, .ref za, .ref ya, .int wks])), (ra, .inl (cI, 7, .inl (xRf rf (-4))))]) [0, 1] (by decide) rfl
        have hE9 : ([(g0, .inr (5, [.ref ra, .ref wa, .ref ta, .int kpt, .ref ma, .int mkd, .ref pa, .int tpd, .int at0, .int wel, .ref ba, .ref ka, .int srt, .ref fa, .ref qa, .ref ea, .ref za, .ref ya, .int wks])), (ra, .inl (cI, 7, .inl (xRf rf (-4))))] : va_W) = [(g0, .inr (5, [.ref ra, .ref wa, .ref ta, .int kpt, .ref ma, .int mkd, .ref pa, .int tpd, .int at0, .int wel, .ref ba, .ref ka, .int srt, .ref fa, .ref qa, .ref ea, .ref za, .ref ya, .int wks])), (ra, .inl (cI, 7, .inl (xRq rf (qOt a1 a2 a3 a4))))] := by simp [xRq, qOt, c_1, c_3, c_5]
        refine W.widen (k := 1) (n := 9) (Nat.le_of_ble_eq_true rfl) (Nat.le_of_ble_eq_true rfl) ?_
        exact W.iret (v := -4) hx hb hr (fun t ht hW => ⟨⟨_, (), rfl, trivial, by rw [ht]; exact hE9 ▸ hP9, hE9 ▸ hD9⟩, hS.F ht⟩) hS.2.2 dX5_others_24
      · refine lv_iload hx hb dX5_others_13 (lv_at hl 4 rfl) ?_
        refine lv_if_ge (tgt := 25) hx hb dX5_others_15 (by decide) (fun c_7 => ?_) (fun c_7 => ?_)
        · refine lv_iload_n hx hb dX5_others_25 rfl (lv_at hl 1 rfl) ?_
          refine lv_bipush (v := 9) hx hb dX5_others_26 (by decide) ?_
          refine lv_icmp_gt (tgt := 50) hx hb dX5_others_28 (by decide) (fun c_8 => ?_) (fun c_8 => ?_)
          · refine lv_aload_n hx hb dX5_others_50 rfl (lv_at hl 0 rfl) ?_
            refine lv_bipush (v := -6) hx hb dX5_others_51 (by decide) ?_
            have hPc := hP.sub (ws' := [(g0, .inr (5, [.ref ra, .ref wa, .ref ta, .int kpt, .ref ma, .int mkd, .ref pa, .int tpd, .int at0, .int wel, .ref ba, .ref ka, .int srt, .ref fa, .ref qa, .ref ea, .ref za, .ref ya, .int wks])), (ra, .inl (cI, 7, .inl rf))]) [0, 1] rfl
            have hDc := hD.sub (ws' := [(g0, .inr (5, [.ref ra, .ref wa, .ref ta, .int kpt, .ref ma, .int mkd, .ref pa, .int tpd, .int at0, .int wel, .ref ba, .ref ka, .int srt, .ref fa, .ref qa, .ref ea, .ref za, .ref ya, .int wks])), (ra, .inl (cI, 7, .inl rf))]) [0, 1] (by decide) rfl
            have hFc := va_free (wc := [(g0, .inr (5, [.ref ra, .ref wa, .ref ta, .int kpt, .ref ma, .int mkd, .ref pa, .int tpd, .int at0, .int wel, .ref ba, .ref ka, .int srt, .ref fa, .ref qa, .ref ea, .ref za, .ref ya, .int wks])), (ra, .inl (cI, 7, .inl rf))]) hD hS hA [0, 1] rfl
            refine va_calli (va_runV (As := [.int (-6)]) (rest := []) ⟨hx, hb, hml, hown, hts⟩ (g_X5_no l D cI cL cZ cC _ g0 ra wa ta ma pa ba ka fa qa ea za ya kpt mkd tpd at0 wel srt wks rf (-6) (by first | assumption | decide +kernel) (by first | assumption | decide +kernel)) (cwV 1 hts gX5_others_X5_no rfl rfl rfl (by decide +kernel) ⟨Nat.le_of_ble_eq_true rfl, Nat.le_of_ble_eq_true rfl⟩) ⟨wPc_bl, va_recv hK hPc (ci := 5) (q0 := 0) rfl rfl, wPc_use hPc hK hDc⟩ rfl rfl hl.1 rfl (lv_room (Nat.le_of_ble_eq_true rfl)) dX5_others_53 ⟨Nat.le_of_ble_eq_true rfl, Nat.le_of_ble_eq_true rfl⟩) hS (fun q _ h => hFc q h) hFc (fun r_9 u_9 t H1 locs ht hvm hw hB hz1 hk1 hS => ?_)
            obtain ⟨hP1, hD1⟩ := hB
            rw [ht] at hP1
            obtain ⟨hP, hD⟩ := va_join (wr := []) (w1 := [(g0, .inr (5, [.ref ra, .ref wa, .ref ta, .int kpt, .ref ma, .int mkd, .ref pa, .int tpd, .int at0, .int wel, .ref ba, .ref ka, .int srt, .ref fa, .ref qa, .ref ea, .ref za, .ref ya, .int wks])), (ra, .inl (cI, 7, .inl (xRf rf (-6))))]) hP hD [0, 1] [] rfl rfl (by decide) (by decide) hk1 hFc hP1 hD1
            generalize H1 = H at hP hS ⊢
            have hP : va_P D vwCl [(g0, .inr (5, [.ref ra, .ref wa, .ref ta, .int kpt, .ref ma, .int mkd, .ref pa, .int tpd, .int at0, .int wel, .ref ba, .ref ka, .int srt, .ref fa, .ref qa, .ref ea, .ref za, .ref ya, .int wks])), (ra, .inl (cI, 7, .inl (xRf rf (-6))))] H := hP
            have hD : va_D A [(g0, .inr (5, [.ref ra, .ref wa, .ref ta, .int kpt, .ref ma, .int mkd, .ref pa, .int tpd, .int at0, .int wel, .ref ba, .ref ka, .int srt, .ref fa, .ref qa, .ref ea, .ref za, .ref ya, .int wks])), (ra, .inl (cI, 7, .inl (xRf rf (-6))))] := hD
            obtain rfl : ((-6) : Int32) = r_9 := Eq.symm hw
            have hP9 := hP.sub (ws' := [(g0, .inr (5, [.ref ra, .ref wa, .ref ta, .int kpt, .ref ma, .int mkd, .ref pa, .int tpd, .int at0, .int wel, .ref ba, .ref ka, .int srt, .ref fa, .ref qa, .ref ea, .ref za, .ref ya, .int wks])), (ra, .inl (cI, 7, .inl (xRf rf (-6))))]) [0, 1] rfl
            have hD9 := hD.sub (ws' := [(g0, .inr (5, [.ref ra, .ref wa, .ref ta, .int kpt, .ref ma, .int mkd, .ref pa, .int tpd, .int at0, .int wel, .ref ba, .ref ka, .int srt, .ref fa, .ref qa, .ref ea, .ref za, .ref ya, .int wks])), (ra, .inl (cI, 7, .inl (xRf rf (-6))))]) [0, 1] (by decide) rfl
            have hE9 : ([(g0, .inr (5, [.ref ra, .ref wa, .ref ta, .int kpt, .ref ma, .int mkd, .ref pa, .int tpd, .int at0, .int wel, .ref ba, .ref ka, .int srt, .ref fa, .ref qa, .ref ea, .ref za, .ref ya, .int wks])), (ra, .inl (cI, 7, .inl (xRf rf (-6))))] : va_W) = [(g0, .inr (5, [.ref ra, .ref wa, .ref ta, .int kpt, .ref ma, .int mkd, .ref pa, .int tpd, .int at0, .int wel, .ref ba, .ref ka, .int srt, .ref fa, .ref qa, .ref ea, .ref za, .ref ya, .int wks])), (ra, .inl (cI, 7, .inl (xRq rf (qOt a1 a2 a3 a4))))] := by simp [xRq, qOt, c_1, c_3, c_5, (Int32.not_lt.mpr c_7), c_8]
            refine W.widen (k := 1) (n := 9) (Nat.le_of_ble_eq_true rfl) (Nat.le_of_ble_eq_true rfl) ?_
            exact W.iret (v := -6) hx hb hr (fun t ht hW => ⟨⟨_, (), rfl, trivial, by rw [ht]; exact hE9 ▸ hP9, hE9 ▸ hD9⟩, hS.F ht⟩) hS.2.2 dX5_others_56
          · refine lv_iload_n hx hb dX5_others_31 rfl (lv_at hl 2 rfl) ?_
            refine lv_bipush (v := 30) hx hb dX5_others_32 (by decide) ?_
            refine lv_icmp_gt (tgt := 50) hx hb dX5_others_34 (by decide) (fun c_10 => ?_) (fun c_10 => ?_)
            · refine lv_aload_n hx hb dX5_others_50 rfl (lv_at hl 0 rfl) ?_
              refine lv_bipush (v := -6) hx hb dX5_others_51 (by decide) ?_
              have hPc := hP.sub (ws' := [(g0, .inr (5, [.ref ra, .ref wa, .ref ta, .int kpt, .ref ma, .int mkd, .ref pa, .int tpd, .int at0, .int wel, .ref ba, .ref ka, .int srt, .ref fa, .ref qa, .ref ea, .ref za, .ref ya, .int wks])), (ra, .inl (cI, 7, .inl rf))]) [0, 1] rfl
              have hDc := hD.sub (ws' := [(g0, .inr (5, [.ref ra, .ref wa, .ref ta, .int kpt, .ref ma, .int mkd, .ref pa, .int tpd, .int at0, .int wel, .ref ba, .ref ka, .int srt, .ref fa, .ref qa, .ref ea, .ref za, .ref ya, .int wks])), (ra, .inl (cI, 7, .inl rf))]) [0, 1] (by decide) rfl
              have hFc := va_free (wc := [(g0, .inr (5, [.ref ra, .ref wa, .ref ta, .int kpt, .ref ma, .int mkd, .ref pa, .int tpd, .int at0, .int wel, .ref ba, .ref ka, .int srt, .ref fa, .ref qa, .ref ea, .ref za, .ref ya, .int wks])), (ra, .inl (cI, 7, .inl rf))]) hD hS hA [0, 1] rfl
              refine va_calli (va_runV (As := [.int (-6)]) (rest := []) ⟨hx, hb, hml, hown, hts⟩ (g_X5_no l D cI cL cZ cC _ g0 ra wa ta ma pa ba ka fa qa ea za ya kpt mkd tpd at0 wel srt wks rf (-6) (by first | assumption | decide +kernel) (by first | assumption | decide +kernel)) (cwV 1 hts gX5_others_X5_no rfl rfl rfl (by decide +kernel) ⟨Nat.le_of_ble_eq_true rfl, Nat.le_of_ble_eq_true rfl⟩) ⟨wPc_bl, va_recv hK hPc (ci := 5) (q0 := 0) rfl rfl, wPc_use hPc hK hDc⟩ rfl rfl hl.1 rfl (lv_room (Nat.le_of_ble_eq_true rfl)) dX5_others_53 ⟨Nat.le_of_ble_eq_true rfl, Nat.le_of_ble_eq_true rfl⟩) hS (fun q _ h => hFc q h) hFc (fun r_11 u_11 t H1 locs ht hvm hw hB hz1 hk1 hS => ?_)
              obtain ⟨hP1, hD1⟩ := hB
              rw [ht] at hP1
              obtain ⟨hP, hD⟩ := va_join (wr := []) (w1 := [(g0, .inr (5, [.ref ra, .ref wa, .ref ta, .int kpt, .ref ma, .int mkd, .ref pa, .int tpd, .int at0, .int wel, .ref ba, .ref ka, .int srt, .ref fa, .ref qa, .ref ea, .ref za, .ref ya, .int wks])), (ra, .inl (cI, 7, .inl (xRf rf (-6))))]) hP hD [0, 1] [] rfl rfl (by decide) (by decide) hk1 hFc hP1 hD1
              generalize H1 = H at hP hS ⊢
              have hP : va_P D vwCl [(g0, .inr (5, [.ref ra, .ref wa, .ref ta, .int kpt, .ref ma, .int mkd, .ref pa, .int tpd, .int at0, .int wel, .ref ba, .ref ka, .int srt, .ref fa, .ref qa, .ref ea, .ref za, .ref ya, .int wks])), (ra, .inl (cI, 7, .inl (xRf rf (-6))))] H := hP
              have hD : va_D A [(g0, .inr (5, [.ref ra, .ref wa, .ref ta, .int kpt, .ref ma, .int mkd, .ref pa, .int tpd, .int at0, .int wel, .ref ba, .ref ka, .int srt, .ref fa, .ref qa, .ref ea, .ref za, .ref ya, .int wks])), (ra, .inl (cI, 7, .inl (xRf rf (-6))))] := hD
              obtain rfl : ((-6) : Int32) = r_11 := Eq.symm hw
              have hP9 := hP.sub (ws' := [(g0, .inr (5, [.ref ra, .ref wa, .ref ta, .int kpt, .ref ma, .int mkd, .ref pa, .int tpd, .int at0, .int wel, .ref ba, .ref ka, .int srt, .ref fa, .ref qa, .ref ea, .ref za, .ref ya, .int wks])), (ra, .inl (cI, 7, .inl (xRf rf (-6))))]) [0, 1] rfl
              have hD9 := hD.sub (ws' := [(g0, .inr (5, [.ref ra, .ref wa, .ref ta, .int kpt, .ref ma, .int mkd, .ref pa, .int tpd, .int at0, .int wel, .ref ba, .ref ka, .int srt, .ref fa, .ref qa, .ref ea, .ref za, .ref ya, .int wks])), (ra, .inl (cI, 7, .inl (xRf rf (-6))))]) [0, 1] (by decide) rfl
              have hE9 : ([(g0, .inr (5, [.ref ra, .ref wa, .ref ta, .int kpt, .ref ma, .int mkd, .ref pa, .int tpd, .int at0, .int wel, .ref ba, .ref ka, .int srt, .ref fa, .ref qa, .ref ea, .ref za, .ref ya, .int wks])), (ra, .inl (cI, 7, .inl (xRf rf (-6))))] : va_W) = [(g0, .inr (5, [.ref ra, .ref wa, .ref ta, .int kpt, .ref ma, .int mkd, .ref pa, .int tpd, .int at0, .int wel, .ref ba, .ref ka, .int srt, .ref fa, .ref qa, .ref ea, .ref za, .ref ya, .int wks])), (ra, .inl (cI, 7, .inl (xRq rf (qOt a1 a2 a3 a4))))] := by simp [xRq, qOt, c_1, c_3, c_5, (Int32.not_lt.mpr c_7), c_8, c_10]
              refine W.widen (k := 1) (n := 9) (Nat.le_of_ble_eq_true rfl) (Nat.le_of_ble_eq_true rfl) ?_
              exact W.iret (v := -6) hx hb hr (fun t ht hW => ⟨⟨_, (), rfl, trivial, by rw [ht]; exact hE9 ▸ hP9, hE9 ▸ hD9⟩, hS.F ht⟩) hS.2.2 dX5_others_56
            · refine lv_iload_n hx hb dX5_others_37 rfl (lv_at hl 3 rfl) ?_
              refine lv_bipush (v := 30) hx hb dX5_others_38 (by decide) ?_
              refine lv_icmp_gt (tgt := 50) hx hb dX5_others_40 (by decide) (fun c_12 => ?_) (fun c_12 => ?_)
              · refine lv_aload_n hx hb dX5_others_50 rfl (lv_at hl 0 rfl) ?_
                refine lv_bipush (v := -6) hx hb dX5_others_51 (by decide) ?_
                have hPc := hP.sub (ws' := [(g0, .inr (5, [.ref ra, .ref wa, .ref ta, .int kpt, .ref ma, .int mkd, .ref pa, .int tpd, .int at0, .int wel, .ref ba, .ref ka, .int srt, .ref fa, .ref qa, .ref ea, .ref za, .ref ya, .int wks])), (ra, .inl (cI, 7, .inl rf))]) [0, 1] rfl
                have hDc := hD.sub (ws' := [(g0, .inr (5, [.ref ra, .ref wa, .ref ta, .int kpt, .ref ma, .int mkd, .ref pa, .int tpd, .int at0, .int wel, .ref ba, .ref ka, .int srt, .ref fa, .ref qa, .ref ea, .ref za, .ref ya, .int wks])), (ra, .inl (cI, 7, .inl rf))]) [0, 1] (by decide) rfl
                have hFc := va_free (wc := [(g0, .inr (5, [.ref ra, .ref wa, .ref ta, .int kpt, .ref ma, .int mkd, .ref pa, .int tpd, .int at0, .int wel, .ref ba, .ref ka, .int srt, .ref fa, .ref qa, .ref ea, .ref za, .ref ya, .int wks])), (ra, .inl (cI, 7, .inl rf))]) hD hS hA [0, 1] rfl
                refine va_calli (va_runV (As := [.int (-6)]) (rest := []) ⟨hx, hb, hml, hown, hts⟩ (g_X5_no l D cI cL cZ cC _ g0 ra wa ta ma pa ba ka fa qa ea za ya kpt mkd tpd at0 wel srt wks rf (-6) (by first | assumption | decide +kernel) (by first | assumption | decide +kernel)) (cwV 1 hts gX5_others_X5_no rfl rfl rfl (by decide +kernel) ⟨Nat.le_of_ble_eq_true rfl, Nat.le_of_ble_eq_true rfl⟩) ⟨wPc_bl, va_recv hK hPc (ci := 5) (q0 := 0) rfl rfl, wPc_use hPc hK hDc⟩ rfl rfl hl.1 rfl (lv_room (Nat.le_of_ble_eq_true rfl)) dX5_others_53 ⟨Nat.le_of_ble_eq_true rfl, Nat.le_of_ble_eq_true rfl⟩) hS (fun q _ h => hFc q h) hFc (fun r_13 u_13 t H1 locs ht hvm hw hB hz1 hk1 hS => ?_)
                obtain ⟨hP1, hD1⟩ := hB
                rw [ht] at hP1
                obtain ⟨hP, hD⟩ := va_join (wr := []) (w1 := [(g0, .inr (5, [.ref ra, .ref wa, .ref ta, .int kpt, .ref ma, .int mkd, .ref pa, .int tpd, .int at0, .int wel, .ref ba, .ref ka, .int srt, .ref fa, .ref qa, .ref ea, .ref za, .ref ya, .int wks])), (ra, .inl (cI, 7, .inl (xRf rf (-6))))]) hP hD [0, 1] [] rfl rfl (by decide) (by decide) hk1 hFc hP1 hD1
                generalize H1 = H at hP hS ⊢
                have hP : va_P D vwCl [(g0, .inr (5, [.ref ra, .ref wa, .ref ta, .int kpt, .ref ma, .int mkd, .ref pa, .int tpd, .int at0, .int wel, .ref ba, .ref ka, .int srt, .ref fa, .ref qa, .ref ea, .ref za, .ref ya, .int wks])), (ra, .inl (cI, 7, .inl (xRf rf (-6))))] H := hP
                have hD : va_D A [(g0, .inr (5, [.ref ra, .ref wa, .ref ta, .int kpt, .ref ma, .int mkd, .ref pa, .int tpd, .int at0, .int wel, .ref ba, .ref ka, .int srt, .ref fa, .ref qa, .ref ea, .ref za, .ref ya, .int wks])), (ra, .inl (cI, 7, .inl (xRf rf (-6))))] := hD
                obtain rfl : ((-6) : Int32) = r_13 := Eq.symm hw
                have hP9 := hP.sub (ws' := [(g0, .inr (5, [.ref ra, .ref wa, .ref ta, .int kpt, .ref ma, .int mkd, .ref pa, .int tpd, .int at0, .int wel, .ref ba, .ref ka, .int srt, .ref fa, .ref qa, .ref ea, .ref za, .ref ya, .int wks])), (ra, .inl (cI, 7, .inl (xRf rf (-6))))]) [0, 1] rfl
                have hD9 := hD.sub (ws' := [(g0, .inr (5, [.ref ra, .ref wa, .ref ta, .int kpt, .ref ma, .int mkd, .ref pa, .int tpd, .int at0, .int wel, .ref ba, .ref ka, .int srt, .ref fa, .ref qa, .ref ea, .ref za, .ref ya, .int wks])), (ra, .inl (cI, 7, .inl (xRf rf (-6))))]) [0, 1] (by decide) rfl
                have hE9 : ([(g0, .inr (5, [.ref ra, .ref wa, .ref ta, .int kpt, .ref ma, .int mkd, .ref pa, .int tpd, .int at0, .int wel, .ref ba, .ref ka, .int srt, .ref fa, .ref qa, .ref ea, .ref za, .ref ya, .int wks])), (ra, .inl (cI, 7, .inl (xRf rf (-6))))] : va_W) = [(g0, .inr (5, [.ref ra, .ref wa, .ref ta, .int kpt, .ref ma, .int mkd, .ref pa, .int tpd, .int at0, .int wel, .ref ba, .ref ka, .int srt, .ref fa, .ref qa, .ref ea, .ref za, .ref ya, .int wks])), (ra, .inl (cI, 7, .inl (xRq rf (qOt a1 a2 a3 a4))))] := by simp [xRq, qOt, c_1, c_3, c_5, (Int32.not_lt.mpr c_7), c_8, c_10, c_12]
                refine W.widen (k := 1) (n := 9) (Nat.le_of_ble_eq_true rfl) (Nat.le_of_ble_eq_true rfl) ?_
                exact W.iret (v := -6) hx hb hr (fun t ht hW => ⟨⟨_, (), rfl, trivial, by rw [ht]; exact hE9 ▸ hP9, hE9 ▸ hD9⟩, hS.F ht⟩) hS.2.2 dX5_others_56
              · refine lv_iload hx hb dX5_others_43 (lv_at hl 4 rfl) ?_
                refine lv_bipush (v := 60) hx hb dX5_others_45 (by decide) ?_
                refine lv_icmp_le (tgt := 57) hx hb dX5_others_47 (by decide) (fun c_14 => ?_) (fun c_14 => ?_)
                · have e5 : qOt a1 a2 a3 a4 = 0 := by simp [qOt, c_1, c_3, c_5, (Int32.not_lt.mpr c_7), c_8, c_10, c_12, (Int32.not_lt.mpr c_14)]
                  obtain ⟨n1, rfl, hn1⟩ := xInN1 (n := 9) (by decide) c_1 c_8
                  obtain ⟨n4, rfl, hn4⟩ := xInN (n := 60) (by decide) (Int32.not_lt.mpr c_7) (Int32.not_lt.mpr c_14)
                  refine lv_iload_n hx hb dX5_others_57 rfl (lv_at hl 1 rfl) ?_
                  refine lv_istore (lv' := [(5, .int (nI n1)), (0, .ref g0), (1, .int (nI n1)), (2, .int a2), (3, .int a3), (4, .int (nI n4))]) hx hb dX5_others_58 hl (by decide) rfl (fun ls hl => ?_)
                  refine lv_iconst (v := 0) hx hb dX5_others_60 (by decide) ?_
                  refine lv_istore (lv' := [(6, .int 0), (5, .int (nI n1)), (0, .ref g0), (1, .int (nI n1)), (2, .int a2), (3, .int a3), (4, .int (nI n4))]) hx hb dX5_others_61 hl (by decide) rfl (fun ls hl => ?_)
                  refine lv_iconst (v := 0) hx hb dX5_others_63 (by decide) ?_
                  refine lv_istore (lv' := [(7, .int 0), (6, .int 0), (5, .int (nI n1)), (0, .ref g0), (1, .int (nI n1)), (2, .int a2), (3, .int a3), (4, .int (nI n4))]) hx hb dX5_others_64 hl (by decide) rfl (fun ls hl => ?_)
                  refine lv_bipush (v := 9) hx hb dX5_others_66 (by decide) ?_
                  refine va_newa (D := D) (atype := .boolean) (ty := .boolean) (N' := 9) (a0 := (9, .inl (fun _ => 0))) hx hb (hts (.arrayClass .boolean) (by decide +kernel)) rfl hK hP hD hS hA (fun _ => rfl) (by decide +kernel) (by decide +kernel) (Nat.le_of_ble_eq_true rfl) (Nat.le_of_ble_eq_true rfl) (Nat.le_of_ble_eq_true rfl) dX5_others_68 (fun q_68_15 cA H hK2 hP hD hS => ?_)
                  obtain rfl : cZ = cA := xK_uniq hK2 2 4 rfl rfl (by decide)
                  have hP : va_P D vwCl [(g0, .inr (5, [.ref ra, .ref wa, .ref ta, .int kpt, .ref ma, .int mkd, .ref pa, .int tpd, .int at0, .int wel, .ref ba, .ref ka, .int srt, .ref fa, .ref qa, .ref ea, .ref za, .ref ya, .int wks])), (ra, .inl (cI, 7, .inl rf)), (q_68_15, .inl (cZ, 9, .inl (fun _ => 0)))] H := hP
                  have hD : va_D A [(g0, .inr (5, [.ref ra, .ref wa, .ref ta, .int kpt, .ref ma, .int mkd, .ref pa, .int tpd, .int at0, .int wel, .ref ba, .ref ka, .int srt, .ref fa, .ref qa, .ref ea, .ref za, .ref ya, .int wks])), (ra, .inl (cI, 7, .inl rf)), (q_68_15, .inl (cZ, 9, .inl (fun _ => 0)))] := hD
                  refine W.widen (k := 1) (n := 9) (Nat.le_of_ble_eq_true rfl) (Nat.le_of_ble_eq_true rfl) ?_
                  refine lv_astore (lv' := [(8, .ref q_68_15), (7, .int 0), (6, .int 0), (5, .int (nI n1)), (0, .ref g0), (1, .int (nI n1)), (2, .int a2), (3, .int a3), (4, .int (nI n4))]) hx hb dX5_others_70 hl (by decide) rfl (fun ls hl => ?_)
                  refine lv_iconst (v := 1) hx hb dX5_others_72 (by decide) ?_
                  refine lv_istore (lv' := [(9, .int 1), (8, .ref q_68_15), (7, .int 0), (6, .int 0), (5, .int (nI n1)), (0, .ref g0), (1, .int (nI n1)), (2, .int a2), (3, .int a3), (4, .int (nI n4))]) hx hb dX5_others_73 hl (by decide) rfl (fun ls hl => ?_)
                  refine xl_loopH (σ := Nat × Int32 × Int32 × Int32 × (Nat → Int32)) (fun n q H locs ls => lv_has ls 11 [(9, .int (nI (q.1 + 1))), (8, .ref q_68_15), (7, .int q.2.2.2.1), (6, .int q.2.2.1), (5, .int q.2.1), (0, .ref g0), (1, .int (nI n1)), (2, .int a2), (3, .int a3), (4, .int (nI n4))] ∧ va_P D vwCl [(g0, .inr (5, [.ref ra, .ref wa, .ref ta, .int kpt, .ref ma, .int mkd, .ref pa, .int tpd, .int at0, .int wel, .ref ba, .ref ka, .int srt, .ref fa, .ref qa, .ref ea, .ref za, .ref ya, .int wks])), (ra, .inl (cI, 7, .inl rf)), (q_68_15, .inl (cZ, 9, .inl q.2.2.2.2))] H ∧ va_D A [(g0, .inr (5, [.ref ra, .ref wa, .ref ta, .int kpt, .ref ma, .int mkd, .ref pa, .int tpd, .int at0, .int wel, .ref ba, .ref ka, .int srt, .ref fa, .ref qa, .ref ea, .ref za, .ref ya, .int wks])), (ra, .inl (cI, 7, .inl rf)), (q_68_15, .inl (cZ, 9, .inl q.2.2.2.2))] ∧ va_S A s.heap H locs ∧ (n4 + 1 - q.1 < n) ∧ (q.1 ≤ n4)) (n4 + 2) (0, nI n1, 0, 0, fun _ => 0) ⟨lv_sub hl [0, 1, 2, 3, 4, 5, 6, 7, 8, 9] rfl, hP.sub [0, 1, 2] rfl, hD.sub [0, 1, 2] (by decide) rfl, hS, by (try dsimp only); exact ⟨by omega, by omega⟩⟩ (fun q H lc ls h => absurd h.2.2.2.2.1 (Nat.not_lt_zero _)) ?_
                  intro n_75 q_75 H locs ls ih_75 hI_75
                  obtain ⟨hl, hP, hD, hS, hI_75⟩ := hI_75
                  obtain ⟨k, x5, x6, x7, g⟩ := q_75
                  obtain ⟨h1, h2⟩ := hI_75
                  try dsimp only at hl hP hD h1 h2
                  refine lv_iload hx hb dX5_others_75 (lv_at hl 0 rfl) ?_
                  refine lv_iload hx hb dX5_others_77 (lv_at hl 9 rfl) ?_
                  refine lv_icmp_gt (tgt := 151) hx hb dX5_others_79 (by decide) (fun c_16 => ?_) (fun c_16 => ?_)
                  · refine lv_iload hx hb dX5_others_151 (lv_at hl 4 rfl) ?_
                    have hP9 := hP.sub (ws' := [(g0, .inr (5, [.ref ra, .ref wa, .ref ta, .int kpt, .ref ma, .int mkd, .ref pa, .int tpd, .int at0, .int wel, .ref ba, .ref ka, .int srt, .ref fa, .ref qa, .ref ea, .ref za, .ref ya, .int wks])), (ra, .inl (cI, 7, .inl rf))]) [0, 1] rfl
                    have hD9 := hD.sub (ws' := [(g0, .inr (5, [.ref ra, .ref wa, .ref ta, .int kpt, .ref ma, .int mkd, .ref pa, .int tpd, .int at0, .int wel, .ref ba, .ref ka, .int srt, .ref fa, .ref qa, .ref ea, .ref za, .ref ya, .int wks])), (ra, .inl (cI, 7, .inl rf))]) [0, 1] (by decide) rfl
                    have hE9 : ([(g0, .inr (5, [.ref ra, .ref wa, .ref ta, .int kpt, .ref ma, .int mkd, .ref pa, .int tpd, .int at0, .int wel, .ref ba, .ref ka, .int srt, .ref fa, .ref qa, .ref ea, .ref za, .ref ya, .int wks])), (ra, .inl (cI, 7, .inl rf))] : va_W) = [(g0, .inr (5, [.ref ra, .ref wa, .ref ta, .int kpt, .ref ma, .int mkd, .ref pa, .int tpd, .int at0, .int wel, .ref ba, .ref ka, .int srt, .ref fa, .ref qa, .ref ea, .ref za, .ref ya, .int wks])), (ra, .inl (cI, 7, .inl (xRq rf (qOt (nI n1) a2 a3 (nI n4)))))] := by simp [xRq, e5]
                    exact W.iret (v := x5) hx hb hr (fun t ht hW => ⟨⟨_, (), rfl, trivial, by rw [ht]; exact hE9 ▸ hP9, hE9 ▸ hD9⟩, hS.F ht⟩) hS.2.2 dX5_others_153
                  · refine lv_iload hx hb dX5_others_82 (lv_at hl 3 rfl) ?_
                    refine lv_iconst (v := 1) hx hb dX5_others_84 (by decide) ?_
                    refine lv_iload hx hb dX5_others_85 (lv_at hl 2 rfl) ?_
                    refine lv_iadd hx hb dX5_others_87 ?_
                    refine lv_iadd hx hb dX5_others_88 ?_
                    refine lv_istore (lv' := [(6, .int (x6 + (1 + x7))), (9, .int (nI (k + 1))), (8, .ref q_68_15), (7, .int x7), (5, .int x5), (0, .ref g0), (1, .int (nI n1)), (2, .int a2), (3, .int a3), (4, .int (nI n4))]) hx hb dX5_others_89 hl (by decide) rfl (fun ls hl => ?_)
                    refine lv_iconst (v := 0) hx hb dX5_others_91 (by decide) ?_
                    refine lv_istore (lv' := [(7, .int 0), (6, .int (x6 + (1 + x7))), (9, .int (nI (k + 1))), (8, .ref q_68_15), (5, .int x5), (0, .ref g0), (1, .int (nI n1)), (2, .int a2), (3, .int a3), (4, .int (nI n4))]) hx hb dX5_others_92 hl (by decide) rfl (fun ls hl => ?_)
                    refine lv_iconst (v := 0) hx hb dX5_others_94 (by decide) ?_
                    refine lv_istore (lv' := [(10, .int 0), (7, .int 0), (6, .int (x6 + (1 + x7))), (9, .int (nI (k + 1))), (8, .ref q_68_15), (5, .int x5), (0, .ref g0), (1, .int (nI n1)), (2, .int a2), (3, .int a3), (4, .int (nI n4))]) hx hb dX5_others_95 hl (by decide) rfl (fun ls hl => ?_)
                    refine xl_loopH (σ := Nat × Int32 × (Nat → Int32)) (fun n q H locs ls => lv_has ls 11 [(10, .int (nI q.1)), (7, .int q.2.1), (6, .int (x6 + (1 + x7))), (9, .int (nI (k + 1))), (8, .ref q_68_15), (5, .int x5), (0, .ref g0), (1, .int (nI n1)), (2, .int a2), (3, .int a3), (4, .int (nI n4))] ∧ va_P D vwCl [(g0, .inr (5, [.ref ra, .ref wa, .ref ta, .int kpt, .ref ma, .int mkd, .ref pa, .int tpd, .int at0, .int wel, .ref ba, .ref ka, .int srt, .ref fa, .ref qa, .ref ea, .ref za, .ref ya, .int wks])), (ra, .inl (cI, 7, .inl rf)), (q_68_15, .inl (cZ, 9, .inl q.2.2))] H ∧ va_D A [(g0, .inr (5, [.ref ra, .ref wa, .ref ta, .int kpt, .ref ma, .int mkd, .ref pa, .int tpd, .int at0, .int wel, .ref ba, .ref ka, .int srt, .ref fa, .ref qa, .ref ea, .ref za, .ref ya, .int wks])), (ra, .inl (cI, 7, .inl rf)), (q_68_15, .inl (cZ, 9, .inl q.2.2))] ∧ va_S A s.heap H locs ∧ (n1 - q.1 < n) ∧ (q.1 ≤ n1)) (n1 + 1) (0, 0, g) ⟨lv_sub hl [0, 1, 2, 3, 4, 5, 6, 7, 8, 9, 10] rfl, hP.sub [0, 1, 2] rfl, hD.sub [0, 1, 2] (by decide) rfl, hS, by (try dsimp only); exact ⟨by omega, by omega⟩⟩ (fun q H lc ls h => absurd h.2.2.2.2.1 (Nat.not_lt_zero _)) ?_
                    intro n_97 q_97 H locs ls ih_97 hI_97
                    obtain ⟨hl, hP, hD, hS, hI_97⟩ := hI_97
                    obtain ⟨i, x8, g2⟩ := q_97
                    obtain ⟨i1, i2⟩ := hI_97
                    try dsimp only at hl hP hD i1 i2
                    refine lv_iload hx hb dX5_others_97 (lv_at hl 0 rfl) ?_
                    refine lv_iload_n hx hb dX5_others_99 rfl (lv_at hl 7 rfl) ?_
                    refine lv_icmp_ge (tgt := 138) hx hb dX5_others_100 (by decide) (fun c_17 => ?_) (fun c_17 => ?_)
                    · refine lv_iload hx hb dX5_others_138 (lv_at hl 5 rfl) ?_
                      refine lv_iload hx hb dX5_others_140 (lv_at hl 1 rfl) ?_
                      refine lv_isub hx hb dX5_others_142 ?_
                      refine lv_istore (lv' := [(5, .int (x5 - x8)), (10, .int (nI i)), (7, .int x8), (6, .int (x6 + (1 + x7))), (9, .int (nI (k + 1))), (8, .ref q_68_15), (0, .ref g0), (1, .int (nI n1)), (2, .int a2), (3, .int a3), (4, .int (nI n4))]) hx hb dX5_others_143 hl (by decide) rfl (fun ls hl => ?_)
                      refine lv_iinc (v := nI (k + 1 + 1)) (lv' := [(9, .int (nI (k + 1 + 1))), (5, .int (x5 - x8)), (10, .int (nI i)), (7, .int x8), (6, .int (x6 + (1 + x7))), (8, .ref q_68_15), (0, .ref g0), (1, .int (nI n1)), (2, .int a2), (3, .int a3), (4, .int (nI n4))]) hx hb dX5_others_145 hl (k := 4) rfl (nI_1 (k + 1)) (by decide) rfl (fun ls hl => ?_)
                      refine lv_goto (tgt := 75) hx hb dX5_others_148 (by decide) ?_
                      have w := mt (nI_ltI (a := n4) (b := k + 1) (by omega) (by omega)).mpr c_16
                      exact ih_75 (k + 1, x5 - x8, x6 + (1 + x7), x8, g2) _ _ _ ⟨lv_sub hl [0, 5, 3, 4, 1, 6, 7, 8, 9, 10] rfl, hP.sub [0, 1, 2] rfl, hD.sub [0, 1, 2] (by decide) rfl, hS, by (try dsimp only); exact ⟨by omega, by omega⟩⟩
                    · refine lv_aload hx hb dX5_others_103 (lv_at hl 4 rfl) ?_
                      refine lv_iload hx hb dX5_others_105 (lv_at hl 0 rfl) ?_
                      refine va_zald (D := D) hx hb hK hP 2 2 rfl rfl (vp_in_nI (by have w := (nI_ltI (a := i) (b := n1) (by omega) (by omega)).mp (Int32.not_le.mp c_17); omega) (by decide)) dX5_others_107 ?_
                      refine lv_if_ne (tgt := 132) hx hb dX5_others_108 (by decide) (fun c_18 => ?_) (fun c_18 => ?_)
                      · refine lv_iinc (v := nI (i + 1)) (lv' := [(10, .int (nI (i + 1))), (7, .int x8), (6, .int (x6 + (1 + x7))), (9, .int (nI (k + 1))), (8, .ref q_68_15), (5, .int x5), (0, .ref g0), (1, .int (nI n1)), (2, .int a2), (3, .int a3), (4, .int (nI n4))]) hx hb dX5_others_132 hl (k := 0) rfl (nI_1 i) (by decide) rfl (fun ls hl => ?_)
                        refine lv_goto (tgt := 97) hx hb dX5_others_135 (by decide) ?_
                        have w := (nI_ltI (a := i) (b := n1) (by omega) (by omega)).mp (Int32.not_le.mp c_17)
                        exact ih_97 (i + 1, x8, g2) _ _ _ ⟨lv_sub hl [0, 1, 2, 3, 4, 5, 6, 7, 8, 9, 10] rfl, hP.sub [0, 1, 2] rfl, hD.sub [0, 1, 2] (by decide) rfl, hS, by (try dsimp only); exact ⟨by omega, by omega⟩⟩
                      · refine lv_iload hx hb dX5_others_111 (lv_at hl 0 rfl) ?_
                        refine lv_iload_n hx hb dX5_others_113 rfl (lv_at hl 8 rfl) ?_
                        refine lv_imul hx hb dX5_others_114 ?_
                        refine lv_iload_n hx hb dX5_others_115 rfl (lv_at hl 9 rfl) ?_
                        refine lv_iadd hx hb dX5_others_116 ?_
                        refine lv_iload hx hb dX5_others_117 (lv_at hl 2 rfl) ?_
                        refine lv_isub hx hb dX5_others_119 ?_
                        refine lv_if_gt (tgt := 132) hx hb dX5_others_120 (by decide) (fun c_19 => ?_) (fun c_19 => ?_)
                        · refine lv_iinc (v := nI (i + 1)) (lv' := [(10, .int (nI (i + 1))), (7, .int x8), (6, .int (x6 + (1 + x7))), (9, .int (nI (k + 1))), (8, .ref q_68_15), (5, .int x5), (0, .ref g0), (1, .int (nI n1)), (2, .int a2), (3, .int a3), (4, .int (nI n4))]) hx hb dX5_others_132 hl (k := 0) rfl (nI_1 i) (by decide) rfl (fun ls hl => ?_)
                          refine lv_goto (tgt := 97) hx hb dX5_others_135 (by decide) ?_
                          have w := (nI_ltI (a := i) (b := n1) (by omega) (by omega)).mp (Int32.not_le.mp c_17)
                          exact ih_97 (i + 1, x8, g2) _ _ _ ⟨lv_sub hl [0, 1, 2, 3, 4, 5, 6, 7, 8, 9, 10] rfl, hP.sub [0, 1, 2] rfl, hD.sub [0, 1, 2] (by decide) rfl, hS, by (try dsimp only); exact ⟨by omega, by omega⟩⟩
                        · refine lv_aload hx hb dX5_others_123 (lv_at hl 4 rfl) ?_
                          refine lv_iload hx hb dX5_others_125 (lv_at hl 0 rfl) ?_
                          refine lv_iconst (v := 1) hx hb dX5_others_127 (by decide) ?_
                          refine va_zast (D := D) hx hb hK hP hD hS 2 2 rfl rfl (vp_in_nI (by have w := (nI_ltI (a := i) (b := n1) (by omega) (by omega)).mp (Int32.not_le.mp c_17); omega) (by decide)) dX5_others_128 (fun H locs hP hD hS => ?_)
                          have hP : va_P D vwCl [(g0, .inr (5, [.ref ra, .ref wa, .ref ta, .int kpt, .ref ma, .int mkd, .ref pa, .int tpd, .int at0, .int wel, .ref ba, .ref ka, .int srt, .ref fa, .ref qa, .ref ea, .ref za, .ref ya, .int wks])), (ra, .inl (cI, 7, .inl rf)), (q_68_15, .inl (cZ, 9, .inl (upd g2 ((nI i).toNatClampNeg) 1)))] H := hP
                          have hD : va_D A [(g0, .inr (5, [.ref ra, .ref wa, .ref ta, .int kpt, .ref ma, .int mkd, .ref pa, .int tpd, .int at0, .int wel, .ref ba, .ref ka, .int srt, .ref fa, .ref qa, .ref ea, .ref za, .ref ya, .int wks])), (ra, .inl (cI, 7, .inl rf)), (q_68_15, .inl (cZ, 9, .inl (upd g2 ((nI i).toNatClampNeg) 1)))] := hD
                          refine lv_iinc (v := x8 + 1) (lv' := [(7, .int (x8 + 1)), (10, .int (nI i)), (6, .int (x6 + (1 + x7))), (9, .int (nI (k + 1))), (8, .ref q_68_15), (5, .int x5), (0, .ref g0), (1, .int (nI n1)), (2, .int a2), (3, .int a3), (4, .int (nI n4))]) hx hb dX5_others_129 hl (k := 1) rfl rfl (by decide) rfl (fun ls hl => ?_)
                          refine lv_iinc (v := nI (i + 1)) (lv' := [(10, .int (nI (i + 1))), (7, .int (x8 + 1)), (6, .int (x6 + (1 + x7))), (9, .int (nI (k + 1))), (8, .ref q_68_15), (5, .int x5), (0, .ref g0), (1, .int (nI n1)), (2, .int a2), (3, .int a3), (4, .int (nI n4))]) hx hb dX5_others_132 hl (k := 1) rfl (nI_1 i) (by decide) rfl (fun ls hl => ?_)
                          refine lv_goto (tgt := 97) hx hb dX5_others_135 (by decide) ?_
                          have w := (nI_ltI (a := i) (b := n1) (by omega) (by omega)).mp (Int32.not_le.mp c_17)
                          exact ih_97 (i + 1, x8 + 1, upd g2 ((nI i).toNatClampNeg) 1) _ _ _ ⟨lv_sub hl [0, 1, 2, 3, 4, 5, 6, 7, 8, 9, 10] rfl, hP.sub [0, 1, 2] rfl, hD.sub [0, 1, 2] (by decide) rfl, hS, by (try dsimp only); exact ⟨by omega, by omega⟩⟩
                · refine lv_aload_n hx hb dX5_others_50 rfl (lv_at hl 0 rfl) ?_
                  refine lv_bipush (v := -6) hx hb dX5_others_51 (by decide) ?_
                  have hPc := hP.sub (ws' := [(g0, .inr (5, [.ref ra, .ref wa, .ref ta, .int kpt, .ref ma, .int mkd, .ref pa, .int tpd, .int at0, .int wel, .ref ba, .ref ka, .int srt, .ref fa, .ref qa, .ref ea, .ref za, .ref ya, .int wks])), (ra, .inl (cI, 7, .inl rf))]) [0, 1] rfl
                  have hDc := hD.sub (ws' := [(g0, .inr (5, [.ref ra, .ref wa, .ref ta, .int kpt, .ref ma, .int mkd, .ref pa, .int tpd, .int at0, .int wel, .ref ba, .ref ka, .int srt, .ref fa, .ref qa, .ref ea, .ref za, .ref ya, .int wks])), (ra, .inl (cI, 7, .inl rf))]) [0, 1] (by decide) rfl
                  have hFc := va_free (wc := [(g0, .inr (5, [.ref ra, .ref wa, .ref ta, .int kpt, .ref ma, .int mkd, .ref pa, .int tpd, .int at0, .int wel, .ref ba, .ref ka, .int srt, .ref fa, .ref qa, .ref ea, .ref za, .ref ya, .int wks])), (ra, .inl (cI, 7, .inl rf))]) hD hS hA [0, 1] rfl
                  refine va_calli (va_runV (As := [.int (-6)]) (rest := []) ⟨hx, hb, hml, hown, hts⟩ (g_X5_no l D cI cL cZ cC _ g0 ra wa ta ma pa ba ka fa qa ea za ya kpt mkd tpd at0 wel srt wks rf (-6) (by first | assumption | decide +kernel) (by first | assumption | decide +kernel)) (cwV 1 hts gX5_others_X5_no rfl rfl rfl (by decide +kernel) ⟨Nat.le_of_ble_eq_true rfl, Nat.le_of_ble_eq_true rfl⟩) ⟨wPc_bl, va_recv hK hPc (ci := 5) (q0 := 0) rfl rfl, wPc_use hPc hK hDc⟩ rfl rfl hl.1 rfl (lv_room (Nat.le_of_ble_eq_true rfl)) dX5_others_53 ⟨Nat.le_of_ble_eq_true rfl, Nat.le_of_ble_eq_true rfl⟩) hS (fun q _ h => hFc q h) hFc (fun r_20 u_20 t H1 locs ht hvm hw hB hz1 hk1 hS => ?_)
                  obtain ⟨hP1, hD1⟩ := hB
                  rw [ht] at hP1
                  obtain ⟨hP, hD⟩ := va_join (wr := []) (w1 := [(g0, .inr (5, [.ref ra, .ref wa, .ref ta, .int kpt, .ref ma, .int mkd, .ref pa, .int tpd, .int at0, .int wel, .ref ba, .ref ka, .int srt, .ref fa, .ref qa, .ref ea, .ref za, .ref ya, .int wks])), (ra, .inl (cI, 7, .inl (xRf rf (-6))))]) hP hD [0, 1] [] rfl rfl (by decide) (by decide) hk1 hFc hP1 hD1
                  generalize H1 = H at hP hS ⊢
                  have hP : va_P D vwCl [(g0, .inr (5, [.ref ra, .ref wa, .ref ta, .int kpt, .ref ma, .int mkd, .ref pa, .int tpd, .int at0, .int wel, .ref ba, .ref ka, .int srt, .ref fa, .ref qa, .ref ea, .ref za, .ref ya, .int wks])), (ra, .inl (cI, 7, .inl (xRf rf (-6))))] H := hP
                  have hD : va_D A [(g0, .inr (5, [.ref ra, .ref wa, .ref ta, .int kpt, .ref ma, .int mkd, .ref pa, .int tpd, .int at0, .int wel, .ref ba, .ref ka, .int srt, .ref fa, .ref qa, .ref ea, .ref za, .ref ya, .int wks])), (ra, .inl (cI, 7, .inl (xRf rf (-6))))] := hD
                  obtain rfl : ((-6) : Int32) = r_20 := Eq.symm hw
                  have hP9 := hP.sub (ws' := [(g0, .inr (5, [.ref ra, .ref wa, .ref ta, .int kpt, .ref ma, .int mkd, .ref pa, .int tpd, .int at0, .int wel, .ref ba, .ref ka, .int srt, .ref fa, .ref qa, .ref ea, .ref za, .ref ya, .int wks])), (ra, .inl (cI, 7, .inl (xRf rf (-6))))]) [0, 1] rfl
                  have hD9 := hD.sub (ws' := [(g0, .inr (5, [.ref ra, .ref wa, .ref ta, .int kpt, .ref ma, .int mkd, .ref pa, .int tpd, .int at0, .int wel, .ref ba, .ref ka, .int srt, .ref fa, .ref qa, .ref ea, .ref za, .ref ya, .int wks])), (ra, .inl (cI, 7, .inl (xRf rf (-6))))]) [0, 1] (by decide) rfl
                  have hE9 : ([(g0, .inr (5, [.ref ra, .ref wa, .ref ta, .int kpt, .ref ma, .int mkd, .ref pa, .int tpd, .int at0, .int wel, .ref ba, .ref ka, .int srt, .ref fa, .ref qa, .ref ea, .ref za, .ref ya, .int wks])), (ra, .inl (cI, 7, .inl (xRf rf (-6))))] : va_W) = [(g0, .inr (5, [.ref ra, .ref wa, .ref ta, .int kpt, .ref ma, .int mkd, .ref pa, .int tpd, .int at0, .int wel, .ref ba, .ref ka, .int srt, .ref fa, .ref qa, .ref ea, .ref za, .ref ya, .int wks])), (ra, .inl (cI, 7, .inl (xRq rf (qOt a1 a2 a3 a4))))] := by simp [xRq, qOt, c_1, c_3, c_5, (Int32.not_lt.mpr c_7), c_8, c_10, c_12, (Int32.not_le.mp c_14)]
                  refine W.widen (k := 1) (n := 9) (Nat.le_of_ble_eq_true rfl) (Nat.le_of_ble_eq_true rfl) ?_
                  exact W.iret (v := -6) hx hb hr (fun t ht hW => ⟨⟨_, (), rfl, trivial, by rw [ht]; exact hE9 ▸ hP9, hE9 ▸ hD9⟩, hS.F ht⟩) hS.2.2 dX5_others_56
        · refine lv_aload_n hx hb dX5_others_18 rfl (lv_at hl 0 rfl) ?_
          refine lv_bipush (v := -4) hx hb dX5_others_19 (by decide) ?_
          have hPc := hP.sub (ws' := [(g0, .inr (5, [.ref ra, .ref wa, .ref ta, .int kpt, .ref ma, .int mkd, .ref pa, .int tpd, .int at0, .int wel, .ref ba, .ref ka, .int srt, .ref fa, .ref qa, .ref ea, .ref za, .ref ya, .int wks])), (ra, .inl (cI, 7, .inl rf))]) [0, 1] rfl
          have hDc := hD.sub (ws' := [(g0, .inr (5, [.ref ra, .ref wa, .ref ta, .int kpt, .ref ma, .int mkd, .ref pa, .int tpd, .int at0, .int wel, .ref ba, .ref ka, .int srt, .ref fa, .ref qa, .ref ea, .ref za, .ref ya, .int wks])), (ra, .inl (cI, 7, .inl rf))]) [0, 1] (by decide) rfl
          have hFc := va_free (wc := [(g0, .inr (5, [.ref ra, .ref wa, .ref ta, .int kpt, .ref ma, .int mkd, .ref pa, .int tpd, .int at0, .int wel, .ref ba, .ref ka, .int srt, .ref fa, .ref qa, .ref ea, .ref za, .ref ya, .int wks])), (ra, .inl (cI, 7, .inl rf))]) hD hS hA [0, 1] rfl
          refine va_calli (va_runV (As := [.int (-4)]) (rest := []) ⟨hx, hb, hml, hown, hts⟩ (g_X5_no l D cI cL cZ cC _ g0 ra wa ta ma pa ba ka fa qa ea za ya kpt mkd tpd at0 wel srt wks rf (-4) (by first | assumption | decide +kernel) (by first | assumption | decide +kernel)) (cwV 1 hts gX5_others_X5_no rfl rfl rfl (by decide +kernel) ⟨Nat.le_of_ble_eq_true rfl, Nat.le_of_ble_eq_true rfl⟩) ⟨wPc_bl, va_recv hK hPc (ci := 5) (q0 := 0) rfl rfl, wPc_use hPc hK hDc⟩ rfl rfl hl.1 rfl (lv_room (Nat.le_of_ble_eq_true rfl)) dX5_others_21 ⟨Nat.le_of_ble_eq_true rfl, Nat.le_of_ble_eq_true rfl⟩) hS (fun q _ h => hFc q h) hFc (fun r_21 u_21 t H1 locs ht hvm hw hB hz1 hk1 hS => ?_)
          obtain ⟨hP1, hD1⟩ := hB
          rw [ht] at hP1
          obtain ⟨hP, hD⟩ := va_join (wr := []) (w1 := [(g0, .inr (5, [.ref ra, .ref wa, .ref ta, .int kpt, .ref ma, .int mkd, .ref pa, .int tpd, .int at0, .int wel, .ref ba, .ref ka, .int srt, .ref fa, .ref qa, .ref ea, .ref za, .ref ya, .int wks])), (ra, .inl (cI, 7, .inl (xRf rf (-4))))]) hP hD [0, 1] [] rfl rfl (by decide) (by decide) hk1 hFc hP1 hD1
          generalize H1 = H at hP hS ⊢
          have hP : va_P D vwCl [(g0, .inr (5, [.ref ra, .ref wa, .ref ta, .int kpt, .ref ma, .int mkd, .ref pa, .int tpd, .int at0, .int wel, .ref ba, .ref ka, .int srt, .ref fa, .ref qa, .ref ea, .ref za, .ref ya, .int wks])), (ra, .inl (cI, 7, .inl (xRf rf (-4))))] H := hP
          have hD : va_D A [(g0, .inr (5, [.ref ra, .ref wa, .ref ta, .int kpt, .ref ma, .int mkd, .ref pa, .int tpd, .int at0, .int wel, .ref ba, .ref ka, .int srt, .ref fa, .ref qa, .ref ea, .ref za, .ref ya, .int wks])), (ra, .inl (cI, 7, .inl (xRf rf (-4))))] := hD
          obtain rfl : ((-4) : Int32) = r_21 := Eq.symm hw
          have hP9 := hP.sub (ws' := [(g0, .inr (5, [.ref ra, .ref wa, .ref ta, .int kpt, .ref ma, .int mkd, .ref pa, .int tpd, .int at0, .int wel, .ref ba, .ref ka, .int srt, .ref fa, .ref qa, .ref ea, .ref za, .ref ya, .int wks])), (ra, .inl (cI, 7, .inl (xRf rf (-4))))]) [0, 1] rfl
          have hD9 := hD.sub (ws' := [(g0, .inr (5, [.ref ra, .ref wa, .ref ta, .int kpt, .ref ma, .int mkd, .ref pa, .int tpd, .int at0, .int wel, .ref ba, .ref ka, .int srt, .ref fa, .ref qa, .ref ea, .ref za, .ref ya, .int wks])), (ra, .inl (cI, 7, .inl (xRf rf (-4))))]) [0, 1] (by decide) rfl
          have hE9 : ([(g0, .inr (5, [.ref ra, .ref wa, .ref ta, .int kpt, .ref ma, .int mkd, .ref pa, .int tpd, .int at0, .int wel, .ref ba, .ref ka, .int srt, .ref fa, .ref qa, .ref ea, .ref za, .ref ya, .int wks])), (ra, .inl (cI, 7, .inl (xRf rf (-4))))] : va_W) = [(g0, .inr (5, [.ref ra, .ref wa, .ref ta, .int kpt, .ref ma, .int mkd, .ref pa, .int tpd, .int at0, .int wel, .ref ba, .ref ka, .int srt, .ref fa, .ref qa, .ref ea, .ref za, .ref ya, .int wks])), (ra, .inl (cI, 7, .inl (xRq rf (qOt a1 a2 a3 a4))))] := by simp [xRq, qOt, c_1, c_3, c_5, (Int32.not_le.mp c_7)]
          refine W.widen (k := 1) (n := 9) (Nat.le_of_ble_eq_true rfl) (Nat.le_of_ble_eq_true rfl) ?_
          exact W.iret (v := -4) hx hb hr (fun t ht hW => ⟨⟨_, (), rfl, trivial, by rw [ht]; exact hE9 ▸ hP9, hE9 ▸ hD9⟩, hS.F ht⟩) hS.2.2 dX5_others_24

/-! what holds of both sides between two calls -/
def xVc (st ln : Nat) (ho pa : Int32) (lg : Nat → Int32) : Prop := (1 ≤ st ∧ st ≤ 7) ∧ ln ≤ 3 ∧ (∃ v, pa = nI v ∧ 20 ≤ v ∧ v ≤ 200) ∧ (∃ v, ho = nI v ∧ v ≤ 999) ∧ (∀ j, 1 ≤ j → j < st → ∃ v, lg j = nI v ∧ v ≤ 999)
theorem xWay {a v : Nat} (ha : a ≤ 999) (h1 : 1 ≤ v) (h2 : v ≤ 200) : ∃ w, w ≤ 1000 ∧ (nI a + nI v - 1) / nI v = nI w := by
  refine ⟨(a + v - 1) / v, ?_, ?_⟩
  · have h : (a + v - 1) / v ≤ a + v - 1 := Nat.div_le_self _ _
    have h3 : (a + v - 1) / v < 1001 := (Nat.div_lt_iff_lt_mul (by omega)).mpr (by
      have : 1001 * 1 ≤ 1001 * v := Nat.mul_le_mul_left _ h1
      omega)
    omega
  · rw [nI_add, show nI (a + v) - 1 = nI (a + v - 1) from pk_sub (a := a + v) (b := 1) (by omega)]
    exact pk_div (by omega) (by omega) (by omega)
theorem xVc_wy {st ln : Nat} {ho pa : Int32} {lg : Nat → Int32} (h : xVc st ln ho pa lg) : ∀ i, i < st → ∃ w, w ≤ 1000 ∧ xWy (xYd st ho lg i) pa = nI w := by
  obtain ⟨⟨a1, a2⟩, b, ⟨v, e, c1, c2⟩, ⟨u, e2, d⟩, g⟩ := h
  intro i hi
  have hq : ¬ pa < 1 := by rw [e]; exact mt (nI_ltI (a := v) (b := 1) (by omega) (by decide)).mp (by omega)
  have hy : ∃ z, xYd st ho lg i = nI z ∧ z ≤ 999 := by
    unfold xYd
    by_cases q : i + 1 < st
    · rw [if_pos q]; exact g (i + 1) (by omega) q
    · rw [if_neg q]; exact ⟨u, e2, d⟩
  obtain ⟨z, ez, hz⟩ := hy
  unfold xWy
  rw [if_neg hq, ez, e]
  exact xWay hz (by omega) c2
theorem xVd_wn {nw : Nat → Int32} {st ln : Nat} (h : xVd nw st ln) : ∃ wn : Nat → Nat, ∀ j, 1 ≤ j → j ≤ st → (xLm nw st j + nw 2 - 1) / nw 2 = nI (wn j) ∧ wn j ≤ 1000 := by
  obtain ⟨⟨a0, a1, a2⟩, b, ⟨v, e, c1, c2⟩, ⟨u, e2, d⟩, g, -⟩ := h
  have key : ∀ j, ∃ w, 1 ≤ j → j ≤ st → (xLm nw st j + nw 2 - 1) / nw 2 = nI w ∧ w ≤ 1000 := by
    intro j
    by_cases q : 1 ≤ j ∧ j ≤ st
    · have hy : ∃ z, xLm nw st j = nI z ∧ z ≤ 999 := by
        unfold xLm
        by_cases r : j = st
        · rw [if_pos r]; exact ⟨u, e2, d⟩
        · rw [if_neg r]; exact g j q.1 (by omega)
      obtain ⟨z, ez, hz⟩ := hy
      obtain ⟨w, hw, ew⟩ := xWay hz (show 1 ≤ v by omega) c2
      exact ⟨w, fun _ _ => ⟨by rw [ez, e]; exact ew, hw⟩⟩
    · exact ⟨0, fun h1 h2 => absurd ⟨h1, h2⟩ q⟩
  obtain ⟨wn, hw⟩ := Classical.axiomOfChoice key
  exact ⟨wn, hw⟩
theorem xVd_q2 {nw : Nat → Int32} {st ln : Nat} (h : xVd nw st ln) : ¬ nw 2 = 0 ∧ ¬ 2 * nw 2 = 0 := by
  obtain ⟨-, -, ⟨v, e, c1, c2⟩, -⟩ := h
  rw [e]
  exact ⟨nI_ne0 (by omega) (by omega), by rw [show (2 : Int32) * nI v = nI (2 * v) from pk_mul 2 v]; exact nI_ne0 (by omega) (by omega)⟩
theorem xCpy_lo {f g : Nat → Int32} {n j : Nat} (h : j < n) : va_cpy f g 0 0 n j = f j := (pk_cpy_in (Nat.zero_le j) (by omega)).trans (congrArg f (by omega))
theorem xVc_cpy {st ln : Nat} {ho pa : Int32} {lg g : Nat → Int32} (h : xVc st ln ho pa lg) : xVc st ln ho pa (va_cpy lg g 0 0 7) := by
  obtain ⟨a, b, c, d, e⟩ := h
  exact ⟨a, b, c, d, fun j h1 h2 => by rw [xCpy_lo (by omega)]; exact e j h1 h2⟩
theorem xRng {v : Int32} {a b : Nat} (ha : a < 2 ^ 31) (hb : b < 2 ^ 31) (h1 : ¬ v < nI a) (h2 : ¬ nI b < v) : ∃ k, v = nI k ∧ a ≤ k ∧ k ≤ b := by
  rw [xi_lt, nI_toInt ha] at h1
  rw [xi_lt, nI_toInt hb] at h2
  refine ⟨v.toInt.toNat, ?_, by omega, by omega⟩
  rw [xi_eq, nI_toInt (by omega)]
  omega
theorem xCg_V0 {q v ho : Int32} (h : ∃ k, ho = nI k ∧ k ≤ 999) : ∃ k, xCg q v 0 ho = nI k ∧ k ≤ 999 := by
  unfold xCg
  by_cases h1 : v < sLe q
  · rw [if_pos h1]; exact h
  rw [if_neg h1]
  by_cases h2 : sMo q < v
  · rw [if_pos h2]; exact h
  rw [if_neg h2]
  by_cases h3 : q = 0
  · rw [if_pos h3]
    subst h3
    obtain ⟨k, e, -, hk⟩ := xRng (v := v) (a := 0) (b := 999) (by decide) (by decide) h1 h2
    exact ⟨k, e, hk⟩
  · rw [if_neg h3]; exact h
theorem xCg_V1 {q v pa : Int32} (h : ∃ k, pa = nI k ∧ 20 ≤ k ∧ k ≤ 200) : ∃ k, xCg q v 1 pa = nI k ∧ 20 ≤ k ∧ k ≤ 200 := by
  unfold xCg
  by_cases h1 : v < sLe q
  · rw [if_pos h1]; exact h
  rw [if_neg h1]
  by_cases h2 : sMo q < v
  · rw [if_pos h2]; exact h
  rw [if_neg h2]
  by_cases h3 : q = 1
  · rw [if_pos h3]
    subst h3
    exact xRng (v := v) (a := 20) (b := 200) (by decide) (by decide) h1 h2
  · rw [if_neg h3]; exact h
theorem xVc_as {st ln : Nat} {ho pa v : Int32} {lg : Nat → Int32} (h : xVc st ln ho pa lg) : xVc (xAsN st v) ln ho pa (xAsL st v lg) := by
  obtain ⟨⟨a1, a2⟩, b, c, d, e⟩ := h
  unfold xAsN xAsL
  by_cases h1 : v < 1
  · rw [if_pos h1, if_pos h1]; exact ⟨⟨a1, a2⟩, b, c, d, e⟩
  rw [if_neg h1, if_neg h1]
  by_cases h2 : 999 < v
  · rw [if_pos h2, if_pos h2]; exact ⟨⟨a1, a2⟩, b, c, d, e⟩
  rw [if_neg h2, if_neg h2]
  by_cases h3 : st < 7
  · rw [if_pos h3, if_pos h3]
    refine ⟨⟨by omega, by omega⟩, b, c, d, fun j j1 j2 => ?_⟩
    by_cases q : j = st
    · subst q
      obtain ⟨k, ek, -, hk⟩ := xRng (v := v) (a := 1) (b := 999) (by decide) (by decide) h1 h2
      exact ⟨k, by rw [pk_us]; exact ek, hk⟩
    · rw [pk_un q]; exact e j j1 (by omega)
  · rw [if_neg h3, if_neg h3]; exact ⟨⟨a1, a2⟩, b, c, d, e⟩
def xVT (T : xT) : Prop := xVc T.1 T.2.1 T.2.2.1 T.2.2.2.1 T.2.2.2.2.2.2.1
theorem xVT_S (lt : Nat → Int32) (len p : Nat) (T : xT) (h : xVT T) : xVT (xTS lt len p T).1 := by
  obtain ⟨st, ln, ho, pa, si, li, lg, ki, ru, ne, ch⟩ := T
  have h : xVc st ln ho pa lg := h
  simp only [xTS]
  have h0 := h
  obtain ⟨a, b, c, d, e⟩ := h0
  repeat' split
  · exact xVc_as h
  · exact ⟨a, b, xCg_V1 c, xCg_V0 d, e⟩
  · exact ⟨a, b, xCg_V1 c, xCg_V0 d, e⟩
  · exact ⟨a, b, xCg_V1 c, xCg_V0 d, e⟩
  · exact ⟨a, b, xCg_V1 c, xCg_V0 d, e⟩
  · simp only [xTL]
    split
    · exact ⟨a, by show ln + 1 ≤ 3; omega, c, d, e⟩
    · exact h
theorem xVT_L (lt : Nat → Int32) (len : Nat) : ∀ (n p : Nat) (T : xT) (k : Nat), xVT T → xVT (xRL lt len n p T k).1
  | 0, _, _, _, h => h
  | n + 1, p, T, k, h => by
    simp only [xRL]
    split
    · split
      · exact xVT_S lt len p T h
      · exact xVT_L lt len n _ _ _ (xVT_S lt len p T h)
    · exact h
theorem xVT_O (lt : Nat → Int32) (len : Nat) (T : xT) (h : xVT T) : xVT (xRO lt len T).1 := by
  unfold xRO
  split
  · exact xVT_L lt len len 0 T 0 h
  · exact h
theorem xVc_ip {a : Int32} {st ln st' ln' : Nat} {ho pa ho' pa' : Int32} {lg lg' : Nat → Int32} (h : xVc st ln ho pa lg) (h' : xVc st' ln' ho' pa' lg') : xVc (xIp a st' st) (xIp a ln' ln) (xIp a ho' ho) (xIp a pa' pa) (xIp a lg' lg) := by
  unfold xIp
  by_cases q : 0 < a
  · simp only [if_pos q]; exact h'
  · simp only [if_neg q]; exact h
theorem xVc_set {st ln : Nat} {ho pa : Int32} {lg : Nat → Int32} (a1 a2 : Int32) (h : xVc st ln ho pa lg) : xVc st ln (xIf (qSe a1 a2) (xCg a1 a2 0 ho) ho) (xIf (qSe a1 a2) (xCg a1 a2 1 pa) pa) lg := by
  obtain ⟨a, b, c, d, e⟩ := h
  unfold xIf
  by_cases q : qSe a1 a2 = 0
  · rw [if_pos q, if_pos q]; exact ⟨a, b, xCg_V1 c, xCg_V0 d, e⟩
  · rw [if_neg q, if_neg q]; exact ⟨a, b, c, d, e⟩
theorem qSe_0 {a1 a2 : Int32} (h : qSe a1 a2 = 0) : ¬ a2 < sLe a1 ∧ ¬ sMo a1 < a2 := by
  unfold qSe at h
  repeat' split at h
  all_goals first | exact absurd h (by decide) | exact ⟨by assumption, by assumption⟩
theorem xVd_set {nw : Nat → Int32} {st ln : Nat} (a1 a2 : Int32) (h : xVd nw st ln) : xVd (x5Se nw a1 a2) st ln := by
  unfold x5Se
  by_cases q : qSe a1 a2 = 0
  · rw [if_pos q]
    obtain ⟨q1, q2⟩ := qSe_0 q
    obtain ⟨⟨x1, x2, x3⟩, ⟨b1, b2⟩, ⟨v2, c1, c2, c3⟩, ⟨v1, d1, d2⟩, e, w⟩ := h
    have hw : ∀ (k : Nat) (x : Int32) (hk : k < 10), ∀ j, j < ln → ¬ xWs (fun i => upd nw k x (20 + 16 * j + i)) 0 = 0 := by
      intro k x hk j hj
      rw [xWs_ag (g := fun i => nw (20 + 16 * j + i)) (fun i hi => pk_un (by omega))]
      exact w j hj
    have gen : ∀ k, k = 4 ∨ k = 5 → xVd (upd nw k a2) st ln := fun k hk =>
      ⟨⟨by rw [pk_un (by omega)]; exact x1, x2, x3⟩, ⟨by rw [pk_un (by omega)]; exact b1, b2⟩, ⟨v2, by rw [pk_un (by omega)]; exact c1, c2, c3⟩, ⟨v1, by rw [pk_un (by omega)]; exact d1, d2⟩, fun j j1 j2 => by rw [pk_un (by omega)]; exact e j j1 j2, hw k a2 (by omega)⟩
    unfold x5Pl
    by_cases h0 : a1 = 0
    · rw [if_pos h0]
      subst h0
      obtain ⟨k, ek, -, hk⟩ := xRng (v := a2) (a := 0) (b := 999) (by decide) (by decide) q1 q2
      exact ⟨⟨by rw [pk_un (by omega)]; exact x1, x2, x3⟩, ⟨by rw [pk_un (by omega)]; exact b1, b2⟩, ⟨v2, by rw [pk_un (by omega)]; exact c1, c2, c3⟩, ⟨k, by rw [pk_us]; exact ek, hk⟩, fun j j1 j2 => by rw [pk_un (by omega)]; exact e j j1 j2, hw 1 a2 (by decide)⟩
    rw [if_neg h0]
    by_cases h1 : a1 = 1
    · rw [if_pos h1]
      subst h1
      obtain ⟨k, ek, hk1, hk⟩ := xRng (v := a2) (a := 20) (b := 200) (by decide) (by decide) q1 q2
      exact ⟨⟨by rw [pk_un (by omega)]; exact x1, x2, x3⟩, ⟨by rw [pk_un (by omega)]; exact b1, b2⟩, ⟨k, by rw [pk_us]; exact ek, hk1, hk⟩, ⟨v1, by rw [pk_un (by omega)]; exact d1, d2⟩, fun j j1 j2 => by rw [pk_un (by omega)]; exact e j j1 j2, hw 2 a2 (by decide)⟩
    rw [if_neg h1]
    by_cases h2 : a1 = 2
    · rw [if_pos h2]; exact gen 4 (Or.inl rfl)
    · rw [if_neg h2]; exact gen 5 (Or.inr rfl)
  · rw [if_neg q]; exact h
theorem xVd_ag {f g : Nat → Int32} {st ln : Nat} (h : xVd f st ln) (hfg : ∀ i, i < 70 → g i = f i) : xVd g st ln := by
  obtain ⟨⟨x1, x2, x3⟩, ⟨b1, b2⟩, ⟨v2, c1, c2, c3⟩, ⟨v1, d1, d2⟩, e, w⟩ := h
  refine ⟨⟨by rw [hfg 0 (by decide)]; exact x1, x2, x3⟩, ⟨by rw [hfg 3 (by decide)]; exact b1, b2⟩, ⟨v2, by rw [hfg 2 (by decide)]; exact c1, c2, c3⟩, ⟨v1, by rw [hfg 1 (by decide)]; exact d1, d2⟩, fun j j1 j2 => by rw [hfg (10 + j) (by omega)]; exact e j j1 j2, fun j hj => ?_⟩
  rw [xWs_ag (g := fun i => f (20 + 16 * j + i)) (fun i hi => hfg _ (by omega))]
  exact w j hj
theorem xVd_cp {f g : Nat → Int32} {st ln : Nat} (h : xVd f st ln) : xVd (xCp f g 70) st ln := xVd_ag h (fun i hi => if_pos hi)
theorem xLen96 {len : Nat} {a : Int32} (h : len ≤ 96) : (if qLe len a = 0 then xLn len else len) ≤ 96 := by
  by_cases q : qLe len a = 0
  · rw [if_pos q]; unfold xLn; split <;> omega
  · rw [if_neg q]; exact h
theorem xRn12 {cn : Nat} {a : Int32} (h : cn ≤ 12) : xRn cn a ≤ 12 := by
  unfold xRn
  by_cases q : qRo cn a = 0
  · rw [if_pos q]
    unfold qRo at q
    repeat' split at q
    all_goals first | exact absurd q (by decide) | (rename_i w; have := (nI_ltI (a := cn) (b := 12) (by omega) (by decide)).mp w; omega)
  · rw [if_neg q]; exact h
