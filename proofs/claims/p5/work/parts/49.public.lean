set_option maxHeartbeats 4000000 in
set_option maxRecDepth 100000 in
theorem g_X4_letMean (l : Launch) (D : va_G) (cI cL cZ cC : ClassId) (sz : Nat) (h0 : Nat) (rd : Nat) (dr : Nat) (kp : Nat) (pl : Nat) (tx : Nat) (nu : Nat) (rf_a : Nat) (nc : Int32) (hi : Int32) (pd : Int32) (r0 : Nat) (r1 : Nat) (st : Nat) (ln : Nat) (ho : Int32) (pa : Int32) (si : Int32) (li : Int32) (lg : Nat → Int32) (la : Nat → Nat) (lk : Nat → Nat) (ki : Nat → Int32) (ru : Nat → Int32) (ne : Nat → Int32) (ch : Nat → Nat → Int32) (rf : Nat → Int32) (a1 : Int32) (a2 : Int32) (a3 : Int32) (a4 : Int32) (hs1 : 1 ≤ st) (hs7 : st ≤ 7) (hln : ln ≤ 3) : Met l yX4_letMean wsX4_letMean ({ frames := 6, cells := 0, slots := 0, locals := 147 } : Room) (wPc D [.ref h0, .int a1, .int a2, .int a3, .int a4] [(h0, .inr (4, [.ref rd, .ref dr, .ref kp, .ref pl, .ref tx, .ref nu, .ref rf_a, .int nc, .int hi, .int pd])), (rd, .inr (2, [.int (nI st), .int ho, .int pa, .int si, .int li, .int (nI ln), .ref r0, .ref r1])), (r0, .inl (cI, 7, .inl lg)), (r1, .inl (cL, 3, .inr (.inr (.inr (.inr (xL3 (la 0) (la 1) (la 2))))))), (la 0, .inr (0, [.int (ki 0), .int (ru 0), .int (ne 0), .ref (lk 0)])), (lk 0, .inl (cI, 12, .inl (ch 0))), (la 1, .inr (0, [.int (ki 1), .int (ru 1), .int (ne 1), .ref (lk 1)])), (lk 1, .inl (cI, 12, .inl (ch 1))), (la 2, .inr (0, [.int (ki 2), .int (ru 2), .int (ne 2), .ref (lk 2)])), (lk 2, .inl (cI, 12, .inl (ch 2))), (rf_a, .inl (cI, 7, .inl rf))] (xTy cI cL cZ cC) sz) (va_Ql (fun (r : Int64) (_ : Unit) => r = if qLm ln a1 a2 a3 a4 = 0 then vLm st ho pa li lg ki ru ne ch a1 a2 a3 a4 else xLg (qLm ln a1 a2 a3 a4)) (fun (_ : Unit) t => va_P D vwCl [(h0, .inr (4, [.ref rd, .ref dr, .ref kp, .ref pl, .ref tx, .ref nu, .ref rf_a, .int nc, .int hi, .int pd])), (rd, .inr (2, [.int (nI st), .int ho, .int pa, .int si, .int li, .int (nI ln), .ref r0, .ref r1])), (r0, .inl (cI, 7, .inl lg)), (r1, .inl (cL, 3, .inr (.inr (.inr (.inr (xL3 (la 0) (la 1) (la 2))))))), (la 0, .inr (0, [.int (ki 0), .int (ru 0), .int (ne 0), .ref (lk 0)])), (lk 0, .inl (cI, 12, .inl (ch 0))), (la 1, .inr (0, [.int (ki 1), .int (ru 1), .int (ne 1), .ref (lk 1)])), (lk 1, .inl (cI, 12, .inl (ch 1))), (la 2, .inr (0, [.int (ki 2), .int (ru 2), .int (ne 2), .ref (lk 2)])), (lk 2, .inl (cI, 12, .inl (ch 2))), (rf_a, .inl (cI, 7, .inl (xRq rf (qLm ln a1 a2 a3 a4))))] t.heap ∧ va_D (va_A [(h0, .inr (4, [.ref rd, .ref dr, .ref kp, .ref pl, .ref tx, .ref nu, .ref rf_a, .int nc, .int hi, .int pd])), (rd, .inr (2, [.int (nI st), .int ho, .int pa, .int si, .int li, .int (nI ln), .ref r0, .ref r1])), (r0, .inl (cI, 7, .inl lg)), (r1, .inl (cL, 3, .inr (.inr (.inr (.inr (xL3 (la 0) (la 1) (la 2))))))), (la 0, .inr (0, [.int (ki 0), .int (ru 0), .int (ne 0), .ref (lk 0)])), (lk 0, .inl (cI, 12, .inl (ch 0))), (la 1, .inr (0, [.int (ki 1), .int (ru 1), .int (ne 1), .ref (lk 1)])), (lk 1, .inl (cI, 12, .inl (ch 1))), (la 2, .inr (0, [.int (ki 2), .int (ru 2), .int (ne 2), .ref (lk 2)])), (lk 2, .inl (cI, 12, .inl (ch 2))), (rf_a, .inl (cI, 7, .inl rf))] sz) [(h0, .inr (4, [.ref rd, .ref dr, .ref kp, .ref pl, .ref tx, .ref nu, .ref rf_a, .int nc, .int hi, .int pd])), (rd, .inr (2, [.int (nI st), .int ho, .int pa, .int si, .int li, .int (nI ln), .ref r0, .ref r1])), (r0, .inl (cI, 7, .inl lg)), (r1, .inl (cL, 3, .inr (.inr (.inr (.inr (xL3 (la 0) (la 1) (la 2))))))), (la 0, .inr (0, [.int (ki 0), .int (ru 0), .int (ne 0), .ref (lk 0)])), (lk 0, .inl (cI, 12, .inl (ch 0))), (la 1, .inr (0, [.int (ki 1), .int (ru 1), .int (ne 1), .ref (lk 1)])), (lk 1, .inl (cI, 12, .inl (ch 1))), (la 2, .inr (0, [.int (ki 2), .int (ru 2), .int (ne 2), .ref (lk 2)])), (lk 2, .inl (cI, 12, .inl (ch 2))), (rf_a, .inl (cI, 7, .inl (xRq rf (qLm ln a1 a2 a3 a4))))]) (va_A [(h0, .inr (4, [.ref rd, .ref dr, .ref kp, .ref pl, .ref tx, .ref nu, .ref rf_a, .int nc, .int hi, .int pd])), (rd, .inr (2, [.int (nI st), .int ho, .int pa, .int si, .int li, .int (nI ln), .ref r0, .ref r1])), (r0, .inl (cI, 7, .inl lg)), (r1, .inl (cL, 3, .inr (.inr (.inr (.inr (xL3 (la 0) (la 1) (la 2))))))), (la 0, .inr (0, [.int (ki 0), .int (ru 0), .int (ne 0), .ref (lk 0)])), (lk 0, .inl (cI, 12, .inl (ch 0))), (la 1, .inr (0, [.int (ki 1), .int (ru 1), .int (ne 1), .ref (lk 1)])), (lk 1, .inl (cI, 12, .inl (ch 1))), (la 2, .inr (0, [.int (ki 2), .int (ru 2), .int (ne 2), .ref (lk 2)])), (lk 2, .inl (cI, 12, .inl (ch 2))), (rf_a, .inl (cI, 7, .inl rf))] sz)) 0 0 (va_A [(h0, .inr (4, [.ref rd, .ref dr, .ref kp, .ref pl, .ref tx, .ref nu, .ref rf_a, .int nc, .int hi, .int pd])), (rd, .inr (2, [.int (nI st), .int ho, .int pa, .int si, .int li, .int (nI ln), .ref r0, .ref r1])), (r0, .inl (cI, 7, .inl lg)), (r1, .inl (cL, 3, .inr (.inr (.inr (.inr (xL3 (la 0) (la 1) (la 2))))))), (la 0, .inr (0, [.int (ki 0), .int (ru 0), .int (ne 0), .ref (lk 0)])), (lk 0, .inl (cI, 12, .inl (ch 0))), (la 1, .inr (0, [.int (ki 1), .int (ru 1), .int (ne 1), .ref (lk 1)])), (lk 1, .inl (cI, 12, .inl (ch 1))), (la 2, .inr (0, [.int (ki 2), .int (ru 2), .int (ne 2), .ref (lk 2)])), (lk 2, .inl (cI, 12, .inl (ch 2))), (rf_a, .inl (cI, 7, .inl rf))] sz) := by
  refine Met.ofW (cc := cX4_letMean) (maxL := 5) (ret := (some .long)) (by decide) rfl ?_
  intro p e s m args below meth c s₁ B hml hv
  obtain ⟨rfl, hsz, hP, hK, hD0⟩ := hv
  have hx := B.exec
  have hb := B.bytes
  have hr := B.returns
  have hts := atoms_spec (ws := wsX4_letMean) B.pre
  have hown : s.vm.findClass RX4 = some m.cls := findClass_of_methodNamed B.named
  have hlocks := B.notSynchronized
  subst hsz
  have hD := hD0.self (sz := s.heap.size)
  generalize hAe : va_A [(h0, .inr (4, [.ref rd, .ref dr, .ref kp, .ref pl, .ref tx, .ref nu, .ref rf_a, .int nc, .int hi, .int pd])), (rd, .inr (2, [.int (nI st), .int ho, .int pa, .int si, .int li, .int (nI ln), .ref r0, .ref r1])), (r0, .inl (cI, 7, .inl lg)), (r1, .inl (cL, 3, .inr (.inr (.inr (.inr (xL3 (la 0) (la 1) (la 2))))))), (la 0, .inr (0, [.int (ki 0), .int (ru 0), .int (ne 0), .ref (lk 0)])), (lk 0, .inl (cI, 12, .inl (ch 0))), (la 1, .inr (0, [.int (ki 1), .int (ru 1), .int (ne 1), .ref (lk 1)])), (lk 1, .inl (cI, 12, .inl (ch 1))), (la 2, .inr (0, [.int (ki 2), .int (ru 2), .int (ne 2), .ref (lk 2)])), (lk 2, .inl (cI, 12, .inl (ch 2))), (rf_a, .inl (cI, 7, .inl rf))] s.heap.size = A at hD ⊢
  have hA : ∀ q : Nat, s.heap.size ≤ q → A q := fun q h => by rw [← hAe]; exact Or.inr h
  have hS : va_S A s.heap s.heap [] := va_S.rf
  have hP : va_P D vwCl [(h0, .inr (4, [.ref rd, .ref dr, .ref kp, .ref pl, .ref tx, .ref nu, .ref rf_a, .int nc, .int hi, .int pd])), (rd, .inr (2, [.int (nI st), .int ho, .int pa, .int si, .int li, .int (nI ln), .ref r0, .ref r1])), (r0, .inl (cI, 7, .inl lg)), (r1, .inl (cL, 3, .inr (.inr (.inr (.inr (xL3 (la 0) (la 1) (la 2))))))), (la 0, .inr (0, [.int (ki 0), .int (ru 0), .int (ne 0), .ref (lk 0)])), (lk 0, .inl (cI, 12, .inl (ch 0))), (la 1, .inr (0, [.int (ki 1), .int (ru 1), .int (ne 1), .ref (lk 1)])), (lk 1, .inl (cI, 12, .inl (ch 1))), (la 2, .inr (0, [.int (ki 2), .int (ru 2), .int (ne 2), .ref (lk 2)])), (lk 2, .inl (cI, 12, .inl (ch 2))), (rf_a, .inl (cI, 7, .inl rf))] s.heap := hP
  have hl := lv_entry ([.ref h0, .int a1, .int a2, .int a3, .int a4]) (n := 5) (Nat.le_of_ble_eq_true rfl)
  rw [lg_entry_eq]
  generalize (lg_sl ([.ref h0, .int a1, .int a2, .int a3, .int a4]) ++ List.replicate (5 - (lg_sl ([.ref h0, .int a1, .int a2, .int a3, .int a4])).length) Slot.unset).toArray = ls at hl ⊢
  have hl : lv_has ls 5 [(0, .ref h0), (1, .int a1), (2, .int a2), (3, .int a3), (4, .int a4)] := hl
  by_cases h_1 : ¬ sPr ln a1 a2 = 0
  · refine lv_aload_n hx hb dX4_letMean_0 rfl (lv_at hl 0 rfl) ?_
    refine lv_iload_n hx hb dX4_letMean_1 rfl (lv_at hl 1 rfl) ?_
    refine lv_iload_n hx hb dX4_letMean_2 rfl (lv_at hl 2 rfl) ?_
    have hPc := hP.sub (ws' := [(h0, .inr (4, [.ref rd, .ref dr, .ref kp, .ref pl, .ref tx, .ref nu, .ref rf_a, .int nc, .int hi, .int pd])), (rd, .inr (2, [.int (nI st), .int ho, .int pa, .int si, .int li, .int (nI ln), .ref r0, .ref r1]))]) [0, 1] rfl
    refine vp_callSi (va_Run.run (va_runV (As := [.int a1, .int a2]) (rest := []) ⟨hx, hb, hml, hown, hts⟩ (g_X4_noPair l D cI cL cZ cC h0 rd dr kp pl tx nu rf_a nc hi pd r0 r1 st ln ho pa si li a1 a2 ) (cwV 2 hts gX4_letMean_X4_noPair rfl rfl rfl (by decide +kernel) ⟨Nat.le_of_ble_eq_true rfl, Nat.le_of_ble_eq_true rfl⟩) ⟨xPc_bl, va_recv hK hPc (ci := 4) (q0 := 0) rfl rfl, xPc_use hPc hK⟩ rfl rfl hl.1 rfl (lv_room (Nat.le_of_ble_eq_true rfl)) dX4_letMean_3 ⟨Nat.le_of_ble_eq_true rfl, Nat.le_of_ble_eq_true rfl⟩)) (fun r_1 er_1 => ?_)
    obtain rfl : (sPr ln a1 a2 : Int32) = r_1 := Eq.symm er_1
    refine xv_int (y := 1) (sPr_bad h_1) ?_
    refine lv_if_eq (tgt := 15) hx hb dX4_letMean_6 (by decide) (fun c_2 => absurd c_2 (by decide +kernel)) (fun c_2 => ?_)
    refine lv_aload_n hx hb dX4_letMean_9 rfl (lv_at hl 0 rfl) ?_
    refine lv_iconst (v := -1) hx hb dX4_letMean_10 (by decide) ?_
    have hPc := hP.sub (ws' := [(h0, .inr (4, [.ref rd, .ref dr, .ref kp, .ref pl, .ref tx, .ref nu, .ref rf_a, .int nc, .int hi, .int pd])), (rf_a, .inl (cI, 7, .inl rf))]) [0, 10] rfl
    have hDc := hD.sub (ws' := [(h0, .inr (4, [.ref rd, .ref dr, .ref kp, .ref pl, .ref tx, .ref nu, .ref rf_a, .int nc, .int hi, .int pd])), (rf_a, .inl (cI, 7, .inl rf))]) [0, 10] (by decide) rfl
    have hFc := va_free (wc := [(h0, .inr (4, [.ref rd, .ref dr, .ref kp, .ref pl, .ref tx, .ref nu, .ref rf_a, .int nc, .int hi, .int pd])), (rf_a, .inl (cI, 7, .inl rf))]) hD hS hA [0, 10] rfl
    refine va_calll (va_runV (As := [.int (-1)]) (rest := []) ⟨hx, hb, hml, hown, hts⟩ (g_X4_refuseLong l D cI cL cZ cC _ h0 rd dr kp pl tx nu rf_a nc hi pd rf (-1) (by first | assumption | decide +kernel) (by first | assumption | decide +kernel)) (cwV 1 hts gX4_letMean_X4_refuseLong rfl rfl rfl (by decide +kernel) ⟨Nat.le_of_ble_eq_true rfl, Nat.le_of_ble_eq_true rfl⟩) ⟨wPc_bl, va_recv hK hPc (ci := 4) (q0 := 0) rfl rfl, wPc_use hPc hK hDc⟩ rfl rfl hl.1 rfl (lv_room (Nat.le_of_ble_eq_true rfl)) dX4_letMean_11 ⟨Nat.le_of_ble_eq_true rfl, Nat.le_of_ble_eq_true rfl⟩) hS (fun q _ h => hFc q h) hFc (fun r_3 u_3 t H1 locs ht hvm hw hB hz1 hk1 hS => ?_)
    obtain ⟨hP1, hD1⟩ := hB
    rw [ht] at hP1
    obtain ⟨hP, hD⟩ := va_join (wr := [(rd, .inr (2, [.int (nI st), .int ho, .int pa, .int si, .int li, .int (nI ln), .ref r0, .ref r1])), (r0, .inl (cI, 7, .inl lg)), (r1, .inl (cL, 3, .inr (.inr (.inr (.inr (xL3 (la 0) (la 1) (la 2))))))), (la 0, .inr (0, [.int (ki 0), .int (ru 0), .int (ne 0), .ref (lk 0)])), (lk 0, .inl (cI, 12, .inl (ch 0))), (la 1, .inr (0, [.int (ki 1), .int (ru 1), .int (ne 1), .ref (lk 1)])), (lk 1, .inl (cI, 12, .inl (ch 1))), (la 2, .inr (0, [.int (ki 2), .int (ru 2), .int (ne 2), .ref (lk 2)])), (lk 2, .inl (cI, 12, .inl (ch 2)))]) (w1 := [(h0, .inr (4, [.ref rd, .ref dr, .ref kp, .ref pl, .ref tx, .ref nu, .ref rf_a, .int nc, .int hi, .int pd])), (rf_a, .inl (cI, 7, .inl (xRf rf (-1))))]) hP hD [0, 10] [1, 2, 3, 4, 5, 6, 7, 8, 9] rfl rfl (by decide) (by decide) hk1 hFc hP1 hD1
    generalize H1 = H at hP hS ⊢
    have hP : va_P D vwCl [(rd, .inr (2, [.int (nI st), .int ho, .int pa, .int si, .int li, .int (nI ln), .ref r0, .ref r1])), (r0, .inl (cI, 7, .inl lg)), (r1, .inl (cL, 3, .inr (.inr (.inr (.inr (xL3 (la 0) (la 1) (la 2))))))), (la 0, .inr (0, [.int (ki 0), .int (ru 0), .int (ne 0), .ref (lk 0)])), (lk 0, .inl (cI, 12, .inl (ch 0))), (la 1, .inr (0, [.int (ki 1), .int (ru 1), .int (ne 1), .ref (lk 1)])), (lk 1, .inl (cI, 12, .inl (ch 1))), (la 2, .inr (0, [.int (ki 2), .int (ru 2), .int (ne 2), .ref (lk 2)])), (lk 2, .inl (cI, 12, .inl (ch 2))), (h0, .inr (4, [.ref rd, .ref dr, .ref kp, .ref pl, .ref tx, .ref nu, .ref rf_a, .int nc, .int hi, .int pd])), (rf_a, .inl (cI, 7, .inl (xRf rf (-1))))] H := hP
    have hD : va_D A [(rd, .inr (2, [.int (nI st), .int ho, .int pa, .int si, .int li, .int (nI ln), .ref r0, .ref r1])), (r0, .inl (cI, 7, .inl lg)), (r1, .inl (cL, 3, .inr (.inr (.inr (.inr (xL3 (la 0) (la 1) (la 2))))))), (la 0, .inr (0, [.int (ki 0), .int (ru 0), .int (ne 0), .ref (lk 0)])), (lk 0, .inl (cI, 12, .inl (ch 0))), (la 1, .inr (0, [.int (ki 1), .int (ru 1), .int (ne 1), .ref (lk 1)])), (lk 1, .inl (cI, 12, .inl (ch 1))), (la 2, .inr (0, [.int (ki 2), .int (ru 2), .int (ne 2), .ref (lk 2)])), (lk 2, .inl (cI, 12, .inl (ch 2))), (h0, .inr (4, [.ref rd, .ref dr, .ref kp, .ref pl, .ref tx, .ref nu, .ref rf_a, .int nc, .int hi, .int pd])), (rf_a, .inl (cI, 7, .inl (xRf rf (-1))))] := hD
    obtain rfl : (xLg (-1 : Int32) : Int64) = r_3 := Eq.symm hw
    have hP9 := hP.sub (ws' := [(h0, .inr (4, [.ref rd, .ref dr, .ref kp, .ref pl, .ref tx, .ref nu, .ref rf_a, .int nc, .int hi, .int pd])), (rd, .inr (2, [.int (nI st), .int ho, .int pa, .int si, .int li, .int (nI ln), .ref r0, .ref r1])), (r0, .inl (cI, 7, .inl lg)), (r1, .inl (cL, 3, .inr (.inr (.inr (.inr (xL3 (la 0) (la 1) (la 2))))))), (la 0, .inr (0, [.int (ki 0), .int (ru 0), .int (ne 0), .ref (lk 0)])), (lk 0, .inl (cI, 12, .inl (ch 0))), (la 1, .inr (0, [.int (ki 1), .int (ru 1), .int (ne 1), .ref (lk 1)])), (lk 1, .inl (cI, 12, .inl (ch 1))), (la 2, .inr (0, [.int (ki 2), .int (ru 2), .int (ne 2), .ref (lk 2)])), (lk 2, .inl (cI, 12, .inl (ch 2))), (rf_a, .inl (cI, 7, .inl (xRf rf (-1))))]) [9, 0, 1, 2, 3, 4, 5, 6, 7, 8, 10] rfl
    have hD9 := hD.sub (ws' := [(h0, .inr (4, [.ref rd, .ref dr, .ref kp, .ref pl, .ref tx, .ref nu, .ref rf_a, .int nc, .int hi, .int pd])), (rd, .inr (2, [.int (nI st), .int ho, .int pa, .int si, .int li, .int (nI ln), .ref r0, .ref r1])), (r0, .inl (cI, 7, .inl lg)), (r1, .inl (cL, 3, .inr (.inr (.inr (.inr (xL3 (la 0) (la 1) (la 2))))))), (la 0, .inr (0, [.int (ki 0), .int (ru 0), .int (ne 0), .ref (lk 0)])), (lk 0, .inl (cI, 12, .inl (ch 0))), (la 1, .inr (0, [.int (ki 1), .int (ru 1), .int (ne 1), .ref (lk 1)])), (lk 1, .inl (cI, 12, .inl (ch 1))), (la 2, .inr (0, [.int (ki 2), .int (ru 2), .int (ne 2), .ref (lk 2)])), (lk 2, .inl (cI, 12, .inl (ch 2))), (rf_a, .inl (cI, 7, .inl (xRf rf (-1))))]) [9, 0, 1, 2, 3, 4, 5, 6, 7, 8, 10] (by decide) rfl
    have hE9 : ([(h0, .inr (4, [.ref rd, .ref dr, .ref kp, .ref pl, .ref tx, .ref nu, .ref rf_a, .int nc, .int hi, .int pd])), (rd, .inr (2, [.int (nI st), .int ho, .int pa, .int si, .int li, .int (nI ln), .ref r0, .ref r1])), (r0, .inl (cI, 7, .inl lg)), (r1, .inl (cL, 3, .inr (.inr (.inr (.inr (xL3 (la 0) (la 1) (la 2))))))), (la 0, .inr (0, [.int (ki 0), .int (ru 0), .int (ne 0), .ref (lk 0)])), (lk 0, .inl (cI, 12, .inl (ch 0))), (la 1, .inr (0, [.int (ki 1), .int (ru 1), .int (ne 1), .ref (lk 1)])), (lk 1, .inl (cI, 12, .inl (ch 1))), (la 2, .inr (0, [.int (ki 2), .int (ru 2), .int (ne 2), .ref (lk 2)])), (lk 2, .inl (cI, 12, .inl (ch 2))), (rf_a, .inl (cI, 7, .inl (xRf rf (-1))))] : va_W) = [(h0, .inr (4, [.ref rd, .ref dr, .ref kp, .ref pl, .ref tx, .ref nu, .ref rf_a, .int nc, .int hi, .int pd])), (rd, .inr (2, [.int (nI st), .int ho, .int pa, .int si, .int li, .int (nI ln), .ref r0, .ref r1])), (r0, .inl (cI, 7, .inl lg)), (r1, .inl (cL, 3, .inr (.inr (.inr (.inr (xL3 (la 0) (la 1) (la 2))))))), (la 0, .inr (0, [.int (ki 0), .int (ru 0), .int (ne 0), .ref (lk 0)])), (lk 0, .inl (cI, 12, .inl (ch 0))), (la 1, .inr (0, [.int (ki 1), .int (ru 1), .int (ne 1), .ref (lk 1)])), (lk 1, .inl (cI, 12, .inl (ch 1))), (la 2, .inr (0, [.int (ki 2), .int (ru 2), .int (ne 2), .ref (lk 2)])), (lk 2, .inl (cI, 12, .inl (ch 2))), (rf_a, .inl (cI, 7, .inl (xRq rf (qLm ln a1 a2 a3 a4))))] := by simp [xRq, qLm, vLm, xPSum, h_1, c_2]
    exact W.lret (v := xLg (-1 : Int32)) hx hb hr (fun t ht hW => ⟨⟨_, (), rfl, by simp [qLm, vLm, xPSum, h_1, c_2], by rw [ht]; exact hE9 ▸ hP9, hE9 ▸ hD9⟩, hS.F ht⟩) hS.2.2 dX4_letMean_14
  have h_9 := Classical.not_not.mp h_1
  obtain ⟨h_7, h_8⟩ := sPr_ok h_9
  obtain ⟨j0, rfl, hj0⟩ := sNL_ok (by omega) (not_not_intro h_7)
  obtain ⟨j1, rfl, hj1⟩ := sNL_ok (by omega) (not_not_intro h_8)
  refine lv_aload_n hx hb dX4_letMean_0 rfl (lv_at hl 0 rfl) ?_
  refine lv_iload_n hx hb dX4_letMean_1 rfl (lv_at hl 1 rfl) ?_
  refine lv_iload_n hx hb dX4_letMean_2 rfl (lv_at hl 2 rfl) ?_
  have hPc := hP.sub (ws' := [(h0, .inr (4, [.ref rd, .ref dr, .ref kp, .ref pl, .ref tx, .ref nu, .ref rf_a, .int nc, .int hi, .int pd])), (rd, .inr (2, [.int (nI st), .int ho, .int pa, .int si, .int li, .int (nI ln), .ref r0, .ref r1]))]) [0, 1] rfl
  refine vp_callSi (va_Run.run (va_runV (As := [.int (nI j0), .int (nI j1)]) (rest := []) ⟨hx, hb, hml, hown, hts⟩ (g_X4_noPair l D cI cL cZ cC h0 rd dr kp pl tx nu rf_a nc hi pd r0 r1 st ln ho pa si li (nI j0) (nI j1) ) (cwV 2 hts gX4_letMean_X4_noPair rfl rfl rfl (by decide +kernel) ⟨Nat.le_of_ble_eq_true rfl, Nat.le_of_ble_eq_true rfl⟩) ⟨xPc_bl, va_recv hK hPc (ci := 4) (q0 := 0) rfl rfl, xPc_use hPc hK⟩ rfl rfl hl.1 rfl (lv_room (Nat.le_of_ble_eq_true rfl)) dX4_letMean_3 ⟨Nat.le_of_ble_eq_true rfl, Nat.le_of_ble_eq_true rfl⟩)) (fun r_4 er_4 => ?_)
  obtain rfl : (sPr ln (nI j0) (nI j1) : Int32) = r_4 := Eq.symm er_4
  refine xv_int (y := 0) (h_9) ?_
  refine lv_if_eq (tgt := 15) hx hb dX4_letMean_6 (by decide) (fun c_5 => ?_) (fun c_5 => absurd c_5 (by decide +kernel))
  refine lv_iload_n hx hb dX4_letMean_15 rfl (lv_at hl 3 rfl) ?_
  refine lv_if_ge (tgt := 26) hx hb dX4_letMean_16 (by decide) (fun c_6 => ?_) (fun c_6 => ?_)
  · refine lv_iload_n hx hb dX4_letMean_26 rfl (lv_at hl 3 rfl) ?_
    refine lv_bipush (v := 12) hx hb dX4_letMean_27 (by decide) ?_
    refine lv_icmp_le (tgt := 39) hx hb dX4_letMean_29 (by decide) (fun c_7 => ?_) (fun c_7 => ?_)
    · refine lv_iload hx hb dX4_letMean_39 (lv_at hl 4 rfl) ?_
      have hPc := hP.sub (ws' := []) [] rfl
      refine vp_callSi (va_Run.run (va_runS (As := [.int a4]) (rest := []) ⟨hx, hb, hml, hown, hts⟩ (g_X4_noPart l D cI cL cZ cC a4 ) (va_cwS 1 hts gX4_letMean_X4_noPart rfl rfl rfl (by decide +kernel) ⟨Nat.le_of_ble_eq_true rfl, Nat.le_of_ble_eq_true rfl⟩) ⟨xPc_bl, xPc_use hPc hK⟩ rfl rfl hl.1 rfl (lv_room (Nat.le_of_ble_eq_true rfl)) dX4_letMean_41 ⟨Nat.le_of_ble_eq_true rfl, Nat.le_of_ble_eq_true rfl⟩)) (fun r_8 er_8 => ?_)
      obtain rfl : (sNP a4 : Int32) = r_8 := Eq.symm er_8
      refine lv_if_eq (tgt := 54) hx hb dX4_letMean_44 (by decide) (fun c_9 => ?_) (fun c_9 => ?_)
      · refine lv_aload_n hx hb dX4_letMean_54 rfl (lv_at hl 0 rfl) ?_
        refine lv_iload_n hx hb dX4_letMean_55 rfl (lv_at hl 1 rfl) ?_
        refine lv_iload_n hx hb dX4_letMean_56 rfl (lv_at hl 2 rfl) ?_
        refine lv_iload_n hx hb dX4_letMean_57 rfl (lv_at hl 3 rfl) ?_
        refine lv_iload hx hb dX4_letMean_58 (lv_at hl 4 rfl) ?_
        have hPc := hP.sub (ws' := [(h0, .inr (4, [.ref rd, .ref dr, .ref kp, .ref pl, .ref tx, .ref nu, .ref rf_a, .int nc, .int hi, .int pd])), (rd, .inr (2, [.int (nI st), .int ho, .int pa, .int si, .int li, .int (nI ln), .ref r0, .ref r1])), (r0, .inl (cI, 7, .inl lg)), (r1, .inl (cL, 3, .inr (.inr (.inr (.inr (xL3 (la 0) (la 1) (la 2))))))), (la 0, .inr (0, [.int (ki 0), .int (ru 0), .int (ne 0), .ref (lk 0)])), (lk 0, .inl (cI, 12, .inl (ch 0))), (la 1, .inr (0, [.int (ki 1), .int (ru 1), .int (ne 1), .ref (lk 1)])), (lk 1, .inl (cI, 12, .inl (ch 1))), (la 2, .inr (0, [.int (ki 2), .int (ru 2), .int (ne 2), .ref (lk 2)])), (lk 2, .inl (cI, 12, .inl (ch 2)))]) [0, 1, 2, 3, 4, 5, 6, 7, 8, 9] rfl
        refine vp_callSl (va_Run.run (va_runV (As := [.int (nI j0), .int (nI j1), .int a3, .int a4]) (rest := []) ⟨hx, hb, hml, hown, hts⟩ (g_X4_pairMean l D cI cL cZ cC h0 rd dr kp pl tx nu rf_a nc hi pd r0 r1 st ho pa si li (nI ln) lg la lk ki ru ne ch j0 j1 a3 a4 (by first | assumption | decide +kernel) (by first | assumption | decide +kernel) (by omega) (by omega)) (cwV 4 hts gX4_letMean_X4_pairMean rfl rfl rfl (by decide +kernel) ⟨Nat.le_of_ble_eq_true rfl, Nat.le_of_ble_eq_true rfl⟩) ⟨xPc_bl, va_recv hK hPc (ci := 4) (q0 := 0) rfl rfl, xPc_use hPc hK⟩ rfl rfl hl.1 rfl (lv_room (Nat.le_of_ble_eq_true rfl)) dX4_letMean_60 ⟨Nat.le_of_ble_eq_true rfl, Nat.le_of_ble_eq_true rfl⟩)) (fun r_10 er_10 => ?_)
        obtain rfl : (xFr (xPo (fun t => sWt (ne j0) (ch j0) (nI t)) (fun t u => sWt (ne j0) (ch j0) (nI t) * sWt (ne j1) (ch j1) (nI u) * sPH st (xWh st ho pa lg 0) li (nI t) (sRide (ki j0) (ru j0) (nI (st - 1)) + xWy (xYd st ho lg (st - 1)) pa) (if nI u < a3 then 12 else nI u) (sRide (ki j1) (ru j1) (nI (st - 1)) + xWy (xYd st ho lg (st - 1)) pa)) 13) ((xSm (ch j0) 12 + ne j0) * (xSm (ch j1) 12 + ne j1)) a4 : Int64) = r_10 := Eq.symm er_10
        have hP9 := hP.sub (ws' := [(h0, .inr (4, [.ref rd, .ref dr, .ref kp, .ref pl, .ref tx, .ref nu, .ref rf_a, .int nc, .int hi, .int pd])), (rd, .inr (2, [.int (nI st), .int ho, .int pa, .int si, .int li, .int (nI ln), .ref r0, .ref r1])), (r0, .inl (cI, 7, .inl lg)), (r1, .inl (cL, 3, .inr (.inr (.inr (.inr (xL3 (la 0) (la 1) (la 2))))))), (la 0, .inr (0, [.int (ki 0), .int (ru 0), .int (ne 0), .ref (lk 0)])), (lk 0, .inl (cI, 12, .inl (ch 0))), (la 1, .inr (0, [.int (ki 1), .int (ru 1), .int (ne 1), .ref (lk 1)])), (lk 1, .inl (cI, 12, .inl (ch 1))), (la 2, .inr (0, [.int (ki 2), .int (ru 2), .int (ne 2), .ref (lk 2)])), (lk 2, .inl (cI, 12, .inl (ch 2))), (rf_a, .inl (cI, 7, .inl rf))]) [0, 1, 2, 3, 4, 5, 6, 7, 8, 9, 10] rfl
        have hD9 := hD.sub (ws' := [(h0, .inr (4, [.ref rd, .ref dr, .ref kp, .ref pl, .ref tx, .ref nu, .ref rf_a, .int nc, .int hi, .int pd])), (rd, .inr (2, [.int (nI st), .int ho, .int pa, .int si, .int li, .int (nI ln), .ref r0, .ref r1])), (r0, .inl (cI, 7, .inl lg)), (r1, .inl (cL, 3, .inr (.inr (.inr (.inr (xL3 (la 0) (la 1) (la 2))))))), (la 0, .inr (0, [.int (ki 0), .int (ru 0), .int (ne 0), .ref (lk 0)])), (lk 0, .inl (cI, 12, .inl (ch 0))), (la 1, .inr (0, [.int (ki 1), .int (ru 1), .int (ne 1), .ref (lk 1)])), (lk 1, .inl (cI, 12, .inl (ch 1))), (la 2, .inr (0, [.int (ki 2), .int (ru 2), .int (ne 2), .ref (lk 2)])), (lk 2, .inl (cI, 12, .inl (ch 2))), (rf_a, .inl (cI, 7, .inl rf))]) [0, 1, 2, 3, 4, 5, 6, 7, 8, 9, 10] (by decide) rfl
        have hE9 : ([(h0, .inr (4, [.ref rd, .ref dr, .ref kp, .ref pl, .ref tx, .ref nu, .ref rf_a, .int nc, .int hi, .int pd])), (rd, .inr (2, [.int (nI st), .int ho, .int pa, .int si, .int li, .int (nI ln), .ref r0, .ref r1])), (r0, .inl (cI, 7, .inl lg)), (r1, .inl (cL, 3, .inr (.inr (.inr (.inr (xL3 (la 0) (la 1) (la 2))))))), (la 0, .inr (0, [.int (ki 0), .int (ru 0), .int (ne 0), .ref (lk 0)])), (lk 0, .inl (cI, 12, .inl (ch 0))), (la 1, .inr (0, [.int (ki 1), .int (ru 1), .int (ne 1), .ref (lk 1)])), (lk 1, .inl (cI, 12, .inl (ch 1))), (la 2, .inr (0, [.int (ki 2), .int (ru 2), .int (ne 2), .ref (lk 2)])), (lk 2, .inl (cI, 12, .inl (ch 2))), (rf_a, .inl (cI, 7, .inl rf))] : va_W) = [(h0, .inr (4, [.ref rd, .ref dr, .ref kp, .ref pl, .ref tx, .ref nu, .ref rf_a, .int nc, .int hi, .int pd])), (rd, .inr (2, [.int (nI st), .int ho, .int pa, .int si, .int li, .int (nI ln), .ref r0, .ref r1])), (r0, .inl (cI, 7, .inl lg)), (r1, .inl (cL, 3, .inr (.inr (.inr (.inr (xL3 (la 0) (la 1) (la 2))))))), (la 0, .inr (0, [.int (ki 0), .int (ru 0), .int (ne 0), .ref (lk 0)])), (lk 0, .inl (cI, 12, .inl (ch 0))), (la 1, .inr (0, [.int (ki 1), .int (ru 1), .int (ne 1), .ref (lk 1)])), (lk 1, .inl (cI, 12, .inl (ch 1))), (la 2, .inr (0, [.int (ki 2), .int (ru 2), .int (ne 2), .ref (lk 2)])), (lk 2, .inl (cI, 12, .inl (ch 2))), (rf_a, .inl (cI, 7, .inl (xRq rf (qLm ln (nI j0) (nI j1) a3 a4))))] := by simp [xRq, qLm, vLm, xPSum, h_9, c_5, (Int32.not_lt.mpr c_6), (Int32.not_lt.mpr c_7), c_9]
        exact W.lret (v := xFr (xPo (fun t => sWt (ne j0) (ch j0) (nI t)) (fun t u => sWt (ne j0) (ch j0) (nI t) * sWt (ne j1) (ch j1) (nI u) * sPH st (xWh st ho pa lg 0) li (nI t) (sRide (ki j0) (ru j0) (nI (st - 1)) + xWy (xYd st ho lg (st - 1)) pa) (if nI u < a3 then 12 else nI u) (sRide (ki j1) (ru j1) (nI (st - 1)) + xWy (xYd st ho lg (st - 1)) pa)) 13) ((xSm (ch j0) 12 + ne j0) * (xSm (ch j1) 12 + ne j1)) a4) hx hb hr (fun t ht hW => ⟨⟨_, (), rfl, by simp [qLm, vLm, xPSum, h_9, c_5, (Int32.not_lt.mpr c_6), (Int32.not_lt.mpr c_7), c_9, nI_clamp (show j0 < 2 ^ 31 by omega), nI_clamp (show j1 < 2 ^ 31 by omega)], by rw [ht]; exact hE9 ▸ hP9, hE9 ▸ hD9⟩, hS.F ht⟩) hS.2.2 dX4_letMean_63
      · refine lv_aload_n hx hb dX4_letMean_47 rfl (lv_at hl 0 rfl) ?_
        refine lv_bipush (v := -2) hx hb dX4_letMean_48 (by decide) ?_
        have hPc := hP.sub (ws' := [(h0, .inr (4, [.ref rd, .ref dr, .ref kp, .ref pl, .ref tx, .ref nu, .ref rf_a, .int nc, .int hi, .int pd])), (rf_a, .inl (cI, 7, .inl rf))]) [0, 10] rfl
        have hDc := hD.sub (ws' := [(h0, .inr (4, [.ref rd, .ref dr, .ref kp, .ref pl, .ref tx, .ref nu, .ref rf_a, .int nc, .int hi, .int pd])), (rf_a, .inl (cI, 7, .inl rf))]) [0, 10] (by decide) rfl
        have hFc := va_free (wc := [(h0, .inr (4, [.ref rd, .ref dr, .ref kp, .ref pl, .ref tx, .ref nu, .ref rf_a, .int nc, .int hi, .int pd])), (rf_a, .inl (cI, 7, .inl rf))]) hD hS hA [0, 10] rfl
        refine va_calll (va_runV (As := [.int (-2)]) (rest := []) ⟨hx, hb, hml, hown, hts⟩ (g_X4_refuseLong l D cI cL cZ cC _ h0 rd dr kp pl tx nu rf_a nc hi pd rf (-2) (by first | assumption | decide +kernel) (by first | assumption | decide +kernel)) (cwV 1 hts gX4_letMean_X4_refuseLong rfl rfl rfl (by decide +kernel) ⟨Nat.le_of_ble_eq_true rfl, Nat.le_of_ble_eq_true rfl⟩) ⟨wPc_bl, va_recv hK hPc (ci := 4) (q0 := 0) rfl rfl, wPc_use hPc hK hDc⟩ rfl rfl hl.1 rfl (lv_room (Nat.le_of_ble_eq_true rfl)) dX4_letMean_50 ⟨Nat.le_of_ble_eq_true rfl, Nat.le_of_ble_eq_true rfl⟩) hS (fun q _ h => hFc q h) hFc (fun r_11 u_11 t H1 locs ht hvm hw hB hz1 hk1 hS => ?_)
        obtain ⟨hP1, hD1⟩ := hB
        rw [ht] at hP1
        obtain ⟨hP, hD⟩ := va_join (wr := [(rd, .inr (2, [.int (nI st), .int ho, .int pa, .int si, .int li, .int (nI ln), .ref r0, .ref r1])), (r0, .inl (cI, 7, .inl lg)), (r1, .inl (cL, 3, .inr (.inr (.inr (.inr (xL3 (la 0) (la 1) (la 2))))))), (la 0, .inr (0, [.int (ki 0), .int (ru 0), .int (ne 0), .ref (lk 0)])), (lk 0, .inl (cI, 12, .inl (ch 0))), (la 1, .inr (0, [.int (ki 1), .int (ru 1), .int (ne 1), .ref (lk 1)])), (lk 1, .inl (cI, 12, .inl (ch 1))), (la 2, .inr (0, [.int (ki 2), .int (ru 2), .int (ne 2), .ref (lk 2)])), (lk 2, .inl (cI, 12, .inl (ch 2)))]) (w1 := [(h0, .inr (4, [.ref rd, .ref dr, .ref kp, .ref pl, .ref tx, .ref nu, .ref rf_a, .int nc, .int hi, .int pd])), (rf_a, .inl (cI, 7, .inl (xRf rf (-2))))]) hP hD [0, 10] [1, 2, 3, 4, 5, 6, 7, 8, 9] rfl rfl (by decide) (by decide) hk1 hFc hP1 hD1
        generalize H1 = H at hP hS ⊢
        have hP : va_P D vwCl [(rd, .inr (2, [.int (nI st), .int ho, .int pa, .int si, .int li, .int (nI ln), .ref r0, .ref r1])), (r0, .inl (cI, 7, .inl lg)), (r1, .inl (cL, 3, .inr (.inr (.inr (.inr (xL3 (la 0) (la 1) (la 2))))))), (la 0, .inr (0, [.int (ki 0), .int (ru 0), .int (ne 0), .ref (lk 0)])), (lk 0, .inl (cI, 12, .inl (ch 0))), (la 1, .inr (0, [.int (ki 1), .int (ru 1), .int (ne 1), .ref (lk 1)])), (lk 1, .inl (cI, 12, .inl (ch 1))), (la 2, .inr (0, [.int (ki 2), .int (ru 2), .int (ne 2), .ref (lk 2)])), (lk 2, .inl (cI, 12, .inl (ch 2))), (h0, .inr (4, [.ref rd, .ref dr, .ref kp, .ref pl, .ref tx, .ref nu, .ref rf_a, .int nc, .int hi, .int pd])), (rf_a, .inl (cI, 7, .inl (xRf rf (-2))))] H := hP
        have hD : va_D A [(rd, .inr (2, [.int (nI st), .int ho, .int pa, .int si, .int li, .int (nI ln), .ref r0, .ref r1])), (r0, .inl (cI, 7, .inl lg)), (r1, .inl (cL, 3, .inr (.inr (.inr (.inr (xL3 (la 0) (la 1) (la 2))))))), (la 0, .inr (0, [.int (ki 0), .int (ru 0), .int (ne 0), .ref (lk 0)])), (lk 0, .inl (cI, 12, .inl (ch 0))), (la 1, .inr (0, [.int (ki 1), .int (ru 1), .int (ne 1), .ref (lk 1)])), (lk 1, .inl (cI, 12, .inl (ch 1))), (la 2, .inr (0, [.int (ki 2), .int (ru 2), .int (ne 2), .ref (lk 2)])), (lk 2, .inl (cI, 12, .inl (ch 2))), (h0, .inr (4, [.ref rd, .ref dr, .ref kp, .ref pl, .ref tx, .ref nu, .ref rf_a, .int nc, .int hi, .int pd])), (rf_a, .inl (cI, 7, .inl (xRf rf (-2))))] := hD
        obtain rfl : (xLg (-2 : Int32) : Int64) = r_11 := Eq.symm hw
        have hP9 := hP.sub (ws' := [(h0, .inr (4, [.ref rd, .ref dr, .ref kp, .ref pl, .ref tx, .ref nu, .ref rf_a, .int nc, .int hi, .int pd])), (rd, .inr (2, [.int (nI st), .int ho, .int pa, .int si, .int li, .int (nI ln), .ref r0, .ref r1])), (r0, .inl (cI, 7, .inl lg)), (r1, .inl (cL, 3, .inr (.inr (.inr (.inr (xL3 (la 0) (la 1) (la 2))))))), (la 0, .inr (0, [.int (ki 0), .int (ru 0), .int (ne 0), .ref (lk 0)])), (lk 0, .inl (cI, 12, .inl (ch 0))), (la 1, .inr (0, [.int (ki 1), .int (ru 1), .int (ne 1), .ref (lk 1)])), (lk 1, .inl (cI, 12, .inl (ch 1))), (la 2, .inr (0, [.int (ki 2), .int (ru 2), .int (ne 2), .ref (lk 2)])), (lk 2, .inl (cI, 12, .inl (ch 2))), (rf_a, .inl (cI, 7, .inl (xRf rf (-2))))]) [9, 0, 1, 2, 3, 4, 5, 6, 7, 8, 10] rfl
        have hD9 := hD.sub (ws' := [(h0, .inr (4, [.ref rd, .ref dr, .ref kp, .ref pl, .ref tx, .ref nu, .ref rf_a, .int nc, .int hi, .int pd])), (rd, .inr (2, [.int (nI st), .int ho, .int pa, .int si, .int li, .int (nI ln), .ref r0, .ref r1])), (r0, .inl (cI, 7, .inl lg)), (r1, .inl (cL, 3, .inr (.inr (.inr (.inr (xL3 (la 0) (la 1) (la 2))))))), (la 0, .inr (0, [.int (ki 0), .int (ru 0), .int (ne 0), .ref (lk 0)])), (lk 0, .inl (cI, 12, .inl (ch 0))), (la 1, .inr (0, [.int (ki 1), .int (ru 1), .int (ne 1), .ref (lk 1)])), (lk 1, .inl (cI, 12, .inl (ch 1))), (la 2, .inr (0, [.int (ki 2), .int (ru 2), .int (ne 2), .ref (lk 2)])), (lk 2, .inl (cI, 12, .inl (ch 2))), (rf_a, .inl (cI, 7, .inl (xRf rf (-2))))]) [9, 0, 1, 2, 3, 4, 5, 6, 7, 8, 10] (by decide) rfl
        have hE9 : ([(h0, .inr (4, [.ref rd, .ref dr, .ref kp, .ref pl, .ref tx, .ref nu, .ref rf_a, .int nc, .int hi, .int pd])), (rd, .inr (2, [.int (nI st), .int ho, .int pa, .int si, .int li, .int (nI ln), .ref r0, .ref r1])), (r0, .inl (cI, 7, .inl lg)), (r1, .inl (cL, 3, .inr (.inr (.inr (.inr (xL3 (la 0) (la 1) (la 2))))))), (la 0, .inr (0, [.int (ki 0), .int (ru 0), .int (ne 0), .ref (lk 0)])), (lk 0, .inl (cI, 12, .inl (ch 0))), (la 1, .inr (0, [.int (ki 1), .int (ru 1), .int (ne 1), .ref (lk 1)])), (lk 1, .inl (cI, 12, .inl (ch 1))), (la 2, .inr (0, [.int (ki 2), .int (ru 2), .int (ne 2), .ref (lk 2)])), (lk 2, .inl (cI, 12, .inl (ch 2))), (rf_a, .inl (cI, 7, .inl (xRf rf (-2))))] : va_W) = [(h0, .inr (4, [.ref rd, .ref dr, .ref kp, .ref pl, .ref tx, .ref nu, .ref rf_a, .int nc, .int hi, .int pd])), (rd, .inr (2, [.int (nI st), .int ho, .int pa, .int si, .int li, .int (nI ln), .ref r0, .ref r1])), (r0, .inl (cI, 7, .inl lg)), (r1, .inl (cL, 3, .inr (.inr (.inr (.inr (xL3 (la 0) (la 1) (la 2))))))), (la 0, .inr (0, [.int (ki 0), .int (ru 0), .int (ne 0), .ref (lk 0)])), (lk 0, .inl (cI, 12, .inl (ch 0))), (la 1, .inr (0, [.int (ki 1), .int (ru 1), .int (ne 1), .ref (lk 1)])), (lk 1, .inl (cI, 12, .inl (ch 1))), (la 2, .inr (0, [.int (ki 2), .int (ru 2), .int (ne 2), .ref (lk 2)])), (lk 2, .inl (cI, 12, .inl (ch 2))), (rf_a, .inl (cI, 7, .inl (xRq rf (qLm ln (nI j0) (nI j1) a3 a4))))] := by simp [xRq, qLm, vLm, xPSum, h_9, c_5, (Int32.not_lt.mpr c_6), (Int32.not_lt.mpr c_7), c_9]
        exact W.lret (v := xLg (-2 : Int32)) hx hb hr (fun t ht hW => ⟨⟨_, (), rfl, by simp [qLm, vLm, xPSum, h_9, c_5, (Int32.not_lt.mpr c_6), (Int32.not_lt.mpr c_7), c_9, nI_clamp (show j0 < 2 ^ 31 by omega), nI_clamp (show j1 < 2 ^ 31 by omega)], by rw [ht]; exact hE9 ▸ hP9, hE9 ▸ hD9⟩, hS.F ht⟩) hS.2.2 dX4_letMean_53
    · refine lv_aload_n hx hb dX4_letMean_32 rfl (lv_at hl 0 rfl) ?_
      refine lv_bipush (v := -6) hx hb dX4_letMean_33 (by decide) ?_
      have hPc := hP.sub (ws' := [(h0, .inr (4, [.ref rd, .ref dr, .ref kp, .ref pl, .ref tx, .ref nu, .ref rf_a, .int nc, .int hi, .int pd])), (rf_a, .inl (cI, 7, .inl rf))]) [0, 10] rfl
      have hDc := hD.sub (ws' := [(h0, .inr (4, [.ref rd, .ref dr, .ref kp, .ref pl, .ref tx, .ref nu, .ref rf_a, .int nc, .int hi, .int pd])), (rf_a, .inl (cI, 7, .inl rf))]) [0, 10] (by decide) rfl
      have hFc := va_free (wc := [(h0, .inr (4, [.ref rd, .ref dr, .ref kp, .ref pl, .ref tx, .ref nu, .ref rf_a, .int nc, .int hi, .int pd])), (rf_a, .inl (cI, 7, .inl rf))]) hD hS hA [0, 10] rfl
      refine va_calll (va_runV (As := [.int (-6)]) (rest := []) ⟨hx, hb, hml, hown, hts⟩ (g_X4_refuseLong l D cI cL cZ cC _ h0 rd dr kp pl tx nu rf_a nc hi pd rf (-6) (by first | assumption | decide +kernel) (by first | assumption | decide +kernel)) (cwV 1 hts gX4_letMean_X4_refuseLong rfl rfl rfl (by decide +kernel) ⟨Nat.le_of_ble_eq_true rfl, Nat.le_of_ble_eq_true rfl⟩) ⟨wPc_bl, va_recv hK hPc (ci := 4) (q0 := 0) rfl rfl, wPc_use hPc hK hDc⟩ rfl rfl hl.1 rfl (lv_room (Nat.le_of_ble_eq_true rfl)) dX4_letMean_35 ⟨Nat.le_of_ble_eq_true rfl, Nat.le_of_ble_eq_true rfl⟩) hS (fun q _ h => hFc q h) hFc (fun r_12 u_12 t H1 locs ht hvm hw hB hz1 hk1 hS => ?_)
      obtain ⟨hP1, hD1⟩ := hB
      rw [ht] at hP1
      obtain ⟨hP, hD⟩ := va_join (wr := [(rd, .inr (2, [.int (nI st), .int ho, .int pa, .int si, .int li, .int (nI ln), .ref r0, .ref r1])), (r0, .inl (cI, 7, .inl lg)), (r1, .inl (cL, 3, .inr (.inr (.inr (.inr (xL3 (la 0) (la 1) (la 2))))))), (la 0, .inr (0, [.int (ki 0), .int (ru 0), .int (ne 0), .ref (lk 0)])), (lk 0, .inl (cI, 12, .inl (ch 0))), (la 1, .inr (0, [.int (ki 1), .int (ru 1), .int (ne 1), .ref (lk 1)])), (lk 1, .inl (cI, 12, .inl (ch 1))), (la 2, .inr (0, [.int (ki 2), .int (ru 2), .int (ne 2), .ref (lk 2)])), (lk 2, .inl (cI, 12, .inl (ch 2)))]) (w1 := [(h0, .inr (4, [.ref rd, .ref dr, .ref kp, .ref pl, .ref tx, .ref nu, .ref rf_a, .int nc, .int hi, .int pd])), (rf_a, .inl (cI, 7, .inl (xRf rf (-6))))]) hP hD [0, 10] [1, 2, 3, 4, 5, 6, 7, 8, 9] rfl rfl (by decide) (by decide) hk1 hFc hP1 hD1
      generalize H1 = H at hP hS ⊢
      have hP : va_P D vwCl [(rd, .inr (2, [.int (nI st), .int ho, .int pa, .int si, .int li, .int (nI ln), .ref r0, .ref r1])), (r0, .inl (cI, 7, .inl lg)), (r1, .inl (cL, 3, .inr (.inr (.inr (.inr (xL3 (la 0) (la 1) (la 2))))))), (la 0, .inr (0, [.int (ki 0), .int (ru 0), .int (ne 0), .ref (lk 0)])), (lk 0, .inl (cI, 12, .inl (ch 0))), (la 1, .inr (0, [.int (ki 1), .int (ru 1), .int (ne 1), .ref (lk 1)])), (lk 1, .inl (cI, 12, .inl (ch 1))), (la 2, .inr (0, [.int (ki 2), .int (ru 2), .int (ne 2), .ref (lk 2)])), (lk 2, .inl (cI, 12, .inl (ch 2))), (h0, .inr (4, [.ref rd, .ref dr, .ref kp, .ref pl, .ref tx, .ref nu, .ref rf_a, .int nc, .int hi, .int pd])), (rf_a, .inl (cI, 7, .inl (xRf rf (-6))))] H := hP
      have hD : va_D A [(rd, .inr (2, [.int (nI st), .int ho, .int pa, .int si, .int li, .int (nI ln), .ref r0, .ref r1])), (r0, .inl (cI, 7, .inl lg)), (r1, .inl (cL, 3, .inr (.inr (.inr (.inr (xL3 (la 0) (la 1) (la 2))))))), (la 0, .inr (0, [.int (ki 0), .int (ru 0), .int (ne 0), .ref (lk 0)])), (lk 0, .inl (cI, 12, .inl (ch 0))), (la 1, .inr (0, [.int (ki 1), .int (ru 1), .int (ne 1), .ref (lk 1)])), (lk 1, .inl (cI, 12, .inl (ch 1))), (la 2, .inr (0, [.int (ki 2), .int (ru 2), .int (ne 2), .ref (lk 2)])), (lk 2, .inl (cI, 12, .inl (ch 2))), (h0, .inr (4, [.ref rd, .ref dr, .ref kp, .ref pl, .ref tx, .ref nu, .ref rf_a, .int nc, .int hi, .int pd])), (rf_a, .inl (cI, 7, .inl (xRf rf (-6))))] := hD
      obtain rfl : (xLg (-6 : Int32) : Int64) = r_12 := Eq.symm hw
      have hP9 := hP.sub (ws' := [(h0, .inr (4, [.ref rd, .ref dr, .ref kp, .ref pl, .ref tx, .ref nu, .ref rf_a, .int nc, .int hi, .int pd])), (rd, .inr (2, [.int (nI st), .int ho, .int pa, .int si, .int li, .int (nI ln), .ref r0, .ref r1])), (r0, .inl (cI, 7, .inl lg)), (r1, .inl (cL, 3, .inr (.inr (.inr (.inr (xL3 (la 0) (la 1) (la 2))))))), (la 0, .inr (0, [.int (ki 0), .int (ru 0), .int (ne 0), .ref (lk 0)])), (lk 0, .inl (cI, 12, .inl (ch 0))), (la 1, .inr (0, [.int (ki 1), .int (ru 1), .int (ne 1), .ref (lk 1)])), (lk 1, .inl (cI, 12, .inl (ch 1))), (la 2, .inr (0, [.int (ki 2), .int (ru 2), .int (ne 2), .ref (lk 2)])), (lk 2, .inl (cI, 12, .inl (ch 2))), (rf_a, .inl (cI, 7, .inl (xRf rf (-6))))]) [9, 0, 1, 2, 3, 4, 5, 6, 7, 8, 10] rfl
      have hD9 := hD.sub (ws' := [(h0, .inr (4, [.ref rd, .ref dr, .ref kp, .ref pl, .ref tx, .ref nu, .ref rf_a, .int nc, .int hi, .int pd])), (rd, .inr (2, [.int (nI st), .int ho, .int pa, .int si, .int li, .int (nI ln), .ref r0, .ref r1])), (r0, .inl (cI, 7, .inl lg)), (r1, .inl (cL, 3, .inr (.inr (.inr (.inr (xL3 (la 0) (la 1) (la 2))))))), (la 0, .inr (0, [.int (ki 0), .int (ru 0), .int (ne 0), .ref (lk 0)])), (lk 0, .inl (cI, 12, .inl (ch 0))), (la 1, .inr (0, [.int (ki 1), .int (ru 1), .int (ne 1), .ref (lk 1)])), (lk 1, .inl (cI, 12, .inl (ch 1))), (la 2, .inr (0, [.int (ki 2), .int (ru 2), .int (ne 2), .ref (lk 2)])), (lk 2, .inl (cI, 12, .inl (ch 2))), (rf_a, .inl (cI, 7, .inl (xRf rf (-6))))]) [9, 0, 1, 2, 3, 4, 5, 6, 7, 8, 10] (by decide) rfl
      have hE9 : ([(h0, .inr (4, [.ref rd, .ref dr, .ref kp, .ref pl, .ref tx, .ref nu, .ref rf_a, .int nc, .int hi, .int pd])), (rd, .inr (2, [.int (nI st), .int ho, .int pa, .int si, .int li, .int (nI ln), .ref r0, .ref r1])), (r0, .inl (cI, 7, .inl lg)), (r1, .inl (cL, 3, .inr (.inr (.inr (.inr (xL3 (la 0) (la 1) (la 2))))))), (la 0, .inr (0, [.int (ki 0), .int (ru 0), .int (ne 0), .ref (lk 0)])), (lk 0, .inl (cI, 12, .inl (ch 0))), (la 1, .inr (0, [.int (ki 1), .int (ru 1), .int (ne 1), .ref (lk 1)])), (lk 1, .inl (cI, 12, .inl (ch 1))), (la 2, .inr (0, [.int (ki 2), .int (ru 2), .int (ne 2), .ref (lk 2)])), (lk 2, .inl (cI, 12, .inl (ch 2))), (rf_a, .inl (cI, 7, .inl (xRf rf (-6))))] : va_W) = [(h0, .inr (4, [.ref rd, .ref dr, .ref kp, .ref pl, .ref tx, .ref nu, .ref rf_a, .int nc, .int hi, .int pd])), (rd, .inr (2, [.int (nI st), .int ho, .int pa, .int si, .int li, .int (nI ln), .ref r0, .ref r1])), (r0, .inl (cI, 7, .inl lg)), (r1, .inl (cL, 3, .inr (.inr (.inr (.inr (xL3 (la 0) (la 1) (la 2))))))), (la 0, .inr (0, [.int (ki 0), .int (ru 0), .int (ne 0), .ref (lk 0)])), (lk 0, .inl (cI, 12, .inl (ch 0))), (la 1, .inr (0, [.int (ki 1), .int (ru 1), .int (ne 1), .ref (lk 1)])), (lk 1, .inl (cI, 12, .inl (ch 1))), (la 2, .inr (0, [.int (ki 2), .int (ru 2), .int (ne 2), .ref (lk 2)])), (lk 2, .inl (cI, 12, .inl (ch 2))), (rf_a, .inl (cI, 7, .inl (xRq rf (qLm ln (nI j0) (nI j1) a3 a4))))] := by simp [xRq, qLm, vLm, xPSum, h_9, c_5, (Int32.not_lt.mpr c_6), (Int32.not_le.mp c_7)]
      exact W.lret (v := xLg (-6 : Int32)) hx hb hr (fun t ht hW => ⟨⟨_, (), rfl, by simp [qLm, vLm, xPSum, h_9, c_5, (Int32.not_lt.mpr c_6), (Int32.not_le.mp c_7), nI_clamp (show j0 < 2 ^ 31 by omega), nI_clamp (show j1 < 2 ^ 31 by omega)], by rw [ht]; exact hE9 ▸ hP9, hE9 ▸ hD9⟩, hS.F ht⟩) hS.2.2 dX4_letMean_38
  · refine lv_aload_n hx hb dX4_letMean_19 rfl (lv_at hl 0 rfl) ?_
    refine lv_bipush (v := -4) hx hb dX4_letMean_20 (by decide) ?_
    have hPc := hP.sub (ws' := [(h0, .inr (4, [.ref rd, .ref dr, .ref kp, .ref pl, .ref tx, .ref nu, .ref rf_a, .int nc, .int hi, .int pd])), (rf_a, .inl (cI, 7, .inl rf))]) [0, 10] rfl
    have hDc := hD.sub (ws' := [(h0, .inr (4, [.ref rd, .ref dr, .ref kp, .ref pl, .ref tx, .ref nu, .ref rf_a, .int nc, .int hi, .int pd])), (rf_a, .inl (cI, 7, .inl rf))]) [0, 10] (by decide) rfl
    have hFc := va_free (wc := [(h0, .inr (4, [.ref rd, .ref dr, .ref kp, .ref pl, .ref tx, .ref nu, .ref rf_a, .int nc, .int hi, .int pd])), (rf_a, .inl (cI, 7, .inl rf))]) hD hS hA [0, 10] rfl
    refine va_calll (va_runV (As := [.int (-4)]) (rest := []) ⟨hx, hb, hml, hown, hts⟩ (g_X4_refuseLong l D cI cL cZ cC _ h0 rd dr kp pl tx nu rf_a nc hi pd rf (-4) (by first | assumption | decide +kernel) (by first | assumption | decide +kernel)) (cwV 1 hts gX4_letMean_X4_refuseLong rfl rfl rfl (by decide +kernel) ⟨Nat.le_of_ble_eq_true rfl, Nat.le_of_ble_eq_true rfl⟩) ⟨wPc_bl, va_recv hK hPc (ci := 4) (q0 := 0) rfl rfl, wPc_use hPc hK hDc⟩ rfl rfl hl.1 rfl (lv_room (Nat.le_of_ble_eq_true rfl)) dX4_letMean_22 ⟨Nat.le_of_ble_eq_true rfl, Nat.le_of_ble_eq_true rfl⟩) hS (fun q _ h => hFc q h) hFc (fun r_13 u_13 t H1 locs ht hvm hw hB hz1 hk1 hS => ?_)
    obtain ⟨hP1, hD1⟩ := hB
    rw [ht] at hP1
    obtain ⟨hP, hD⟩ := va_join (wr := [(rd, .inr (2, [.int (nI st), .int ho, .int pa, .int si, .int li, .int (nI ln), .ref r0, .ref r1])), (r0, .inl (cI, 7, .inl lg)), (r1, .inl (cL, 3, .inr (.inr (.inr (.inr (xL3 (la 0) (la 1) (la 2))))))), (la 0, .inr (0, [.int (ki 0), .int (ru 0), .int (ne 0), .ref (lk 0)])), (lk 0, .inl (cI, 12, .inl (ch 0))), (la 1, .inr (0, [.int (ki 1), .int (ru 1), .int (ne 1), .ref (lk 1)])), (lk 1, .inl (cI, 12, .inl (ch 1))), (la 2, .inr (0, [.int (ki 2), .int (ru 2), .int (ne 2), .ref (lk 2)])), (lk 2, .inl (cI, 12, .inl (ch 2)))]) (w1 := [(h0, .inr (4, [.ref rd, .ref dr, .ref kp, .ref pl, .ref tx, .ref nu, .ref rf_a, .int nc, .int hi, .int pd])), (rf_a, .inl (cI, 7, .inl (xRf rf (-4))))]) hP hD [0, 10] [1, 2, 3, 4, 5, 6, 7, 8, 9] rfl rfl (by decide) (by decide) hk1 hFc hP1 hD1
    generalize H1 = H at hP hS ⊢
    have hP : va_P D vwCl [(rd, .inr (2, [.int (nI st), .int ho, .int pa, .int si, .int li, .int (nI ln), .ref r0, .ref r1])), (r0, .inl (cI, 7, .inl lg)), (r1, .inl (cL, 3, .inr (.inr (.inr (.inr (xL3 (la 0) (la 1) (la 2))))))), (la 0, .inr (0, [.int (ki 0), .int (ru 0), .int (ne 0), .ref (lk 0)])), (lk 0, .inl (cI, 12, .inl (ch 0))), (la 1, .inr (0, [.int (ki 1), .int (ru 1), .int (ne 1), .ref (lk 1)])), (lk 1, .inl (cI, 12, .inl (ch 1))), (la 2, .inr (0, [.int (ki 2), .int (ru 2), .int (ne 2), .ref (lk 2)])), (lk 2, .inl (cI, 12, .inl (ch 2))), (h0, .inr (4, [.ref rd, .ref dr, .ref kp, .ref pl, .ref tx, .ref nu, .ref rf_a, .int nc, .int hi, .int pd])), (rf_a, .inl (cI, 7, .inl (xRf rf (-4))))] H := hP
    have hD : va_D A [(rd, .inr (2, [.int (nI st), .int ho, .int pa, .int si, .int li, .int (nI ln), .ref r0, .ref r1])), (r0, .inl (cI, 7, .inl lg)), (r1, .inl (cL, 3, .inr (.inr (.inr (.inr (xL3 (la 0) (la 1) (la 2))))))), (la 0, .inr (0, [.int (ki 0), .int (ru 0), .int (ne 0), .ref (lk 0)])), (lk 0, .inl (cI, 12, .inl (ch 0))), (la 1, .inr (0, [.int (ki 1), .int (ru 1), .int (ne 1), .ref (lk 1)])), (lk 1, .inl (cI, 12, .inl (ch 1))), (la 2, .inr (0, [.int (ki 2), .int (ru 2), .int (ne 2), .ref (lk 2)])), (lk 2, .inl (cI, 12, .inl (ch 2))), (h0, .inr (4, [.ref rd, .ref dr, .ref kp, .ref pl, .ref tx, .ref nu, .ref rf_a, .int nc, .int hi, .int pd])), (rf_a, .inl (cI, 7, .inl (xRf rf (-4))))] := hD
    obtain rfl : (xLg (-4 : Int32) : Int64) = r_13 := Eq.symm hw
    have hP9 := hP.sub (ws' := [(h0, .inr (4, [.ref rd, .ref dr, .ref kp, .ref pl, .ref tx, .ref nu, .ref rf_a, .int nc, .int hi, .int pd])), (rd, .inr (2, [.int (nI st), .int ho, .int pa, .int si, .int li, .int (nI ln), .ref r0, .ref r1])), (r0, .inl (cI, 7, .inl lg)), (r1, .inl (cL, 3, .inr (.inr (.inr (.inr (xL3 (la 0) (la 1) (la 2))))))), (la 0, .inr (0, [.int (ki 0), .int (ru 0), .int (ne 0), .ref (lk 0)])), (lk 0, .inl (cI, 12, .inl (ch 0))), (la 1, .inr (0, [.int (ki 1), .int (ru 1), .int (ne 1), .ref (lk 1)])), (lk 1, .inl (cI, 12, .inl (ch 1))), (la 2, .inr (0, [.int (ki 2), .int (ru 2), .int (ne 2), .ref (lk 2)])), (lk 2, .inl (cI, 12, .inl (ch 2))), (rf_a, .inl (cI, 7, .inl (xRf rf (-4))))]) [9, 0, 1, 2, 3, 4, 5, 6, 7, 8, 10] rfl
    have hD9 := hD.sub (ws' := [(h0, .inr (4, [.ref rd, .ref dr, .ref kp, .ref pl, .ref tx, .ref nu, .ref rf_a, .int nc, .int hi, .int pd])), (rd, .inr (2, [.int (nI st), .int ho, .int pa, .int si, .int li, .int (nI ln), .ref r0, .ref r1])), (r0, .inl (cI, 7, .inl lg)), (r1, .inl (cL, 3, .inr (.inr (.inr (.inr (xL3 (la 0) (la 1) (la 2))))))), (la 0, .inr (0, [.int (ki 0), .int (ru 0), .int (ne 0), .ref (lk 0)])), (lk 0, .inl (cI, 12, .inl (ch 0))), (la 1, .inr (0, [.int (ki 1), .int (ru 1), .int (ne 1), .ref (lk 1)])), (lk 1, .inl (cI, 12, .inl (ch 1))), (la 2, .inr (0, [.int (ki 2), .int (ru 2), .int (ne 2), .ref (lk 2)])), (lk 2, .inl (cI, 12, .inl (ch 2))), (rf_a, .inl (cI, 7, .inl (xRf rf (-4))))]) [9, 0, 1, 2, 3, 4, 5, 6, 7, 8, 10] (by decide) rfl
    have hE9 : ([(h0, .inr (4, [.ref rd, .ref dr, .ref kp, .ref pl, .ref tx, .ref nu, .ref rf_a, .int nc, .int hi, .int pd])), (rd, .inr (2, [.int (nI st), .int ho, .int pa, .int si, .int li, .int (nI ln), .ref r0, .ref r1])), (r0, .inl (cI, 7, .inl lg)), (r1, .inl (cL, 3, .inr (.inr (.inr (.inr (xL3 (la 0) (la 1) (la 2))))))), (la 0, .inr (0, [.int (ki 0), .int (ru 0), .int (ne 0), .ref (lk 0)])), (lk 0, .inl (cI, 12, .inl (ch 0))), (la 1, .inr (0, [.int (ki 1), .int (ru 1), .int (ne 1), .ref (lk 1)])), (lk 1, .inl (cI, 12, .inl (ch 1))), (la 2, .inr (0, [.int (ki 2), .int (ru 2), .int (ne 2), .ref (lk 2)])), (lk 2, .inl (cI, 12, .inl (ch 2))), (rf_a, .inl (cI, 7, .inl (xRf rf (-4))))] : va_W) = [(h0, .inr (4, [.ref rd, .ref dr, .ref kp, .ref pl, .ref tx, .ref nu, .ref rf_a, .int nc, .int hi, .int pd])), (rd, .inr (2, [.int (nI st), .int ho, .int pa, .int si, .int li, .int (nI ln), .ref r0, .ref r1])), (r0, .inl (cI, 7, .inl lg)), (r1, .inl (cL, 3, .inr (.inr (.inr (.inr (xL3 (la 0) (la 1) (la 2))))))), (la 0, .inr (0, [.int (ki 0), .int (ru 0), .int (ne 0), .ref (lk 0)])), (lk 0, .inl (cI, 12, .inl (ch 0))), (la 1, .inr (0, [.int (ki 1), .int (ru 1), .int (ne 1), .ref (lk 1)])), (lk 1, .inl (cI, 12, .inl (ch 1))), (la 2, .inr (0, [.int (ki 2), .int (ru 2), .int (ne 2), .ref (lk 2)])), (lk 2, .inl (cI, 12, .inl (ch 2))), (rf_a, .inl (cI, 7, .inl (xRq rf (qLm ln (nI j0) (nI j1) a3 a4))))] := by simp [xRq, qLm, vLm, xPSum, h_9, c_5, (Int32.not_le.mp c_6)]
    exact W.lret (v := xLg (-4 : Int32)) hx hb hr (fun t ht hW => ⟨⟨_, (), rfl, by simp [qLm, vLm, xPSum, h_9, c_5, (Int32.not_le.mp c_6), nI_clamp (show j0 < 2 ^ 31 by omega), nI_clamp (show j1 < 2 ^ 31 by omega)], by rw [ht]; exact hE9 ▸ hP9, hE9 ▸ hD9⟩, hS.F ht⟩) hS.2.2 dX4_letMean_25

set_option maxHeartbeats 4000000 in
set_option maxRecDepth 100000 in
theorem g_X5_count (l : Launch) (D : va_G) (cI cL cZ cC : ClassId) (g0 : Nat) (ra : Nat) (wa : Nat) (ta : Nat) (ma : Nat) (pa : Nat) (ba : Nat) (ka : Nat) (fa : Nat) (qa : Nat) (ea : Nat) (za : Nat) (ya : Nat) (kpt : Int32) (mkd : Int32) (at0 : Int32) (wel : Int32) (srt : Int32) (wks : Int32) (tn : Nat) (st : Nat) (nw : Nat → Int32) (ln : Nat) (rf : Nat → Int32) (a1 : Int32) (hn0 : nw 0 = nI st) (hs1 : 1 ≤ st) (hs7 : st ≤ 7) (hn3 : nw 3 = nI ln) (hln : ln ≤ 3) : Met l yX5_count wsX5_count ({ frames := 0, cells := 0, slots := 0, locals := 0 } : Room) (xPc D [.ref g0, .int a1] [(g0, .inr (5, [.ref ra, .ref wa, .ref ta, .int kpt, .ref ma, .int mkd, .ref pa, .int (nI tn), .int at0, .int wel, .ref ba, .ref ka, .int srt, .ref fa, .ref qa, .ref ea, .ref za, .ref ya, .int wks])), (wa, .inl (cI, 70, .inl nw)), (ra, .inl (cI, 7, .inl rf))] (xTy cI cL cZ cC)) (vp_Si (fun r : Int32 => r = sCnt st ln (nw 1) (nw 2) (nw 4) (nw 5) (fun i => nw (10 + i)) mkd tn rf a1)) 0 0 (fun _ => False) := by
  refine Met.ofW (cc := cX5_count) (maxL := 4) (ret := (some .int)) (by decide) rfl ?_
  intro p e s m args below meth c s₁ B hml hv
  obtain ⟨rfl, hP, hK⟩ := hv
  have hx := B.exec
  have hb := B.bytes
  have hr := B.returns
  have hts := atoms_spec (ws := wsX5_count) B.pre
  have hown : s.vm.findClass RX5 = some m.cls := findClass_of_methodNamed B.named
  have hlocks := B.notSynchronized
  have hwX5 : ∀ w ∈ u_ws RX5 TX5 19, w ∈ wsX5_count := fun _ h => List.mem_cons_of_mem _ (List.mem_append_right _ h)
  have hl := lv_entry ([.ref g0, .int a1]) (n := 4) (Nat.le_of_ble_eq_true rfl)
  rw [lg_entry_eq]
  generalize (lg_sl ([.ref g0, .int a1]) ++ List.replicate (4 - (lg_sl ([.ref g0, .int a1])).length) Slot.unset).toArray = ls at hl ⊢
  have hl : lv_has ls 4 [(0, .ref g0), (1, .int a1)] := hl
  by_cases h_1 : a1 < 0
  · refine lv_iload_n hx hb dX5_count_0 rfl (lv_at hl 1 rfl) ?_
    refine lv_tableOut (tgt := 132) hx hb dX5_count_1 (Or.inl ((xi_lt _ _).mp h_1)) (by decide) ?_
    refine lv_iload_n hx hb dX5_count_132 rfl (lv_at hl 1 rfl) ?_
    refine lv_bipush (v := 11) hx hb dX5_count_133 (by decide) ?_
    refine lv_icmp_lt (tgt := 156) hx hb dX5_count_135 (by decide) (fun c_1 => ?_) (fun c_1 => absurd (xlt h_1 (by decide)) c_1)
    refine lv_bipush (v := -9) hx hb dX5_count_156 (by decide) ?_
    exact W.iret (v := -9) hx hb hr (fun t ht hW => ⟨_, rfl, (sCnt_lo h_1).symm, ht⟩) (fun _ h => absurd h List.not_mem_nil) dX5_count_158
  by_cases h_2 : 16 < a1
  · refine lv_iload_n hx hb dX5_count_0 rfl (lv_at hl 1 rfl) ?_
    refine lv_tableOut (tgt := 132) hx hb dX5_count_1 (Or.inr ((xi_lt _ _).mp (xlt2 (a := 7) (b := 16) (by decide) h_2))) (by decide) ?_
    refine lv_iload_n hx hb dX5_count_132 rfl (lv_at hl 1 rfl) ?_
    refine lv_bipush (v := 11) hx hb dX5_count_133 (by decide) ?_
    refine lv_icmp_lt (tgt := 156) hx hb dX5_count_135 (by decide) (fun c_2 => (xno c_2 (by decide) h_2).elim) (fun c_2 => ?_)
    refine lv_iload_n hx hb dX5_count_138 rfl (lv_at hl 1 rfl) ?_
    refine lv_bipush (v := 16) hx hb dX5_count_139 (by decide) ?_
    refine lv_icmp_gt (tgt := 156) hx hb dX5_count_141 (by decide) (fun c_3 => ?_) (fun c_3 => absurd h_2 c_3)
    refine lv_bipush (v := -9) hx hb dX5_count_156 (by decide) ?_
    exact W.iret (v := -9) hx hb hr (fun t ht hW => ⟨_, rfl, (sCnt_hi h_2).symm, ht⟩) (fun _ h => absurd h List.not_mem_nil) dX5_count_158
  rcases xz17 h_1 h_2 with rfl | rfl | rfl | rfl | rfl | rfl | rfl | rfl | rfl | rfl | rfl | rfl | rfl | rfl | rfl | rfl | rfl
  · refine lv_iload_n hx hb dX5_count_0 rfl (lv_at hl 1 rfl) ?_
    refine lv_tableIn (off := 47) (tgt := 48) hx hb dX5_count_1 (by decide +kernel) (by decide +kernel) (by decide +kernel) (by decide) ?_
    refine lv_aload_n hx hb dX5_count_48 rfl (lv_at hl 0 rfl) ?_
    refine va_get (D := D) (ci := 5) (v := .ref wa) (C := RX5) (T := TX5) (N := 19) hx hb hts hwX5 hown hK hP 0 rfl rfl 1 (by decide) (hts (.fieldLink RX5 19 "WaitOrWalkOnModel" "now" "[I") (by decide +kernel)) (fun _ h9 => h9) rfl dX5_count_49 ?_
    refine lv_iconst (v := 0) hx hb dX5_count_52 (by decide) ?_
    refine va_iald (D := D) hx hb hK hP 1 0 rfl rfl (by unfold vp_in; decide +kernel) dX5_count_53 ?_
    refine xv_int (y := nw 0) rfl ?_
    refine xv_int (y := nI st) (hn0) ?_
    exact W.iret (v := nI st) hx hb hr (fun t ht hW => ⟨_, rfl, by simp [sCnt], ht⟩) (fun _ h => absurd h List.not_mem_nil) dX5_count_54
  · refine lv_iload_n hx hb dX5_count_0 rfl (lv_at hl 1 rfl) ?_
    refine lv_tableIn (off := 54) (tgt := 55) hx hb dX5_count_1 (by decide +kernel) (by decide +kernel) (by decide +kernel) (by decide) ?_
    refine lv_aload_n hx hb dX5_count_55 rfl (lv_at hl 0 rfl) ?_
    refine va_get (D := D) (ci := 5) (v := .ref wa) (C := RX5) (T := TX5) (N := 19) hx hb hts hwX5 hown hK hP 0 rfl rfl 1 (by decide) (hts (.fieldLink RX5 19 "WaitOrWalkOnModel" "now" "[I") (by decide +kernel)) (fun _ h9 => h9) rfl dX5_count_56 ?_
    refine lv_iconst (v := 3) hx hb dX5_count_59 (by decide) ?_
    refine va_iald (D := D) hx hb hK hP 1 0 rfl rfl (by unfold vp_in; decide +kernel) dX5_count_60 ?_
    refine xv_int (y := nw 3) rfl ?_
    refine xv_int (y := nI ln) (hn3) ?_
    exact W.iret (v := nI ln) hx hb hr (fun t ht hW => ⟨_, rfl, by simp [sCnt], ht⟩) (fun _ h => absurd h List.not_mem_nil) dX5_count_61
  · refine lv_iload_n hx hb dX5_count_0 rfl (lv_at hl 1 rfl) ?_
    refine lv_tableIn (off := 61) (tgt := 62) hx hb dX5_count_1 (by decide +kernel) (by decide +kernel) (by decide +kernel) (by decide) ?_
    refine lv_aload_n hx hb dX5_count_62 rfl (lv_at hl 0 rfl) ?_
    refine va_get (D := D) (ci := 5) (v := .ref wa) (C := RX5) (T := TX5) (N := 19) hx hb hts hwX5 hown hK hP 0 rfl rfl 1 (by decide) (hts (.fieldLink RX5 19 "WaitOrWalkOnModel" "now" "[I") (by decide +kernel)) (fun _ h9 => h9) rfl dX5_count_63 ?_
    refine lv_iconst (v := 1) hx hb dX5_count_66 (by decide) ?_
    refine va_iald (D := D) hx hb hK hP 1 0 rfl rfl (by unfold vp_in; decide +kernel) dX5_count_67 ?_
    refine xv_int (y := nw 1) rfl ?_
    refine lv_istore_n (lv' := [(2, .int (nw 1)), (0, .ref g0), (1, .int 2)]) hx hb dX5_count_68 rfl hl (by decide) rfl (fun ls hl => ?_)
    refine lv_iconst (v := 1) hx hb dX5_count_69 (by decide) ?_
    refine lv_istore_n (lv' := [(3, .int 1), (2, .int (nw 1)), (0, .ref g0), (1, .int 2)]) hx hb dX5_count_70 rfl hl (by decide) rfl (fun ls hl => ?_)
    refine xl_loop (σ := Nat) (fun n q ls => lv_has ls 4 [(3, .int (nI (q + 1))), (2, .int (xAcc (nw 1) (fun i => nw (10 + i)) q)), (0, .ref g0), (1, .int 2)] ∧ (st - (q + 1) < n) ∧ (q + 1 ≤ st)) (st + 1) (0) ⟨lv_sub hl [0, 1, 2, 3] rfl, by (try dsimp only); exact ⟨by omega, by omega⟩⟩ (fun q ls h => absurd h.2.1 (Nat.not_lt_zero _)) ?_
    intro n_71 q_71 ls ih_71 hI_71
    obtain ⟨hl, hI_71⟩ := hI_71
    obtain ⟨k, e_71⟩ : ∃ z, z = q_71 := ⟨_, rfl⟩
    subst e_71
    obtain ⟨h1, h2⟩ := hI_71
    try dsimp only at hl h1 h2
    refine lv_iload_n hx hb dX5_count_71 rfl (lv_at hl 0 rfl) ?_
    refine lv_aload_n hx hb dX5_count_72 rfl (lv_at hl 2 rfl) ?_
    refine va_get (D := D) (ci := 5) (v := .ref wa) (C := RX5) (T := TX5) (N := 19) hx hb hts hwX5 hown hK hP 0 rfl rfl 1 (by decide) (hts (.fieldLink RX5 19 "WaitOrWalkOnModel" "now" "[I") (by decide +kernel)) (fun _ h9 => h9) rfl dX5_count_73 ?_
    refine lv_iconst (v := 0) hx hb dX5_count_76 (by decide) ?_
    refine va_iald (D := D) hx hb hK hP 1 0 rfl rfl (by unfold vp_in; decide +kernel) dX5_count_77 ?_
    refine xv_int (y := nw 0) rfl ?_
    refine xv_int (y := nI st) (hn0) ?_
    refine lv_icmp_ge (tgt := 99) hx hb dX5_count_78 (by decide) (fun c_4 => ?_) (fun c_4 => ?_)
    · refine lv_iload_n hx hb dX5_count_99 rfl (lv_at hl 1 rfl) ?_
      exact W.iret (v := xAcc (nw 1) (fun i => nw (10 + i)) k) hx hb hr (fun t ht hW => ⟨_, rfl, (by have w := mt (nI_ltI (a := k + 1) (b := st) (by omega) (by omega)).mpr (Int32.not_lt.mpr c_4); rw [show k = st - 1 by omega]; simp [sCnt]), ht⟩) (fun _ h => absurd h List.not_mem_nil) dX5_count_100
    · refine lv_iload_n hx hb dX5_count_81 rfl (lv_at hl 1 rfl) ?_
      refine lv_aload_n hx hb dX5_count_82 rfl (lv_at hl 2 rfl) ?_
      refine va_get (D := D) (ci := 5) (v := .ref wa) (C := RX5) (T := TX5) (N := 19) hx hb hts hwX5 hown hK hP 0 rfl rfl 1 (by decide) (hts (.fieldLink RX5 19 "WaitOrWalkOnModel" "now" "[I") (by decide +kernel)) (fun _ h9 => h9) rfl dX5_count_83 ?_
      refine lv_bipush (v := 10) hx hb dX5_count_86 (by decide) ?_
      refine lv_iload_n hx hb dX5_count_88 rfl (lv_at hl 0 rfl) ?_
      refine lv_iadd hx hb dX5_count_89 ?_
      refine xv_int (y := nI (10 + (k + 1))) (nI_add 10 (k + 1)) ?_
      refine va_iald (D := D) hx hb hK hP 1 0 rfl rfl (vp_in_nI (by have w := (nI_ltI (a := k + 1) (b := st) (by omega) (by omega)).mp (Int32.not_le.mp c_4); omega) (by decide)) dX5_count_90 ?_
      refine xv_int (y := nw (10 + (k + 1))) (congrArg nw (nI_clamp (by omega))) ?_
      refine lv_iadd hx hb dX5_count_91 ?_
      refine xv_int (y := xAcc (nw 1) (fun i => nw (10 + i)) (k + 1)) (rfl) ?_
      refine lv_istore_n (lv' := [(2, .int (xAcc (nw 1) (fun i => nw (10 + i)) (k + 1))), (3, .int (nI (k + 1))), (0, .ref g0), (1, .int 2)]) hx hb dX5_count_92 rfl hl (by decide) rfl (fun ls hl => ?_)
      refine lv_iinc (v := nI (k + 1 + 1)) (lv' := [(3, .int (nI (k + 1 + 1))), (2, .int (xAcc (nw 1) (fun i => nw (10 + i)) (k + 1))), (0, .ref g0), (1, .int 2)]) hx hb dX5_count_93 hl (k := 1) rfl (nI_1 (k + 1)) (by decide) rfl (fun ls hl => ?_)
      refine lv_goto (tgt := 71) hx hb dX5_count_96 (by decide) ?_
      have w := (nI_ltI (a := k + 1) (b := st) (by omega) (by omega)).mp (Int32.not_le.mp c_4)
      exact ih_71 (k + 1) _ ⟨lv_sub hl [0, 1, 2, 3] rfl, by (try dsimp only); exact ⟨by omega, by omega⟩⟩
  · refine lv_iload_n hx hb dX5_count_0 rfl (lv_at hl 1 rfl) ?_
    refine lv_tableIn (off := 100) (tgt := 101) hx hb dX5_count_1 (by decide +kernel) (by decide +kernel) (by decide +kernel) (by decide) ?_
    refine lv_aload_n hx hb dX5_count_101 rfl (lv_at hl 0 rfl) ?_
    refine va_get (D := D) (ci := 5) (v := .ref wa) (C := RX5) (T := TX5) (N := 19) hx hb hts hwX5 hown hK hP 0 rfl rfl 1 (by decide) (hts (.fieldLink RX5 19 "WaitOrWalkOnModel" "now" "[I") (by decide +kernel)) (fun _ h9 => h9) rfl dX5_count_102 ?_
    refine lv_iconst (v := 2) hx hb dX5_count_105 (by decide) ?_
    refine va_iald (D := D) hx hb hK hP 1 0 rfl rfl (by unfold vp_in; decide +kernel) dX5_count_106 ?_
    refine xv_int (y := nw 2) rfl ?_
    exact W.iret (v := nw 2) hx hb hr (fun t ht hW => ⟨_, rfl, by simp [sCnt], ht⟩) (fun _ h => absurd h List.not_mem_nil) dX5_count_107
  · refine lv_iload_n hx hb dX5_count_0 rfl (lv_at hl 1 rfl) ?_
    refine lv_tableIn (off := 107) (tgt := 108) hx hb dX5_count_1 (by decide +kernel) (by decide +kernel) (by decide +kernel) (by decide) ?_
    refine lv_aload_n hx hb dX5_count_108 rfl (lv_at hl 0 rfl) ?_
    refine va_get (D := D) (ci := 5) (v := .ref wa) (C := RX5) (T := TX5) (N := 19) hx hb hts hwX5 hown hK hP 0 rfl rfl 1 (by decide) (hts (.fieldLink RX5 19 "WaitOrWalkOnModel" "now" "[I") (by decide +kernel)) (fun _ h9 => h9) rfl dX5_count_109 ?_
    refine lv_iconst (v := 4) hx hb dX5_count_112 (by decide) ?_
    refine va_iald (D := D) hx hb hK hP 1 0 rfl rfl (by unfold vp_in; decide +kernel) dX5_count_113 ?_
    refine xv_int (y := nw 4) rfl ?_
    exact W.iret (v := nw 4) hx hb hr (fun t ht hW => ⟨_, rfl, by simp [sCnt], ht⟩) (fun _ h => absurd h List.not_mem_nil) dX5_count_114
  · refine lv_iload_n hx hb dX5_count_0 rfl (lv_at hl 1 rfl) ?_
    refine lv_tableIn (off := 114) (tgt := 115) hx hb dX5_count_1 (by decide +kernel) (by decide +kernel) (by decide +kernel) (by decide) ?_
    refine lv_aload_n hx hb dX5_count_115 rfl (lv_at hl 0 rfl) ?_
    refine va_get (D := D) (ci := 5) (v := .ref wa) (C := RX5) (T := TX5) (N := 19) hx hb hts hwX5 hown hK hP 0 rfl rfl 1 (by decide) (hts (.fieldLink RX5 19 "WaitOrWalkOnModel" "now" "[I") (by decide +kernel)) (fun _ h9 => h9) rfl dX5_count_116 ?_
    refine lv_iconst (v := 5) hx hb dX5_count_119 (by decide) ?_
    refine va_iald (D := D) hx hb hK hP 1 0 rfl rfl (by unfold vp_in; decide +kernel) dX5_count_120 ?_
    refine xv_int (y := nw 5) rfl ?_
    exact W.iret (v := nw 5) hx hb hr (fun t ht hW => ⟨_, rfl, by simp [sCnt], ht⟩) (fun _ h => absurd h List.not_mem_nil) dX5_count_121
  · refine lv_iload_n hx hb dX5_count_0 rfl (lv_at hl 1 rfl) ?_
    refine lv_tableIn (off := 121) (tgt := 122) hx hb dX5_count_1 (by decide +kernel) (by decide +kernel) (by decide +kernel) (by decide) ?_
    refine lv_aload_n hx hb dX5_count_122 rfl (lv_at hl 0 rfl) ?_
    refine va_get (D := D) (ci := 5) (v := .int mkd) (C := RX5) (T := TX5) (N := 19) hx hb hts hwX5 hown hK hP 0 rfl rfl 5 (by decide) (hts (.fieldLink RX5 188 "WaitOrWalkOnModel" "marked" "I") (by decide +kernel)) (fun _ h9 => h9) rfl dX5_count_123 ?_
    exact W.iret (v := mkd) hx hb hr (fun t ht hW => ⟨_, rfl, by simp [sCnt], ht⟩) (fun _ h => absurd h List.not_mem_nil) dX5_count_126
  · refine lv_iload_n hx hb dX5_count_0 rfl (lv_at hl 1 rfl) ?_
    refine lv_tableIn (off := 126) (tgt := 127) hx hb dX5_count_1 (by decide +kernel) (by decide +kernel) (by decide +kernel) (by decide) ?_
    refine lv_aload_n hx hb dX5_count_127 rfl (lv_at hl 0 rfl) ?_
    refine va_get (D := D) (ci := 5) (v := .int (nI tn)) (C := RX5) (T := TX5) (N := 19) hx hb hts hwX5 hown hK hP 0 rfl rfl 7 (by decide) (hts (.fieldLink RX5 57 "WaitOrWalkOnModel" "taped" "I") (by decide +kernel)) (fun _ h9 => h9) rfl dX5_count_128 ?_
    exact W.iret (v := nI tn) hx hb hr (fun t ht hW => ⟨_, rfl, by simp [sCnt], ht⟩) (fun _ h => absurd h List.not_mem_nil) dX5_count_131
  · refine lv_iload_n hx hb dX5_count_0 rfl (lv_at hl 1 rfl) ?_
    refine lv_tableOut (tgt := 132) hx hb dX5_count_1 (by decide +kernel) (by decide) ?_
    refine lv_iload_n hx hb dX5_count_132 rfl (lv_at hl 1 rfl) ?_
    refine lv_bipush (v := 11) hx hb dX5_count_133 (by decide) ?_
    refine lv_icmp_lt (tgt := 156) hx hb dX5_count_135 (by decide) (fun c_5 => ?_) (fun c_5 => absurd c_5 (by decide +kernel))
    refine lv_bipush (v := -9) hx hb dX5_count_156 (by decide) ?_
    exact W.iret (v := -9) hx hb hr (fun t ht hW => ⟨_, rfl, by simp [sCnt], ht⟩) (fun _ h => absurd h List.not_mem_nil) dX5_count_158
  · refine lv_iload_n hx hb dX5_count_0 rfl (lv_at hl 1 rfl) ?_
    refine lv_tableOut (tgt := 132) hx hb dX5_count_1 (by decide +kernel) (by decide) ?_
    refine lv_iload_n hx hb dX5_count_132 rfl (lv_at hl 1 rfl) ?_
    refine lv_bipush (v := 11) hx hb dX5_count_133 (by decide) ?_
    refine lv_icmp_lt (tgt := 156) hx hb dX5_count_135 (by decide) (fun c_6 => ?_) (fun c_6 => absurd c_6 (by decide +kernel))
    refine lv_bipush (v := -9) hx hb dX5_count_156 (by decide) ?_
    exact W.iret (v := -9) hx hb hr (fun t ht hW => ⟨_, rfl, by simp [sCnt], ht⟩) (fun _ h => absurd h List.not_mem_nil) dX5_count_158
  · refine lv_iload_n hx hb dX5_count_0 rfl (lv_at hl 1 rfl) ?_
    refine lv_tableOut (tgt := 132) hx hb dX5_count_1 (by decide +kernel) (by decide) ?_
    refine lv_iload_n hx hb dX5_count_132 rfl (lv_at hl 1 rfl) ?_
    refine lv_bipush (v := 11) hx hb dX5_count_133 (by decide) ?_
    refine lv_icmp_lt (tgt := 156) hx hb dX5_count_135 (by decide) (fun c_7 => ?_) (fun c_7 => absurd c_7 (by decide +kernel))
    refine lv_bipush (v := -9) hx hb dX5_count_156 (by decide) ?_
    exact W.iret (v := -9) hx hb hr (fun t ht hW => ⟨_, rfl, by simp [sCnt], ht⟩) (fun _ h => absurd h List.not_mem_nil) dX5_count_158
  · refine lv_iload_n hx hb dX5_count_0 rfl (lv_at hl 1 rfl) ?_
    refine lv_tableOut (tgt := 132) hx hb dX5_count_1 (by decide +kernel) (by decide) ?_
    refine lv_iload_n hx hb dX5_count_132 rfl (lv_at hl 1 rfl) ?_
    refine lv_bipush (v := 11) hx hb dX5_count_133 (by decide) ?_
    refine lv_icmp_lt (tgt := 156) hx hb dX5_count_135 (by decide) (fun c_8 => absurd c_8 (by decide +kernel)) (fun c_8 => ?_)
    refine lv_iload_n hx hb dX5_count_138 rfl (lv_at hl 1 rfl) ?_
    refine lv_bipush (v := 16) hx hb dX5_count_139 (by decide) ?_
    refine lv_icmp_gt (tgt := 156) hx hb dX5_count_141 (by decide) (fun c_9 => absurd c_9 (by decide +kernel)) (fun c_9 => ?_)
    refine lv_aload_n hx hb dX5_count_144 rfl (lv_at hl 0 rfl) ?_
    refine va_get (D := D) (ci := 5) (v := .ref ra) (C := RX5) (T := TX5) (N := 19) hx hb hts hwX5 hown hK hP 0 rfl rfl 0 (by decide) (hts (.fieldLink RX5 1 "WaitOrWalkOnModel" "refused" "[I") (by decide +kernel)) (fun _ h9 => h9) rfl dX5_count_145 ?_
    refine lv_iload_n hx hb dX5_count_148 rfl (lv_at hl 1 rfl) ?_
    refine lv_bipush (v := 10) hx hb dX5_count_149 (by decide) ?_
    refine lv_isub hx hb dX5_count_151 ?_
    refine xv_int (y := 1) (by decide +kernel) ?_
    refine va_iald (D := D) hx hb hK hP 2 0 rfl rfl (by unfold vp_in; decide +kernel) dX5_count_152 ?_
    refine xv_int (y := rf 1) rfl ?_
    refine lv_goto (tgt := 158) hx hb dX5_count_153 (by decide) ?_
    exact W.iret (v := rf 1) hx hb hr (fun t ht hW => ⟨_, rfl, by simp [sCnt], ht⟩) (fun _ h => absurd h List.not_mem_nil) dX5_count_158
  · refine lv_iload_n hx hb dX5_count_0 rfl (lv_at hl 1 rfl) ?_
    refine lv_tableOut (tgt := 132) hx hb dX5_count_1 (by decide +kernel) (by decide) ?_
    refine lv_iload_n hx hb dX5_count_132 rfl (lv_at hl 1 rfl) ?_
    refine lv_bipush (v := 11) hx hb dX5_count_133 (by decide) ?_
    refine lv_icmp_lt (tgt := 156) hx hb dX5_count_135 (by decide) (fun c_10 => absurd c_10 (by decide +kernel)) (fun c_10 => ?_)
    refine lv_iload_n hx hb dX5_count_138 rfl (lv_at hl 1 rfl) ?_
    refine lv_bipush (v := 16) hx hb dX5_count_139 (by decide) ?_
    refine lv_icmp_gt (tgt := 156) hx hb dX5_count_141 (by decide) (fun c_11 => absurd c_11 (by decide +kernel)) (fun c_11 => ?_)
    refine lv_aload_n hx hb dX5_count_144 rfl (lv_at hl 0 rfl) ?_
    refine va_get (D := D) (ci := 5) (v := .ref ra) (C := RX5) (T := TX5) (N := 19) hx hb hts hwX5 hown hK hP 0 rfl rfl 0 (by decide) (hts (.fieldLink RX5 1 "WaitOrWalkOnModel" "refused" "[I") (by decide +kernel)) (fun _ h9 => h9) rfl dX5_count_145 ?_
    refine lv_iload_n hx hb dX5_count_148 rfl (lv_at hl 1 rfl) ?_
    refine lv_bipush (v := 10) hx hb dX5_count_149 (by decide) ?_
    refine lv_isub hx hb dX5_count_151 ?_
    refine xv_int (y := 2) (by decide +kernel) ?_
    refine va_iald (D := D) hx hb hK hP 2 0 rfl rfl (by unfold vp_in; decide +kernel) dX5_count_152 ?_
    refine xv_int (y := rf 2) rfl ?_
    refine lv_goto (tgt := 158) hx hb dX5_count_153 (by decide) ?_
    exact W.iret (v := rf 2) hx hb hr (fun t ht hW => ⟨_, rfl, by simp [sCnt], ht⟩) (fun _ h => absurd h List.not_mem_nil) dX5_count_158
  · refine lv_iload_n hx hb dX5_count_0 rfl (lv_at hl 1 rfl) ?_
    refine lv_tableOut (tgt := 132) hx hb dX5_count_1 (by decide +kernel) (by decide) ?_
    refine lv_iload_n hx hb dX5_count_132 rfl (lv_at hl 1 rfl) ?_
    refine lv_bipush (v := 11) hx hb dX5_count_133 (by decide) ?_
    refine lv_icmp_lt (tgt := 156) hx hb dX5_count_135 (by decide) (fun c_12 => absurd c_12 (by decide +kernel)) (fun c_12 => ?_)
    refine lv_iload_n hx hb dX5_count_138 rfl (lv_at hl 1 rfl) ?_
    refine lv_bipush (v := 16) hx hb dX5_count_139 (by decide) ?_
    refine lv_icmp_gt (tgt := 156) hx hb dX5_count_141 (by decide) (fun c_13 => absurd c_13 (by decide +kernel)) (fun c_13 => ?_)
    refine lv_aload_n hx hb dX5_count_144 rfl (lv_at hl 0 rfl) ?_
    refine va_get (D := D) (ci := 5) (v := .ref ra) (C := RX5) (T := TX5) (N := 19) hx hb hts hwX5 hown hK hP 0 rfl rfl 0 (by decide) (hts (.fieldLink RX5 1 "WaitOrWalkOnModel" "refused" "[I") (by decide +kernel)) (fun _ h9 => h9) rfl dX5_count_145 ?_
    refine lv_iload_n hx hb dX5_count_148 rfl (lv_at hl 1 rfl) ?_
    refine lv_bipush (v := 10) hx hb dX5_count_149 (by decide) ?_
    refine lv_isub hx hb dX5_count_151 ?_
    refine xv_int (y := 3) (by decide +kernel) ?_
    refine va_iald (D := D) hx hb hK hP 2 0 rfl rfl (by unfold vp_in; decide +kernel) dX5_count_152 ?_
    refine xv_int (y := rf 3) rfl ?_
    refine lv_goto (tgt := 158) hx hb dX5_count_153 (by decide) ?_
    exact W.iret (v := rf 3) hx hb hr (fun t ht hW => ⟨_, rfl, by simp [sCnt], ht⟩) (fun _ h => absurd h List.not_mem_nil) dX5_count_158
  · refine lv_iload_n hx hb dX5_count_0 rfl (lv_at hl 1 rfl) ?_
    refine lv_tableOut (tgt := 132) hx hb dX5_count_1 (by decide +kernel) (by decide) ?_
    refine lv_iload_n hx hb dX5_count_132 rfl (lv_at hl 1 rfl) ?_
    refine lv_bipush (v := 11) hx hb dX5_count_133 (by decide) ?_
    refine lv_icmp_lt (tgt := 156) hx hb dX5_count_135 (by decide) (fun c_14 => absurd c_14 (by decide +kernel)) (fun c_14 => ?_)
    refine lv_iload_n hx hb dX5_count_138 rfl (lv_at hl 1 rfl) ?_
    refine lv_bipush (v := 16) hx hb dX5_count_139 (by decide) ?_
    refine lv_icmp_gt (tgt := 156) hx hb dX5_count_141 (by decide) (fun c_15 => absurd c_15 (by decide +kernel)) (fun c_15 => ?_)
    refine lv_aload_n hx hb dX5_count_144 rfl (lv_at hl 0 rfl) ?_
    refine va_get (D := D) (ci := 5) (v := .ref ra) (C := RX5) (T := TX5) (N := 19) hx hb hts hwX5 hown hK hP 0 rfl rfl 0 (by decide) (hts (.fieldLink RX5 1 "WaitOrWalkOnModel" "refused" "[I") (by decide +kernel)) (fun _ h9 => h9) rfl dX5_count_145 ?_
    refine lv_iload_n hx hb dX5_count_148 rfl (lv_at hl 1 rfl) ?_
    refine lv_bipush (v := 10) hx hb dX5_count_149 (by decide) ?_
    refine lv_isub hx hb dX5_count_151 ?_
    refine xv_int (y := 4) (by decide +kernel) ?_
    refine va_iald (D := D) hx hb hK hP 2 0 rfl rfl (by unfold vp_in; decide +kernel) dX5_count_152 ?_
    refine xv_int (y := rf 4) rfl ?_
    refine lv_goto (tgt := 158) hx hb dX5_count_153 (by decide) ?_
    exact W.iret (v := rf 4) hx hb hr (fun t ht hW => ⟨_, rfl, by simp [sCnt], ht⟩) (fun _ h => absurd h List.not_mem_nil) dX5_count_158
  · refine lv_iload_n hx hb dX5_count_0 rfl (lv_at hl 1 rfl) ?_
    refine lv_tableOut (tgt := 132) hx hb dX5_count_1 (by decide +kernel) (by decide) ?_
    refine lv_iload_n hx hb dX5_count_132 rfl (lv_at hl 1 rfl) ?_
    refine lv_bipush (v := 11) hx hb dX5_count_133 (by decide) ?_
    refine lv_icmp_lt (tgt := 156) hx hb dX5_count_135 (by decide) (fun c_16 => absurd c_16 (by decide +kernel)) (fun c_16 => ?_)
    refine lv_iload_n hx hb dX5_count_138 rfl (lv_at hl 1 rfl) ?_
    refine lv_bipush (v := 16) hx hb dX5_count_139 (by decide) ?_
    refine lv_icmp_gt (tgt := 156) hx hb dX5_count_141 (by decide) (fun c_17 => absurd c_17 (by decide +kernel)) (fun c_17 => ?_)
    refine lv_aload_n hx hb dX5_count_144 rfl (lv_at hl 0 rfl) ?_
    refine va_get (D := D) (ci := 5) (v := .ref ra) (C := RX5) (T := TX5) (N := 19) hx hb hts hwX5 hown hK hP 0 rfl rfl 0 (by decide) (hts (.fieldLink RX5 1 "WaitOrWalkOnModel" "refused" "[I") (by decide +kernel)) (fun _ h9 => h9) rfl dX5_count_145 ?_
    refine lv_iload_n hx hb dX5_count_148 rfl (lv_at hl 1 rfl) ?_
    refine lv_bipush (v := 10) hx hb dX5_count_149 (by decide) ?_
    refine lv_isub hx hb dX5_count_151 ?_
    refine xv_int (y := 5) (by decide +kernel) ?_
    refine va_iald (D := D) hx hb hK hP 2 0 rfl rfl (by unfold vp_in; decide +kernel) dX5_count_152 ?_
    refine xv_int (y := rf 5) rfl ?_
    refine lv_goto (tgt := 158) hx hb dX5_count_153 (by decide) ?_
    exact W.iret (v := rf 5) hx hb hr (fun t ht hW => ⟨_, rfl, by simp [sCnt], ht⟩) (fun _ h => absurd h List.not_mem_nil) dX5_count_158
  · refine lv_iload_n hx hb dX5_count_0 rfl (lv_at hl 1 rfl) ?_
    refine lv_tableOut (tgt := 132) hx hb dX5_count_1 (by decide +kernel) (by decide) ?_
    refine lv_iload_n hx hb dX5_count_132 rfl (lv_at hl 1 rfl) ?_
    refine lv_bipush (v := 11) hx hb dX5_count_133 (by decide) ?_
    refine lv_icmp_lt (tgt := 156) hx hb dX5_count_135 (by decide) (fun c_18 => absurd c_18 (by decide +kernel)) (fun c_18 => ?_)
    refine lv_iload_n hx hb dX5_count_138 rfl (lv_at hl 1 rfl) ?_
    refine lv_bipush (v := 16) hx hb dX5_count_139 (by decide) ?_
    refine lv_icmp_gt (tgt := 156) hx hb dX5_count_141 (by decide) (fun c_19 => absurd c_19 (by decide +kernel)) (fun c_19 => ?_)
    refine lv_aload_n hx hb dX5_count_144 rfl (lv_at hl 0 rfl) ?_
    refine va_get (D := D) (ci := 5) (v := .ref ra) (C := RX5) (T := TX5) (N := 19) hx hb hts hwX5 hown hK hP 0 rfl rfl 0 (by decide) (hts (.fieldLink RX5 1 "WaitOrWalkOnModel" "refused" "[I") (by decide +kernel)) (fun _ h9 => h9) rfl dX5_count_145 ?_
    refine lv_iload_n hx hb dX5_count_148 rfl (lv_at hl 1 rfl) ?_
    refine lv_bipush (v := 10) hx hb dX5_count_149 (by decide) ?_
    refine lv_isub hx hb dX5_count_151 ?_
    refine xv_int (y := 6) (by decide +kernel) ?_
    refine va_iald (D := D) hx hb hK hP 2 0 rfl rfl (by unfold vp_in; decide +kernel) dX5_count_152 ?_
    refine xv_int (y := rf 6) rfl ?_
    refine lv_goto (tgt := 158) hx hb dX5_count_153 (by decide) ?_
    exact W.iret (v := rf 6) hx hb hr (fun t ht hW => ⟨_, rfl, by simp [sCnt], ht⟩) (fun _ h => absurd h List.not_mem_nil) dX5_count_158
