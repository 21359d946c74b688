/-! those who wait and lose heart: the count of those whose heart is above what is lost; the rounds -/
theorem xb_rng (x : Int32) : -2147483648 ≤ x.toInt ∧ x.toInt < 2147483648 := by
  have h1 := Int32.le_toInt x
  have h2 := Int32.toInt_lt x
  omega
theorem xb_bmod {z : Int} (h1 : -2147483648 ≤ z) (h2 : z < 2147483648) : z.bmod (2 ^ 32) = z := by
  rw [Int.bmod_eq_of_le (by omega) (by omega)]
theorem xb_addI {x y : Int32} (h1 : -2147483648 ≤ x.toInt + y.toInt) (h2 : x.toInt + y.toInt < 2147483648) : (x + y).toInt = x.toInt + y.toInt := by
  rw [Int32.toInt_add, xb_bmod h1 h2]
theorem xb_subI {x y : Int32} (h1 : -2147483648 ≤ x.toInt - y.toInt) (h2 : x.toInt - y.toInt < 2147483648) : (x - y).toInt = x.toInt - y.toInt := by
  rw [Int32.toInt_sub, xb_bmod h1 h2]
def xHt (lo h c : Int32) : Nat → Int32
  | 0 => 0
  | k + 1 => if lo < nI k * h + c then xHt lo h c k + 1 else xHt lo h c k
def xOt (N : Nat) (h c : Int32) : Nat → Int32 × Int32 × Int32
  | 0 => (nI N, 0, 0)
  | j + 1 => (xHt ((xOt N h c j).2.1 + (1 + (xOt N h c j).2.2)) h c N, (xOt N h c j).2.1 + (1 + (xOt N h c j).2.2), (xOt N h c j).1 - xHt ((xOt N h c j).2.1 + (1 + (xOt N h c j).2.2)) h c N)
def sOth (a h c t : Int32) : Int32 := if a < 1 then -4 else if h < 0 then -4 else if c < 0 then -4 else if t < 0 then -4 else if 9 < a then -6 else if 30 < h then -6 else if 30 < c then -6 else if 60 < t then -6 else (xOt a.toNatClampNeg h c t.toNatClampNeg).1
theorem sOth_nI {N M : Nat} {h c : Int32} (hN : 1 ≤ N) (hN9 : N ≤ 9) (hM : M ≤ 60) (h1 : ¬ h < 0) (h2 : ¬ c < 0) (h3 : ¬ 30 < h) (h4 : ¬ 30 < c) : sOth (nI N) h c (nI M) = (xOt N h c M).1 := by
  have a1 : ¬ nI N < 1 := by rw [show (1 : Int32) = nI 1 from rfl, nI_ltI (by omega) (by omega)]; omega
  have a2 : ¬ nI M < 0 := nI_pos (by omega)
  have a3 : ¬ 9 < nI N := by rw [show (9 : Int32) = nI 9 from rfl, nI_ltI (by omega) (by omega)]; omega
  have a4 : ¬ 60 < nI M := by rw [show (60 : Int32) = nI 60 from rfl, nI_ltI (by omega) (by omega)]; omega
  unfold sOth
  rw [if_neg a1, if_neg h1, if_neg h2, if_neg a2, if_neg a3, if_neg h3, if_neg h4, if_neg a4, nI_clamp (by omega), nI_clamp (by omega)]
theorem xN1 {a : Int32} (h1 : ¬ a < 1) (h2 : ¬ 9 < a) : ∃ N : Nat, 1 ≤ N ∧ N ≤ 9 ∧ a = nI N := by
  rw [xi_lt] at h1 h2
  have e0 : (1 : Int32).toInt = 1 := by decide
  have e9 : (9 : Int32).toInt = 9 := by decide
  refine ⟨a.toInt.toNat, by omega, by omega, ?_⟩
  rw [xi_eq, nI_toInt (by omega)]
  omega
/-- how many places hold 0 -/
def xCt (g : Nat → Int32) : Nat → Int32
  | 0 => 0
  | k + 1 => if g k = 0 then xCt g k + 1 else xCt g k
theorem xCt_0 : ∀ N, xCt (fun _ => 0) N = nI N
  | 0 => rfl
  | k + 1 => by simp only [xCt, xCt_0 k, if_true]; exact nI_1 k
theorem xCt_g {g : Nat → Int32} {lo h c : Int32} : ∀ (k : Nat), (∀ i, i < k → g i = if lo < nI i * h + c then 0 else 1) → xCt g k = xHt lo h c k
  | 0, _ => rfl
  | k + 1, H => by
    simp only [xCt, xHt, xCt_g k (fun i hi => H i (by omega)), H k (by omega)]
    by_cases q : lo < nI k * h + c <;> simp [q]
theorem xlin (k a c : Nat) : nI k * nI a + nI c = nI (k * a + c) := by rw [pk_mul, nI_add]
theorem xle0 {a b : Nat} (ha : a < 2 ^ 30) (hb : b < 2 ^ 30) : nI a - nI b ≤ 0 ↔ a ≤ b := by
  rw [xi_le, pk_sub_toInt ha hb]
  have e0 : (0 : Int32).toInt = 0 := by decide
  omega
theorem xbd {N1 A2 A3 : Nat} (k : Nat) (h : k < N1) (h9 : N1 ≤ 9) (h2 : A2 ≤ 30) (h3 : A3 ≤ 30) : k * A2 + A3 ≤ 300 := by
  have := Nat.mul_le_mul (show k ≤ 9 by omega) h2
  omega
theorem xsub_add (a b : Int32) : a + b - a = b := by rw [Int32.add_comm, Int32.add_sub_cancel]
theorem xsub_sub (a b : Int32) : a - (a - b) = b := by rw [Int32.sub_eq_add_neg, Int32.neg_sub, Int32.add_comm, Int32.sub_add_cancel]
theorem xadd_assoc (a b d : Int32) : a + b + d = a + (b + d) := Int32.add_assoc a b d
theorem xadd_swap (a b d : Int32) : a + b + d = a + d + b := by rw [Int32.add_assoc, Int32.add_comm b d, ← Int32.add_assoc]

set_option maxHeartbeats 4000000 in
set_option maxRecDepth 100000 in
theorem c_X4_withHeartAbove (l : Launch) (D : va_G) (cI cL cZ cC : ClassId) (lo : Int32) (N0 : Nat) (hh : Int32) (cc : Int32) (hN : N0 ≤ 9) : Met l yX4_withHeartAbove wsX4_withHeartAbove ({ frames := 0, cells := 0, slots := 0, locals := 0 } : Room) (xPc D [.int lo, .int (nI N0), .int hh, .int cc] [] (xTy cI cL cZ cC)) (vp_Si (fun r : Int32 => r = xHt lo hh cc N0)) 0 0 (fun _ => False) := by
  refine Met.ofW (cc := cX4_withHeartAbove) (maxL := 6) (ret := (some .int)) (by decide) rfl ?_
  intro p e s m args below meth c s₁ B hml hv
  obtain ⟨rfl, hP, hK⟩ := hv
  have hx := B.exec
  have hb := B.bytes
  have hr := B.returns
  have hts := atoms_spec (ws := wsX4_withHeartAbove) B.pre
  have hown : s.vm.findClass RX4 = some m.cls := findClass_of_methodNamed B.named
  have hlocks := B.notSynchronized
  have hl := lv_entry ([.int lo, .int (nI N0), .int hh, .int cc]) (n := 6) (Nat.le_of_ble_eq_true rfl)
  rw [lg_entry_eq]
  generalize (lg_sl ([.int lo, .int (nI N0), .int hh, .int cc]) ++ List.replicate (6 - (lg_sl ([.int lo, .int (nI N0), .int hh, .int cc])).length) Slot.unset).toArray = ls at hl ⊢
  have hl : lv_has ls 6 [(0, .int lo), (1, .int (nI N0)), (2, .int hh), (3, .int cc)] := hl
  refine lv_iconst (v := 0) hx hb dX4_withHeartAbove_0 (by decide) ?_
  refine lv_istore (lv' := [(4, .int 0), (0, .int lo), (1, .int (nI N0)), (2, .int hh), (3, .int cc)]) hx hb dX4_withHeartAbove_1 hl (by decide) rfl (fun ls hl => ?_)
  refine lv_iconst (v := 0) hx hb dX4_withHeartAbove_3 (by decide) ?_
  refine lv_istore (lv' := [(5, .int 0), (4, .int 0), (0, .int lo), (1, .int (nI N0)), (2, .int hh), (3, .int cc)]) hx hb dX4_withHeartAbove_4 hl (by decide) rfl (fun ls hl => ?_)
  refine xl_loop (σ := Nat × Int32) (fun n q ls => lv_has ls 6 [(5, .int (nI q.1)), (4, .int q.2), (0, .int lo), (1, .int (nI N0)), (2, .int hh), (3, .int cc)] ∧ (N0 - q.1 < n) ∧ (q.1 ≤ N0) ∧ (q.2 = xHt lo hh cc q.1)) (N0 + 1) (0, 0) ⟨lv_sub hl [0, 1, 2, 3, 4, 5] rfl, by dsimp only; exact ⟨by omega, by omega, rfl⟩⟩ (fun q ls h => absurd h.2.1 (Nat.not_lt_zero _)) ?_
  intro n_6 q_6 ls ih_6 hI_6
  obtain ⟨hl, hI_6⟩ := hI_6
  obtain ⟨k, z⟩ := q_6
  obtain ⟨h1, h2, h3⟩ := hI_6
  dsimp only at hl h1 h2 h3
  refine lv_iload hx hb dX4_withHeartAbove_6 (lv_at hl 0 rfl) ?_
  refine lv_iload_n hx hb dX4_withHeartAbove_8 rfl (lv_at hl 3 rfl) ?_
  refine lv_icmp_ge (tgt := 31) hx hb dX4_withHeartAbove_9 (by decide) (fun c_1 => ?_) (fun c_1 => ?_)
  · refine lv_iload hx hb dX4_withHeartAbove_31 (lv_at hl 1 rfl) ?_
    exact W.iret (v := z) hx hb hr (fun t ht hW => ⟨_, rfl, (by have w := mt (nI_ltI (by omega) (by omega)).mpr (Int32.not_lt.mpr c_1); rw [show N0 = k by omega]; exact h3), ht⟩) (fun _ h => absurd h List.not_mem_nil) dX4_withHeartAbove_33
  · refine lv_iload hx hb dX4_withHeartAbove_12 (lv_at hl 0 rfl) ?_
    refine lv_iload_n hx hb dX4_withHeartAbove_14 rfl (lv_at hl 4 rfl) ?_
    refine lv_imul hx hb dX4_withHeartAbove_15 ?_
    refine lv_iload_n hx hb dX4_withHeartAbove_16 rfl (lv_at hl 5 rfl) ?_
    refine lv_iadd hx hb dX4_withHeartAbove_17 ?_
    refine lv_iload_n hx hb dX4_withHeartAbove_18 rfl (lv_at hl 2 rfl) ?_
    refine lv_icmp_le (tgt := 25) hx hb dX4_withHeartAbove_19 (by decide) (fun c_2 => ?_) (fun c_2 => ?_)
    · refine lv_iinc (v := nI (k + 1)) (lv' := [(5, .int (nI (k + 1))), (4, .int z), (0, .int lo), (1, .int (nI N0)), (2, .int hh), (3, .int cc)]) hx hb dX4_withHeartAbove_25 hl (k := 0) rfl (nI_1 k) (by decide) rfl (fun ls hl => ?_)
      refine lv_goto (tgt := 6) hx hb dX4_withHeartAbove_28 (by decide) ?_
      exact ih_6 (k + 1, z) _ ⟨lv_sub hl [0, 1, 2, 3, 4, 5] rfl, (by have q := (nI_ltI (by omega) (by omega)).mp (Int32.not_le.mp c_1); exact ⟨by omega, by omega, by simp only [xHt]; rw [if_neg (Int32.not_lt.mpr c_2), h3]⟩)⟩
    · refine lv_iinc (v := z + 1) (lv' := [(4, .int (z + 1)), (5, .int (nI k)), (0, .int lo), (1, .int (nI N0)), (2, .int hh), (3, .int cc)]) hx hb dX4_withHeartAbove_22 hl (k := 1) rfl rfl (by decide) rfl (fun ls hl => ?_)
      refine lv_iinc (v := nI (k + 1)) (lv' := [(5, .int (nI (k + 1))), (4, .int (z + 1)), (0, .int lo), (1, .int (nI N0)), (2, .int hh), (3, .int cc)]) hx hb dX4_withHeartAbove_25 hl (k := 1) rfl (nI_1 k) (by decide) rfl (fun ls hl => ?_)
      refine lv_goto (tgt := 6) hx hb dX4_withHeartAbove_28 (by decide) ?_
      exact ih_6 (k + 1, z + 1) _ ⟨lv_sub hl [0, 1, 2, 3, 4, 5] rfl, (by have q := (nI_ltI (by omega) (by omega)).mp (Int32.not_le.mp c_1); exact ⟨by omega, by omega, by simp only [xHt]; rw [if_pos (Int32.not_le.mp c_2), h3]⟩)⟩

set_option maxHeartbeats 4000000 in
set_option maxRecDepth 100000 in
theorem p1_X4_others (l : Launch) (D : va_G) (cI cL cZ cC : ClassId) (sz : Nat) (h0 : Nat) (rd : Nat) (dr : Nat) (kp : Nat) (pl : Nat) (tx : Nat) (nu : Nat) (rf_a : Nat) (a1 : Int32) (a2 : Int32) (a3 : Int32) (a4 : Int32)  : Met l yX4_others wsX4_others ({ frames := 1, cells := 0, slots := 0, locals := 25 } : Room) (wPc D [.ref h0, .int a1, .int a2, .int a3, .int a4] [(h0, .inr (4, [.ref rd, .ref dr, .ref kp, .ref pl, .ref tx, .ref nu, .ref rf_a, .int 0, .int 0, .int (-1)])), (rf_a, .inl (cI, 7, .inl (fun _ => 0)))] (xTy cI cL cZ cC) sz) (va_Qi (fun (r : Int32) (_ : Unit) => r = sOth a1 a2 a3 a4) (fun (_ : Unit) t => va_P D vwCl [] t.heap ∧ va_D (va_A [(h0, .inr (4, [.ref rd, .ref dr, .ref kp, .ref pl, .ref tx, .ref nu, .ref rf_a, .int 0, .int 0, .int (-1)])), (rf_a, .inl (cI, 7, .inl (fun _ => 0)))] sz) []) (va_A [(h0, .inr (4, [.ref rd, .ref dr, .ref kp, .ref pl, .ref tx, .ref nu, .ref rf_a, .int 0, .int 0, .int (-1)])), (rf_a, .inl (cI, 7, .inl (fun _ => 0)))] sz)) 0 0 (va_A [(h0, .inr (4, [.ref rd, .ref dr, .ref kp, .ref pl, .ref tx, .ref nu, .ref rf_a, .int 0, .int 0, .int (-1)])), (rf_a, .inl (cI, 7, .inl (fun _ => 0)))] sz) := by
  refine Met.ofW (cc := cX4_others) (maxL := 10) (ret := (some .int)) (by decide) rfl ?_
  intro p e s m args below meth c s₁ B hml hv
  obtain ⟨rfl, hsz, hP, hK, hD0⟩ := hv
  have hx := B.exec
  have hb := B.bytes
  have hr := B.returns
  have hts := atoms_spec (ws := wsX4_others) B.pre
  have hown : s.vm.findClass RX4 = some m.cls := findClass_of_methodNamed B.named
  have hlocks := B.notSynchronized
  subst hsz
  have hD := hD0.self (sz := s.heap.size)
  generalize hAe : va_A [(h0, .inr (4, [.ref rd, .ref dr, .ref kp, .ref pl, .ref tx, .ref nu, .ref rf_a, .int 0, .int 0, .int (-1)])), (rf_a, .inl (cI, 7, .inl (fun _ => 0)))] s.heap.size = A at hD ⊢
  have hA : ∀ q : Nat, s.heap.size ≤ q → A q := fun q h => by rw [← hAe]; exact Or.inr h
  have hS : va_S A s.heap s.heap [] := va_S.rf
  have hP : va_P D vwCl [(h0, .inr (4, [.ref rd, .ref dr, .ref kp, .ref pl, .ref tx, .ref nu, .ref rf_a, .int 0, .int 0, .int (-1)])), (rf_a, .inl (cI, 7, .inl (fun _ => 0)))] s.heap := hP
  have hl := lv_entry ([.ref h0, .int a1, .int a2, .int a3, .int a4]) (n := 10) (Nat.le_of_ble_eq_true rfl)
  rw [lg_entry_eq]
  generalize (lg_sl ([.ref h0, .int a1, .int a2, .int a3, .int a4]) ++ List.replicate (10 - (lg_sl ([.ref h0, .int a1, .int a2, .int a3, .int a4])).length) Slot.unset).toArray = ls at hl ⊢
  have hl : lv_has ls 10 [(0, .ref h0), (1, .int a1), (2, .int a2), (3, .int a3), (4, .int a4)] := hl
  refine lv_iload_n hx hb dX4_others_0 rfl (lv_at hl 1 rfl) ?_
  refine lv_iconst (v := 1) hx hb dX4_others_1 (by decide) ?_
  refine lv_icmp_lt (tgt := 18) hx hb dX4_others_2 (by decide) (fun c_1 => ?_) (fun c_1 => ?_)
  · refine lv_aload_n hx hb dX4_others_18 rfl (lv_at hl 0 rfl) ?_
    refine lv_bipush (v := -4) hx hb dX4_others_19 (by decide) ?_
    have hPc := hP.sub (ws' := [(h0, .inr (4, [.ref rd, .ref dr, .ref kp, .ref pl, .ref tx, .ref nu, .ref rf_a, .int 0, .int 0, .int (-1)])), (rf_a, .inl (cI, 7, .inl (fun _ => 0)))]) [0, 1] rfl
    have hDc := hD.sub (ws' := [(h0, .inr (4, [.ref rd, .ref dr, .ref kp, .ref pl, .ref tx, .ref nu, .ref rf_a, .int 0, .int 0, .int (-1)])), (rf_a, .inl (cI, 7, .inl (fun _ => 0)))]) [0, 1] (by decide) rfl
    have hFc := va_free (wc := [(h0, .inr (4, [.ref rd, .ref dr, .ref kp, .ref pl, .ref tx, .ref nu, .ref rf_a, .int 0, .int 0, .int (-1)])), (rf_a, .inl (cI, 7, .inl (fun _ => 0)))]) hD hS hA [0, 1] rfl
    refine va_calli (va_runV (As := [.int (-4)]) (rest := []) ⟨hx, hb, hml, hown, hts⟩ (c_X4_refuse l D cI cL cZ cC _ h0 rd dr kp pl tx nu rf_a 0 0 (-1) (fun _ => 0) (-4) (by first | assumption | decide +kernel) (by first | assumption | decide +kernel)) (cwV 1 hts gX4_others_X4_refuse rfl rfl rfl (by decide +kernel) ⟨Nat.le_of_ble_eq_true rfl, Nat.le_of_ble_eq_true rfl⟩) ⟨wPc_bl, va_recv hK hPc (ci := 4) (q0 := 0) rfl rfl, wPc_use hPc hK hDc⟩ rfl rfl hl.1 rfl (lv_room (Nat.le_of_ble_eq_true rfl)) dX4_others_21 ⟨Nat.le_of_ble_eq_true rfl, Nat.le_of_ble_eq_true rfl⟩) hS (fun q _ h => hFc q h) hFc (fun r_2 u_2 t H1 locs ht hvm hw hB hz1 hk1 hS => ?_)
    obtain ⟨hP1, hD1⟩ := hB
    rw [ht] at hP1
    obtain ⟨hP, hD⟩ := va_join (wr := []) (w1 := [(h0, .inr (4, [.ref rd, .ref dr, .ref kp, .ref pl, .ref tx, .ref nu, .ref rf_a, .int 0, .int 0, .int (-1)])), (rf_a, .inl (cI, 7, .inl (xRf (fun _ => 0) (-4))))]) hP hD [0, 1] [] rfl rfl (by decide) (by decide) hk1 hFc hP1 hD1
    generalize H1 = H at hP hS ⊢
    have hP : va_P D vwCl [(h0, .inr (4, [.ref rd, .ref dr, .ref kp, .ref pl, .ref tx, .ref nu, .ref rf_a, .int 0, .int 0, .int (-1)])), (rf_a, .inl (cI, 7, .inl (xRf (fun _ => 0) (-4))))] H := hP
    have hD : va_D A [(h0, .inr (4, [.ref rd, .ref dr, .ref kp, .ref pl, .ref tx, .ref nu, .ref rf_a, .int 0, .int 0, .int (-1)])), (rf_a, .inl (cI, 7, .inl (xRf (fun _ => 0) (-4))))] := hD
    obtain rfl : ((-4) : Int32) = r_2 := Eq.symm hw
    have hP9 := hP.sub (ws' := []) [] rfl
    have hD9 := hD.sub (ws' := []) [] (by decide) rfl
    exact W.iret (v := -4) hx hb hr (fun t ht hW => ⟨⟨_, (), rfl, by simp [sOth, c_1], by rw [ht]; exact hP9, hD9⟩, hS.F ht⟩) hS.2.2 dX4_others_24
  · refine lv_iload_n hx hb dX4_others_5 rfl (lv_at hl 2 rfl) ?_
    refine lv_if_lt (tgt := 18) hx hb dX4_others_6 (by decide) (fun c_3 => ?_) (fun c_3 => ?_)
    · refine lv_aload_n hx hb dX4_others_18 rfl (lv_at hl 0 rfl) ?_
      refine lv_bipush (v := -4) hx hb dX4_others_19 (by decide) ?_
      have hPc := hP.sub (ws' := [(h0, .inr (4, [.ref rd, .ref dr, .ref kp, .ref pl, .ref tx, .ref nu, .ref rf_a, .int 0, .int 0, .int (-1)])), (rf_a, .inl (cI, 7, .inl (fun _ => 0)))]) [0, 1] rfl
      have hDc := hD.sub (ws' := [(h0, .inr (4, [.ref rd, .ref dr, .ref kp, .ref pl, .ref tx, .ref nu, .ref rf_a, .int 0, .int 0, .int (-1)])), (rf_a, .inl (cI, 7, .inl (fun _ => 0)))]) [0, 1] (by decide) rfl
      have hFc := va_free (wc := [(h0, .inr (4, [.ref rd, .ref dr, .ref kp, .ref pl, .ref tx, .ref nu, .ref rf_a, .int 0, .int 0, .int (-1)])), (rf_a, .inl (cI, 7, .inl (fun _ => 0)))]) hD hS hA [0, 1] rfl
      refine va_calli (va_runV (As := [.int (-4)]) (rest := []) ⟨hx, hb, hml, hown, hts⟩ (c_X4_refuse l D cI cL cZ cC _ h0 rd dr kp pl tx nu rf_a 0 0 (-1) (fun _ => 0) (-4) (by first | assumption | decide +kernel) (by first | assumption | decide +kernel)) (cwV 1 hts gX4_others_X4_refuse rfl rfl rfl (by decide +kernel) ⟨Nat.le_of_ble_eq_true rfl, Nat.le_of_ble_eq_true rfl⟩) ⟨wPc_bl, va_recv hK hPc (ci := 4) (q0 := 0) rfl rfl, wPc_use hPc hK hDc⟩ rfl rfl hl.1 rfl (lv_room (Nat.le_of_ble_eq_true rfl)) dX4_others_21 ⟨Nat.le_of_ble_eq_true rfl, Nat.le_of_ble_eq_true rfl⟩) hS (fun q _ h => hFc q h) hFc (fun r_4 u_4 t H1 locs ht hvm hw hB hz1 hk1 hS => ?_)
      obtain ⟨hP1, hD1⟩ := hB
      rw [ht] at hP1
      obtain ⟨hP, hD⟩ := va_join (wr := []) (w1 := [(h0, .inr (4, [.ref rd, .ref dr, .ref kp, .ref pl, .ref tx, .ref nu, .ref rf_a, .int 0, .int 0, .int (-1)])), (rf_a, .inl (cI, 7, .inl (xRf (fun _ => 0) (-4))))]) hP hD [0, 1] [] rfl rfl (by decide) (by decide) hk1 hFc hP1 hD1
      generalize H1 = H at hP hS ⊢
      have hP : va_P D vwCl [(h0, .inr (4, [.ref rd, .ref dr, .ref kp, .ref pl, .ref tx, .ref nu, .ref rf_a, .int 0, .int 0, .int (-1)])), (rf_a, .inl (cI, 7, .inl (xRf (fun _ => 0) (-4))))] H := hP
      have hD : va_D A [(h0, .inr (4, [.ref rd, .ref dr, .ref kp, .ref pl, .ref tx, .ref nu, .ref rf_a, .int 0, .int 0, .int (-1)])), (rf_a, .inl (cI, 7, .inl (xRf (fun _ => 0) (-4))))] := hD
      obtain rfl : ((-4) : Int32) = r_4 := Eq.symm hw
      have hP9 := hP.sub (ws' := []) [] rfl
      have hD9 := hD.sub (ws' := []) [] (by decide) rfl
      exact W.iret (v := -4) hx hb hr (fun t ht hW => ⟨⟨_, (), rfl, by simp [sOth, c_1, c_3], by rw [ht]; exact hP9, hD9⟩, hS.F ht⟩) hS.2.2 dX4_others_24
    · refine lv_iload_n hx hb dX4_others_9 rfl (lv_at hl 3 rfl) ?_
      refine lv_if_lt (tgt := 18) hx hb dX4_others_10 (by decide) (fun c_5 => ?_) (fun c_5 => ?_)
      · refine lv_aload_n hx hb dX4_others_18 rfl (lv_at hl 0 rfl) ?_
        refine lv_bipush (v := -4) hx hb dX4_others_19 (by decide) ?_
        have hPc := hP.sub (ws' := [(h0, .inr (4, [.ref rd, .ref dr, .ref kp, .ref pl, .ref tx, .ref nu, .ref rf_a, .int 0, .int 0, .int (-1)])), (rf_a, .inl (cI, 7, .inl (fun _ => 0)))]) [0, 1] rfl
        have hDc := hD.sub (ws' := [(h0, .inr (4, [.ref rd, .ref dr, .ref kp, .ref pl, .ref tx, .ref nu, .ref rf_a, .int 0, .int 0, .int (-1)])), (rf_a, .inl (cI, 7, .inl (fun _ => 0)))]) [0, 1] (by decide) rfl
        have hFc := va_free (wc := [(h0, .inr (4, [.ref rd, .ref dr, .ref kp, .ref pl, .ref tx, .ref nu, .ref rf_a, .int 0, .int 0, .int (-1)])), (rf_a, .inl (cI, 7, .inl (fun _ => 0)))]) hD hS hA [0, 1] rfl
        refine va_calli (va_runV (As := [.int (-4)]) (rest := []) ⟨hx, hb, hml, hown, hts⟩ (c_X4_refuse l D cI cL cZ cC _ h0 rd dr kp pl tx nu rf_a 0 0 (-1) (fun _ => 0) (-4) (by first | assumption | decide +kernel) (by first | assumption | decide +kernel)) (cwV 1 hts gX4_others_X4_refuse rfl rfl rfl (by decide +kernel) ⟨Nat.le_of_ble_eq_true rfl, Nat.le_of_ble_eq_true rfl⟩) ⟨wPc_bl, va_recv hK hPc (ci := 4) (q0 := 0) rfl rfl, wPc_use hPc hK hDc⟩ rfl rfl hl.1 rfl (lv_room (Nat.le_of_ble_eq_true rfl)) dX4_others_21 ⟨Nat.le_of_ble_eq_true rfl, Nat.le_of_ble_eq_true rfl⟩) hS (fun q _ h => hFc q h) hFc (fun r_6 u_6 t H1 locs ht hvm hw hB hz1 hk1 hS => ?_)
        obtain ⟨hP1, hD1⟩ := hB
        rw [ht] at hP1
        obtain ⟨hP, hD⟩ := va_join (wr := []) (w1 := [(h0, .inr (4, [.ref rd, .ref dr, .ref kp, .ref pl, .ref tx, .ref nu, .ref rf_a, .int 0, .int 0, .int (-1)])), (rf_a, .inl (cI, 7, .inl (xRf (fun _ => 0) (-4))))]) hP hD [0, 1] [] rfl rfl (by decide) (by decide) hk1 hFc hP1 hD1
        generalize H1 = H at hP hS ⊢
        have hP : va_P D vwCl [(h0, .inr (4, [.ref rd, .ref dr, .ref kp, .ref pl, .ref tx, .ref nu, .ref rf_a, .int 0, .int 0, .int (-1)])), (rf_a, .inl (cI, 7, .inl (xRf (fun _ => 0) (-4))))] H := hP
        have hD : va_D A [(h0, .inr (4, [.ref rd, .ref dr, .ref kp, .ref pl, .ref tx, .ref nu, .ref rf_a, .int 0, .int 0, .int (-1)])), (rf_a, .inl (cI, 7, .inl (xRf (fun _ => 0) (-4))))] := hD
        obtain rfl : ((-4) : Int32) = r_6 := Eq.symm hw
        have hP9 := hP.sub (ws' := []) [] rfl
        have hD9 := hD.sub (ws' := []) [] (by decide) rfl
        exact W.iret (v := -4) hx hb hr (fun t ht hW => ⟨⟨_, (), rfl, by simp [sOth, c_1, c_3, c_5], by rw [ht]; exact hP9, hD9⟩, hS.F ht⟩) hS.2.2 dX4_others_24
      · refine lv_iload hx hb dX4_others_13 (lv_at hl 4 rfl) ?_
        refine lv_if_ge (tgt := 25) hx hb dX4_others_15 (by decide) (fun c_7 => ?_) (fun c_7 => ?_)
        · refine lv_iload_n hx hb dX4_others_25 rfl (lv_at hl 1 rfl) ?_
          refine lv_bipush (v := 9) hx hb dX4_others_26 (by decide) ?_
          refine lv_icmp_gt (tgt := 50) hx hb dX4_others_28 (by decide) (fun c_8 => ?_) (fun c_8 => ?_)
          · refine lv_aload_n hx hb dX4_others_50 rfl (lv_at hl 0 rfl) ?_
            refine lv_bipush (v := -6) hx hb dX4_others_51 (by decide) ?_
            have hPc := hP.sub (ws' := [(h0, .inr (4, [.ref rd, .ref dr, .ref kp, .ref pl, .ref tx, .ref nu, .ref rf_a, .int 0, .int 0, .int (-1)])), (rf_a, .inl (cI, 7, .inl (fun _ => 0)))]) [0, 1] rfl
            have hDc := hD.sub (ws' := [(h0, .inr (4, [.ref rd, .ref dr, .ref kp, .ref pl, .ref tx, .ref nu, .ref rf_a, .int 0, .int 0, .int (-1)])), (rf_a, .inl (cI, 7, .inl (fun _ => 0)))]) [0, 1] (by decide) rfl
            have hFc := va_free (wc := [(h0, .inr (4, [.ref rd, .ref dr, .ref kp, .ref pl, .ref tx, .ref nu, .ref rf_a, .int 0, .int 0, .int (-1)])), (rf_a, .inl (cI, 7, .inl (fun _ => 0)))]) hD hS hA [0, 1] rfl
            refine va_calli (va_runV (As := [.int (-6)]) (rest := []) ⟨hx, hb, hml, hown, hts⟩ (c_X4_refuse l D cI cL cZ cC _ h0 rd dr kp pl tx nu rf_a 0 0 (-1) (fun _ => 0) (-6) (by first | assumption | decide +kernel) (by first | assumption | decide +kernel)) (cwV 1 hts gX4_others_X4_refuse rfl rfl rfl (by decide +kernel) ⟨Nat.le_of_ble_eq_true rfl, Nat.le_of_ble_eq_true rfl⟩) ⟨wPc_bl, va_recv hK hPc (ci := 4) (q0 := 0) rfl rfl, wPc_use hPc hK hDc⟩ rfl rfl hl.1 rfl (lv_room (Nat.le_of_ble_eq_true rfl)) dX4_others_53 ⟨Nat.le_of_ble_eq_true rfl, Nat.le_of_ble_eq_true rfl⟩) hS (fun q _ h => hFc q h) hFc (fun r_9 u_9 t H1 locs ht hvm hw hB hz1 hk1 hS => ?_)
            obtain ⟨hP1, hD1⟩ := hB
            rw [ht] at hP1
            obtain ⟨hP, hD⟩ := va_join (wr := []) (w1 := [(h0, .inr (4, [.ref rd, .ref dr, .ref kp, .ref pl, .ref tx, .ref nu, .ref rf_a, .int 0, .int 0, .int (-1)])), (rf_a, .inl (cI, 7, .inl (xRf (fun _ => 0) (-6))))]) hP hD [0, 1] [] rfl rfl (by decide) (by decide) hk1 hFc hP1 hD1
            generalize H1 = H at hP hS ⊢
            have hP : va_P D vwCl [(h0, .inr (4, [.ref rd, .ref dr, .ref kp, .ref pl, .ref tx, .ref nu, .ref rf_a, .int 0, .int 0, .int (-1)])), (rf_a, .inl (cI, 7, .inl (xRf (fun _ => 0) (-6))))] H := hP
            have hD : va_D A [(h0, .inr (4, [.ref rd, .ref dr, .ref kp, .ref pl, .ref tx, .ref nu, .ref rf_a, .int 0, .int 0, .int (-1)])), (rf_a, .inl (cI, 7, .inl (xRf (fun _ => 0) (-6))))] := hD
            obtain rfl : ((-6) : Int32) = r_9 := Eq.symm hw
            have hP9 := hP.sub (ws' := []) [] rfl
            have hD9 := hD.sub (ws' := []) [] (by decide) rfl
            exact W.iret (v := -6) hx hb hr (fun t ht hW => ⟨⟨_, (), rfl, by simp [sOth, c_1, c_3, c_5, (Int32.not_lt.mpr c_7), c_8], by rw [ht]; exact hP9, hD9⟩, hS.F ht⟩) hS.2.2 dX4_others_56
          · refine lv_iload_n hx hb dX4_others_31 rfl (lv_at hl 2 rfl) ?_
            refine lv_bipush (v := 30) hx hb dX4_others_32 (by decide) ?_
            refine lv_icmp_gt (tgt := 50) hx hb dX4_others_34 (by decide) (fun c_10 => ?_) (fun c_10 => ?_)
            · refine lv_aload_n hx hb dX4_others_50 rfl (lv_at hl 0 rfl) ?_
              refine lv_bipush (v := -6) hx hb dX4_others_51 (by decide) ?_
              have hPc := hP.sub (ws' := [(h0, .inr (4, [.ref rd, .ref dr, .ref kp, .ref pl, .ref tx, .ref nu, .ref rf_a, .int 0, .int 0, .int (-1)])), (rf_a, .inl (cI, 7, .inl (fun _ => 0)))]) [0, 1] rfl
              have hDc := hD.sub (ws' := [(h0, .inr (4, [.ref rd, .ref dr, .ref kp, .ref pl, .ref tx, .ref nu, .ref rf_a, .int 0, .int 0, .int (-1)])), (rf_a, .inl (cI, 7, .inl (fun _ => 0)))]) [0, 1] (by decide) rfl
              have hFc := va_free (wc := [(h0, .inr (4, [.ref rd, .ref dr, .ref kp, .ref pl, .ref tx, .ref nu, .ref rf_a, .int 0, .int 0, .int (-1)])), (rf_a, .inl (cI, 7, .inl (fun _ => 0)))]) hD hS hA [0, 1] rfl
              refine va_calli (va_runV (As := [.int (-6)]) (rest := []) ⟨hx, hb, hml, hown, hts⟩ (c_X4_refuse l D cI cL cZ cC _ h0 rd dr kp pl tx nu rf_a 0 0 (-1) (fun _ => 0) (-6) (by first | assumption | decide +kernel) (by first | assumption | decide +kernel)) (cwV 1 hts gX4_others_X4_refuse rfl rfl rfl (by decide +kernel) ⟨Nat.le_of_ble_eq_true rfl, Nat.le_of_ble_eq_true rfl⟩) ⟨wPc_bl, va_recv hK hPc (ci := 4) (q0 := 0) rfl rfl, wPc_use hPc hK hDc⟩ rfl rfl hl.1 rfl (lv_room (Nat.le_of_ble_eq_true rfl)) dX4_others_53 ⟨Nat.le_of_ble_eq_true rfl, Nat.le_of_ble_eq_true rfl⟩) hS (fun q _ h => hFc q h) hFc (fun r_11 u_11 t H1 locs ht hvm hw hB hz1 hk1 hS => ?_)
              obtain ⟨hP1, hD1⟩ := hB
              rw [ht] at hP1
              obtain ⟨hP, hD⟩ := va_join (wr := []) (w1 := [(h0, .inr (4, [.ref rd, .ref dr, .ref kp, .ref pl, .ref tx, .ref nu, .ref rf_a, .int 0, .int 0, .int (-1)])), (rf_a, .inl (cI, 7, .inl (xRf (fun _ => 0) (-6))))]) hP hD [0, 1] [] rfl rfl (by decide) (by decide) hk1 hFc hP1 hD1
              generalize H1 = H at hP hS ⊢
              have hP : va_P D vwCl [(h0, .inr (4, [.ref rd, .ref dr, .ref kp, .ref pl, .ref tx, .ref nu, .ref rf_a, .int 0, .int 0, .int (-1)])), (rf_a, .inl (cI, 7, .inl (xRf (fun _ => 0) (-6))))] H := hP
              have hD : va_D A [(h0, .inr (4, [.ref rd, .ref dr, .ref kp, .ref pl, .ref tx, .ref nu, .ref rf_a, .int 0, .int 0, .int (-1)])), (rf_a, .inl (cI, 7, .inl (xRf (fun _ => 0) (-6))))] := hD
              obtain rfl : ((-6) : Int32) = r_11 := Eq.symm hw
              have hP9 := hP.sub (ws' := []) [] rfl
              have hD9 := hD.sub (ws' := []) [] (by decide) rfl
              exact W.iret (v := -6) hx hb hr (fun t ht hW => ⟨⟨_, (), rfl, by simp [sOth, c_1, c_3, c_5, (Int32.not_lt.mpr c_7), c_8, c_10], by rw [ht]; exact hP9, hD9⟩, hS.F ht⟩) hS.2.2 dX4_others_56
            · refine lv_iload_n hx hb dX4_others_37 rfl (lv_at hl 3 rfl) ?_
              refine lv_bipush (v := 30) hx hb dX4_others_38 (by decide) ?_
              refine lv_icmp_gt (tgt := 50) hx hb dX4_others_40 (by decide) (fun c_12 => ?_) (fun c_12 => ?_)
              · refine lv_aload_n hx hb dX4_others_50 rfl (lv_at hl 0 rfl) ?_
                refine lv_bipush (v := -6) hx hb dX4_others_51 (by decide) ?_
                have hPc := hP.sub (ws' := [(h0, .inr (4, [.ref rd, .ref dr, .ref kp, .ref pl, .ref tx, .ref nu, .ref rf_a, .int 0, .int 0, .int (-1)])), (rf_a, .inl (cI, 7, .inl (fun _ => 0)))]) [0, 1] rfl
                have hDc := hD.sub (ws' := [(h0, .inr (4, [.ref rd, .ref dr, .ref kp, .ref pl, .ref tx, .ref nu, .ref rf_a, .int 0, .int 0, .int (-1)])), (rf_a, .inl (cI, 7, .inl (fun _ => 0)))]) [0, 1] (by decide) rfl
                have hFc := va_free (wc := [(h0, .inr (4, [.ref rd, .ref dr, .ref kp, .ref pl, .ref tx, .ref nu, .ref rf_a, .int 0, .int 0, .int (-1)])), (rf_a, .inl (cI, 7, .inl (fun _ => 0)))]) hD hS hA [0, 1] rfl
                refine va_calli (va_runV (As := [.int (-6)]) (rest := []) ⟨hx, hb, hml, hown, hts⟩ (c_X4_refuse l D cI cL cZ cC _ h0 rd dr kp pl tx nu rf_a 0 0 (-1) (fun _ => 0) (-6) (by first | assumption | decide +kernel) (by first | assumption | decide +kernel)) (cwV 1 hts gX4_others_X4_refuse rfl rfl rfl (by decide +kernel) ⟨Nat.le_of_ble_eq_true rfl, Nat.le_of_ble_eq_true rfl⟩) ⟨wPc_bl, va_recv hK hPc (ci := 4) (q0 := 0) rfl rfl, wPc_use hPc hK hDc⟩ rfl rfl hl.1 rfl (lv_room (Nat.le_of_ble_eq_true rfl)) dX4_others_53 ⟨Nat.le_of_ble_eq_true rfl, Nat.le_of_ble_eq_true rfl⟩) hS (fun q _ h => hFc q h) hFc (fun r_13 u_13 t H1 locs ht hvm hw hB hz1 hk1 hS => ?_)
                obtain ⟨hP1, hD1⟩ := hB
                rw [ht] at hP1
                obtain ⟨hP, hD⟩ := va_join (wr := []) (w1 := [(h0, .inr (4, [.ref rd, .ref dr, .ref kp, .ref pl, .ref tx, .ref nu, .ref rf_a, .int 0, .int 0, .int (-1)])), (rf_a, .inl (cI, 7, .inl (xRf (fun _ => 0) (-6))))]) hP hD [0, 1] [] rfl rfl (by decide) (by decide) hk1 hFc hP1 hD1
                generalize H1 = H at hP hS ⊢
                have hP : va_P D vwCl [(h0, .inr (4, [.ref rd, .ref dr, .ref kp, .ref pl, .ref tx, .ref nu, .ref rf_a, .int 0, .int 0, .int (-1)])), (rf_a, .inl (cI, 7, .inl (xRf (fun _ => 0) (-6))))] H := hP
                have hD : va_D A [(h0, .inr (4, [.ref rd, .ref dr, .ref kp, .ref pl, .ref tx, .ref nu, .ref rf_a, .int 0, .int 0, .int (-1)])), (rf_a, .inl (cI, 7, .inl (xRf (fun _ => 0) (-6))))] := hD
                obtain rfl : ((-6) : Int32) = r_13 := Eq.symm hw
                have hP9 := hP.sub (ws' := []) [] rfl
                have hD9 := hD.sub (ws' := []) [] (by decide) rfl
                exact W.iret (v := -6) hx hb hr (fun t ht hW => ⟨⟨_, (), rfl, by simp [sOth, c_1, c_3, c_5, (Int32.not_lt.mpr c_7), c_8, c_10, c_12], by rw [ht]; exact hP9, hD9⟩, hS.F ht⟩) hS.2.2 dX4_others_56
              · refine lv_iload hx hb dX4_others_43 (lv_at hl 4 rfl) ?_
                refine lv_bipush (v := 60) hx hb dX4_others_45 (by decide) ?_
                refine lv_icmp_le (tgt := 57) hx hb dX4_others_47 (by decide) (fun c_14 => ?_) (fun c_14 => ?_)
                · obtain ⟨N1, hN1, hN9, rfl⟩ := xN1 c_1 c_8
                  obtain ⟨M1, hM1, rfl⟩ := xzN (n := 60) (by decide) (Int32.not_lt.mpr c_7) (Int32.not_lt.mpr c_14)
                  refine lv_iload_n hx hb dX4_others_57 rfl (lv_at hl 1 rfl) ?_
                  refine lv_istore (lv' := [(5, .int (nI N1)), (0, .ref h0), (1, .int (nI N1)), (2, .int a2), (3, .int a3), (4, .int (nI M1))]) hx hb dX4_others_58 hl (by decide) rfl (fun ls hl => ?_)
                  refine lv_iconst (v := 0) hx hb dX4_others_60 (by decide) ?_
                  refine lv_istore (lv' := [(6, .int 0), (5, .int (nI N1)), (0, .ref h0), (1, .int (nI N1)), (2, .int a2), (3, .int a3), (4, .int (nI M1))]) hx hb dX4_others_61 hl (by decide) rfl (fun ls hl => ?_)
                  refine lv_iconst (v := 0) hx hb dX4_others_63 (by decide) ?_
                  refine lv_istore (lv' := [(7, .int 0), (6, .int 0), (5, .int (nI N1)), (0, .ref h0), (1, .int (nI N1)), (2, .int a2), (3, .int a3), (4, .int (nI M1))]) hx hb dX4_others_64 hl (by decide) rfl (fun ls hl => ?_)
                  refine lv_iconst (v := 1) hx hb dX4_others_66 (by decide) ?_
                  refine lv_istore (lv' := [(8, .int 1), (7, .int 0), (6, .int 0), (5, .int (nI N1)), (0, .ref h0), (1, .int (nI N1)), (2, .int a2), (3, .int a3), (4, .int (nI M1))]) hx hb dX4_others_67 hl (by decide) rfl (fun ls hl => ?_)
                  refine xl_loopH (σ := Nat × Int32 × Int32 × Int32) (fun n q H locs ls => lv_has ls 10 [(8, .int (nI (q.1 + 1))), (7, .int q.2.2.2), (6, .int q.2.2.1), (5, .int q.2.1), (0, .ref h0), (1, .int (nI N1)), (2, .int a2), (3, .int a3), (4, .int (nI M1))] ∧ va_P D vwCl [(h0, .inr (4, [.ref rd, .ref dr, .ref kp, .ref pl, .ref tx, .ref nu, .ref rf_a, .int 0, .int 0, .int (-1)])), (rf_a, .inl (cI, 7, .inl (fun _ => 0)))] H ∧ va_D A [(h0, .inr (4, [.ref rd, .ref dr, .ref kp, .ref pl, .ref tx, .ref nu, .ref rf_a, .int 0, .int 0, .int (-1)])), (rf_a, .inl (cI, 7, .inl (fun _ => 0)))] ∧ va_S A s.heap H locs ∧ (M1 - q.1 < n) ∧ (q.1 ≤ M1) ∧ ((q.2.1, q.2.2.1, q.2.2.2) = xOt N1 a2 a3 q.1)) (M1 + 1) (0, nI N1, 0, 0) ⟨lv_sub hl [0, 1, 2, 3, 4, 5, 6, 7, 8] rfl, hP.sub [0, 1] rfl, hD.sub [0, 1] (by decide) rfl, hS, by dsimp only; exact ⟨by omega, by omega, rfl⟩⟩ (fun q H lc ls h => absurd h.2.2.2.2.1 (Nat.not_lt_zero _)) ?_
                  intro n_69 q_69 H locs ls ih_69 hI_69
                  obtain ⟨hl, hP, hD, hS, hI_69⟩ := hI_69
                  obtain ⟨j, w1, lo1, lf1⟩ := q_69
                  obtain ⟨h1, h2, h3⟩ := hI_69
                  dsimp only at hl hP hD h1 h2 h3
                  refine lv_iload hx hb dX4_others_69 (lv_at hl 0 rfl) ?_
                  refine lv_iload hx hb dX4_others_71 (lv_at hl 8 rfl) ?_
                  refine lv_icmp_gt (tgt := 112) hx hb dX4_others_73 (by decide) (fun c_15 => ?_) (fun c_15 => ?_)
                  · refine lv_iload hx hb dX4_others_112 (lv_at hl 3 rfl) ?_
                    have hP9 := hP.sub (ws' := []) [] rfl
                    have hD9 := hD.sub (ws' := []) [] (by decide) rfl
                    exact W.iret (v := w1) hx hb hr (fun t ht hW => ⟨⟨_, (), rfl, (by rw [sOth_nI hN1 hN9 hM1 c_3 c_5 c_10 c_12]; have w := (nI_ltI (by omega) (by omega)).mp c_15; rw [show M1 = j by omega]; exact congrArg Prod.fst h3), by rw [ht]; exact hP9, hD9⟩, hS.F ht⟩) hS.2.2 dX4_others_114
                  · refine lv_iload hx hb dX4_others_76 (lv_at hl 2 rfl) ?_
                    refine lv_iconst (v := 1) hx hb dX4_others_78 (by decide) ?_
                    refine lv_iload hx hb dX4_others_79 (lv_at hl 1 rfl) ?_
                    refine lv_iadd hx hb dX4_others_81 ?_
                    refine lv_iadd hx hb dX4_others_82 ?_
                    refine lv_istore (lv' := [(6, .int (lo1 + (1 + lf1))), (8, .int (nI (j + 1))), (7, .int lf1), (5, .int w1), (0, .ref h0), (1, .int (nI N1)), (2, .int a2), (3, .int a3), (4, .int (nI M1))]) hx hb dX4_others_83 hl (by decide) rfl (fun ls hl => ?_)
                    refine lv_iload hx hb dX4_others_85 (lv_at hl 0 rfl) ?_
                    refine lv_iload_n hx hb dX4_others_87 rfl (lv_at hl 5 rfl) ?_
                    refine lv_iload_n hx hb dX4_others_88 rfl (lv_at hl 6 rfl) ?_
                    refine lv_iload_n hx hb dX4_others_89 rfl (lv_at hl 7 rfl) ?_
                    have hPc := hP.sub (ws' := []) [] rfl
                    refine vp_callSi (va_Run.run (va_runS (As := [.int (lo1 + (1 + lf1)), .int (nI N1), .int a2, .int a3]) (rest := []) ⟨hx, hb, hml, hown, hts⟩ (c_X4_withHeartAbove l D cI cL cZ cC (lo1 + (1 + lf1)) N1 a2 a3 (by first | assumption | decide +kernel)) (va_cwS 4 hts gX4_others_X4_withHeartAbove rfl rfl rfl (by decide +kernel) ⟨Nat.le_of_ble_eq_true rfl, Nat.le_of_ble_eq_true rfl⟩) ⟨xPc_bl, xPc_use hPc hK⟩ rfl rfl hl.1 rfl (lv_room (Nat.le_of_ble_eq_true rfl)) dX4_others_90 ⟨Nat.le_of_ble_eq_true rfl, Nat.le_of_ble_eq_true rfl⟩)) (fun r_16 er_16 => ?_)
                    obtain rfl : (xHt (lo1 + (1 + lf1)) a2 a3 N1 : Int32) = r_16 := Eq.symm er_16
                    refine lv_istore (lv' := [(9, .int (xHt (lo1 + (1 + lf1)) a2 a3 N1)), (6, .int (lo1 + (1 + lf1))), (8, .int (nI (j + 1))), (7, .int lf1), (5, .int w1), (0, .ref h0), (1, .int (nI N1)), (2, .int a2), (3, .int a3), (4, .int (nI M1))]) hx hb dX4_others_93 hl (by decide) rfl (fun ls hl => ?_)
                    refine lv_iload hx hb dX4_others_95 (lv_at hl 4 rfl) ?_
                    refine lv_iload hx hb dX4_others_97 (lv_at hl 0 rfl) ?_
                    refine lv_isub hx hb dX4_others_99 ?_
                    refine lv_istore (lv' := [(7, .int (w1 - (xHt (lo1 + (1 + lf1)) a2 a3 N1))), (9, .int (xHt (lo1 + (1 + lf1)) a2 a3 N1)), (6, .int (lo1 + (1 + lf1))), (8, .int (nI (j + 1))), (5, .int w1), (0, .ref h0), (1, .int (nI N1)), (2, .int a2), (3, .int a3), (4, .int (nI M1))]) hx hb dX4_others_100 hl (by decide) rfl (fun ls hl => ?_)
                    refine lv_iload hx hb dX4_others_102 (lv_at hl 1 rfl) ?_
                    refine lv_istore (lv' := [(5, .int (xHt (lo1 + (1 + lf1)) a2 a3 N1)), (7, .int (w1 - (xHt (lo1 + (1 + lf1)) a2 a3 N1))), (9, .int (xHt (lo1 + (1 + lf1)) a2 a3 N1)), (6, .int (lo1 + (1 + lf1))), (8, .int (nI (j + 1))), (0, .ref h0), (1, .int (nI N1)), (2, .int a2), (3, .int a3), (4, .int (nI M1))]) hx hb dX4_others_104 hl (by decide) rfl (fun ls hl => ?_)
                    refine lv_iinc (v := nI (j + 1 + 1)) (lv' := [(8, .int (nI (j + 1 + 1))), (5, .int (xHt (lo1 + (1 + lf1)) a2 a3 N1)), (7, .int (w1 - (xHt (lo1 + (1 + lf1)) a2 a3 N1))), (9, .int (xHt (lo1 + (1 + lf1)) a2 a3 N1)), (6, .int (lo1 + (1 + lf1))), (0, .ref h0), (1, .int (nI N1)), (2, .int a2), (3, .int a3), (4, .int (nI M1))]) hx hb dX4_others_106 hl (k := 4) rfl (nI_1 (j + 1)) (by decide) rfl (fun ls hl => ?_)
                    refine lv_goto (tgt := 69) hx hb dX4_others_109 (by decide) ?_
                    exact ih_69 (j + 1, xHt (lo1 + (1 + lf1)) a2 a3 N1, lo1 + (1 + lf1), w1 - xHt (lo1 + (1 + lf1)) a2 a3 N1) _ _ _ ⟨lv_sub hl [0, 2, 4, 1, 5, 6, 7, 8, 9] rfl, hP.sub [0, 1] rfl, hD.sub [0, 1] (by decide) rfl, hS, (by have q := mt (nI_ltI (a := M1) (b := j + 1) (by omega) (by omega)).mpr c_15; exact ⟨by omega, by omega, by simp only [xOt, ← h3]⟩)⟩
                · refine lv_aload_n hx hb dX4_others_50 rfl (lv_at hl 0 rfl) ?_
                  refine lv_bipush (v := -6) hx hb dX4_others_51 (by decide) ?_
                  have hPc := hP.sub (ws' := [(h0, .inr (4, [.ref rd, .ref dr, .ref kp, .ref pl, .ref tx, .ref nu, .ref rf_a, .int 0, .int 0, .int (-1)])), (rf_a, .inl (cI, 7, .inl (fun _ => 0)))]) [0, 1] rfl
                  have hDc := hD.sub (ws' := [(h0, .inr (4, [.ref rd, .ref dr, .ref kp, .ref pl, .ref tx, .ref nu, .ref rf_a, .int 0, .int 0, .int (-1)])), (rf_a, .inl (cI, 7, .inl (fun _ => 0)))]) [0, 1] (by decide) rfl
                  have hFc := va_free (wc := [(h0, .inr (4, [.ref rd, .ref dr, .ref kp, .ref pl, .ref tx, .ref nu, .ref rf_a, .int 0, .int 0, .int (-1)])), (rf_a, .inl (cI, 7, .inl (fun _ => 0)))]) hD hS hA [0, 1] rfl
                  refine va_calli (va_runV (As := [.int (-6)]) (rest := []) ⟨hx, hb, hml, hown, hts⟩ (c_X4_refuse l D cI cL cZ cC _ h0 rd dr kp pl tx nu rf_a 0 0 (-1) (fun _ => 0) (-6) (by first | assumption | decide +kernel) (by first | assumption | decide +kernel)) (cwV 1 hts gX4_others_X4_refuse rfl rfl rfl (by decide +kernel) ⟨Nat.le_of_ble_eq_true rfl, Nat.le_of_ble_eq_true rfl⟩) ⟨wPc_bl, va_recv hK hPc (ci := 4) (q0 := 0) rfl rfl, wPc_use hPc hK hDc⟩ rfl rfl hl.1 rfl (lv_room (Nat.le_of_ble_eq_true rfl)) dX4_others_53 ⟨Nat.le_of_ble_eq_true rfl, Nat.le_of_ble_eq_true rfl⟩) hS (fun q _ h => hFc q h) hFc (fun r_17 u_17 t H1 locs ht hvm hw hB hz1 hk1 hS => ?_)
                  obtain ⟨hP1, hD1⟩ := hB
                  rw [ht] at hP1
                  obtain ⟨hP, hD⟩ := va_join (wr := []) (w1 := [(h0, .inr (4, [.ref rd, .ref dr, .ref kp, .ref pl, .ref tx, .ref nu, .ref rf_a, .int 0, .int 0, .int (-1)])), (rf_a, .inl (cI, 7, .inl (xRf (fun _ => 0) (-6))))]) hP hD [0, 1] [] rfl rfl (by decide) (by decide) hk1 hFc hP1 hD1
                  generalize H1 = H at hP hS ⊢
                  have hP : va_P D vwCl [(h0, .inr (4, [.ref rd, .ref dr, .ref kp, .ref pl, .ref tx, .ref nu, .ref rf_a, .int 0, .int 0, .int (-1)])), (rf_a, .inl (cI, 7, .inl (xRf (fun _ => 0) (-6))))] H := hP
                  have hD : va_D A [(h0, .inr (4, [.ref rd, .ref dr, .ref kp, .ref pl, .ref tx, .ref nu, .ref rf_a, .int 0, .int 0, .int (-1)])), (rf_a, .inl (cI, 7, .inl (xRf (fun _ => 0) (-6))))] := hD
                  obtain rfl : ((-6) : Int32) = r_17 := Eq.symm hw
                  have hP9 := hP.sub (ws' := []) [] rfl
                  have hD9 := hD.sub (ws' := []) [] (by decide) rfl
                  exact W.iret (v := -6) hx hb hr (fun t ht hW => ⟨⟨_, (), rfl, by simp [sOth, c_1, c_3, c_5, (Int32.not_lt.mpr c_7), c_8, c_10, c_12, (Int32.not_le.mp c_14)], by rw [ht]; exact hP9, hD9⟩, hS.F ht⟩) hS.2.2 dX4_others_56
        · refine lv_aload_n hx hb dX4_others_18 rfl (lv_at hl 0 rfl) ?_
          refine lv_bipush (v := -4) hx hb dX4_others_19 (by decide) ?_
          have hPc := hP.sub (ws' := [(h0, .inr (4, [.ref rd, .ref dr, .ref kp, .ref pl, .ref tx, .ref nu, .ref rf_a, .int 0, .int 0, .int (-1)])), (rf_a, .inl (cI, 7, .inl (fun _ => 0)))]) [0, 1] rfl
          have hDc := hD.sub (ws' := [(h0, .inr (4, [.ref rd, .ref dr, .ref kp, .ref pl, .ref tx, .ref nu, .ref rf_a, .int 0, .int 0, .int (-1)])), (rf_a, .inl (cI, 7, .inl (fun _ => 0)))]) [0, 1] (by decide) rfl
          have hFc := va_free (wc := [(h0, .inr (4, [.ref rd, .ref dr, .ref kp, .ref pl, .ref tx, .ref nu, .ref rf_a, .int 0, .int 0, .int (-1)])), (rf_a, .inl (cI, 7, .inl (fun _ => 0)))]) hD hS hA [0, 1] rfl
          refine va_calli (va_runV (As := [.int (-4)]) (rest := []) ⟨hx, hb, hml, hown, hts⟩ (c_X4_refuse l D cI cL cZ cC _ h0 rd dr kp pl tx nu rf_a 0 0 (-1) (fun _ => 0) (-4) (by first | assumption | decide +kernel) (by first | assumption | decide +kernel)) (cwV 1 hts gX4_others_X4_refuse rfl rfl rfl (by decide +kernel) ⟨Nat.le_of_ble_eq_true rfl, Nat.le_of_ble_eq_true rfl⟩) ⟨wPc_bl, va_recv hK hPc (ci := 4) (q0 := 0) rfl rfl, wPc_use hPc hK hDc⟩ rfl rfl hl.1 rfl (lv_room (Nat.le_of_ble_eq_true rfl)) dX4_others_21 ⟨Nat.le_of_ble_eq_true rfl, Nat.le_of_ble_eq_true rfl⟩) hS (fun q _ h => hFc q h) hFc (fun r_18 u_18 t H1 locs ht hvm hw hB hz1 hk1 hS => ?_)
          obtain ⟨hP1, hD1⟩ := hB
          rw [ht] at hP1
          obtain ⟨hP, hD⟩ := va_join (wr := []) (w1 := [(h0, .inr (4, [.ref rd, .ref dr, .ref kp, .ref pl, .ref tx, .ref nu, .ref rf_a, .int 0, .int 0, .int (-1)])), (rf_a, .inl (cI, 7, .inl (xRf (fun _ => 0) (-4))))]) hP hD [0, 1] [] rfl rfl (by decide) (by decide) hk1 hFc hP1 hD1
          generalize H1 = H at hP hS ⊢
          have hP : va_P D vwCl [(h0, .inr (4, [.ref rd, .ref dr, .ref kp, .ref pl, .ref tx, .ref nu, .ref rf_a, .int 0, .int 0, .int (-1)])), (rf_a, .inl (cI, 7, .inl (xRf (fun _ => 0) (-4))))] H := hP
          have hD : va_D A [(h0, .inr (4, [.ref rd, .ref dr, .ref kp, .ref pl, .ref tx, .ref nu, .ref rf_a, .int 0, .int 0, .int (-1)])), (rf_a, .inl (cI, 7, .inl (xRf (fun _ => 0) (-4))))] := hD
          obtain rfl : ((-4) : Int32) = r_18 := Eq.symm hw
          have hP9 := hP.sub (ws' := []) [] rfl
          have hD9 := hD.sub (ws' := []) [] (by decide) rfl
          exact W.iret (v := -4) hx hb hr (fun t ht hW => ⟨⟨_, (), rfl, by simp [sOth, c_1, c_3, c_5, (Int32.not_le.mp c_7)], by rw [ht]; exact hP9, hD9⟩, hS.F ht⟩) hS.2.2 dX4_others_24

set_option maxHeartbeats 4000000 in
set_option maxRecDepth 100000 in
theorem p1_X5_others (l : Launch) (D : va_G) (cI cL cZ cC : ClassId) (sz : Nat) (g0 : Nat) (ra : Nat) (wa : Nat) (ta : Nat) (ma : Nat) (pa : Nat) (ba : Nat) (ka : Nat) (fa : Nat) (qa : Nat) (ea : Nat) (za : Nat) (ya : Nat) (a1 : Int32) (a2 : Int32) (a3 : Int32) (a4 : Int32)  : Met l yX5_others wsX5_others ({ frames := 1, cells := 1, slots := 9, locals := 21 } : Room) (wPc D [.ref g0, .int a1, .int a2, .int a3, .int a4] [(g0, .inr (5, [.ref ra, .ref wa, .ref ta, .int 0, .ref ma, .int 0, .ref pa, .int 0, .int 0, .int 0, .ref ba, .ref ka, .int 0, .ref fa, .ref qa, .ref ea, .ref za, .ref ya, .int 0])), (ra, .inl (cI, 7, .inl (fun _ => 0)))] (xTy cI cL cZ cC) sz) (va_Qi (fun (r : Int32) (_ : Unit) => r = sOth a1 a2 a3 a4) (fun (_ : Unit) t => va_P D vwCl [] t.heap ∧ va_D (va_A [(g0, .inr (5, [.ref ra, .ref wa, .ref ta, .int 0, .ref ma, .int 0, .ref pa, .int 0, .int 0, .int 0, .ref ba, .ref ka, .int 0, .ref fa, .ref qa, .ref ea, .ref za, .ref ya, .int 0])), (ra, .inl (cI, 7, .inl (fun _ => 0)))] sz) []) (va_A [(g0, .inr (5, [.ref ra, .ref wa, .ref ta, .int 0, .ref ma, .int 0, .ref pa, .int 0, .int 0, .int 0, .ref ba, .ref ka, .int 0, .ref fa, .ref qa, .ref ea, .ref za, .ref ya, .int 0])), (ra, .inl (cI, 7, .inl (fun _ => 0)))] sz)) 1 9 (va_A [(g0, .inr (5, [.ref ra, .ref wa, .ref ta, .int 0, .ref ma, .int 0, .ref pa, .int 0, .int 0, .int 0, .ref ba, .ref ka, .int 0, .ref fa, .ref qa, .ref ea, .ref za, .ref ya, .int 0])), (ra, .inl (cI, 7, .inl (fun _ => 0)))] sz) := by
  refine Met.ofW (cc := cX5_others) (maxL := 11) (ret := (some .int)) (by decide) rfl ?_
  intro p e s m args below meth c s₁ B hml hv
  obtain ⟨rfl, hsz, hP, hK, hD0⟩ := hv
  have hx := B.exec
  have hb := B.bytes
  have hr := B.returns
  have hts := atoms_spec (ws := wsX5_others) B.pre
  have hown : s.vm.findClass RX5 = some m.cls := findClass_of_methodNamed B.named
  have hlocks := B.notSynchronized
  subst hsz
  have hD := hD0.self (sz := s.heap.size)
  generalize hAe : va_A [(g0, .inr (5, [.ref ra, .ref wa, .ref ta, .int 0, .ref ma, .int 0, .ref pa, .int 0, .int 0, .int 0, .ref ba, .ref ka, .int 0, .ref fa, .ref qa, .ref ea, .ref za, .ref ya, .int 0])), (ra, .inl (cI, 7, .inl (fun _ => 0)))] s.heap.size = A at hD ⊢
  have hA : ∀ q : Nat, s.heap.size ≤ q → A q := fun q h => by rw [← hAe]; exact Or.inr h
  have hS : va_S A s.heap s.heap [] := va_S.rf
  have hP : va_P D vwCl [(g0, .inr (5, [.ref ra, .ref wa, .ref ta, .int 0, .ref ma, .int 0, .ref pa, .int 0, .int 0, .int 0, .ref ba, .ref ka, .int 0, .ref fa, .ref qa, .ref ea, .ref za, .ref ya, .int 0])), (ra, .inl (cI, 7, .inl (fun _ => 0)))] s.heap := hP
  have hl := lv_entry ([.ref g0, .int a1, .int a2, .int a3, .int a4]) (n := 11) (Nat.le_of_ble_eq_true rfl)
  rw [lg_entry_eq]
  generalize (lg_sl ([.ref g0, .int a1, .int a2, .int a3, .int a4]) ++ List.replicate (11 - (lg_sl ([.ref g0, .int a1, .int a2, .int a3, .int a4])).length) Slot.unset).toArray = ls at hl ⊢
  have hl : lv_has ls 11 [(0, .ref g0), (1, .int a1), (2, .int a2), (3, .int a3), (4, .int a4)] := hl
  refine lv_iload_n hx hb dX5_others_0 rfl (lv_at hl 1 rfl) ?_
  refine lv_iconst (v := 1) hx hb dX5_others_1 (by decide) ?_
  refine lv_icmp_lt (tgt := 18) hx hb dX5_others_2 (by decide) (fun c_1 => ?_) (fun c_1 => ?_)
  · refine lv_aload_n hx hb dX5_others_18 rfl (lv_at hl 0 rfl) ?_
    refine lv_bipush (v := -4) hx hb dX5_others_19 (by decide) ?_
    have hPc := hP.sub (ws' := [(g0, .inr (5, [.ref ra, .ref wa, .ref ta, .int 0, .ref ma, .int 0, .ref pa, .int 0, .int 0, .int 0, .ref ba, .ref ka, .int 0, .ref fa, .ref qa, .ref ea, .ref za, .ref ya, .int 0])), (ra, .inl (cI, 7, .inl (fun _ => 0)))]) [0, 1] rfl
    have hDc := hD.sub (ws' := [(g0, .inr (5, [.ref ra, .ref wa, .ref ta, .int 0, .ref ma, .int 0, .ref pa, .int 0, .int 0, .int 0, .ref ba, .ref ka, .int 0, .ref fa, .ref qa, .ref ea, .ref za, .ref ya, .int 0])), (ra, .inl (cI, 7, .inl (fun _ => 0)))]) [0, 1] (by decide) rfl
    have hFc := va_free (wc := [(g0, .inr (5, [.ref ra, .ref wa, .ref ta, .int 0, .ref ma, .int 0, .ref pa, .int 0, .int 0, .int 0, .ref ba, .ref ka, .int 0, .ref fa, .ref qa, .ref ea, .ref za, .ref ya, .int 0])), (ra, .inl (cI, 7, .inl (fun _ => 0)))]) hD hS hA [0, 1] rfl
    refine va_calli (va_runV (As := [.int (-4)]) (rest := []) ⟨hx, hb, hml, hown, hts⟩ (c_X5_no l D cI cL cZ cC _ g0 ra wa ta ma pa ba ka fa qa ea za ya (fun _ => 0) (-4) (by first | assumption | decide +kernel) (by first | assumption | decide +kernel)) (cwV 1 hts gX5_others_X5_no rfl rfl rfl (by decide +kernel) ⟨Nat.le_of_ble_eq_true rfl, Nat.le_of_ble_eq_true rfl⟩) ⟨wPc_bl, va_recv hK hPc (ci := 5) (q0 := 0) rfl rfl, wPc_use hPc hK hDc⟩ rfl rfl hl.1 rfl (lv_room (Nat.le_of_ble_eq_true rfl)) dX5_others_21 ⟨Nat.le_of_ble_eq_true rfl, Nat.le_of_ble_eq_true rfl⟩) hS (fun q _ h => hFc q h) hFc (fun r_2 u_2 t H1 locs ht hvm hw hB hz1 hk1 hS => ?_)
    obtain ⟨hP1, hD1⟩ := hB
    rw [ht] at hP1
    obtain ⟨hP, hD⟩ := va_join (wr := []) (w1 := [(g0, .inr (5, [.ref ra, .ref wa, .ref ta, .int 0, .ref ma, .int 0, .ref pa, .int 0, .int 0, .int 0, .ref ba, .ref ka, .int 0, .ref fa, .ref qa, .ref ea, .ref za, .ref ya, .int 0])), (ra, .inl (cI, 7, .inl (xRf (fun _ => 0) (-4))))]) hP hD [0, 1] [] rfl rfl (by decide) (by decide) hk1 hFc hP1 hD1
    generalize H1 = H at hP hS ⊢
    have hP : va_P D vwCl [(g0, .inr (5, [.ref ra, .ref wa, .ref ta, .int 0, .ref ma, .int 0, .ref pa, .int 0, .int 0, .int 0, .ref ba, .ref ka, .int 0, .ref fa, .ref qa, .ref ea, .ref za, .ref ya, .int 0])), (ra, .inl (cI, 7, .inl (xRf (fun _ => 0) (-4))))] H := hP
    have hD : va_D A [(g0, .inr (5, [.ref ra, .ref wa, .ref ta, .int 0, .ref ma, .int 0, .ref pa, .int 0, .int 0, .int 0, .ref ba, .ref ka, .int 0, .ref fa, .ref qa, .ref ea, .ref za, .ref ya, .int 0])), (ra, .inl (cI, 7, .inl (xRf (fun _ => 0) (-4))))] := hD
    obtain rfl : ((-4) : Int32) = r_2 := Eq.symm hw
    have hP9 := hP.sub (ws' := []) [] rfl
    have hD9 := hD.sub (ws' := []) [] (by decide) rfl
    refine W.widen (k := 1) (n := 9) (Nat.le_of_ble_eq_true rfl) (Nat.le_of_ble_eq_true rfl) ?_
    exact W.iret (v := -4) hx hb hr (fun t ht hW => ⟨⟨_, (), rfl, by simp [sOth, c_1], by rw [ht]; exact hP9, hD9⟩, hS.F ht⟩) hS.2.2 dX5_others_24
  · refine lv_iload_n hx hb dX5_others_5 rfl (lv_at hl 2 rfl) ?_
    refine lv_if_lt (tgt := 18) hx hb dX5_others_6 (by decide) (fun c_3 => ?_) (fun c_3 => ?_)
    · refine lv_aload_n hx hb dX5_others_18 rfl (lv_at hl 0 rfl) ?_
      refine lv_bipush (v := -4) hx hb dX5_others_19 (by decide) ?_
      have hPc := hP.sub (ws' := [(g0, .inr (5, [.ref ra, .ref wa, .ref ta, .int 0, .ref ma, .int 0, .ref pa, .int 0, .int 0, .int 0, .ref ba, .ref ka, .int 0, .ref fa, .ref qa, .ref ea, .ref za, .ref ya, .int 0])), (ra, .inl (cI, 7, .inl (fun _ => 0)))]) [0, 1] rfl
      have hDc := hD.sub (ws' := [(g0, .inr (5, [.ref ra, .ref wa, .ref ta, .int 0, .ref ma, .int 0, .ref pa, .int 0, .int 0, .int 0, .ref ba, .ref ka, .int 0, .ref fa, .ref qa, .ref ea, .ref za, .ref ya, .int 0])), (ra, .inl (cI, 7, .inl (fun _ => 0)))]) [0, 1] (by decide) rfl
      have hFc := va_free (wc := [(g0, .inr (5, [.ref ra, .ref wa, .ref ta, .int 0, .ref ma, .int 0, .ref pa, .int 0, .int 0, .int 0, .ref ba, .ref ka, .int 0, .ref fa, .ref qa, .ref ea, .ref za, .ref ya, .int 0])), (ra, .inl (cI, 7, .inl (fun _ => 0)))]) hD hS hA [0, 1] rfl
      refine va_calli (va_runV (As := [.int (-4)]) (rest := []) ⟨hx, hb, hml, hown, hts⟩ (c_X5_no l D cI cL cZ cC _ g0 ra wa ta ma pa ba ka fa qa ea za ya (fun _ => 0) (-4) (by first | assumption | decide +kernel) (by first | assumption | decide +kernel)) (cwV 1 hts gX5_others_X5_no rfl rfl rfl (by decide +kernel) ⟨Nat.le_of_ble_eq_true rfl, Nat.le_of_ble_eq_true rfl⟩) ⟨wPc_bl, va_recv hK hPc (ci := 5) (q0 := 0) rfl rfl, wPc_use hPc hK hDc⟩ rfl rfl hl.1 rfl (lv_room (Nat.le_of_ble_eq_true rfl)) dX5_others_21 ⟨Nat.le_of_ble_eq_true rfl, Nat.le_of_ble_eq_true rfl⟩) hS (fun q _ h => hFc q h) hFc (fun r_4 u_4 t H1 locs ht hvm hw hB hz1 hk1 hS => ?_)
      obtain ⟨hP1, hD1⟩ := hB
      rw [ht] at hP1
      obtain ⟨hP, hD⟩ := va_join (wr := []) (w1 := [(g0, .inr (5, [.ref ra, .ref wa, .ref ta, .int 0, .ref ma, .int 0, .ref pa, .int 0, .int 0, .int 0, .ref ba, .ref ka, .int 0, .ref fa, .ref qa, .ref ea, .ref za, .ref ya, .int 0])), (ra, .inl (cI, 7, .inl (xRf (fun _ => 0) (-4))))]) hP hD [0, 1] [] rfl rfl (by decide) (by decide) hk1 hFc hP1 hD1
      generalize H1 = H at hP hS ⊢
      have hP : va_P D vwCl [(g0, .inr (5, [.ref ra, .ref wa, .ref ta, .int 0, .ref ma, .int 0, .ref pa, .int 0, .int 0, .int 0, .ref ba, .ref ka, .int 0, .ref fa, .ref qa, .ref ea, .ref za, .ref ya, .int 0])), (ra, .inl (cI, 7, .inl (xRf (fun _ => 0) (-4))))] H := hP
      have hD : va_D A [(g0, .inr (5, [.ref ra, .ref wa, .ref ta, .int 0, .ref ma, .int 0, .ref pa, .int 0, .int 0, .int 0, .ref ba, .ref ka, .int 0, .ref fa, .ref qa, .ref ea, .ref za, .ref ya, .int 0])), (ra, .inl (cI, 7, .inl (xRf (fun _ => 0) (-4))))] := hD
      obtain rfl : ((-4) : Int32) = r_4 := Eq.symm hw
      have hP9 := hP.sub (ws' := []) [] rfl
      have hD9 := hD.sub (ws' := []) [] (by decide) rfl
      refine W.widen (k := 1) (n := 9) (Nat.le_of_ble_eq_true rfl) (Nat.le_of_ble_eq_true rfl) ?_
      exact W.iret (v := -4) hx hb hr (fun t ht hW => ⟨⟨_, (), rfl, by simp [sOth, c_1, c_3], by rw [ht]; exact hP9, hD9⟩, hS.F ht⟩) hS.2.2 dX5_others_24
    · refine lv_iload_n hx hb dX5_others_9 rfl (lv_at hl 3 rfl) ?_
      refine lv_if_lt (tgt := 18) hx hb dX5_others_10 (by decide) (fun c_5 => ?_) (fun c_5 => ?_)
      · refine lv_aload_n hx hb dX5_others_18 rfl (lv_at hl 0 rfl) ?_
        refine lv_bipush (v := -4) hx hb dX5_others_19 (by decide) ?_
        have hPc := hP.sub (ws' := [(g0, .inr (5, [.ref ra, .ref wa, .ref ta, .int 0, .ref ma, .int 0, .ref pa, .int 0, .int 0, .int 0, .ref ba, .ref ka, .int 0, .ref fa, .ref qa, .ref ea, .ref za, .ref ya, .int 0])), (ra, .inl (cI, 7, .inl (fun _ => 0)))]) [0, 1] rfl
        have hDc := hD.sub (ws' := [(g0, .inr (5, [.ref ra, .ref wa, .ref ta, .int 0, .ref ma, .int 0, .ref pa, .int 0, .int 0, .int 0, .ref ba, .ref ka, .int 0, .ref fa, .ref qa, .ref ea, .ref za, .ref ya, .int 0])), (ra, .inl (cI, 7, .inl (fun _ => 0)))]) [0, 1] (by decide) rfl
        have hFc := va_free (wc := [(g0, .inr (5, [.ref ra, .ref wa, .ref ta, .int 0, .ref ma, .int 0, .ref pa, .int 0, .int 0, .int 0, .ref ba, .ref ka, .int 0, .ref fa, .ref qa, .ref ea, .ref za, .ref ya, .int 0])), (ra, .inl (cI, 7, .inl (fun _ => 0)))]) hD hS hA [0, 1] rfl
        refine va_calli (va_runV (As := [.int (-4)]) (rest := []) ⟨hx, hb, hml, hown, hts⟩ (c_X5_no l D cI cL cZ cC _ g0 ra wa ta ma pa ba ka fa qa ea za ya (fun _ => 0) (-4) (by first | assumption | decide +kernel) (by first | assumption | decide +kernel)) (cwV 1 hts gX5_others_X5_no rfl rfl rfl (by decide +kernel) ⟨Nat.le_of_ble_eq_true rfl, Nat.le_of_ble_eq_true rfl⟩) ⟨wPc_bl, va_recv hK hPc (ci := 5) (q0 := 0) rfl rfl, wPc_use hPc hK hDc⟩ rfl rfl hl.1 rfl (lv_room (Nat.le_of_ble_eq_true rfl)) dX5_others_21 ⟨Nat.le_of_ble_eq_true rfl, Nat.le_of_ble_eq_true rfl⟩) hS (fun q _ h => hFc q h) hFc (fun r_6 u_6 t H1 locs ht hvm hw hB hz1 hk1 hS => ?_)
        obtain ⟨hP1, hD1⟩ := hB
        rw [ht] at hP1
        obtain ⟨hP, hD⟩ := va_join (wr := []) (w1 := [(g0, .inr (5, [.ref ra, .ref wa, .ref ta, .int 0, .ref ma, .int 0, .ref pa, .int 0, .int 0, .int 0, .ref ba, .ref ka, .int 0, .ref fa, .ref qa, .ref ea, .ref za, .ref ya, .int 0])), (ra, .inl (cI, 7, .inl (xRf (fun _ => 0) (-4))))]) hP hD [0, 1] [] rfl rfl (by decide) (by decide) hk1 hFc hP1 hD1
        generalize H1 = H at hP hS ⊢
        have hP : va_P D vwCl [(g0, .inr (5, [.ref ra, .ref wa, .ref ta, .int 0, .ref ma, .int 0, .ref pa, .int 0, .int 0, .int 0, .ref ba, .ref ka, .int 0, .ref fa, .ref qa, .ref ea, .ref za, .ref ya, .int 0])), (ra, .inl (cI, 7, .inl (xRf (fun _ => 0) (-4))))] H := hP
        have hD : va_D A [(g0, .inr (5, [.ref ra, .ref wa, .ref ta, .int 0, .ref ma, .int 0, .ref pa, .int 0, .int 0, .int 0, .ref ba, .ref ka, .int 0, .ref fa, .ref qa, .ref ea, .ref za, .ref ya, .int 0])), (ra, .inl (cI, 7, .inl (xRf (fun _ => 0) (-4))))] := hD
        obtain rfl : ((-4) : Int32) = r_6 := Eq.symm hw
        have hP9 := hP.sub (ws' := []) [] rfl
        have hD9 := hD.sub (ws' := []) [] (by decide) rfl
        refine W.widen (k := 1) (n := 9) (Nat.le_of_ble_eq_true rfl) (Nat.le_of_ble_eq_true rfl) ?_
        exact W.iret (v := -4) hx hb hr (fun t ht hW => ⟨⟨_, (), rfl, by simp [sOth, c_1, c_3, c_5], by rw [ht]; exact hP9, hD9⟩, hS.F ht⟩) hS.2.2 dX5_others_24
      · refine lv_iload hx hb dX5_others_13 (lv_at hl 4 rfl) ?_
        refine lv_if_ge (tgt := 25) hx hb dX5_others_15 (by decide) (fun c_7 => ?_) (fun c_7 => ?_)
        · refine lv_iload_n hx hb dX5_others_25 rfl (lv_at hl 1 rfl) ?_
          refine lv_bipush (v := 9) hx hb dX5_others_26 (by decide) ?_
          refine lv_icmp_gt (tgt := 50) hx hb dX5_others_28 (by decide) (fun c_8 => ?_) (fun c_8 => ?_)
          · refine lv_aload_n hx hb dX5_others_50 rfl (lv_at hl 0 rfl) ?_
            refine lv_bipush (v := -6) hx hb dX5_others_51 (by decide) ?_
            have hPc := hP.sub (ws' := [(g0, .inr (5, [.ref ra, .ref wa, .ref ta, .int 0, .ref ma, .int 0, .ref pa, .int 0, .int 0, .int 0, .ref ba, .ref ka, .int 0, .ref fa, .ref qa, .ref ea, .ref za, .ref ya, .int 0])), (ra, .inl (cI, 7, .inl (fun _ => 0)))]) [0, 1] rfl
            have hDc := hD.sub (ws' := [(g0, .inr (5, [.ref ra, .ref wa, .ref ta, .int 0, .ref ma, .int 0, .ref pa, .int 0, .int 0, .int 0, .ref ba, .ref ka, .int 0, .ref fa, .ref qa, .ref ea, .ref za, .ref ya, .int 0])), (ra, .inl (cI, 7, .inl (fun _ => 0)))]) [0, 1] (by decide) rfl
            have hFc := va_free (wc := [(g0, .inr (5, [.ref ra, .ref wa, .ref ta, .int 0, .ref ma, .int 0, .ref pa, .int 0, .int 0, .int 0, .ref ba, .ref ka, .int 0, .ref fa, .ref qa, .ref ea, .ref za, .ref ya, .int 0])), (ra, .inl (cI, 7, .inl (fun _ => 0)))]) hD hS hA [0, 1] rfl
            refine va_calli (va_runV (As := [.int (-6)]) (rest := []) ⟨hx, hb, hml, hown, hts⟩ (c_X5_no l D cI cL cZ cC _ g0 ra wa ta ma pa ba ka fa qa ea za ya (fun _ => 0) (-6) (by first | assumption | decide +kernel) (by first | assumption | decide +kernel)) (cwV 1 hts gX5_others_X5_no rfl rfl rfl (by decide +kernel) ⟨Nat.le_of_ble_eq_true rfl, Nat.le_of_ble_eq_true rfl⟩) ⟨wPc_bl, va_recv hK hPc (ci := 5) (q0 := 0) rfl rfl, wPc_use hPc hK hDc⟩ rfl rfl hl.1 rfl (lv_room (Nat.le_of_ble_eq_true rfl)) dX5_others_53 ⟨Nat.le_of_ble_eq_true rfl, Nat.le_of_ble_eq_true rfl⟩) hS (fun q _ h => hFc q h) hFc (fun r_9 u_9 t H1 locs ht hvm hw hB hz1 hk1 hS => ?_)
            obtain ⟨hP1, hD1⟩ := hB
            rw [ht] at hP1
            obtain ⟨hP, hD⟩ := va_join (wr := []) (w1 := [(g0, .inr (5, [.ref ra, .ref wa, .ref ta, .int 0, .ref ma, .int 0, .ref pa, .int 0, .int 0, .int 0, .ref ba, .ref ka, .int 0, .ref fa, .ref qa, .ref ea, .ref za, .ref ya, .int 0])), (ra, .inl (cI, 7, .inl (xRf (fun _ => 0) (-6))))]) hP hD [0, 1] [] rfl rfl (by decide) (by decide) hk1 hFc hP1 hD1
            generalize H1 = H at hP hS ⊢
            have hP : va_P D vwCl [(g0, .inr (5, [.ref ra, .ref wa, .ref ta, .int 0, .ref ma, .int 0, .ref pa, .int 0, .int 0, .int 0, .ref ba, .ref ka, .int 0, .ref fa, .ref qa, .ref ea, .ref za, .ref ya, .int 0])), (ra, .inl (cI, 7, .inl (xRf (fun _ => 0) (-6))))] H := hP
            have hD : va_D A [(g0, .inr (5, [.ref ra, .ref wa, .ref ta, .int 0, .ref ma, .int 0, .ref pa, .int 0, .int 0, .int 0, .ref ba, .ref ka, .int 0, .ref fa, .ref qa, .ref ea, .ref za, .ref ya, .int 0])), (ra, .inl (cI, 7, .inl (xRf (fun _ => 0) (-6))))] := hD
            obtain rfl : ((-6) : Int32) = r_9 := Eq.symm hw
            have hP9 := hP.sub (ws' := []) [] rfl
            have hD9 := hD.sub (ws' := []) [] (by decide) rfl
            refine W.widen (k := 1) (n := 9) (Nat.le_of_ble_eq_true rfl) (Nat.le_of_ble_eq_true rfl) ?_
            exact W.iret (v := -6) hx hb hr (fun t ht hW => ⟨⟨_, (), rfl, by simp [sOth, c_1, c_3, c_5, (Int32.not_lt.mpr c_7), c_8], by rw [ht]; exact hP9, hD9⟩, hS.F ht⟩) hS.2.2 dX5_others_56
          · refine lv_iload_n hx hb dX5_others_31 rfl (lv_at hl 2 rfl) ?_
            refine lv_bipush (v := 30) hx hb dX5_others_32 (by decide) ?_
            refine lv_icmp_gt (tgt := 50) hx hb dX5_others_34 (by decide) (fun c_10 => ?_) (fun c_10 => ?_)
            · refine lv_aload_n hx hb dX5_others_50 rfl (lv_at hl 0 rfl) ?_
              refine lv_bipush (v := -6) hx hb dX5_others_51 (by decide) ?_
              have hPc := hP.sub (ws' := [(g0, .inr (5, [.ref ra, .ref wa, .ref ta, .int 0, .ref ma, .int 0, .ref pa, .int 0, .int 0, .int 0, .ref ba, .ref ka, .int 0, .ref fa, .ref qa, .ref ea, .ref za, .ref ya, .int 0])), (ra, .inl (cI, 7, .inl (fun _ => 0)))]) [0, 1] rfl
              have hDc := hD.sub (ws' := [(g0, .inr (5, [.ref ra, .ref wa, .ref ta, .int 0, .ref ma, .int 0, .ref pa, .int 0, .int 0, .int 0, .ref ba, .ref ka, .int 0, .ref fa, .ref qa, .ref ea, .ref za, .ref ya, .int 0])), (ra, .inl (cI, 7, .inl (fun _ => 0)))]) [0, 1] (by decide) rfl
              have hFc := va_free (wc := [(g0, .inr (5, [.ref ra, .ref wa, .ref ta, .int 0, .ref ma, .int 0, .ref pa, .int 0, .int 0, .int 0, .ref ba, .ref ka, .int 0, .ref fa, .ref qa, .ref ea, .ref za, .ref ya, .int 0])), (ra, .inl (cI, 7, .inl (fun _ => 0)))]) hD hS hA [0, 1] rfl
              refine va_calli (va_runV (As := [.int (-6)]) (rest := []) ⟨hx, hb, hml, hown, hts⟩ (c_X5_no l D cI cL cZ cC _ g0 ra wa ta ma pa ba ka fa qa ea za ya (fun _ => 0) (-6) (by first | assumption | decide +kernel) (by first | assumption | decide +kernel)) (cwV 1 hts gX5_others_X5_no rfl rfl rfl (by decide +kernel) ⟨Nat.le_of_ble_eq_true rfl, Nat.le_of_ble_eq_true rfl⟩) ⟨wPc_bl, va_recv hK hPc (ci := 5) (q0 := 0) rfl rfl, wPc_use hPc hK hDc⟩ rfl rfl hl.1 rfl (lv_room (Nat.le_of_ble_eq_true rfl)) dX5_others_53 ⟨Nat.le_of_ble_eq_true rfl, Nat.le_of_ble_eq_true rfl⟩) hS (fun q _ h => hFc q h) hFc (fun r_11 u_11 t H1 locs ht hvm hw hB hz1 hk1 hS => ?_)
              obtain ⟨hP1, hD1⟩ := hB
              rw [ht] at hP1
              obtain ⟨hP, hD⟩ := va_join (wr := []) (w1 := [(g0, .inr (5, [.ref ra, .ref wa, .ref ta, .int 0, .ref ma, .int 0, .ref pa, .int 0, .int 0, .int 0, .ref ba, .ref ka, .int 0, .ref fa, .ref qa, .ref ea, .ref za, .ref ya, .int 0])), (ra, .inl (cI, 7, .inl (xRf (fun _ => 0) (-6))))]) hP hD [0, 1] [] rfl rfl (by decide) (by decide) hk1 hFc hP1 hD1
              generalize H1 = H at hP hS ⊢
              have hP : va_P D vwCl [(g0, .inr (5, [.ref ra, .ref wa, .ref ta, .int 0, .ref ma, .int 0, .ref pa, .int 0, .int 0, .int 0, .ref ba, .ref ka, .int 0, .ref fa, .ref qa, .ref ea, .ref za, .ref ya, .int 0])), (ra, .inl (cI, 7, .inl (xRf (fun _ => 0) (-6))))] H := hP
              have hD : va_D A [(g0, .inr (5, [.ref ra, .ref wa, .ref ta, .int 0, .ref ma, .int 0, .ref pa, .int 0, .int 0, .int 0, .ref ba, .ref ka, .int 0, .ref fa, .ref qa, .ref ea, .ref za, .ref ya, .int 0])), (ra, .inl (cI, 7, .inl (xRf (fun _ => 0) (-6))))] := hD
              obtain rfl : ((-6) : Int32) = r_11 := Eq.symm hw
              have hP9 := hP.sub (ws' := []) [] rfl
              have hD9 := hD.sub (ws' := []) [] (by decide) rfl
              refine W.widen (k := 1) (n := 9) (Nat.le_of_ble_eq_true rfl) (Nat.le_of_ble_eq_true rfl) ?_
              exact W.iret (v := -6) hx hb hr (fun t ht hW => ⟨⟨_, (), rfl, by simp [sOth, c_1, c_3, c_5, (Int32.not_lt.mpr c_7), c_8, c_10], by rw [ht]; exact hP9, hD9⟩, hS.F ht⟩) hS.2.2 dX5_others_56
            · refine lv_iload_n hx hb dX5_others_37 rfl (lv_at hl 3 rfl) ?_
              refine lv_bipush (v := 30) hx hb dX5_others_38 (by decide) ?_
              refine lv_icmp_gt (tgt := 50) hx hb dX5_others_40 (by decide) (fun c_12 => ?_) (fun c_12 => ?_)
              · refine lv_aload_n hx hb dX5_others_50 rfl (lv_at hl 0 rfl) ?_
                refine lv_bipush (v := -6) hx hb dX5_others_51 (by decide) ?_
                have hPc := hP.sub (ws' := [(g0, .inr (5, [.ref ra, .ref wa, .ref ta, .int 0, .ref ma, .int 0, .ref pa, .int 0, .int 0, .int 0, .ref ba, .ref ka, .int 0, .ref fa, .ref qa, .ref ea, .ref za, .ref ya, .int 0])), (ra, .inl (cI, 7, .inl (fun _ => 0)))]) [0, 1] rfl
                have hDc := hD.sub (ws' := [(g0, .inr (5, [.ref ra, .ref wa, .ref ta, .int 0, .ref ma, .int 0, .ref pa, .int 0, .int 0, .int 0, .ref ba, .ref ka, .int 0, .ref fa, .ref qa, .ref ea, .ref za, .ref ya, .int 0])), (ra, .inl (cI, 7, .inl (fun _ => 0)))]) [0, 1] (by decide) rfl
                have hFc := va_free (wc := [(g0, .inr (5, [.ref ra, .ref wa, .ref ta, .int 0, .ref ma, .int 0, .ref pa, .int 0, .int 0, .int 0, .ref ba, .ref ka, .int 0, .ref fa, .ref qa, .ref ea, .ref za, .ref ya, .int 0])), (ra, .inl (cI, 7, .inl (fun _ => 0)))]) hD hS hA [0, 1] rfl
                refine va_calli (va_runV (As := [.int (-6)]) (rest := []) ⟨hx, hb, hml, hown, hts⟩ (c_X5_no l D cI cL cZ cC _ g0 ra wa ta ma pa ba ka fa qa ea za ya (fun _ => 0) (-6) (by first | assumption | decide +kernel) (by first | assumption | decide +kernel)) (cwV 1 hts gX5_others_X5_no rfl rfl rfl (by decide +kernel) ⟨Nat.le_of_ble_eq_true rfl, Nat.le_of_ble_eq_true rfl⟩) ⟨wPc_bl, va_recv hK hPc (ci := 5) (q0 := 0) rfl rfl, wPc_use hPc hK hDc⟩ rfl rfl hl.1 rfl (lv_room (Nat.le_of_ble_eq_true rfl)) dX5_others_53 ⟨Nat.le_of_ble_eq_true rfl, Nat.le_of_ble_eq_true rfl⟩) hS (fun q _ h => hFc q h) hFc (fun r_13 u_13 t H1 locs ht hvm hw hB hz1 hk1 hS => ?_)
                obtain ⟨hP1, hD1⟩ := hB
                rw [ht] at hP1
                obtain ⟨hP, hD⟩ := va_join (wr := []) (w1 := [(g0, .inr (5, [.ref ra, .ref wa, .ref ta, .int 0, .ref ma, .int 0, .ref pa, .int 0, .int 0, .int 0, .ref ba, .ref ka, .int 0, .ref fa, .ref qa, .ref ea, .ref za, .ref ya, .int 0])), (ra, .inl (cI, 7, .inl (xRf (fun _ => 0) (-6))))]) hP hD [0, 1] [] rfl rfl (by decide) (by decide) hk1 hFc hP1 hD1
                generalize H1 = H at hP hS ⊢
                have hP : va_P D vwCl [(g0, .inr (5, [.ref ra, .ref wa, .ref ta, .int 0, .ref ma, .int 0, .ref pa, .int 0, .int 0, .int 0, .ref ba, .ref ka, .int 0, .ref fa, .ref qa, .ref ea, .ref za, .ref ya, .int 0])), (ra, .inl (cI, 7, .inl (xRf (fun _ => 0) (-6))))] H := hP
                have hD : va_D A [(g0, .inr (5, [.ref ra, .ref wa, .ref ta, .int 0, .ref ma, .int 0, .ref pa, .int 0, .int 0, .int 0, .ref ba, .ref ka, .int 0, .ref fa, .ref qa, .ref ea, .ref za, .ref ya, .int 0])), (ra, .inl (cI, 7, .inl (xRf (fun _ => 0) (-6))))] := hD
                obtain rfl : ((-6) : Int32) = r_13 := Eq.symm hw
                have hP9 := hP.sub (ws' := []) [] rfl
                have hD9 := hD.sub (ws' := []) [] (by decide) rfl
                refine W.widen (k := 1) (n := 9) (Nat.le_of_ble_eq_true rfl) (Nat.le_of_ble_eq_true rfl) ?_
                exact W.iret (v := -6) hx hb hr (fun t ht hW => ⟨⟨_, (), rfl, by simp [sOth, c_1, c_3, c_5, (Int32.not_lt.mpr c_7), c_8, c_10, c_12], by rw [ht]; exact hP9, hD9⟩, hS.F ht⟩) hS.2.2 dX5_others_56
              · refine lv_iload hx hb dX5_others_43 (lv_at hl 4 rfl) ?_
                refine lv_bipush (v := 60) hx hb dX5_others_45 (by decide) ?_
                refine lv_icmp_le (tgt := 57) hx hb dX5_others_47 (by decide) (fun c_14 => ?_) (fun c_14 => ?_)
                · have hh0 := c_3
                  have hc0 := c_5
                  have hh30 := c_10
                  have hc30 := c_12
                  obtain ⟨N1, hN1, hN9, rfl⟩ := xN1 c_1 c_8
                  obtain ⟨M1, hM1, rfl⟩ := xzN (n := 60) (by decide) (Int32.not_lt.mpr c_7) (Int32.not_lt.mpr c_14)
                  obtain ⟨A2, hA2, rfl⟩ := xzN (n := 30) (by decide) hh0 hh30
                  obtain ⟨A3, hA3, rfl⟩ := xzN (n := 30) (by decide) hc0 hc30
                  refine lv_iload_n hx hb dX5_others_57 rfl (lv_at hl 1 rfl) ?_
                  refine lv_istore (lv' := [(5, .int (nI N1)), (0, .ref g0), (1, .int (nI N1)), (2, .int (nI A2)), (3, .int (nI A3)), (4, .int (nI M1))]) hx hb dX5_others_58 hl (by decide) rfl (fun ls hl => ?_)
                  refine lv_iconst (v := 0) hx hb dX5_others_60 (by decide) ?_
                  refine lv_istore (lv' := [(6, .int 0), (5, .int (nI N1)), (0, .ref g0), (1, .int (nI N1)), (2, .int (nI A2)), (3, .int (nI A3)), (4, .int (nI M1))]) hx hb dX5_others_61 hl (by decide) rfl (fun ls hl => ?_)
                  refine lv_iconst (v := 0) hx hb dX5_others_63 (by decide) ?_
                  refine lv_istore (lv' := [(7, .int 0), (6, .int 0), (5, .int (nI N1)), (0, .ref g0), (1, .int (nI N1)), (2, .int (nI A2)), (3, .int (nI A3)), (4, .int (nI M1))]) hx hb dX5_others_64 hl (by decide) rfl (fun ls hl => ?_)
                  refine lv_bipush (v := 9) hx hb dX5_others_66 (by decide) ?_
                  refine va_newa (D := D) (atype := .boolean) (ty := .boolean) (N' := 9) (a0 := (9, .inl (fun _ => 0))) hx hb (hts (.arrayClass .boolean) (by decide +kernel)) rfl hK hP hD hS hA (fun _ => rfl) (by decide +kernel) (by decide +kernel) (Nat.le_of_ble_eq_true rfl) (Nat.le_of_ble_eq_true rfl) (Nat.le_of_ble_eq_true rfl) dX5_others_68 (fun q_68_15 cA H hK2 hP hD hS => ?_)
                  obtain rfl : cZ = cA := xK_uniq hK2 2 4 rfl rfl (by decide)
                  have hP : va_P D vwCl [(g0, .inr (5, [.ref ra, .ref wa, .ref ta, .int 0, .ref ma, .int 0, .ref pa, .int 0, .int 0, .int 0, .ref ba, .ref ka, .int 0, .ref fa, .ref qa, .ref ea, .ref za, .ref ya, .int 0])), (ra, .inl (cI, 7, .inl (fun _ => 0))), (q_68_15, .inl (cZ, 9, .inl (fun _ => 0)))] H := hP
                  have hD : va_D A [(g0, .inr (5, [.ref ra, .ref wa, .ref ta, .int 0, .ref ma, .int 0, .ref pa, .int 0, .int 0, .int 0, .ref ba, .ref ka, .int 0, .ref fa, .ref qa, .ref ea, .ref za, .ref ya, .int 0])), (ra, .inl (cI, 7, .inl (fun _ => 0))), (q_68_15, .inl (cZ, 9, .inl (fun _ => 0)))] := hD
                  refine W.widen (k := 1) (n := 9) (Nat.le_of_ble_eq_true rfl) (Nat.le_of_ble_eq_true rfl) ?_
                  refine lv_astore (lv' := [(8, .ref q_68_15), (7, .int 0), (6, .int 0), (5, .int (nI N1)), (0, .ref g0), (1, .int (nI N1)), (2, .int (nI A2)), (3, .int (nI A3)), (4, .int (nI M1))]) hx hb dX5_others_70 hl (by decide) rfl (fun ls hl => ?_)
                  refine lv_iconst (v := 1) hx hb dX5_others_72 (by decide) ?_
                  refine lv_istore (lv' := [(9, .int 1), (8, .ref q_68_15), (7, .int 0), (6, .int 0), (5, .int (nI N1)), (0, .ref g0), (1, .int (nI N1)), (2, .int (nI A2)), (3, .int (nI A3)), (4, .int (nI M1))]) hx hb dX5_others_73 hl (by decide) rfl (fun ls hl => ?_)
                  refine xl_loopH (σ := Nat × Int32 × Nat × Nat × (Nat → Int32)) (fun n q H locs ls => lv_has ls 11 [(9, .int (nI (q.1 + 1))), (8, .ref q_68_15), (7, .int (nI q.2.2.2.1)), (6, .int (nI q.2.2.1)), (5, .int q.2.1), (0, .ref g0), (1, .int (nI N1)), (2, .int (nI A2)), (3, .int (nI A3)), (4, .int (nI M1))] ∧ va_P D vwCl [(g0, .inr (5, [.ref ra, .ref wa, .ref ta, .int 0, .ref ma, .int 0, .ref pa, .int 0, .int 0, .int 0, .ref ba, .ref ka, .int 0, .ref fa, .ref qa, .ref ea, .ref za, .ref ya, .int 0])), (ra, .inl (cI, 7, .inl (fun _ => 0))), (q_68_15, .inl (cZ, 9, .inl q.2.2.2.2))] H ∧ va_D A [(g0, .inr (5, [.ref ra, .ref wa, .ref ta, .int 0, .ref ma, .int 0, .ref pa, .int 0, .int 0, .int 0, .ref ba, .ref ka, .int 0, .ref fa, .ref qa, .ref ea, .ref za, .ref ya, .int 0])), (ra, .inl (cI, 7, .inl (fun _ => 0))), (q_68_15, .inl (cZ, 9, .inl q.2.2.2.2))] ∧ va_S A s.heap H locs ∧ (M1 - q.1 < n) ∧ (q.1 ≤ M1) ∧ ((q.2.1, nI q.2.2.1, nI q.2.2.2.1) = xOt N1 (nI A2) (nI A3) q.1) ∧ (q.2.2.1 ≤ 10 * q.1) ∧ (q.2.2.2.1 ≤ 9) ∧ (q.2.1 = xCt q.2.2.2.2 N1) ∧ (∀ i, i < N1 → q.2.2.2.2 i = 0 ∨ (q.2.2.2.2 i = 1 ∧ i * A2 + A3 ≤ q.2.2.1))) (M1 + 1) (0, nI N1, 0, 0, fun _ => 0) ⟨lv_sub hl [0, 1, 2, 3, 4, 5, 6, 7, 8, 9] rfl, hP.sub [0, 1, 2] rfl, hD.sub [0, 1, 2] (by decide) rfl, hS, by dsimp only; exact ⟨by omega, by omega, rfl, by omega, by omega, (xCt_0 N1).symm, fun i _ => Or.inl rfl⟩⟩ (fun q H lc ls h => absurd h.2.2.2.2.1 (Nat.not_lt_zero _)) ?_
                  intro n_75 q_75 H locs ls ih_75 hI_75
                  obtain ⟨hl, hP, hD, hS, hI_75⟩ := hI_75
                  obtain ⟨j, w1, lb, la, g⟩ := q_75
                  obtain ⟨h1, h2, h3, h4, h5, h6, h7⟩ := hI_75
                  dsimp only at hl hP hD h1 h2 h3 h4 h5 h6 h7
                  refine lv_iload hx hb dX5_others_75 (lv_at hl 0 rfl) ?_
                  refine lv_iload hx hb dX5_others_77 (lv_at hl 9 rfl) ?_
                  refine lv_icmp_gt (tgt := 151) hx hb dX5_others_79 (by decide) (fun c_16 => ?_) (fun c_16 => ?_)
                  · refine lv_iload hx hb dX5_others_151 (lv_at hl 4 rfl) ?_
                    have hP9 := hP.sub (ws' := []) [] rfl
                    have hD9 := hD.sub (ws' := []) [] (by decide) rfl
                    exact W.iret (v := w1) hx hb hr (fun t ht hW => ⟨⟨_, (), rfl, (by rw [sOth_nI hN1 hN9 hM1 hh0 hc0 hh30 hc30]; have w := (nI_ltI (by omega) (by omega)).mp c_16; rw [show M1 = j by omega]; exact congrArg Prod.fst h3), by rw [ht]; exact hP9, hD9⟩, hS.F ht⟩) hS.2.2 dX5_others_153
                  · refine lv_iload hx hb dX5_others_82 (lv_at hl 3 rfl) ?_
                    refine lv_iconst (v := 1) hx hb dX5_others_84 (by decide) ?_
                    refine lv_iload hx hb dX5_others_85 (lv_at hl 2 rfl) ?_
                    refine lv_iadd hx hb dX5_others_87 ?_
                    refine lv_iadd hx hb dX5_others_88 ?_
                    refine xv_int (y := nI (lb + (1 + la))) (by rw [show (1 : Int32) = nI 1 from rfl, nI_add, nI_add]) ?_
                    refine lv_istore (lv' := [(6, .int (nI (lb + (1 + la)))), (9, .int (nI (j + 1))), (8, .ref q_68_15), (7, .int (nI la)), (5, .int w1), (0, .ref g0), (1, .int (nI N1)), (2, .int (nI A2)), (3, .int (nI A3)), (4, .int (nI M1))]) hx hb dX5_others_89 hl (by decide) rfl (fun ls hl => ?_)
                    refine lv_iconst (v := 0) hx hb dX5_others_91 (by decide) ?_
                    refine lv_istore (lv' := [(7, .int 0), (6, .int (nI (lb + (1 + la)))), (9, .int (nI (j + 1))), (8, .ref q_68_15), (5, .int w1), (0, .ref g0), (1, .int (nI N1)), (2, .int (nI A2)), (3, .int (nI A3)), (4, .int (nI M1))]) hx hb dX5_others_92 hl (by decide) rfl (fun ls hl => ?_)
                    refine lv_iconst (v := 0) hx hb dX5_others_94 (by decide) ?_
                    refine lv_istore (lv' := [(10, .int 0), (7, .int 0), (6, .int (nI (lb + (1 + la)))), (9, .int (nI (j + 1))), (8, .ref q_68_15), (5, .int w1), (0, .ref g0), (1, .int (nI N1)), (2, .int (nI A2)), (3, .int (nI A3)), (4, .int (nI M1))]) hx hb dX5_others_95 hl (by decide) rfl (fun ls hl => ?_)
                    refine xl_loopH (σ := Nat × Nat × (Nat → Int32)) (fun n q H locs ls => lv_has ls 11 [(10, .int (nI q.1)), (7, .int (nI q.2.1)), (6, .int (nI (lb + (1 + la)))), (9, .int (nI (j + 1))), (8, .ref q_68_15), (5, .int w1), (0, .ref g0), (1, .int (nI N1)), (2, .int (nI A2)), (3, .int (nI A3)), (4, .int (nI M1))] ∧ va_P D vwCl [(g0, .inr (5, [.ref ra, .ref wa, .ref ta, .int 0, .ref ma, .int 0, .ref pa, .int 0, .int 0, .int 0, .ref ba, .ref ka, .int 0, .ref fa, .ref qa, .ref ea, .ref za, .ref ya, .int 0])), (ra, .inl (cI, 7, .inl (fun _ => 0))), (q_68_15, .inl (cZ, 9, .inl q.2.2))] H ∧ va_D A [(g0, .inr (5, [.ref ra, .ref wa, .ref ta, .int 0, .ref ma, .int 0, .ref pa, .int 0, .int 0, .int 0, .ref ba, .ref ka, .int 0, .ref fa, .ref qa, .ref ea, .ref za, .ref ya, .int 0])), (ra, .inl (cI, 7, .inl (fun _ => 0))), (q_68_15, .inl (cZ, 9, .inl q.2.2))] ∧ va_S A s.heap H locs ∧ (N1 - q.1 < n) ∧ (q.1 ≤ N1) ∧ (∀ i, i < q.1 → i < N1 → q.2.2 i = if nI (lb + (1 + la)) < nI i * nI A2 + nI A3 then 0 else 1) ∧ (∀ i, q.1 ≤ i → i < N1 → q.2.2 i = g i) ∧ (nI q.2.1 + xHt (nI (lb + (1 + la))) (nI A2) (nI A3) q.1 = xCt g q.1) ∧ (q.2.1 ≤ q.1)) (N1 + 1) (0, 0, g) ⟨lv_sub hl [0, 1, 2, 3, 4, 5, 6, 7, 8, 9, 10] rfl, hP.sub [0, 1, 2] rfl, hD.sub [0, 1, 2] (by decide) rfl, hS, by dsimp only; exact ⟨by omega, by omega, fun i hi => absurd hi (Nat.not_lt_zero i), fun i _ _ => rfl, rfl, by omega⟩⟩ (fun q H lc ls h => absurd h.2.2.2.2.1 (Nat.not_lt_zero _)) ?_
                    intro n_97 q_97 H locs ls ih_97 hI_97
                    obtain ⟨hl, hP, hD, hS, hI_97⟩ := hI_97
                    obtain ⟨k, z, g2⟩ := q_97
                    obtain ⟨i1, i2, i3, i4, i5, i6⟩ := hI_97
                    dsimp only at hl hP hD i1 i2 i3 i4 i5 i6
                    refine lv_iload hx hb dX5_others_97 (lv_at hl 0 rfl) ?_
                    refine lv_iload_n hx hb dX5_others_99 rfl (lv_at hl 7 rfl) ?_
                    refine lv_icmp_ge (tgt := 138) hx hb dX5_others_100 (by decide) (fun c_17 => ?_) (fun c_17 => ?_)
                    · refine lv_iload hx hb dX5_others_138 (lv_at hl 5 rfl) ?_
                      refine lv_iload hx hb dX5_others_140 (lv_at hl 1 rfl) ?_
                      refine lv_isub hx hb dX5_others_142 ?_
                      refine lv_istore (lv' := [(5, .int (w1 - (nI z))), (10, .int (nI k)), (7, .int (nI z)), (6, .int (nI (lb + (1 + la)))), (9, .int (nI (j + 1))), (8, .ref q_68_15), (0, .ref g0), (1, .int (nI N1)), (2, .int (nI A2)), (3, .int (nI A3)), (4, .int (nI M1))]) hx hb dX5_others_143 hl (by decide) rfl (fun ls hl => ?_)
                      refine lv_iinc (v := nI (j + 1 + 1)) (lv' := [(9, .int (nI (j + 1 + 1))), (5, .int (w1 - (nI z))), (10, .int (nI k)), (7, .int (nI z)), (6, .int (nI (lb + (1 + la)))), (8, .ref q_68_15), (0, .ref g0), (1, .int (nI N1)), (2, .int (nI A2)), (3, .int (nI A3)), (4, .int (nI M1))]) hx hb dX5_others_145 hl (k := 4) rfl (nI_1 (j + 1)) (by decide) rfl (fun ls hl => ?_)
                      refine lv_goto (tgt := 75) hx hb dX5_others_148 (by decide) ?_
                      have qj := mt (nI_ltI (a := M1) (b := j + 1) (by omega) (by omega)).mpr c_16
                      have qk := mt (nI_ltI (a := k) (b := N1) (by omega) (by omega)).mpr (Int32.not_lt.mpr c_17)
                      have hkN : k = N1 := by omega
                      have e1 : xCt g2 N1 = xHt (nI (lb + (1 + la))) (nI A2) (nI A3) N1 := xCt_g N1 (fun i hi => i3 i (by omega) hi)
                      rw [hkN] at i5 i6
                      have e2 : w1 - nI z = xHt (nI (lb + (1 + la))) (nI A2) (nI A3) N1 := by rw [h6, ← i5]; exact xsub_add _ _
                      have e4 : nI lb + (1 + nI la) = nI (lb + (1 + la)) := by rw [show (1 : Int32) = nI 1 from rfl, nI_add, nI_add]
                      have e5 : (w1 - nI z, nI (lb + (1 + la)), nI z) = xOt N1 (nI A2) (nI A3) (j + 1) := by
                        simp only [xOt, ← h3]
                        rw [e4, ← e2]
                        simp only [xsub_sub]
                      have e6 : ∀ i, i < N1 → g2 i = 0 ∨ (g2 i = 1 ∧ i * A2 + A3 ≤ lb + (1 + la)) := by
                        intro i hi
                        have hb9 := xbd i hi hN9 hA2 hA3
                        by_cases qq : lb + (1 + la) < i * A2 + A3
                        · exact Or.inl ((i3 i (by omega) hi).trans (if_pos (by rw [xlin, nI_ltI (by omega) (by omega)]; exact qq)))
                        · exact Or.inr ⟨(i3 i (by omega) hi).trans (if_neg (by rw [xlin, nI_ltI (by omega) (by omega)]; exact qq)), by omega⟩
                      exact ih_75 (j + 1, w1 - nI z, lb + (1 + la), z, g2) _ _ _ ⟨lv_sub hl [0, 5, 3, 4, 1, 6, 7, 8, 9, 10] rfl, hP.sub [0, 1, 2] rfl, hD.sub [0, 1, 2] (by decide) rfl, hS, by dsimp only; exact ⟨by omega, by omega, e5, by omega, by omega, e2.trans e1.symm, e6⟩⟩
                    · refine lv_aload hx hb dX5_others_103 (lv_at hl 4 rfl) ?_
                      refine lv_iload hx hb dX5_others_105 (lv_at hl 0 rfl) ?_
                      refine va_zald (D := D) hx hb hK hP 2 2 rfl rfl (vp_in_nI (by have q := (nI_ltI (by omega) (by omega)).mp (Int32.not_le.mp c_17); omega) (by decide)) dX5_others_107 ?_
                      refine xv_int (y := g2 k) (by rw [nI_clamp (by omega)]) ?_
                      refine lv_if_ne (tgt := 132) hx hb dX5_others_108 (by decide) (fun c_18 => ?_) (fun c_18 => ?_)
                      · refine lv_iinc (v := nI (k + 1)) (lv' := [(10, .int (nI (k + 1))), (7, .int (nI z)), (6, .int (nI (lb + (1 + la)))), (9, .int (nI (j + 1))), (8, .ref q_68_15), (5, .int w1), (0, .ref g0), (1, .int (nI N1)), (2, .int (nI A2)), (3, .int (nI A3)), (4, .int (nI M1))]) hx hb dX5_others_132 hl (k := 0) rfl (nI_1 k) (by decide) rfl (fun ls hl => ?_)
                        refine lv_goto (tgt := 97) hx hb dX5_others_135 (by decide) ?_
                        have qk : k < N1 := (nI_ltI (by omega) (by omega)).mp (Int32.not_le.mp c_17)
                        have hbd := xbd k qk hN9 hA2 hA3
                        have hz : ¬ g k = 0 := fun w => c_18 ((i4 k (Nat.le_refl k) qk).trans w)
                        have hg : g k = 1 ∧ k * A2 + A3 ≤ lb := (h7 k qk).resolve_left hz
                        have hlt : ¬ nI (lb + (1 + la)) < nI k * nI A2 + nI A3 := by rw [xlin, nI_ltI (by omega) (by omega)]; omega
                        have f3 : ∀ i, i < k + 1 → i < N1 → g2 i = if nI (lb + (1 + la)) < nI i * nI A2 + nI A3 then 0 else 1 := by
                          intro i hi hn
                          rcases Nat.lt_or_ge i k with q | q
                          · exact i3 i q hn
                          · obtain rfl : i = k := by omega
                            exact (i4 i (Nat.le_refl i) hn).trans (hg.1.trans (if_neg hlt).symm)
                        have f5 : nI (z) + xHt (nI (lb + (1 + la))) (nI A2) (nI A3) (k + 1) = xCt g (k + 1) := by
                          simp only [xHt, xCt]
                          rw [if_neg hlt, if_neg hz]; exact i5
                        exact ih_97 (k + 1, z, g2) _ _ _ ⟨lv_sub hl [0, 1, 2, 3, 4, 5, 6, 7, 8, 9, 10] rfl, hP.sub [0, 1, 2] rfl, hD.sub [0, 1, 2] (by decide) rfl, hS, by dsimp only; exact ⟨by omega, by omega, f3, fun i hi hn => i4 i (by omega) hn, f5, by omega⟩⟩
                      · refine lv_iload hx hb dX5_others_111 (lv_at hl 0 rfl) ?_
                        refine lv_iload_n hx hb dX5_others_113 rfl (lv_at hl 8 rfl) ?_
                        refine lv_imul hx hb dX5_others_114 ?_
                        refine lv_iload_n hx hb dX5_others_115 rfl (lv_at hl 9 rfl) ?_
                        refine lv_iadd hx hb dX5_others_116 ?_
                        refine xv_int (y := nI (k * A2 + A3)) (xlin k A2 A3) ?_
                        refine lv_iload hx hb dX5_others_117 (lv_at hl 2 rfl) ?_
                        refine lv_isub hx hb dX5_others_119 ?_
                        refine lv_if_gt (tgt := 132) hx hb dX5_others_120 (by decide) (fun c_19 => ?_) (fun c_19 => ?_)
                        · refine lv_iinc (v := nI (k + 1)) (lv' := [(10, .int (nI (k + 1))), (7, .int (nI z)), (6, .int (nI (lb + (1 + la)))), (9, .int (nI (j + 1))), (8, .ref q_68_15), (5, .int w1), (0, .ref g0), (1, .int (nI N1)), (2, .int (nI A2)), (3, .int (nI A3)), (4, .int (nI M1))]) hx hb dX5_others_132 hl (k := 0) rfl (nI_1 k) (by decide) rfl (fun ls hl => ?_)
                          refine lv_goto (tgt := 97) hx hb dX5_others_135 (by decide) ?_
                          have qk : k < N1 := (nI_ltI (by omega) (by omega)).mp (Int32.not_le.mp c_17)
                          have hbd := xbd k qk hN9 hA2 hA3
                          have hz : g k = 0 := (i4 k (Nat.le_refl k) qk).symm.trans c_18
                          have hle : ¬ (k * A2 + A3 ≤ lb + (1 + la)) := fun w => absurd ((xle0 (by omega) (by omega)).mpr w) (Int32.not_le.mpr c_19)
                          have hlt : nI (lb + (1 + la)) < nI k * nI A2 + nI A3 := by rw [xlin, nI_ltI (by omega) (by omega)]; omega
                          have f3 : ∀ i, i < k + 1 → i < N1 → g2 i = if nI (lb + (1 + la)) < nI i * nI A2 + nI A3 then 0 else 1 := by
                            intro i hi hn
                            rcases Nat.lt_or_ge i k with q | q
                            · exact i3 i q hn
                            · obtain rfl : i = k := by omega
                              exact (i4 i (Nat.le_refl i) hn).trans (hz.trans (if_pos hlt).symm)
                          have f5 : nI (z) + xHt (nI (lb + (1 + la))) (nI A2) (nI A3) (k + 1) = xCt g (k + 1) := by
                            simp only [xHt, xCt]
                            rw [if_pos hlt, if_pos hz, ← i5]; exact (xadd_assoc _ _ _).symm
                          exact ih_97 (k + 1, z, g2) _ _ _ ⟨lv_sub hl [0, 1, 2, 3, 4, 5, 6, 7, 8, 9, 10] rfl, hP.sub [0, 1, 2] rfl, hD.sub [0, 1, 2] (by decide) rfl, hS, by dsimp only; exact ⟨by omega, by omega, f3, fun i hi hn => i4 i (by omega) hn, f5, by omega⟩⟩
                        · refine lv_aload hx hb dX5_others_123 (lv_at hl 4 rfl) ?_
                          refine lv_iload hx hb dX5_others_125 (lv_at hl 0 rfl) ?_
                          refine lv_iconst (v := 1) hx hb dX5_others_127 (by decide) ?_
                          refine va_zast (D := D) hx hb hK hP hD hS 2 2 rfl rfl (vp_in_nI (by have q := (nI_ltI (by omega) (by omega)).mp (Int32.not_le.mp c_17); omega) (by decide)) dX5_others_128 (fun H locs hP hD hS => ?_)
                          rw [nI_clamp (by omega)] at hP hD
                          have hP : va_P D vwCl [(g0, .inr (5, [.ref ra, .ref wa, .ref ta, .int 0, .ref ma, .int 0, .ref pa, .int 0, .int 0, .int 0, .ref ba, .ref ka, .int 0, .ref fa, .ref qa, .ref ea, .ref za, .ref ya, .int 0])), (ra, .inl (cI, 7, .inl (fun _ => 0))), (q_68_15, .inl (cZ, 9, .inl (upd g2 k 1)))] H := hP
                          have hD : va_D A [(g0, .inr (5, [.ref ra, .ref wa, .ref ta, .int 0, .ref ma, .int 0, .ref pa, .int 0, .int 0, .int 0, .ref ba, .ref ka, .int 0, .ref fa, .ref qa, .ref ea, .ref za, .ref ya, .int 0])), (ra, .inl (cI, 7, .inl (fun _ => 0))), (q_68_15, .inl (cZ, 9, .inl (upd g2 k 1)))] := hD
                          refine lv_iinc (v := nI (z + 1)) (lv' := [(7, .int (nI (z + 1))), (10, .int (nI k)), (6, .int (nI (lb + (1 + la)))), (9, .int (nI (j + 1))), (8, .ref q_68_15), (5, .int w1), (0, .ref g0), (1, .int (nI N1)), (2, .int (nI A2)), (3, .int (nI A3)), (4, .int (nI M1))]) hx hb dX5_others_129 hl (k := 1) rfl (nI_1 z) (by decide) rfl (fun ls hl => ?_)
                          refine lv_iinc (v := nI (k + 1)) (lv' := [(10, .int (nI (k + 1))), (7, .int (nI (z + 1))), (6, .int (nI (lb + (1 + la)))), (9, .int (nI (j + 1))), (8, .ref q_68_15), (5, .int w1), (0, .ref g0), (1, .int (nI N1)), (2, .int (nI A2)), (3, .int (nI A3)), (4, .int (nI M1))]) hx hb dX5_others_132 hl (k := 1) rfl (nI_1 k) (by decide) rfl (fun ls hl => ?_)
                          refine lv_goto (tgt := 97) hx hb dX5_others_135 (by decide) ?_
                          have qk : k < N1 := (nI_ltI (by omega) (by omega)).mp (Int32.not_le.mp c_17)
                          have hbd := xbd k qk hN9 hA2 hA3
                          have hz : g k = 0 := (i4 k (Nat.le_refl k) qk).symm.trans c_18
                          have hle : k * A2 + A3 ≤ lb + (1 + la) := (xle0 (by omega) (by omega)).mp (Int32.not_lt.mp c_19)
                          have hlt : ¬ nI (lb + (1 + la)) < nI k * nI A2 + nI A3 := by rw [xlin, nI_ltI (by omega) (by omega)]; omega
                          have f3 : ∀ i, i < k + 1 → i < N1 → (upd g2 k 1) i = if nI (lb + (1 + la)) < nI i * nI A2 + nI A3 then 0 else 1 := by
                            intro i hi hn
                            rcases Nat.lt_or_ge i k with q | q
                            · exact (pk_un (by omega)).trans (i3 i q hn)
                            · obtain rfl : i = k := by omega
                              exact pk_us.trans (if_neg hlt).symm
                          have f5 : nI (z + 1) + xHt (nI (lb + (1 + la))) (nI A2) (nI A3) (k + 1) = xCt g (k + 1) := by
                            simp only [xHt, xCt]
                            rw [if_neg hlt, if_pos hz, ← i5, ← nI_1]; exact xadd_swap _ _ _
                          exact ih_97 (k + 1, z + 1, upd g2 k 1) _ _ _ ⟨lv_sub hl [0, 1, 2, 3, 4, 5, 6, 7, 8, 9, 10] rfl, hP.sub [0, 1, 2] rfl, hD.sub [0, 1, 2] (by decide) rfl, hS, by dsimp only; exact ⟨by omega, by omega, f3, fun i hi hn => (pk_un (by omega)).trans (i4 i (by omega) hn), f5, by omega⟩⟩
                · refine lv_aload_n hx hb dX5_others_50 rfl (lv_at hl 0 rfl) ?_
                  refine lv_bipush (v := -6) hx hb dX5_others_51 (by decide) ?_
                  have hPc := hP.sub (ws' := [(g0, .inr (5, [.ref ra, .ref wa, .ref ta, .int 0, .ref ma, .int 0, .ref pa, .int 0, .int 0, .int 0, .ref ba, .ref ka, .int 0, .ref fa, .ref qa, .ref ea, .ref za, .ref ya, .int 0])), (ra, .inl (cI, 7, .inl (fun _ => 0)))]) [0, 1] rfl
                  have hDc := hD.sub (ws' := [(g0, .inr (5, [.ref ra, .ref wa, .ref ta, .int 0, .ref ma, .int 0, .ref pa, .int 0, .int 0, .int 0, .ref ba, .ref ka, .int 0, .ref fa, .ref qa, .ref ea, .ref za, .ref ya, .int 0])), (ra, .inl (cI, 7, .inl (fun _ => 0)))]) [0, 1] (by decide) rfl
                  have hFc := va_free (wc := [(g0, .inr (5, [.ref ra, .ref wa, .ref ta, .int 0, .ref ma, .int 0, .ref pa, .int 0, .int 0, .int 0, .ref ba, .ref ka, .int 0, .ref fa, .ref qa, .ref ea, .ref za, .ref ya, .int 0])), (ra, .inl (cI, 7, .inl (fun _ => 0)))]) hD hS hA [0, 1] rfl
                  refine va_calli (va_runV (As := [.int (-6)]) (rest := []) ⟨hx, hb, hml, hown, hts⟩ (c_X5_no l D cI cL cZ cC _ g0 ra wa ta ma pa ba ka fa qa ea za ya (fun _ => 0) (-6) (by first | assumption | decide +kernel) (by first | assumption | decide +kernel)) (cwV 1 hts gX5_others_X5_no rfl rfl rfl (by decide +kernel) ⟨Nat.le_of_ble_eq_true rfl, Nat.le_of_ble_eq_true rfl⟩) ⟨wPc_bl, va_recv hK hPc (ci := 5) (q0 := 0) rfl rfl, wPc_use hPc hK hDc⟩ rfl rfl hl.1 rfl (lv_room (Nat.le_of_ble_eq_true rfl)) dX5_others_53 ⟨Nat.le_of_ble_eq_true rfl, Nat.le_of_ble_eq_true rfl⟩) hS (fun q _ h => hFc q h) hFc (fun r_20 u_20 t H1 locs ht hvm hw hB hz1 hk1 hS => ?_)
                  obtain ⟨hP1, hD1⟩ := hB
                  rw [ht] at hP1
                  obtain ⟨hP, hD⟩ := va_join (wr := []) (w1 := [(g0, .inr (5, [.ref ra, .ref wa, .ref ta, .int 0, .ref ma, .int 0, .ref pa, .int 0, .int 0, .int 0, .ref ba, .ref ka, .int 0, .ref fa, .ref qa, .ref ea, .ref za, .ref ya, .int 0])), (ra, .inl (cI, 7, .inl (xRf (fun _ => 0) (-6))))]) hP hD [0, 1] [] rfl rfl (by decide) (by decide) hk1 hFc hP1 hD1
                  generalize H1 = H at hP hS ⊢
                  have hP : va_P D vwCl [(g0, .inr (5, [.ref ra, .ref wa, .ref ta, .int 0, .ref ma, .int 0, .ref pa, .int 0, .int 0, .int 0, .ref ba, .ref ka, .int 0, .ref fa, .ref qa, .ref ea, .ref za, .ref ya, .int 0])), (ra, .inl (cI, 7, .inl (xRf (fun _ => 0) (-6))))] H := hP
                  have hD : va_D A [(g0, .inr (5, [.ref ra, .ref wa, .ref ta, .int 0, .ref ma, .int 0, .ref pa, .int 0, .int 0, .int 0, .ref ba, .ref ka, .int 0, .ref fa, .ref qa, .ref ea, .ref za, .ref ya, .int 0])), (ra, .inl (cI, 7, .inl (xRf (fun _ => 0) (-6))))] := hD
                  obtain rfl : ((-6) : Int32) = r_20 := Eq.symm hw
                  have hP9 := hP.sub (ws' := []) [] rfl
                  have hD9 := hD.sub (ws' := []) [] (by decide) rfl
                  refine W.widen (k := 1) (n := 9) (Nat.le_of_ble_eq_true rfl) (Nat.le_of_ble_eq_true rfl) ?_
                  exact W.iret (v := -6) hx hb hr (fun t ht hW => ⟨⟨_, (), rfl, by simp [sOth, c_1, c_3, c_5, (Int32.not_lt.mpr c_7), c_8, c_10, c_12, (Int32.not_le.mp c_14)], by rw [ht]; exact hP9, hD9⟩, hS.F ht⟩) hS.2.2 dX5_others_56
        · refine lv_aload_n hx hb dX5_others_18 rfl (lv_at hl 0 rfl) ?_
          refine lv_bipush (v := -4) hx hb dX5_others_19 (by decide) ?_
          have hPc := hP.sub (ws' := [(g0, .inr (5, [.ref ra, .ref wa, .ref ta, .int 0, .ref ma, .int 0, .ref pa, .int 0, .int 0, .int 0, .ref ba, .ref ka, .int 0, .ref fa, .ref qa, .ref ea, .ref za, .ref ya, .int 0])), (ra, .inl (cI, 7, .inl (fun _ => 0)))]) [0, 1] rfl
          have hDc := hD.sub (ws' := [(g0, .inr (5, [.ref ra, .ref wa, .ref ta, .int 0, .ref ma, .int 0, .ref pa, .int 0, .int 0, .int 0, .ref ba, .ref ka, .int 0, .ref fa, .ref qa, .ref ea, .ref za, .ref ya, .int 0])), (ra, .inl (cI, 7, .inl (fun _ => 0)))]) [0, 1] (by decide) rfl
          have hFc := va_free (wc := [(g0, .inr (5, [.ref ra, .ref wa, .ref ta, .int 0, .ref ma, .int 0, .ref pa, .int 0, .int 0, .int 0, .ref ba, .ref ka, .int 0, .ref fa, .ref qa, .ref ea, .ref za, .ref ya, .int 0])), (ra, .inl (cI, 7, .inl (fun _ => 0)))]) hD hS hA [0, 1] rfl
          refine va_calli (va_runV (As := [.int (-4)]) (rest := []) ⟨hx, hb, hml, hown, hts⟩ (c_X5_no l D cI cL cZ cC _ g0 ra wa ta ma pa ba ka fa qa ea za ya (fun _ => 0) (-4) (by first | assumption | decide +kernel) (by first | assumption | decide +kernel)) (cwV 1 hts gX5_others_X5_no rfl rfl rfl (by decide +kernel) ⟨Nat.le_of_ble_eq_true rfl, Nat.le_of_ble_eq_true rfl⟩) ⟨wPc_bl, va_recv hK hPc (ci := 5) (q0 := 0) rfl rfl, wPc_use hPc hK hDc⟩ rfl rfl hl.1 rfl (lv_room (Nat.le_of_ble_eq_true rfl)) dX5_others_21 ⟨Nat.le_of_ble_eq_true rfl, Nat.le_of_ble_eq_true rfl⟩) hS (fun q _ h => hFc q h) hFc (fun r_21 u_21 t H1 locs ht hvm hw hB hz1 hk1 hS => ?_)
          obtain ⟨hP1, hD1⟩ := hB
          rw [ht] at hP1
          obtain ⟨hP, hD⟩ := va_join (wr := []) (w1 := [(g0, .inr (5, [.ref ra, .ref wa, .ref ta, .int 0, .ref ma, .int 0, .ref pa, .int 0, .int 0, .int 0, .ref ba, .ref ka, .int 0, .ref fa, .ref qa, .ref ea, .ref za, .ref ya, .int 0])), (ra, .inl (cI, 7, .inl (xRf (fun _ => 0) (-4))))]) hP hD [0, 1] [] rfl rfl (by decide) (by decide) hk1 hFc hP1 hD1
          generalize H1 = H at hP hS ⊢
          have hP : va_P D vwCl [(g0, .inr (5, [.ref ra, .ref wa, .ref ta, .int 0, .ref ma, .int 0, .ref pa, .int 0, .int 0, .int 0, .ref ba, .ref ka, .int 0, .ref fa, .ref qa, .ref ea, .ref za, .ref ya, .int 0])), (ra, .inl (cI, 7, .inl (xRf (fun _ => 0) (-4))))] H := hP
          have hD : va_D A [(g0, .inr (5, [.ref ra, .ref wa, .ref ta, .int 0, .ref ma, .int 0, .ref pa, .int 0, .int 0, .int 0, .ref ba, .ref ka, .int 0, .ref fa, .ref qa, .ref ea, .ref za, .ref ya, .int 0])), (ra, .inl (cI, 7, .inl (xRf (fun _ => 0) (-4))))] := hD
          obtain rfl : ((-4) : Int32) = r_21 := Eq.symm hw
          have hP9 := hP.sub (ws' := []) [] rfl
          have hD9 := hD.sub (ws' := []) [] (by decide) rfl
          refine W.widen (k := 1) (n := 9) (Nat.le_of_ble_eq_true rfl) (Nat.le_of_ble_eq_true rfl) ?_
          exact W.iret (v := -4) hx hb hr (fun t ht hW => ⟨⟨_, (), rfl, by simp [sOth, c_1, c_3, c_5, (Int32.not_le.mp c_7)], by rw [ht]; exact hP9, hD9⟩, hS.F ht⟩) hS.2.2 dX5_others_24
