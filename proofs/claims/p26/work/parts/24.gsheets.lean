theorem bn_cX6_bitsOf_0 : BN cX6_bitsOf 0 0x15a0402805502f0e02802b515834029a0d005721c := by
  unfold BN; decide +kernel
theorem dX6_bitsOf_0 : decode cX6_bitsOf 0 = .ok (.iload_n 1, 1) := dR0 (k := 0) (i := 0) bn_cX6_bitsOf_0 dop_27 (by decide +kernel)
theorem dX6_bitsOf_1 : decode cX6_bitsOf 1 = .ok (.invokestatic 25, 3) := dR2 (f := Instr.invokestatic) (k := 0) (i := 1) bn_cX6_bitsOf_0 dop_184 25 (by decide +kernel)
theorem dX6_bitsOf_4 : decode cX6_bitsOf 4 = .ok (.ifCond .eq 12, 3) := dR2s (f := Instr.ifCond .eq) (k := 0) (i := 4) bn_cX6_bitsOf_0 dop_153 12 12 (by decide +kernel)
theorem dX6_bitsOf_7 : decode cX6_bitsOf 7 = .ok (.aload_n 0, 1) := dR0 (k := 0) (i := 7) bn_cX6_bitsOf_0 dop_42 (by decide +kernel)
theorem dX6_bitsOf_8 : decode cX6_bitsOf 8 = .ok (.getfield 9, 3) := dR2 (f := Instr.getfield) (k := 0) (i := 8) bn_cX6_bitsOf_0 dop_180 9 (by decide +kernel)
theorem dX6_bitsOf_11 : decode cX6_bitsOf 11 = .ok (.iload_n 1, 1) := dR0 (k := 0) (i := 11) bn_cX6_bitsOf_0 dop_27 (by decide +kernel)
theorem dX6_bitsOf_12 : decode cX6_bitsOf 12 = .ok (.iaload, 1) := dR0 (k := 0) (i := 12) bn_cX6_bitsOf_0 dop_46 (by decide +kernel)
theorem dX6_bitsOf_13 : decode cX6_bitsOf 13 = .ok (.goto 4, 3) := dR2s (f := Instr.goto) (k := 0) (i := 13) bn_cX6_bitsOf_0 dop_167 4 4 (by decide +kernel)
theorem dX6_bitsOf_16 : decode cX6_bitsOf 16 = .ok (.iconst 0, 1) := dR0 (k := 0) (i := 16) bn_cX6_bitsOf_0 dop_3 (by decide +kernel)
theorem dX6_bitsOf_17 : decode cX6_bitsOf 17 = .ok (.ireturn, 1) := dR0 (k := 0) (i := 17) bn_cX6_bitsOf_0 dop_172 (by decide +kernel)
set_option maxHeartbeats 4000000 in
set_option maxRecDepth 100000 in
theorem c_X6_bitsOfG (l : Launch) (D : va_G) (cI : ClassId) (aK aV : Nat → Nat) (k k0 k1 k2 : Nat) (sz : Nat) (c0 : Nat → Int32) (a0 : Int32) : Met l yX6_bitsOf (gW yX6_bitsOf cX6_bitsOf 2 (some .int)) ({ frames := 1, cells := 0, slots := 0, locals := 20 } : Room) (kPreX D cI aK aV [.ref k, .int a0] [(k, .inr (6, [.ref k0, .ref k1, .ref k2])), (k0, .inl (cI, 4, .inl c0))] sz) (va_Qi (fun (r : Int32) (u : Unit) => (0 ≤ a0.toInt ∧ a0.toInt ≤ 3 ∧ r.toInt = (c0 a0.toNatClampNeg).toInt) ∨ (r = 0 ∧ (a0.toInt < 0 ∨ 3 < a0.toInt))) (fun u t => kWd D cI (va_A [(k, .inr (6, [.ref k0, .ref k1, .ref k2])), (k0, .inl (cI, 4, .inl c0))] sz) [(k, .inr (6, [.ref k0, .ref k1, .ref k2])), (k0, .inl (cI, 4, .inl c0))] t) (va_A [(k, .inr (6, [.ref k0, .ref k1, .ref k2])), (k0, .inl (cI, 4, .inl c0))] sz)) 0 0 (va_A [(k, .inr (6, [.ref k0, .ref k1, .ref k2])), (k0, .inl (cI, 4, .inl c0))] sz) := by
  refine kMetIX (own := RX6) (by decide +kernel) rfl (Nat.le_of_ble_eq_true rfl) ?_
  intro p e s m args below meth c hx hb hT hown hname hml A Q hK hP hD hS hA hN hXS hRet ls hl
  have hl : lv_has ls 2 [(0, .ref k), (1, .int a0)] := hl
  have lo_a0 := k_lo a0
  have hi_a0 := k_hi a0
  refine lv_iload_n hx hb dX6_bitsOf_0 rfl (lv_at hl 1 rfl) ?_
  refine kJi (wr := [(k, .inr (6, [.ref k0, .ref k1, .ref k2])), (k0, .inl (cI, 4, .inl c0))]) (va_runSN (As := [.int a0]) (rest := []) ⟨hx, hb, hml, hown, hT⟩ (c_X10_isSheetG l D cI aK aV s.heap.size a0) ⟨va_cnB 1 hT (gW_in mw_662) rfl rfl rfl (hN _ mw_671) (hT _ mw_1) (by decide +kernel) ⟨Nat.le_of_ble_eq_true rfl, Nat.le_of_ble_eq_true rfl⟩, hT _ mw_661, trivial⟩ (kStatX hK hP hD hN hXS hS hA [] rfl (by decide +kernel)) rfl rfl hl.1 rfl (lv_room (Nat.le_of_ble_eq_true rfl)) dX6_bitsOf_1 ⟨Nat.le_of_ble_eq_true rfl, Nat.le_of_ble_eq_true rfl⟩) hP hD hS hA [] [0, 1] rfl rfl (by decide +kernel) (by decide +kernel) ?_
  clear hP hD hS
  intro r_1 u_3 H locs w_2 hP hD hS
  replace hP : va_P D vwCl [(k, .inr (6, [.ref k0, .ref k1, .ref k2])), (k0, .inl (cI, 4, .inl c0))] H := hP
  replace hD : va_D A [(k, .inr (6, [.ref k0, .ref k1, .ref k2])), (k0, .inl (cI, 4, .inl c0))] := hD
  rcases w_2 with ⟨hr_1, h_4, h_5⟩ | ⟨hr_1, h_6⟩
  · have h_4 : 0 ≤ a0.toInt := h_4
    have h_5 : a0.toInt ≤ 3 := h_5
    obtain rfl : r_1 = 1 := hr_1.trans (by decide +kernel)
    refine b_if_eq hx hb zl_1 (tgt := 16) dX6_bitsOf_4 (by decide +kernel) (fun c_7 => by exfalso; omega) (fun c_7 => ?_)
    refine lv_aload_n hx hb dX6_bitsOf_7 rfl (lv_at hl 0 rfl) ?_
    refine va_get (D := D) (ci := 6) (v := .ref k0) (C := RX6) (T := TX6) (N := 3) hx hb hT giX6 hown hK hP 0 rfl rfl 0 (by decide +kernel) (hT (Cond.fieldLink RX6 9 "DesertWire$Sheets" "bits" "[I") mw_281) (fun _ h9 => h9) rfl dX6_bitsOf_8 ?_
    refine lv_iload_n hx hb dX6_bitsOf_11 rfl (lv_at hl 1 rfl) ?_
    refine k_iald (v := (c0 a0.toNatClampNeg)) hx hb hK hP 1 0 rfl rfl (k_in (by omega) (by omega)) rfl dX6_bitsOf_12 ?_
    refine lv_topi (fun v_8 ev_8 => ?_)
    have lo_v_8 := k_lo v_8
    have hi_v_8 := k_hi v_8
    have tv_8 : v_8.toInt = (c0 a0.toNatClampNeg).toInt := by rw [ev_8]
    refine lv_goto (tgt := 17) hx hb dX6_bitsOf_13 (by decide +kernel) ?_
    exact hRet () [0, 1] (by first | exact Or.inl ⟨(by omega), (by omega), (by omega)⟩ | exact Or.inr (⟨ev_8, (by omega)⟩)) hP hD (by decide +kernel) rfl hS rfl dX6_bitsOf_17
  · have h_6 : a0.toInt < 0 ∨ 3 < a0.toInt := h_6
    obtain rfl : r_1 = 0 := hr_1.trans (by decide +kernel)
    refine b_if_eq hx hb zl_0 (tgt := 16) dX6_bitsOf_4 (by decide +kernel) (fun c_9 => ?_) (fun c_9 => by exfalso; omega)
    refine lv_iconst (v := 0) hx hb dX6_bitsOf_16 (by decide +kernel) ?_
    exact hRet () [0, 1] (by first | exact Or.inl ⟨(by omega), (by omega), (by first | omega | (simp only [zl_0]; first | done | omega))⟩ | exact Or.inr (⟨rfl, (by omega)⟩)) hP hD (by decide +kernel) rfl hS rfl dX6_bitsOf_17
theorem bn_cX6_isMissing_0 : BN cX6_isMissing 0 0x15a0402805500504005361600adc382b := by
  unfold BN; decide +kernel
theorem dX6_isMissing_0 : decode cX6_isMissing 0 = .ok (.aload_n 0, 1) := dR0 (k := 0) (i := 0) bn_cX6_isMissing_0 dop_42 (by decide +kernel)
theorem dX6_isMissing_1 : decode cX6_isMissing 1 = .ok (.iload_n 1, 1) := dR0 (k := 0) (i := 1) bn_cX6_isMissing_0 dop_27 (by decide +kernel)
theorem dX6_isMissing_2 : decode cX6_isMissing 2 = .ok (.invokevirtual 21, 3) := dR2 (f := Instr.invokevirtual) (k := 0) (i := 2) bn_cX6_isMissing_0 dop_182 21 (by decide +kernel)
theorem dX6_isMissing_5 : decode cX6_isMissing 5 = .ok (.ifCond .ne 7, 3) := dR2s (f := Instr.ifCond .ne) (k := 0) (i := 5) bn_cX6_isMissing_0 dop_154 7 7 (by decide +kernel)
theorem dX6_isMissing_8 : decode cX6_isMissing 8 = .ok (.iconst 1, 1) := dR0 (k := 0) (i := 8) bn_cX6_isMissing_0 dop_4 (by decide +kernel)
theorem dX6_isMissing_9 : decode cX6_isMissing 9 = .ok (.goto 4, 3) := dR2s (f := Instr.goto) (k := 0) (i := 9) bn_cX6_isMissing_0 dop_167 4 4 (by decide +kernel)
theorem dX6_isMissing_12 : decode cX6_isMissing 12 = .ok (.iconst 0, 1) := dR0 (k := 0) (i := 12) bn_cX6_isMissing_0 dop_3 (by decide +kernel)
theorem dX6_isMissing_13 : decode cX6_isMissing 13 = .ok (.ireturn, 1) := dR0 (k := 0) (i := 13) bn_cX6_isMissing_0 dop_172 (by decide +kernel)
set_option maxHeartbeats 4000000 in
set_option maxRecDepth 100000 in
theorem c_X6_isMissingG (l : Launch) (D : va_G) (cI : ClassId) (aK aV : Nat → Nat) (k k0 k1 k2 : Nat) (sz : Nat) (c0 : Nat → Int32) (a0 : Int32) : Met l yX6_isMissing (gW yX6_isMissing cX6_isMissing 2 (some .boolean)) ({ frames := 2, cells := 0, slots := 0, locals := 41 } : Room) (kPreX D cI aK aV [.ref k, .int a0] [(k, .inr (6, [.ref k0, .ref k1, .ref k2])), (k0, .inl (cI, 4, .inl c0))] sz) (va_Qi (fun (r : Int32) (u : Unit) => (r = 1 ∧ 0 ≤ a0.toInt ∧ a0.toInt ≤ 3 ∧ (c0 a0.toNatClampNeg).toInt = 0) ∨ (r = 0 ∧ 0 ≤ a0.toInt ∧ a0.toInt ≤ 3 ∧ (c0 a0.toNatClampNeg).toInt ≠ 0) ∨ (r = 1 ∧ (a0.toInt < 0 ∨ 3 < a0.toInt))) (fun u t => kWd D cI (va_A [(k, .inr (6, [.ref k0, .ref k1, .ref k2])), (k0, .inl (cI, 4, .inl c0))] sz) [(k, .inr (6, [.ref k0, .ref k1, .ref k2])), (k0, .inl (cI, 4, .inl c0))] t) (va_A [(k, .inr (6, [.ref k0, .ref k1, .ref k2])), (k0, .inl (cI, 4, .inl c0))] sz)) 0 0 (va_A [(k, .inr (6, [.ref k0, .ref k1, .ref k2])), (k0, .inl (cI, 4, .inl c0))] sz) := by
  refine kMetIX (own := RX6) (by decide +kernel) rfl (Nat.le_of_ble_eq_true rfl) ?_
  intro p e s m args below meth c hx hb hT hown hname hml A Q hK hP hD hS hA hN hXS hRet ls hl
  have hl : lv_has ls 2 [(0, .ref k), (1, .int a0)] := hl
  have lo_a0 := k_lo a0
  have hi_a0 := k_hi a0
  refine lv_aload_n hx hb dX6_isMissing_0 rfl (lv_at hl 0 rfl) ?_
  refine lv_iload_n hx hb dX6_isMissing_1 rfl (lv_at hl 1 rfl) ?_
  refine kJi (wr := []) (va_runV (As := [.int a0]) (rest := []) ⟨hx, hb, hml, hown, hT⟩ (c_X6_bitsOfG l D cI aK aV k k0 k1 k2 s.heap.size c0 a0) (cwV 1 hT (gV_in mw_670 mw_667 mw_668 mw_669 mw_11) rfl rfl rfl (by decide +kernel) ⟨Nat.le_of_ble_eq_true rfl, Nat.le_of_ble_eq_true rfl⟩) (kRecvX (q0 := 0) (ci := 6) hK hP hD hN hXS hS hA rfl rfl [0, 1] rfl (by decide +kernel)) rfl rfl hl.1 rfl (lv_room (Nat.le_of_ble_eq_true rfl)) dX6_isMissing_2 ⟨Nat.le_of_ble_eq_true rfl, Nat.le_of_ble_eq_true rfl⟩) hP hD hS hA [0, 1] [] rfl rfl (by decide +kernel) (by decide +kernel) ?_
  clear hP hD hS
  intro r_1 u_3 H locs w_2 hP hD hS
  replace hP : va_P D vwCl [(k, .inr (6, [.ref k0, .ref k1, .ref k2])), (k0, .inl (cI, 4, .inl c0))] H := hP
  replace hD : va_D A [(k, .inr (6, [.ref k0, .ref k1, .ref k2])), (k0, .inl (cI, 4, .inl c0))] := hD
  rcases w_2 with ⟨h_4, h_5, h_6⟩ | ⟨hr_1, h_7⟩
  · have h_4 : 0 ≤ a0.toInt := h_4
    have h_5 : a0.toInt ≤ 3 := h_5
    have h_6 : r_1.toInt = (c0 a0.toNatClampNeg).toInt := h_6
    have lo_r_1 := k_lo r_1
    have hi_r_1 := k_hi r_1
    refine b_if_ne hx hb rfl (tgt := 12) dX6_isMissing_5 (by decide +kernel) (fun c_8 => ?_) (fun c_8 => ?_)
    · refine lv_iconst (v := 0) hx hb dX6_isMissing_12 (by decide +kernel) ?_
      exact hRet () [0, 1] (Or.inr (Or.inl ⟨rfl, (by omega), (by omega), (by omega)⟩)) hP hD (by decide +kernel) rfl hS rfl dX6_isMissing_13
    · refine lv_iconst (v := 1) hx hb dX6_isMissing_8 (by decide +kernel) ?_
      refine lv_goto (tgt := 13) hx hb dX6_isMissing_9 (by decide +kernel) ?_
      exact hRet () [0, 1] (by first | exact Or.inl ⟨rfl, (by omega), (by omega), (by omega)⟩ | exact Or.inr (Or.inr (⟨rfl, (by omega)⟩))) hP hD (by decide +kernel) rfl hS rfl dX6_isMissing_13
  · have h_7 : a0.toInt < 0 ∨ 3 < a0.toInt := h_7
    obtain rfl : r_1 = 0 := hr_1.trans (by decide +kernel)
    refine b_if_ne hx hb zl_0 (tgt := 12) dX6_isMissing_5 (by decide +kernel) (fun c_9 => by exfalso; omega) (fun c_9 => ?_)
    refine lv_iconst (v := 1) hx hb dX6_isMissing_8 (by decide +kernel) ?_
    refine lv_goto (tgt := 13) hx hb dX6_isMissing_9 (by decide +kernel) ?_
    exact hRet () [0, 1] (by first | exact Or.inl ⟨rfl, (by omega), (by omega), (by omega)⟩ | exact Or.inr (Or.inr (⟨rfl, (by omega)⟩))) hP hD (by decide +kernel) rfl hS rfl dX6_isMissing_13
theorem bn_cX6_lengthOf_0 : BN cX6_lengthOf 0 0x15a0402805502f0e04002b515834029a0d005721c := by
  unfold BN; decide +kernel
theorem dX6_lengthOf_0 : decode cX6_lengthOf 0 = .ok (.iload_n 1, 1) := dR0 (k := 0) (i := 0) bn_cX6_lengthOf_0 dop_27 (by decide +kernel)
theorem dX6_lengthOf_1 : decode cX6_lengthOf 1 = .ok (.invokestatic 25, 3) := dR2 (f := Instr.invokestatic) (k := 0) (i := 1) bn_cX6_lengthOf_0 dop_184 25 (by decide +kernel)
theorem dX6_lengthOf_4 : decode cX6_lengthOf 4 = .ok (.ifCond .eq 12, 3) := dR2s (f := Instr.ifCond .eq) (k := 0) (i := 4) bn_cX6_lengthOf_0 dop_153 12 12 (by decide +kernel)
theorem dX6_lengthOf_7 : decode cX6_lengthOf 7 = .ok (.aload_n 0, 1) := dR0 (k := 0) (i := 7) bn_cX6_lengthOf_0 dop_42 (by decide +kernel)
theorem dX6_lengthOf_8 : decode cX6_lengthOf 8 = .ok (.getfield 15, 3) := dR2 (f := Instr.getfield) (k := 0) (i := 8) bn_cX6_lengthOf_0 dop_180 15 (by decide +kernel)
theorem dX6_lengthOf_11 : decode cX6_lengthOf 11 = .ok (.iload_n 1, 1) := dR0 (k := 0) (i := 11) bn_cX6_lengthOf_0 dop_27 (by decide +kernel)
theorem dX6_lengthOf_12 : decode cX6_lengthOf 12 = .ok (.iaload, 1) := dR0 (k := 0) (i := 12) bn_cX6_lengthOf_0 dop_46 (by decide +kernel)
theorem dX6_lengthOf_13 : decode cX6_lengthOf 13 = .ok (.goto 4, 3) := dR2s (f := Instr.goto) (k := 0) (i := 13) bn_cX6_lengthOf_0 dop_167 4 4 (by decide +kernel)
theorem dX6_lengthOf_16 : decode cX6_lengthOf 16 = .ok (.iconst 0, 1) := dR0 (k := 0) (i := 16) bn_cX6_lengthOf_0 dop_3 (by decide +kernel)
theorem dX6_lengthOf_17 : decode cX6_lengthOf 17 = .ok (.ireturn, 1) := dR0 (k := 0) (i := 17) bn_cX6_lengthOf_0 dop_172 (by decide +kernel)
set_option maxHeartbeats 4000000 in
set_option maxRecDepth 100000 in
theorem c_X6_lengthOfG (l : Launch) (D : va_G) (cI : ClassId) (aK aV : Nat → Nat) (k k0 k1 k2 : Nat) (sz : Nat) (c1 : Nat → Int32) (a0 : Int32) (pre0 : ∀ k : Nat, k < 4 → 0 ≤ (c1 k).toInt ∧ (c1 k).toInt ≤ 36) : Met l yX6_lengthOf (gW yX6_lengthOf cX6_lengthOf 2 (some .int)) ({ frames := 1, cells := 0, slots := 0, locals := 20 } : Room) (kPreX D cI aK aV [.ref k, .int a0] [(k, .inr (6, [.ref k0, .ref k1, .ref k2])), (k1, .inl (cI, 4, .inl c1))] sz) (va_Qi (fun (r : Int32) (u : Unit) => (0 ≤ a0.toInt ∧ a0.toInt ≤ 3 ∧ 0 ≤ r.toInt ∧ r.toInt ≤ 36 ∧ r.toInt = (c1 a0.toNatClampNeg).toInt) ∨ (r = 0 ∧ (a0.toInt < 0 ∨ 3 < a0.toInt))) (fun u t => kWd D cI (va_A [(k, .inr (6, [.ref k0, .ref k1, .ref k2])), (k1, .inl (cI, 4, .inl c1))] sz) [(k, .inr (6, [.ref k0, .ref k1, .ref k2])), (k1, .inl (cI, 4, .inl c1))] t) (va_A [(k, .inr (6, [.ref k0, .ref k1, .ref k2])), (k1, .inl (cI, 4, .inl c1))] sz)) 0 0 (va_A [(k, .inr (6, [.ref k0, .ref k1, .ref k2])), (k1, .inl (cI, 4, .inl c1))] sz) := by
  refine kMetIX (own := RX6) (by decide +kernel) rfl (Nat.le_of_ble_eq_true rfl) ?_
  intro p e s m args below meth c hx hb hT hown hname hml A Q hK hP hD hS hA hN hXS hRet ls hl
  have hl : lv_has ls 2 [(0, .ref k), (1, .int a0)] := hl
  have lo_a0 := k_lo a0
  have hi_a0 := k_hi a0
  refine lv_iload_n hx hb dX6_lengthOf_0 rfl (lv_at hl 1 rfl) ?_
  refine kJi (wr := [(k, .inr (6, [.ref k0, .ref k1, .ref k2])), (k1, .inl (cI, 4, .inl c1))]) (va_runSN (As := [.int a0]) (rest := []) ⟨hx, hb, hml, hown, hT⟩ (c_X10_isSheetG l D cI aK aV s.heap.size a0) ⟨va_cnB 1 hT (gW_in mw_662) rfl rfl rfl (hN _ mw_671) (hT _ mw_1) (by decide +kernel) ⟨Nat.le_of_ble_eq_true rfl, Nat.le_of_ble_eq_true rfl⟩, hT _ mw_661, trivial⟩ (kStatX hK hP hD hN hXS hS hA [] rfl (by decide +kernel)) rfl rfl hl.1 rfl (lv_room (Nat.le_of_ble_eq_true rfl)) dX6_lengthOf_1 ⟨Nat.le_of_ble_eq_true rfl, Nat.le_of_ble_eq_true rfl⟩) hP hD hS hA [] [0, 1] rfl rfl (by decide +kernel) (by decide +kernel) ?_
  clear hP hD hS
  intro r_1 u_3 H locs w_2 hP hD hS
  replace hP : va_P D vwCl [(k, .inr (6, [.ref k0, .ref k1, .ref k2])), (k1, .inl (cI, 4, .inl c1))] H := hP
  replace hD : va_D A [(k, .inr (6, [.ref k0, .ref k1, .ref k2])), (k1, .inl (cI, 4, .inl c1))] := hD
  rcases w_2 with ⟨hr_1, h_4, h_5⟩ | ⟨hr_1, h_6⟩
  · have h_4 : 0 ≤ a0.toInt := h_4
    have h_5 : a0.toInt ≤ 3 := h_5
    obtain rfl : r_1 = 1 := hr_1.trans (by decide +kernel)
    refine b_if_eq hx hb zl_1 (tgt := 16) dX6_lengthOf_4 (by decide +kernel) (fun c_7 => by exfalso; omega) (fun c_7 => ?_)
    refine lv_aload_n hx hb dX6_lengthOf_7 rfl (lv_at hl 0 rfl) ?_
    refine va_get (D := D) (ci := 6) (v := .ref k1) (C := RX6) (T := TX6) (N := 3) hx hb hT giX6 hown hK hP 0 rfl rfl 1 (by decide +kernel) (hT (Cond.fieldLink RX6 15 "DesertWire$Sheets" "lengths" "[I") mw_282) (fun _ h9 => h9) rfl dX6_lengthOf_8 ?_
    refine lv_iload_n hx hb dX6_lengthOf_11 rfl (lv_at hl 1 rfl) ?_
    refine k_iald (v := (c1 a0.toNatClampNeg)) hx hb hK hP 1 0 rfl rfl (k_in (by omega) (by omega)) rfl dX6_lengthOf_12 ?_
    refine lv_topi (fun v_8 ev_8 => ?_)
    have lo_v_8 := k_lo v_8
    have hi_v_8 := k_hi v_8
    have tv_8 : v_8.toInt = (c1 a0.toNatClampNeg).toInt := by rw [ev_8]
    refine lv_goto (tgt := 17) hx hb dX6_lengthOf_13 (by decide +kernel) ?_
    exact hRet () [0, 1] (by first | exact Or.inl ⟨(by omega), (by omega), (by rw [ev_8]; exact (pre0 a0.toNatClampNeg (by rw [k_clamp]; omega)).1), (by rw [ev_8]; exact (pre0 a0.toNatClampNeg (by rw [k_clamp]; omega)).2), (by omega)⟩ | exact Or.inr (⟨ev_8, (by omega)⟩)) hP hD (by decide +kernel) rfl hS rfl dX6_lengthOf_17
  · have h_6 : a0.toInt < 0 ∨ 3 < a0.toInt := h_6
    obtain rfl : r_1 = 0 := hr_1.trans (by decide +kernel)
    refine b_if_eq hx hb zl_0 (tgt := 16) dX6_lengthOf_4 (by decide +kernel) (fun c_9 => ?_) (fun c_9 => by exfalso; omega)
    refine lv_iconst (v := 0) hx hb dX6_lengthOf_16 (by decide +kernel) ?_
    exact hRet () [0, 1] (by first | exact Or.inl ⟨(by omega), (by omega), (by omega), (by omega), (by first | omega | (simp only [zl_0]; first | done | omega))⟩ | exact Or.inr (⟨rfl, (by omega)⟩)) hP hD (by decide +kernel) rfl hS rfl dX6_lengthOf_17
theorem bn_cX6_holds_0 : BN cX6_holds 0 0xad0201402a80282002a30f0056e1c15874220151894221d0b805381d := by
  unfold BN; decide +kernel
theorem dX6_holds_0 : decode cX6_holds 0 = .ok (.iload_n 2, 1) := dR0 (k := 0) (i := 0) bn_cX6_holds_0 dop_28 (by decide +kernel)
theorem dX6_holds_1 : decode cX6_holds 1 = .ok (.ifCond .lt 22, 3) := dR2s (f := Instr.ifCond .lt) (k := 0) (i := 1) bn_cX6_holds_0 dop_155 22 22 (by decide +kernel)
theorem dX6_holds_4 : decode cX6_holds 4 = .ok (.iload_n 2, 1) := dR0 (k := 0) (i := 4) bn_cX6_holds_0 dop_28 (by decide +kernel)
theorem dX6_holds_5 : decode cX6_holds 5 = .ok (.bipush 36, 2) := dR1s (f := Instr.bipush) (k := 0) (i := 5) bn_cX6_holds_0 dop_16 36 36 (by decide +kernel)
theorem dX6_holds_7 : decode cX6_holds 7 = .ok (.if_icmp .ge 16, 3) := dR2s (f := Instr.if_icmp .ge) (k := 0) (i := 7) bn_cX6_holds_0 dop_162 16 16 (by decide +kernel)
theorem dX6_holds_10 : decode cX6_holds 10 = .ok (.iload_n 2, 1) := dR0 (k := 0) (i := 10) bn_cX6_holds_0 dop_28 (by decide +kernel)
theorem dX6_holds_11 : decode cX6_holds 11 = .ok (.aload_n 0, 1) := dR0 (k := 0) (i := 11) bn_cX6_holds_0 dop_42 (by decide +kernel)
theorem dX6_holds_12 : decode cX6_holds 12 = .ok (.iload_n 1, 1) := dR0 (k := 0) (i := 12) bn_cX6_holds_0 dop_27 (by decide +kernel)
theorem dX6_holds_13 : decode cX6_holds 13 = .ok (.invokevirtual 29, 3) := dR2 (f := Instr.invokevirtual) (k := 0) (i := 13) bn_cX6_holds_0 dop_182 29 (by decide +kernel)
theorem dX6_holds_16 : decode cX6_holds 16 = .ok (.if_icmp .ge 7, 3) := dR2s (f := Instr.if_icmp .ge) (k := 0) (i := 16) bn_cX6_holds_0 dop_162 7 7 (by decide +kernel)
theorem dX6_holds_19 : decode cX6_holds 19 = .ok (.iconst 1, 1) := dR0 (k := 0) (i := 19) bn_cX6_holds_0 dop_4 (by decide +kernel)
theorem dX6_holds_20 : decode cX6_holds 20 = .ok (.goto 4, 3) := dR2s (f := Instr.goto) (k := 0) (i := 20) bn_cX6_holds_0 dop_167 4 4 (by decide +kernel)
theorem dX6_holds_23 : decode cX6_holds 23 = .ok (.iconst 0, 1) := dR0 (k := 0) (i := 23) bn_cX6_holds_0 dop_3 (by decide +kernel)
theorem dX6_holds_24 : decode cX6_holds 24 = .ok (.ireturn, 1) := dR0 (k := 0) (i := 24) bn_cX6_holds_0 dop_172 (by decide +kernel)
set_option maxHeartbeats 4000000 in
set_option maxRecDepth 100000 in
theorem c_X6_holdsG (l : Launch) (D : va_G) (cI : ClassId) (aK aV : Nat → Nat) (k k0 k1 k2 : Nat) (sz : Nat) (c1 : Nat → Int32) (a0 : Int32) (a1 : Int32) (pre0 : ∀ k : Nat, k < 4 → 0 ≤ (c1 k).toInt ∧ (c1 k).toInt ≤ 36) : Met l yX6_holds (gW yX6_holds cX6_holds 3 (some .boolean)) ({ frames := 2, cells := 0, slots := 0, locals := 41 } : Room) (kPreX D cI aK aV [.ref k, .int a0, .int a1] [(k, .inr (6, [.ref k0, .ref k1, .ref k2])), (k1, .inl (cI, 4, .inl c1))] sz) (va_Qi (fun (r : Int32) (u : Unit) => (r = 1 ∧ 0 ≤ a0.toInt ∧ a0.toInt ≤ 3 ∧ 0 ≤ a1.toInt ∧ a1.toInt ≤ 35 ∧ a1.toInt < (c1 a0.toNatClampNeg).toInt) ∨ (r = 0 ∧ (a0.toInt < 0 ∨ 3 < a0.toInt ∨ a1.toInt < 0 ∨ 35 < a1.toInt ∨ (c1 a0.toNatClampNeg).toInt ≤ a1.toInt))) (fun u t => kWd D cI (va_A [(k, .inr (6, [.ref k0, .ref k1, .ref k2])), (k1, .inl (cI, 4, .inl c1))] sz) [(k, .inr (6, [.ref k0, .ref k1, .ref k2])), (k1, .inl (cI, 4, .inl c1))] t) (va_A [(k, .inr (6, [.ref k0, .ref k1, .ref k2])), (k1, .inl (cI, 4, .inl c1))] sz)) 0 0 (va_A [(k, .inr (6, [.ref k0, .ref k1, .ref k2])), (k1, .inl (cI, 4, .inl c1))] sz) := by
  refine kMetIX (own := RX6) (by decide +kernel) rfl (Nat.le_of_ble_eq_true rfl) ?_
  intro p e s m args below meth c hx hb hT hown hname hml A Q hK hP hD hS hA hN hXS hRet ls hl
  have hl : lv_has ls 3 [(0, .ref k), (1, .int a0), (2, .int a1)] := hl
  have lo_a0 := k_lo a0
  have hi_a0 := k_hi a0
  have lo_a1 := k_lo a1
  have hi_a1 := k_hi a1
  refine lv_iload_n hx hb dX6_holds_0 rfl (lv_at hl 2 rfl) ?_
  refine b_if_lt hx hb rfl (tgt := 23) dX6_holds_1 (by decide +kernel) (fun c_1 => ?_) (fun c_1 => ?_)
  · refine lv_iconst (v := 0) hx hb dX6_holds_23 (by decide +kernel) ?_
    exact hRet () [0, 1] (Or.inr (⟨rfl, (by omega)⟩)) hP hD (by decide +kernel) rfl hS rfl dX6_holds_24
  · refine lv_iload_n hx hb dX6_holds_4 rfl (lv_at hl 2 rfl) ?_
    refine lv_bipush (v := 36) hx hb dX6_holds_5 (by decide +kernel) ?_
    refine b_icmp_ge hx hb rfl zl_36 (tgt := 23) dX6_holds_7 (by decide +kernel) (fun c_2 => ?_) (fun c_2 => ?_)
    · refine lv_iconst (v := 0) hx hb dX6_holds_23 (by decide +kernel) ?_
      exact hRet () [0, 1] (Or.inr (⟨rfl, (by omega)⟩)) hP hD (by decide +kernel) rfl hS rfl dX6_holds_24
    · refine lv_iload_n hx hb dX6_holds_10 rfl (lv_at hl 2 rfl) ?_
      refine lv_aload_n hx hb dX6_holds_11 rfl (lv_at hl 0 rfl) ?_
      refine lv_iload_n hx hb dX6_holds_12 rfl (lv_at hl 1 rfl) ?_
      refine kJi (wr := []) (va_runV (As := [.int a0]) (rest := [.int a1]) ⟨hx, hb, hml, hown, hT⟩ (c_X6_lengthOfG l D cI aK aV k k0 k1 k2 s.heap.size c1 a0 (by first | omega | decide | assumption | rfl)) (cwV 1 hT (gV_in mw_675 mw_680 mw_673 mw_674 mw_11) rfl rfl rfl (by decide +kernel) ⟨Nat.le_of_ble_eq_true rfl, Nat.le_of_ble_eq_true rfl⟩) (kRecvX (q0 := 0) (ci := 6) hK hP hD hN hXS hS hA rfl rfl [0, 1] rfl (by decide +kernel)) rfl rfl hl.1 rfl (lv_room (Nat.le_of_ble_eq_true rfl)) dX6_holds_13 ⟨Nat.le_of_ble_eq_true rfl, Nat.le_of_ble_eq_true rfl⟩) hP hD hS hA [0, 1] [] rfl rfl (by decide +kernel) (by decide +kernel) ?_
      clear hP hD hS
      intro r_3 u_5 H locs w_4 hP hD hS
      replace hP : va_P D vwCl [(k, .inr (6, [.ref k0, .ref k1, .ref k2])), (k1, .inl (cI, 4, .inl c1))] H := hP
      replace hD : va_D A [(k, .inr (6, [.ref k0, .ref k1, .ref k2])), (k1, .inl (cI, 4, .inl c1))] := hD
      rcases w_4 with ⟨h_6, h_7, h_8, h_9, h_10⟩ | ⟨hr_3, h_11⟩
      · have h_6 : 0 ≤ a0.toInt := h_6
        have h_7 : a0.toInt ≤ 3 := h_7
        have h_8 : 0 ≤ r_3.toInt := h_8
        have h_9 : r_3.toInt ≤ 36 := h_9
        have h_10 : r_3.toInt = (c1 a0.toNatClampNeg).toInt := h_10
        have lo_r_3 := k_lo r_3
        have hi_r_3 := k_hi r_3
        refine b_icmp_ge hx hb rfl rfl (tgt := 23) dX6_holds_16 (by decide +kernel) (fun c_12 => ?_) (fun c_12 => ?_)
        · refine lv_iconst (v := 0) hx hb dX6_holds_23 (by decide +kernel) ?_
          exact hRet () [0, 1] (Or.inr (⟨rfl, (by omega)⟩)) hP hD (by decide +kernel) rfl hS rfl dX6_holds_24
        · refine lv_iconst (v := 1) hx hb dX6_holds_19 (by decide +kernel) ?_
          refine lv_goto (tgt := 24) hx hb dX6_holds_20 (by decide +kernel) ?_
          exact hRet () [0, 1] (Or.inl ⟨rfl, (by omega), (by omega), (by omega), (by omega), (by omega)⟩) hP hD (by decide +kernel) rfl hS rfl dX6_holds_24
      · have h_11 : a0.toInt < 0 ∨ 3 < a0.toInt := h_11
        obtain rfl : r_3 = 0 := hr_3.trans (by decide +kernel)
        refine b_icmp_ge hx hb rfl zl_0 (tgt := 23) dX6_holds_16 (by decide +kernel) (fun c_13 => ?_) (fun c_13 => by exfalso; omega)
        refine lv_iconst (v := 0) hx hb dX6_holds_23 (by decide +kernel) ?_
        exact hRet () [0, 1] (Or.inr (⟨rfl, (by omega)⟩)) hP hD (by decide +kernel) rfl hS rfl dX6_holds_24
theorem bn_cX6_numberAt_0 : BN cX6_numberAt 0 0xad0201402a8179843a6912844381300ad4561200a6842015b874382b := by
  unfold BN; decide +kernel
theorem dX6_numberAt_0 : decode cX6_numberAt 0 = .ok (.aload_n 0, 1) := dR0 (k := 0) (i := 0) bn_cX6_numberAt_0 dop_42 (by decide +kernel)
theorem dX6_numberAt_1 : decode cX6_numberAt 1 = .ok (.iload_n 1, 1) := dR0 (k := 0) (i := 1) bn_cX6_numberAt_0 dop_27 (by decide +kernel)
theorem dX6_numberAt_2 : decode cX6_numberAt 2 = .ok (.iload_n 2, 1) := dR0 (k := 0) (i := 2) bn_cX6_numberAt_0 dop_28 (by decide +kernel)
theorem dX6_numberAt_3 : decode cX6_numberAt 3 = .ok (.invokevirtual 32, 3) := dR2 (f := Instr.invokevirtual) (k := 0) (i := 3) bn_cX6_numberAt_0 dop_182 32 (by decide +kernel)
theorem dX6_numberAt_6 : decode cX6_numberAt 6 = .ok (.ifCond .eq 17, 3) := dR2s (f := Instr.ifCond .eq) (k := 0) (i := 6) bn_cX6_numberAt_0 dop_153 17 17 (by decide +kernel)
theorem dX6_numberAt_9 : decode cX6_numberAt 9 = .ok (.aload_n 0, 1) := dR0 (k := 0) (i := 9) bn_cX6_numberAt_0 dop_42 (by decide +kernel)
theorem dX6_numberAt_10 : decode cX6_numberAt 10 = .ok (.getfield 18, 3) := dR2 (f := Instr.getfield) (k := 0) (i := 10) bn_cX6_numberAt_0 dop_180 18 (by decide +kernel)
theorem dX6_numberAt_13 : decode cX6_numberAt 13 = .ok (.iload_n 1, 1) := dR0 (k := 0) (i := 13) bn_cX6_numberAt_0 dop_27 (by decide +kernel)
theorem dX6_numberAt_14 : decode cX6_numberAt 14 = .ok (.bipush 36, 2) := dR1s (f := Instr.bipush) (k := 0) (i := 14) bn_cX6_numberAt_0 dop_16 36 36 (by decide +kernel)
theorem dX6_numberAt_16 : decode cX6_numberAt 16 = .ok (.imul, 1) := dR0 (k := 0) (i := 16) bn_cX6_numberAt_0 dop_104 (by decide +kernel)
theorem dX6_numberAt_17 : decode cX6_numberAt 17 = .ok (.iload_n 2, 1) := dR0 (k := 0) (i := 17) bn_cX6_numberAt_0 dop_28 (by decide +kernel)
theorem dX6_numberAt_18 : decode cX6_numberAt 18 = .ok (.iadd, 1) := dR0 (k := 0) (i := 18) bn_cX6_numberAt_0 dop_96 (by decide +kernel)
theorem dX6_numberAt_19 : decode cX6_numberAt 19 = .ok (.iaload, 1) := dR0 (k := 0) (i := 19) bn_cX6_numberAt_0 dop_46 (by decide +kernel)
theorem dX6_numberAt_20 : decode cX6_numberAt 20 = .ok (.goto 4, 3) := dR2s (f := Instr.goto) (k := 0) (i := 20) bn_cX6_numberAt_0 dop_167 4 4 (by decide +kernel)
theorem dX6_numberAt_23 : decode cX6_numberAt 23 = .ok (.iconst 0, 1) := dR0 (k := 0) (i := 23) bn_cX6_numberAt_0 dop_3 (by decide +kernel)
theorem dX6_numberAt_24 : decode cX6_numberAt 24 = .ok (.ireturn, 1) := dR0 (k := 0) (i := 24) bn_cX6_numberAt_0 dop_172 (by decide +kernel)
set_option maxHeartbeats 4000000 in
set_option maxRecDepth 100000 in
theorem c_X6_numberAtG (l : Launch) (D : va_G) (cI : ClassId) (aK aV : Nat → Nat) (k k0 k1 k2 : Nat) (sz : Nat) (c1 : Nat → Int32) (c2 : Nat → Int32) (a0 : Int32) (a1 : Int32) (pre0 : ∀ k : Nat, k < 4 → 0 ≤ (c1 k).toInt ∧ (c1 k).toInt ≤ 36) : Met l yX6_numberAt (gW yX6_numberAt cX6_numberAt 3 (some .int)) ({ frames := 3, cells := 0, slots := 0, locals := 63 } : Room) (kPreX D cI aK aV [.ref k, .int a0, .int a1] [(k, .inr (6, [.ref k0, .ref k1, .ref k2])), (k1, .inl (cI, 4, .inl c1)), (k2, .inl (cI, 144, .inl c2))] sz) (va_Qi (fun (r : Int32) (u : Unit) => r = kNum c1 c2 a0 a1) (fun u t => kWd D cI (va_A [(k, .inr (6, [.ref k0, .ref k1, .ref k2])), (k1, .inl (cI, 4, .inl c1)), (k2, .inl (cI, 144, .inl c2))] sz) [(k, .inr (6, [.ref k0, .ref k1, .ref k2])), (k1, .inl (cI, 4, .inl c1)), (k2, .inl (cI, 144, .inl c2))] t) (va_A [(k, .inr (6, [.ref k0, .ref k1, .ref k2])), (k1, .inl (cI, 4, .inl c1)), (k2, .inl (cI, 144, .inl c2))] sz)) 0 0 (va_A [(k, .inr (6, [.ref k0, .ref k1, .ref k2])), (k1, .inl (cI, 4, .inl c1)), (k2, .inl (cI, 144, .inl c2))] sz) := by
  refine kMetIX (own := RX6) (by decide +kernel) rfl (Nat.le_of_ble_eq_true rfl) ?_
  intro p e s m args below meth c hx hb hT hown hname hml A Q hK hP hD hS hA hN hXS hRet ls hl
  have hl : lv_has ls 3 [(0, .ref k), (1, .int a0), (2, .int a1)] := hl
  have lo_a0 := k_lo a0
  have hi_a0 := k_hi a0
  have lo_a1 := k_lo a1
  have hi_a1 := k_hi a1
  refine lv_aload_n hx hb dX6_numberAt_0 rfl (lv_at hl 0 rfl) ?_
  refine lv_iload_n hx hb dX6_numberAt_1 rfl (lv_at hl 1 rfl) ?_
  refine lv_iload_n hx hb dX6_numberAt_2 rfl (lv_at hl 2 rfl) ?_
  refine kJi (wr := [(k2, .inl (cI, 144, .inl c2))]) (va_runV (As := [.int a0, .int a1]) (rest := []) ⟨hx, hb, hml, hown, hT⟩ (c_X6_holdsG l D cI aK aV k k0 k1 k2 s.heap.size c1 a0 a1 (by first | omega | decide | assumption | rfl)) (cwV 2 hT (gV_in mw_688 mw_685 mw_686 mw_687 mw_11) rfl rfl rfl (by decide +kernel) ⟨Nat.le_of_ble_eq_true rfl, Nat.le_of_ble_eq_true rfl⟩) (kRecvX (q0 := 0) (ci := 6) hK hP hD hN hXS hS hA rfl rfl [0, 1] rfl (by decide +kernel)) rfl rfl hl.1 rfl (lv_room (Nat.le_of_ble_eq_true rfl)) dX6_numberAt_3 ⟨Nat.le_of_ble_eq_true rfl, Nat.le_of_ble_eq_true rfl⟩) hP hD hS hA [0, 1] [2] rfl rfl (by decide +kernel) (by decide +kernel) ?_
  clear hP hD hS
  intro r_1 u_3 H locs w_2 hP hD hS
  replace hP : va_P D vwCl [(k2, .inl (cI, 144, .inl c2)), (k, .inr (6, [.ref k0, .ref k1, .ref k2])), (k1, .inl (cI, 4, .inl c1))] H := hP
  replace hD : va_D A [(k2, .inl (cI, 144, .inl c2)), (k, .inr (6, [.ref k0, .ref k1, .ref k2])), (k1, .inl (cI, 4, .inl c1))] := hD
  rcases w_2 with ⟨hr_1, h_4, h_5, h_6, h_7, h_8⟩ | ⟨hr_1, h_9⟩
  · have h_4 : 0 ≤ a0.toInt := h_4
    have h_5 : a0.toInt ≤ 3 := h_5
    have h_6 : 0 ≤ a1.toInt := h_6
    have h_7 : a1.toInt ≤ 35 := h_7
    have h_8 : a1.toInt < (c1 a0.toNatClampNeg).toInt := h_8
    obtain rfl : r_1 = 1 := hr_1.trans (by decide +kernel)
    refine b_if_eq hx hb zl_1 (tgt := 23) dX6_numberAt_6 (by decide +kernel) (fun c_10 => by exfalso; omega) (fun c_10 => ?_)
    refine lv_aload_n hx hb dX6_numberAt_9 rfl (lv_at hl 0 rfl) ?_
    refine va_get (D := D) (ci := 6) (v := .ref k2) (C := RX6) (T := TX6) (N := 3) hx hb hT giX6 hown hK hP 1 rfl rfl 2 (by decide +kernel) (hT (Cond.fieldLink RX6 18 "DesertWire$Sheets" "numbers" "[I") mw_283) (fun _ h9 => h9) rfl dX6_numberAt_10 ?_
    refine lv_iload_n hx hb dX6_numberAt_13 rfl (lv_at hl 1 rfl) ?_
    refine lv_bipush (v := 36) hx hb dX6_numberAt_14 (by decide +kernel) ?_
    refine lv_imul hx hb dX6_numberAt_16 ?_
    refine lv_topi (fun v_11 ev_11 => ?_)
    have tv_11 : v_11.toInt = a0.toInt * 36 := by rw [ev_11]; exact k_mulv rfl zl_36 (by omega) (by omega)
    refine lv_iload_n hx hb dX6_numberAt_17 rfl (lv_at hl 2 rfl) ?_
    refine lv_iadd hx hb dX6_numberAt_18 ?_
    refine lv_topi (fun v_12 ev_12 => ?_)
    have tv_12 : v_12.toInt = v_11.toInt + a1.toInt := by rw [ev_12]; exact k_addv rfl rfl (by omega) (by omega)
    refine k_iald (v := (c2 v_12.toNatClampNeg)) hx hb hK hP 0 0 rfl rfl (k_in (by omega) (by omega)) rfl dX6_numberAt_19 ?_
    refine lv_topi (fun v_13 ev_13 => ?_)
    have lo_v_13 := k_lo v_13
    have hi_v_13 := k_hi v_13
    have tv_13 : v_13.toInt = (c2 v_12.toNatClampNeg).toInt := by rw [ev_13]
    refine lv_goto (tgt := 24) hx hb dX6_numberAt_20 (by decide +kernel) ?_
    exact hRet () [1, 2, 0] (kNum_in (by omega) (by omega) (by omega) (by omega) (by omega) ev_13 (by omega)) hP hD (by decide +kernel) rfl hS rfl dX6_numberAt_24
  · have h_9 : a0.toInt < 0 ∨ 3 < a0.toInt ∨ a1.toInt < 0 ∨ 35 < a1.toInt ∨ (c1 a0.toNatClampNeg).toInt ≤ a1.toInt := h_9
    obtain rfl : r_1 = 0 := hr_1.trans (by decide +kernel)
    refine b_if_eq hx hb zl_0 (tgt := 23) dX6_numberAt_6 (by decide +kernel) (fun c_14 => ?_) (fun c_14 => by exfalso; omega)
    refine lv_iconst (v := 0) hx hb dX6_numberAt_23 (by decide +kernel) ?_
    exact hRet () [1, 2, 0] (kNum_out (by omega)) hP hD (by decide +kernel) rfl hS rfl dX6_numberAt_24
theorem bn_cX6_allWithin_0 : BN cX6_allWithin 0 0x15a0571c01500202a155a0403005362900ae43c1d128056e050b070561b00a8c3c015b87056050b0146e04 := by
  unfold BN; decide +kernel
theorem dX6_allWithin_0 : decode cX6_allWithin 0 = .ok (.iconst 0, 1) := dR0 (k := 0) (i := 0) bn_cX6_allWithin_0 dop_3 (by decide +kernel)
theorem dX6_allWithin_1 : decode cX6_allWithin 1 = .ok (.istore 4, 2) := dR1 (f := Instr.istore) (k := 0) (i := 1) bn_cX6_allWithin_0 dop_54 4 (by decide +kernel)
theorem dX6_allWithin_3 : decode cX6_allWithin 3 = .ok (.iload 4, 2) := dR1 (f := Instr.iload) (k := 0) (i := 3) bn_cX6_allWithin_0 dop_21 4 (by decide +kernel)
theorem dX6_allWithin_5 : decode cX6_allWithin 5 = .ok (.aload_n 0, 1) := dR0 (k := 0) (i := 5) bn_cX6_allWithin_0 dop_42 (by decide +kernel)
theorem dX6_allWithin_6 : decode cX6_allWithin 6 = .ok (.iload_n 1, 1) := dR0 (k := 0) (i := 6) bn_cX6_allWithin_0 dop_27 (by decide +kernel)
theorem dX6_allWithin_7 : decode cX6_allWithin 7 = .ok (.invokevirtual 29, 3) := dR2 (f := Instr.invokevirtual) (k := 0) (i := 7) bn_cX6_allWithin_0 dop_182 29 (by decide +kernel)
theorem dX6_allWithin_10 : decode cX6_allWithin 10 = .ok (.if_icmp .ge 26, 3) := dR2s (f := Instr.if_icmp .ge) (k := 0) (i := 10) bn_cX6_allWithin_0 dop_162 26 26 (by decide +kernel)
theorem dX6_allWithin_13 : decode cX6_allWithin 13 = .ok (.aload_n 0, 1) := dR0 (k := 0) (i := 13) bn_cX6_allWithin_0 dop_42 (by decide +kernel)
theorem dX6_allWithin_14 : decode cX6_allWithin 14 = .ok (.iload_n 1, 1) := dR0 (k := 0) (i := 14) bn_cX6_allWithin_0 dop_27 (by decide +kernel)
theorem dX6_allWithin_15 : decode cX6_allWithin 15 = .ok (.iload 4, 2) := dR1 (f := Instr.iload) (k := 0) (i := 15) bn_cX6_allWithin_0 dop_21 4 (by decide +kernel)
theorem dX6_allWithin_17 : decode cX6_allWithin 17 = .ok (.invokevirtual 36, 3) := dR2 (f := Instr.invokevirtual) (k := 0) (i := 17) bn_cX6_allWithin_0 dop_182 36 (by decide +kernel)
theorem dX6_allWithin_20 : decode cX6_allWithin 20 = .ok (.iload_n 2, 1) := dR0 (k := 0) (i := 20) bn_cX6_allWithin_0 dop_28 (by decide +kernel)
theorem dX6_allWithin_21 : decode cX6_allWithin 21 = .ok (.iload_n 3, 1) := dR0 (k := 0) (i := 21) bn_cX6_allWithin_0 dop_29 (by decide +kernel)
theorem dX6_allWithin_22 : decode cX6_allWithin 22 = .ok (.invokestatic 40, 3) := dR2 (f := Instr.invokestatic) (k := 0) (i := 22) bn_cX6_allWithin_0 dop_184 40 (by decide +kernel)
theorem dX6_allWithin_25 : decode cX6_allWithin 25 = .ok (.ifCond .ne 5, 3) := dR2s (f := Instr.ifCond .ne) (k := 0) (i := 25) bn_cX6_allWithin_0 dop_154 5 5 (by decide +kernel)
theorem dX6_allWithin_28 : decode cX6_allWithin 28 = .ok (.iconst 0, 1) := dR0 (k := 0) (i := 28) bn_cX6_allWithin_0 dop_3 (by decide +kernel)
theorem dX6_allWithin_29 : decode cX6_allWithin 29 = .ok (.ireturn, 1) := dR0 (k := 0) (i := 29) bn_cX6_allWithin_0 dop_172 (by decide +kernel)
theorem dX6_allWithin_30 : decode cX6_allWithin 30 = .ok (.iinc 4 1, 3) := dRii (f := Instr.iinc) (k := 0) (i := 30) bn_cX6_allWithin_0 dop_132 4 1 1 (by decide +kernel)
theorem dX6_allWithin_33 : decode cX6_allWithin 33 = .ok (.goto (-30), 3) := dR2s (f := Instr.goto) (k := 0) (i := 33) bn_cX6_allWithin_0 dop_167 65506 (-30) (by decide +kernel)
theorem dX6_allWithin_36 : decode cX6_allWithin 36 = .ok (.iconst 1, 1) := dR0 (k := 0) (i := 36) bn_cX6_allWithin_0 dop_4 (by decide +kernel)
theorem dX6_allWithin_37 : decode cX6_allWithin 37 = .ok (.ireturn, 1) := dR0 (k := 0) (i := 37) bn_cX6_allWithin_0 dop_172 (by decide +kernel)
set_option maxHeartbeats 4000000 in
set_option maxRecDepth 100000 in
theorem c_X6_allWithinG (l : Launch) (D : va_G) (cI : ClassId) (aK aV : Nat → Nat) (k k0 k1 k2 : Nat) (sz : Nat) (c1 : Nat → Int32) (c2 : Nat → Int32) (a0 : Int32) (a1 : Int32) (a2 : Int32) (pre0 : ∀ k : Nat, k < 4 → 0 ≤ (c1 k).toInt ∧ (c1 k).toInt ≤ 36) (pre1 : 0 ≤ a0.toInt) (pre2 : a0.toInt ≤ 3) : Met l yX6_allWithin (gW yX6_allWithin cX6_allWithin 5 (some .boolean)) ({ frames := 4, cells := 0, slots := 0, locals := 85 } : Room) (kPreX D cI aK aV [.ref k, .int a0, .int a1, .int a2] [(k, .inr (6, [.ref k0, .ref k1, .ref k2])), (k1, .inl (cI, 4, .inl c1)), (k2, .inl (cI, 144, .inl c2))] sz) (va_Qi (fun (r : Int32) (u : Unit) => (r = 1 ∧ allB (shv c2 a0) a1.toInt a2.toInt (c1 a0.toNatClampNeg).toInt.toNat = true) ∨ (r = 0 ∧ allB (shv c2 a0) a1.toInt a2.toInt (c1 a0.toNatClampNeg).toInt.toNat = false)) (fun u t => kWd D cI (va_A [(k, .inr (6, [.ref k0, .ref k1, .ref k2])), (k1, .inl (cI, 4, .inl c1)), (k2, .inl (cI, 144, .inl c2))] sz) [(k, .inr (6, [.ref k0, .ref k1, .ref k2])), (k1, .inl (cI, 4, .inl c1)), (k2, .inl (cI, 144, .inl c2))] t) (va_A [(k, .inr (6, [.ref k0, .ref k1, .ref k2])), (k1, .inl (cI, 4, .inl c1)), (k2, .inl (cI, 144, .inl c2))] sz)) 0 0 (va_A [(k, .inr (6, [.ref k0, .ref k1, .ref k2])), (k1, .inl (cI, 4, .inl c1)), (k2, .inl (cI, 144, .inl c2))] sz) := by
  refine kMetIX (own := RX6) (by decide +kernel) rfl (Nat.le_of_ble_eq_true rfl) ?_
  intro p e s m args below meth c hx hb hT hown hname hml A Q hK hP hD hS hA hN hXS hRet ls hl
  have hl : lv_has ls 5 [(0, .ref k), (1, .int a0), (2, .int a1), (3, .int a2)] := hl
  have lo_a0 := k_lo a0
  have hi_a0 := k_hi a0
  have lo_a1 := k_lo a1
  have hi_a1 := k_hi a1
  have lo_a2 := k_lo a2
  have hi_a2 := k_hi a2
  have hln := pre0 a0.toNatClampNeg (by rw [k_clamp]; omega)
  refine lv_iconst (v := 0) hx hb dX6_allWithin_0 (by decide +kernel) ?_
  refine lv_istore (lv' := [(4, .int 0), (0, .ref k), (1, .int a0), (2, .int a1), (3, .int a2)]) hx hb dX6_allWithin_1 hl (by decide +kernel) rfl ?_
  clear hl
  intro ls hl
  have hloop_3 : ∀ (fu_ : Nat) (l3_4 : Int32), 0 ≤ l3_4.toInt → l3_4.toInt ≤ (c1 a0.toNatClampNeg).toInt → allB (shv c2 a0) a1.toInt a2.toInt l3_4.toInt.toNat = true → (36 - l3_4.toInt).toNat < fu_ → ∀ (ls : Array Slot) (H : Heap) (locs : List Loc), lv_has ls 5 [(4, .int l3_4), (0, .ref k), (1, .int a0), (2, .int a1), (3, .int a2)] → va_P D vwCl [(k, .inr (6, [.ref k0, .ref k1, .ref k2])), (k1, .inl (cI, 4, .inl c1)), (k2, .inl (cI, 144, .inl c2))] H → va_D A [(k, .inr (6, [.ref k0, .ref k1, .ref k2])), (k1, .inl (cI, 4, .inl c1)), (k2, .inl (cI, 144, .inl c2))] → va_S A s.heap H locs → W p l e ({ frames := 4, cells := 0, slots := 0, locals := 85 } : Room) s m args below meth c H locs 0 0 Q (F0 m 3 ls []) := by
    intro fu_; induction fu_ with
    | zero => intro l3_4 i3_0 i3_1 i3_2 hm; exact absurd hm (by omega)
    | succ fu_ ih3 =>
        intro l3_4 i3_0 i3_1 i3_2 hm ls H locs hl hP hD hS
        have lo_l3_4 := k_lo l3_4
        have hi_l3_4 := k_hi l3_4
        have i3_2 : allB (shv c2 a0) a1.toInt a2.toInt l3_4.toInt.toNat = true := i3_2
        refine lv_iload hx hb dX6_allWithin_3 (lv_at hl 0 rfl) ?_
        refine lv_aload_n hx hb dX6_allWithin_5 rfl (lv_at hl 1 rfl) ?_
        refine lv_iload_n hx hb dX6_allWithin_6 rfl (lv_at hl 2 rfl) ?_
        refine kJi (wr := [(k2, .inl (cI, 144, .inl c2))]) (va_runV (As := [.int a0]) (rest := [.int l3_4]) ⟨hx, hb, hml, hown, hT⟩ (c_X6_lengthOfG l D cI aK aV k k0 k1 k2 H.size c1 a0 (by first | omega | decide | assumption | rfl)) (cwV 1 hT (gV_in mw_675 mw_680 mw_673 mw_674 mw_11) rfl rfl rfl (by decide +kernel) ⟨Nat.le_of_ble_eq_true rfl, Nat.le_of_ble_eq_true rfl⟩) (kRecvX (q0 := 0) (ci := 6) hK hP hD hN hXS hS hA rfl rfl [0, 1] rfl (by decide +kernel)) rfl rfl hl.1 rfl (lv_room (Nat.le_of_ble_eq_true rfl)) dX6_allWithin_7 ⟨Nat.le_of_ble_eq_true rfl, Nat.le_of_ble_eq_true rfl⟩) hP hD hS hA [0, 1] [2] rfl rfl (by decide +kernel) (by decide +kernel) ?_
        clear hP hD hS
        intro r_1 u_3 H locs w_2 hP hD hS
        replace hP : va_P D vwCl [(k2, .inl (cI, 144, .inl c2)), (k, .inr (6, [.ref k0, .ref k1, .ref k2])), (k1, .inl (cI, 4, .inl c1))] H := hP
        replace hD : va_D A [(k2, .inl (cI, 144, .inl c2)), (k, .inr (6, [.ref k0, .ref k1, .ref k2])), (k1, .inl (cI, 4, .inl c1))] := hD
        rcases w_2 with ⟨h_4, h_5, h_6, h_7, h_8⟩ | ⟨hr_1, h_9⟩
        · have h_4 : 0 ≤ a0.toInt := h_4
          have h_5 : a0.toInt ≤ 3 := h_5
          have h_6 : 0 ≤ r_1.toInt := h_6
          have h_7 : r_1.toInt ≤ 36 := h_7
          have h_8 : r_1.toInt = (c1 a0.toNatClampNeg).toInt := h_8
          have lo_r_1 := k_lo r_1
          have hi_r_1 := k_hi r_1
          refine b_icmp_ge hx hb rfl rfl (tgt := 36) dX6_allWithin_10 (by decide +kernel) (fun c_10 => ?_) (fun c_10 => ?_)
          · refine lv_iconst (v := 1) hx hb dX6_allWithin_36 (by decide +kernel) ?_
            exact hRet () [1, 2, 0] (Or.inl ⟨rfl, (by rw [show (c1 a0.toNatClampNeg).toInt.toNat = l3_4.toInt.toNat from by omega]; exact i3_2)⟩) hP hD (by decide +kernel) rfl hS rfl dX6_allWithin_37
          · refine lv_aload_n hx hb dX6_allWithin_13 rfl (lv_at hl 1 rfl) ?_
            refine lv_iload_n hx hb dX6_allWithin_14 rfl (lv_at hl 2 rfl) ?_
            refine lv_iload hx hb dX6_allWithin_15 (lv_at hl 0 rfl) ?_
            refine kJi (wr := []) (va_runV (As := [.int a0, .int l3_4]) (rest := []) ⟨hx, hb, hml, hown, hT⟩ (c_X6_numberAtG l D cI aK aV k k0 k1 k2 H.size c1 c2 a0 l3_4 (by first | omega | decide | assumption | rfl)) (cwV 2 hT (gV_in mw_684 mw_681 mw_682 mw_683 mw_11) rfl rfl rfl (by decide +kernel) ⟨Nat.le_of_ble_eq_true rfl, Nat.le_of_ble_eq_true rfl⟩) (kRecvX (q0 := 1) (ci := 6) hK hP hD hN hXS hS hA rfl rfl [1, 2, 0] rfl (by decide +kernel)) rfl rfl hl.1 rfl (lv_room (Nat.le_of_ble_eq_true rfl)) dX6_allWithin_17 ⟨Nat.le_of_ble_eq_true rfl, Nat.le_of_ble_eq_true rfl⟩) hP hD hS hA [1, 2, 0] [] rfl rfl (by decide +kernel) (by decide +kernel) ?_
            clear hP hD hS
            intro r_11 u_13 H locs w_12 hP hD hS
            replace hP : va_P D vwCl [(k, .inr (6, [.ref k0, .ref k1, .ref k2])), (k1, .inl (cI, 4, .inl c1)), (k2, .inl (cI, 144, .inl c2))] H := hP
            replace hD : va_D A [(k, .inr (6, [.ref k0, .ref k1, .ref k2])), (k1, .inl (cI, 4, .inl c1)), (k2, .inl (cI, 144, .inl c2))] := hD
            have h_14 := w_12
            have h_14 : r_11 = kNum c1 c2 a0 l3_4 := h_14
            have lo_r_11 := k_lo r_11
            have hi_r_11 := k_hi r_11
            refine lv_iload_n hx hb dX6_allWithin_20 rfl (lv_at hl 3 rfl) ?_
            refine lv_iload_n hx hb dX6_allWithin_21 rfl (lv_at hl 4 rfl) ?_
            refine kJi (wr := [(k, .inr (6, [.ref k0, .ref k1, .ref k2])), (k1, .inl (cI, 4, .inl c1)), (k2, .inl (cI, 144, .inl c2))]) (va_runSN (As := [.int r_11, .int a1, .int a2]) (rest := []) ⟨hx, hb, hml, hown, hT⟩ (c_X10_isWithinG l D cI aK aV H.size r_11 a1 a2) ⟨va_cnB 3 hT (gW_in mw_691) rfl rfl rfl (hN _ mw_689) (hT _ mw_1) (by decide +kernel) ⟨Nat.le_of_ble_eq_true rfl, Nat.le_of_ble_eq_true rfl⟩, hT _ mw_690, trivial⟩ (kStatX hK hP hD hN hXS hS hA [] rfl (by decide +kernel)) rfl rfl hl.1 rfl (lv_room (Nat.le_of_ble_eq_true rfl)) dX6_allWithin_22 ⟨Nat.le_of_ble_eq_true rfl, Nat.le_of_ble_eq_true rfl⟩) hP hD hS hA [] [0, 1, 2] rfl rfl (by decide +kernel) (by decide +kernel) ?_
            clear hP hD hS
            intro r_15 u_17 H locs w_16 hP hD hS
            replace hP : va_P D vwCl [(k, .inr (6, [.ref k0, .ref k1, .ref k2])), (k1, .inl (cI, 4, .inl c1)), (k2, .inl (cI, 144, .inl c2))] H := hP
            replace hD : va_D A [(k, .inr (6, [.ref k0, .ref k1, .ref k2])), (k1, .inl (cI, 4, .inl c1)), (k2, .inl (cI, 144, .inl c2))] := hD
            rcases w_16 with ⟨hr_15, h_18, h_19⟩ | ⟨hr_15, h_20⟩
            · have h_18 : a1.toInt ≤ r_11.toInt := h_18
              have h_19 : r_11.toInt ≤ a2.toInt := h_19
              obtain rfl : r_15 = 1 := hr_15.trans (by decide +kernel)
              refine b_if_ne hx hb zl_1 (tgt := 30) dX6_allWithin_25 (by decide +kernel) (fun c_21 => ?_) (fun c_21 => by exfalso; omega)
              obtain ⟨v_22, ev_22⟩ : ∃ y : Int32, y = l3_4 + 1 := ⟨_, rfl⟩
              have tv_22 : v_22.toInt = l3_4.toInt + 1 := by rw [ev_22]; exact k_addv rfl zl_1 (by omega) (by omega)
              refine lv_iinc (v := v_22) (lv' := [(4, .int v_22), (0, .ref k), (1, .int a0), (2, .int a1), (3, .int a2)]) hx hb dX6_allWithin_30 hl (k := 0) rfl (by rw [ev_22]; rfl) (by decide +kernel) rfl ?_
              clear hl
              intro ls hl
              refine lv_goto (tgt := 3) hx hb dX6_allWithin_33 (by decide +kernel) ?_
              exact ih3 v_22 (by first | omega | decide | assumption | rfl) (by first | omega | decide | assumption | rfl) (allB_step i3_2 (by omega) (by omega) (h_14.trans (kNum_shv (by omega) (by omega) (by omega) (by omega) (by omega))) (by omega) (by omega)) (by omega) ls _ _ (lv_sub hl [0, 1, 2, 3, 4] rfl) (hP.sub [0, 1, 2] rfl) (hD.sub [0, 1, 2] (by decide +kernel) rfl) hS
            · have h_20 : r_11.toInt < a1.toInt ∨ a2.toInt < r_11.toInt := h_20
              obtain rfl : r_15 = 0 := hr_15.trans (by decide +kernel)
              refine b_if_ne hx hb zl_0 (tgt := 30) dX6_allWithin_25 (by decide +kernel) (fun c_23 => by exfalso; omega) (fun c_23 => ?_)
              refine lv_iconst (v := 0) hx hb dX6_allWithin_28 (by decide +kernel) ?_
              exact hRet () [0, 1, 2] (Or.inr (⟨rfl, (allB_no (i := l3_4) (by omega) (by omega) (h_14.trans (kNum_shv (by omega) (by omega) (by omega) (by omega) (by omega))) (by omega))⟩)) hP hD (by decide +kernel) rfl hS rfl dX6_allWithin_29
        · exfalso; omega
  exact hloop_3 _ 0 (by first | omega | (simp only [zl_0]; first | done | omega) | decide | assumption | rfl) (by first | omega | (simp only [zl_0]; first | done | omega) | decide | assumption | rfl) (by rw [zl_0]; rfl) (Nat.lt_succ_self _) ls _ _ (lv_sub hl [0, 1, 2, 3, 4] rfl) hP hD hS
theorem bn_cX6_blank_0 : BN cX6_blank 0 0x164ea802a0040542940086102858d2250887026015a8ac2e015189422050b0146e0428078381000ad456500e87014015a8ad640500a944a110f028029c0f038029a0d005721c := by
  unfold BN; decide +kernel
theorem dX6_blank_0 : decode cX6_blank 0 = .ok (.iload_n 1, 1) := dR0 (k := 0) (i := 0) bn_cX6_blank_0 dop_27 (by decide +kernel)
theorem dX6_blank_1 : decode cX6_blank 1 = .ok (.invokestatic 25, 3) := dR2 (f := Instr.invokestatic) (k := 0) (i := 1) bn_cX6_blank_0 dop_184 25 (by decide +kernel)
theorem dX6_blank_4 : decode cX6_blank 4 = .ok (.ifCond .eq 13, 3) := dR2s (f := Instr.ifCond .eq) (k := 0) (i := 4) bn_cX6_blank_0 dop_153 13 13 (by decide +kernel)
theorem dX6_blank_7 : decode cX6_blank 7 = .ok (.iload_n 3, 1) := dR0 (k := 0) (i := 7) bn_cX6_blank_0 dop_29 (by decide +kernel)
theorem dX6_blank_8 : decode cX6_blank 8 = .ok (.ifCond .lt 9, 3) := dR2s (f := Instr.ifCond .lt) (k := 0) (i := 8) bn_cX6_blank_0 dop_155 9 9 (by decide +kernel)
theorem dX6_blank_11 : decode cX6_blank 11 = .ok (.iload_n 3, 1) := dR0 (k := 0) (i := 11) bn_cX6_blank_0 dop_29 (by decide +kernel)
theorem dX6_blank_12 : decode cX6_blank 12 = .ok (.bipush 36, 2) := dR1s (f := Instr.bipush) (k := 0) (i := 12) bn_cX6_blank_0 dop_16 36 36 (by decide +kernel)
theorem dX6_blank_14 : decode cX6_blank 14 = .ok (.if_icmp .le 4, 3) := dR2s (f := Instr.if_icmp .le) (k := 0) (i := 14) bn_cX6_blank_0 dop_164 4 4 (by decide +kernel)
theorem dX6_blank_18 : decode cX6_blank 18 = .ok (.aload_n 0, 1) := dR0 (k := 0) (i := 18) bn_cX6_blank_0 dop_42 (by decide +kernel)
theorem dX6_blank_19 : decode cX6_blank 19 = .ok (.getfield 9, 3) := dR2 (f := Instr.getfield) (k := 0) (i := 19) bn_cX6_blank_0 dop_180 9 (by decide +kernel)
theorem dX6_blank_22 : decode cX6_blank 22 = .ok (.iload_n 1, 1) := dR0 (k := 0) (i := 22) bn_cX6_blank_0 dop_27 (by decide +kernel)
theorem dX6_blank_23 : decode cX6_blank 23 = .ok (.iload_n 2, 1) := dR0 (k := 0) (i := 23) bn_cX6_blank_0 dop_28 (by decide +kernel)
theorem dX6_blank_24 : decode cX6_blank 24 = .ok (.iastore, 1) := dR0 (k := 0) (i := 24) bn_cX6_blank_0 dop_79 (by decide +kernel)
theorem dX6_blank_25 : decode cX6_blank 25 = .ok (.aload_n 0, 1) := dR0 (k := 0) (i := 25) bn_cX6_blank_0 dop_42 (by decide +kernel)
theorem dX6_blank_26 : decode cX6_blank 26 = .ok (.getfield 15, 3) := dR2 (f := Instr.getfield) (k := 0) (i := 26) bn_cX6_blank_0 dop_180 15 (by decide +kernel)
theorem dX6_blank_29 : decode cX6_blank 29 = .ok (.iload_n 1, 1) := dR0 (k := 0) (i := 29) bn_cX6_blank_0 dop_27 (by decide +kernel)
theorem dX6_blank_30 : decode cX6_blank 30 = .ok (.iload_n 3, 1) := dR0 (k := 0) (i := 30) bn_cX6_blank_0 dop_29 (by decide +kernel)
theorem dX6_blank_31 : decode cX6_blank 31 = .ok (.iastore, 1) := dR0 (k := 0) (i := 31) bn_cX6_blank_0 dop_79 (by decide +kernel)
theorem dX6_blank_32 : decode cX6_blank 32 = .ok (.iconst 0, 1) := dR0 (k := 0) (i := 32) bn_cX6_blank_0 dop_3 (by decide +kernel)
theorem dX6_blank_33 : decode cX6_blank 33 = .ok (.istore 4, 2) := dR1 (f := Instr.istore) (k := 0) (i := 33) bn_cX6_blank_0 dop_54 4 (by decide +kernel)
theorem dX6_blank_35 : decode cX6_blank 35 = .ok (.iload 4, 2) := dR1 (f := Instr.iload) (k := 0) (i := 35) bn_cX6_blank_0 dop_21 4 (by decide +kernel)
theorem dX6_blank_37 : decode cX6_blank 37 = .ok (.bipush 36, 2) := dR1s (f := Instr.bipush) (k := 0) (i := 37) bn_cX6_blank_0 dop_16 36 36 (by decide +kernel)
theorem dX6_blank_39 : decode cX6_blank 39 = .ok (.if_icmp .ge 22, 3) := dR2s (f := Instr.if_icmp .ge) (k := 0) (i := 39) bn_cX6_blank_0 dop_162 22 22 (by decide +kernel)
theorem dX6_blank_42 : decode cX6_blank 42 = .ok (.aload_n 0, 1) := dR0 (k := 0) (i := 42) bn_cX6_blank_0 dop_42 (by decide +kernel)
theorem dX6_blank_43 : decode cX6_blank 43 = .ok (.getfield 18, 3) := dR2 (f := Instr.getfield) (k := 0) (i := 43) bn_cX6_blank_0 dop_180 18 (by decide +kernel)
theorem dX6_blank_46 : decode cX6_blank 46 = .ok (.iload_n 1, 1) := dR0 (k := 0) (i := 46) bn_cX6_blank_0 dop_27 (by decide +kernel)
theorem dX6_blank_47 : decode cX6_blank 47 = .ok (.bipush 36, 2) := dR1s (f := Instr.bipush) (k := 0) (i := 47) bn_cX6_blank_0 dop_16 36 36 (by decide +kernel)
theorem dX6_blank_49 : decode cX6_blank 49 = .ok (.imul, 1) := dR0 (k := 0) (i := 49) bn_cX6_blank_0 dop_104 (by decide +kernel)
theorem dX6_blank_50 : decode cX6_blank 50 = .ok (.iload 4, 2) := dR1 (f := Instr.iload) (k := 0) (i := 50) bn_cX6_blank_0 dop_21 4 (by decide +kernel)
theorem dX6_blank_52 : decode cX6_blank 52 = .ok (.iadd, 1) := dR0 (k := 0) (i := 52) bn_cX6_blank_0 dop_96 (by decide +kernel)
theorem dX6_blank_53 : decode cX6_blank 53 = .ok (.iconst 0, 1) := dR0 (k := 0) (i := 53) bn_cX6_blank_0 dop_3 (by decide +kernel)
theorem dX6_blank_54 : decode cX6_blank 54 = .ok (.iastore, 1) := dR0 (k := 0) (i := 54) bn_cX6_blank_0 dop_79 (by decide +kernel)
theorem dX6_blank_55 : decode cX6_blank 55 = .ok (.iinc 4 1, 3) := dRii (f := Instr.iinc) (k := 0) (i := 55) bn_cX6_blank_0 dop_132 4 1 1 (by decide +kernel)
theorem dX6_blank_58 : decode cX6_blank 58 = .ok (.goto (-23), 3) := dR2s (f := Instr.goto) (k := 0) (i := 58) bn_cX6_blank_0 dop_167 65513 (-23) (by decide +kernel)
theorem dX6_blank_61 : decode cX6_blank 61 = .ok (.return_, 1) := dR0 (k := 0) (i := 61) bn_cX6_blank_0 dop_177 (by decide +kernel)
set_option maxHeartbeats 4000000 in
set_option maxRecDepth 100000 in
theorem c_X6_blankG (l : Launch) (D : va_G) (cI : ClassId) (aK aV : Nat → Nat) (k k0 k1 k2 : Nat) (sz : Nat) (c0 : Nat → Int32) (c1 : Nat → Int32) (c2 : Nat → Int32) (a0 : Int32) (a1 : Int32) (a2 : Int32) (pre0 : ∀ k : Nat, k < 4 → 0 ≤ (c1 k).toInt ∧ (c1 k).toInt ≤ 36) (pre1 : 0 ≤ a0.toInt) (pre2 : a0.toInt ≤ 3) (pre3 : 0 ≤ a2.toInt) (pre4 : a2.toInt ≤ 36) : Met l yX6_blank (gW yX6_blank cX6_blank 5 none) ({ frames := 1, cells := 0, slots := 0, locals := 20 } : Room) (kPreX D cI aK aV [.ref k, .int a0, .int a1, .int a2] [(k, .inr (6, [.ref k0, .ref k1, .ref k2])), (k0, .inl (cI, 4, .inl c0)), (k1, .inl (cI, 4, .inl c1)), (k2, .inl (cI, 144, .inl c2))] sz) (va_Qv (fun (u : (Nat → Int32) × (Nat → Int32) × (Nat → Int32)) => (∀ k : Nat, k < 4 → 0 ≤ (u.2.1 k).toInt ∧ (u.2.1 k).toInt ≤ 36) ∧ u.1 = upd c0 a0.toNatClampNeg a1 ∧ u.2.1 = upd c1 a0.toNatClampNeg a2 ∧ u.2.2 = zr c2 (36 * a0.toInt.toNat) 36) (fun u t => kWd D cI (va_A [(k, .inr (6, [.ref k0, .ref k1, .ref k2])), (k0, .inl (cI, 4, .inl c0)), (k1, .inl (cI, 4, .inl c1)), (k2, .inl (cI, 144, .inl c2))] sz) [(k, .inr (6, [.ref k0, .ref k1, .ref k2])), (k0, .inl (cI, 4, .inl u.1)), (k1, .inl (cI, 4, .inl u.2.1)), (k2, .inl (cI, 144, .inl u.2.2))] t) (va_A [(k, .inr (6, [.ref k0, .ref k1, .ref k2])), (k0, .inl (cI, 4, .inl c0)), (k1, .inl (cI, 4, .inl c1)), (k2, .inl (cI, 144, .inl c2))] sz)) 0 0 (va_A [(k, .inr (6, [.ref k0, .ref k1, .ref k2])), (k0, .inl (cI, 4, .inl c0)), (k1, .inl (cI, 4, .inl c1)), (k2, .inl (cI, 144, .inl c2))] sz) := by
  refine kMetVX (own := RX6) (by decide +kernel) rfl (Nat.le_of_ble_eq_true rfl) ?_
  intro p e s m args below meth c hx hb hT hown hname hml A Q hK hP hD hS hA hN hXS hRet ls hl
  have hl : lv_has ls 5 [(0, .ref k), (1, .int a0), (2, .int a1), (3, .int a2)] := hl
  have lo_a0 := k_lo a0
  have hi_a0 := k_hi a0
  have lo_a1 := k_lo a1
  have hi_a1 := k_hi a1
  have lo_a2 := k_lo a2
  have hi_a2 := k_hi a2
  refine lv_iload_n hx hb dX6_blank_0 rfl (lv_at hl 1 rfl) ?_
  refine kJi (wr := [(k, .inr (6, [.ref k0, .ref k1, .ref k2])), (k0, .inl (cI, 4, .inl c0)), (k1, .inl (cI, 4, .inl c1)), (k2, .inl (cI, 144, .inl c2))]) (va_runSN (As := [.int a0]) (rest := []) ⟨hx, hb, hml, hown, hT⟩ (c_X10_isSheetG l D cI aK aV s.heap.size a0) ⟨va_cnB 1 hT (gW_in mw_662) rfl rfl rfl (hN _ mw_671) (hT _ mw_1) (by decide +kernel) ⟨Nat.le_of_ble_eq_true rfl, Nat.le_of_ble_eq_true rfl⟩, hT _ mw_661, trivial⟩ (kStatX hK hP hD hN hXS hS hA [] rfl (by decide +kernel)) rfl rfl hl.1 rfl (lv_room (Nat.le_of_ble_eq_true rfl)) dX6_blank_1 ⟨Nat.le_of_ble_eq_true rfl, Nat.le_of_ble_eq_true rfl⟩) hP hD hS hA [] [0, 1, 2, 3] rfl rfl (by decide +kernel) (by decide +kernel) ?_
  clear hP hD hS
  intro r_1 u_3 H locs w_2 hP hD hS
  replace hP : va_P D vwCl [(k, .inr (6, [.ref k0, .ref k1, .ref k2])), (k0, .inl (cI, 4, .inl c0)), (k1, .inl (cI, 4, .inl c1)), (k2, .inl (cI, 144, .inl c2))] H := hP
  replace hD : va_D A [(k, .inr (6, [.ref k0, .ref k1, .ref k2])), (k0, .inl (cI, 4, .inl c0)), (k1, .inl (cI, 4, .inl c1)), (k2, .inl (cI, 144, .inl c2))] := hD
  rcases w_2 with ⟨hr_1, h_4, h_5⟩ | ⟨hr_1, h_6⟩
  · have h_4 : 0 ≤ a0.toInt := h_4
    have h_5 : a0.toInt ≤ 3 := h_5
    obtain rfl : r_1 = 1 := hr_1.trans (by decide +kernel)
    refine b_if_eq hx hb zl_1 (tgt := 17) dX6_blank_4 (by decide +kernel) (fun c_7 => by exfalso; omega) (fun c_7 => ?_)
    refine lv_iload_n hx hb dX6_blank_7 rfl (lv_at hl 3 rfl) ?_
    refine b_if_lt hx hb rfl (tgt := 17) dX6_blank_8 (by decide +kernel) (fun c_8 => by exfalso; omega) (fun c_8 => ?_)
    refine lv_iload_n hx hb dX6_blank_11 rfl (lv_at hl 3 rfl) ?_
    refine lv_bipush (v := 36) hx hb dX6_blank_12 (by decide +kernel) ?_
    refine b_icmp_le hx hb rfl zl_36 (tgt := 18) dX6_blank_14 (by decide +kernel) (fun c_9 => ?_) (fun c_9 => by exfalso; omega)
    refine lv_aload_n hx hb dX6_blank_18 rfl (lv_at hl 0 rfl) ?_
    refine va_get (D := D) (ci := 6) (v := .ref k0) (C := RX6) (T := TX6) (N := 3) hx hb hT giX6 hown hK hP 0 rfl rfl 0 (by decide +kernel) (hT (Cond.fieldLink RX6 9 "DesertWire$Sheets" "bits" "[I") mw_281) (fun _ h9 => h9) rfl dX6_blank_19 ?_
    refine lv_iload_n hx hb dX6_blank_22 rfl (lv_at hl 1 rfl) ?_
    refine lv_iload_n hx hb dX6_blank_23 rfl (lv_at hl 2 rfl) ?_
    refine va_iast hx hb hK hP hD hS 1 0 rfl rfl (k_in (by omega) (by omega)) dX6_blank_24 ?_
    clear hP hD hS
    intro H locs hP hD hS
    replace hP : va_P D vwCl [(k, .inr (6, [.ref k0, .ref k1, .ref k2])), (k0, .inl (cI, 4, .inl (upd c0 a0.toNatClampNeg a1))), (k1, .inl (cI, 4, .inl c1)), (k2, .inl (cI, 144, .inl c2))] H := hP
    replace hD : va_D A [(k, .inr (6, [.ref k0, .ref k1, .ref k2])), (k0, .inl (cI, 4, .inl (upd c0 a0.toNatClampNeg a1))), (k1, .inl (cI, 4, .inl c1)), (k2, .inl (cI, 144, .inl c2))] := hD
    obtain ⟨f_10, ef_10⟩ : ∃ g : Nat → Int32, g = upd c0 a0.toNatClampNeg a1 := ⟨_, rfl⟩
    rw [← ef_10] at hP hD
    refine lv_aload_n hx hb dX6_blank_25 rfl (lv_at hl 0 rfl) ?_
    refine va_get (D := D) (ci := 6) (v := .ref k1) (C := RX6) (T := TX6) (N := 3) hx hb hT giX6 hown hK hP 0 rfl rfl 1 (by decide +kernel) (hT (Cond.fieldLink RX6 15 "DesertWire$Sheets" "lengths" "[I") mw_282) (fun _ h9 => h9) rfl dX6_blank_26 ?_
    refine lv_iload_n hx hb dX6_blank_29 rfl (lv_at hl 1 rfl) ?_
    refine lv_iload_n hx hb dX6_blank_30 rfl (lv_at hl 3 rfl) ?_
    refine va_iast hx hb hK hP hD hS 2 0 rfl rfl (k_in (by omega) (by omega)) dX6_blank_31 ?_
    clear hP hD hS
    intro H locs hP hD hS
    replace hP : va_P D vwCl [(k, .inr (6, [.ref k0, .ref k1, .ref k2])), (k0, .inl (cI, 4, .inl f_10)), (k1, .inl (cI, 4, .inl (upd c1 a0.toNatClampNeg a2))), (k2, .inl (cI, 144, .inl c2))] H := hP
    replace hD : va_D A [(k, .inr (6, [.ref k0, .ref k1, .ref k2])), (k0, .inl (cI, 4, .inl f_10)), (k1, .inl (cI, 4, .inl (upd c1 a0.toNatClampNeg a2))), (k2, .inl (cI, 144, .inl c2))] := hD
    obtain ⟨f_11, ef_11⟩ : ∃ g : Nat → Int32, g = upd c1 a0.toNatClampNeg a2 := ⟨_, rfl⟩
    rw [← ef_11] at hP hD
    refine lv_iconst (v := 0) hx hb dX6_blank_32 (by decide +kernel) ?_
    refine lv_istore (lv' := [(4, .int 0), (0, .ref k), (1, .int a0), (2, .int a1), (3, .int a2)]) hx hb dX6_blank_33 hl (by decide +kernel) rfl ?_
    clear hl
    intro ls hl
    have hloop_35 : ∀ (fu_ : Nat) (l35_4 : Int32) (g35_k2 : Nat → Int32), 0 ≤ l35_4.toInt → l35_4.toInt ≤ 36 → g35_k2 = zr c2 (36 * a0.toInt.toNat) l35_4.toInt.toNat → (36 - l35_4.toInt).toNat < fu_ → ∀ (ls : Array Slot) (H : Heap) (locs : List Loc), lv_has ls 5 [(4, .int l35_4), (0, .ref k), (1, .int a0), (2, .int a1), (3, .int a2)] → va_P D vwCl [(k, .inr (6, [.ref k0, .ref k1, .ref k2])), (k0, .inl (cI, 4, .inl f_10)), (k1, .inl (cI, 4, .inl f_11)), (k2, .inl (cI, 144, .inl g35_k2))] H → va_D A [(k, .inr (6, [.ref k0, .ref k1, .ref k2])), (k0, .inl (cI, 4, .inl f_10)), (k1, .inl (cI, 4, .inl f_11)), (k2, .inl (cI, 144, .inl g35_k2))] → va_S A s.heap H locs → W p l e ({ frames := 1, cells := 0, slots := 0, locals := 20 } : Room) s m args below meth c H locs 0 0 Q (F0 m 35 ls []) := by
      intro fu_; induction fu_ with
      | zero => intro l35_4 g35_k2 i35_0 i35_1 i35_2 hm; exact absurd hm (by omega)
      | succ fu_ ih35 =>
          intro l35_4 g35_k2 i35_0 i35_1 i35_2 hm ls H locs hl hP hD hS
          have lo_l35_4 := k_lo l35_4
          have hi_l35_4 := k_hi l35_4
          have i35_2 : g35_k2 = zr c2 (36 * a0.toInt.toNat) l35_4.toInt.toNat := i35_2
          refine lv_iload hx hb dX6_blank_35 (lv_at hl 0 rfl) ?_
          refine lv_bipush (v := 36) hx hb dX6_blank_37 (by decide +kernel) ?_
          refine b_icmp_ge hx hb rfl zl_36 (tgt := 61) dX6_blank_39 (by decide +kernel) (fun c_12 => ?_) (fun c_12 => ?_)
          · exact hRet (f_10, f_11, g35_k2) [0, 1, 2, 3] ⟨(k_PL pre0 ef_11 (by omega) (by omega)), ef_10, ef_11, (by rw [i35_2, show l35_4.toInt.toNat = 36 from by omega])⟩ hP hD (by decide +kernel) rfl hS dX6_blank_61
          · refine lv_aload_n hx hb dX6_blank_42 rfl (lv_at hl 1 rfl) ?_
            refine va_get (D := D) (ci := 6) (v := .ref k2) (C := RX6) (T := TX6) (N := 3) hx hb hT giX6 hown hK hP 0 rfl rfl 2 (by decide +kernel) (hT (Cond.fieldLink RX6 18 "DesertWire$Sheets" "numbers" "[I") mw_283) (fun _ h9 => h9) rfl dX6_blank_43 ?_
            refine lv_iload_n hx hb dX6_blank_46 rfl (lv_at hl 2 rfl) ?_
            refine lv_bipush (v := 36) hx hb dX6_blank_47 (by decide +kernel) ?_
            refine lv_imul hx hb dX6_blank_49 ?_
            refine lv_topi (fun v_13 ev_13 => ?_)
            have tv_13 : v_13.toInt = a0.toInt * 36 := by rw [ev_13]; exact k_mulv rfl zl_36 (by omega) (by omega)
            refine lv_iload hx hb dX6_blank_50 (lv_at hl 0 rfl) ?_
            refine lv_iadd hx hb dX6_blank_52 ?_
            refine lv_topi (fun v_14 ev_14 => ?_)
            have tv_14 : v_14.toInt = v_13.toInt + l35_4.toInt := by rw [ev_14]; exact k_addv rfl rfl (by omega) (by omega)
            refine lv_iconst (v := 0) hx hb dX6_blank_53 (by decide +kernel) ?_
            refine va_iast hx hb hK hP hD hS 3 0 rfl rfl (k_in (by omega) (by omega)) dX6_blank_54 ?_
            clear hP hD hS
            intro H locs hP hD hS
            replace hP : va_P D vwCl [(k, .inr (6, [.ref k0, .ref k1, .ref k2])), (k0, .inl (cI, 4, .inl f_10)), (k1, .inl (cI, 4, .inl f_11)), (k2, .inl (cI, 144, .inl (upd g35_k2 v_14.toNatClampNeg 0)))] H := hP
            replace hD : va_D A [(k, .inr (6, [.ref k0, .ref k1, .ref k2])), (k0, .inl (cI, 4, .inl f_10)), (k1, .inl (cI, 4, .inl f_11)), (k2, .inl (cI, 144, .inl (upd g35_k2 v_14.toNatClampNeg 0)))] := hD
            obtain ⟨f_15, ef_15⟩ : ∃ g : Nat → Int32, g = upd g35_k2 v_14.toNatClampNeg 0 := ⟨_, rfl⟩
            rw [← ef_15] at hP hD
            obtain ⟨v_16, ev_16⟩ : ∃ y : Int32, y = l35_4 + 1 := ⟨_, rfl⟩
            have tv_16 : v_16.toInt = l35_4.toInt + 1 := by rw [ev_16]; exact k_addv rfl zl_1 (by omega) (by omega)
            refine lv_iinc (v := v_16) (lv' := [(4, .int v_16), (0, .ref k), (1, .int a0), (2, .int a1), (3, .int a2)]) hx hb dX6_blank_55 hl (k := 0) rfl (by rw [ev_16]; rfl) (by decide +kernel) rfl ?_
            clear hl
            intro ls hl
            refine lv_goto (tgt := 35) hx hb dX6_blank_58 (by decide +kernel) ?_
            exact ih35 v_16 f_15 (by first | omega | decide | assumption | rfl) (by first | omega | decide | assumption | rfl) (zr_step i35_2 (by omega) (by omega) ef_15 (by omega) rfl) (by omega) ls _ _ (lv_sub hl [0, 1, 2, 3, 4] rfl) (hP.sub [0, 1, 2, 3] rfl) (hD.sub [0, 1, 2, 3] (by decide +kernel) rfl) hS
    exact hloop_35 _ 0 c2 (by first | omega | (simp only [zl_0]; first | done | omega) | decide | assumption | rfl) (by first | omega | (simp only [zl_0]; first | done | omega) | decide | assumption | rfl) (zr_0 zl_0) (Nat.lt_succ_self _) ls _ _ (lv_sub hl [0, 1, 2, 3, 4] rfl) hP hD hS
  · exfalso; omega
theorem bn_cX6_write_0 : BN cX6_write 0 0x164500f01402a84a07812015084422050b04402a84907812015082422050b1843a6912844381300ad456051b8bc380a00ad4563000a6842015b874382b := by
  unfold BN; decide +kernel
theorem dX6_write_0 : decode cX6_write 0 = .ok (.aload_n 0, 1) := dR0 (k := 0) (i := 0) bn_cX6_write_0 dop_42 (by decide +kernel)
theorem dX6_write_1 : decode cX6_write 1 = .ok (.iload_n 1, 1) := dR0 (k := 0) (i := 1) bn_cX6_write_0 dop_27 (by decide +kernel)
theorem dX6_write_2 : decode cX6_write 2 = .ok (.iload_n 2, 1) := dR0 (k := 0) (i := 2) bn_cX6_write_0 dop_28 (by decide +kernel)
theorem dX6_write_3 : decode cX6_write 3 = .ok (.invokevirtual 32, 3) := dR2 (f := Instr.invokevirtual) (k := 0) (i := 3) bn_cX6_write_0 dop_182 32 (by decide +kernel)
theorem dX6_write_6 : decode cX6_write 6 = .ok (.ifCond .eq 47, 3) := dR2s (f := Instr.ifCond .eq) (k := 0) (i := 6) bn_cX6_write_0 dop_153 47 47 (by decide +kernel)
theorem dX6_write_9 : decode cX6_write 9 = .ok (.aload_n 0, 1) := dR0 (k := 0) (i := 9) bn_cX6_write_0 dop_42 (by decide +kernel)
theorem dX6_write_10 : decode cX6_write 10 = .ok (.getfield 9, 3) := dR2 (f := Instr.getfield) (k := 0) (i := 10) bn_cX6_write_0 dop_180 9 (by decide +kernel)
theorem dX6_write_13 : decode cX6_write 13 = .ok (.iload_n 1, 1) := dR0 (k := 0) (i := 13) bn_cX6_write_0 dop_27 (by decide +kernel)
theorem dX6_write_14 : decode cX6_write 14 = .ok (.iaload, 1) := dR0 (k := 0) (i := 14) bn_cX6_write_0 dop_46 (by decide +kernel)
theorem dX6_write_15 : decode cX6_write 15 = .ok (.istore 4, 2) := dR1 (f := Instr.istore) (k := 0) (i := 15) bn_cX6_write_0 dop_54 4 (by decide +kernel)
theorem dX6_write_17 : decode cX6_write 17 = .ok (.aload_n 0, 1) := dR0 (k := 0) (i := 17) bn_cX6_write_0 dop_42 (by decide +kernel)
theorem dX6_write_18 : decode cX6_write 18 = .ok (.getfield 18, 3) := dR2 (f := Instr.getfield) (k := 0) (i := 18) bn_cX6_write_0 dop_180 18 (by decide +kernel)
theorem dX6_write_21 : decode cX6_write 21 = .ok (.iload_n 1, 1) := dR0 (k := 0) (i := 21) bn_cX6_write_0 dop_27 (by decide +kernel)
theorem dX6_write_22 : decode cX6_write 22 = .ok (.bipush 36, 2) := dR1s (f := Instr.bipush) (k := 0) (i := 22) bn_cX6_write_0 dop_16 36 36 (by decide +kernel)
theorem dX6_write_24 : decode cX6_write 24 = .ok (.imul, 1) := dR0 (k := 0) (i := 24) bn_cX6_write_0 dop_104 (by decide +kernel)
theorem dX6_write_25 : decode cX6_write 25 = .ok (.iload_n 2, 1) := dR0 (k := 0) (i := 25) bn_cX6_write_0 dop_28 (by decide +kernel)
theorem dX6_write_26 : decode cX6_write 26 = .ok (.iadd, 1) := dR0 (k := 0) (i := 26) bn_cX6_write_0 dop_96 (by decide +kernel)
theorem dX6_write_27 : decode cX6_write 27 = .ok (.iload 4, 2) := dR1 (f := Instr.iload) (k := 0) (i := 27) bn_cX6_write_0 dop_21 4 (by decide +kernel)
theorem dX6_write_29 : decode cX6_write 29 = .ok (.bipush 8, 2) := dR1s (f := Instr.bipush) (k := 0) (i := 29) bn_cX6_write_0 dop_16 8 8 (by decide +kernel)
theorem dX6_write_31 : decode cX6_write 31 = .ok (.if_icmp .ne 8, 3) := dR2s (f := Instr.if_icmp .ne) (k := 0) (i := 31) bn_cX6_write_0 dop_160 8 8 (by decide +kernel)
theorem dX6_write_34 : decode cX6_write 34 = .ok (.iload_n 3, 1) := dR0 (k := 0) (i := 34) bn_cX6_write_0 dop_29 (by decide +kernel)
theorem dX6_write_35 : decode cX6_write 35 = .ok (.i2b, 1) := dR0 (k := 0) (i := 35) bn_cX6_write_0 dop_145 (by decide +kernel)
theorem dX6_write_36 : decode cX6_write 36 = .ok (.goto 16, 3) := dR2s (f := Instr.goto) (k := 0) (i := 36) bn_cX6_write_0 dop_167 16 16 (by decide +kernel)
theorem dX6_write_39 : decode cX6_write 39 = .ok (.iload 4, 2) := dR1 (f := Instr.iload) (k := 0) (i := 39) bn_cX6_write_0 dop_21 4 (by decide +kernel)
theorem dX6_write_41 : decode cX6_write 41 = .ok (.bipush 16, 2) := dR1s (f := Instr.bipush) (k := 0) (i := 41) bn_cX6_write_0 dop_16 16 16 (by decide +kernel)
theorem dX6_write_43 : decode cX6_write 43 = .ok (.if_icmp .ne 8, 3) := dR2s (f := Instr.if_icmp .ne) (k := 0) (i := 43) bn_cX6_write_0 dop_160 8 8 (by decide +kernel)
theorem dX6_write_46 : decode cX6_write 46 = .ok (.iload_n 3, 1) := dR0 (k := 0) (i := 46) bn_cX6_write_0 dop_29 (by decide +kernel)
theorem dX6_write_47 : decode cX6_write 47 = .ok (.i2s, 1) := dR0 (k := 0) (i := 47) bn_cX6_write_0 dop_147 (by decide +kernel)
theorem dX6_write_48 : decode cX6_write 48 = .ok (.goto 4, 3) := dR2s (f := Instr.goto) (k := 0) (i := 48) bn_cX6_write_0 dop_167 4 4 (by decide +kernel)
theorem dX6_write_51 : decode cX6_write 51 = .ok (.iload_n 3, 1) := dR0 (k := 0) (i := 51) bn_cX6_write_0 dop_29 (by decide +kernel)
theorem dX6_write_52 : decode cX6_write 52 = .ok (.iastore, 1) := dR0 (k := 0) (i := 52) bn_cX6_write_0 dop_79 (by decide +kernel)
theorem dX6_write_53 : decode cX6_write 53 = .ok (.return_, 1) := dR0 (k := 0) (i := 53) bn_cX6_write_0 dop_177 (by decide +kernel)
set_option maxHeartbeats 4000000 in
set_option maxRecDepth 100000 in
theorem c_X6_writeG (l : Launch) (D : va_G) (cI : ClassId) (aK aV : Nat → Nat) (k k0 k1 k2 : Nat) (sz : Nat) (c0 : Nat → Int32) (c1 : Nat → Int32) (c2 : Nat → Int32) (a0 : Int32) (a1 : Int32) (a2 : Int32) (pre0 : ∀ k : Nat, k < 4 → 0 ≤ (c1 k).toInt ∧ (c1 k).toInt ≤ 36) (pre1 : 0 ≤ a0.toInt) (pre2 : a0.toInt ≤ 3) (pre3 : 0 ≤ a1.toInt) (pre4 : a1.toInt < (c1 a0.toNatClampNeg).toInt) : Met l yX6_write (gW yX6_write cX6_write 5 none) ({ frames := 3, cells := 0, slots := 0, locals := 63 } : Room) (kPreX D cI aK aV [.ref k, .int a0, .int a1, .int a2] [(k, .inr (6, [.ref k0, .ref k1, .ref k2])), (k0, .inl (cI, 4, .inl c0)), (k1, .inl (cI, 4, .inl c1)), (k2, .inl (cI, 144, .inl c2))] sz) (va_Qv (fun (u : (Nat → Int32)) => u = upd c2 (36 * a0.toInt.toNat + a1.toInt.toNat) (nrw (c0 a0.toNatClampNeg) a2)) (fun u t => kWd D cI (va_A [(k, .inr (6, [.ref k0, .ref k1, .ref k2])), (k0, .inl (cI, 4, .inl c0)), (k1, .inl (cI, 4, .inl c1)), (k2, .inl (cI, 144, .inl c2))] sz) [(k, .inr (6, [.ref k0, .ref k1, .ref k2])), (k0, .inl (cI, 4, .inl c0)), (k1, .inl (cI, 4, .inl c1)), (k2, .inl (cI, 144, .inl u))] t) (va_A [(k, .inr (6, [.ref k0, .ref k1, .ref k2])), (k0, .inl (cI, 4, .inl c0)), (k1, .inl (cI, 4, .inl c1)), (k2, .inl (cI, 144, .inl c2))] sz)) 0 0 (va_A [(k, .inr (6, [.ref k0, .ref k1, .ref k2])), (k0, .inl (cI, 4, .inl c0)), (k1, .inl (cI, 4, .inl c1)), (k2, .inl (cI, 144, .inl c2))] sz) := by
  refine kMetVX (own := RX6) (by decide +kernel) rfl (Nat.le_of_ble_eq_true rfl) ?_
  intro p e s m args below meth c hx hb hT hown hname hml A Q hK hP hD hS hA hN hXS hRet ls hl
  have hl : lv_has ls 5 [(0, .ref k), (1, .int a0), (2, .int a1), (3, .int a2)] := hl
  have lo_a0 := k_lo a0
  have hi_a0 := k_hi a0
  have lo_a1 := k_lo a1
  have hi_a1 := k_hi a1
  have lo_a2 := k_lo a2
  have hi_a2 := k_hi a2
  have hln := pre0 a0.toNatClampNeg (by rw [k_clamp]; omega)
  refine lv_aload_n hx hb dX6_write_0 rfl (lv_at hl 0 rfl) ?_
  refine lv_iload_n hx hb dX6_write_1 rfl (lv_at hl 1 rfl) ?_
  refine lv_iload_n hx hb dX6_write_2 rfl (lv_at hl 2 rfl) ?_
  refine kJi (wr := [(k0, .inl (cI, 4, .inl c0)), (k2, .inl (cI, 144, .inl c2))]) (va_runV (As := [.int a0, .int a1]) (rest := []) ⟨hx, hb, hml, hown, hT⟩ (c_X6_holdsG l D cI aK aV k k0 k1 k2 s.heap.size c1 a0 a1 (by first | omega | decide | assumption | rfl)) (cwV 2 hT (gV_in mw_688 mw_685 mw_686 mw_687 mw_11) rfl rfl rfl (by decide +kernel) ⟨Nat.le_of_ble_eq_true rfl, Nat.le_of_ble_eq_true rfl⟩) (kRecvX (q0 := 0) (ci := 6) hK hP hD hN hXS hS hA rfl rfl [0, 2] rfl (by decide +kernel)) rfl rfl hl.1 rfl (lv_room (Nat.le_of_ble_eq_true rfl)) dX6_write_3 ⟨Nat.le_of_ble_eq_true rfl, Nat.le_of_ble_eq_true rfl⟩) hP hD hS hA [0, 2] [1, 3] rfl rfl (by decide +kernel) (by decide +kernel) ?_
  clear hP hD hS
  intro r_1 u_3 H locs w_2 hP hD hS
  replace hP : va_P D vwCl [(k0, .inl (cI, 4, .inl c0)), (k2, .inl (cI, 144, .inl c2)), (k, .inr (6, [.ref k0, .ref k1, .ref k2])), (k1, .inl (cI, 4, .inl c1))] H := hP
  replace hD : va_D A [(k0, .inl (cI, 4, .inl c0)), (k2, .inl (cI, 144, .inl c2)), (k, .inr (6, [.ref k0, .ref k1, .ref k2])), (k1, .inl (cI, 4, .inl c1))] := hD
  rcases w_2 with ⟨hr_1, h_4, h_5, h_6, h_7, h_8⟩ | ⟨hr_1, h_9⟩
  · have h_4 : 0 ≤ a0.toInt := h_4
    have h_5 : a0.toInt ≤ 3 := h_5
    have h_6 : 0 ≤ a1.toInt := h_6
    have h_7 : a1.toInt ≤ 35 := h_7
    have h_8 : a1.toInt < (c1 a0.toNatClampNeg).toInt := h_8
    obtain rfl : r_1 = 1 := hr_1.trans (by decide +kernel)
    refine b_if_eq hx hb zl_1 (tgt := 53) dX6_write_6 (by decide +kernel) (fun c_10 => by exfalso; omega) (fun c_10 => ?_)
    refine lv_aload_n hx hb dX6_write_9 rfl (lv_at hl 0 rfl) ?_
    refine va_get (D := D) (ci := 6) (v := .ref k0) (C := RX6) (T := TX6) (N := 3) hx hb hT giX6 hown hK hP 2 rfl rfl 0 (by decide +kernel) (hT (Cond.fieldLink RX6 9 "DesertWire$Sheets" "bits" "[I") mw_281) (fun _ h9 => h9) rfl dX6_write_10 ?_
    refine lv_iload_n hx hb dX6_write_13 rfl (lv_at hl 1 rfl) ?_
    refine k_iald (v := (c0 a0.toNatClampNeg)) hx hb hK hP 0 0 rfl rfl (k_in (by omega) (by omega)) rfl dX6_write_14 ?_
    refine lv_topi (fun v_11 ev_11 => ?_)
    have lo_v_11 := k_lo v_11
    have hi_v_11 := k_hi v_11
    have tv_11 : v_11.toInt = (c0 a0.toNatClampNeg).toInt := by rw [ev_11]
    refine lv_istore (lv' := [(4, .int v_11), (0, .ref k), (1, .int a0), (2, .int a1), (3, .int a2)]) hx hb dX6_write_15 hl (by decide +kernel) rfl ?_
    clear hl
    intro ls hl
    refine lv_aload_n hx hb dX6_write_17 rfl (lv_at hl 1 rfl) ?_
    refine va_get (D := D) (ci := 6) (v := .ref k2) (C := RX6) (T := TX6) (N := 3) hx hb hT giX6 hown hK hP 2 rfl rfl 2 (by decide +kernel) (hT (Cond.fieldLink RX6 18 "DesertWire$Sheets" "numbers" "[I") mw_283) (fun _ h9 => h9) rfl dX6_write_18 ?_
    refine lv_iload_n hx hb dX6_write_21 rfl (lv_at hl 2 rfl) ?_
    refine lv_bipush (v := 36) hx hb dX6_write_22 (by decide +kernel) ?_
    refine lv_imul hx hb dX6_write_24 ?_
    refine lv_topi (fun v_12 ev_12 => ?_)
    have tv_12 : v_12.toInt = a0.toInt * 36 := by rw [ev_12]; exact k_mulv rfl zl_36 (by omega) (by omega)
    refine lv_iload_n hx hb dX6_write_25 rfl (lv_at hl 3 rfl) ?_
    refine lv_iadd hx hb dX6_write_26 ?_
    refine lv_topi (fun v_13 ev_13 => ?_)
    have tv_13 : v_13.toInt = v_12.toInt + a1.toInt := by rw [ev_13]; exact k_addv rfl rfl (by omega) (by omega)
    refine lv_iload hx hb dX6_write_27 (lv_at hl 0 rfl) ?_
    refine lv_bipush (v := 8) hx hb dX6_write_29 (by decide +kernel) ?_
    refine b_icmp_ne hx hb rfl zl_8 (tgt := 39) dX6_write_31 (by decide +kernel) (fun c_14 => ?_) (fun c_14 => ?_)
    · refine lv_iload hx hb dX6_write_39 (lv_at hl 0 rfl) ?_
      refine lv_bipush (v := 16) hx hb dX6_write_41 (by decide +kernel) ?_
      refine b_icmp_ne hx hb rfl zl_16 (tgt := 51) dX6_write_43 (by decide +kernel) (fun c_15 => ?_) (fun c_15 => ?_)
      · refine lv_iload_n hx hb dX6_write_51 rfl (lv_at hl 4 rfl) ?_
        refine va_iast hx hb hK hP hD hS 1 0 rfl rfl (k_in (by omega) (by omega)) dX6_write_52 ?_
        clear hP hD hS
        intro H locs hP hD hS
        replace hP : va_P D vwCl [(k0, .inl (cI, 4, .inl c0)), (k2, .inl (cI, 144, .inl (upd c2 v_13.toNatClampNeg a2))), (k, .inr (6, [.ref k0, .ref k1, .ref k2])), (k1, .inl (cI, 4, .inl c1))] H := hP
        replace hD : va_D A [(k0, .inl (cI, 4, .inl c0)), (k2, .inl (cI, 144, .inl (upd c2 v_13.toNatClampNeg a2))), (k, .inr (6, [.ref k0, .ref k1, .ref k2])), (k1, .inl (cI, 4, .inl c1))] := hD
        obtain ⟨f_16, ef_16⟩ : ∃ g : Nat → Int32, g = upd c2 v_13.toNatClampNeg a2 := ⟨_, rfl⟩
        rw [← ef_16] at hP hD
        exact hRet f_16 [2, 0, 3, 1] (by rw [show nrw (c0 a0.toNatClampNeg) a2 = a2 from (by unfold nrw; (repeat (first | rw [if_pos (by omega)] | rw [if_neg (by omega)])); first | done | exact ex.symm)]; exact up_in ef_16 (by omega)) hP hD (by decide +kernel) rfl hS dX6_write_53
      · refine lv_iload_n hx hb dX6_write_46 rfl (lv_at hl 4 rfl) ?_
        refine lv_i2s (v := a2.toInt16.toInt32) hx hb dX6_write_47 rfl ?_
        refine lv_topi (fun v_17 ev_17 => ?_)
        have lo_v_17 := k_lo v_17
        have hi_v_17 := k_hi v_17
        refine lv_goto (tgt := 52) hx hb dX6_write_48 (by decide +kernel) ?_
        refine va_iast hx hb hK hP hD hS 1 0 rfl rfl (k_in (by omega) (by omega)) dX6_write_52 ?_
        clear hP hD hS
        intro H locs hP hD hS
        replace hP : va_P D vwCl [(k0, .inl (cI, 4, .inl c0)), (k2, .inl (cI, 144, .inl (upd c2 v_13.toNatClampNeg v_17))), (k, .inr (6, [.ref k0, .ref k1, .ref k2])), (k1, .inl (cI, 4, .inl c1))] H := hP
        replace hD : va_D A [(k0, .inl (cI, 4, .inl c0)), (k2, .inl (cI, 144, .inl (upd c2 v_13.toNatClampNeg v_17))), (k, .inr (6, [.ref k0, .ref k1, .ref k2])), (k1, .inl (cI, 4, .inl c1))] := hD
        obtain ⟨f_18, ef_18⟩ : ∃ g : Nat → Int32, g = upd c2 v_13.toNatClampNeg v_17 := ⟨_, rfl⟩
        rw [← ef_18] at hP hD
        exact hRet f_18 [2, 0, 3, 1] (by rw [show nrw (c0 a0.toNatClampNeg) a2 = v_17 from (by unfold nrw; (repeat (first | rw [if_pos (by omega)] | rw [if_neg (by omega)])); first | done | exact ev_17.symm)]; exact up_in ef_18 (by omega)) hP hD (by decide +kernel) rfl hS dX6_write_53
    · refine lv_iload_n hx hb dX6_write_34 rfl (lv_at hl 4 rfl) ?_
      refine lv_i2b (v := a2.toInt8.toInt32) hx hb dX6_write_35 rfl ?_
      refine lv_topi (fun v_19 ev_19 => ?_)
      have lo_v_19 := k_lo v_19
      have hi_v_19 := k_hi v_19
      refine lv_goto (tgt := 52) hx hb dX6_write_36 (by decide +kernel) ?_
      refine va_iast hx hb hK hP hD hS 1 0 rfl rfl (k_in (by omega) (by omega)) dX6_write_52 ?_
      clear hP hD hS
      intro H locs hP hD hS
      replace hP : va_P D vwCl [(k0, .inl (cI, 4, .inl c0)), (k2, .inl (cI, 144, .inl (upd c2 v_13.toNatClampNeg v_19))), (k, .inr (6, [.ref k0, .ref k1, .ref k2])), (k1, .inl (cI, 4, .inl c1))] H := hP
      replace hD : va_D A [(k0, .inl (cI, 4, .inl c0)), (k2, .inl (cI, 144, .inl (upd c2 v_13.toNatClampNeg v_19))), (k, .inr (6, [.ref k0, .ref k1, .ref k2])), (k1, .inl (cI, 4, .inl c1))] := hD
      obtain ⟨f_20, ef_20⟩ : ∃ g : Nat → Int32, g = upd c2 v_13.toNatClampNeg v_19 := ⟨_, rfl⟩
      rw [← ef_20] at hP hD
      exact hRet f_20 [2, 0, 3, 1] (by rw [show nrw (c0 a0.toNatClampNeg) a2 = v_19 from (by unfold nrw; (repeat (first | rw [if_pos (by omega)] | rw [if_neg (by omega)])); first | done | exact ev_19.symm)]; exact up_in ef_20 (by omega)) hP hD (by decide +kernel) rfl hS dX6_write_53
  · exfalso; omega
theorem bn_cX6_spans_0 : BN cX6_spans 0 0x15a040280550050400548650e87802b70e0ac3c1300a903c015b870561d0e005381e10005381d := by
  unfold BN; decide +kernel
theorem dX6_spans_0 : decode cX6_spans 0 = .ok (.iload_n 2, 1) := dR0 (k := 0) (i := 0) bn_cX6_spans_0 dop_28 (by decide +kernel)
theorem dX6_spans_1 : decode cX6_spans 1 = .ok (.ifCond .lt 31, 3) := dR2s (f := Instr.ifCond .lt) (k := 0) (i := 1) bn_cX6_spans_0 dop_155 31 31 (by decide +kernel)
theorem dX6_spans_4 : decode cX6_spans 4 = .ok (.iload_n 3, 1) := dR0 (k := 0) (i := 4) bn_cX6_spans_0 dop_29 (by decide +kernel)
theorem dX6_spans_5 : decode cX6_spans 5 = .ok (.ifCond .lt 27, 3) := dR2s (f := Instr.ifCond .lt) (k := 0) (i := 5) bn_cX6_spans_0 dop_155 27 27 (by decide +kernel)
theorem dX6_spans_8 : decode cX6_spans 8 = .ok (.iload_n 2, 1) := dR0 (k := 0) (i := 8) bn_cX6_spans_0 dop_28 (by decide +kernel)
theorem dX6_spans_9 : decode cX6_spans 9 = .ok (.aload_n 0, 1) := dR0 (k := 0) (i := 9) bn_cX6_spans_0 dop_42 (by decide +kernel)
theorem dX6_spans_10 : decode cX6_spans 10 = .ok (.iload_n 1, 1) := dR0 (k := 0) (i := 10) bn_cX6_spans_0 dop_27 (by decide +kernel)
theorem dX6_spans_11 : decode cX6_spans 11 = .ok (.invokevirtual 29, 3) := dR2 (f := Instr.invokevirtual) (k := 0) (i := 11) bn_cX6_spans_0 dop_182 29 (by decide +kernel)
theorem dX6_spans_14 : decode cX6_spans 14 = .ok (.if_icmp .gt 18, 3) := dR2s (f := Instr.if_icmp .gt) (k := 0) (i := 14) bn_cX6_spans_0 dop_163 18 18 (by decide +kernel)
theorem dX6_spans_17 : decode cX6_spans 17 = .ok (.iload_n 3, 1) := dR0 (k := 0) (i := 17) bn_cX6_spans_0 dop_29 (by decide +kernel)
theorem dX6_spans_18 : decode cX6_spans 18 = .ok (.aload_n 0, 1) := dR0 (k := 0) (i := 18) bn_cX6_spans_0 dop_42 (by decide +kernel)
theorem dX6_spans_19 : decode cX6_spans 19 = .ok (.iload_n 1, 1) := dR0 (k := 0) (i := 19) bn_cX6_spans_0 dop_27 (by decide +kernel)
theorem dX6_spans_20 : decode cX6_spans 20 = .ok (.invokevirtual 29, 3) := dR2 (f := Instr.invokevirtual) (k := 0) (i := 20) bn_cX6_spans_0 dop_182 29 (by decide +kernel)
theorem dX6_spans_23 : decode cX6_spans 23 = .ok (.iload_n 2, 1) := dR0 (k := 0) (i := 23) bn_cX6_spans_0 dop_28 (by decide +kernel)
theorem dX6_spans_24 : decode cX6_spans 24 = .ok (.isub, 1) := dR0 (k := 0) (i := 24) bn_cX6_spans_0 dop_100 (by decide +kernel)
theorem dX6_spans_25 : decode cX6_spans 25 = .ok (.if_icmp .gt 7, 3) := dR2s (f := Instr.if_icmp .gt) (k := 0) (i := 25) bn_cX6_spans_0 dop_163 7 7 (by decide +kernel)
theorem dX6_spans_28 : decode cX6_spans 28 = .ok (.iconst 1, 1) := dR0 (k := 0) (i := 28) bn_cX6_spans_0 dop_4 (by decide +kernel)
theorem dX6_spans_29 : decode cX6_spans 29 = .ok (.goto 4, 3) := dR2s (f := Instr.goto) (k := 0) (i := 29) bn_cX6_spans_0 dop_167 4 4 (by decide +kernel)
theorem dX6_spans_32 : decode cX6_spans 32 = .ok (.iconst 0, 1) := dR0 (k := 0) (i := 32) bn_cX6_spans_0 dop_3 (by decide +kernel)
theorem dX6_spans_33 : decode cX6_spans 33 = .ok (.ireturn, 1) := dR0 (k := 0) (i := 33) bn_cX6_spans_0 dop_172 (by decide +kernel)
set_option maxHeartbeats 4000000 in
set_option maxRecDepth 100000 in
theorem c_X6_spansG (l : Launch) (D : va_G) (cI : ClassId) (aK aV : Nat → Nat) (k k0 k1 k2 : Nat) (sz : Nat) (c1 : Nat → Int32) (a0 : Int32) (a1 : Int32) (a2 : Int32) (pre0 : ∀ k : Nat, k < 4 → 0 ≤ (c1 k).toInt ∧ (c1 k).toInt ≤ 36) (pre1 : 0 ≤ a0.toInt) (pre2 : a0.toInt ≤ 3) : Met l yX6_spans (gW yX6_spans cX6_spans 4 (some .boolean)) ({ frames := 2, cells := 0, slots := 0, locals := 41 } : Room) (kPreX D cI aK aV [.ref k, .int a0, .int a1, .int a2] [(k, .inr (6, [.ref k0, .ref k1, .ref k2])), (k1, .inl (cI, 4, .inl c1))] sz) (va_Qi (fun (r : Int32) (u : Unit) => (r = 1 ∧ 0 ≤ a1.toInt ∧ 0 ≤ a2.toInt ∧ a1.toInt + a2.toInt ≤ (c1 a0.toNatClampNeg).toInt) ∨ (r = 0 ∧ (a1.toInt < 0 ∨ a2.toInt < 0 ∨ (c1 a0.toNatClampNeg).toInt < a1.toInt + a2.toInt))) (fun u t => kWd D cI (va_A [(k, .inr (6, [.ref k0, .ref k1, .ref k2])), (k1, .inl (cI, 4, .inl c1))] sz) [(k, .inr (6, [.ref k0, .ref k1, .ref k2])), (k1, .inl (cI, 4, .inl c1))] t) (va_A [(k, .inr (6, [.ref k0, .ref k1, .ref k2])), (k1, .inl (cI, 4, .inl c1))] sz)) 0 0 (va_A [(k, .inr (6, [.ref k0, .ref k1, .ref k2])), (k1, .inl (cI, 4, .inl c1))] sz) := by
  refine kMetIX (own := RX6) (by decide +kernel) rfl (Nat.le_of_ble_eq_true rfl) ?_
  intro p e s m args below meth c hx hb hT hown hname hml A Q hK hP hD hS hA hN hXS hRet ls hl
  have hl : lv_has ls 4 [(0, .ref k), (1, .int a0), (2, .int a1), (3, .int a2)] := hl
  have lo_a0 := k_lo a0
  have hi_a0 := k_hi a0
  have lo_a1 := k_lo a1
  have hi_a1 := k_hi a1
  have lo_a2 := k_lo a2
  have hi_a2 := k_hi a2
  have hln := pre0 a0.toNatClampNeg (by rw [k_clamp]; omega)
  refine lv_iload_n hx hb dX6_spans_0 rfl (lv_at hl 2 rfl) ?_
  refine b_if_lt hx hb rfl (tgt := 32) dX6_spans_1 (by decide +kernel) (fun c_1 => ?_) (fun c_1 => ?_)
  · refine lv_iconst (v := 0) hx hb dX6_spans_32 (by decide +kernel) ?_
    exact hRet () [0, 1] (Or.inr (⟨rfl, (by omega)⟩)) hP hD (by decide +kernel) rfl hS rfl dX6_spans_33
  · refine lv_iload_n hx hb dX6_spans_4 rfl (lv_at hl 3 rfl) ?_
    refine b_if_lt hx hb rfl (tgt := 32) dX6_spans_5 (by decide +kernel) (fun c_2 => ?_) (fun c_2 => ?_)
    · refine lv_iconst (v := 0) hx hb dX6_spans_32 (by decide +kernel) ?_
      exact hRet () [0, 1] (Or.inr (⟨rfl, (by omega)⟩)) hP hD (by decide +kernel) rfl hS rfl dX6_spans_33
    · refine lv_iload_n hx hb dX6_spans_8 rfl (lv_at hl 2 rfl) ?_
      refine lv_aload_n hx hb dX6_spans_9 rfl (lv_at hl 0 rfl) ?_
      refine lv_iload_n hx hb dX6_spans_10 rfl (lv_at hl 1 rfl) ?_
      refine kJi (wr := []) (va_runV (As := [.int a0]) (rest := [.int a1]) ⟨hx, hb, hml, hown, hT⟩ (c_X6_lengthOfG l D cI aK aV k k0 k1 k2 s.heap.size c1 a0 (by first | omega | decide | assumption | rfl)) (cwV 1 hT (gV_in mw_675 mw_680 mw_673 mw_674 mw_11) rfl rfl rfl (by decide +kernel) ⟨Nat.le_of_ble_eq_true rfl, Nat.le_of_ble_eq_true rfl⟩) (kRecvX (q0 := 0) (ci := 6) hK hP hD hN hXS hS hA rfl rfl [0, 1] rfl (by decide +kernel)) rfl rfl hl.1 rfl (lv_room (Nat.le_of_ble_eq_true rfl)) dX6_spans_11 ⟨Nat.le_of_ble_eq_true rfl, Nat.le_of_ble_eq_true rfl⟩) hP hD hS hA [0, 1] [] rfl rfl (by decide +kernel) (by decide +kernel) ?_
      clear hP hD hS
      intro r_3 u_5 H locs w_4 hP hD hS
      replace hP : va_P D vwCl [(k, .inr (6, [.ref k0, .ref k1, .ref k2])), (k1, .inl (cI, 4, .inl c1))] H := hP
      replace hD : va_D A [(k, .inr (6, [.ref k0, .ref k1, .ref k2])), (k1, .inl (cI, 4, .inl c1))] := hD
      rcases w_4 with ⟨h_6, h_7, h_8, h_9, h_10⟩ | ⟨hr_3, h_11⟩
      · have h_6 : 0 ≤ a0.toInt := h_6
        have h_7 : a0.toInt ≤ 3 := h_7
        have h_8 : 0 ≤ r_3.toInt := h_8
        have h_9 : r_3.toInt ≤ 36 := h_9
        have h_10 : r_3.toInt = (c1 a0.toNatClampNeg).toInt := h_10
        have lo_r_3 := k_lo r_3
        have hi_r_3 := k_hi r_3
        refine b_icmp_gt hx hb rfl rfl (tgt := 32) dX6_spans_14 (by decide +kernel) (fun c_12 => ?_) (fun c_12 => ?_)
        · refine lv_iconst (v := 0) hx hb dX6_spans_32 (by decide +kernel) ?_
          exact hRet () [0, 1] (Or.inr (⟨rfl, (by omega)⟩)) hP hD (by decide +kernel) rfl hS rfl dX6_spans_33
        · refine lv_iload_n hx hb dX6_spans_17 rfl (lv_at hl 3 rfl) ?_
          refine lv_aload_n hx hb dX6_spans_18 rfl (lv_at hl 0 rfl) ?_
          refine lv_iload_n hx hb dX6_spans_19 rfl (lv_at hl 1 rfl) ?_
          refine kJi (wr := []) (va_runV (As := [.int a0]) (rest := [.int a2]) ⟨hx, hb, hml, hown, hT⟩ (c_X6_lengthOfG l D cI aK aV k k0 k1 k2 H.size c1 a0 (by first | omega | decide | assumption | rfl)) (cwV 1 hT (gV_in mw_675 mw_680 mw_673 mw_674 mw_11) rfl rfl rfl (by decide +kernel) ⟨Nat.le_of_ble_eq_true rfl, Nat.le_of_ble_eq_true rfl⟩) (kRecvX (q0 := 0) (ci := 6) hK hP hD hN hXS hS hA rfl rfl [0, 1] rfl (by decide +kernel)) rfl rfl hl.1 rfl (lv_room (Nat.le_of_ble_eq_true rfl)) dX6_spans_20 ⟨Nat.le_of_ble_eq_true rfl, Nat.le_of_ble_eq_true rfl⟩) hP hD hS hA [0, 1] [] rfl rfl (by decide +kernel) (by decide +kernel) ?_
          clear hP hD hS
          intro r_13 u_15 H locs w_14 hP hD hS
          replace hP : va_P D vwCl [(k, .inr (6, [.ref k0, .ref k1, .ref k2])), (k1, .inl (cI, 4, .inl c1))] H := hP
          replace hD : va_D A [(k, .inr (6, [.ref k0, .ref k1, .ref k2])), (k1, .inl (cI, 4, .inl c1))] := hD
          rcases w_14 with ⟨h_16, h_17, h_18, h_19, h_20⟩ | ⟨hr_13, h_21⟩
          · have h_16 : 0 ≤ a0.toInt := h_16
            have h_17 : a0.toInt ≤ 3 := h_17
            have h_18 : 0 ≤ r_13.toInt := h_18
            have h_19 : r_13.toInt ≤ 36 := h_19
            have h_20 : r_13.toInt = (c1 a0.toNatClampNeg).toInt := h_20
            have lo_r_13 := k_lo r_13
            have hi_r_13 := k_hi r_13
            refine lv_iload_n hx hb dX6_spans_23 rfl (lv_at hl 2 rfl) ?_
            refine lv_isub hx hb dX6_spans_24 ?_
            refine lv_topi (fun v_22 ev_22 => ?_)
            have tv_22 : v_22.toInt = r_13.toInt - a1.toInt := by rw [ev_22]; exact k_subv rfl rfl (by omega) (by omega)
            refine b_icmp_gt hx hb rfl rfl (tgt := 32) dX6_spans_25 (by decide +kernel) (fun c_23 => ?_) (fun c_23 => ?_)
            · refine lv_iconst (v := 0) hx hb dX6_spans_32 (by decide +kernel) ?_
              exact hRet () [0, 1] (Or.inr (⟨rfl, (by omega)⟩)) hP hD (by decide +kernel) rfl hS rfl dX6_spans_33
            · refine lv_iconst (v := 1) hx hb dX6_spans_28 (by decide +kernel) ?_
              refine lv_goto (tgt := 33) hx hb dX6_spans_29 (by decide +kernel) ?_
              exact hRet () [0, 1] (Or.inl ⟨rfl, (by omega), (by omega), (by omega)⟩) hP hD (by decide +kernel) rfl hS rfl dX6_spans_33
          · exfalso; omega
      · exfalso; omega
theorem bn_cX6_transfer_0 : BN cX6_transfer 0 0x590c002b903058c2050b1a44a110f04c02b5159843a6912844381300ad4561e00a6834015c8784a014d06802b90e0b0029a168056e060b0142c1e158e0029a168056e060b074382b := by
  unfold BN; decide +kernel
theorem dX6_transfer_0 : decode cX6_transfer 0 = .ok (.aload_n 0, 1) := dR0 (k := 0) (i := 0) bn_cX6_transfer_0 dop_42 (by decide +kernel)
theorem dX6_transfer_1 : decode cX6_transfer 1 = .ok (.iload_n 1, 1) := dR0 (k := 0) (i := 1) bn_cX6_transfer_0 dop_27 (by decide +kernel)
theorem dX6_transfer_2 : decode cX6_transfer 2 = .ok (.iload_n 2, 1) := dR0 (k := 0) (i := 2) bn_cX6_transfer_0 dop_28 (by decide +kernel)
theorem dX6_transfer_3 : decode cX6_transfer 3 = .ok (.iload 5, 2) := dR1 (f := Instr.iload) (k := 0) (i := 3) bn_cX6_transfer_0 dop_21 5 (by decide +kernel)
theorem dX6_transfer_5 : decode cX6_transfer 5 = .ok (.invokevirtual 44, 3) := dR2 (f := Instr.invokevirtual) (k := 0) (i := 5) bn_cX6_transfer_0 dop_182 44 (by decide +kernel)
theorem dX6_transfer_8 : decode cX6_transfer 8 = .ok (.ifCond .eq 55, 3) := dR2s (f := Instr.ifCond .eq) (k := 0) (i := 8) bn_cX6_transfer_0 dop_153 55 55 (by decide +kernel)
theorem dX6_transfer_11 : decode cX6_transfer 11 = .ok (.aload_n 0, 1) := dR0 (k := 0) (i := 11) bn_cX6_transfer_0 dop_42 (by decide +kernel)
theorem dX6_transfer_12 : decode cX6_transfer 12 = .ok (.iload_n 3, 1) := dR0 (k := 0) (i := 12) bn_cX6_transfer_0 dop_29 (by decide +kernel)
theorem dX6_transfer_13 : decode cX6_transfer 13 = .ok (.iload 4, 2) := dR1 (f := Instr.iload) (k := 0) (i := 13) bn_cX6_transfer_0 dop_21 4 (by decide +kernel)
theorem dX6_transfer_15 : decode cX6_transfer 15 = .ok (.iload 5, 2) := dR1 (f := Instr.iload) (k := 0) (i := 15) bn_cX6_transfer_0 dop_21 5 (by decide +kernel)
theorem dX6_transfer_17 : decode cX6_transfer 17 = .ok (.invokevirtual 44, 3) := dR2 (f := Instr.invokevirtual) (k := 0) (i := 17) bn_cX6_transfer_0 dop_182 44 (by decide +kernel)
theorem dX6_transfer_20 : decode cX6_transfer 20 = .ok (.ifCond .eq 43, 3) := dR2s (f := Instr.ifCond .eq) (k := 0) (i := 20) bn_cX6_transfer_0 dop_153 43 43 (by decide +kernel)
theorem dX6_transfer_23 : decode cX6_transfer 23 = .ok (.iload_n 1, 1) := dR0 (k := 0) (i := 23) bn_cX6_transfer_0 dop_27 (by decide +kernel)
theorem dX6_transfer_24 : decode cX6_transfer 24 = .ok (.invokestatic 25, 3) := dR2 (f := Instr.invokestatic) (k := 0) (i := 24) bn_cX6_transfer_0 dop_184 25 (by decide +kernel)
theorem dX6_transfer_27 : decode cX6_transfer 27 = .ok (.ifCond .eq 36, 3) := dR2s (f := Instr.ifCond .eq) (k := 0) (i := 27) bn_cX6_transfer_0 dop_153 36 36 (by decide +kernel)
theorem dX6_transfer_30 : decode cX6_transfer 30 = .ok (.iload_n 3, 1) := dR0 (k := 0) (i := 30) bn_cX6_transfer_0 dop_29 (by decide +kernel)
theorem dX6_transfer_31 : decode cX6_transfer 31 = .ok (.invokestatic 25, 3) := dR2 (f := Instr.invokestatic) (k := 0) (i := 31) bn_cX6_transfer_0 dop_184 25 (by decide +kernel)
theorem dX6_transfer_34 : decode cX6_transfer 34 = .ok (.ifCond .eq 29, 3) := dR2s (f := Instr.ifCond .eq) (k := 0) (i := 34) bn_cX6_transfer_0 dop_153 29 29 (by decide +kernel)
theorem dX6_transfer_37 : decode cX6_transfer 37 = .ok (.aload_n 0, 1) := dR0 (k := 0) (i := 37) bn_cX6_transfer_0 dop_42 (by decide +kernel)
theorem dX6_transfer_38 : decode cX6_transfer 38 = .ok (.getfield 18, 3) := dR2 (f := Instr.getfield) (k := 0) (i := 38) bn_cX6_transfer_0 dop_180 18 (by decide +kernel)
theorem dX6_transfer_41 : decode cX6_transfer 41 = .ok (.iload_n 1, 1) := dR0 (k := 0) (i := 41) bn_cX6_transfer_0 dop_27 (by decide +kernel)
theorem dX6_transfer_42 : decode cX6_transfer 42 = .ok (.bipush 36, 2) := dR1s (f := Instr.bipush) (k := 0) (i := 42) bn_cX6_transfer_0 dop_16 36 36 (by decide +kernel)
theorem dX6_transfer_44 : decode cX6_transfer 44 = .ok (.imul, 1) := dR0 (k := 0) (i := 44) bn_cX6_transfer_0 dop_104 (by decide +kernel)
theorem dX6_transfer_45 : decode cX6_transfer 45 = .ok (.iload_n 2, 1) := dR0 (k := 0) (i := 45) bn_cX6_transfer_0 dop_28 (by decide +kernel)
theorem dX6_transfer_46 : decode cX6_transfer 46 = .ok (.iadd, 1) := dR0 (k := 0) (i := 46) bn_cX6_transfer_0 dop_96 (by decide +kernel)
theorem dX6_transfer_47 : decode cX6_transfer 47 = .ok (.aload_n 0, 1) := dR0 (k := 0) (i := 47) bn_cX6_transfer_0 dop_42 (by decide +kernel)
theorem dX6_transfer_48 : decode cX6_transfer 48 = .ok (.getfield 18, 3) := dR2 (f := Instr.getfield) (k := 0) (i := 48) bn_cX6_transfer_0 dop_180 18 (by decide +kernel)
theorem dX6_transfer_51 : decode cX6_transfer 51 = .ok (.iload_n 3, 1) := dR0 (k := 0) (i := 51) bn_cX6_transfer_0 dop_29 (by decide +kernel)
theorem dX6_transfer_52 : decode cX6_transfer 52 = .ok (.bipush 36, 2) := dR1s (f := Instr.bipush) (k := 0) (i := 52) bn_cX6_transfer_0 dop_16 36 36 (by decide +kernel)
theorem dX6_transfer_54 : decode cX6_transfer 54 = .ok (.imul, 1) := dR0 (k := 0) (i := 54) bn_cX6_transfer_0 dop_104 (by decide +kernel)
theorem dX6_transfer_55 : decode cX6_transfer 55 = .ok (.iload 4, 2) := dR1 (f := Instr.iload) (k := 0) (i := 55) bn_cX6_transfer_0 dop_21 4 (by decide +kernel)
theorem dX6_transfer_57 : decode cX6_transfer 57 = .ok (.iadd, 1) := dR0 (k := 0) (i := 57) bn_cX6_transfer_0 dop_96 (by decide +kernel)
theorem dX6_transfer_58 : decode cX6_transfer 58 = .ok (.iload 5, 2) := dR1 (f := Instr.iload) (k := 0) (i := 58) bn_cX6_transfer_0 dop_21 5 (by decide +kernel)
theorem dX6_transfer_60 : decode cX6_transfer 60 = .ok (.invokestatic 47, 3) := dR2 (f := Instr.invokestatic) (k := 0) (i := 60) bn_cX6_transfer_0 dop_184 47 (by decide +kernel)
theorem dX6_transfer_63 : decode cX6_transfer 63 = .ok (.return_, 1) := dR0 (k := 0) (i := 63) bn_cX6_transfer_0 dop_177 (by decide +kernel)
set_option maxHeartbeats 4000000 in
set_option maxRecDepth 100000 in
theorem c_X6_transferG (l : Launch) (D : va_G) (cI : ClassId) (aK aV : Nat → Nat) (k k0 k1 k2 : Nat) (sz : Nat) (c1 : Nat → Int32) (c2 : Nat → Int32) (a0 : Int32) (a1 : Int32) (a2 : Int32) (a3 : Int32) (a4 : Int32) (pre0 : ∀ k : Nat, k < 4 → 0 ≤ (c1 k).toInt ∧ (c1 k).toInt ≤ 36) (pre1 : 0 ≤ a0.toInt) (pre2 : a0.toInt ≤ 3) (pre3 : 0 ≤ a2.toInt) (pre4 : a2.toInt ≤ 3) (pre5 : 0 ≤ a1.toInt) (pre6 : 0 ≤ a3.toInt) (pre7 : 0 ≤ a4.toInt) (pre8 : a1.toInt + a4.toInt ≤ (c1 a0.toNatClampNeg).toInt) (pre9 : a3.toInt + a4.toInt ≤ (c1 a2.toNatClampNeg).toInt) : Met l yX6_transfer (gW yX6_transfer cX6_transfer 6 none) ({ frames := 3, cells := 0, slots := 0, locals := 64 } : Room) (kPreX D cI aK aV [.ref k, .int a0, .int a1, .int a2, .int a3, .int a4] [(k, .inr (6, [.ref k0, .ref k1, .ref k2])), (k1, .inl (cI, 4, .inl c1)), (k2, .inl (cI, 144, .inl c2))] sz) (va_Qv (fun (u : (Nat → Int32)) => u = va_cpy c2 c2 (36 * a0.toInt.toNat + a1.toInt.toNat) (36 * a2.toInt.toNat + a3.toInt.toNat) a4.toInt.toNat) (fun u t => kWd D cI (va_A [(k, .inr (6, [.ref k0, .ref k1, .ref k2])), (k1, .inl (cI, 4, .inl c1)), (k2, .inl (cI, 144, .inl c2))] sz) [(k, .inr (6, [.ref k0, .ref k1, .ref k2])), (k1, .inl (cI, 4, .inl c1)), (k2, .inl (cI, 144, .inl u))] t) (va_A [(k, .inr (6, [.ref k0, .ref k1, .ref k2])), (k1, .inl (cI, 4, .inl c1)), (k2, .inl (cI, 144, .inl c2))] sz)) 0 0 (va_A [(k, .inr (6, [.ref k0, .ref k1, .ref k2])), (k1, .inl (cI, 4, .inl c1)), (k2, .inl (cI, 144, .inl c2))] sz) := by
  refine kMetVX (own := RX6) (by decide +kernel) rfl (Nat.le_of_ble_eq_true rfl) ?_
  intro p e s m args below meth c hx hb hT hown hname hml A Q hK hP hD hS hA hN hXS hRet ls hl
  have hl : lv_has ls 6 [(0, .ref k), (1, .int a0), (2, .int a1), (3, .int a2), (4, .int a3), (5, .int a4)] := hl
  have lo_a0 := k_lo a0
  have hi_a0 := k_hi a0
  have lo_a1 := k_lo a1
  have hi_a1 := k_hi a1
  have lo_a2 := k_lo a2
  have hi_a2 := k_hi a2
  have lo_a3 := k_lo a3
  have hi_a3 := k_hi a3
  have lo_a4 := k_lo a4
  have hi_a4 := k_hi a4
  have hln := pre0 a0.toNatClampNeg (by rw [k_clamp]; omega)
  have hln2 := pre0 a2.toNatClampNeg (by rw [k_clamp]; omega)
  refine lv_aload_n hx hb dX6_transfer_0 rfl (lv_at hl 0 rfl) ?_
  refine lv_iload_n hx hb dX6_transfer_1 rfl (lv_at hl 1 rfl) ?_
  refine lv_iload_n hx hb dX6_transfer_2 rfl (lv_at hl 2 rfl) ?_
  refine lv_iload hx hb dX6_transfer_3 (lv_at hl 5 rfl) ?_
  refine kJi (wr := [(k2, .inl (cI, 144, .inl c2))]) (va_runV (As := [.int a0, .int a1, .int a4]) (rest := []) ⟨hx, hb, hml, hown, hT⟩ (c_X6_spansG l D cI aK aV k k0 k1 k2 s.heap.size c1 a0 a1 a4 (by first | omega | decide | assumption | rfl) (by first | omega | decide | assumption | rfl) (by first | omega | decide | assumption | rfl)) (cwV 3 hT (gV_in mw_1094 mw_1099 mw_1092 mw_1093 mw_11) rfl rfl rfl (by decide +kernel) ⟨Nat.le_of_ble_eq_true rfl, Nat.le_of_ble_eq_true rfl⟩) (kRecvX (q0 := 0) (ci := 6) hK hP hD hN hXS hS hA rfl rfl [0, 1] rfl (by decide +kernel)) rfl rfl hl.1 rfl (lv_room (Nat.le_of_ble_eq_true rfl)) dX6_transfer_5 ⟨Nat.le_of_ble_eq_true rfl, Nat.le_of_ble_eq_true rfl⟩) hP hD hS hA [0, 1] [2] rfl rfl (by decide +kernel) (by decide +kernel) ?_
  clear hP hD hS
  intro r_1 u_3 H locs w_2 hP hD hS
  replace hP : va_P D vwCl [(k2, .inl (cI, 144, .inl c2)), (k, .inr (6, [.ref k0, .ref k1, .ref k2])), (k1, .inl (cI, 4, .inl c1))] H := hP
  replace hD : va_D A [(k2, .inl (cI, 144, .inl c2)), (k, .inr (6, [.ref k0, .ref k1, .ref k2])), (k1, .inl (cI, 4, .inl c1))] := hD
  rcases w_2 with ⟨hr_1, h_4, h_5, h_6⟩ | ⟨hr_1, h_7⟩
  · have h_4 : 0 ≤ a1.toInt := h_4
    have h_5 : 0 ≤ a4.toInt := h_5
    have h_6 : a1.toInt + a4.toInt ≤ (c1 a0.toNatClampNeg).toInt := h_6
    obtain rfl : r_1 = 1 := hr_1.trans (by decide +kernel)
    refine b_if_eq hx hb zl_1 (tgt := 63) dX6_transfer_8 (by decide +kernel) (fun c_8 => by exfalso; omega) (fun c_8 => ?_)
    refine lv_aload_n hx hb dX6_transfer_11 rfl (lv_at hl 0 rfl) ?_
    refine lv_iload_n hx hb dX6_transfer_12 rfl (lv_at hl 3 rfl) ?_
    refine lv_iload hx hb dX6_transfer_13 (lv_at hl 4 rfl) ?_
    refine lv_iload hx hb dX6_transfer_15 (lv_at hl 5 rfl) ?_
    refine kJi (wr := [(k2, .inl (cI, 144, .inl c2))]) (va_runV (As := [.int a2, .int a3, .int a4]) (rest := []) ⟨hx, hb, hml, hown, hT⟩ (c_X6_spansG l D cI aK aV k k0 k1 k2 H.size c1 a2 a3 a4 (by first | omega | decide | assumption | rfl) (by first | omega | decide | assumption | rfl) (by first | omega | decide | assumption | rfl)) (cwV 3 hT (gV_in mw_1094 mw_1099 mw_1092 mw_1093 mw_11) rfl rfl rfl (by decide +kernel) ⟨Nat.le_of_ble_eq_true rfl, Nat.le_of_ble_eq_true rfl⟩) (kRecvX (q0 := 1) (ci := 6) hK hP hD hN hXS hS hA rfl rfl [1, 2] rfl (by decide +kernel)) rfl rfl hl.1 rfl (lv_room (Nat.le_of_ble_eq_true rfl)) dX6_transfer_17 ⟨Nat.le_of_ble_eq_true rfl, Nat.le_of_ble_eq_true rfl⟩) hP hD hS hA [1, 2] [0] rfl rfl (by decide +kernel) (by decide +kernel) ?_
    clear hP hD hS
    intro r_9 u_11 H locs w_10 hP hD hS
    replace hP : va_P D vwCl [(k2, .inl (cI, 144, .inl c2)), (k, .inr (6, [.ref k0, .ref k1, .ref k2])), (k1, .inl (cI, 4, .inl c1))] H := hP
    replace hD : va_D A [(k2, .inl (cI, 144, .inl c2)), (k, .inr (6, [.ref k0, .ref k1, .ref k2])), (k1, .inl (cI, 4, .inl c1))] := hD
    rcases w_10 with ⟨hr_9, h_12, h_13, h_14⟩ | ⟨hr_9, h_15⟩
    · have h_12 : 0 ≤ a3.toInt := h_12
      have h_13 : 0 ≤ a4.toInt := h_13
      have h_14 : a3.toInt + a4.toInt ≤ (c1 a2.toNatClampNeg).toInt := h_14
      obtain rfl : r_9 = 1 := hr_9.trans (by decide +kernel)
      refine b_if_eq hx hb zl_1 (tgt := 63) dX6_transfer_20 (by decide +kernel) (fun c_16 => by exfalso; omega) (fun c_16 => ?_)
      refine lv_iload_n hx hb dX6_transfer_23 rfl (lv_at hl 1 rfl) ?_
      refine kJi (wr := [(k2, .inl (cI, 144, .inl c2)), (k, .inr (6, [.ref k0, .ref k1, .ref k2])), (k1, .inl (cI, 4, .inl c1))]) (va_runSN (As := [.int a0]) (rest := []) ⟨hx, hb, hml, hown, hT⟩ (c_X10_isSheetG l D cI aK aV H.size a0) ⟨va_cnB 1 hT (gW_in mw_662) rfl rfl rfl (hN _ mw_671) (hT _ mw_1) (by decide +kernel) ⟨Nat.le_of_ble_eq_true rfl, Nat.le_of_ble_eq_true rfl⟩, hT _ mw_661, trivial⟩ (kStatX hK hP hD hN hXS hS hA [] rfl (by decide +kernel)) rfl rfl hl.1 rfl (lv_room (Nat.le_of_ble_eq_true rfl)) dX6_transfer_24 ⟨Nat.le_of_ble_eq_true rfl, Nat.le_of_ble_eq_true rfl⟩) hP hD hS hA [] [0, 1, 2] rfl rfl (by decide +kernel) (by decide +kernel) ?_
      clear hP hD hS
      intro r_17 u_19 H locs w_18 hP hD hS
      replace hP : va_P D vwCl [(k2, .inl (cI, 144, .inl c2)), (k, .inr (6, [.ref k0, .ref k1, .ref k2])), (k1, .inl (cI, 4, .inl c1))] H := hP
      replace hD : va_D A [(k2, .inl (cI, 144, .inl c2)), (k, .inr (6, [.ref k0, .ref k1, .ref k2])), (k1, .inl (cI, 4, .inl c1))] := hD
      rcases w_18 with ⟨hr_17, h_20, h_21⟩ | ⟨hr_17, h_22⟩
      · have h_20 : 0 ≤ a0.toInt := h_20
        have h_21 : a0.toInt ≤ 3 := h_21
        obtain rfl : r_17 = 1 := hr_17.trans (by decide +kernel)
        refine b_if_eq hx hb zl_1 (tgt := 63) dX6_transfer_27 (by decide +kernel) (fun c_23 => by exfalso; omega) (fun c_23 => ?_)
        refine lv_iload_n hx hb dX6_transfer_30 rfl (lv_at hl 3 rfl) ?_
        refine kJi (wr := [(k2, .inl (cI, 144, .inl c2)), (k, .inr (6, [.ref k0, .ref k1, .ref k2])), (k1, .inl (cI, 4, .inl c1))]) (va_runSN (As := [.int a2]) (rest := []) ⟨hx, hb, hml, hown, hT⟩ (c_X10_isSheetG l D cI aK aV H.size a2) ⟨va_cnB 1 hT (gW_in mw_662) rfl rfl rfl (hN _ mw_671) (hT _ mw_1) (by decide +kernel) ⟨Nat.le_of_ble_eq_true rfl, Nat.le_of_ble_eq_true rfl⟩, hT _ mw_661, trivial⟩ (kStatX hK hP hD hN hXS hS hA [] rfl (by decide +kernel)) rfl rfl hl.1 rfl (lv_room (Nat.le_of_ble_eq_true rfl)) dX6_transfer_31 ⟨Nat.le_of_ble_eq_true rfl, Nat.le_of_ble_eq_true rfl⟩) hP hD hS hA [] [0, 1, 2] rfl rfl (by decide +kernel) (by decide +kernel) ?_
        clear hP hD hS
        intro r_24 u_26 H locs w_25 hP hD hS
        replace hP : va_P D vwCl [(k2, .inl (cI, 144, .inl c2)), (k, .inr (6, [.ref k0, .ref k1, .ref k2])), (k1, .inl (cI, 4, .inl c1))] H := hP
        replace hD : va_D A [(k2, .inl (cI, 144, .inl c2)), (k, .inr (6, [.ref k0, .ref k1, .ref k2])), (k1, .inl (cI, 4, .inl c1))] := hD
        rcases w_25 with ⟨hr_24, h_27, h_28⟩ | ⟨hr_24, h_29⟩
        · have h_27 : 0 ≤ a2.toInt := h_27
          have h_28 : a2.toInt ≤ 3 := h_28
          obtain rfl : r_24 = 1 := hr_24.trans (by decide +kernel)
          refine b_if_eq hx hb zl_1 (tgt := 63) dX6_transfer_34 (by decide +kernel) (fun c_30 => by exfalso; omega) (fun c_30 => ?_)
          refine lv_aload_n hx hb dX6_transfer_37 rfl (lv_at hl 0 rfl) ?_
          refine va_get (D := D) (ci := 6) (v := .ref k2) (C := RX6) (T := TX6) (N := 3) hx hb hT giX6 hown hK hP 1 rfl rfl 2 (by decide +kernel) (hT (Cond.fieldLink RX6 18 "DesertWire$Sheets" "numbers" "[I") mw_283) (fun _ h9 => h9) rfl dX6_transfer_38 ?_
          refine lv_iload_n hx hb dX6_transfer_41 rfl (lv_at hl 1 rfl) ?_
          refine lv_bipush (v := 36) hx hb dX6_transfer_42 (by decide +kernel) ?_
          refine lv_imul hx hb dX6_transfer_44 ?_
          refine lv_topi (fun v_31 ev_31 => ?_)
          have tv_31 : v_31.toInt = a0.toInt * 36 := by rw [ev_31]; exact k_mulv rfl zl_36 (by omega) (by omega)
          refine lv_iload_n hx hb dX6_transfer_45 rfl (lv_at hl 2 rfl) ?_
          refine lv_iadd hx hb dX6_transfer_46 ?_
          refine lv_topi (fun v_32 ev_32 => ?_)
          have tv_32 : v_32.toInt = v_31.toInt + a1.toInt := by rw [ev_32]; exact k_addv rfl rfl (by omega) (by omega)
          refine lv_aload_n hx hb dX6_transfer_47 rfl (lv_at hl 0 rfl) ?_
          refine va_get (D := D) (ci := 6) (v := .ref k2) (C := RX6) (T := TX6) (N := 3) hx hb hT giX6 hown hK hP 1 rfl rfl 2 (by decide +kernel) (hT (Cond.fieldLink RX6 18 "DesertWire$Sheets" "numbers" "[I") mw_283) (fun _ h9 => h9) rfl dX6_transfer_48 ?_
          refine lv_iload_n hx hb dX6_transfer_51 rfl (lv_at hl 3 rfl) ?_
          refine lv_bipush (v := 36) hx hb dX6_transfer_52 (by decide +kernel) ?_
          refine lv_imul hx hb dX6_transfer_54 ?_
          refine lv_topi (fun v_33 ev_33 => ?_)
          have tv_33 : v_33.toInt = a2.toInt * 36 := by rw [ev_33]; exact k_mulv rfl zl_36 (by omega) (by omega)
          refine lv_iload hx hb dX6_transfer_55 (lv_at hl 4 rfl) ?_
          refine lv_iadd hx hb dX6_transfer_57 ?_
          refine lv_topi (fun v_34 ev_34 => ?_)
          have tv_34 : v_34.toInt = v_33.toInt + a3.toInt := by rw [ev_34]; exact k_addv rfl rfl (by omega) (by omega)
          refine lv_iload hx hb dX6_transfer_58 (lv_at hl 5 rfl) ?_
          refine k_copyG hx hb (hml.trans hl.1.symm) hown (hT _ mw_1100) (hT _ mw_865) (hT _ mw_864) (hT _ mw_19) hK hP hD hS 0 0 rfl rfl (by first | omega) (by first | omega) (by first | omega) (by first | omega) (by first | omega) (Nat.le_of_ble_eq_true rfl) (by decide +kernel) dX6_transfer_60 ?_
          clear hP hD hS
          intro f_35 H locs ef_35 hP hD hS
          replace hP : va_P D vwCl [(k2, .inl (cI, 144, .inl f_35)), (k, .inr (6, [.ref k0, .ref k1, .ref k2])), (k1, .inl (cI, 4, .inl c1))] H := hP
          replace hD : va_D A [(k2, .inl (cI, 144, .inl f_35)), (k, .inr (6, [.ref k0, .ref k1, .ref k2])), (k1, .inl (cI, 4, .inl c1))] := hD
          exact hRet f_35 [1, 2, 0] (by rw [ef_35, k_clamp, k_clamp, k_clamp]; congr 1 <;> omega) hP hD (by decide +kernel) rfl hS dX6_transfer_63
        · exfalso; omega
      · exfalso; omega
    · exfalso; omega
  · exfalso; omega
