theorem bn_cX9_soilOf_0 : BN cX9_soilOf 0 0x15a0402805502f0e04002b515834029a1f005721c := by
  unfold BN; decide +kernel
theorem dX9_soilOf_0 : decode cX9_soilOf 0 = .ok (.iload_n 1, 1) := dR0 (k := 0) (i := 0) bn_cX9_soilOf_0 dop_27 (by decide +kernel)
theorem dX9_soilOf_1 : decode cX9_soilOf 1 = .ok (.invokestatic 61, 3) := dR2 (f := Instr.invokestatic) (k := 0) (i := 1) bn_cX9_soilOf_0 dop_184 61 (by decide +kernel)
theorem dX9_soilOf_4 : decode cX9_soilOf 4 = .ok (.ifCond .eq 12, 3) := dR2s (f := Instr.ifCond .eq) (k := 0) (i := 4) bn_cX9_soilOf_0 dop_153 12 12 (by decide +kernel)
theorem dX9_soilOf_7 : decode cX9_soilOf 7 = .ok (.aload_n 0, 1) := dR0 (k := 0) (i := 7) bn_cX9_soilOf_0 dop_42 (by decide +kernel)
theorem dX9_soilOf_8 : decode cX9_soilOf 8 = .ok (.getfield 15, 3) := dR2 (f := Instr.getfield) (k := 0) (i := 8) bn_cX9_soilOf_0 dop_180 15 (by decide +kernel)
theorem dX9_soilOf_11 : decode cX9_soilOf 11 = .ok (.iload_n 1, 1) := dR0 (k := 0) (i := 11) bn_cX9_soilOf_0 dop_27 (by decide +kernel)
theorem dX9_soilOf_12 : decode cX9_soilOf 12 = .ok (.iaload, 1) := dR0 (k := 0) (i := 12) bn_cX9_soilOf_0 dop_46 (by decide +kernel)
theorem dX9_soilOf_13 : decode cX9_soilOf 13 = .ok (.goto 4, 3) := dR2s (f := Instr.goto) (k := 0) (i := 13) bn_cX9_soilOf_0 dop_167 4 4 (by decide +kernel)
theorem dX9_soilOf_16 : decode cX9_soilOf 16 = .ok (.iconst 0, 1) := dR0 (k := 0) (i := 16) bn_cX9_soilOf_0 dop_3 (by decide +kernel)
theorem dX9_soilOf_17 : decode cX9_soilOf 17 = .ok (.ireturn, 1) := dR0 (k := 0) (i := 17) bn_cX9_soilOf_0 dop_172 (by decide +kernel)
set_option maxHeartbeats 4000000 in
set_option maxRecDepth 100000 in
theorem c_X9_soilOfG (l : Launch) (D : va_G) (cI : ClassId) (aK aV : Nat → Nat) (k k0 k1 k2 k3 k4 k5 : Nat) (sz : Nat) (c6 : Int32) (c7 : Int32) (c8 : Int32) (c1 : Nat → Int32) (a0 : Int32) : Met l yX9_soilOf (gW yX9_soilOf cX9_soilOf 2 (some .int)) ({ frames := 1, cells := 0, slots := 0, locals := 20 } : Room) (kPreX D cI aK aV [.ref k, .int a0] [(k, .inr (9, [.ref k0, .ref k1, .ref k2, .ref k3, .ref k4, .ref k5, .int c6, .int c7, .int c8])), (k1, .inl (cI, 40, .inl c1))] sz) (va_Qi (fun (r : Int32) (u : Unit) => True) (fun u t => kWd D cI (va_A [(k, .inr (9, [.ref k0, .ref k1, .ref k2, .ref k3, .ref k4, .ref k5, .int c6, .int c7, .int c8])), (k1, .inl (cI, 40, .inl c1))] sz) [(k, .inr (9, [.ref k0, .ref k1, .ref k2, .ref k3, .ref k4, .ref k5, .int c6, .int c7, .int c8])), (k1, .inl (cI, 40, .inl c1))] t) (va_A [(k, .inr (9, [.ref k0, .ref k1, .ref k2, .ref k3, .ref k4, .ref k5, .int c6, .int c7, .int c8])), (k1, .inl (cI, 40, .inl c1))] sz)) 0 0 (va_A [(k, .inr (9, [.ref k0, .ref k1, .ref k2, .ref k3, .ref k4, .ref k5, .int c6, .int c7, .int c8])), (k1, .inl (cI, 40, .inl c1))] sz) := by
  refine kMetIX (own := RX9) (by decide +kernel) rfl (Nat.le_of_ble_eq_true rfl) ?_
  intro p e s m args below meth c hx hb hT hown hname hml A Q hK hP hD hS hA hN hXS hRet ls hl
  have hl : lv_has ls 2 [(0, .ref k), (1, .int a0)] := hl
  have lo_a0 := k_lo a0
  have hi_a0 := k_hi a0
  refine lv_iload_n hx hb dX9_soilOf_0 rfl (lv_at hl 1 rfl) ?_
  refine kJi (wr := [(k, .inr (9, [.ref k0, .ref k1, .ref k2, .ref k3, .ref k4, .ref k5, .int c6, .int c7, .int c8])), (k1, .inl (cI, 40, .inl c1))]) (va_runSN (As := [.int a0]) (rest := []) ⟨hx, hb, hml, hown, hT⟩ (c_X10_isMileG l D cI aK aV s.heap.size a0) ⟨va_cnB 1 hT (gW_in mw_346) rfl rfl rfl (hN _ mw_424) (hT _ mw_1) (by decide +kernel) ⟨Nat.le_of_ble_eq_true rfl, Nat.le_of_ble_eq_true rfl⟩, hT _ mw_345, trivial⟩ (kStatX hK hP hD hN hXS hS hA [] rfl (by decide +kernel)) rfl rfl hl.1 rfl (lv_room (Nat.le_of_ble_eq_true rfl)) dX9_soilOf_1 ⟨Nat.le_of_ble_eq_true rfl, Nat.le_of_ble_eq_true rfl⟩) hP hD hS hA [] [0, 1] rfl rfl (by decide +kernel) (by decide +kernel) ?_
  clear hP hD hS
  intro r_1 u_3 H locs w_2 hP hD hS
  replace hP : va_P D vwCl [(k, .inr (9, [.ref k0, .ref k1, .ref k2, .ref k3, .ref k4, .ref k5, .int c6, .int c7, .int c8])), (k1, .inl (cI, 40, .inl c1))] H := hP
  replace hD : va_D A [(k, .inr (9, [.ref k0, .ref k1, .ref k2, .ref k3, .ref k4, .ref k5, .int c6, .int c7, .int c8])), (k1, .inl (cI, 40, .inl c1))] := hD
  rcases w_2 with ⟨hr_1, h_4, h_5⟩ | ⟨hr_1, h_6⟩
  · have h_4 : 0 ≤ a0.toInt := h_4
    have h_5 : a0.toInt ≤ 39 := h_5
    obtain rfl : r_1 = 1 := hr_1.trans (by decide +kernel)
    refine b_if_eq hx hb zl_1 (tgt := 16) dX9_soilOf_4 (by decide +kernel) (fun c_7 => by exfalso; omega) (fun c_7 => ?_)
    refine lv_aload_n hx hb dX9_soilOf_7 rfl (lv_at hl 0 rfl) ?_
    refine va_get (D := D) (ci := 9) (v := .ref k1) (C := RX9) (T := TX9) (N := 9) hx hb hT giX9 hown hK hP 0 rfl rfl 1 (by decide +kernel) (hT (Cond.fieldLink RX9 15 "DesertWire$World" "soils" "[I") mw_91) (fun _ h9 => h9) rfl dX9_soilOf_8 ?_
    refine lv_iload_n hx hb dX9_soilOf_11 rfl (lv_at hl 1 rfl) ?_
    refine k_iald (v := (c1 a0.toNatClampNeg)) hx hb hK hP 1 0 rfl rfl (k_in (by omega) (by omega)) rfl dX9_soilOf_12 ?_
    refine lv_topi (fun v_8 ev_8 => ?_)
    have lo_v_8 := k_lo v_8
    have hi_v_8 := k_hi v_8
    have tv_8 : v_8.toInt = (c1 a0.toNatClampNeg).toInt := by rw [ev_8]
    refine lv_goto (tgt := 17) hx hb dX9_soilOf_13 (by decide +kernel) ?_
    exact hRet () [0, 1] trivial hP hD (by decide +kernel) rfl hS rfl dX9_soilOf_17
  · have h_6 : a0.toInt < 0 ∨ 39 < a0.toInt := h_6
    obtain rfl : r_1 = 0 := hr_1.trans (by decide +kernel)
    refine b_if_eq hx hb zl_0 (tgt := 16) dX9_soilOf_4 (by decide +kernel) (fun c_9 => ?_) (fun c_9 => by exfalso; omega)
    refine lv_iconst (v := 0) hx hb dX9_soilOf_16 (by decide +kernel) ?_
    exact hRet () [0, 1] trivial hP hD (by decide +kernel) rfl hS rfl dX9_soilOf_17
theorem bn_cX9_springOf_0 : BN cX9_springOf 0 0x15a0402805502f0e04c02b515834029a1f005721c := by
  unfold BN; decide +kernel
theorem dX9_springOf_0 : decode cX9_springOf 0 = .ok (.iload_n 1, 1) := dR0 (k := 0) (i := 0) bn_cX9_springOf_0 dop_27 (by decide +kernel)
theorem dX9_springOf_1 : decode cX9_springOf 1 = .ok (.invokestatic 61, 3) := dR2 (f := Instr.invokestatic) (k := 0) (i := 1) bn_cX9_springOf_0 dop_184 61 (by decide +kernel)
theorem dX9_springOf_4 : decode cX9_springOf 4 = .ok (.ifCond .eq 12, 3) := dR2s (f := Instr.ifCond .eq) (k := 0) (i := 4) bn_cX9_springOf_0 dop_153 12 12 (by decide +kernel)
theorem dX9_springOf_7 : decode cX9_springOf 7 = .ok (.aload_n 0, 1) := dR0 (k := 0) (i := 7) bn_cX9_springOf_0 dop_42 (by decide +kernel)
theorem dX9_springOf_8 : decode cX9_springOf 8 = .ok (.getfield 18, 3) := dR2 (f := Instr.getfield) (k := 0) (i := 8) bn_cX9_springOf_0 dop_180 18 (by decide +kernel)
theorem dX9_springOf_11 : decode cX9_springOf 11 = .ok (.iload_n 1, 1) := dR0 (k := 0) (i := 11) bn_cX9_springOf_0 dop_27 (by decide +kernel)
theorem dX9_springOf_12 : decode cX9_springOf 12 = .ok (.iaload, 1) := dR0 (k := 0) (i := 12) bn_cX9_springOf_0 dop_46 (by decide +kernel)
theorem dX9_springOf_13 : decode cX9_springOf 13 = .ok (.goto 4, 3) := dR2s (f := Instr.goto) (k := 0) (i := 13) bn_cX9_springOf_0 dop_167 4 4 (by decide +kernel)
theorem dX9_springOf_16 : decode cX9_springOf 16 = .ok (.iconst 0, 1) := dR0 (k := 0) (i := 16) bn_cX9_springOf_0 dop_3 (by decide +kernel)
theorem dX9_springOf_17 : decode cX9_springOf 17 = .ok (.ireturn, 1) := dR0 (k := 0) (i := 17) bn_cX9_springOf_0 dop_172 (by decide +kernel)

theorem bn_cX9_rainNow_0 : BN cX9_rainNow 0 0xad0201402a81787014015a8ac1a0151834221c09805381c1e90802b9170056a2b := by
  unfold BN; decide +kernel
theorem dX9_rainNow_0 : decode cX9_rainNow 0 = .ok (.aload_n 0, 1) := dR0 (k := 0) (i := 0) bn_cX9_rainNow_0 dop_42 (by decide +kernel)
theorem dX9_rainNow_1 : decode cX9_rainNow 1 = .ok (.getfield 45, 3) := dR2 (f := Instr.getfield) (k := 0) (i := 1) bn_cX9_rainNow_0 dop_180 45 (by decide +kernel)
theorem dX9_rainNow_4 : decode cX9_rainNow 4 = .ok (.invokestatic 65, 3) := dR2 (f := Instr.invokestatic) (k := 0) (i := 4) bn_cX9_rainNow_0 dop_184 65 (by decide +kernel)
theorem dX9_rainNow_7 : decode cX9_rainNow 7 = .ok (.istore_n 1, 1) := dR0 (k := 0) (i := 7) bn_cX9_rainNow_0 dop_60 (by decide +kernel)
theorem dX9_rainNow_8 : decode cX9_rainNow 8 = .ok (.iload_n 1, 1) := dR0 (k := 0) (i := 8) bn_cX9_rainNow_0 dop_27 (by decide +kernel)
theorem dX9_rainNow_9 : decode cX9_rainNow 9 = .ok (.ifCond .lt 18, 3) := dR2s (f := Instr.ifCond .lt) (k := 0) (i := 9) bn_cX9_rainNow_0 dop_155 18 18 (by decide +kernel)
theorem dX9_rainNow_12 : decode cX9_rainNow 12 = .ok (.iload_n 1, 1) := dR0 (k := 0) (i := 12) bn_cX9_rainNow_0 dop_27 (by decide +kernel)
theorem dX9_rainNow_13 : decode cX9_rainNow 13 = .ok (.bipush 12, 2) := dR1s (f := Instr.bipush) (k := 0) (i := 13) bn_cX9_rainNow_0 dop_16 12 12 (by decide +kernel)
theorem dX9_rainNow_15 : decode cX9_rainNow 15 = .ok (.if_icmp .ge 12, 3) := dR2s (f := Instr.if_icmp .ge) (k := 0) (i := 15) bn_cX9_rainNow_0 dop_162 12 12 (by decide +kernel)
theorem dX9_rainNow_18 : decode cX9_rainNow 18 = .ok (.aload_n 0, 1) := dR0 (k := 0) (i := 18) bn_cX9_rainNow_0 dop_42 (by decide +kernel)
theorem dX9_rainNow_19 : decode cX9_rainNow 19 = .ok (.getfield 9, 3) := dR2 (f := Instr.getfield) (k := 0) (i := 19) bn_cX9_rainNow_0 dop_180 9 (by decide +kernel)
theorem dX9_rainNow_22 : decode cX9_rainNow 22 = .ok (.iload_n 1, 1) := dR0 (k := 0) (i := 22) bn_cX9_rainNow_0 dop_27 (by decide +kernel)
theorem dX9_rainNow_23 : decode cX9_rainNow 23 = .ok (.iaload, 1) := dR0 (k := 0) (i := 23) bn_cX9_rainNow_0 dop_46 (by decide +kernel)
theorem dX9_rainNow_24 : decode cX9_rainNow 24 = .ok (.goto 4, 3) := dR2s (f := Instr.goto) (k := 0) (i := 24) bn_cX9_rainNow_0 dop_167 4 4 (by decide +kernel)
theorem dX9_rainNow_28 : decode cX9_rainNow 28 = .ok (.ireturn, 1) := dR0 (k := 0) (i := 28) bn_cX9_rainNow_0 dop_172 (by decide +kernel)
set_option maxHeartbeats 4000000 in
set_option maxRecDepth 100000 in
theorem c_X9_rainNowG (l : Launch) (D : va_G) (cI : ClassId) (aK aV : Nat → Nat) (k k0 k1 k2 k3 k4 k5 : Nat) (sz : Nat) (c6 : Int32) (c7 : Int32) (c8 : Int32) (c0 : Nat → Int32) : Met l yX9_rainNow (gW yX9_rainNow cX9_rainNow 2 (some .int)) ({ frames := 1, cells := 0, slots := 0, locals := 20 } : Room) (kPreX D cI aK aV [.ref k] [(k, .inr (9, [.ref k0, .ref k1, .ref k2, .ref k3, .ref k4, .ref k5, .int c6, .int c7, .int c8])), (k0, .inl (cI, 12, .inl c0))] sz) (va_Qi (fun (r : Int32) (u : Unit) => True) (fun u t => kWd D cI (va_A [(k, .inr (9, [.ref k0, .ref k1, .ref k2, .ref k3, .ref k4, .ref k5, .int c6, .int c7, .int c8])), (k0, .inl (cI, 12, .inl c0))] sz) [(k, .inr (9, [.ref k0, .ref k1, .ref k2, .ref k3, .ref k4, .ref k5, .int c6, .int c7, .int c8])), (k0, .inl (cI, 12, .inl c0))] t) (va_A [(k, .inr (9, [.ref k0, .ref k1, .ref k2, .ref k3, .ref k4, .ref k5, .int c6, .int c7, .int c8])), (k0, .inl (cI, 12, .inl c0))] sz)) 0 0 (va_A [(k, .inr (9, [.ref k0, .ref k1, .ref k2, .ref k3, .ref k4, .ref k5, .int c6, .int c7, .int c8])), (k0, .inl (cI, 12, .inl c0))] sz) := by
  refine kMetIX (own := RX9) (by decide +kernel) rfl (Nat.le_of_ble_eq_true rfl) ?_
  intro p e s m args below meth c hx hb hT hown hname hml A Q hK hP hD hS hA hN hXS hRet ls hl
  have hl : lv_has ls 2 [(0, .ref k)] := hl
  have lo_c8 := k_lo c8
  have hi_c8 := k_hi c8
  refine lv_aload_n hx hb dX9_rainNow_0 rfl (lv_at hl 0 rfl) ?_
  refine va_get (D := D) (ci := 9) (v := .int c8) (C := RX9) (T := TX9) (N := 9) hx hb hT giX9 hown hK hP 0 rfl rfl 8 (by decide +kernel) (hT (Cond.fieldLink RX9 45 "DesertWire$World" "day" "I") mw_108) (fun _ h9 => h9) rfl dX9_rainNow_1 ?_
  refine kJi (wr := [(k, .inr (9, [.ref k0, .ref k1, .ref k2, .ref k3, .ref k4, .ref k5, .int c6, .int c7, .int c8])), (k0, .inl (cI, 12, .inl c0))]) (va_runSN (As := [.int c8]) (rest := []) ⟨hx, hb, hml, hown, hT⟩ (c_X10_monthOfG l D cI aK aV s.heap.size c8) ⟨va_cnB 1 hT (gW_in mw_636) rfl rfl rfl (hN _ mw_634) (hT _ mw_1) (by decide +kernel) ⟨Nat.le_of_ble_eq_true rfl, Nat.le_of_ble_eq_true rfl⟩, hT _ mw_635, trivial⟩ (kStatX hK hP hD hN hXS hS hA [] rfl (by decide +kernel)) rfl rfl hl.1 rfl (lv_room (Nat.le_of_ble_eq_true rfl)) dX9_rainNow_4 ⟨Nat.le_of_ble_eq_true rfl, Nat.le_of_ble_eq_true rfl⟩) hP hD hS hA [] [0, 1] rfl rfl (by decide +kernel) (by decide +kernel) ?_
  clear hP hD hS
  intro r_1 u_3 H locs w_2 hP hD hS
  replace hP : va_P D vwCl [(k, .inr (9, [.ref k0, .ref k1, .ref k2, .ref k3, .ref k4, .ref k5, .int c6, .int c7, .int c8])), (k0, .inl (cI, 12, .inl c0))] H := hP
  replace hD : va_D A [(k, .inr (9, [.ref k0, .ref k1, .ref k2, .ref k3, .ref k4, .ref k5, .int c6, .int c7, .int c8])), (k0, .inl (cI, 12, .inl c0))] := hD
  obtain ⟨h_4, h_5⟩ := w_2
  have h_4 : 0 ≤ r_1.toInt := h_4
  have h_5 : r_1.toInt ≤ 11 := h_5
  have lo_r_1 := k_lo r_1
  have hi_r_1 := k_hi r_1
  refine lv_istore_n (lv' := [(1, .int r_1), (0, .ref k)]) hx hb dX9_rainNow_7 rfl hl (by decide +kernel) rfl ?_
  clear hl
  intro ls hl
  refine lv_iload_n hx hb dX9_rainNow_8 rfl (lv_at hl 0 rfl) ?_
  refine b_if_lt hx hb rfl (tgt := 27) dX9_rainNow_9 (by decide +kernel) (fun c_6 => by exfalso; omega) (fun c_6 => ?_)
  refine lv_iload_n hx hb dX9_rainNow_12 rfl (lv_at hl 0 rfl) ?_
  refine lv_bipush (v := 12) hx hb dX9_rainNow_13 (by decide +kernel) ?_
  refine b_icmp_ge hx hb rfl zl_12 (tgt := 27) dX9_rainNow_15 (by decide +kernel) (fun c_7 => by exfalso; omega) (fun c_7 => ?_)
  refine lv_aload_n hx hb dX9_rainNow_18 rfl (lv_at hl 1 rfl) ?_
  refine va_get (D := D) (ci := 9) (v := .ref k0) (C := RX9) (T := TX9) (N := 9) hx hb hT giX9 hown hK hP 0 rfl rfl 0 (by decide +kernel) (hT (Cond.fieldLink RX9 9 "DesertWire$World" "rains" "[I") mw_89) (fun _ h9 => h9) rfl dX9_rainNow_19 ?_
  refine lv_iload_n hx hb dX9_rainNow_22 rfl (lv_at hl 0 rfl) ?_
  refine k_iald (v := (c0 r_1.toNatClampNeg)) hx hb hK hP 1 0 rfl rfl (k_in (by omega) (by omega)) rfl dX9_rainNow_23 ?_
  refine lv_topi (fun v_8 ev_8 => ?_)
  have lo_v_8 := k_lo v_8
  have hi_v_8 := k_hi v_8
  have tv_8 : v_8.toInt = (c0 r_1.toNatClampNeg).toInt := by rw [ev_8]
  refine lv_goto (tgt := 28) hx hb dX9_rainNow_24 (by decide +kernel) ?_
  exact hRet () [0, 1] trivial hP hD (by decide +kernel) rfl hS rfl dX9_rainNow_28
theorem bn_cX9_effortOf_0 : BN cX9_effortOf 0 0xad26805724900adc564600adc382b := by
  unfold BN; decide +kernel
theorem dX9_effortOf_0 : decode cX9_effortOf 0 = .ok (.aload_n 0, 1) := dR0 (k := 0) (i := 0) bn_cX9_effortOf_0 dop_42 (by decide +kernel)
theorem dX9_effortOf_1 : decode cX9_effortOf 1 = .ok (.iload_n 1, 1) := dR0 (k := 0) (i := 1) bn_cX9_effortOf_0 dop_27 (by decide +kernel)
theorem dX9_effortOf_2 : decode cX9_effortOf 2 = .ok (.invokevirtual 69, 3) := dR2 (f := Instr.invokevirtual) (k := 0) (i := 2) bn_cX9_effortOf_0 dop_182 69 (by decide +kernel)
theorem dX9_effortOf_5 : decode cX9_effortOf 5 = .ok (.aload_n 0, 1) := dR0 (k := 0) (i := 5) bn_cX9_effortOf_0 dop_42 (by decide +kernel)
theorem dX9_effortOf_6 : decode cX9_effortOf 6 = .ok (.invokevirtual 72, 3) := dR2 (f := Instr.invokevirtual) (k := 0) (i := 6) bn_cX9_effortOf_0 dop_182 72 (by decide +kernel)
theorem dX9_effortOf_9 : decode cX9_effortOf 9 = .ok (.invokestatic 76, 3) := dR2 (f := Instr.invokestatic) (k := 0) (i := 9) bn_cX9_effortOf_0 dop_184 76 (by decide +kernel)
theorem dX9_effortOf_12 : decode cX9_effortOf 12 = .ok (.ireturn, 1) := dR0 (k := 0) (i := 12) bn_cX9_effortOf_0 dop_172 (by decide +kernel)

theorem bn_cX9_leakOf_0 : BN cX9_leakOf 0 0xad0ea9200a8010150a3e2f00572060b0741401540182c0900a743a061b9b40c060b028029a33005726300adc0a160e0056a2b030dcbc015c984da1f08994b6015b8142c1c00ad4562e00ad456610f014141122805345700adc38050b07002b51596002a32a0056a1c00ad456050b0146e041f92402b715ab43a0600a6ca2015b87038015a8ac7c03 := by
  unfold BN; decide +kernel
theorem dX9_leakOf_0 : decode cX9_leakOf 0 = .ok (.iconst (-1), 1) := dR0 (k := 0) (i := 0) bn_cX9_leakOf_0 dop_2 (by decide +kernel)
theorem dX9_leakOf_1 : decode cX9_leakOf 1 = .ok (.istore_n 2, 1) := dR0 (k := 0) (i := 1) bn_cX9_leakOf_0 dop_61 (by decide +kernel)
theorem dX9_leakOf_2 : decode cX9_leakOf 2 = .ok (.aload_n 0, 1) := dR0 (k := 0) (i := 2) bn_cX9_leakOf_0 dop_42 (by decide +kernel)
theorem dX9_leakOf_3 : decode cX9_leakOf 3 = .ok (.getfield 27, 3) := dR2 (f := Instr.getfield) (k := 0) (i := 3) bn_cX9_leakOf_0 dop_180 27 (by decide +kernel)
theorem dX9_leakOf_6 : decode cX9_leakOf 6 = .ok (.iload_n 1, 1) := dR0 (k := 0) (i := 6) bn_cX9_leakOf_0 dop_27 (by decide +kernel)
theorem dX9_leakOf_7 : decode cX9_leakOf 7 = .ok (.invokevirtual 80, 3) := dR2 (f := Instr.invokevirtual) (k := 0) (i := 7) bn_cX9_leakOf_0 dop_182 80 (by decide +kernel)
theorem dX9_leakOf_10 : decode cX9_leakOf 10 = .ok (.ifCond .ne 5, 3) := dR2s (f := Instr.ifCond .ne) (k := 0) (i := 10) bn_cX9_leakOf_0 dop_154 5 5 (by decide +kernel)
theorem dX9_leakOf_13 : decode cX9_leakOf 13 = .ok (.iload_n 2, 1) := dR0 (k := 0) (i := 13) bn_cX9_leakOf_0 dop_28 (by decide +kernel)
theorem dX9_leakOf_14 : decode cX9_leakOf 14 = .ok (.ireturn, 1) := dR0 (k := 0) (i := 14) bn_cX9_leakOf_0 dop_172 (by decide +kernel)
theorem dX9_leakOf_15 : decode cX9_leakOf 15 = .ok (.aload_n 0, 1) := dR0 (k := 0) (i := 15) bn_cX9_leakOf_0 dop_42 (by decide +kernel)
theorem dX9_leakOf_16 : decode cX9_leakOf 16 = .ok (.invokevirtual 72, 3) := dR2 (f := Instr.invokevirtual) (k := 0) (i := 16) bn_cX9_leakOf_0 dop_182 72 (by decide +kernel)
theorem dX9_leakOf_19 : decode cX9_leakOf 19 = .ok (.istore_n 3, 1) := dR0 (k := 0) (i := 19) bn_cX9_leakOf_0 dop_62 (by decide +kernel)
theorem dX9_leakOf_20 : decode cX9_leakOf 20 = .ok (.iconst 0, 1) := dR0 (k := 0) (i := 20) bn_cX9_leakOf_0 dop_3 (by decide +kernel)
theorem dX9_leakOf_21 : decode cX9_leakOf 21 = .ok (.istore 4, 2) := dR1 (f := Instr.istore) (k := 0) (i := 21) bn_cX9_leakOf_0 dop_54 4 (by decide +kernel)
theorem dX9_leakOf_23 : decode cX9_leakOf 23 = .ok (.iload 4, 2) := dR1 (f := Instr.iload) (k := 0) (i := 23) bn_cX9_leakOf_0 dop_21 4 (by decide +kernel)
theorem dX9_leakOf_25 : decode cX9_leakOf 25 = .ok (.aload_n 0, 1) := dR0 (k := 0) (i := 25) bn_cX9_leakOf_0 dop_42 (by decide +kernel)
theorem dX9_leakOf_26 : decode cX9_leakOf 26 = .ok (.getfield 27, 3) := dR2 (f := Instr.getfield) (k := 0) (i := 26) bn_cX9_leakOf_0 dop_180 27 (by decide +kernel)
theorem dX9_leakOf_29 : decode cX9_leakOf 29 = .ok (.getfield 83, 3) := dR2 (f := Instr.getfield) (k := 0) (i := 29) bn_cX9_leakOf_0 dop_180 83 (by decide +kernel)
theorem dX9_leakOf_32 : decode cX9_leakOf 32 = .ok (.if_icmp .ge 87, 3) := dR2s (f := Instr.if_icmp .ge) (k := 0) (i := 32) bn_cX9_leakOf_0 dop_162 87 87 (by decide +kernel)
theorem dX9_leakOf_35 : decode cX9_leakOf 35 = .ok (.aload_n 0, 1) := dR0 (k := 0) (i := 35) bn_cX9_leakOf_0 dop_42 (by decide +kernel)
theorem dX9_leakOf_36 : decode cX9_leakOf 36 = .ok (.getfield 27, 3) := dR2 (f := Instr.getfield) (k := 0) (i := 36) bn_cX9_leakOf_0 dop_180 27 (by decide +kernel)
theorem dX9_leakOf_39 : decode cX9_leakOf 39 = .ok (.iload 4, 2) := dR1 (f := Instr.iload) (k := 0) (i := 39) bn_cX9_leakOf_0 dop_21 4 (by decide +kernel)
theorem dX9_leakOf_41 : decode cX9_leakOf 41 = .ok (.iload_n 1, 1) := dR0 (k := 0) (i := 41) bn_cX9_leakOf_0 dop_27 (by decide +kernel)
theorem dX9_leakOf_42 : decode cX9_leakOf 42 = .ok (.invokevirtual 86, 3) := dR2 (f := Instr.invokevirtual) (k := 0) (i := 42) bn_cX9_leakOf_0 dop_182 86 (by decide +kernel)
theorem dX9_leakOf_45 : decode cX9_leakOf 45 = .ok (.ifCond .eq 68, 3) := dR2s (f := Instr.ifCond .eq) (k := 0) (i := 45) bn_cX9_leakOf_0 dop_153 68 68 (by decide +kernel)
theorem dX9_leakOf_48 : decode cX9_leakOf 48 = .ok (.bipush 9, 2) := dR1s (f := Instr.bipush) (k := 0) (i := 48) bn_cX9_leakOf_0 dop_16 9 9 (by decide +kernel)
theorem dX9_leakOf_50 : decode cX9_leakOf 50 = .ok (.iconst 1, 1) := dR0 (k := 0) (i := 50) bn_cX9_leakOf_0 dop_4 (by decide +kernel)
theorem dX9_leakOf_51 : decode cX9_leakOf 51 = .ok (.iload_n 3, 1) := dR0 (k := 0) (i := 51) bn_cX9_leakOf_0 dop_29 (by decide +kernel)
theorem dX9_leakOf_52 : decode cX9_leakOf 52 = .ok (.iadd, 1) := dR0 (k := 0) (i := 52) bn_cX9_leakOf_0 dop_96 (by decide +kernel)
theorem dX9_leakOf_53 : decode cX9_leakOf 53 = .ok (.aload_n 0, 1) := dR0 (k := 0) (i := 53) bn_cX9_leakOf_0 dop_42 (by decide +kernel)
theorem dX9_leakOf_54 : decode cX9_leakOf 54 = .ok (.getfield 45, 3) := dR2 (f := Instr.getfield) (k := 0) (i := 54) bn_cX9_leakOf_0 dop_180 45 (by decide +kernel)
theorem dX9_leakOf_57 : decode cX9_leakOf 57 = .ok (.aload_n 0, 1) := dR0 (k := 0) (i := 57) bn_cX9_leakOf_0 dop_42 (by decide +kernel)
theorem dX9_leakOf_58 : decode cX9_leakOf 58 = .ok (.getfield 27, 3) := dR2 (f := Instr.getfield) (k := 0) (i := 58) bn_cX9_leakOf_0 dop_180 27 (by decide +kernel)
theorem dX9_leakOf_61 : decode cX9_leakOf 61 = .ok (.iload 4, 2) := dR1 (f := Instr.iload) (k := 0) (i := 61) bn_cX9_leakOf_0 dop_21 4 (by decide +kernel)
theorem dX9_leakOf_63 : decode cX9_leakOf 63 = .ok (.invokevirtual 90, 3) := dR2 (f := Instr.invokevirtual) (k := 0) (i := 63) bn_cX9_leakOf_0 dop_182 90 (by decide +kernel)
theorem dX9_leakOf_66 : decode cX9_leakOf 66 = .ok (.isub, 1) := dR0 (k := 0) (i := 66) bn_cX9_leakOf_0 dop_100 (by decide +kernel)
theorem dX9_leakOf_67 : decode cX9_leakOf 67 = .ok (.bipush 30, 2) := dR1s (f := Instr.bipush) (k := 0) (i := 67) bn_cX9_leakOf_0 dop_16 30 30 (by decide +kernel)
theorem dX9_leakOf_69 : decode cX9_leakOf 69 = .ok (.idiv, 1) := dR0 (k := 0) (i := 69) bn_cX9_leakOf_0 dop_108 (by decide +kernel)
theorem dX9_leakOf_70 : decode cX9_leakOf 70 = .ok (.iadd, 1) := dR0 (k := 0) (i := 70) bn_cX9_leakOf_0 dop_96 (by decide +kernel)
theorem dX9_leakOf_71 : decode cX9_leakOf 71 = .ok (.invokestatic 93, 3) := dR2 (f := Instr.invokestatic) (k := 0) (i := 71) bn_cX9_leakOf_0 dop_184 93 (by decide +kernel)
theorem dX9_leakOf_74 : decode cX9_leakOf 74 = .ok (.istore 5, 2) := dR1 (f := Instr.istore) (k := 0) (i := 74) bn_cX9_leakOf_0 dop_54 5 (by decide +kernel)
theorem dX9_leakOf_76 : decode cX9_leakOf 76 = .ok (.aload_n 0, 1) := dR0 (k := 0) (i := 76) bn_cX9_leakOf_0 dop_42 (by decide +kernel)
theorem dX9_leakOf_77 : decode cX9_leakOf 77 = .ok (.getfield 27, 3) := dR2 (f := Instr.getfield) (k := 0) (i := 77) bn_cX9_leakOf_0 dop_180 27 (by decide +kernel)
theorem dX9_leakOf_80 : decode cX9_leakOf 80 = .ok (.iload 4, 2) := dR1 (f := Instr.iload) (k := 0) (i := 80) bn_cX9_leakOf_0 dop_21 4 (by decide +kernel)
theorem dX9_leakOf_82 : decode cX9_leakOf 82 = .ok (.invokevirtual 98, 3) := dR2 (f := Instr.invokevirtual) (k := 0) (i := 82) bn_cX9_leakOf_0 dop_182 98 (by decide +kernel)
theorem dX9_leakOf_85 : decode cX9_leakOf 85 = .ok (.invokestatic 101, 3) := dR2 (f := Instr.invokestatic) (k := 0) (i := 85) bn_cX9_leakOf_0 dop_184 101 (by decide +kernel)
theorem dX9_leakOf_88 : decode cX9_leakOf 88 = .ok (.ifCond .eq 9, 3) := dR2s (f := Instr.ifCond .eq) (k := 0) (i := 88) bn_cX9_leakOf_0 dop_153 9 9 (by decide +kernel)
theorem dX9_leakOf_91 : decode cX9_leakOf 91 = .ok (.iload 5, 2) := dR1 (f := Instr.iload) (k := 0) (i := 91) bn_cX9_leakOf_0 dop_21 5 (by decide +kernel)
theorem dX9_leakOf_93 : decode cX9_leakOf 93 = .ok (.iconst 2, 1) := dR0 (k := 0) (i := 93) bn_cX9_leakOf_0 dop_5 (by decide +kernel)
theorem dX9_leakOf_94 : decode cX9_leakOf 94 = .ok (.idiv, 1) := dR0 (k := 0) (i := 94) bn_cX9_leakOf_0 dop_108 (by decide +kernel)
theorem dX9_leakOf_95 : decode cX9_leakOf 95 = .ok (.istore 5, 2) := dR1 (f := Instr.istore) (k := 0) (i := 95) bn_cX9_leakOf_0 dop_54 5 (by decide +kernel)
theorem dX9_leakOf_97 : decode cX9_leakOf 97 = .ok (.iload_n 2, 1) := dR0 (k := 0) (i := 97) bn_cX9_leakOf_0 dop_28 (by decide +kernel)
theorem dX9_leakOf_98 : decode cX9_leakOf 98 = .ok (.ifCond .ge 8, 3) := dR2s (f := Instr.ifCond .ge) (k := 0) (i := 98) bn_cX9_leakOf_0 dop_156 8 8 (by decide +kernel)
theorem dX9_leakOf_101 : decode cX9_leakOf 101 = .ok (.iload 5, 2) := dR1 (f := Instr.iload) (k := 0) (i := 101) bn_cX9_leakOf_0 dop_21 5 (by decide +kernel)
theorem dX9_leakOf_103 : decode cX9_leakOf 103 = .ok (.goto 9, 3) := dR2s (f := Instr.goto) (k := 0) (i := 103) bn_cX9_leakOf_0 dop_167 9 9 (by decide +kernel)
theorem dX9_leakOf_106 : decode cX9_leakOf 106 = .ok (.iload_n 2, 1) := dR0 (k := 0) (i := 106) bn_cX9_leakOf_0 dop_28 (by decide +kernel)
theorem dX9_leakOf_107 : decode cX9_leakOf 107 = .ok (.iload 5, 2) := dR1 (f := Instr.iload) (k := 0) (i := 107) bn_cX9_leakOf_0 dop_21 5 (by decide +kernel)
theorem dX9_leakOf_109 : decode cX9_leakOf 109 = .ok (.invokestatic 93, 3) := dR2 (f := Instr.invokestatic) (k := 0) (i := 109) bn_cX9_leakOf_0 dop_184 93 (by decide +kernel)
theorem dX9_leakOf_112 : decode cX9_leakOf 112 = .ok (.istore_n 2, 1) := dR0 (k := 0) (i := 112) bn_cX9_leakOf_0 dop_61 (by decide +kernel)
theorem dX9_leakOf_113 : decode cX9_leakOf 113 = .ok (.iinc 4 1, 3) := dRii (f := Instr.iinc) (k := 0) (i := 113) bn_cX9_leakOf_0 dop_132 4 1 1 (by decide +kernel)
theorem dX9_leakOf_116 : decode cX9_leakOf 116 = .ok (.goto (-93), 3) := dR2s (f := Instr.goto) (k := 0) (i := 116) bn_cX9_leakOf_0 dop_167 65443 (-93) (by decide +kernel)
theorem dX9_leakOf_119 : decode cX9_leakOf 119 = .ok (.iload_n 2, 1) := dR0 (k := 0) (i := 119) bn_cX9_leakOf_0 dop_28 (by decide +kernel)
theorem dX9_leakOf_120 : decode cX9_leakOf 120 = .ok (.ireturn, 1) := dR0 (k := 0) (i := 120) bn_cX9_leakOf_0 dop_172 (by decide +kernel)
set_option maxHeartbeats 4000000 in
set_option maxRecDepth 100000 in
theorem c_X9_leakOfG (l : Launch) (D : va_G) (cI : ClassId) (aK aV : Nat → Nat) (k k0 k1 k2 k3 k4 k5 k40 k41 k42 k43 k44 k45 k46 k47 k48 : Nat) (sz : Nat) (c6 : Int32) (c7 : Int32) (c8 : Int32) (c0 : Nat → Int32) (c49 : Int32) (c40 : Nat → Int32) (c41 : Nat → Int32) (c43 : Nat → Int32) (c45 : Nat → Int32) (c46 : Nat → Int32) (a0 : Int32) : Met l yX9_leakOf (gW yX9_leakOf cX9_leakOf 6 (some .int)) ({ frames := 2, cells := 0, slots := 0, locals := 43 } : Room) (kPreX D cI aK aV [.ref k, .int a0] [(k, .inr (9, [.ref k0, .ref k1, .ref k2, .ref k3, .ref k4, .ref k5, .int c6, .int c7, .int c8])), (k0, .inl (cI, 12, .inl c0)), (k4, .inr (8, [.ref k40, .ref k41, .ref k42, .ref k43, .ref k44, .ref k45, .ref k46, .ref k47, .ref k48, .int c49])), (k40, .inl (cI, 60, .inl c40)), (k41, .inl (cI, 60, .inl c41)), (k43, .inl (cI, 60, .inl c43)), (k45, .inl (cI, 60, .inl c45)), (k46, .inl (cI, 40, .inl c46))] sz) (va_Qi (fun (r : Int32) (u : Unit) => True) (fun u t => kWd D cI (va_A [(k, .inr (9, [.ref k0, .ref k1, .ref k2, .ref k3, .ref k4, .ref k5, .int c6, .int c7, .int c8])), (k0, .inl (cI, 12, .inl c0)), (k4, .inr (8, [.ref k40, .ref k41, .ref k42, .ref k43, .ref k44, .ref k45, .ref k46, .ref k47, .ref k48, .int c49])), (k40, .inl (cI, 60, .inl c40)), (k41, .inl (cI, 60, .inl c41)), (k43, .inl (cI, 60, .inl c43)), (k45, .inl (cI, 60, .inl c45)), (k46, .inl (cI, 40, .inl c46))] sz) [(k, .inr (9, [.ref k0, .ref k1, .ref k2, .ref k3, .ref k4, .ref k5, .int c6, .int c7, .int c8])), (k0, .inl (cI, 12, .inl c0)), (k4, .inr (8, [.ref k40, .ref k41, .ref k42, .ref k43, .ref k44, .ref k45, .ref k46, .ref k47, .ref k48, .int c49])), (k40, .inl (cI, 60, .inl c40)), (k41, .inl (cI, 60, .inl c41)), (k43, .inl (cI, 60, .inl c43)), (k45, .inl (cI, 60, .inl c45)), (k46, .inl (cI, 40, .inl c46))] t) (va_A [(k, .inr (9, [.ref k0, .ref k1, .ref k2, .ref k3, .ref k4, .ref k5, .int c6, .int c7, .int c8])), (k0, .inl (cI, 12, .inl c0)), (k4, .inr (8, [.ref k40, .ref k41, .ref k42, .ref k43, .ref k44, .ref k45, .ref k46, .ref k47, .ref k48, .int c49])), (k40, .inl (cI, 60, .inl c40)), (k41, .inl (cI, 60, .inl c41)), (k43, .inl (cI, 60, .inl c43)), (k45, .inl (cI, 60, .inl c45)), (k46, .inl (cI, 40, .inl c46))] sz)) 0 0 (va_A [(k, .inr (9, [.ref k0, .ref k1, .ref k2, .ref k3, .ref k4, .ref k5, .int c6, .int c7, .int c8])), (k0, .inl (cI, 12, .inl c0)), (k4, .inr (8, [.ref k40, .ref k41, .ref k42, .ref k43, .ref k44, .ref k45, .ref k46, .ref k47, .ref k48, .int c49])), (k40, .inl (cI, 60, .inl c40)), (k41, .inl (cI, 60, .inl c41)), (k43, .inl (cI, 60, .inl c43)), (k45, .inl (cI, 60, .inl c45)), (k46, .inl (cI, 40, .inl c46))] sz) := by
  refine kMetIX (own := RX9) (by decide +kernel) rfl (Nat.le_of_ble_eq_true rfl) ?_
  intro p e s m args below meth c hx hb hT hown hname hml A Q hK hP hD hS hA hN hXS hRet ls hl
  have hl : lv_has ls 6 [(0, .ref k), (1, .int a0)] := hl
  have lo_a0 := k_lo a0
  have hi_a0 := k_hi a0
  have lo_c8 := k_lo c8
  have hi_c8 := k_hi c8
  have lo_c49 := k_lo c49
  have hi_c49 := k_hi c49
  refine lv_iconst (v := (-1)) hx hb dX9_leakOf_0 (by decide +kernel) ?_
  refine lv_istore_n (lv' := [(2, .int (-1)), (0, .ref k), (1, .int a0)]) hx hb dX9_leakOf_1 rfl hl (by decide +kernel) rfl ?_
  clear hl
  intro ls hl
  refine lv_aload_n hx hb dX9_leakOf_2 rfl (lv_at hl 1 rfl) ?_
  refine va_get (D := D) (ci := 9) (v := .ref k4) (C := RX9) (T := TX9) (N := 9) hx hb hT giX9 hown hK hP 0 rfl rfl 4 (by decide +kernel) (hT (Cond.fieldLink RX9 27 "DesertWire$World" "works" "LDesertWire$Works;") mw_97) (fun _ h9 => h9) rfl dX9_leakOf_3 ?_
  refine lv_iload_n hx hb dX9_leakOf_6 rfl (lv_at hl 2 rfl) ?_
  refine kJi (wr := [(k, .inr (9, [.ref k0, .ref k1, .ref k2, .ref k3, .ref k4, .ref k5, .int c6, .int c7, .int c8])), (k0, .inl (cI, 12, .inl c0)), (k40, .inl (cI, 60, .inl c40)), (k41, .inl (cI, 60, .inl c41)), (k43, .inl (cI, 60, .inl c43)), (k45, .inl (cI, 60, .inl c45))]) (va_runV (As := [.int a0]) (rest := []) ⟨hx, hb, hml, hown, hT⟩ (c_X8_isWiredG l D cI aK aV k4 k40 k41 k42 k43 k44 k45 k46 k47 k48 s.heap.size c49 c46 a0) (cwV 1 hT (gV_in mw_624 mw_629 mw_622 mw_623 mw_3) rfl rfl rfl (by decide +kernel) ⟨Nat.le_of_ble_eq_true rfl, Nat.le_of_ble_eq_true rfl⟩) (kRecvX (q0 := 2) (ci := 8) hK hP hD hN hXS hS hA rfl rfl [2, 7] rfl (by decide +kernel)) rfl rfl hl.1 rfl (lv_room (Nat.le_of_ble_eq_true rfl)) dX9_leakOf_7 ⟨Nat.le_of_ble_eq_true rfl, Nat.le_of_ble_eq_true rfl⟩) hP hD hS hA [2, 7] [0, 1, 3, 4, 5, 6] rfl rfl (by decide +kernel) (by decide +kernel) ?_
  clear hP hD hS
  intro r_1 u_3 H locs w_2 hP hD hS
  replace hP : va_P D vwCl [(k, .inr (9, [.ref k0, .ref k1, .ref k2, .ref k3, .ref k4, .ref k5, .int c6, .int c7, .int c8])), (k0, .inl (cI, 12, .inl c0)), (k40, .inl (cI, 60, .inl c40)), (k41, .inl (cI, 60, .inl c41)), (k43, .inl (cI, 60, .inl c43)), (k45, .inl (cI, 60, .inl c45)), (k4, .inr (8, [.ref k40, .ref k41, .ref k42, .ref k43, .ref k44, .ref k45, .ref k46, .ref k47, .ref k48, .int c49])), (k46, .inl (cI, 40, .inl c46))] H := hP
  replace hD : va_D A [(k, .inr (9, [.ref k0, .ref k1, .ref k2, .ref k3, .ref k4, .ref k5, .int c6, .int c7, .int c8])), (k0, .inl (cI, 12, .inl c0)), (k40, .inl (cI, 60, .inl c40)), (k41, .inl (cI, 60, .inl c41)), (k43, .inl (cI, 60, .inl c43)), (k45, .inl (cI, 60, .inl c45)), (k4, .inr (8, [.ref k40, .ref k41, .ref k42, .ref k43, .ref k44, .ref k45, .ref k46, .ref k47, .ref k48, .int c49])), (k46, .inl (cI, 40, .inl c46))] := hD
  have lo_r_1 := k_lo r_1
  have hi_r_1 := k_hi r_1
  refine b_if_ne hx hb rfl (tgt := 15) dX9_leakOf_10 (by decide +kernel) (fun c_4 => ?_) (fun c_4 => ?_)
  · refine lv_aload_n hx hb dX9_leakOf_15 rfl (lv_at hl 1 rfl) ?_
    refine kJi (wr := [(k40, .inl (cI, 60, .inl c40)), (k41, .inl (cI, 60, .inl c41)), (k43, .inl (cI, 60, .inl c43)), (k45, .inl (cI, 60, .inl c45)), (k4, .inr (8, [.ref k40, .ref k41, .ref k42, .ref k43, .ref k44, .ref k45, .ref k46, .ref k47, .ref k48, .int c49])), (k46, .inl (cI, 40, .inl c46))]) (va_runV (As := []) (rest := []) ⟨hx, hb, hml, hown, hT⟩ (c_X9_rainNowG l D cI aK aV k k0 k1 k2 k3 k4 k5 H.size c6 c7 c8 c0) (cwV 0 hT (gV_in mw_633 mw_630 mw_631 mw_632 mw_2) rfl rfl rfl (by decide +kernel) ⟨Nat.le_of_ble_eq_true rfl, Nat.le_of_ble_eq_true rfl⟩) (kRecvX (q0 := 0) (ci := 9) hK hP hD hN hXS hS hA rfl rfl [0, 1] rfl (by decide +kernel)) rfl rfl hl.1 rfl (lv_room (Nat.le_of_ble_eq_true rfl)) dX9_leakOf_16 ⟨Nat.le_of_ble_eq_true rfl, Nat.le_of_ble_eq_true rfl⟩) hP hD hS hA [0, 1] [2, 3, 4, 5, 6, 7] rfl rfl (by decide +kernel) (by decide +kernel) ?_
    clear hP hD hS
    intro r_5 u_7 H locs w_6 hP hD hS
    replace hP : va_P D vwCl [(k40, .inl (cI, 60, .inl c40)), (k41, .inl (cI, 60, .inl c41)), (k43, .inl (cI, 60, .inl c43)), (k45, .inl (cI, 60, .inl c45)), (k4, .inr (8, [.ref k40, .ref k41, .ref k42, .ref k43, .ref k44, .ref k45, .ref k46, .ref k47, .ref k48, .int c49])), (k46, .inl (cI, 40, .inl c46)), (k, .inr (9, [.ref k0, .ref k1, .ref k2, .ref k3, .ref k4, .ref k5, .int c6, .int c7, .int c8])), (k0, .inl (cI, 12, .inl c0))] H := hP
    replace hD : va_D A [(k40, .inl (cI, 60, .inl c40)), (k41, .inl (cI, 60, .inl c41)), (k43, .inl (cI, 60, .inl c43)), (k45, .inl (cI, 60, .inl c45)), (k4, .inr (8, [.ref k40, .ref k41, .ref k42, .ref k43, .ref k44, .ref k45, .ref k46, .ref k47, .ref k48, .int c49])), (k46, .inl (cI, 40, .inl c46)), (k, .inr (9, [.ref k0, .ref k1, .ref k2, .ref k3, .ref k4, .ref k5, .int c6, .int c7, .int c8])), (k0, .inl (cI, 12, .inl c0))] := hD
    have lo_r_5 := k_lo r_5
    have hi_r_5 := k_hi r_5
    refine lv_istore_n (lv' := [(3, .int r_5), (2, .int (-1)), (0, .ref k), (1, .int a0)]) hx hb dX9_leakOf_19 rfl hl (by decide +kernel) rfl ?_
    clear hl
    intro ls hl
    refine lv_iconst (v := 0) hx hb dX9_leakOf_20 (by decide +kernel) ?_
    refine lv_istore (lv' := [(4, .int 0), (3, .int r_5), (2, .int (-1)), (0, .ref k), (1, .int a0)]) hx hb dX9_leakOf_21 hl (by decide +kernel) rfl ?_
    clear hl
    intro ls hl
    have hloop_23 : ∀ (fu_ : Nat) (l23_2 : Int32) (l23_4 : Int32), 0 ≤ l23_4.toInt → (c49.toInt - l23_4.toInt).toNat < fu_ → ∀ (ls : Array Slot) (H : Heap) (locs : List Loc), lv_has ls 6 [(4, .int l23_4), (3, .int r_5), (2, .int l23_2), (0, .ref k), (1, .int a0)] → va_P D vwCl [(k40, .inl (cI, 60, .inl c40)), (k41, .inl (cI, 60, .inl c41)), (k43, .inl (cI, 60, .inl c43)), (k45, .inl (cI, 60, .inl c45)), (k4, .inr (8, [.ref k40, .ref k41, .ref k42, .ref k43, .ref k44, .ref k45, .ref k46, .ref k47, .ref k48, .int c49])), (k46, .inl (cI, 40, .inl c46)), (k, .inr (9, [.ref k0, .ref k1, .ref k2, .ref k3, .ref k4, .ref k5, .int c6, .int c7, .int c8])), (k0, .inl (cI, 12, .inl c0))] H → va_D A [(k40, .inl (cI, 60, .inl c40)), (k41, .inl (cI, 60, .inl c41)), (k43, .inl (cI, 60, .inl c43)), (k45, .inl (cI, 60, .inl c45)), (k4, .inr (8, [.ref k40, .ref k41, .ref k42, .ref k43, .ref k44, .ref k45, .ref k46, .ref k47, .ref k48, .int c49])), (k46, .inl (cI, 40, .inl c46)), (k, .inr (9, [.ref k0, .ref k1, .ref k2, .ref k3, .ref k4, .ref k5, .int c6, .int c7, .int c8])), (k0, .inl (cI, 12, .inl c0))] → va_S A s.heap H locs → W p l e ({ frames := 2, cells := 0, slots := 0, locals := 43 } : Room) s m args below meth c H locs 0 0 Q (F0 m 23 ls []) := by
      intro fu_; induction fu_ with
      | zero => intro l23_2 l23_4 i23_0 hm; exact absurd hm (by omega)
      | succ fu_ ih23 =>
          intro l23_2 l23_4 i23_0 hm ls H locs hl hP hD hS
          have lo_l23_2 := k_lo l23_2
          have hi_l23_2 := k_hi l23_2
          have lo_l23_4 := k_lo l23_4
          have hi_l23_4 := k_hi l23_4
          refine lv_iload hx hb dX9_leakOf_23 (lv_at hl 0 rfl) ?_
          refine lv_aload_n hx hb dX9_leakOf_25 rfl (lv_at hl 3 rfl) ?_
          refine va_get (D := D) (ci := 9) (v := .ref k4) (C := RX9) (T := TX9) (N := 9) hx hb hT giX9 hown hK hP 6 rfl rfl 4 (by decide +kernel) (hT (Cond.fieldLink RX9 27 "DesertWire$World" "works" "LDesertWire$Works;") mw_97) (fun _ h9 => h9) rfl dX9_leakOf_26 ?_
          refine va_get (D := D) (ci := 8) (v := .int c49) (C := RX8) (T := TX8) (N := 10) hx hb hT giX8 hown hK hP 4 rfl rfl 9 (by decide +kernel) (hT (Cond.fieldLink RX9 83 "DesertWire$Works" "number" "I") mw_50) (fun _ h9 => h9) rfl dX9_leakOf_29 ?_
          refine b_icmp_ge hx hb rfl rfl (tgt := 119) dX9_leakOf_32 (by decide +kernel) (fun c_8 => ?_) (fun c_8 => ?_)
          · refine lv_iload_n hx hb dX9_leakOf_119 rfl (lv_at hl 2 rfl) ?_
            exact hRet () [6, 7, 4, 0, 1, 2, 3, 5] trivial hP hD (by decide +kernel) rfl hS rfl dX9_leakOf_120
          · refine lv_aload_n hx hb dX9_leakOf_35 rfl (lv_at hl 3 rfl) ?_
            refine va_get (D := D) (ci := 9) (v := .ref k4) (C := RX9) (T := TX9) (N := 9) hx hb hT giX9 hown hK hP 6 rfl rfl 4 (by decide +kernel) (hT (Cond.fieldLink RX9 27 "DesertWire$World" "works" "LDesertWire$Works;") mw_97) (fun _ h9 => h9) rfl dX9_leakOf_36 ?_
            refine lv_iload hx hb dX9_leakOf_39 (lv_at hl 0 rfl) ?_
            refine lv_iload_n hx hb dX9_leakOf_41 rfl (lv_at hl 4 rfl) ?_
            refine kJi (wr := [(k43, .inl (cI, 60, .inl c43)), (k46, .inl (cI, 40, .inl c46)), (k, .inr (9, [.ref k0, .ref k1, .ref k2, .ref k3, .ref k4, .ref k5, .int c6, .int c7, .int c8])), (k0, .inl (cI, 12, .inl c0))]) (va_runV (As := [.int l23_4, .int a0]) (rest := []) ⟨hx, hb, hml, hown, hT⟩ (c_X8_standsAsPoleG l D cI aK aV k4 k40 k41 k42 k43 k44 k45 k46 k47 k48 H.size c49 c40 c41 c45 l23_4 a0) (cwV 2 hT (gV_in mw_640 mw_637 mw_638 mw_639 mw_3) rfl rfl rfl (by decide +kernel) ⟨Nat.le_of_ble_eq_true rfl, Nat.le_of_ble_eq_true rfl⟩) (kRecvX (q0 := 4) (ci := 8) hK hP hD hN hXS hS hA rfl rfl [4, 0, 1, 3] rfl (by decide +kernel)) rfl rfl hl.1 rfl (lv_room (Nat.le_of_ble_eq_true rfl)) dX9_leakOf_42 ⟨Nat.le_of_ble_eq_true rfl, Nat.le_of_ble_eq_true rfl⟩) hP hD hS hA [4, 0, 1, 3] [2, 5, 6, 7] rfl rfl (by decide +kernel) (by decide +kernel) ?_
            clear hP hD hS
            intro r_9 u_11 H locs w_10 hP hD hS
            replace hP : va_P D vwCl [(k43, .inl (cI, 60, .inl c43)), (k46, .inl (cI, 40, .inl c46)), (k, .inr (9, [.ref k0, .ref k1, .ref k2, .ref k3, .ref k4, .ref k5, .int c6, .int c7, .int c8])), (k0, .inl (cI, 12, .inl c0)), (k4, .inr (8, [.ref k40, .ref k41, .ref k42, .ref k43, .ref k44, .ref k45, .ref k46, .ref k47, .ref k48, .int c49])), (k40, .inl (cI, 60, .inl c40)), (k41, .inl (cI, 60, .inl c41)), (k45, .inl (cI, 60, .inl c45))] H := hP
            replace hD : va_D A [(k43, .inl (cI, 60, .inl c43)), (k46, .inl (cI, 40, .inl c46)), (k, .inr (9, [.ref k0, .ref k1, .ref k2, .ref k3, .ref k4, .ref k5, .int c6, .int c7, .int c8])), (k0, .inl (cI, 12, .inl c0)), (k4, .inr (8, [.ref k40, .ref k41, .ref k42, .ref k43, .ref k44, .ref k45, .ref k46, .ref k47, .ref k48, .int c49])), (k40, .inl (cI, 60, .inl c40)), (k41, .inl (cI, 60, .inl c41)), (k45, .inl (cI, 60, .inl c45))] := hD
            have lo_r_9 := k_lo r_9
            have hi_r_9 := k_hi r_9
            refine b_if_eq hx hb rfl (tgt := 113) dX9_leakOf_45 (by decide +kernel) (fun c_12 => ?_) (fun c_12 => ?_)
            · obtain ⟨v_13, ev_13⟩ : ∃ y : Int32, y = l23_4 + 1 := ⟨_, rfl⟩
              have tv_13 : v_13.toInt = l23_4.toInt + 1 := by rw [ev_13]; exact k_addv rfl zl_1 (by omega) (by omega)
              refine lv_iinc (v := v_13) (lv' := [(4, .int v_13), (3, .int r_5), (2, .int l23_2), (0, .ref k), (1, .int a0)]) hx hb dX9_leakOf_113 hl (k := 0) rfl (by rw [ev_13]; rfl) (by decide +kernel) rfl ?_
              clear hl
              intro ls hl
              refine lv_goto (tgt := 23) hx hb dX9_leakOf_116 (by decide +kernel) ?_
              exact ih23 l23_2 v_13 (by first | omega | decide | assumption | rfl) (by omega) ls _ _ (lv_sub hl [0, 1, 2, 3, 4] rfl) (hP.sub [5, 6, 0, 7, 4, 1, 2, 3] rfl) (hD.sub [5, 6, 0, 7, 4, 1, 2, 3] (by decide +kernel) rfl) hS
            · refine lv_bipush (v := 9) hx hb dX9_leakOf_48 (by decide +kernel) ?_
              refine lv_iconst (v := 1) hx hb dX9_leakOf_50 (by decide +kernel) ?_
              refine lv_iload_n hx hb dX9_leakOf_51 rfl (lv_at hl 1 rfl) ?_
              refine lv_iadd hx hb dX9_leakOf_52 ?_
              refine lv_topi (fun v_14 ev_14 => ?_)
              have lo_v_14 := k_lo v_14
              have hi_v_14 := k_hi v_14
              refine lv_aload_n hx hb dX9_leakOf_53 rfl (lv_at hl 3 rfl) ?_
              refine va_get (D := D) (ci := 9) (v := .int c8) (C := RX9) (T := TX9) (N := 9) hx hb hT giX9 hown hK hP 2 rfl rfl 8 (by decide +kernel) (hT (Cond.fieldLink RX9 45 "DesertWire$World" "day" "I") mw_108) (fun _ h9 => h9) rfl dX9_leakOf_54 ?_
              refine lv_aload_n hx hb dX9_leakOf_57 rfl (lv_at hl 3 rfl) ?_
              refine va_get (D := D) (ci := 9) (v := .ref k4) (C := RX9) (T := TX9) (N := 9) hx hb hT giX9 hown hK hP 2 rfl rfl 4 (by decide +kernel) (hT (Cond.fieldLink RX9 27 "DesertWire$World" "works" "LDesertWire$Works;") mw_97) (fun _ h9 => h9) rfl dX9_leakOf_58 ?_
              refine lv_iload hx hb dX9_leakOf_61 (lv_at hl 0 rfl) ?_
              refine kJi (wr := [(k46, .inl (cI, 40, .inl c46)), (k, .inr (9, [.ref k0, .ref k1, .ref k2, .ref k3, .ref k4, .ref k5, .int c6, .int c7, .int c8])), (k0, .inl (cI, 12, .inl c0)), (k40, .inl (cI, 60, .inl c40)), (k41, .inl (cI, 60, .inl c41)), (k45, .inl (cI, 60, .inl c45))]) (va_runV (As := [.int l23_4]) (rest := [.int c8, .int v_14, .int 9]) ⟨hx, hb, hml, hown, hT⟩ (c_X8_sinceOfG l D cI aK aV k4 k40 k41 k42 k43 k44 k45 k46 k47 k48 H.size c49 c43 l23_4) (cwV 1 hT (gV_in mw_403 mw_414 mw_401 mw_402 mw_3) rfl rfl rfl (by decide +kernel) ⟨Nat.le_of_ble_eq_true rfl, Nat.le_of_ble_eq_true rfl⟩) (kRecvX (q0 := 4) (ci := 8) hK hP hD hN hXS hS hA rfl rfl [4, 0] rfl (by decide +kernel)) rfl rfl hl.1 rfl (lv_room (Nat.le_of_ble_eq_true rfl)) dX9_leakOf_63 ⟨Nat.le_of_ble_eq_true rfl, Nat.le_of_ble_eq_true rfl⟩) hP hD hS hA [4, 0] [1, 2, 3, 5, 6, 7] rfl rfl (by decide +kernel) (by decide +kernel) ?_
              clear hP hD hS
              intro r_15 u_17 H locs w_16 hP hD hS
              replace hP : va_P D vwCl [(k46, .inl (cI, 40, .inl c46)), (k, .inr (9, [.ref k0, .ref k1, .ref k2, .ref k3, .ref k4, .ref k5, .int c6, .int c7, .int c8])), (k0, .inl (cI, 12, .inl c0)), (k40, .inl (cI, 60, .inl c40)), (k41, .inl (cI, 60, .inl c41)), (k45, .inl (cI, 60, .inl c45)), (k4, .inr (8, [.ref k40, .ref k41, .ref k42, .ref k43, .ref k44, .ref k45, .ref k46, .ref k47, .ref k48, .int c49])), (k43, .inl (cI, 60, .inl c43))] H := hP
              replace hD : va_D A [(k46, .inl (cI, 40, .inl c46)), (k, .inr (9, [.ref k0, .ref k1, .ref k2, .ref k3, .ref k4, .ref k5, .int c6, .int c7, .int c8])), (k0, .inl (cI, 12, .inl c0)), (k40, .inl (cI, 60, .inl c40)), (k41, .inl (cI, 60, .inl c41)), (k45, .inl (cI, 60, .inl c45)), (k4, .inr (8, [.ref k40, .ref k41, .ref k42, .ref k43, .ref k44, .ref k45, .ref k46, .ref k47, .ref k48, .int c49])), (k43, .inl (cI, 60, .inl c43))] := hD
              have lo_r_15 := k_lo r_15
              have hi_r_15 := k_hi r_15
              refine lv_isub hx hb dX9_leakOf_66 ?_
              refine lv_topi (fun v_18 ev_18 => ?_)
              have lo_v_18 := k_lo v_18
              have hi_v_18 := k_hi v_18
              refine lv_bipush (v := 30) hx hb dX9_leakOf_67 (by decide +kernel) ?_
              refine lv_idiv hx hb dX9_leakOf_69 (by decide +kernel) ?_
              refine lv_topi (fun v_19 ev_19 => ?_)
              have lo_v_19 := k_lo v_19
              have hi_v_19 := k_hi v_19
              refine lv_iadd hx hb dX9_leakOf_70 ?_
              refine lv_topi (fun v_20 ev_20 => ?_)
              have lo_v_20 := k_lo v_20
              have hi_v_20 := k_hi v_20
              refine va_mmin hx hb (hml.trans hl.1.symm) hown (hT _ mw_641) (hT _ mw_538) (hT _ mw_13) (hT _ mw_539) (Nat.le_of_ble_eq_true rfl) (Nat.le_of_ble_eq_true rfl) (Nat.le_of_ble_eq_true rfl) (Nat.le_of_ble_eq_true rfl) dX9_leakOf_71 ?_
              refine lv_topi (fun v_21 ev_21 => ?_)
              have lo_v_21 := k_lo v_21
              have hi_v_21 := k_hi v_21
              have tv_21 : v_21.toInt = k_min 9 v_20.toInt := by rw [ev_21]; exact k_mmin zl_9 rfl
              have sv_21 := k_min_spec (9) (v_20.toInt)
              refine lv_istore (lv' := [(5, .int v_21), (4, .int l23_4), (3, .int r_5), (2, .int l23_2), (0, .ref k), (1, .int a0)]) hx hb dX9_leakOf_74 hl (by decide +kernel) rfl ?_
              clear hl
              intro ls hl
              refine lv_aload_n hx hb dX9_leakOf_76 rfl (lv_at hl 4 rfl) ?_
              refine va_get (D := D) (ci := 9) (v := .ref k4) (C := RX9) (T := TX9) (N := 9) hx hb hT giX9 hown hK hP 1 rfl rfl 4 (by decide +kernel) (hT (Cond.fieldLink RX9 27 "DesertWire$World" "works" "LDesertWire$Works;") mw_97) (fun _ h9 => h9) rfl dX9_leakOf_77 ?_
              refine lv_iload hx hb dX9_leakOf_80 (lv_at hl 1 rfl) ?_
              refine kJi (wr := [(k46, .inl (cI, 40, .inl c46)), (k, .inr (9, [.ref k0, .ref k1, .ref k2, .ref k3, .ref k4, .ref k5, .int c6, .int c7, .int c8])), (k0, .inl (cI, 12, .inl c0)), (k41, .inl (cI, 60, .inl c41)), (k45, .inl (cI, 60, .inl c45)), (k43, .inl (cI, 60, .inl c43))]) (va_runV (As := [.int l23_4]) (rest := []) ⟨hx, hb, hml, hown, hT⟩ (c_X8_kindOfG l D cI aK aV k4 k40 k41 k42 k43 k44 k45 k46 k47 k48 H.size c49 c40 l23_4) (cwV 1 hT (gV_in mw_384 mw_412 mw_382 mw_383 mw_3) rfl rfl rfl (by decide +kernel) ⟨Nat.le_of_ble_eq_true rfl, Nat.le_of_ble_eq_true rfl⟩) (kRecvX (q0 := 6) (ci := 8) hK hP hD hN hXS hS hA rfl rfl [6, 3] rfl (by decide +kernel)) rfl rfl hl.1 rfl (lv_room (Nat.le_of_ble_eq_true rfl)) dX9_leakOf_82 ⟨Nat.le_of_ble_eq_true rfl, Nat.le_of_ble_eq_true rfl⟩) hP hD hS hA [6, 3] [0, 1, 2, 4, 5, 7] rfl rfl (by decide +kernel) (by decide +kernel) ?_
              clear hP hD hS
              intro r_22 u_24 H locs w_23 hP hD hS
              replace hP : va_P D vwCl [(k46, .inl (cI, 40, .inl c46)), (k, .inr (9, [.ref k0, .ref k1, .ref k2, .ref k3, .ref k4, .ref k5, .int c6, .int c7, .int c8])), (k0, .inl (cI, 12, .inl c0)), (k41, .inl (cI, 60, .inl c41)), (k45, .inl (cI, 60, .inl c45)), (k43, .inl (cI, 60, .inl c43)), (k4, .inr (8, [.ref k40, .ref k41, .ref k42, .ref k43, .ref k44, .ref k45, .ref k46, .ref k47, .ref k48, .int c49])), (k40, .inl (cI, 60, .inl c40))] H := hP
              replace hD : va_D A [(k46, .inl (cI, 40, .inl c46)), (k, .inr (9, [.ref k0, .ref k1, .ref k2, .ref k3, .ref k4, .ref k5, .int c6, .int c7, .int c8])), (k0, .inl (cI, 12, .inl c0)), (k41, .inl (cI, 60, .inl c41)), (k45, .inl (cI, 60, .inl c45)), (k43, .inl (cI, 60, .inl c43)), (k4, .inr (8, [.ref k40, .ref k41, .ref k42, .ref k43, .ref k44, .ref k45, .ref k46, .ref k47, .ref k48, .int c49])), (k40, .inl (cI, 60, .inl c40))] := hD
              have lo_r_22 := k_lo r_22
              have hi_r_22 := k_hi r_22
              refine kJi (wr := [(k46, .inl (cI, 40, .inl c46)), (k, .inr (9, [.ref k0, .ref k1, .ref k2, .ref k3, .ref k4, .ref k5, .int c6, .int c7, .int c8])), (k0, .inl (cI, 12, .inl c0)), (k41, .inl (cI, 60, .inl c41)), (k45, .inl (cI, 60, .inl c45)), (k43, .inl (cI, 60, .inl c43)), (k4, .inr (8, [.ref k40, .ref k41, .ref k42, .ref k43, .ref k44, .ref k45, .ref k46, .ref k47, .ref k48, .int c49])), (k40, .inl (cI, 60, .inl c40))]) (va_runSN (As := [.int r_22]) (rest := []) ⟨hx, hb, hml, hown, hT⟩ (c_X10_isIronG l D cI aK aV H.size r_22) ⟨va_cnB 1 hT (gW_in mw_644) rfl rfl rfl (hN _ mw_642) (hT _ mw_1) (by decide +kernel) ⟨Nat.le_of_ble_eq_true rfl, Nat.le_of_ble_eq_true rfl⟩, hT _ mw_643, trivial⟩ (kStatX hK hP hD hN hXS hS hA [] rfl (by decide +kernel)) rfl rfl hl.1 rfl (lv_room (Nat.le_of_ble_eq_true rfl)) dX9_leakOf_85 ⟨Nat.le_of_ble_eq_true rfl, Nat.le_of_ble_eq_true rfl⟩) hP hD hS hA [] [0, 1, 2, 3, 4, 5, 6, 7] rfl rfl (by decide +kernel) (by decide +kernel) ?_
              clear hP hD hS
              intro r_25 u_27 H locs w_26 hP hD hS
              replace hP : va_P D vwCl [(k46, .inl (cI, 40, .inl c46)), (k, .inr (9, [.ref k0, .ref k1, .ref k2, .ref k3, .ref k4, .ref k5, .int c6, .int c7, .int c8])), (k0, .inl (cI, 12, .inl c0)), (k41, .inl (cI, 60, .inl c41)), (k45, .inl (cI, 60, .inl c45)), (k43, .inl (cI, 60, .inl c43)), (k4, .inr (8, [.ref k40, .ref k41, .ref k42, .ref k43, .ref k44, .ref k45, .ref k46, .ref k47, .ref k48, .int c49])), (k40, .inl (cI, 60, .inl c40))] H := hP
              replace hD : va_D A [(k46, .inl (cI, 40, .inl c46)), (k, .inr (9, [.ref k0, .ref k1, .ref k2, .ref k3, .ref k4, .ref k5, .int c6, .int c7, .int c8])), (k0, .inl (cI, 12, .inl c0)), (k41, .inl (cI, 60, .inl c41)), (k45, .inl (cI, 60, .inl c45)), (k43, .inl (cI, 60, .inl c43)), (k4, .inr (8, [.ref k40, .ref k41, .ref k42, .ref k43, .ref k44, .ref k45, .ref k46, .ref k47, .ref k48, .int c49])), (k40, .inl (cI, 60, .inl c40))] := hD
              have lo_r_25 := k_lo r_25
              have hi_r_25 := k_hi r_25
              refine b_if_eq hx hb rfl (tgt := 97) dX9_leakOf_88 (by decide +kernel) (fun c_28 => ?_) (fun c_28 => ?_)
              · refine lv_iload_n hx hb dX9_leakOf_97 rfl (lv_at hl 3 rfl) ?_
                refine b_if_ge hx hb rfl (tgt := 106) dX9_leakOf_98 (by decide +kernel) (fun c_29 => ?_) (fun c_29 => ?_)
                · refine lv_iload_n hx hb dX9_leakOf_106 rfl (lv_at hl 3 rfl) ?_
                  refine lv_iload hx hb dX9_leakOf_107 (lv_at hl 0 rfl) ?_
                  refine va_mmin hx hb (hml.trans hl.1.symm) hown (hT _ mw_641) (hT _ mw_538) (hT _ mw_13) (hT _ mw_539) (Nat.le_of_ble_eq_true rfl) (Nat.le_of_ble_eq_true rfl) (Nat.le_of_ble_eq_true rfl) (Nat.le_of_ble_eq_true rfl) dX9_leakOf_109 ?_
                  refine lv_topi (fun v_30 ev_30 => ?_)
                  have lo_v_30 := k_lo v_30
                  have hi_v_30 := k_hi v_30
                  have tv_30 : v_30.toInt = k_min l23_2.toInt v_21.toInt := by rw [ev_30]; exact k_mmin rfl rfl
                  try rw [tv_21] at tv_30
                  have sv_30 := k_min_spec (l23_2.toInt) (v_21.toInt)
                  try rw [tv_21] at sv_30
                  refine lv_istore_n (lv' := [(2, .int v_30), (5, .int v_21), (4, .int l23_4), (3, .int r_5), (0, .ref k), (1, .int a0)]) hx hb dX9_leakOf_112 rfl hl (by decide +kernel) rfl ?_
                  clear hl
                  intro ls hl
                  obtain ⟨v_31, ev_31⟩ : ∃ y : Int32, y = l23_4 + 1 := ⟨_, rfl⟩
                  have tv_31 : v_31.toInt = l23_4.toInt + 1 := by rw [ev_31]; exact k_addv rfl zl_1 (by omega) (by omega)
                  refine lv_iinc (v := v_31) (lv' := [(4, .int v_31), (2, .int v_30), (5, .int v_21), (3, .int r_5), (0, .ref k), (1, .int a0)]) hx hb dX9_leakOf_113 hl (k := 2) rfl (by rw [ev_31]; rfl) (by decide +kernel) rfl ?_
                  clear hl
                  intro ls hl
                  refine lv_goto (tgt := 23) hx hb dX9_leakOf_116 (by decide +kernel) ?_
                  exact ih23 v_30 v_31 (by first | omega | decide | assumption | rfl) (by omega) ls _ _ (lv_sub hl [0, 3, 1, 4, 5] rfl) (hP.sub [7, 3, 5, 4, 6, 0, 1, 2] rfl) (hD.sub [7, 3, 5, 4, 6, 0, 1, 2] (by decide +kernel) rfl) hS
                · refine lv_iload hx hb dX9_leakOf_101 (lv_at hl 0 rfl) ?_
                  refine lv_goto (tgt := 112) hx hb dX9_leakOf_103 (by decide +kernel) ?_
                  refine lv_istore_n (lv' := [(2, .int v_21), (5, .int v_21), (4, .int l23_4), (3, .int r_5), (0, .ref k), (1, .int a0)]) hx hb dX9_leakOf_112 rfl hl (by decide +kernel) rfl ?_
                  clear hl
                  intro ls hl
                  obtain ⟨v_32, ev_32⟩ : ∃ y : Int32, y = l23_4 + 1 := ⟨_, rfl⟩
                  have tv_32 : v_32.toInt = l23_4.toInt + 1 := by rw [ev_32]; exact k_addv rfl zl_1 (by omega) (by omega)
                  refine lv_iinc (v := v_32) (lv' := [(4, .int v_32), (2, .int v_21), (5, .int v_21), (3, .int r_5), (0, .ref k), (1, .int a0)]) hx hb dX9_leakOf_113 hl (k := 2) rfl (by rw [ev_32]; rfl) (by decide +kernel) rfl ?_
                  clear hl
                  intro ls hl
                  refine lv_goto (tgt := 23) hx hb dX9_leakOf_116 (by decide +kernel) ?_
                  exact ih23 v_21 v_32 (by first | omega | decide | assumption | rfl) (by omega) ls _ _ (lv_sub hl [0, 3, 1, 4, 5] rfl) (hP.sub [7, 3, 5, 4, 6, 0, 1, 2] rfl) (hD.sub [7, 3, 5, 4, 6, 0, 1, 2] (by decide +kernel) rfl) hS
              · refine lv_iload hx hb dX9_leakOf_91 (lv_at hl 0 rfl) ?_
                refine lv_iconst (v := 2) hx hb dX9_leakOf_93 (by decide +kernel) ?_
                refine lv_idiv hx hb dX9_leakOf_94 (by decide +kernel) ?_
                refine lv_topi (fun v_33 ev_33 => ?_)
                have lo_v_33 := k_lo v_33
                have hi_v_33 := k_hi v_33
                refine lv_istore (lv' := [(5, .int v_33), (4, .int l23_4), (3, .int r_5), (2, .int l23_2), (0, .ref k), (1, .int a0)]) hx hb dX9_leakOf_95 hl (by decide +kernel) rfl ?_
                clear hl
                intro ls hl
                refine lv_iload_n hx hb dX9_leakOf_97 rfl (lv_at hl 3 rfl) ?_
                refine b_if_ge hx hb rfl (tgt := 106) dX9_leakOf_98 (by decide +kernel) (fun c_34 => ?_) (fun c_34 => ?_)
                · refine lv_iload_n hx hb dX9_leakOf_106 rfl (lv_at hl 3 rfl) ?_
                  refine lv_iload hx hb dX9_leakOf_107 (lv_at hl 0 rfl) ?_
                  refine va_mmin hx hb (hml.trans hl.1.symm) hown (hT _ mw_641) (hT _ mw_538) (hT _ mw_13) (hT _ mw_539) (Nat.le_of_ble_eq_true rfl) (Nat.le_of_ble_eq_true rfl) (Nat.le_of_ble_eq_true rfl) (Nat.le_of_ble_eq_true rfl) dX9_leakOf_109 ?_
                  refine lv_topi (fun v_35 ev_35 => ?_)
                  have lo_v_35 := k_lo v_35
                  have hi_v_35 := k_hi v_35
                  have tv_35 : v_35.toInt = k_min l23_2.toInt v_33.toInt := by rw [ev_35]; exact k_mmin rfl rfl
                  have sv_35 := k_min_spec (l23_2.toInt) (v_33.toInt)
                  refine lv_istore_n (lv' := [(2, .int v_35), (5, .int v_33), (4, .int l23_4), (3, .int r_5), (0, .ref k), (1, .int a0)]) hx hb dX9_leakOf_112 rfl hl (by decide +kernel) rfl ?_
                  clear hl
                  intro ls hl
                  obtain ⟨v_36, ev_36⟩ : ∃ y : Int32, y = l23_4 + 1 := ⟨_, rfl⟩
                  have tv_36 : v_36.toInt = l23_4.toInt + 1 := by rw [ev_36]; exact k_addv rfl zl_1 (by omega) (by omega)
                  refine lv_iinc (v := v_36) (lv' := [(4, .int v_36), (2, .int v_35), (5, .int v_33), (3, .int r_5), (0, .ref k), (1, .int a0)]) hx hb dX9_leakOf_113 hl (k := 2) rfl (by rw [ev_36]; rfl) (by decide +kernel) rfl ?_
                  clear hl
                  intro ls hl
                  refine lv_goto (tgt := 23) hx hb dX9_leakOf_116 (by decide +kernel) ?_
                  exact ih23 v_35 v_36 (by first | omega | decide | assumption | rfl) (by omega) ls _ _ (lv_sub hl [0, 3, 1, 4, 5] rfl) (hP.sub [7, 3, 5, 4, 6, 0, 1, 2] rfl) (hD.sub [7, 3, 5, 4, 6, 0, 1, 2] (by decide +kernel) rfl) hS
                · refine lv_iload hx hb dX9_leakOf_101 (lv_at hl 0 rfl) ?_
                  refine lv_goto (tgt := 112) hx hb dX9_leakOf_103 (by decide +kernel) ?_
                  refine lv_istore_n (lv' := [(2, .int v_33), (5, .int v_33), (4, .int l23_4), (3, .int r_5), (0, .ref k), (1, .int a0)]) hx hb dX9_leakOf_112 rfl hl (by decide +kernel) rfl ?_
                  clear hl
                  intro ls hl
                  obtain ⟨v_37, ev_37⟩ : ∃ y : Int32, y = l23_4 + 1 := ⟨_, rfl⟩
                  have tv_37 : v_37.toInt = l23_4.toInt + 1 := by rw [ev_37]; exact k_addv rfl zl_1 (by omega) (by omega)
                  refine lv_iinc (v := v_37) (lv' := [(4, .int v_37), (2, .int v_33), (5, .int v_33), (3, .int r_5), (0, .ref k), (1, .int a0)]) hx hb dX9_leakOf_113 hl (k := 2) rfl (by rw [ev_37]; rfl) (by decide +kernel) rfl ?_
                  clear hl
                  intro ls hl
                  refine lv_goto (tgt := 23) hx hb dX9_leakOf_116 (by decide +kernel) ?_
                  exact ih23 v_33 v_37 (by first | omega | decide | assumption | rfl) (by omega) ls _ _ (lv_sub hl [0, 3, 1, 4, 5] rfl) (hP.sub [7, 3, 5, 4, 6, 0, 1, 2] rfl) (hD.sub [7, 3, 5, 4, 6, 0, 1, 2] (by decide +kernel) rfl) hS
    exact hloop_23 _ (-1) 0 (by first | omega | (simp only [zl_m1, zl_0]; first | done | omega) | decide | assumption | rfl) (Nat.lt_succ_self _) ls _ _ (lv_sub hl [0, 1, 2, 3, 4] rfl) hP hD hS
  · refine lv_iload_n hx hb dX9_leakOf_13 rfl (lv_at hl 0 rfl) ?_
    exact hRet () [0, 1, 6, 2, 3, 4, 5, 7] trivial hP hD (by decide +kernel) rfl hS rfl dX9_leakOf_14
theorem bn_cX9_lifeOf_0 : BN cX9_lifeOf 0 0x2b4f21103005503d08824029b230056e6900adc381c00ad4562b := by
  unfold BN; decide +kernel
theorem dX9_lifeOf_0 : decode cX9_lifeOf 0 = .ok (.aload_n 0, 1) := dR0 (k := 0) (i := 0) bn_cX9_lifeOf_0 dop_42 (by decide +kernel)
theorem dX9_lifeOf_1 : decode cX9_lifeOf 1 = .ok (.aload_n 0, 1) := dR0 (k := 0) (i := 1) bn_cX9_lifeOf_0 dop_42 (by decide +kernel)
theorem dX9_lifeOf_2 : decode cX9_lifeOf 2 = .ok (.getfield 27, 3) := dR2 (f := Instr.getfield) (k := 0) (i := 2) bn_cX9_lifeOf_0 dop_180 27 (by decide +kernel)
theorem dX9_lifeOf_5 : decode cX9_lifeOf 5 = .ok (.iload_n 1, 1) := dR0 (k := 0) (i := 5) bn_cX9_lifeOf_0 dop_27 (by decide +kernel)
theorem dX9_lifeOf_6 : decode cX9_lifeOf 6 = .ok (.invokevirtual 104, 3) := dR2 (f := Instr.invokevirtual) (k := 0) (i := 6) bn_cX9_lifeOf_0 dop_182 104 (by decide +kernel)
theorem dX9_lifeOf_9 : decode cX9_lifeOf 9 = .ok (.invokevirtual 69, 3) := dR2 (f := Instr.invokevirtual) (k := 0) (i := 9) bn_cX9_lifeOf_0 dop_182 69 (by decide +kernel)
theorem dX9_lifeOf_12 : decode cX9_lifeOf 12 = .ok (.ifCond .ne 8, 3) := dR2s (f := Instr.ifCond .ne) (k := 0) (i := 12) bn_cX9_lifeOf_0 dop_154 8 8 (by decide +kernel)
theorem dX9_lifeOf_15 : decode cX9_lifeOf 15 = .ok (.bipush 60, 2) := dR1s (f := Instr.bipush) (k := 0) (i := 15) bn_cX9_lifeOf_0 dop_16 60 60 (by decide +kernel)
theorem dX9_lifeOf_17 : decode cX9_lifeOf 17 = .ok (.goto 5, 3) := dR2s (f := Instr.goto) (k := 0) (i := 17) bn_cX9_lifeOf_0 dop_167 5 5 (by decide +kernel)
theorem dX9_lifeOf_20 : decode cX9_lifeOf 20 = .ok (.bipush 120, 2) := dR1s (f := Instr.bipush) (k := 0) (i := 20) bn_cX9_lifeOf_0 dop_16 120 120 (by decide +kernel)
theorem dX9_lifeOf_22 : decode cX9_lifeOf 22 = .ok (.ireturn, 1) := dR0 (k := 0) (i := 22) bn_cX9_lifeOf_0 dop_172 (by decide +kernel)
set_option maxHeartbeats 4000000 in
set_option maxRecDepth 100000 in
theorem c_X9_lifeOfG (l : Launch) (D : va_G) (cI : ClassId) (aK aV : Nat → Nat) (k k0 k1 k2 k3 k4 k5 k40 k41 k42 k43 k44 k45 k46 k47 k48 : Nat) (sz : Nat) (c6 : Int32) (c7 : Int32) (c8 : Int32) (c1 : Nat → Int32) (c49 : Int32) (c41 : Nat → Int32) (a0 : Int32) : Met l yX9_lifeOf (gW yX9_lifeOf cX9_lifeOf 2 (some .int)) ({ frames := 2, cells := 0, slots := 0, locals := 42 } : Room) (kPreX D cI aK aV [.ref k, .int a0] [(k, .inr (9, [.ref k0, .ref k1, .ref k2, .ref k3, .ref k4, .ref k5, .int c6, .int c7, .int c8])), (k1, .inl (cI, 40, .inl c1)), (k4, .inr (8, [.ref k40, .ref k41, .ref k42, .ref k43, .ref k44, .ref k45, .ref k46, .ref k47, .ref k48, .int c49])), (k41, .inl (cI, 60, .inl c41))] sz) (va_Qi (fun (r : Int32) (u : Unit) => True) (fun u t => kWd D cI (va_A [(k, .inr (9, [.ref k0, .ref k1, .ref k2, .ref k3, .ref k4, .ref k5, .int c6, .int c7, .int c8])), (k1, .inl (cI, 40, .inl c1)), (k4, .inr (8, [.ref k40, .ref k41, .ref k42, .ref k43, .ref k44, .ref k45, .ref k46, .ref k47, .ref k48, .int c49])), (k41, .inl (cI, 60, .inl c41))] sz) [(k, .inr (9, [.ref k0, .ref k1, .ref k2, .ref k3, .ref k4, .ref k5, .int c6, .int c7, .int c8])), (k1, .inl (cI, 40, .inl c1)), (k4, .inr (8, [.ref k40, .ref k41, .ref k42, .ref k43, .ref k44, .ref k45, .ref k46, .ref k47, .ref k48, .int c49])), (k41, .inl (cI, 60, .inl c41))] t) (va_A [(k, .inr (9, [.ref k0, .ref k1, .ref k2, .ref k3, .ref k4, .ref k5, .int c6, .int c7, .int c8])), (k1, .inl (cI, 40, .inl c1)), (k4, .inr (8, [.ref k40, .ref k41, .ref k42, .ref k43, .ref k44, .ref k45, .ref k46, .ref k47, .ref k48, .int c49])), (k41, .inl (cI, 60, .inl c41))] sz)) 0 0 (va_A [(k, .inr (9, [.ref k0, .ref k1, .ref k2, .ref k3, .ref k4, .ref k5, .int c6, .int c7, .int c8])), (k1, .inl (cI, 40, .inl c1)), (k4, .inr (8, [.ref k40, .ref k41, .ref k42, .ref k43, .ref k44, .ref k45, .ref k46, .ref k47, .ref k48, .int c49])), (k41, .inl (cI, 60, .inl c41))] sz) := by
  refine kMetIX (own := RX9) (by decide +kernel) rfl (Nat.le_of_ble_eq_true rfl) ?_
  intro p e s m args below meth c hx hb hT hown hname hml A Q hK hP hD hS hA hN hXS hRet ls hl
  have hl : lv_has ls 2 [(0, .ref k), (1, .int a0)] := hl
  have lo_a0 := k_lo a0
  have hi_a0 := k_hi a0
  refine lv_aload_n hx hb dX9_lifeOf_0 rfl (lv_at hl 0 rfl) ?_
  refine lv_aload_n hx hb dX9_lifeOf_1 rfl (lv_at hl 0 rfl) ?_
  refine va_get (D := D) (ci := 9) (v := .ref k4) (C := RX9) (T := TX9) (N := 9) hx hb hT giX9 hown hK hP 0 rfl rfl 4 (by decide +kernel) (hT (Cond.fieldLink RX9 27 "DesertWire$World" "works" "LDesertWire$Works;") mw_97) (fun _ h9 => h9) rfl dX9_lifeOf_2 ?_
  refine lv_iload_n hx hb dX9_lifeOf_5 rfl (lv_at hl 1 rfl) ?_
  refine kJi (wr := [(k, .inr (9, [.ref k0, .ref k1, .ref k2, .ref k3, .ref k4, .ref k5, .int c6, .int c7, .int c8])), (k1, .inl (cI, 40, .inl c1))]) (va_runV (As := [.int a0]) (rest := [.ref k]) ⟨hx, hb, hml, hown, hT⟩ (c_X8_mileOfG l D cI aK aV k4 k40 k41 k42 k43 k44 k45 k46 k47 k48 s.heap.size c49 c41 a0) (cwV 1 hT (gV_in mw_367 mw_419 mw_365 mw_366 mw_3) rfl rfl rfl (by decide +kernel) ⟨Nat.le_of_ble_eq_true rfl, Nat.le_of_ble_eq_true rfl⟩) (kRecvX (q0 := 2) (ci := 8) hK hP hD hN hXS hS hA rfl rfl [2, 3] rfl (by decide +kernel)) rfl rfl hl.1 rfl (lv_room (Nat.le_of_ble_eq_true rfl)) dX9_lifeOf_6 ⟨Nat.le_of_ble_eq_true rfl, Nat.le_of_ble_eq_true rfl⟩) hP hD hS hA [2, 3] [0, 1] rfl rfl (by decide +kernel) (by decide +kernel) ?_
  clear hP hD hS
  intro r_1 u_3 H locs w_2 hP hD hS
  replace hP : va_P D vwCl [(k, .inr (9, [.ref k0, .ref k1, .ref k2, .ref k3, .ref k4, .ref k5, .int c6, .int c7, .int c8])), (k1, .inl (cI, 40, .inl c1)), (k4, .inr (8, [.ref k40, .ref k41, .ref k42, .ref k43, .ref k44, .ref k45, .ref k46, .ref k47, .ref k48, .int c49])), (k41, .inl (cI, 60, .inl c41))] H := hP
  replace hD : va_D A [(k, .inr (9, [.ref k0, .ref k1, .ref k2, .ref k3, .ref k4, .ref k5, .int c6, .int c7, .int c8])), (k1, .inl (cI, 40, .inl c1)), (k4, .inr (8, [.ref k40, .ref k41, .ref k42, .ref k43, .ref k44, .ref k45, .ref k46, .ref k47, .ref k48, .int c49])), (k41, .inl (cI, 60, .inl c41))] := hD
  have lo_r_1 := k_lo r_1
  have hi_r_1 := k_hi r_1
  refine kJi (wr := [(k4, .inr (8, [.ref k40, .ref k41, .ref k42, .ref k43, .ref k44, .ref k45, .ref k46, .ref k47, .ref k48, .int c49])), (k41, .inl (cI, 60, .inl c41))]) (va_runV (As := [.int r_1]) (rest := []) ⟨hx, hb, hml, hown, hT⟩ (c_X9_soilOfG l D cI aK aV k k0 k1 k2 k3 k4 k5 H.size c6 c7 c8 c1 r_1) (cwV 1 hT (gV_in mw_423 mw_420 mw_421 mw_422 mw_2) rfl rfl rfl (by decide +kernel) ⟨Nat.le_of_ble_eq_true rfl, Nat.le_of_ble_eq_true rfl⟩) (kRecvX (q0 := 0) (ci := 9) hK hP hD hN hXS hS hA rfl rfl [0, 1] rfl (by decide +kernel)) rfl rfl hl.1 rfl (lv_room (Nat.le_of_ble_eq_true rfl)) dX9_lifeOf_9 ⟨Nat.le_of_ble_eq_true rfl, Nat.le_of_ble_eq_true rfl⟩) hP hD hS hA [0, 1] [2, 3] rfl rfl (by decide +kernel) (by decide +kernel) ?_
  clear hP hD hS
  intro r_4 u_6 H locs w_5 hP hD hS
  replace hP : va_P D vwCl [(k4, .inr (8, [.ref k40, .ref k41, .ref k42, .ref k43, .ref k44, .ref k45, .ref k46, .ref k47, .ref k48, .int c49])), (k41, .inl (cI, 60, .inl c41)), (k, .inr (9, [.ref k0, .ref k1, .ref k2, .ref k3, .ref k4, .ref k5, .int c6, .int c7, .int c8])), (k1, .inl (cI, 40, .inl c1))] H := hP
  replace hD : va_D A [(k4, .inr (8, [.ref k40, .ref k41, .ref k42, .ref k43, .ref k44, .ref k45, .ref k46, .ref k47, .ref k48, .int c49])), (k41, .inl (cI, 60, .inl c41)), (k, .inr (9, [.ref k0, .ref k1, .ref k2, .ref k3, .ref k4, .ref k5, .int c6, .int c7, .int c8])), (k1, .inl (cI, 40, .inl c1))] := hD
  have lo_r_4 := k_lo r_4
  have hi_r_4 := k_hi r_4
  refine b_if_ne hx hb rfl (tgt := 20) dX9_lifeOf_12 (by decide +kernel) (fun c_7 => ?_) (fun c_7 => ?_)
  · refine lv_bipush (v := 120) hx hb dX9_lifeOf_20 (by decide +kernel) ?_
    exact hRet () [2, 3, 0, 1] trivial hP hD (by decide +kernel) rfl hS rfl dX9_lifeOf_22
  · refine lv_bipush (v := 60) hx hb dX9_lifeOf_15 (by decide +kernel) ?_
    refine lv_goto (tgt := 22) hx hb dX9_lifeOf_17 (by decide +kernel) ?_
    exact hRet () [2, 3, 0, 1] trivial hP hD (by decide +kernel) rfl hS rfl dX9_lifeOf_22
theorem bn_cX9_eatenOn_0 : BN cX9_eatenOn 0 0xad390057261378056e1c1596c02b70e07002b5159840a2e00ad456ad01818029a360056e1c0e0056a2b078054205318056e1c0e0056a2b := by
  unfold BN; decide +kernel
theorem dX9_eatenOn_0 : decode cX9_eatenOn 0 = .ok (.aload_n 0, 1) := dR0 (k := 0) (i := 0) bn_cX9_eatenOn_0 dop_42 (by decide +kernel)
theorem dX9_eatenOn_1 : decode cX9_eatenOn 1 = .ok (.getfield 27, 3) := dR2 (f := Instr.getfield) (k := 0) (i := 1) bn_cX9_eatenOn_0 dop_180 27 (by decide +kernel)
theorem dX9_eatenOn_4 : decode cX9_eatenOn 4 = .ok (.iload_n 1, 1) := dR0 (k := 0) (i := 4) bn_cX9_eatenOn_0 dop_27 (by decide +kernel)
theorem dX9_eatenOn_5 : decode cX9_eatenOn 5 = .ok (.invokevirtual 98, 3) := dR2 (f := Instr.invokevirtual) (k := 0) (i := 5) bn_cX9_eatenOn_0 dop_182 98 (by decide +kernel)
theorem dX9_eatenOn_8 : decode cX9_eatenOn 8 = .ok (.iconst 1, 1) := dR0 (k := 0) (i := 8) bn_cX9_eatenOn_0 dop_4 (by decide +kernel)
theorem dX9_eatenOn_9 : decode cX9_eatenOn 9 = .ok (.if_icmp .ne 14, 3) := dR2s (f := Instr.if_icmp .ne) (k := 0) (i := 9) bn_cX9_eatenOn_0 dop_160 14 14 (by decide +kernel)
theorem dX9_eatenOn_12 : decode cX9_eatenOn 12 = .ok (.aload_n 0, 1) := dR0 (k := 0) (i := 12) bn_cX9_eatenOn_0 dop_42 (by decide +kernel)
theorem dX9_eatenOn_13 : decode cX9_eatenOn 13 = .ok (.getfield 27, 3) := dR2 (f := Instr.getfield) (k := 0) (i := 13) bn_cX9_eatenOn_0 dop_180 27 (by decide +kernel)
theorem dX9_eatenOn_16 : decode cX9_eatenOn 16 = .ok (.iload_n 1, 1) := dR0 (k := 0) (i := 16) bn_cX9_eatenOn_0 dop_27 (by decide +kernel)
theorem dX9_eatenOn_17 : decode cX9_eatenOn 17 = .ok (.invokevirtual 107, 3) := dR2 (f := Instr.invokevirtual) (k := 0) (i := 17) bn_cX9_eatenOn_0 dop_182 107 (by decide +kernel)
theorem dX9_eatenOn_20 : decode cX9_eatenOn 20 = .ok (.ifCond .eq 5, 3) := dR2s (f := Instr.ifCond .eq) (k := 0) (i := 20) bn_cX9_eatenOn_0 dop_153 5 5 (by decide +kernel)
theorem dX9_eatenOn_23 : decode cX9_eatenOn 23 = .ok (.iconst (-1), 1) := dR0 (k := 0) (i := 23) bn_cX9_eatenOn_0 dop_2 (by decide +kernel)
theorem dX9_eatenOn_24 : decode cX9_eatenOn 24 = .ok (.ireturn, 1) := dR0 (k := 0) (i := 24) bn_cX9_eatenOn_0 dop_172 (by decide +kernel)
theorem dX9_eatenOn_25 : decode cX9_eatenOn 25 = .ok (.aload_n 0, 1) := dR0 (k := 0) (i := 25) bn_cX9_eatenOn_0 dop_42 (by decide +kernel)
theorem dX9_eatenOn_26 : decode cX9_eatenOn 26 = .ok (.getfield 45, 3) := dR2 (f := Instr.getfield) (k := 0) (i := 26) bn_cX9_eatenOn_0 dop_180 45 (by decide +kernel)
theorem dX9_eatenOn_29 : decode cX9_eatenOn 29 = .ok (.iconst 1, 1) := dR0 (k := 0) (i := 29) bn_cX9_eatenOn_0 dop_4 (by decide +kernel)
theorem dX9_eatenOn_30 : decode cX9_eatenOn 30 = .ok (.iadd, 1) := dR0 (k := 0) (i := 30) bn_cX9_eatenOn_0 dop_96 (by decide +kernel)
theorem dX9_eatenOn_31 : decode cX9_eatenOn 31 = .ok (.aload_n 0, 1) := dR0 (k := 0) (i := 31) bn_cX9_eatenOn_0 dop_42 (by decide +kernel)
theorem dX9_eatenOn_32 : decode cX9_eatenOn 32 = .ok (.getfield 27, 3) := dR2 (f := Instr.getfield) (k := 0) (i := 32) bn_cX9_eatenOn_0 dop_180 27 (by decide +kernel)
theorem dX9_eatenOn_35 : decode cX9_eatenOn 35 = .ok (.iload_n 1, 1) := dR0 (k := 0) (i := 35) bn_cX9_eatenOn_0 dop_27 (by decide +kernel)
theorem dX9_eatenOn_36 : decode cX9_eatenOn 36 = .ok (.invokevirtual 90, 3) := dR2 (f := Instr.invokevirtual) (k := 0) (i := 36) bn_cX9_eatenOn_0 dop_182 90 (by decide +kernel)
theorem dX9_eatenOn_39 : decode cX9_eatenOn 39 = .ok (.aload_n 0, 1) := dR0 (k := 0) (i := 39) bn_cX9_eatenOn_0 dop_42 (by decide +kernel)
theorem dX9_eatenOn_40 : decode cX9_eatenOn 40 = .ok (.iload_n 1, 1) := dR0 (k := 0) (i := 40) bn_cX9_eatenOn_0 dop_27 (by decide +kernel)
theorem dX9_eatenOn_41 : decode cX9_eatenOn 41 = .ok (.invokevirtual 110, 3) := dR2 (f := Instr.invokevirtual) (k := 0) (i := 41) bn_cX9_eatenOn_0 dop_182 110 (by decide +kernel)
theorem dX9_eatenOn_44 : decode cX9_eatenOn 44 = .ok (.iadd, 1) := dR0 (k := 0) (i := 44) bn_cX9_eatenOn_0 dop_96 (by decide +kernel)
theorem dX9_eatenOn_45 : decode cX9_eatenOn 45 = .ok (.invokestatic 113, 3) := dR2 (f := Instr.invokestatic) (k := 0) (i := 45) bn_cX9_eatenOn_0 dop_184 113 (by decide +kernel)
theorem dX9_eatenOn_48 : decode cX9_eatenOn 48 = .ok (.ireturn, 1) := dR0 (k := 0) (i := 48) bn_cX9_eatenOn_0 dop_172 (by decide +kernel)
set_option maxHeartbeats 4000000 in
set_option maxRecDepth 100000 in
theorem c_X9_eatenOnG (l : Launch) (D : va_G) (cI : ClassId) (aK aV : Nat → Nat) (k k0 k1 k2 k3 k4 k5 k40 k41 k42 k43 k44 k45 k46 k47 k48 : Nat) (sz : Nat) (c6 : Int32) (c7 : Int32) (c8 : Int32) (c1 : Nat → Int32) (c49 : Int32) (c40 : Nat → Int32) (c41 : Nat → Int32) (c43 : Nat → Int32) (c45 : Nat → Int32) (a0 : Int32) : Met l yX9_eatenOn (gW yX9_eatenOn cX9_eatenOn 2 (some .int)) ({ frames := 3, cells := 0, slots := 0, locals := 63 } : Room) (kPreX D cI aK aV [.ref k, .int a0] [(k, .inr (9, [.ref k0, .ref k1, .ref k2, .ref k3, .ref k4, .ref k5, .int c6, .int c7, .int c8])), (k1, .inl (cI, 40, .inl c1)), (k4, .inr (8, [.ref k40, .ref k41, .ref k42, .ref k43, .ref k44, .ref k45, .ref k46, .ref k47, .ref k48, .int c49])), (k40, .inl (cI, 60, .inl c40)), (k41, .inl (cI, 60, .inl c41)), (k43, .inl (cI, 60, .inl c43)), (k45, .inl (cI, 60, .inl c45))] sz) (va_Qi (fun (r : Int32) (u : Unit) => True) (fun u t => kWd D cI (va_A [(k, .inr (9, [.ref k0, .ref k1, .ref k2, .ref k3, .ref k4, .ref k5, .int c6, .int c7, .int c8])), (k1, .inl (cI, 40, .inl c1)), (k4, .inr (8, [.ref k40, .ref k41, .ref k42, .ref k43, .ref k44, .ref k45, .ref k46, .ref k47, .ref k48, .int c49])), (k40, .inl (cI, 60, .inl c40)), (k41, .inl (cI, 60, .inl c41)), (k43, .inl (cI, 60, .inl c43)), (k45, .inl (cI, 60, .inl c45))] sz) [(k, .inr (9, [.ref k0, .ref k1, .ref k2, .ref k3, .ref k4, .ref k5, .int c6, .int c7, .int c8])), (k1, .inl (cI, 40, .inl c1)), (k4, .inr (8, [.ref k40, .ref k41, .ref k42, .ref k43, .ref k44, .ref k45, .ref k46, .ref k47, .ref k48, .int c49])), (k40, .inl (cI, 60, .inl c40)), (k41, .inl (cI, 60, .inl c41)), (k43, .inl (cI, 60, .inl c43)), (k45, .inl (cI, 60, .inl c45))] t) (va_A [(k, .inr (9, [.ref k0, .ref k1, .ref k2, .ref k3, .ref k4, .ref k5, .int c6, .int c7, .int c8])), (k1, .inl (cI, 40, .inl c1)), (k4, .inr (8, [.ref k40, .ref k41, .ref k42, .ref k43, .ref k44, .ref k45, .ref k46, .ref k47, .ref k48, .int c49])), (k40, .inl (cI, 60, .inl c40)), (k41, .inl (cI, 60, .inl c41)), (k43, .inl (cI, 60, .inl c43)), (k45, .inl (cI, 60, .inl c45))] sz)) 0 0 (va_A [(k, .inr (9, [.ref k0, .ref k1, .ref k2, .ref k3, .ref k4, .ref k5, .int c6, .int c7, .int c8])), (k1, .inl (cI, 40, .inl c1)), (k4, .inr (8, [.ref k40, .ref k41, .ref k42, .ref k43, .ref k44, .ref k45, .ref k46, .ref k47, .ref k48, .int c49])), (k40, .inl (cI, 60, .inl c40)), (k41, .inl (cI, 60, .inl c41)), (k43, .inl (cI, 60, .inl c43)), (k45, .inl (cI, 60, .inl c45))] sz) := by
  refine kMetIX (own := RX9) (by decide +kernel) rfl (Nat.le_of_ble_eq_true rfl) ?_
  intro p e s m args below meth c hx hb hT hown hname hml A Q hK hP hD hS hA hN hXS hRet ls hl
  have hl : lv_has ls 2 [(0, .ref k), (1, .int a0)] := hl
  have lo_a0 := k_lo a0
  have hi_a0 := k_hi a0
  have lo_c8 := k_lo c8
  have hi_c8 := k_hi c8
  refine lv_aload_n hx hb dX9_eatenOn_0 rfl (lv_at hl 0 rfl) ?_
  refine va_get (D := D) (ci := 9) (v := .ref k4) (C := RX9) (T := TX9) (N := 9) hx hb hT giX9 hown hK hP 0 rfl rfl 4 (by decide +kernel) (hT (Cond.fieldLink RX9 27 "DesertWire$World" "works" "LDesertWire$Works;") mw_97) (fun _ h9 => h9) rfl dX9_eatenOn_1 ?_
  refine lv_iload_n hx hb dX9_eatenOn_4 rfl (lv_at hl 1 rfl) ?_
  refine kJi (wr := [(k, .inr (9, [.ref k0, .ref k1, .ref k2, .ref k3, .ref k4, .ref k5, .int c6, .int c7, .int c8])), (k1, .inl (cI, 40, .inl c1)), (k41, .inl (cI, 60, .inl c41)), (k43, .inl (cI, 60, .inl c43)), (k45, .inl (cI, 60, .inl c45))]) (va_runV (As := [.int a0]) (rest := []) ⟨hx, hb, hml, hown, hT⟩ (c_X8_kindOfG l D cI aK aV k4 k40 k41 k42 k43 k44 k45 k46 k47 k48 s.heap.size c49 c40 a0) (cwV 1 hT (gV_in mw_384 mw_412 mw_382 mw_383 mw_3) rfl rfl rfl (by decide +kernel) ⟨Nat.le_of_ble_eq_true rfl, Nat.le_of_ble_eq_true rfl⟩) (kRecvX (q0 := 2) (ci := 8) hK hP hD hN hXS hS hA rfl rfl [2, 3] rfl (by decide +kernel)) rfl rfl hl.1 rfl (lv_room (Nat.le_of_ble_eq_true rfl)) dX9_eatenOn_5 ⟨Nat.le_of_ble_eq_true rfl, Nat.le_of_ble_eq_true rfl⟩) hP hD hS hA [2, 3] [0, 1, 4, 5, 6] rfl rfl (by decide +kernel) (by decide +kernel) ?_
  clear hP hD hS
  intro r_1 u_3 H locs w_2 hP hD hS
  replace hP : va_P D vwCl [(k, .inr (9, [.ref k0, .ref k1, .ref k2, .ref k3, .ref k4, .ref k5, .int c6, .int c7, .int c8])), (k1, .inl (cI, 40, .inl c1)), (k41, .inl (cI, 60, .inl c41)), (k43, .inl (cI, 60, .inl c43)), (k45, .inl (cI, 60, .inl c45)), (k4, .inr (8, [.ref k40, .ref k41, .ref k42, .ref k43, .ref k44, .ref k45, .ref k46, .ref k47, .ref k48, .int c49])), (k40, .inl (cI, 60, .inl c40))] H := hP
  replace hD : va_D A [(k, .inr (9, [.ref k0, .ref k1, .ref k2, .ref k3, .ref k4, .ref k5, .int c6, .int c7, .int c8])), (k1, .inl (cI, 40, .inl c1)), (k41, .inl (cI, 60, .inl c41)), (k43, .inl (cI, 60, .inl c43)), (k45, .inl (cI, 60, .inl c45)), (k4, .inr (8, [.ref k40, .ref k41, .ref k42, .ref k43, .ref k44, .ref k45, .ref k46, .ref k47, .ref k48, .int c49])), (k40, .inl (cI, 60, .inl c40))] := hD
  have lo_r_1 := k_lo r_1
  have hi_r_1 := k_hi r_1
  refine lv_iconst (v := 1) hx hb dX9_eatenOn_8 (by decide +kernel) ?_
  refine b_icmp_ne hx hb rfl zl_1 (tgt := 23) dX9_eatenOn_9 (by decide +kernel) (fun c_4 => ?_) (fun c_4 => ?_)
  · refine lv_iconst (v := (-1)) hx hb dX9_eatenOn_23 (by decide +kernel) ?_
    exact hRet () [0, 1, 5, 6, 2, 3, 4] trivial hP hD (by decide +kernel) rfl hS rfl dX9_eatenOn_24
  · refine lv_aload_n hx hb dX9_eatenOn_12 rfl (lv_at hl 0 rfl) ?_
    refine va_get (D := D) (ci := 9) (v := .ref k4) (C := RX9) (T := TX9) (N := 9) hx hb hT giX9 hown hK hP 0 rfl rfl 4 (by decide +kernel) (hT (Cond.fieldLink RX9 27 "DesertWire$World" "works" "LDesertWire$Works;") mw_97) (fun _ h9 => h9) rfl dX9_eatenOn_13 ?_
    refine lv_iload_n hx hb dX9_eatenOn_16 rfl (lv_at hl 1 rfl) ?_
    refine kJi (wr := [(k, .inr (9, [.ref k0, .ref k1, .ref k2, .ref k3, .ref k4, .ref k5, .int c6, .int c7, .int c8])), (k1, .inl (cI, 40, .inl c1)), (k41, .inl (cI, 60, .inl c41)), (k43, .inl (cI, 60, .inl c43)), (k40, .inl (cI, 60, .inl c40))]) (va_runV (As := [.int a0]) (rest := []) ⟨hx, hb, hml, hown, hT⟩ (c_X8_isDownG l D cI aK aV k4 k40 k41 k42 k43 k44 k45 k46 k47 k48 H.size c49 c45 a0) (cwV 1 hT (gV_in mw_407 mw_413 mw_405 mw_406 mw_3) rfl rfl rfl (by decide +kernel) ⟨Nat.le_of_ble_eq_true rfl, Nat.le_of_ble_eq_true rfl⟩) (kRecvX (q0 := 5) (ci := 8) hK hP hD hN hXS hS hA rfl rfl [5, 4] rfl (by decide +kernel)) rfl rfl hl.1 rfl (lv_room (Nat.le_of_ble_eq_true rfl)) dX9_eatenOn_17 ⟨Nat.le_of_ble_eq_true rfl, Nat.le_of_ble_eq_true rfl⟩) hP hD hS hA [5, 4] [0, 1, 2, 3, 6] rfl rfl (by decide +kernel) (by decide +kernel) ?_
    clear hP hD hS
    intro r_5 u_7 H locs w_6 hP hD hS
    replace hP : va_P D vwCl [(k, .inr (9, [.ref k0, .ref k1, .ref k2, .ref k3, .ref k4, .ref k5, .int c6, .int c7, .int c8])), (k1, .inl (cI, 40, .inl c1)), (k41, .inl (cI, 60, .inl c41)), (k43, .inl (cI, 60, .inl c43)), (k40, .inl (cI, 60, .inl c40)), (k4, .inr (8, [.ref k40, .ref k41, .ref k42, .ref k43, .ref k44, .ref k45, .ref k46, .ref k47, .ref k48, .int c49])), (k45, .inl (cI, 60, .inl c45))] H := hP
    replace hD : va_D A [(k, .inr (9, [.ref k0, .ref k1, .ref k2, .ref k3, .ref k4, .ref k5, .int c6, .int c7, .int c8])), (k1, .inl (cI, 40, .inl c1)), (k41, .inl (cI, 60, .inl c41)), (k43, .inl (cI, 60, .inl c43)), (k40, .inl (cI, 60, .inl c40)), (k4, .inr (8, [.ref k40, .ref k41, .ref k42, .ref k43, .ref k44, .ref k45, .ref k46, .ref k47, .ref k48, .int c49])), (k45, .inl (cI, 60, .inl c45))] := hD
    have lo_r_5 := k_lo r_5
    have hi_r_5 := k_hi r_5
    refine b_if_eq hx hb rfl (tgt := 25) dX9_eatenOn_20 (by decide +kernel) (fun c_8 => ?_) (fun c_8 => ?_)
    · refine lv_aload_n hx hb dX9_eatenOn_25 rfl (lv_at hl 0 rfl) ?_
      refine va_get (D := D) (ci := 9) (v := .int c8) (C := RX9) (T := TX9) (N := 9) hx hb hT giX9 hown hK hP 0 rfl rfl 8 (by decide +kernel) (hT (Cond.fieldLink RX9 45 "DesertWire$World" "day" "I") mw_108) (fun _ h9 => h9) rfl dX9_eatenOn_26 ?_
      refine lv_iconst (v := 1) hx hb dX9_eatenOn_29 (by decide +kernel) ?_
      refine lv_iadd hx hb dX9_eatenOn_30 ?_
      refine lv_topi (fun v_9 ev_9 => ?_)
      have lo_v_9 := k_lo v_9
      have hi_v_9 := k_hi v_9
      refine lv_aload_n hx hb dX9_eatenOn_31 rfl (lv_at hl 0 rfl) ?_
      refine va_get (D := D) (ci := 9) (v := .ref k4) (C := RX9) (T := TX9) (N := 9) hx hb hT giX9 hown hK hP 0 rfl rfl 4 (by decide +kernel) (hT (Cond.fieldLink RX9 27 "DesertWire$World" "works" "LDesertWire$Works;") mw_97) (fun _ h9 => h9) rfl dX9_eatenOn_32 ?_
      refine lv_iload_n hx hb dX9_eatenOn_35 rfl (lv_at hl 1 rfl) ?_
      refine kJi (wr := [(k, .inr (9, [.ref k0, .ref k1, .ref k2, .ref k3, .ref k4, .ref k5, .int c6, .int c7, .int c8])), (k1, .inl (cI, 40, .inl c1)), (k41, .inl (cI, 60, .inl c41)), (k40, .inl (cI, 60, .inl c40)), (k45, .inl (cI, 60, .inl c45))]) (va_runV (As := [.int a0]) (rest := [.int v_9]) ⟨hx, hb, hml, hown, hT⟩ (c_X8_sinceOfG l D cI aK aV k4 k40 k41 k42 k43 k44 k45 k46 k47 k48 H.size c49 c43 a0) (cwV 1 hT (gV_in mw_403 mw_414 mw_401 mw_402 mw_3) rfl rfl rfl (by decide +kernel) ⟨Nat.le_of_ble_eq_true rfl, Nat.le_of_ble_eq_true rfl⟩) (kRecvX (q0 := 5) (ci := 8) hK hP hD hN hXS hS hA rfl rfl [5, 3] rfl (by decide +kernel)) rfl rfl hl.1 rfl (lv_room (Nat.le_of_ble_eq_true rfl)) dX9_eatenOn_36 ⟨Nat.le_of_ble_eq_true rfl, Nat.le_of_ble_eq_true rfl⟩) hP hD hS hA [5, 3] [0, 1, 2, 4, 6] rfl rfl (by decide +kernel) (by decide +kernel) ?_
      clear hP hD hS
      intro r_10 u_12 H locs w_11 hP hD hS
      replace hP : va_P D vwCl [(k, .inr (9, [.ref k0, .ref k1, .ref k2, .ref k3, .ref k4, .ref k5, .int c6, .int c7, .int c8])), (k1, .inl (cI, 40, .inl c1)), (k41, .inl (cI, 60, .inl c41)), (k40, .inl (cI, 60, .inl c40)), (k45, .inl (cI, 60, .inl c45)), (k4, .inr (8, [.ref k40, .ref k41, .ref k42, .ref k43, .ref k44, .ref k45, .ref k46, .ref k47, .ref k48, .int c49])), (k43, .inl (cI, 60, .inl c43))] H := hP
      replace hD : va_D A [(k, .inr (9, [.ref k0, .ref k1, .ref k2, .ref k3, .ref k4, .ref k5, .int c6, .int c7, .int c8])), (k1, .inl (cI, 40, .inl c1)), (k41, .inl (cI, 60, .inl c41)), (k40, .inl (cI, 60, .inl c40)), (k45, .inl (cI, 60, .inl c45)), (k4, .inr (8, [.ref k40, .ref k41, .ref k42, .ref k43, .ref k44, .ref k45, .ref k46, .ref k47, .ref k48, .int c49])), (k43, .inl (cI, 60, .inl c43))] := hD
      have lo_r_10 := k_lo r_10
      have hi_r_10 := k_hi r_10
      refine lv_aload_n hx hb dX9_eatenOn_39 rfl (lv_at hl 0 rfl) ?_
      refine lv_iload_n hx hb dX9_eatenOn_40 rfl (lv_at hl 1 rfl) ?_
      refine kJi (wr := [(k40, .inl (cI, 60, .inl c40)), (k45, .inl (cI, 60, .inl c45)), (k43, .inl (cI, 60, .inl c43))]) (va_runV (As := [.int a0]) (rest := [.int r_10, .int v_9]) ⟨hx, hb, hml, hown, hT⟩ (c_X9_lifeOfG l D cI aK aV k k0 k1 k2 k3 k4 k5 k40 k41 k42 k43 k44 k45 k46 k47 k48 H.size c6 c7 c8 c1 c49 c41 a0) (cwV 1 hT (gV_in mw_418 mw_415 mw_417 mw_p1_2 mw_2) rfl rfl rfl (by decide +kernel) ⟨Nat.le_of_ble_eq_true rfl, Nat.le_of_ble_eq_true rfl⟩) (kRecvX (q0 := 0) (ci := 9) hK hP hD hN hXS hS hA rfl rfl [0, 1, 5, 2] rfl (by decide +kernel)) rfl rfl hl.1 rfl (lv_room (Nat.le_of_ble_eq_true rfl)) dX9_eatenOn_41 ⟨Nat.le_of_ble_eq_true rfl, Nat.le_of_ble_eq_true rfl⟩) hP hD hS hA [0, 1, 5, 2] [3, 4, 6] rfl rfl (by decide +kernel) (by decide +kernel) ?_
      clear hP hD hS
      intro r_13 u_15 H locs w_14 hP hD hS
      replace hP : va_P D vwCl [(k40, .inl (cI, 60, .inl c40)), (k45, .inl (cI, 60, .inl c45)), (k43, .inl (cI, 60, .inl c43)), (k, .inr (9, [.ref k0, .ref k1, .ref k2, .ref k3, .ref k4, .ref k5, .int c6, .int c7, .int c8])), (k1, .inl (cI, 40, .inl c1)), (k4, .inr (8, [.ref k40, .ref k41, .ref k42, .ref k43, .ref k44, .ref k45, .ref k46, .ref k47, .ref k48, .int c49])), (k41, .inl (cI, 60, .inl c41))] H := hP
      replace hD : va_D A [(k40, .inl (cI, 60, .inl c40)), (k45, .inl (cI, 60, .inl c45)), (k43, .inl (cI, 60, .inl c43)), (k, .inr (9, [.ref k0, .ref k1, .ref k2, .ref k3, .ref k4, .ref k5, .int c6, .int c7, .int c8])), (k1, .inl (cI, 40, .inl c1)), (k4, .inr (8, [.ref k40, .ref k41, .ref k42, .ref k43, .ref k44, .ref k45, .ref k46, .ref k47, .ref k48, .int c49])), (k41, .inl (cI, 60, .inl c41))] := hD
      have lo_r_13 := k_lo r_13
      have hi_r_13 := k_hi r_13
      refine lv_iadd hx hb dX9_eatenOn_44 ?_
      refine lv_topi (fun v_16 ev_16 => ?_)
      have lo_v_16 := k_lo v_16
      have hi_v_16 := k_hi v_16
      refine va_mmax hx hb (hml.trans hl.1.symm) hown (hT _ mw_425) (hT _ mw_426) (hT _ mw_13) (hT _ mw_427) (Nat.le_of_ble_eq_true rfl) (Nat.le_of_ble_eq_true rfl) (Nat.le_of_ble_eq_true rfl) (Nat.le_of_ble_eq_true rfl) dX9_eatenOn_45 ?_
      refine lv_topi (fun v_17 ev_17 => ?_)
      have lo_v_17 := k_lo v_17
      have hi_v_17 := k_hi v_17
      have tv_17 : v_17.toInt = k_max v_9.toInt v_16.toInt := by rw [ev_17]; exact k_mmax rfl rfl
      have sv_17 := k_max_spec (v_9.toInt) (v_16.toInt)
      exact hRet () [3, 4, 5, 0, 6, 2, 1] trivial hP hD (by decide +kernel) rfl hS rfl dX9_eatenOn_48
    · refine lv_iconst (v := (-1)) hx hb dX9_eatenOn_23 (by decide +kernel) ?_
      exact hRet () [0, 1, 5, 4, 2, 3, 6] trivial hP hD (by decide +kernel) rfl hS rfl dX9_eatenOn_24
theorem bn_cX9_eatPoles_0 : BN cX9_eatPoles 0 0x164bd802a0040242a2402b70e07002b51583002a2378056e1c15994b6015b87038015a8acc205170056a2b11805366c00adc381c00ad4562e00a840a6300adc381c00ad4564000a8ca8015a87002b5158707a04 := by
  unfold BN; decide +kernel
theorem dX9_eatPoles_0 : decode cX9_eatPoles 0 = .ok (.iconst 0, 1) := dR0 (k := 0) (i := 0) bn_cX9_eatPoles_0 dop_3 (by decide +kernel)
theorem dX9_eatPoles_1 : decode cX9_eatPoles 1 = .ok (.istore_n 1, 1) := dR0 (k := 0) (i := 1) bn_cX9_eatPoles_0 dop_60 (by decide +kernel)
theorem dX9_eatPoles_2 : decode cX9_eatPoles 2 = .ok (.iload_n 1, 1) := dR0 (k := 0) (i := 2) bn_cX9_eatPoles_0 dop_27 (by decide +kernel)
theorem dX9_eatPoles_3 : decode cX9_eatPoles 3 = .ok (.aload_n 0, 1) := dR0 (k := 0) (i := 3) bn_cX9_eatPoles_0 dop_42 (by decide +kernel)
theorem dX9_eatPoles_4 : decode cX9_eatPoles 4 = .ok (.getfield 27, 3) := dR2 (f := Instr.getfield) (k := 0) (i := 4) bn_cX9_eatPoles_0 dop_180 27 (by decide +kernel)
theorem dX9_eatPoles_7 : decode cX9_eatPoles 7 = .ok (.getfield 83, 3) := dR2 (f := Instr.getfield) (k := 0) (i := 7) bn_cX9_eatPoles_0 dop_180 83 (by decide +kernel)
theorem dX9_eatPoles_10 : decode cX9_eatPoles 10 = .ok (.if_icmp .ge 63, 3) := dR2s (f := Instr.if_icmp .ge) (k := 0) (i := 10) bn_cX9_eatPoles_0 dop_162 63 63 (by decide +kernel)
theorem dX9_eatPoles_13 : decode cX9_eatPoles 13 = .ok (.aload_n 0, 1) := dR0 (k := 0) (i := 13) bn_cX9_eatPoles_0 dop_42 (by decide +kernel)
theorem dX9_eatPoles_14 : decode cX9_eatPoles 14 = .ok (.getfield 27, 3) := dR2 (f := Instr.getfield) (k := 0) (i := 14) bn_cX9_eatPoles_0 dop_180 27 (by decide +kernel)
theorem dX9_eatPoles_17 : decode cX9_eatPoles 17 = .ok (.iload_n 1, 1) := dR0 (k := 0) (i := 17) bn_cX9_eatPoles_0 dop_27 (by decide +kernel)
theorem dX9_eatPoles_18 : decode cX9_eatPoles 18 = .ok (.invokevirtual 98, 3) := dR2 (f := Instr.invokevirtual) (k := 0) (i := 18) bn_cX9_eatPoles_0 dop_182 98 (by decide +kernel)
theorem dX9_eatPoles_21 : decode cX9_eatPoles 21 = .ok (.iconst 1, 1) := dR0 (k := 0) (i := 21) bn_cX9_eatPoles_0 dop_4 (by decide +kernel)
theorem dX9_eatPoles_22 : decode cX9_eatPoles 22 = .ok (.if_icmp .ne 45, 3) := dR2s (f := Instr.if_icmp .ne) (k := 0) (i := 22) bn_cX9_eatPoles_0 dop_160 45 45 (by decide +kernel)
theorem dX9_eatPoles_25 : decode cX9_eatPoles 25 = .ok (.aload_n 0, 1) := dR0 (k := 0) (i := 25) bn_cX9_eatPoles_0 dop_42 (by decide +kernel)
theorem dX9_eatPoles_26 : decode cX9_eatPoles 26 = .ok (.getfield 27, 3) := dR2 (f := Instr.getfield) (k := 0) (i := 26) bn_cX9_eatPoles_0 dop_180 27 (by decide +kernel)
theorem dX9_eatPoles_29 : decode cX9_eatPoles 29 = .ok (.iload_n 1, 1) := dR0 (k := 0) (i := 29) bn_cX9_eatPoles_0 dop_27 (by decide +kernel)
theorem dX9_eatPoles_30 : decode cX9_eatPoles 30 = .ok (.invokevirtual 107, 3) := dR2 (f := Instr.invokevirtual) (k := 0) (i := 30) bn_cX9_eatPoles_0 dop_182 107 (by decide +kernel)
theorem dX9_eatPoles_33 : decode cX9_eatPoles 33 = .ok (.ifCond .ne 34, 3) := dR2s (f := Instr.ifCond .ne) (k := 0) (i := 33) bn_cX9_eatPoles_0 dop_154 34 34 (by decide +kernel)
theorem dX9_eatPoles_36 : decode cX9_eatPoles 36 = .ok (.aload_n 0, 1) := dR0 (k := 0) (i := 36) bn_cX9_eatPoles_0 dop_42 (by decide +kernel)
theorem dX9_eatPoles_37 : decode cX9_eatPoles 37 = .ok (.getfield 45, 3) := dR2 (f := Instr.getfield) (k := 0) (i := 37) bn_cX9_eatPoles_0 dop_180 45 (by decide +kernel)
theorem dX9_eatPoles_40 : decode cX9_eatPoles 40 = .ok (.iconst 1, 1) := dR0 (k := 0) (i := 40) bn_cX9_eatPoles_0 dop_4 (by decide +kernel)
theorem dX9_eatPoles_41 : decode cX9_eatPoles 41 = .ok (.iadd, 1) := dR0 (k := 0) (i := 41) bn_cX9_eatPoles_0 dop_96 (by decide +kernel)
theorem dX9_eatPoles_42 : decode cX9_eatPoles 42 = .ok (.aload_n 0, 1) := dR0 (k := 0) (i := 42) bn_cX9_eatPoles_0 dop_42 (by decide +kernel)
theorem dX9_eatPoles_43 : decode cX9_eatPoles 43 = .ok (.getfield 27, 3) := dR2 (f := Instr.getfield) (k := 0) (i := 43) bn_cX9_eatPoles_0 dop_180 27 (by decide +kernel)
theorem dX9_eatPoles_46 : decode cX9_eatPoles 46 = .ok (.iload_n 1, 1) := dR0 (k := 0) (i := 46) bn_cX9_eatPoles_0 dop_27 (by decide +kernel)
theorem dX9_eatPoles_47 : decode cX9_eatPoles 47 = .ok (.invokevirtual 90, 3) := dR2 (f := Instr.invokevirtual) (k := 0) (i := 47) bn_cX9_eatPoles_0 dop_182 90 (by decide +kernel)
theorem dX9_eatPoles_50 : decode cX9_eatPoles 50 = .ok (.isub, 1) := dR0 (k := 0) (i := 50) bn_cX9_eatPoles_0 dop_100 (by decide +kernel)
theorem dX9_eatPoles_51 : decode cX9_eatPoles 51 = .ok (.aload_n 0, 1) := dR0 (k := 0) (i := 51) bn_cX9_eatPoles_0 dop_42 (by decide +kernel)
theorem dX9_eatPoles_52 : decode cX9_eatPoles 52 = .ok (.iload_n 1, 1) := dR0 (k := 0) (i := 52) bn_cX9_eatPoles_0 dop_27 (by decide +kernel)
theorem dX9_eatPoles_53 : decode cX9_eatPoles 53 = .ok (.invokevirtual 110, 3) := dR2 (f := Instr.invokevirtual) (k := 0) (i := 53) bn_cX9_eatPoles_0 dop_182 110 (by decide +kernel)
theorem dX9_eatPoles_56 : decode cX9_eatPoles 56 = .ok (.if_icmp .lt 11, 3) := dR2s (f := Instr.if_icmp .lt) (k := 0) (i := 56) bn_cX9_eatPoles_0 dop_161 11 11 (by decide +kernel)
theorem dX9_eatPoles_59 : decode cX9_eatPoles 59 = .ok (.aload_n 0, 1) := dR0 (k := 0) (i := 59) bn_cX9_eatPoles_0 dop_42 (by decide +kernel)
theorem dX9_eatPoles_60 : decode cX9_eatPoles 60 = .ok (.getfield 27, 3) := dR2 (f := Instr.getfield) (k := 0) (i := 60) bn_cX9_eatPoles_0 dop_180 27 (by decide +kernel)
theorem dX9_eatPoles_63 : decode cX9_eatPoles 63 = .ok (.iload_n 1, 1) := dR0 (k := 0) (i := 63) bn_cX9_eatPoles_0 dop_27 (by decide +kernel)
theorem dX9_eatPoles_64 : decode cX9_eatPoles 64 = .ok (.invokevirtual 136, 3) := dR2 (f := Instr.invokevirtual) (k := 0) (i := 64) bn_cX9_eatPoles_0 dop_182 136 (by decide +kernel)
theorem dX9_eatPoles_67 : decode cX9_eatPoles 67 = .ok (.iinc 1 1, 3) := dRii (f := Instr.iinc) (k := 0) (i := 67) bn_cX9_eatPoles_0 dop_132 1 1 1 (by decide +kernel)
theorem dX9_eatPoles_70 : decode cX9_eatPoles 70 = .ok (.goto (-68), 3) := dR2s (f := Instr.goto) (k := 0) (i := 70) bn_cX9_eatPoles_0 dop_167 65468 (-68) (by decide +kernel)
theorem dX9_eatPoles_73 : decode cX9_eatPoles 73 = .ok (.return_, 1) := dR0 (k := 0) (i := 73) bn_cX9_eatPoles_0 dop_177 (by decide +kernel)

theorem bn_cX9_drinkOf_0 : BN cX9_drinkOf 0 0xb24b0056e030301402a803820029f02858382300ad4561700a741016490056e7200ae410160201c221c118056a2b040dcca69028580c650f1c802b9038580c16038dcbc015c9a4c2050b078661130a3c02b70e87002b51598518015b87456060b0186e8300adc0e110e08c02b5158146e8300adc0e1c118056a2b1fa0c02b70307046015a8ac7c8300adc081c118056a2b := by
  unfold BN; decide +kernel
theorem dX9_drinkOf_0 : decode cX9_drinkOf 0 = .ok (.aload_n 0, 1) := dR0 (k := 0) (i := 0) bn_cX9_drinkOf_0 dop_42 (by decide +kernel)
theorem dX9_drinkOf_1 : decode cX9_drinkOf 1 = .ok (.getfield 34, 3) := dR2 (f := Instr.getfield) (k := 0) (i := 1) bn_cX9_drinkOf_0 dop_180 34 (by decide +kernel)
theorem dX9_drinkOf_4 : decode cX9_drinkOf 4 = .ok (.iload_n 1, 1) := dR0 (k := 0) (i := 4) bn_cX9_drinkOf_0 dop_27 (by decide +kernel)
theorem dX9_drinkOf_5 : decode cX9_drinkOf 5 = .ok (.iconst 0, 1) := dR0 (k := 0) (i := 5) bn_cX9_drinkOf_0 dop_3 (by decide +kernel)
theorem dX9_drinkOf_6 : decode cX9_drinkOf 6 = .ok (.invokevirtual 130, 3) := dR2 (f := Instr.invokevirtual) (k := 0) (i := 6) bn_cX9_drinkOf_0 dop_182 130 (by decide +kernel)
theorem dX9_drinkOf_9 : decode cX9_drinkOf 9 = .ok (.istore_n 2, 1) := dR0 (k := 0) (i := 9) bn_cX9_drinkOf_0 dop_61 (by decide +kernel)
theorem dX9_drinkOf_10 : decode cX9_drinkOf 10 = .ok (.aload_n 0, 1) := dR0 (k := 0) (i := 10) bn_cX9_drinkOf_0 dop_42 (by decide +kernel)
theorem dX9_drinkOf_11 : decode cX9_drinkOf 11 = .ok (.getfield 34, 3) := dR2 (f := Instr.getfield) (k := 0) (i := 11) bn_cX9_drinkOf_0 dop_180 34 (by decide +kernel)
theorem dX9_drinkOf_14 : decode cX9_drinkOf 14 = .ok (.iload_n 1, 1) := dR0 (k := 0) (i := 14) bn_cX9_drinkOf_0 dop_27 (by decide +kernel)
theorem dX9_drinkOf_15 : decode cX9_drinkOf 15 = .ok (.iconst 2, 1) := dR0 (k := 0) (i := 15) bn_cX9_drinkOf_0 dop_5 (by decide +kernel)
theorem dX9_drinkOf_16 : decode cX9_drinkOf 16 = .ok (.invokevirtual 130, 3) := dR2 (f := Instr.invokevirtual) (k := 0) (i := 16) bn_cX9_drinkOf_0 dop_182 130 (by decide +kernel)
theorem dX9_drinkOf_19 : decode cX9_drinkOf 19 = .ok (.istore_n 3, 1) := dR0 (k := 0) (i := 19) bn_cX9_drinkOf_0 dop_62 (by decide +kernel)
theorem dX9_drinkOf_20 : decode cX9_drinkOf 20 = .ok (.aload_n 0, 1) := dR0 (k := 0) (i := 20) bn_cX9_drinkOf_0 dop_42 (by decide +kernel)
theorem dX9_drinkOf_21 : decode cX9_drinkOf 21 = .ok (.getfield 34, 3) := dR2 (f := Instr.getfield) (k := 0) (i := 21) bn_cX9_drinkOf_0 dop_180 34 (by decide +kernel)
theorem dX9_drinkOf_24 : decode cX9_drinkOf 24 = .ok (.iload_n 1, 1) := dR0 (k := 0) (i := 24) bn_cX9_drinkOf_0 dop_27 (by decide +kernel)
theorem dX9_drinkOf_25 : decode cX9_drinkOf 25 = .ok (.iconst 3, 1) := dR0 (k := 0) (i := 25) bn_cX9_drinkOf_0 dop_6 (by decide +kernel)
theorem dX9_drinkOf_26 : decode cX9_drinkOf 26 = .ok (.invokevirtual 130, 3) := dR2 (f := Instr.invokevirtual) (k := 0) (i := 26) bn_cX9_drinkOf_0 dop_182 130 (by decide +kernel)
theorem dX9_drinkOf_29 : decode cX9_drinkOf 29 = .ok (.istore 4, 2) := dR1 (f := Instr.istore) (k := 0) (i := 29) bn_cX9_drinkOf_0 dop_54 4 (by decide +kernel)
theorem dX9_drinkOf_31 : decode cX9_drinkOf 31 = .ok (.aload_n 0, 1) := dR0 (k := 0) (i := 31) bn_cX9_drinkOf_0 dop_42 (by decide +kernel)
theorem dX9_drinkOf_32 : decode cX9_drinkOf 32 = .ok (.getfield 34, 3) := dR2 (f := Instr.getfield) (k := 0) (i := 32) bn_cX9_drinkOf_0 dop_180 34 (by decide +kernel)
theorem dX9_drinkOf_35 : decode cX9_drinkOf 35 = .ok (.iload_n 1, 1) := dR0 (k := 0) (i := 35) bn_cX9_drinkOf_0 dop_27 (by decide +kernel)
theorem dX9_drinkOf_36 : decode cX9_drinkOf 36 = .ok (.bipush 6, 2) := dR1s (f := Instr.bipush) (k := 0) (i := 36) bn_cX9_drinkOf_0 dop_16 6 6 (by decide +kernel)
theorem dX9_drinkOf_38 : decode cX9_drinkOf 38 = .ok (.invokevirtual 130, 3) := dR2 (f := Instr.invokevirtual) (k := 0) (i := 38) bn_cX9_drinkOf_0 dop_182 130 (by decide +kernel)
theorem dX9_drinkOf_41 : decode cX9_drinkOf 41 = .ok (.istore 5, 2) := dR1 (f := Instr.istore) (k := 0) (i := 41) bn_cX9_drinkOf_0 dop_54 5 (by decide +kernel)
theorem dX9_drinkOf_43 : decode cX9_drinkOf 43 = .ok (.iload 5, 2) := dR1 (f := Instr.iload) (k := 0) (i := 43) bn_cX9_drinkOf_0 dop_21 5 (by decide +kernel)
theorem dX9_drinkOf_45 : decode cX9_drinkOf 45 = .ok (.aload_n 0, 1) := dR0 (k := 0) (i := 45) bn_cX9_drinkOf_0 dop_42 (by decide +kernel)
theorem dX9_drinkOf_46 : decode cX9_drinkOf 46 = .ok (.iload_n 2, 1) := dR0 (k := 0) (i := 46) bn_cX9_drinkOf_0 dop_28 (by decide +kernel)
theorem dX9_drinkOf_47 : decode cX9_drinkOf 47 = .ok (.invokevirtual 139, 3) := dR2 (f := Instr.invokevirtual) (k := 0) (i := 47) bn_cX9_drinkOf_0 dop_182 139 (by decide +kernel)
theorem dX9_drinkOf_50 : decode cX9_drinkOf 50 = .ok (.iadd, 1) := dR0 (k := 0) (i := 50) bn_cX9_drinkOf_0 dop_96 (by decide +kernel)
theorem dX9_drinkOf_51 : decode cX9_drinkOf 51 = .ok (.aload_n 0, 1) := dR0 (k := 0) (i := 51) bn_cX9_drinkOf_0 dop_42 (by decide +kernel)
theorem dX9_drinkOf_52 : decode cX9_drinkOf 52 = .ok (.getfield 27, 3) := dR2 (f := Instr.getfield) (k := 0) (i := 52) bn_cX9_drinkOf_0 dop_180 27 (by decide +kernel)
theorem dX9_drinkOf_55 : decode cX9_drinkOf 55 = .ok (.iload_n 2, 1) := dR0 (k := 0) (i := 55) bn_cX9_drinkOf_0 dop_28 (by decide +kernel)
theorem dX9_drinkOf_56 : decode cX9_drinkOf 56 = .ok (.invokevirtual 142, 3) := dR2 (f := Instr.invokevirtual) (k := 0) (i := 56) bn_cX9_drinkOf_0 dop_182 142 (by decide +kernel)
theorem dX9_drinkOf_59 : decode cX9_drinkOf 59 = .ok (.iadd, 1) := dR0 (k := 0) (i := 59) bn_cX9_drinkOf_0 dop_96 (by decide +kernel)
theorem dX9_drinkOf_60 : decode cX9_drinkOf 60 = .ok (.bipush 50, 2) := dR1s (f := Instr.bipush) (k := 0) (i := 60) bn_cX9_drinkOf_0 dop_16 50 50 (by decide +kernel)
theorem dX9_drinkOf_62 : decode cX9_drinkOf 62 = .ok (.iload_n 3, 1) := dR0 (k := 0) (i := 62) bn_cX9_drinkOf_0 dop_29 (by decide +kernel)
theorem dX9_drinkOf_63 : decode cX9_drinkOf 63 = .ok (.iload 4, 2) := dR1 (f := Instr.iload) (k := 0) (i := 63) bn_cX9_drinkOf_0 dop_21 4 (by decide +kernel)
theorem dX9_drinkOf_65 : decode cX9_drinkOf 65 = .ok (.iadd, 1) := dR0 (k := 0) (i := 65) bn_cX9_drinkOf_0 dop_96 (by decide +kernel)
theorem dX9_drinkOf_66 : decode cX9_drinkOf 66 = .ok (.imul, 1) := dR0 (k := 0) (i := 66) bn_cX9_drinkOf_0 dop_104 (by decide +kernel)
theorem dX9_drinkOf_67 : decode cX9_drinkOf 67 = .ok (.invokestatic 93, 3) := dR2 (f := Instr.invokestatic) (k := 0) (i := 67) bn_cX9_drinkOf_0 dop_184 93 (by decide +kernel)
theorem dX9_drinkOf_70 : decode cX9_drinkOf 70 = .ok (.istore 6, 2) := dR1 (f := Instr.istore) (k := 0) (i := 70) bn_cX9_drinkOf_0 dop_54 6 (by decide +kernel)
theorem dX9_drinkOf_72 : decode cX9_drinkOf 72 = .ok (.iload 5, 2) := dR1 (f := Instr.iload) (k := 0) (i := 72) bn_cX9_drinkOf_0 dop_21 5 (by decide +kernel)
theorem dX9_drinkOf_74 : decode cX9_drinkOf 74 = .ok (.iload 6, 2) := dR1 (f := Instr.iload) (k := 0) (i := 74) bn_cX9_drinkOf_0 dop_21 6 (by decide +kernel)
theorem dX9_drinkOf_76 : decode cX9_drinkOf 76 = .ok (.invokestatic 113, 3) := dR2 (f := Instr.invokestatic) (k := 0) (i := 76) bn_cX9_drinkOf_0 dop_184 113 (by decide +kernel)
theorem dX9_drinkOf_79 : decode cX9_drinkOf 79 = .ok (.iload_n 3, 1) := dR0 (k := 0) (i := 79) bn_cX9_drinkOf_0 dop_29 (by decide +kernel)
theorem dX9_drinkOf_80 : decode cX9_drinkOf 80 = .ok (.isub, 1) := dR0 (k := 0) (i := 80) bn_cX9_drinkOf_0 dop_100 (by decide +kernel)
theorem dX9_drinkOf_81 : decode cX9_drinkOf 81 = .ok (.iconst 2, 1) := dR0 (k := 0) (i := 81) bn_cX9_drinkOf_0 dop_5 (by decide +kernel)
theorem dX9_drinkOf_82 : decode cX9_drinkOf 82 = .ok (.iload 4, 2) := dR1 (f := Instr.iload) (k := 0) (i := 82) bn_cX9_drinkOf_0 dop_21 4 (by decide +kernel)
theorem dX9_drinkOf_84 : decode cX9_drinkOf 84 = .ok (.imul, 1) := dR0 (k := 0) (i := 84) bn_cX9_drinkOf_0 dop_104 (by decide +kernel)
theorem dX9_drinkOf_85 : decode cX9_drinkOf 85 = .ok (.isub, 1) := dR0 (k := 0) (i := 85) bn_cX9_drinkOf_0 dop_100 (by decide +kernel)
theorem dX9_drinkOf_86 : decode cX9_drinkOf 86 = .ok (.istore 7, 2) := dR1 (f := Instr.istore) (k := 0) (i := 86) bn_cX9_drinkOf_0 dop_54 7 (by decide +kernel)
theorem dX9_drinkOf_88 : decode cX9_drinkOf 88 = .ok (.aload_n 0, 1) := dR0 (k := 0) (i := 88) bn_cX9_drinkOf_0 dop_42 (by decide +kernel)
theorem dX9_drinkOf_89 : decode cX9_drinkOf 89 = .ok (.getfield 34, 3) := dR2 (f := Instr.getfield) (k := 0) (i := 89) bn_cX9_drinkOf_0 dop_180 34 (by decide +kernel)
theorem dX9_drinkOf_92 : decode cX9_drinkOf 92 = .ok (.iload_n 1, 1) := dR0 (k := 0) (i := 92) bn_cX9_drinkOf_0 dop_27 (by decide +kernel)
theorem dX9_drinkOf_93 : decode cX9_drinkOf 93 = .ok (.bipush 6, 2) := dR1s (f := Instr.bipush) (k := 0) (i := 93) bn_cX9_drinkOf_0 dop_16 6 6 (by decide +kernel)
theorem dX9_drinkOf_95 : decode cX9_drinkOf 95 = .ok (.iconst 0, 1) := dR0 (k := 0) (i := 95) bn_cX9_drinkOf_0 dop_3 (by decide +kernel)
theorem dX9_drinkOf_96 : decode cX9_drinkOf 96 = .ok (.iload 7, 2) := dR1 (f := Instr.iload) (k := 0) (i := 96) bn_cX9_drinkOf_0 dop_21 7 (by decide +kernel)
theorem dX9_drinkOf_98 : decode cX9_drinkOf 98 = .ok (.invokestatic 113, 3) := dR2 (f := Instr.invokestatic) (k := 0) (i := 98) bn_cX9_drinkOf_0 dop_184 113 (by decide +kernel)
theorem dX9_drinkOf_101 : decode cX9_drinkOf 101 = .ok (.invokevirtual 145, 3) := dR2 (f := Instr.invokevirtual) (k := 0) (i := 101) bn_cX9_drinkOf_0 dop_182 145 (by decide +kernel)
theorem dX9_drinkOf_104 : decode cX9_drinkOf 104 = .ok (.iload 7, 2) := dR1 (f := Instr.iload) (k := 0) (i := 104) bn_cX9_drinkOf_0 dop_21 7 (by decide +kernel)
theorem dX9_drinkOf_106 : decode cX9_drinkOf 106 = .ok (.ifCond .ge 22, 3) := dR2s (f := Instr.ifCond .ge) (k := 0) (i := 106) bn_cX9_drinkOf_0 dop_156 22 22 (by decide +kernel)
theorem dX9_drinkOf_109 : decode cX9_drinkOf 109 = .ok (.aload_n 0, 1) := dR0 (k := 0) (i := 109) bn_cX9_drinkOf_0 dop_42 (by decide +kernel)
theorem dX9_drinkOf_110 : decode cX9_drinkOf 110 = .ok (.getfield 34, 3) := dR2 (f := Instr.getfield) (k := 0) (i := 110) bn_cX9_drinkOf_0 dop_180 34 (by decide +kernel)
theorem dX9_drinkOf_113 : decode cX9_drinkOf 113 = .ok (.iload_n 1, 1) := dR0 (k := 0) (i := 113) bn_cX9_drinkOf_0 dop_27 (by decide +kernel)
theorem dX9_drinkOf_114 : decode cX9_drinkOf 114 = .ok (.iload 4, 2) := dR1 (f := Instr.iload) (k := 0) (i := 114) bn_cX9_drinkOf_0 dop_21 4 (by decide +kernel)
theorem dX9_drinkOf_116 : decode cX9_drinkOf 116 = .ok (.ifCond .le 7, 3) := dR2s (f := Instr.ifCond .le) (k := 0) (i := 116) bn_cX9_drinkOf_0 dop_158 7 7 (by decide +kernel)
theorem dX9_drinkOf_119 : decode cX9_drinkOf 119 = .ok (.iconst 3, 1) := dR0 (k := 0) (i := 119) bn_cX9_drinkOf_0 dop_6 (by decide +kernel)
theorem dX9_drinkOf_120 : decode cX9_drinkOf 120 = .ok (.goto 4, 3) := dR2s (f := Instr.goto) (k := 0) (i := 120) bn_cX9_drinkOf_0 dop_167 4 4 (by decide +kernel)
theorem dX9_drinkOf_123 : decode cX9_drinkOf 123 = .ok (.iconst 2, 1) := dR0 (k := 0) (i := 123) bn_cX9_drinkOf_0 dop_5 (by decide +kernel)
theorem dX9_drinkOf_124 : decode cX9_drinkOf 124 = .ok (.iconst (-1), 1) := dR0 (k := 0) (i := 124) bn_cX9_drinkOf_0 dop_2 (by decide +kernel)
theorem dX9_drinkOf_125 : decode cX9_drinkOf 125 = .ok (.invokevirtual 149, 3) := dR2 (f := Instr.invokevirtual) (k := 0) (i := 125) bn_cX9_drinkOf_0 dop_182 149 (by decide +kernel)
theorem bn_cX9_drinkOf_128 : BN cX9_drinkOf 128 0xb2 := by
  unfold BN; decide +kernel
theorem dX9_drinkOf_128 : decode cX9_drinkOf 128 = .ok (.return_, 1) := dR0 (k := 128) (i := 0) bn_cX9_drinkOf_128 dop_177 (by decide +kernel)

theorem bn_cX9_eatOf_0 : BN cX9_eatOf 0 0x1649200adc0c090887046015a8ac1e014f20c02b70307046015a8ad2c015b80c0c1c118056a2b070053a060b24802b73900572060b010121c118056a2b030dcca1d308142c1e028dd32015b9943c690e854228300adc081c118056a2b0e0056a2b1fa0c02b70487046015a8ac7c8300adc0c1c118056a2b := by
  unfold BN; decide +kernel
theorem dX9_eatOf_0 : decode cX9_eatOf 0 = .ok (.aload_n 0, 1) := dR0 (k := 0) (i := 0) bn_cX9_eatOf_0 dop_42 (by decide +kernel)
theorem dX9_eatOf_1 : decode cX9_eatOf 1 = .ok (.getfield 34, 3) := dR2 (f := Instr.getfield) (k := 0) (i := 1) bn_cX9_eatOf_0 dop_180 34 (by decide +kernel)
theorem dX9_eatOf_4 : decode cX9_eatOf 4 = .ok (.iload_n 1, 1) := dR0 (k := 0) (i := 4) bn_cX9_eatOf_0 dop_27 (by decide +kernel)
theorem dX9_eatOf_5 : decode cX9_eatOf 5 = .ok (.iconst 2, 1) := dR0 (k := 0) (i := 5) bn_cX9_eatOf_0 dop_5 (by decide +kernel)
theorem dX9_eatOf_6 : decode cX9_eatOf 6 = .ok (.invokevirtual 130, 3) := dR2 (f := Instr.invokevirtual) (k := 0) (i := 6) bn_cX9_eatOf_0 dop_182 130 (by decide +kernel)
theorem dX9_eatOf_9 : decode cX9_eatOf 9 = .ok (.istore_n 2, 1) := dR0 (k := 0) (i := 9) bn_cX9_eatOf_0 dop_61 (by decide +kernel)
theorem dX9_eatOf_10 : decode cX9_eatOf 10 = .ok (.aload_n 0, 1) := dR0 (k := 0) (i := 10) bn_cX9_eatOf_0 dop_42 (by decide +kernel)
theorem dX9_eatOf_11 : decode cX9_eatOf 11 = .ok (.getfield 34, 3) := dR2 (f := Instr.getfield) (k := 0) (i := 11) bn_cX9_eatOf_0 dop_180 34 (by decide +kernel)
theorem dX9_eatOf_14 : decode cX9_eatOf 14 = .ok (.iload_n 1, 1) := dR0 (k := 0) (i := 14) bn_cX9_eatOf_0 dop_27 (by decide +kernel)
theorem dX9_eatOf_15 : decode cX9_eatOf 15 = .ok (.iconst 5, 1) := dR0 (k := 0) (i := 15) bn_cX9_eatOf_0 dop_8 (by decide +kernel)
theorem dX9_eatOf_16 : decode cX9_eatOf 16 = .ok (.invokevirtual 130, 3) := dR2 (f := Instr.invokevirtual) (k := 0) (i := 16) bn_cX9_eatOf_0 dop_182 130 (by decide +kernel)
theorem dX9_eatOf_19 : decode cX9_eatOf 19 = .ok (.istore_n 3, 1) := dR0 (k := 0) (i := 19) bn_cX9_eatOf_0 dop_62 (by decide +kernel)
theorem dX9_eatOf_20 : decode cX9_eatOf 20 = .ok (.aload_n 0, 1) := dR0 (k := 0) (i := 20) bn_cX9_eatOf_0 dop_42 (by decide +kernel)
theorem dX9_eatOf_21 : decode cX9_eatOf 21 = .ok (.getfield 27, 3) := dR2 (f := Instr.getfield) (k := 0) (i := 21) bn_cX9_eatOf_0 dop_180 27 (by decide +kernel)
theorem dX9_eatOf_24 : decode cX9_eatOf 24 = .ok (.aload_n 0, 1) := dR0 (k := 0) (i := 24) bn_cX9_eatOf_0 dop_42 (by decide +kernel)
theorem dX9_eatOf_25 : decode cX9_eatOf 25 = .ok (.getfield 34, 3) := dR2 (f := Instr.getfield) (k := 0) (i := 25) bn_cX9_eatOf_0 dop_180 34 (by decide +kernel)
theorem dX9_eatOf_28 : decode cX9_eatOf 28 = .ok (.iload_n 1, 1) := dR0 (k := 0) (i := 28) bn_cX9_eatOf_0 dop_27 (by decide +kernel)
theorem dX9_eatOf_29 : decode cX9_eatOf 29 = .ok (.iconst 0, 1) := dR0 (k := 0) (i := 29) bn_cX9_eatOf_0 dop_3 (by decide +kernel)
theorem dX9_eatOf_30 : decode cX9_eatOf 30 = .ok (.invokevirtual 130, 3) := dR2 (f := Instr.invokevirtual) (k := 0) (i := 30) bn_cX9_eatOf_0 dop_182 130 (by decide +kernel)
theorem dX9_eatOf_33 : decode cX9_eatOf 33 = .ok (.bipush 20, 2) := dR1s (f := Instr.bipush) (k := 0) (i := 33) bn_cX9_eatOf_0 dop_16 20 20 (by decide +kernel)
theorem dX9_eatOf_35 : decode cX9_eatOf 35 = .ok (.iload_n 2, 1) := dR0 (k := 0) (i := 35) bn_cX9_eatOf_0 dop_28 (by decide +kernel)
theorem dX9_eatOf_36 : decode cX9_eatOf 36 = .ok (.imul, 1) := dR0 (k := 0) (i := 36) bn_cX9_eatOf_0 dop_104 (by decide +kernel)
theorem dX9_eatOf_37 : decode cX9_eatOf 37 = .ok (.iload_n 3, 1) := dR0 (k := 0) (i := 37) bn_cX9_eatOf_0 dop_29 (by decide +kernel)
theorem dX9_eatOf_38 : decode cX9_eatOf 38 = .ok (.isub, 1) := dR0 (k := 0) (i := 38) bn_cX9_eatOf_0 dop_100 (by decide +kernel)
theorem dX9_eatOf_39 : decode cX9_eatOf 39 = .ok (.invokevirtual 152, 3) := dR2 (f := Instr.invokevirtual) (k := 0) (i := 39) bn_cX9_eatOf_0 dop_182 152 (by decide +kernel)
theorem dX9_eatOf_42 : decode cX9_eatOf 42 = .ok (.istore 4, 2) := dR1 (f := Instr.istore) (k := 0) (i := 42) bn_cX9_eatOf_0 dop_54 4 (by decide +kernel)
theorem dX9_eatOf_44 : decode cX9_eatOf 44 = .ok (.iload_n 3, 1) := dR0 (k := 0) (i := 44) bn_cX9_eatOf_0 dop_29 (by decide +kernel)
theorem dX9_eatOf_45 : decode cX9_eatOf 45 = .ok (.iload 4, 2) := dR1 (f := Instr.iload) (k := 0) (i := 45) bn_cX9_eatOf_0 dop_21 4 (by decide +kernel)
theorem dX9_eatOf_47 : decode cX9_eatOf 47 = .ok (.iadd, 1) := dR0 (k := 0) (i := 47) bn_cX9_eatOf_0 dop_96 (by decide +kernel)
theorem dX9_eatOf_48 : decode cX9_eatOf 48 = .ok (.iload_n 2, 1) := dR0 (k := 0) (i := 48) bn_cX9_eatOf_0 dop_28 (by decide +kernel)
theorem dX9_eatOf_49 : decode cX9_eatOf 49 = .ok (.isub, 1) := dR0 (k := 0) (i := 49) bn_cX9_eatOf_0 dop_100 (by decide +kernel)
theorem dX9_eatOf_50 : decode cX9_eatOf 50 = .ok (.istore 5, 2) := dR1 (f := Instr.istore) (k := 0) (i := 50) bn_cX9_eatOf_0 dop_54 5 (by decide +kernel)
theorem dX9_eatOf_52 : decode cX9_eatOf 52 = .ok (.aload_n 0, 1) := dR0 (k := 0) (i := 52) bn_cX9_eatOf_0 dop_42 (by decide +kernel)
theorem dX9_eatOf_53 : decode cX9_eatOf 53 = .ok (.getfield 34, 3) := dR2 (f := Instr.getfield) (k := 0) (i := 53) bn_cX9_eatOf_0 dop_180 34 (by decide +kernel)
theorem dX9_eatOf_56 : decode cX9_eatOf 56 = .ok (.iload_n 1, 1) := dR0 (k := 0) (i := 56) bn_cX9_eatOf_0 dop_27 (by decide +kernel)
theorem dX9_eatOf_57 : decode cX9_eatOf 57 = .ok (.iconst 5, 1) := dR0 (k := 0) (i := 57) bn_cX9_eatOf_0 dop_8 (by decide +kernel)
theorem dX9_eatOf_58 : decode cX9_eatOf 58 = .ok (.iconst 0, 1) := dR0 (k := 0) (i := 58) bn_cX9_eatOf_0 dop_3 (by decide +kernel)
theorem dX9_eatOf_59 : decode cX9_eatOf 59 = .ok (.iload 5, 2) := dR1 (f := Instr.iload) (k := 0) (i := 59) bn_cX9_eatOf_0 dop_21 5 (by decide +kernel)
theorem dX9_eatOf_61 : decode cX9_eatOf 61 = .ok (.invokestatic 113, 3) := dR2 (f := Instr.invokestatic) (k := 0) (i := 61) bn_cX9_eatOf_0 dop_184 113 (by decide +kernel)
theorem dX9_eatOf_64 : decode cX9_eatOf 64 = .ok (.invokevirtual 145, 3) := dR2 (f := Instr.invokevirtual) (k := 0) (i := 64) bn_cX9_eatOf_0 dop_182 145 (by decide +kernel)
theorem dX9_eatOf_67 : decode cX9_eatOf 67 = .ok (.iload 5, 2) := dR1 (f := Instr.iload) (k := 0) (i := 67) bn_cX9_eatOf_0 dop_21 5 (by decide +kernel)
theorem dX9_eatOf_69 : decode cX9_eatOf 69 = .ok (.ifCond .ge 13, 3) := dR2s (f := Instr.ifCond .ge) (k := 0) (i := 69) bn_cX9_eatOf_0 dop_156 13 13 (by decide +kernel)
theorem dX9_eatOf_72 : decode cX9_eatOf 72 = .ok (.aload_n 0, 1) := dR0 (k := 0) (i := 72) bn_cX9_eatOf_0 dop_42 (by decide +kernel)
theorem dX9_eatOf_73 : decode cX9_eatOf 73 = .ok (.getfield 34, 3) := dR2 (f := Instr.getfield) (k := 0) (i := 73) bn_cX9_eatOf_0 dop_180 34 (by decide +kernel)
theorem dX9_eatOf_76 : decode cX9_eatOf 76 = .ok (.iload_n 1, 1) := dR0 (k := 0) (i := 76) bn_cX9_eatOf_0 dop_27 (by decide +kernel)
theorem dX9_eatOf_77 : decode cX9_eatOf 77 = .ok (.iconst 2, 1) := dR0 (k := 0) (i := 77) bn_cX9_eatOf_0 dop_5 (by decide +kernel)
theorem dX9_eatOf_78 : decode cX9_eatOf 78 = .ok (.iconst (-1), 1) := dR0 (k := 0) (i := 78) bn_cX9_eatOf_0 dop_2 (by decide +kernel)
theorem dX9_eatOf_79 : decode cX9_eatOf 79 = .ok (.invokevirtual 149, 3) := dR2 (f := Instr.invokevirtual) (k := 0) (i := 79) bn_cX9_eatOf_0 dop_182 149 (by decide +kernel)
theorem dX9_eatOf_82 : decode cX9_eatOf 82 = .ok (.aload_n 0, 1) := dR0 (k := 0) (i := 82) bn_cX9_eatOf_0 dop_42 (by decide +kernel)
theorem dX9_eatOf_83 : decode cX9_eatOf 83 = .ok (.getfield 34, 3) := dR2 (f := Instr.getfield) (k := 0) (i := 83) bn_cX9_eatOf_0 dop_180 34 (by decide +kernel)
theorem dX9_eatOf_86 : decode cX9_eatOf 86 = .ok (.iload_n 1, 1) := dR0 (k := 0) (i := 86) bn_cX9_eatOf_0 dop_27 (by decide +kernel)
theorem dX9_eatOf_87 : decode cX9_eatOf 87 = .ok (.iconst 2, 1) := dR0 (k := 0) (i := 87) bn_cX9_eatOf_0 dop_5 (by decide +kernel)
theorem dX9_eatOf_88 : decode cX9_eatOf 88 = .ok (.invokevirtual 130, 3) := dR2 (f := Instr.invokevirtual) (k := 0) (i := 88) bn_cX9_eatOf_0 dop_182 130 (by decide +kernel)
theorem dX9_eatOf_91 : decode cX9_eatOf 91 = .ok (.ifCond .gt 14, 3) := dR2s (f := Instr.ifCond .gt) (k := 0) (i := 91) bn_cX9_eatOf_0 dop_157 14 14 (by decide +kernel)
theorem dX9_eatOf_94 : decode cX9_eatOf 94 = .ok (.aload_n 0, 1) := dR0 (k := 0) (i := 94) bn_cX9_eatOf_0 dop_42 (by decide +kernel)
theorem dX9_eatOf_95 : decode cX9_eatOf 95 = .ok (.getfield 34, 3) := dR2 (f := Instr.getfield) (k := 0) (i := 95) bn_cX9_eatOf_0 dop_180 34 (by decide +kernel)
theorem dX9_eatOf_98 : decode cX9_eatOf 98 = .ok (.iload_n 1, 1) := dR0 (k := 0) (i := 98) bn_cX9_eatOf_0 dop_27 (by decide +kernel)
theorem dX9_eatOf_99 : decode cX9_eatOf 99 = .ok (.bipush 8, 2) := dR1s (f := Instr.bipush) (k := 0) (i := 99) bn_cX9_eatOf_0 dop_16 8 8 (by decide +kernel)
theorem dX9_eatOf_101 : decode cX9_eatOf 101 = .ok (.iconst 2, 1) := dR0 (k := 0) (i := 101) bn_cX9_eatOf_0 dop_5 (by decide +kernel)
theorem dX9_eatOf_102 : decode cX9_eatOf 102 = .ok (.invokevirtual 145, 3) := dR2 (f := Instr.invokevirtual) (k := 0) (i := 102) bn_cX9_eatOf_0 dop_182 145 (by decide +kernel)
theorem dX9_eatOf_105 : decode cX9_eatOf 105 = .ok (.return_, 1) := dR0 (k := 0) (i := 105) bn_cX9_eatOf_0 dop_177 (by decide +kernel)

theorem bn_cX9_goOn_0 : BN cX9_goOn 0 0x2c924015b81412110e08c02b51583c02a8490056e1d0207046015a8ac22014d0f802b90ea4802b702020221c118056a2b := by
  unfold BN; decide +kernel
theorem dX9_goOn_0 : decode cX9_goOn 0 = .ok (.aload_n 0, 1) := dR0 (k := 0) (i := 0) bn_cX9_goOn_0 dop_42 (by decide +kernel)
theorem dX9_goOn_1 : decode cX9_goOn 1 = .ok (.getfield 34, 3) := dR2 (f := Instr.getfield) (k := 0) (i := 1) bn_cX9_goOn_0 dop_180 34 (by decide +kernel)
theorem dX9_goOn_4 : decode cX9_goOn 4 = .ok (.iload_n 1, 1) := dR0 (k := 0) (i := 4) bn_cX9_goOn_0 dop_27 (by decide +kernel)
theorem dX9_goOn_5 : decode cX9_goOn 5 = .ok (.bipush 7, 2) := dR1s (f := Instr.bipush) (k := 0) (i := 5) bn_cX9_goOn_0 dop_16 7 7 (by decide +kernel)
theorem dX9_goOn_7 : decode cX9_goOn 7 = .ok (.iconst 0, 1) := dR0 (k := 0) (i := 7) bn_cX9_goOn_0 dop_3 (by decide +kernel)
theorem dX9_goOn_8 : decode cX9_goOn 8 = .ok (.invokevirtual 145, 3) := dR2 (f := Instr.invokevirtual) (k := 0) (i := 8) bn_cX9_goOn_0 dop_182 145 (by decide +kernel)
theorem dX9_goOn_11 : decode cX9_goOn 11 = .ok (.iload_n 2, 1) := dR0 (k := 0) (i := 11) bn_cX9_goOn_0 dop_28 (by decide +kernel)
theorem dX9_goOn_12 : decode cX9_goOn 12 = .ok (.invokestatic 61, 3) := dR2 (f := Instr.invokestatic) (k := 0) (i := 12) bn_cX9_goOn_0 dop_184 61 (by decide +kernel)
theorem dX9_goOn_15 : decode cX9_goOn 15 = .ok (.ifCond .eq 16, 3) := dR2s (f := Instr.ifCond .eq) (k := 0) (i := 15) bn_cX9_goOn_0 dop_153 16 16 (by decide +kernel)
theorem dX9_goOn_18 : decode cX9_goOn 18 = .ok (.aload_n 0, 1) := dR0 (k := 0) (i := 18) bn_cX9_goOn_0 dop_42 (by decide +kernel)
theorem dX9_goOn_19 : decode cX9_goOn 19 = .ok (.getfield 34, 3) := dR2 (f := Instr.getfield) (k := 0) (i := 19) bn_cX9_goOn_0 dop_180 34 (by decide +kernel)
theorem dX9_goOn_22 : decode cX9_goOn 22 = .ok (.iload_n 1, 1) := dR0 (k := 0) (i := 22) bn_cX9_goOn_0 dop_27 (by decide +kernel)
theorem dX9_goOn_23 : decode cX9_goOn 23 = .ok (.iconst 0, 1) := dR0 (k := 0) (i := 23) bn_cX9_goOn_0 dop_3 (by decide +kernel)
theorem dX9_goOn_24 : decode cX9_goOn 24 = .ok (.iload_n 2, 1) := dR0 (k := 0) (i := 24) bn_cX9_goOn_0 dop_28 (by decide +kernel)
theorem dX9_goOn_25 : decode cX9_goOn 25 = .ok (.invokevirtual 145, 3) := dR2 (f := Instr.invokevirtual) (k := 0) (i := 25) bn_cX9_goOn_0 dop_182 145 (by decide +kernel)
theorem dX9_goOn_28 : decode cX9_goOn 28 = .ok (.goto 14, 3) := dR2s (f := Instr.goto) (k := 0) (i := 28) bn_cX9_goOn_0 dop_167 14 14 (by decide +kernel)
theorem dX9_goOn_31 : decode cX9_goOn 31 = .ok (.aload_n 0, 1) := dR0 (k := 0) (i := 31) bn_cX9_goOn_0 dop_42 (by decide +kernel)
theorem dX9_goOn_32 : decode cX9_goOn 32 = .ok (.getfield 34, 3) := dR2 (f := Instr.getfield) (k := 0) (i := 32) bn_cX9_goOn_0 dop_180 34 (by decide +kernel)
theorem dX9_goOn_35 : decode cX9_goOn 35 = .ok (.iload_n 1, 1) := dR0 (k := 0) (i := 35) bn_cX9_goOn_0 dop_27 (by decide +kernel)
theorem dX9_goOn_36 : decode cX9_goOn 36 = .ok (.bipush 8, 2) := dR1s (f := Instr.bipush) (k := 0) (i := 36) bn_cX9_goOn_0 dop_16 8 8 (by decide +kernel)
theorem dX9_goOn_38 : decode cX9_goOn 38 = .ok (.iconst 1, 1) := dR0 (k := 0) (i := 38) bn_cX9_goOn_0 dop_4 (by decide +kernel)
theorem dX9_goOn_39 : decode cX9_goOn 39 = .ok (.invokevirtual 145, 3) := dR2 (f := Instr.invokevirtual) (k := 0) (i := 39) bn_cX9_goOn_0 dop_182 145 (by decide +kernel)
theorem dX9_goOn_42 : decode cX9_goOn 42 = .ok (.return_, 1) := dR0 (k := 0) (i := 42) bn_cX9_goOn_0 dop_177 (by decide +kernel)

theorem bn_cX9_dig_0 : BN cX9_dig 0 0x5924802b702020221c118056a2b4b0056e030407046015a8acb0aa00adcc205170056a2b028740a1c00ad4562a00a694c015b87002b5158d0029f418056e080e08c02b515900029a0f0fc080500aa00a0800a8946015b874568300adc10110e08c02b515a5802b7418056e060e08c02b515820221c118056a2b := by
  unfold BN; decide +kernel
theorem dX9_dig_0 : decode cX9_dig 0 = .ok (.aload_n 0, 1) := dR0 (k := 0) (i := 0) bn_cX9_dig_0 dop_42 (by decide +kernel)
theorem dX9_dig_1 : decode cX9_dig 1 = .ok (.getfield 34, 3) := dR2 (f := Instr.getfield) (k := 0) (i := 1) bn_cX9_dig_0 dop_180 34 (by decide +kernel)
theorem dX9_dig_4 : decode cX9_dig 4 = .ok (.iload_n 1, 1) := dR0 (k := 0) (i := 4) bn_cX9_dig_0 dop_27 (by decide +kernel)
theorem dX9_dig_5 : decode cX9_dig 5 = .ok (.bipush 7, 2) := dR1s (f := Instr.bipush) (k := 0) (i := 5) bn_cX9_dig_0 dop_16 7 7 (by decide +kernel)
theorem dX9_dig_7 : decode cX9_dig 7 = .ok (.aload_n 0, 1) := dR0 (k := 0) (i := 7) bn_cX9_dig_0 dop_42 (by decide +kernel)
theorem dX9_dig_8 : decode cX9_dig 8 = .ok (.getfield 34, 3) := dR2 (f := Instr.getfield) (k := 0) (i := 8) bn_cX9_dig_0 dop_180 34 (by decide +kernel)
theorem dX9_dig_11 : decode cX9_dig 11 = .ok (.iload_n 1, 1) := dR0 (k := 0) (i := 11) bn_cX9_dig_0 dop_27 (by decide +kernel)
theorem dX9_dig_12 : decode cX9_dig 12 = .ok (.iconst 2, 1) := dR0 (k := 0) (i := 12) bn_cX9_dig_0 dop_5 (by decide +kernel)
theorem dX9_dig_13 : decode cX9_dig 13 = .ok (.invokevirtual 130, 3) := dR2 (f := Instr.invokevirtual) (k := 0) (i := 13) bn_cX9_dig_0 dop_182 130 (by decide +kernel)
theorem dX9_dig_16 : decode cX9_dig 16 = .ok (.invokevirtual 149, 3) := dR2 (f := Instr.invokevirtual) (k := 0) (i := 16) bn_cX9_dig_0 dop_182 149 (by decide +kernel)
theorem dX9_dig_19 : decode cX9_dig 19 = .ok (.aload_n 0, 1) := dR0 (k := 0) (i := 19) bn_cX9_dig_0 dop_42 (by decide +kernel)
theorem dX9_dig_20 : decode cX9_dig 20 = .ok (.getfield 34, 3) := dR2 (f := Instr.getfield) (k := 0) (i := 20) bn_cX9_dig_0 dop_180 34 (by decide +kernel)
theorem dX9_dig_23 : decode cX9_dig 23 = .ok (.iload_n 1, 1) := dR0 (k := 0) (i := 23) bn_cX9_dig_0 dop_27 (by decide +kernel)
theorem dX9_dig_24 : decode cX9_dig 24 = .ok (.bipush 7, 2) := dR1s (f := Instr.bipush) (k := 0) (i := 24) bn_cX9_dig_0 dop_16 7 7 (by decide +kernel)
theorem dX9_dig_26 : decode cX9_dig 26 = .ok (.invokevirtual 130, 3) := dR2 (f := Instr.invokevirtual) (k := 0) (i := 26) bn_cX9_dig_0 dop_182 130 (by decide +kernel)
theorem dX9_dig_29 : decode cX9_dig 29 = .ok (.aload_n 0, 1) := dR0 (k := 0) (i := 29) bn_cX9_dig_0 dop_42 (by decide +kernel)
theorem dX9_dig_30 : decode cX9_dig 30 = .ok (.iload_n 2, 1) := dR0 (k := 0) (i := 30) bn_cX9_dig_0 dop_28 (by decide +kernel)
theorem dX9_dig_31 : decode cX9_dig 31 = .ok (.invokevirtual 162, 3) := dR2 (f := Instr.invokevirtual) (k := 0) (i := 31) bn_cX9_dig_0 dop_182 162 (by decide +kernel)
theorem dX9_dig_34 : decode cX9_dig 34 = .ok (.if_icmp .lt 7, 3) := dR2s (f := Instr.if_icmp .lt) (k := 0) (i := 34) bn_cX9_dig_0 dop_161 7 7 (by decide +kernel)
theorem dX9_dig_37 : decode cX9_dig 37 = .ok (.iconst 1, 1) := dR0 (k := 0) (i := 37) bn_cX9_dig_0 dop_4 (by decide +kernel)
theorem dX9_dig_38 : decode cX9_dig 38 = .ok (.goto 4, 3) := dR2s (f := Instr.goto) (k := 0) (i := 38) bn_cX9_dig_0 dop_167 4 4 (by decide +kernel)
theorem dX9_dig_41 : decode cX9_dig 41 = .ok (.iconst 0, 1) := dR0 (k := 0) (i := 41) bn_cX9_dig_0 dop_3 (by decide +kernel)
theorem dX9_dig_42 : decode cX9_dig 42 = .ok (.istore_n 3, 1) := dR0 (k := 0) (i := 42) bn_cX9_dig_0 dop_62 (by decide +kernel)
theorem dX9_dig_43 : decode cX9_dig 43 = .ok (.iload_n 3, 1) := dR0 (k := 0) (i := 43) bn_cX9_dig_0 dop_29 (by decide +kernel)
theorem dX9_dig_44 : decode cX9_dig 44 = .ok (.ifCond .eq 63, 3) := dR2s (f := Instr.ifCond .eq) (k := 0) (i := 44) bn_cX9_dig_0 dop_153 63 63 (by decide +kernel)
theorem dX9_dig_47 : decode cX9_dig 47 = .ok (.aload_n 0, 1) := dR0 (k := 0) (i := 47) bn_cX9_dig_0 dop_42 (by decide +kernel)
theorem dX9_dig_48 : decode cX9_dig 48 = .ok (.getfield 34, 3) := dR2 (f := Instr.getfield) (k := 0) (i := 48) bn_cX9_dig_0 dop_180 34 (by decide +kernel)
theorem dX9_dig_51 : decode cX9_dig 51 = .ok (.iload_n 1, 1) := dR0 (k := 0) (i := 51) bn_cX9_dig_0 dop_27 (by decide +kernel)
theorem dX9_dig_52 : decode cX9_dig 52 = .ok (.iconst 4, 1) := dR0 (k := 0) (i := 52) bn_cX9_dig_0 dop_7 (by decide +kernel)
theorem dX9_dig_53 : decode cX9_dig 53 = .ok (.invokevirtual 130, 3) := dR2 (f := Instr.invokevirtual) (k := 0) (i := 53) bn_cX9_dig_0 dop_182 130 (by decide +kernel)
theorem dX9_dig_56 : decode cX9_dig 56 = .ok (.ifCond .le 51, 3) := dR2s (f := Instr.ifCond .le) (k := 0) (i := 56) bn_cX9_dig_0 dop_158 51 51 (by decide +kernel)
theorem dX9_dig_59 : decode cX9_dig 59 = .ok (.aload_n 0, 1) := dR0 (k := 0) (i := 59) bn_cX9_dig_0 dop_42 (by decide +kernel)
theorem dX9_dig_60 : decode cX9_dig 60 = .ok (.getfield 27, 3) := dR2 (f := Instr.getfield) (k := 0) (i := 60) bn_cX9_dig_0 dop_180 27 (by decide +kernel)
theorem dX9_dig_63 : decode cX9_dig 63 = .ok (.invokevirtual 165, 3) := dR2 (f := Instr.invokevirtual) (k := 0) (i := 63) bn_cX9_dig_0 dop_182 165 (by decide +kernel)
theorem dX9_dig_66 : decode cX9_dig 66 = .ok (.ifCond .eq 41, 3) := dR2s (f := Instr.ifCond .eq) (k := 0) (i := 66) bn_cX9_dig_0 dop_153 41 41 (by decide +kernel)
theorem dX9_dig_69 : decode cX9_dig 69 = .ok (.aload_n 0, 1) := dR0 (k := 0) (i := 69) bn_cX9_dig_0 dop_42 (by decide +kernel)
theorem dX9_dig_70 : decode cX9_dig 70 = .ok (.getfield 27, 3) := dR2 (f := Instr.getfield) (k := 0) (i := 70) bn_cX9_dig_0 dop_180 27 (by decide +kernel)
theorem dX9_dig_73 : decode cX9_dig 73 = .ok (.iconst 1, 1) := dR0 (k := 0) (i := 73) bn_cX9_dig_0 dop_4 (by decide +kernel)
theorem dX9_dig_74 : decode cX9_dig 74 = .ok (.iload_n 2, 1) := dR0 (k := 0) (i := 74) bn_cX9_dig_0 dop_28 (by decide +kernel)
theorem dX9_dig_75 : decode cX9_dig 75 = .ok (.iconst 1, 1) := dR0 (k := 0) (i := 75) bn_cX9_dig_0 dop_4 (by decide +kernel)
theorem dX9_dig_76 : decode cX9_dig 76 = .ok (.aload_n 0, 1) := dR0 (k := 0) (i := 76) bn_cX9_dig_0 dop_42 (by decide +kernel)
theorem dX9_dig_77 : decode cX9_dig 77 = .ok (.getfield 45, 3) := dR2 (f := Instr.getfield) (k := 0) (i := 77) bn_cX9_dig_0 dop_180 45 (by decide +kernel)
theorem dX9_dig_80 : decode cX9_dig 80 = .ok (.iconst 1, 1) := dR0 (k := 0) (i := 80) bn_cX9_dig_0 dop_4 (by decide +kernel)
theorem dX9_dig_81 : decode cX9_dig 81 = .ok (.iadd, 1) := dR0 (k := 0) (i := 81) bn_cX9_dig_0 dop_96 (by decide +kernel)
theorem dX9_dig_82 : decode cX9_dig 82 = .ok (.invokevirtual 169, 3) := dR2 (f := Instr.invokevirtual) (k := 0) (i := 82) bn_cX9_dig_0 dop_182 169 (by decide +kernel)
theorem dX9_dig_85 : decode cX9_dig 85 = .ok (.pop, 1) := dR0 (k := 0) (i := 85) bn_cX9_dig_0 dop_87 (by decide +kernel)
theorem dX9_dig_86 : decode cX9_dig 86 = .ok (.aload_n 0, 1) := dR0 (k := 0) (i := 86) bn_cX9_dig_0 dop_42 (by decide +kernel)
theorem dX9_dig_87 : decode cX9_dig 87 = .ok (.getfield 34, 3) := dR2 (f := Instr.getfield) (k := 0) (i := 87) bn_cX9_dig_0 dop_180 34 (by decide +kernel)
theorem dX9_dig_90 : decode cX9_dig 90 = .ok (.iload_n 1, 1) := dR0 (k := 0) (i := 90) bn_cX9_dig_0 dop_27 (by decide +kernel)
theorem dX9_dig_91 : decode cX9_dig 91 = .ok (.iconst 4, 1) := dR0 (k := 0) (i := 91) bn_cX9_dig_0 dop_7 (by decide +kernel)
theorem dX9_dig_92 : decode cX9_dig 92 = .ok (.iconst (-1), 1) := dR0 (k := 0) (i := 92) bn_cX9_dig_0 dop_2 (by decide +kernel)
theorem dX9_dig_93 : decode cX9_dig 93 = .ok (.invokevirtual 149, 3) := dR2 (f := Instr.invokevirtual) (k := 0) (i := 93) bn_cX9_dig_0 dop_182 149 (by decide +kernel)
theorem dX9_dig_96 : decode cX9_dig 96 = .ok (.aload_n 0, 1) := dR0 (k := 0) (i := 96) bn_cX9_dig_0 dop_42 (by decide +kernel)
theorem dX9_dig_97 : decode cX9_dig 97 = .ok (.getfield 34, 3) := dR2 (f := Instr.getfield) (k := 0) (i := 97) bn_cX9_dig_0 dop_180 34 (by decide +kernel)
theorem dX9_dig_100 : decode cX9_dig 100 = .ok (.iload_n 1, 1) := dR0 (k := 0) (i := 100) bn_cX9_dig_0 dop_27 (by decide +kernel)
theorem dX9_dig_101 : decode cX9_dig 101 = .ok (.bipush 7, 2) := dR1s (f := Instr.bipush) (k := 0) (i := 101) bn_cX9_dig_0 dop_16 7 7 (by decide +kernel)
theorem dX9_dig_103 : decode cX9_dig 103 = .ok (.iconst 0, 1) := dR0 (k := 0) (i := 103) bn_cX9_dig_0 dop_3 (by decide +kernel)
theorem dX9_dig_104 : decode cX9_dig 104 = .ok (.invokevirtual 145, 3) := dR2 (f := Instr.invokevirtual) (k := 0) (i := 104) bn_cX9_dig_0 dop_182 145 (by decide +kernel)
theorem dX9_dig_107 : decode cX9_dig 107 = .ok (.return_, 1) := dR0 (k := 0) (i := 107) bn_cX9_dig_0 dop_177 (by decide +kernel)

theorem bn_cX9_labour_0 : BN cX9_labour 0 0x2c940015b874382b05005509c00adcc28300adc0a1c118056a2b0e870561700a68a2015b87438015a8ac7c8300adc081c118056a2b := by
  unfold BN; decide +kernel
theorem dX9_labour_0 : decode cX9_labour 0 = .ok (.aload_n 0, 1) := dR0 (k := 0) (i := 0) bn_cX9_labour_0 dop_42 (by decide +kernel)
theorem dX9_labour_1 : decode cX9_labour 1 = .ok (.getfield 34, 3) := dR2 (f := Instr.getfield) (k := 0) (i := 1) bn_cX9_labour_0 dop_180 34 (by decide +kernel)
theorem dX9_labour_4 : decode cX9_labour 4 = .ok (.iload_n 1, 1) := dR0 (k := 0) (i := 4) bn_cX9_labour_0 dop_27 (by decide +kernel)
theorem dX9_labour_5 : decode cX9_labour 5 = .ok (.iconst 0, 1) := dR0 (k := 0) (i := 5) bn_cX9_labour_0 dop_3 (by decide +kernel)
theorem dX9_labour_6 : decode cX9_labour 6 = .ok (.invokevirtual 130, 3) := dR2 (f := Instr.invokevirtual) (k := 0) (i := 6) bn_cX9_labour_0 dop_182 130 (by decide +kernel)
theorem dX9_labour_9 : decode cX9_labour 9 = .ok (.istore_n 2, 1) := dR0 (k := 0) (i := 9) bn_cX9_labour_0 dop_61 (by decide +kernel)
theorem dX9_labour_10 : decode cX9_labour 10 = .ok (.aload_n 0, 1) := dR0 (k := 0) (i := 10) bn_cX9_labour_0 dop_42 (by decide +kernel)
theorem dX9_labour_11 : decode cX9_labour 11 = .ok (.getfield 27, 3) := dR2 (f := Instr.getfield) (k := 0) (i := 11) bn_cX9_labour_0 dop_180 27 (by decide +kernel)
theorem dX9_labour_14 : decode cX9_labour 14 = .ok (.iload_n 2, 1) := dR0 (k := 0) (i := 14) bn_cX9_labour_0 dop_28 (by decide +kernel)
theorem dX9_labour_15 : decode cX9_labour 15 = .ok (.invokevirtual 80, 3) := dR2 (f := Instr.invokevirtual) (k := 0) (i := 15) bn_cX9_labour_0 dop_182 80 (by decide +kernel)
theorem dX9_labour_18 : decode cX9_labour 18 = .ok (.ifCond .eq 22, 3) := dR2s (f := Instr.ifCond .eq) (k := 0) (i := 18) bn_cX9_labour_0 dop_153 22 22 (by decide +kernel)
theorem dX9_labour_21 : decode cX9_labour 21 = .ok (.aload_n 0, 1) := dR0 (k := 0) (i := 21) bn_cX9_labour_0 dop_42 (by decide +kernel)
theorem dX9_labour_22 : decode cX9_labour 22 = .ok (.iload_n 1, 1) := dR0 (k := 0) (i := 22) bn_cX9_labour_0 dop_27 (by decide +kernel)
theorem dX9_labour_23 : decode cX9_labour 23 = .ok (.iload_n 2, 1) := dR0 (k := 0) (i := 23) bn_cX9_labour_0 dop_28 (by decide +kernel)
theorem dX9_labour_24 : decode cX9_labour 24 = .ok (.aload_n 0, 1) := dR0 (k := 0) (i := 24) bn_cX9_labour_0 dop_42 (by decide +kernel)
theorem dX9_labour_25 : decode cX9_labour 25 = .ok (.getfield 34, 3) := dR2 (f := Instr.getfield) (k := 0) (i := 25) bn_cX9_labour_0 dop_180 34 (by decide +kernel)
theorem dX9_labour_28 : decode cX9_labour 28 = .ok (.iload_n 1, 1) := dR0 (k := 0) (i := 28) bn_cX9_labour_0 dop_27 (by decide +kernel)
theorem dX9_labour_29 : decode cX9_labour 29 = .ok (.iconst 1, 1) := dR0 (k := 0) (i := 29) bn_cX9_labour_0 dop_4 (by decide +kernel)
theorem dX9_labour_30 : decode cX9_labour 30 = .ok (.invokevirtual 130, 3) := dR2 (f := Instr.invokevirtual) (k := 0) (i := 30) bn_cX9_labour_0 dop_182 130 (by decide +kernel)
theorem dX9_labour_33 : decode cX9_labour 33 = .ok (.iadd, 1) := dR0 (k := 0) (i := 33) bn_cX9_labour_0 dop_96 (by decide +kernel)
theorem dX9_labour_34 : decode cX9_labour 34 = .ok (.invokevirtual 155, 3) := dR2 (f := Instr.invokevirtual) (k := 0) (i := 34) bn_cX9_labour_0 dop_182 155 (by decide +kernel)
theorem dX9_labour_37 : decode cX9_labour 37 = .ok (.goto 9, 3) := dR2s (f := Instr.goto) (k := 0) (i := 37) bn_cX9_labour_0 dop_167 9 9 (by decide +kernel)
theorem dX9_labour_40 : decode cX9_labour 40 = .ok (.aload_n 0, 1) := dR0 (k := 0) (i := 40) bn_cX9_labour_0 dop_42 (by decide +kernel)
theorem dX9_labour_41 : decode cX9_labour 41 = .ok (.iload_n 1, 1) := dR0 (k := 0) (i := 41) bn_cX9_labour_0 dop_27 (by decide +kernel)
theorem dX9_labour_42 : decode cX9_labour 42 = .ok (.iload_n 2, 1) := dR0 (k := 0) (i := 42) bn_cX9_labour_0 dop_28 (by decide +kernel)
theorem dX9_labour_43 : decode cX9_labour 43 = .ok (.invokevirtual 159, 3) := dR2 (f := Instr.invokevirtual) (k := 0) (i := 43) bn_cX9_labour_0 dop_182 159 (by decide +kernel)
theorem dX9_labour_46 : decode cX9_labour 46 = .ok (.return_, 1) := dR0 (k := 0) (i := 46) bn_cX9_labour_0 dop_177 (by decide +kernel)

theorem bn_cX9_endDay_0 : BN cX9_endDay 0 0x590b802b6308145c015a96856e1802a0040242a1802b70e0ac12014da0c02b704844382300ad4561c00a8cf0015a88c02b5158707a046f40150020121500015b870567c00adc382b07005367900adc382300ad4561f00a8cf0015a88c02b5158707a043a8056e2b := by
  unfold BN; decide +kernel
theorem dX9_endDay_0 : decode cX9_endDay 0 = .ok (.aload_n 0, 1) := dR0 (k := 0) (i := 0) bn_cX9_endDay_0 dop_42 (by decide +kernel)
theorem dX9_endDay_1 : decode cX9_endDay 1 = .ok (.invokevirtual 116, 3) := dR2 (f := Instr.invokevirtual) (k := 0) (i := 1) bn_cX9_endDay_0 dop_182 116 (by decide +kernel)
theorem dX9_endDay_4 : decode cX9_endDay 4 = .ok (.iconst 0, 1) := dR0 (k := 0) (i := 4) bn_cX9_endDay_0 dop_3 (by decide +kernel)
theorem dX9_endDay_5 : decode cX9_endDay 5 = .ok (.istore_n 1, 1) := dR0 (k := 0) (i := 5) bn_cX9_endDay_0 dop_60 (by decide +kernel)
theorem dX9_endDay_6 : decode cX9_endDay 6 = .ok (.iload_n 1, 1) := dR0 (k := 0) (i := 6) bn_cX9_endDay_0 dop_27 (by decide +kernel)
theorem dX9_endDay_7 : decode cX9_endDay 7 = .ok (.aload_n 0, 1) := dR0 (k := 0) (i := 7) bn_cX9_endDay_0 dop_42 (by decide +kernel)
theorem dX9_endDay_8 : decode cX9_endDay 8 = .ok (.getfield 34, 3) := dR2 (f := Instr.getfield) (k := 0) (i := 8) bn_cX9_endDay_0 dop_180 34 (by decide +kernel)
theorem dX9_endDay_11 : decode cX9_endDay 11 = .ok (.getfield 119, 3) := dR2 (f := Instr.getfield) (k := 0) (i := 11) bn_cX9_endDay_0 dop_180 119 (by decide +kernel)
theorem dX9_endDay_14 : decode cX9_endDay 14 = .ok (.if_icmp .ge 30, 3) := dR2s (f := Instr.if_icmp .ge) (k := 0) (i := 14) bn_cX9_endDay_0 dop_162 30 30 (by decide +kernel)
theorem dX9_endDay_17 : decode cX9_endDay 17 = .ok (.aload_n 0, 1) := dR0 (k := 0) (i := 17) bn_cX9_endDay_0 dop_42 (by decide +kernel)
theorem dX9_endDay_18 : decode cX9_endDay 18 = .ok (.getfield 34, 3) := dR2 (f := Instr.getfield) (k := 0) (i := 18) bn_cX9_endDay_0 dop_180 34 (by decide +kernel)
theorem dX9_endDay_21 : decode cX9_endDay 21 = .ok (.iload_n 1, 1) := dR0 (k := 0) (i := 21) bn_cX9_endDay_0 dop_27 (by decide +kernel)
theorem dX9_endDay_22 : decode cX9_endDay 22 = .ok (.invokevirtual 120, 3) := dR2 (f := Instr.invokevirtual) (k := 0) (i := 22) bn_cX9_endDay_0 dop_182 120 (by decide +kernel)
theorem dX9_endDay_25 : decode cX9_endDay 25 = .ok (.ifCond .ne 13, 3) := dR2s (f := Instr.ifCond .ne) (k := 0) (i := 25) bn_cX9_endDay_0 dop_154 13 13 (by decide +kernel)
theorem dX9_endDay_28 : decode cX9_endDay 28 = .ok (.aload_n 0, 1) := dR0 (k := 0) (i := 28) bn_cX9_endDay_0 dop_42 (by decide +kernel)
theorem dX9_endDay_29 : decode cX9_endDay 29 = .ok (.iload_n 1, 1) := dR0 (k := 0) (i := 29) bn_cX9_endDay_0 dop_27 (by decide +kernel)
theorem dX9_endDay_30 : decode cX9_endDay 30 = .ok (.invokevirtual 123, 3) := dR2 (f := Instr.invokevirtual) (k := 0) (i := 30) bn_cX9_endDay_0 dop_182 123 (by decide +kernel)
theorem dX9_endDay_33 : decode cX9_endDay 33 = .ok (.aload_n 0, 1) := dR0 (k := 0) (i := 33) bn_cX9_endDay_0 dop_42 (by decide +kernel)
theorem dX9_endDay_34 : decode cX9_endDay 34 = .ok (.iload_n 1, 1) := dR0 (k := 0) (i := 34) bn_cX9_endDay_0 dop_27 (by decide +kernel)
theorem dX9_endDay_35 : decode cX9_endDay 35 = .ok (.invokevirtual 127, 3) := dR2 (f := Instr.invokevirtual) (k := 0) (i := 35) bn_cX9_endDay_0 dop_182 127 (by decide +kernel)
theorem dX9_endDay_38 : decode cX9_endDay 38 = .ok (.iinc 1 1, 3) := dRii (f := Instr.iinc) (k := 0) (i := 38) bn_cX9_endDay_0 dop_132 1 1 1 (by decide +kernel)
theorem dX9_endDay_41 : decode cX9_endDay 41 = .ok (.goto (-35), 3) := dR2s (f := Instr.goto) (k := 0) (i := 41) bn_cX9_endDay_0 dop_167 65501 (-35) (by decide +kernel)
theorem dX9_endDay_44 : decode cX9_endDay 44 = .ok (.iconst 0, 1) := dR0 (k := 0) (i := 44) bn_cX9_endDay_0 dop_3 (by decide +kernel)
theorem dX9_endDay_45 : decode cX9_endDay 45 = .ok (.istore_n 1, 1) := dR0 (k := 0) (i := 45) bn_cX9_endDay_0 dop_60 (by decide +kernel)
theorem dX9_endDay_46 : decode cX9_endDay 46 = .ok (.iload_n 1, 1) := dR0 (k := 0) (i := 46) bn_cX9_endDay_0 dop_27 (by decide +kernel)
theorem dX9_endDay_47 : decode cX9_endDay 47 = .ok (.aload_n 0, 1) := dR0 (k := 0) (i := 47) bn_cX9_endDay_0 dop_42 (by decide +kernel)
theorem dX9_endDay_48 : decode cX9_endDay 48 = .ok (.getfield 34, 3) := dR2 (f := Instr.getfield) (k := 0) (i := 48) bn_cX9_endDay_0 dop_180 34 (by decide +kernel)
theorem dX9_endDay_51 : decode cX9_endDay 51 = .ok (.getfield 119, 3) := dR2 (f := Instr.getfield) (k := 0) (i := 51) bn_cX9_endDay_0 dop_180 119 (by decide +kernel)
theorem dX9_endDay_54 : decode cX9_endDay 54 = .ok (.if_icmp .ge 27, 3) := dR2s (f := Instr.if_icmp .ge) (k := 0) (i := 54) bn_cX9_endDay_0 dop_162 27 27 (by decide +kernel)
theorem dX9_endDay_57 : decode cX9_endDay 57 = .ok (.aload_n 0, 1) := dR0 (k := 0) (i := 57) bn_cX9_endDay_0 dop_42 (by decide +kernel)
theorem dX9_endDay_58 : decode cX9_endDay 58 = .ok (.getfield 34, 3) := dR2 (f := Instr.getfield) (k := 0) (i := 58) bn_cX9_endDay_0 dop_180 34 (by decide +kernel)
theorem dX9_endDay_61 : decode cX9_endDay 61 = .ok (.iload_n 1, 1) := dR0 (k := 0) (i := 61) bn_cX9_endDay_0 dop_27 (by decide +kernel)
theorem dX9_endDay_62 : decode cX9_endDay 62 = .ok (.bipush 8, 2) := dR1s (f := Instr.bipush) (k := 0) (i := 62) bn_cX9_endDay_0 dop_16 8 8 (by decide +kernel)
theorem dX9_endDay_64 : decode cX9_endDay 64 = .ok (.invokevirtual 130, 3) := dR2 (f := Instr.invokevirtual) (k := 0) (i := 64) bn_cX9_endDay_0 dop_182 130 (by decide +kernel)
theorem dX9_endDay_67 : decode cX9_endDay 67 = .ok (.ifCond .ne 8, 3) := dR2s (f := Instr.ifCond .ne) (k := 0) (i := 67) bn_cX9_endDay_0 dop_154 8 8 (by decide +kernel)
theorem dX9_endDay_70 : decode cX9_endDay 70 = .ok (.aload_n 0, 1) := dR0 (k := 0) (i := 70) bn_cX9_endDay_0 dop_42 (by decide +kernel)
theorem dX9_endDay_71 : decode cX9_endDay 71 = .ok (.iload_n 1, 1) := dR0 (k := 0) (i := 71) bn_cX9_endDay_0 dop_27 (by decide +kernel)
theorem dX9_endDay_72 : decode cX9_endDay 72 = .ok (.invokevirtual 133, 3) := dR2 (f := Instr.invokevirtual) (k := 0) (i := 72) bn_cX9_endDay_0 dop_182 133 (by decide +kernel)
theorem dX9_endDay_75 : decode cX9_endDay 75 = .ok (.iinc 1 1, 3) := dRii (f := Instr.iinc) (k := 0) (i := 75) bn_cX9_endDay_0 dop_132 1 1 1 (by decide +kernel)
theorem dX9_endDay_78 : decode cX9_endDay 78 = .ok (.goto (-32), 3) := dR2s (f := Instr.goto) (k := 0) (i := 78) bn_cX9_endDay_0 dop_167 65504 (-32) (by decide +kernel)
theorem dX9_endDay_81 : decode cX9_endDay 81 = .ok (.aload_n 0, 1) := dR0 (k := 0) (i := 81) bn_cX9_endDay_0 dop_42 (by decide +kernel)
theorem dX9_endDay_82 : decode cX9_endDay 82 = .ok (.dup, 1) := dR0 (k := 0) (i := 82) bn_cX9_endDay_0 dop_89 (by decide +kernel)
theorem dX9_endDay_83 : decode cX9_endDay 83 = .ok (.getfield 45, 3) := dR2 (f := Instr.getfield) (k := 0) (i := 83) bn_cX9_endDay_0 dop_180 45 (by decide +kernel)
theorem dX9_endDay_86 : decode cX9_endDay 86 = .ok (.iconst 1, 1) := dR0 (k := 0) (i := 86) bn_cX9_endDay_0 dop_4 (by decide +kernel)
theorem dX9_endDay_87 : decode cX9_endDay 87 = .ok (.iadd, 1) := dR0 (k := 0) (i := 87) bn_cX9_endDay_0 dop_96 (by decide +kernel)
theorem dX9_endDay_88 : decode cX9_endDay 88 = .ok (.putfield 45, 3) := dR2 (f := Instr.putfield) (k := 0) (i := 88) bn_cX9_endDay_0 dop_181 45 (by decide +kernel)
theorem dX9_endDay_91 : decode cX9_endDay 91 = .ok (.return_, 1) := dR0 (k := 0) (i := 91) bn_cX9_endDay_0 dop_177 (by decide +kernel)

theorem bn_cX9_copyFrom_0 : BN cX9_copyFrom 0 0x2c85c015b0b802b5160ac56015b0ac02b5160ac4e015b09c02b5160ac76015b88c02b51608c02b5158dc02b70e0056a2c0e0056a2b188057215088102c015a8ac081600ad4583100ae452110204c02b51581026015a8b062015c8a42204080056a2b0204002b5160c402b906844080a00ad45604050056a2c := by
  unfold BN; decide +kernel
theorem dX9_copyFrom_0 : decode cX9_copyFrom 0 = .ok (.aload_n 1, 1) := dR0 (k := 0) (i := 0) bn_cX9_copyFrom_0 dop_43 (by decide +kernel)
theorem dX9_copyFrom_1 : decode cX9_copyFrom 1 = .ok (.getfield 9, 3) := dR2 (f := Instr.getfield) (k := 0) (i := 1) bn_cX9_copyFrom_0 dop_180 9 (by decide +kernel)
theorem dX9_copyFrom_4 : decode cX9_copyFrom 4 = .ok (.iconst 0, 1) := dR0 (k := 0) (i := 4) bn_cX9_copyFrom_0 dop_3 (by decide +kernel)
theorem dX9_copyFrom_5 : decode cX9_copyFrom 5 = .ok (.aload_n 0, 1) := dR0 (k := 0) (i := 5) bn_cX9_copyFrom_0 dop_42 (by decide +kernel)
theorem dX9_copyFrom_6 : decode cX9_copyFrom 6 = .ok (.getfield 9, 3) := dR2 (f := Instr.getfield) (k := 0) (i := 6) bn_cX9_copyFrom_0 dop_180 9 (by decide +kernel)
theorem dX9_copyFrom_9 : decode cX9_copyFrom 9 = .ok (.iconst 0, 1) := dR0 (k := 0) (i := 9) bn_cX9_copyFrom_0 dop_3 (by decide +kernel)
theorem dX9_copyFrom_10 : decode cX9_copyFrom 10 = .ok (.bipush 12, 2) := dR1s (f := Instr.bipush) (k := 0) (i := 10) bn_cX9_copyFrom_0 dop_16 12 12 (by decide +kernel)
theorem dX9_copyFrom_12 : decode cX9_copyFrom 12 = .ok (.invokestatic 48, 3) := dR2 (f := Instr.invokestatic) (k := 0) (i := 12) bn_cX9_copyFrom_0 dop_184 48 (by decide +kernel)
theorem dX9_copyFrom_15 : decode cX9_copyFrom 15 = .ok (.aload_n 1, 1) := dR0 (k := 0) (i := 15) bn_cX9_copyFrom_0 dop_43 (by decide +kernel)
theorem dX9_copyFrom_16 : decode cX9_copyFrom 16 = .ok (.getfield 15, 3) := dR2 (f := Instr.getfield) (k := 0) (i := 16) bn_cX9_copyFrom_0 dop_180 15 (by decide +kernel)
theorem dX9_copyFrom_19 : decode cX9_copyFrom 19 = .ok (.iconst 0, 1) := dR0 (k := 0) (i := 19) bn_cX9_copyFrom_0 dop_3 (by decide +kernel)
theorem dX9_copyFrom_20 : decode cX9_copyFrom 20 = .ok (.aload_n 0, 1) := dR0 (k := 0) (i := 20) bn_cX9_copyFrom_0 dop_42 (by decide +kernel)
theorem dX9_copyFrom_21 : decode cX9_copyFrom 21 = .ok (.getfield 15, 3) := dR2 (f := Instr.getfield) (k := 0) (i := 21) bn_cX9_copyFrom_0 dop_180 15 (by decide +kernel)
theorem dX9_copyFrom_24 : decode cX9_copyFrom 24 = .ok (.iconst 0, 1) := dR0 (k := 0) (i := 24) bn_cX9_copyFrom_0 dop_3 (by decide +kernel)
theorem dX9_copyFrom_25 : decode cX9_copyFrom 25 = .ok (.bipush 40, 2) := dR1s (f := Instr.bipush) (k := 0) (i := 25) bn_cX9_copyFrom_0 dop_16 40 40 (by decide +kernel)
theorem dX9_copyFrom_27 : decode cX9_copyFrom 27 = .ok (.invokestatic 48, 3) := dR2 (f := Instr.invokestatic) (k := 0) (i := 27) bn_cX9_copyFrom_0 dop_184 48 (by decide +kernel)
theorem dX9_copyFrom_30 : decode cX9_copyFrom 30 = .ok (.aload_n 1, 1) := dR0 (k := 0) (i := 30) bn_cX9_copyFrom_0 dop_43 (by decide +kernel)
theorem dX9_copyFrom_31 : decode cX9_copyFrom 31 = .ok (.getfield 18, 3) := dR2 (f := Instr.getfield) (k := 0) (i := 31) bn_cX9_copyFrom_0 dop_180 18 (by decide +kernel)
theorem dX9_copyFrom_34 : decode cX9_copyFrom 34 = .ok (.iconst 0, 1) := dR0 (k := 0) (i := 34) bn_cX9_copyFrom_0 dop_3 (by decide +kernel)
theorem dX9_copyFrom_35 : decode cX9_copyFrom 35 = .ok (.aload_n 0, 1) := dR0 (k := 0) (i := 35) bn_cX9_copyFrom_0 dop_42 (by decide +kernel)
theorem dX9_copyFrom_36 : decode cX9_copyFrom 36 = .ok (.getfield 18, 3) := dR2 (f := Instr.getfield) (k := 0) (i := 36) bn_cX9_copyFrom_0 dop_180 18 (by decide +kernel)
theorem dX9_copyFrom_39 : decode cX9_copyFrom 39 = .ok (.iconst 0, 1) := dR0 (k := 0) (i := 39) bn_cX9_copyFrom_0 dop_3 (by decide +kernel)
theorem dX9_copyFrom_40 : decode cX9_copyFrom 40 = .ok (.bipush 40, 2) := dR1s (f := Instr.bipush) (k := 0) (i := 40) bn_cX9_copyFrom_0 dop_16 40 40 (by decide +kernel)
theorem dX9_copyFrom_42 : decode cX9_copyFrom 42 = .ok (.invokestatic 48, 3) := dR2 (f := Instr.invokestatic) (k := 0) (i := 42) bn_cX9_copyFrom_0 dop_184 48 (by decide +kernel)
theorem dX9_copyFrom_45 : decode cX9_copyFrom 45 = .ok (.aload_n 1, 1) := dR0 (k := 0) (i := 45) bn_cX9_copyFrom_0 dop_43 (by decide +kernel)
theorem dX9_copyFrom_46 : decode cX9_copyFrom 46 = .ok (.getfield 21, 3) := dR2 (f := Instr.getfield) (k := 0) (i := 46) bn_cX9_copyFrom_0 dop_180 21 (by decide +kernel)
theorem dX9_copyFrom_49 : decode cX9_copyFrom 49 = .ok (.iconst 0, 1) := dR0 (k := 0) (i := 49) bn_cX9_copyFrom_0 dop_3 (by decide +kernel)
theorem dX9_copyFrom_50 : decode cX9_copyFrom 50 = .ok (.aload_n 0, 1) := dR0 (k := 0) (i := 50) bn_cX9_copyFrom_0 dop_42 (by decide +kernel)
theorem dX9_copyFrom_51 : decode cX9_copyFrom 51 = .ok (.getfield 21, 3) := dR2 (f := Instr.getfield) (k := 0) (i := 51) bn_cX9_copyFrom_0 dop_180 21 (by decide +kernel)
theorem dX9_copyFrom_54 : decode cX9_copyFrom 54 = .ok (.iconst 0, 1) := dR0 (k := 0) (i := 54) bn_cX9_copyFrom_0 dop_3 (by decide +kernel)
theorem dX9_copyFrom_55 : decode cX9_copyFrom 55 = .ok (.bipush 20, 2) := dR1s (f := Instr.bipush) (k := 0) (i := 55) bn_cX9_copyFrom_0 dop_16 20 20 (by decide +kernel)
theorem dX9_copyFrom_57 : decode cX9_copyFrom 57 = .ok (.invokestatic 48, 3) := dR2 (f := Instr.invokestatic) (k := 0) (i := 57) bn_cX9_copyFrom_0 dop_184 48 (by decide +kernel)
theorem dX9_copyFrom_60 : decode cX9_copyFrom 60 = .ok (.aload_n 0, 1) := dR0 (k := 0) (i := 60) bn_cX9_copyFrom_0 dop_42 (by decide +kernel)
theorem dX9_copyFrom_61 : decode cX9_copyFrom 61 = .ok (.getfield 27, 3) := dR2 (f := Instr.getfield) (k := 0) (i := 61) bn_cX9_copyFrom_0 dop_180 27 (by decide +kernel)
theorem dX9_copyFrom_64 : decode cX9_copyFrom 64 = .ok (.aload_n 1, 1) := dR0 (k := 0) (i := 64) bn_cX9_copyFrom_0 dop_43 (by decide +kernel)
theorem dX9_copyFrom_65 : decode cX9_copyFrom 65 = .ok (.getfield 27, 3) := dR2 (f := Instr.getfield) (k := 0) (i := 65) bn_cX9_copyFrom_0 dop_180 27 (by decide +kernel)
theorem dX9_copyFrom_68 : decode cX9_copyFrom 68 = .ok (.invokevirtual 54, 3) := dR2 (f := Instr.invokevirtual) (k := 0) (i := 68) bn_cX9_copyFrom_0 dop_182 54 (by decide +kernel)
theorem dX9_copyFrom_71 : decode cX9_copyFrom 71 = .ok (.aload_n 0, 1) := dR0 (k := 0) (i := 71) bn_cX9_copyFrom_0 dop_42 (by decide +kernel)
theorem dX9_copyFrom_72 : decode cX9_copyFrom 72 = .ok (.getfield 34, 3) := dR2 (f := Instr.getfield) (k := 0) (i := 72) bn_cX9_copyFrom_0 dop_180 34 (by decide +kernel)
theorem dX9_copyFrom_75 : decode cX9_copyFrom 75 = .ok (.aload_n 1, 1) := dR0 (k := 0) (i := 75) bn_cX9_copyFrom_0 dop_43 (by decide +kernel)
theorem dX9_copyFrom_76 : decode cX9_copyFrom 76 = .ok (.getfield 34, 3) := dR2 (f := Instr.getfield) (k := 0) (i := 76) bn_cX9_copyFrom_0 dop_180 34 (by decide +kernel)
theorem dX9_copyFrom_79 : decode cX9_copyFrom 79 = .ok (.invokevirtual 58, 3) := dR2 (f := Instr.invokevirtual) (k := 0) (i := 79) bn_cX9_copyFrom_0 dop_182 58 (by decide +kernel)
theorem dX9_copyFrom_82 : decode cX9_copyFrom 82 = .ok (.aload_n 0, 1) := dR0 (k := 0) (i := 82) bn_cX9_copyFrom_0 dop_42 (by decide +kernel)
theorem dX9_copyFrom_83 : decode cX9_copyFrom 83 = .ok (.aload_n 1, 1) := dR0 (k := 0) (i := 83) bn_cX9_copyFrom_0 dop_43 (by decide +kernel)
theorem dX9_copyFrom_84 : decode cX9_copyFrom 84 = .ok (.getfield 38, 3) := dR2 (f := Instr.getfield) (k := 0) (i := 84) bn_cX9_copyFrom_0 dop_180 38 (by decide +kernel)
theorem dX9_copyFrom_87 : decode cX9_copyFrom 87 = .ok (.putfield 38, 3) := dR2 (f := Instr.putfield) (k := 0) (i := 87) bn_cX9_copyFrom_0 dop_181 38 (by decide +kernel)
theorem dX9_copyFrom_90 : decode cX9_copyFrom 90 = .ok (.aload_n 0, 1) := dR0 (k := 0) (i := 90) bn_cX9_copyFrom_0 dop_42 (by decide +kernel)
theorem dX9_copyFrom_91 : decode cX9_copyFrom 91 = .ok (.aload_n 1, 1) := dR0 (k := 0) (i := 91) bn_cX9_copyFrom_0 dop_43 (by decide +kernel)
theorem dX9_copyFrom_92 : decode cX9_copyFrom 92 = .ok (.getfield 42, 3) := dR2 (f := Instr.getfield) (k := 0) (i := 92) bn_cX9_copyFrom_0 dop_180 42 (by decide +kernel)
theorem dX9_copyFrom_95 : decode cX9_copyFrom 95 = .ok (.putfield 42, 3) := dR2 (f := Instr.putfield) (k := 0) (i := 95) bn_cX9_copyFrom_0 dop_181 42 (by decide +kernel)
theorem dX9_copyFrom_98 : decode cX9_copyFrom 98 = .ok (.aload_n 0, 1) := dR0 (k := 0) (i := 98) bn_cX9_copyFrom_0 dop_42 (by decide +kernel)
theorem dX9_copyFrom_99 : decode cX9_copyFrom 99 = .ok (.aload_n 1, 1) := dR0 (k := 0) (i := 99) bn_cX9_copyFrom_0 dop_43 (by decide +kernel)
theorem dX9_copyFrom_100 : decode cX9_copyFrom 100 = .ok (.getfield 45, 3) := dR2 (f := Instr.getfield) (k := 0) (i := 100) bn_cX9_copyFrom_0 dop_180 45 (by decide +kernel)
theorem dX9_copyFrom_103 : decode cX9_copyFrom 103 = .ok (.putfield 45, 3) := dR2 (f := Instr.putfield) (k := 0) (i := 103) bn_cX9_copyFrom_0 dop_181 45 (by decide +kernel)
theorem dX9_copyFrom_106 : decode cX9_copyFrom 106 = .ok (.return_, 1) := dR0 (k := 0) (i := 106) bn_cX9_copyFrom_0 dop_177 (by decide +kernel)

