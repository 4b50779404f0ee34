theorem dX9_soilOf_0 : decode cX9_soilOf 0 = .ok (.iload_n 1, 1) := by decide +kernel
theorem dX9_soilOf_1 : decode cX9_soilOf 1 = .ok (.invokestatic 61, 3) := by decide +kernel
theorem dX9_soilOf_4 : decode cX9_soilOf 4 = .ok (.ifCond .eq 12, 3) := by decide +kernel
theorem dX9_soilOf_7 : decode cX9_soilOf 7 = .ok (.aload_n 0, 1) := by decide +kernel
theorem dX9_soilOf_8 : decode cX9_soilOf 8 = .ok (.getfield 15, 3) := by decide +kernel
theorem dX9_soilOf_11 : decode cX9_soilOf 11 = .ok (.iload_n 1, 1) := by decide +kernel
theorem dX9_soilOf_12 : decode cX9_soilOf 12 = .ok (.iaload, 1) := by decide +kernel
theorem dX9_soilOf_13 : decode cX9_soilOf 13 = .ok (.goto 4, 3) := by decide +kernel
theorem dX9_soilOf_16 : decode cX9_soilOf 16 = .ok (.iconst 0, 1) := by decide +kernel
theorem dX9_soilOf_17 : decode cX9_soilOf 17 = .ok (.ireturn, 1) := by decide +kernel
set_option maxHeartbeats 4000000 in
set_option maxRecDepth 100000 in
theorem c_X9_soilOfG (l : Launch) (D : va_G) (cI : ClassId) (aK aV : Nat → Nat) (k k0 k1 k2 k3 k4 k5 : Nat) (sz : Nat) (c6 : Int32) (c7 : Int32) (c8 : Int32) (c1 : Nat → Int32) (a0 : Int32) : Met l yX9_soilOf (gW yX9_soilOf cX9_soilOf 2 (some .int)) ({ frames := 1, cells := 0, slots := 0, locals := 20 } : Room) (kPreX D cI aK aV [.ref k, .int a0] [(k, .inr (9, [.ref k0, .ref k1, .ref k2, .ref k3, .ref k4, .ref k5, .int c6, .int c7, .int c8])), (k1, .inl (cI, 40, .inl c1))] sz) (va_Qi (fun (r : Int32) (u : Unit) => True) (fun u t => kWd D cI (va_A [(k, .inr (9, [.ref k0, .ref k1, .ref k2, .ref k3, .ref k4, .ref k5, .int c6, .int c7, .int c8])), (k1, .inl (cI, 40, .inl c1))] sz) [(k, .inr (9, [.ref k0, .ref k1, .ref k2, .ref k3, .ref k4, .ref k5, .int c6, .int c7, .int c8])), (k1, .inl (cI, 40, .inl c1))] t) (va_A [(k, .inr (9, [.ref k0, .ref k1, .ref k2, .ref k3, .ref k4, .ref k5, .int c6, .int c7, .int c8])), (k1, .inl (cI, 40, .inl c1))] sz)) 0 0 (va_A [(k, .inr (9, [.ref k0, .ref k1, .ref k2, .ref k3, .ref k4, .ref k5, .int c6, .int c7, .int c8])), (k1, .inl (cI, 40, .inl c1))] sz) := by
  refine kMetIX (own := RX9) (by decide) rfl (Nat.le_of_ble_eq_true rfl) ?_
  intro p e s m args below meth c hx hb hT hown hname hml A Q hK hP hD hS hA hN hXS hRet ls hl
  have hl : lv_has ls 2 [(0, .ref k), (1, .int a0)] := hl
  have lo_a0 := k_lo a0
  have hi_a0 := k_hi a0
  refine lv_iload_n hx hb dX9_soilOf_0 rfl (lv_at hl 1 rfl) ?_
  refine kJi (wr := [(k, .inr (9, [.ref k0, .ref k1, .ref k2, .ref k3, .ref k4, .ref k5, .int c6, .int c7, .int c8])), (k1, .inl (cI, 40, .inl c1))]) (va_runSN (As := [.int a0]) (rest := []) ⟨hx, hb, hml, hown, hT⟩ (c_X10_isMileG l D cI aK aV s.heap.size a0) ⟨va_cnB 1 hT (gW_in mw_346) rfl rfl rfl (hN _ mw_424) (hT _ mw_1) (by decide +kernel) ⟨Nat.le_of_ble_eq_true rfl, Nat.le_of_ble_eq_true rfl⟩, hT _ mw_345, trivial⟩ (kStatX hK hP hD hN hXS hS hA [] rfl (by decide)) rfl rfl hl.1 rfl (lv_room (Nat.le_of_ble_eq_true rfl)) dX9_soilOf_1 ⟨Nat.le_of_ble_eq_true rfl, Nat.le_of_ble_eq_true rfl⟩) hP hD hS hA [] [0, 1] rfl rfl (by decide) (by decide) ?_
  clear hP hD hS
  intro r_1 u_3 H locs w_2 hP hD hS
  replace hP : va_P D vwCl [(k, .inr (9, [.ref k0, .ref k1, .ref k2, .ref k3, .ref k4, .ref k5, .int c6, .int c7, .int c8])), (k1, .inl (cI, 40, .inl c1))] H := hP
  replace hD : va_D A [(k, .inr (9, [.ref k0, .ref k1, .ref k2, .ref k3, .ref k4, .ref k5, .int c6, .int c7, .int c8])), (k1, .inl (cI, 40, .inl c1))] := hD
  rcases w_2 with ⟨hr_1, h_4, h_5⟩ | ⟨hr_1, h_6⟩
  · have h_4 : 0 ≤ a0.toInt := h_4
    have h_5 : a0.toInt ≤ 39 := h_5
    obtain rfl : r_1 = 1 := hr_1.trans (by decide)
    refine b_if_eq hx hb zl_1 (tgt := 16) dX9_soilOf_4 (by decide) (fun c_7 => by exfalso; omega) (fun c_7 => ?_)
    refine lv_aload_n hx hb dX9_soilOf_7 rfl (lv_at hl 0 rfl) ?_
    refine va_get (D := D) (ci := 9) (v := .ref k1) (C := RX9) (T := TX9) (N := 9) hx hb hT giX9 hown hK hP 0 rfl rfl 1 (by decide) (hT (Cond.fieldLink RX9 15 "DesertWire$World" "soils" "[I") mw_91) (fun _ h9 => h9) rfl dX9_soilOf_8 ?_
    refine lv_iload_n hx hb dX9_soilOf_11 rfl (lv_at hl 1 rfl) ?_
    refine k_iald (v := (c1 a0.toNatClampNeg)) hx hb hK hP 1 0 rfl rfl (k_in (by omega) (by omega)) rfl dX9_soilOf_12 ?_
    refine lv_topi (fun v_8 ev_8 => ?_)
    have lo_v_8 := k_lo v_8
    have hi_v_8 := k_hi v_8
    have tv_8 : v_8.toInt = (c1 a0.toNatClampNeg).toInt := by rw [ev_8]
    refine lv_goto (tgt := 17) hx hb dX9_soilOf_13 (by decide) ?_
    exact hRet () [0, 1] trivial hP hD (by decide) rfl hS rfl dX9_soilOf_17
  · have h_6 : a0.toInt < 0 ∨ 39 < a0.toInt := h_6
    obtain rfl : r_1 = 0 := hr_1.trans (by decide)
    refine b_if_eq hx hb zl_0 (tgt := 16) dX9_soilOf_4 (by decide) (fun c_9 => ?_) (fun c_9 => by exfalso; omega)
    refine lv_iconst (v := 0) hx hb dX9_soilOf_16 (by decide) ?_
    exact hRet () [0, 1] trivial hP hD (by decide) rfl hS rfl dX9_soilOf_17
theorem dX9_springOf_0 : decode cX9_springOf 0 = .ok (.iload_n 1, 1) := by decide +kernel
theorem dX9_springOf_1 : decode cX9_springOf 1 = .ok (.invokestatic 61, 3) := by decide +kernel
theorem dX9_springOf_4 : decode cX9_springOf 4 = .ok (.ifCond .eq 12, 3) := by decide +kernel
theorem dX9_springOf_7 : decode cX9_springOf 7 = .ok (.aload_n 0, 1) := by decide +kernel
theorem dX9_springOf_8 : decode cX9_springOf 8 = .ok (.getfield 18, 3) := by decide +kernel
theorem dX9_springOf_11 : decode cX9_springOf 11 = .ok (.iload_n 1, 1) := by decide +kernel
theorem dX9_springOf_12 : decode cX9_springOf 12 = .ok (.iaload, 1) := by decide +kernel
theorem dX9_springOf_13 : decode cX9_springOf 13 = .ok (.goto 4, 3) := by decide +kernel
theorem dX9_springOf_16 : decode cX9_springOf 16 = .ok (.iconst 0, 1) := by decide +kernel
theorem dX9_springOf_17 : decode cX9_springOf 17 = .ok (.ireturn, 1) := by decide +kernel
set_option maxHeartbeats 4000000 in
set_option maxRecDepth 100000 in
theorem c_X9_springOfG (l : Launch) (D : va_G) (cI : ClassId) (aK aV : Nat → Nat) (k k0 k1 k2 k3 k4 k5 : Nat) (sz : Nat) (c6 : Int32) (c7 : Int32) (c8 : Int32) (c2 : Nat → Int32) (a0 : Int32) : Met l yX9_springOf (gW yX9_springOf cX9_springOf 2 (some .int)) ({ frames := 1, cells := 0, slots := 0, locals := 20 } : Room) (kPreX D cI aK aV [.ref k, .int a0] [(k, .inr (9, [.ref k0, .ref k1, .ref k2, .ref k3, .ref k4, .ref k5, .int c6, .int c7, .int c8])), (k2, .inl (cI, 40, .inl c2))] sz) (va_Qi (fun (r : Int32) (u : Unit) => True) (fun u t => kWd D cI (va_A [(k, .inr (9, [.ref k0, .ref k1, .ref k2, .ref k3, .ref k4, .ref k5, .int c6, .int c7, .int c8])), (k2, .inl (cI, 40, .inl c2))] sz) [(k, .inr (9, [.ref k0, .ref k1, .ref k2, .ref k3, .ref k4, .ref k5, .int c6, .int c7, .int c8])), (k2, .inl (cI, 40, .inl c2))] t) (va_A [(k, .inr (9, [.ref k0, .ref k1, .ref k2, .ref k3, .ref k4, .ref k5, .int c6, .int c7, .int c8])), (k2, .inl (cI, 40, .inl c2))] sz)) 0 0 (va_A [(k, .inr (9, [.ref k0, .ref k1, .ref k2, .ref k3, .ref k4, .ref k5, .int c6, .int c7, .int c8])), (k2, .inl (cI, 40, .inl c2))] sz) := by
  refine kMetIX (own := RX9) (by decide) rfl (Nat.le_of_ble_eq_true rfl) ?_
  intro p e s m args below meth c hx hb hT hown hname hml A Q hK hP hD hS hA hN hXS hRet ls hl
  have hl : lv_has ls 2 [(0, .ref k), (1, .int a0)] := hl
  have lo_a0 := k_lo a0
  have hi_a0 := k_hi a0
  refine lv_iload_n hx hb dX9_springOf_0 rfl (lv_at hl 1 rfl) ?_
  refine kJi (wr := [(k, .inr (9, [.ref k0, .ref k1, .ref k2, .ref k3, .ref k4, .ref k5, .int c6, .int c7, .int c8])), (k2, .inl (cI, 40, .inl c2))]) (va_runSN (As := [.int a0]) (rest := []) ⟨hx, hb, hml, hown, hT⟩ (c_X10_isMileG l D cI aK aV s.heap.size a0) ⟨va_cnB 1 hT (gW_in mw_346) rfl rfl rfl (hN _ mw_424) (hT _ mw_1) (by decide +kernel) ⟨Nat.le_of_ble_eq_true rfl, Nat.le_of_ble_eq_true rfl⟩, hT _ mw_345, trivial⟩ (kStatX hK hP hD hN hXS hS hA [] rfl (by decide)) rfl rfl hl.1 rfl (lv_room (Nat.le_of_ble_eq_true rfl)) dX9_springOf_1 ⟨Nat.le_of_ble_eq_true rfl, Nat.le_of_ble_eq_true rfl⟩) hP hD hS hA [] [0, 1] rfl rfl (by decide) (by decide) ?_
  clear hP hD hS
  intro r_1 u_3 H locs w_2 hP hD hS
  replace hP : va_P D vwCl [(k, .inr (9, [.ref k0, .ref k1, .ref k2, .ref k3, .ref k4, .ref k5, .int c6, .int c7, .int c8])), (k2, .inl (cI, 40, .inl c2))] H := hP
  replace hD : va_D A [(k, .inr (9, [.ref k0, .ref k1, .ref k2, .ref k3, .ref k4, .ref k5, .int c6, .int c7, .int c8])), (k2, .inl (cI, 40, .inl c2))] := hD
  rcases w_2 with ⟨hr_1, h_4, h_5⟩ | ⟨hr_1, h_6⟩
  · have h_4 : 0 ≤ a0.toInt := h_4
    have h_5 : a0.toInt ≤ 39 := h_5
    obtain rfl : r_1 = 1 := hr_1.trans (by decide)
    refine b_if_eq hx hb zl_1 (tgt := 16) dX9_springOf_4 (by decide) (fun c_7 => by exfalso; omega) (fun c_7 => ?_)
    refine lv_aload_n hx hb dX9_springOf_7 rfl (lv_at hl 0 rfl) ?_
    refine va_get (D := D) (ci := 9) (v := .ref k2) (C := RX9) (T := TX9) (N := 9) hx hb hT giX9 hown hK hP 0 rfl rfl 2 (by decide) (hT (Cond.fieldLink RX9 18 "DesertWire$World" "springs" "[I") mw_93) (fun _ h9 => h9) rfl dX9_springOf_8 ?_
    refine lv_iload_n hx hb dX9_springOf_11 rfl (lv_at hl 1 rfl) ?_
    refine k_iald (v := (c2 a0.toNatClampNeg)) hx hb hK hP 1 0 rfl rfl (k_in (by omega) (by omega)) rfl dX9_springOf_12 ?_
    refine lv_topi (fun v_8 ev_8 => ?_)
    have lo_v_8 := k_lo v_8
    have hi_v_8 := k_hi v_8
    have tv_8 : v_8.toInt = (c2 a0.toNatClampNeg).toInt := by rw [ev_8]
    refine lv_goto (tgt := 17) hx hb dX9_springOf_13 (by decide) ?_
    exact hRet () [0, 1] trivial hP hD (by decide) rfl hS rfl dX9_springOf_17
  · have h_6 : a0.toInt < 0 ∨ 39 < a0.toInt := h_6
    obtain rfl : r_1 = 0 := hr_1.trans (by decide)
    refine b_if_eq hx hb zl_0 (tgt := 16) dX9_springOf_4 (by decide) (fun c_9 => ?_) (fun c_9 => by exfalso; omega)
    refine lv_iconst (v := 0) hx hb dX9_springOf_16 (by decide) ?_
    exact hRet () [0, 1] trivial hP hD (by decide) rfl hS rfl dX9_springOf_17
theorem dX9_rainNow_0 : decode cX9_rainNow 0 = .ok (.aload_n 0, 1) := by decide +kernel
theorem dX9_rainNow_1 : decode cX9_rainNow 1 = .ok (.getfield 45, 3) := by decide +kernel
theorem dX9_rainNow_4 : decode cX9_rainNow 4 = .ok (.invokestatic 65, 3) := by decide +kernel
theorem dX9_rainNow_7 : decode cX9_rainNow 7 = .ok (.istore_n 1, 1) := by decide +kernel
theorem dX9_rainNow_8 : decode cX9_rainNow 8 = .ok (.iload_n 1, 1) := by decide +kernel
theorem dX9_rainNow_9 : decode cX9_rainNow 9 = .ok (.ifCond .lt 18, 3) := by decide +kernel
theorem dX9_rainNow_12 : decode cX9_rainNow 12 = .ok (.iload_n 1, 1) := by decide +kernel
theorem dX9_rainNow_13 : decode cX9_rainNow 13 = .ok (.bipush 12, 2) := by decide +kernel
theorem dX9_rainNow_15 : decode cX9_rainNow 15 = .ok (.if_icmp .ge 12, 3) := by decide +kernel
theorem dX9_rainNow_18 : decode cX9_rainNow 18 = .ok (.aload_n 0, 1) := by decide +kernel
theorem dX9_rainNow_19 : decode cX9_rainNow 19 = .ok (.getfield 9, 3) := by decide +kernel
theorem dX9_rainNow_22 : decode cX9_rainNow 22 = .ok (.iload_n 1, 1) := by decide +kernel
theorem dX9_rainNow_23 : decode cX9_rainNow 23 = .ok (.iaload, 1) := by decide +kernel
theorem dX9_rainNow_24 : decode cX9_rainNow 24 = .ok (.goto 4, 3) := by decide +kernel
theorem dX9_rainNow_28 : decode cX9_rainNow 28 = .ok (.ireturn, 1) := by decide +kernel
set_option maxHeartbeats 4000000 in
set_option maxRecDepth 100000 in
theorem c_X9_rainNowG (l : Launch) (D : va_G) (cI : ClassId) (aK aV : Nat → Nat) (k k0 k1 k2 k3 k4 k5 : Nat) (sz : Nat) (c6 : Int32) (c7 : Int32) (c8 : Int32) (c0 : Nat → Int32) : Met l yX9_rainNow (gW yX9_rainNow cX9_rainNow 2 (some .int)) ({ frames := 1, cells := 0, slots := 0, locals := 20 } : Room) (kPreX D cI aK aV [.ref k] [(k, .inr (9, [.ref k0, .ref k1, .ref k2, .ref k3, .ref k4, .ref k5, .int c6, .int c7, .int c8])), (k0, .inl (cI, 12, .inl c0))] sz) (va_Qi (fun (r : Int32) (u : Unit) => True) (fun u t => kWd D cI (va_A [(k, .inr (9, [.ref k0, .ref k1, .ref k2, .ref k3, .ref k4, .ref k5, .int c6, .int c7, .int c8])), (k0, .inl (cI, 12, .inl c0))] sz) [(k, .inr (9, [.ref k0, .ref k1, .ref k2, .ref k3, .ref k4, .ref k5, .int c6, .int c7, .int c8])), (k0, .inl (cI, 12, .inl c0))] t) (va_A [(k, .inr (9, [.ref k0, .ref k1, .ref k2, .ref k3, .ref k4, .ref k5, .int c6, .int c7, .int c8])), (k0, .inl (cI, 12, .inl c0))] sz)) 0 0 (va_A [(k, .inr (9, [.ref k0, .ref k1, .ref k2, .ref k3, .ref k4, .ref k5, .int c6, .int c7, .int c8])), (k0, .inl (cI, 12, .inl c0))] sz) := by
  refine kMetIX (own := RX9) (by decide) rfl (Nat.le_of_ble_eq_true rfl) ?_
  intro p e s m args below meth c hx hb hT hown hname hml A Q hK hP hD hS hA hN hXS hRet ls hl
  have hl : lv_has ls 2 [(0, .ref k)] := hl
  have lo_c8 := k_lo c8
  have hi_c8 := k_hi c8
  refine lv_aload_n hx hb dX9_rainNow_0 rfl (lv_at hl 0 rfl) ?_
  refine va_get (D := D) (ci := 9) (v := .int c8) (C := RX9) (T := TX9) (N := 9) hx hb hT giX9 hown hK hP 0 rfl rfl 8 (by decide) (hT (Cond.fieldLink RX9 45 "DesertWire$World" "day" "I") mw_108) (fun _ h9 => h9) rfl dX9_rainNow_1 ?_
  refine kJi (wr := [(k, .inr (9, [.ref k0, .ref k1, .ref k2, .ref k3, .ref k4, .ref k5, .int c6, .int c7, .int c8])), (k0, .inl (cI, 12, .inl c0))]) (va_runSN (As := [.int c8]) (rest := []) ⟨hx, hb, hml, hown, hT⟩ (c_X10_monthOfG l D cI aK aV s.heap.size c8) ⟨va_cnB 1 hT (gW_in mw_636) rfl rfl rfl (hN _ mw_634) (hT _ mw_1) (by decide +kernel) ⟨Nat.le_of_ble_eq_true rfl, Nat.le_of_ble_eq_true rfl⟩, hT _ mw_635, trivial⟩ (kStatX hK hP hD hN hXS hS hA [] rfl (by decide)) rfl rfl hl.1 rfl (lv_room (Nat.le_of_ble_eq_true rfl)) dX9_rainNow_4 ⟨Nat.le_of_ble_eq_true rfl, Nat.le_of_ble_eq_true rfl⟩) hP hD hS hA [] [0, 1] rfl rfl (by decide) (by decide) ?_
  clear hP hD hS
  intro r_1 u_3 H locs w_2 hP hD hS
  replace hP : va_P D vwCl [(k, .inr (9, [.ref k0, .ref k1, .ref k2, .ref k3, .ref k4, .ref k5, .int c6, .int c7, .int c8])), (k0, .inl (cI, 12, .inl c0))] H := hP
  replace hD : va_D A [(k, .inr (9, [.ref k0, .ref k1, .ref k2, .ref k3, .ref k4, .ref k5, .int c6, .int c7, .int c8])), (k0, .inl (cI, 12, .inl c0))] := hD
  obtain ⟨h_4, h_5⟩ := w_2
  have h_4 : 0 ≤ r_1.toInt := h_4
  have h_5 : r_1.toInt ≤ 11 := h_5
  have lo_r_1 := k_lo r_1
  have hi_r_1 := k_hi r_1
  refine lv_istore_n (lv' := [(1, .int r_1), (0, .ref k)]) hx hb dX9_rainNow_7 rfl hl (by decide) rfl ?_
  clear hl
  intro ls hl
  refine lv_iload_n hx hb dX9_rainNow_8 rfl (lv_at hl 0 rfl) ?_
  refine b_if_lt hx hb rfl (tgt := 27) dX9_rainNow_9 (by decide) (fun c_6 => by exfalso; omega) (fun c_6 => ?_)
  refine lv_iload_n hx hb dX9_rainNow_12 rfl (lv_at hl 0 rfl) ?_
  refine lv_bipush (v := 12) hx hb dX9_rainNow_13 (by decide) ?_
  refine b_icmp_ge hx hb rfl zl_12 (tgt := 27) dX9_rainNow_15 (by decide) (fun c_7 => by exfalso; omega) (fun c_7 => ?_)
  refine lv_aload_n hx hb dX9_rainNow_18 rfl (lv_at hl 1 rfl) ?_
  refine va_get (D := D) (ci := 9) (v := .ref k0) (C := RX9) (T := TX9) (N := 9) hx hb hT giX9 hown hK hP 0 rfl rfl 0 (by decide) (hT (Cond.fieldLink RX9 9 "DesertWire$World" "rains" "[I") mw_89) (fun _ h9 => h9) rfl dX9_rainNow_19 ?_
  refine lv_iload_n hx hb dX9_rainNow_22 rfl (lv_at hl 0 rfl) ?_
  refine k_iald (v := (c0 r_1.toNatClampNeg)) hx hb hK hP 1 0 rfl rfl (k_in (by omega) (by omega)) rfl dX9_rainNow_23 ?_
  refine lv_topi (fun v_8 ev_8 => ?_)
  have lo_v_8 := k_lo v_8
  have hi_v_8 := k_hi v_8
  have tv_8 : v_8.toInt = (c0 r_1.toNatClampNeg).toInt := by rw [ev_8]
  refine lv_goto (tgt := 28) hx hb dX9_rainNow_24 (by decide) ?_
  exact hRet () [0, 1] trivial hP hD (by decide) rfl hS rfl dX9_rainNow_28
theorem dX9_effortOf_0 : decode cX9_effortOf 0 = .ok (.aload_n 0, 1) := by decide +kernel
theorem dX9_effortOf_1 : decode cX9_effortOf 1 = .ok (.iload_n 1, 1) := by decide +kernel
theorem dX9_effortOf_2 : decode cX9_effortOf 2 = .ok (.invokevirtual 69, 3) := by decide +kernel
theorem dX9_effortOf_5 : decode cX9_effortOf 5 = .ok (.aload_n 0, 1) := by decide +kernel
theorem dX9_effortOf_6 : decode cX9_effortOf 6 = .ok (.invokevirtual 72, 3) := by decide +kernel
theorem dX9_effortOf_9 : decode cX9_effortOf 9 = .ok (.invokestatic 76, 3) := by decide +kernel
theorem dX9_effortOf_12 : decode cX9_effortOf 12 = .ok (.ireturn, 1) := by decide +kernel
set_option maxHeartbeats 4000000 in
set_option maxRecDepth 100000 in
theorem c_X9_effortOfG (l : Launch) (D : va_G) (cI : ClassId) (aK aV : Nat → Nat) (k k0 k1 k2 k3 k4 k5 : Nat) (sz : Nat) (c6 : Int32) (c7 : Int32) (c8 : Int32) (c0 : Nat → Int32) (c1 : Nat → Int32) (a0 : Int32) : Met l yX9_effortOf (gW yX9_effortOf cX9_effortOf 2 (some .int)) ({ frames := 2, cells := 0, slots := 0, locals := 41 } : Room) (kPreX D cI aK aV [.ref k, .int a0] [(k, .inr (9, [.ref k0, .ref k1, .ref k2, .ref k3, .ref k4, .ref k5, .int c6, .int c7, .int c8])), (k0, .inl (cI, 12, .inl c0)), (k1, .inl (cI, 40, .inl c1))] sz) (va_Qi (fun (r : Int32) (u : Unit) => True) (fun u t => kWd D cI (va_A [(k, .inr (9, [.ref k0, .ref k1, .ref k2, .ref k3, .ref k4, .ref k5, .int c6, .int c7, .int c8])), (k0, .inl (cI, 12, .inl c0)), (k1, .inl (cI, 40, .inl c1))] sz) [(k, .inr (9, [.ref k0, .ref k1, .ref k2, .ref k3, .ref k4, .ref k5, .int c6, .int c7, .int c8])), (k0, .inl (cI, 12, .inl c0)), (k1, .inl (cI, 40, .inl c1))] t) (va_A [(k, .inr (9, [.ref k0, .ref k1, .ref k2, .ref k3, .ref k4, .ref k5, .int c6, .int c7, .int c8])), (k0, .inl (cI, 12, .inl c0)), (k1, .inl (cI, 40, .inl c1))] sz)) 0 0 (va_A [(k, .inr (9, [.ref k0, .ref k1, .ref k2, .ref k3, .ref k4, .ref k5, .int c6, .int c7, .int c8])), (k0, .inl (cI, 12, .inl c0)), (k1, .inl (cI, 40, .inl c1))] sz) := by
  refine kMetIX (own := RX9) (by decide) rfl (Nat.le_of_ble_eq_true rfl) ?_
  intro p e s m args below meth c hx hb hT hown hname hml A Q hK hP hD hS hA hN hXS hRet ls hl
  have hl : lv_has ls 2 [(0, .ref k), (1, .int a0)] := hl
  have lo_a0 := k_lo a0
  have hi_a0 := k_hi a0
  refine lv_aload_n hx hb dX9_effortOf_0 rfl (lv_at hl 0 rfl) ?_
  refine lv_iload_n hx hb dX9_effortOf_1 rfl (lv_at hl 1 rfl) ?_
  refine kJi (wr := [(k0, .inl (cI, 12, .inl c0))]) (va_runV (As := [.int a0]) (rest := []) ⟨hx, hb, hml, hown, hT⟩ (c_X9_soilOfG l D cI aK aV k k0 k1 k2 k3 k4 k5 s.heap.size c6 c7 c8 c1 a0) (cwV 1 hT (gV_in mw_423 mw_420 mw_421 mw_422 mw_2) rfl rfl rfl (by decide +kernel) ⟨Nat.le_of_ble_eq_true rfl, Nat.le_of_ble_eq_true rfl⟩) (kRecvX (q0 := 0) (ci := 9) hK hP hD hN hXS hS hA rfl rfl [0, 2] rfl (by decide)) rfl rfl hl.1 rfl (lv_room (Nat.le_of_ble_eq_true rfl)) dX9_effortOf_2 ⟨Nat.le_of_ble_eq_true rfl, Nat.le_of_ble_eq_true rfl⟩) hP hD hS hA [0, 2] [1] rfl rfl (by decide) (by decide) ?_
  clear hP hD hS
  intro r_1 u_3 H locs w_2 hP hD hS
  replace hP : va_P D vwCl [(k0, .inl (cI, 12, .inl c0)), (k, .inr (9, [.ref k0, .ref k1, .ref k2, .ref k3, .ref k4, .ref k5, .int c6, .int c7, .int c8])), (k1, .inl (cI, 40, .inl c1))] H := hP
  replace hD : va_D A [(k0, .inl (cI, 12, .inl c0)), (k, .inr (9, [.ref k0, .ref k1, .ref k2, .ref k3, .ref k4, .ref k5, .int c6, .int c7, .int c8])), (k1, .inl (cI, 40, .inl c1))] := hD
  have lo_r_1 := k_lo r_1
  have hi_r_1 := k_hi r_1
  refine lv_aload_n hx hb dX9_effortOf_5 rfl (lv_at hl 0 rfl) ?_
  refine kJi (wr := [(k1, .inl (cI, 40, .inl c1))]) (va_runV (As := []) (rest := [.int r_1]) ⟨hx, hb, hml, hown, hT⟩ (c_X9_rainNowG l D cI aK aV k k0 k1 k2 k3 k4 k5 H.size c6 c7 c8 c0) (cwV 0 hT (gV_in mw_633 mw_630 mw_631 mw_632 mw_2) rfl rfl rfl (by decide +kernel) ⟨Nat.le_of_ble_eq_true rfl, Nat.le_of_ble_eq_true rfl⟩) (kRecvX (q0 := 1) (ci := 9) hK hP hD hN hXS hS hA rfl rfl [1, 0] rfl (by decide)) rfl rfl hl.1 rfl (lv_room (Nat.le_of_ble_eq_true rfl)) dX9_effortOf_6 ⟨Nat.le_of_ble_eq_true rfl, Nat.le_of_ble_eq_true rfl⟩) hP hD hS hA [1, 0] [2] rfl rfl (by decide) (by decide) ?_
  clear hP hD hS
  intro r_4 u_6 H locs w_5 hP hD hS
  replace hP : va_P D vwCl [(k1, .inl (cI, 40, .inl c1)), (k, .inr (9, [.ref k0, .ref k1, .ref k2, .ref k3, .ref k4, .ref k5, .int c6, .int c7, .int c8])), (k0, .inl (cI, 12, .inl c0))] H := hP
  replace hD : va_D A [(k1, .inl (cI, 40, .inl c1)), (k, .inr (9, [.ref k0, .ref k1, .ref k2, .ref k3, .ref k4, .ref k5, .int c6, .int c7, .int c8])), (k0, .inl (cI, 12, .inl c0))] := hD
  have lo_r_4 := k_lo r_4
  have hi_r_4 := k_hi r_4
  refine kJi (wr := [(k1, .inl (cI, 40, .inl c1)), (k, .inr (9, [.ref k0, .ref k1, .ref k2, .ref k3, .ref k4, .ref k5, .int c6, .int c7, .int c8])), (k0, .inl (cI, 12, .inl c0))]) (va_runSN (As := [.int r_1, .int r_4]) (rest := []) ⟨hx, hb, hml, hown, hT⟩ (c_X10_effortInG l D cI aK aV H.size r_1 r_4) ⟨va_cnB 2 hT (gW_in mw_651) rfl rfl rfl (hN _ mw_649) (hT _ mw_1) (by decide +kernel) ⟨Nat.le_of_ble_eq_true rfl, Nat.le_of_ble_eq_true rfl⟩, hT _ mw_650, trivial⟩ (kStatX hK hP hD hN hXS hS hA [] rfl (by decide)) rfl rfl hl.1 rfl (lv_room (Nat.le_of_ble_eq_true rfl)) dX9_effortOf_9 ⟨Nat.le_of_ble_eq_true rfl, Nat.le_of_ble_eq_true rfl⟩) hP hD hS hA [] [0, 1, 2] rfl rfl (by decide) (by decide) ?_
  clear hP hD hS
  intro r_7 u_9 H locs w_8 hP hD hS
  replace hP : va_P D vwCl [(k1, .inl (cI, 40, .inl c1)), (k, .inr (9, [.ref k0, .ref k1, .ref k2, .ref k3, .ref k4, .ref k5, .int c6, .int c7, .int c8])), (k0, .inl (cI, 12, .inl c0))] H := hP
  replace hD : va_D A [(k1, .inl (cI, 40, .inl c1)), (k, .inr (9, [.ref k0, .ref k1, .ref k2, .ref k3, .ref k4, .ref k5, .int c6, .int c7, .int c8])), (k0, .inl (cI, 12, .inl c0))] := hD
  have lo_r_7 := k_lo r_7
  have hi_r_7 := k_hi r_7
  exact hRet () [1, 2, 0] trivial hP hD (by decide) rfl hS rfl dX9_effortOf_12
theorem dX9_leakOf_0 : decode cX9_leakOf 0 = .ok (.iconst (-1), 1) := by decide +kernel
theorem dX9_leakOf_1 : decode cX9_leakOf 1 = .ok (.istore_n 2, 1) := by decide +kernel
theorem dX9_leakOf_2 : decode cX9_leakOf 2 = .ok (.aload_n 0, 1) := by decide +kernel
theorem dX9_leakOf_3 : decode cX9_leakOf 3 = .ok (.getfield 27, 3) := by decide +kernel
theorem dX9_leakOf_6 : decode cX9_leakOf 6 = .ok (.iload_n 1, 1) := by decide +kernel
theorem dX9_leakOf_7 : decode cX9_leakOf 7 = .ok (.invokevirtual 80, 3) := by decide +kernel
theorem dX9_leakOf_10 : decode cX9_leakOf 10 = .ok (.ifCond .ne 5, 3) := by decide +kernel
theorem dX9_leakOf_13 : decode cX9_leakOf 13 = .ok (.iload_n 2, 1) := by decide +kernel
theorem dX9_leakOf_14 : decode cX9_leakOf 14 = .ok (.ireturn, 1) := by decide +kernel
theorem dX9_leakOf_15 : decode cX9_leakOf 15 = .ok (.aload_n 0, 1) := by decide +kernel
theorem dX9_leakOf_16 : decode cX9_leakOf 16 = .ok (.invokevirtual 72, 3) := by decide +kernel
theorem dX9_leakOf_19 : decode cX9_leakOf 19 = .ok (.istore_n 3, 1) := by decide +kernel
theorem dX9_leakOf_20 : decode cX9_leakOf 20 = .ok (.iconst 0, 1) := by decide +kernel
theorem dX9_leakOf_21 : decode cX9_leakOf 21 = .ok (.istore 4, 2) := by decide +kernel
theorem dX9_leakOf_23 : decode cX9_leakOf 23 = .ok (.iload 4, 2) := by decide +kernel
theorem dX9_leakOf_25 : decode cX9_leakOf 25 = .ok (.aload_n 0, 1) := by decide +kernel
theorem dX9_leakOf_26 : decode cX9_leakOf 26 = .ok (.getfield 27, 3) := by decide +kernel
theorem dX9_leakOf_29 : decode cX9_leakOf 29 = .ok (.getfield 83, 3) := by decide +kernel
theorem dX9_leakOf_32 : decode cX9_leakOf 32 = .ok (.if_icmp .ge 87, 3) := by decide +kernel
theorem dX9_leakOf_35 : decode cX9_leakOf 35 = .ok (.aload_n 0, 1) := by decide +kernel
theorem dX9_leakOf_36 : decode cX9_leakOf 36 = .ok (.getfield 27, 3) := by decide +kernel
theorem dX9_leakOf_39 : decode cX9_leakOf 39 = .ok (.iload 4, 2) := by decide +kernel
theorem dX9_leakOf_41 : decode cX9_leakOf 41 = .ok (.iload_n 1, 1) := by decide +kernel
theorem dX9_leakOf_42 : decode cX9_leakOf 42 = .ok (.invokevirtual 86, 3) := by decide +kernel
theorem dX9_leakOf_45 : decode cX9_leakOf 45 = .ok (.ifCond .eq 68, 3) := by decide +kernel
theorem dX9_leakOf_48 : decode cX9_leakOf 48 = .ok (.bipush 9, 2) := by decide +kernel
theorem dX9_leakOf_50 : decode cX9_leakOf 50 = .ok (.iconst 1, 1) := by decide +kernel
theorem dX9_leakOf_51 : decode cX9_leakOf 51 = .ok (.iload_n 3, 1) := by decide +kernel
theorem dX9_leakOf_52 : decode cX9_leakOf 52 = .ok (.iadd, 1) := by decide +kernel
theorem dX9_leakOf_53 : decode cX9_leakOf 53 = .ok (.aload_n 0, 1) := by decide +kernel
theorem dX9_leakOf_54 : decode cX9_leakOf 54 = .ok (.getfield 45, 3) := by decide +kernel
theorem dX9_leakOf_57 : decode cX9_leakOf 57 = .ok (.aload_n 0, 1) := by decide +kernel
theorem dX9_leakOf_58 : decode cX9_leakOf 58 = .ok (.getfield 27, 3) := by decide +kernel
theorem dX9_leakOf_61 : decode cX9_leakOf 61 = .ok (.iload 4, 2) := by decide +kernel
theorem dX9_leakOf_63 : decode cX9_leakOf 63 = .ok (.invokevirtual 90, 3) := by decide +kernel
theorem dX9_leakOf_66 : decode cX9_leakOf 66 = .ok (.isub, 1) := by decide +kernel
theorem dX9_leakOf_67 : decode cX9_leakOf 67 = .ok (.bipush 30, 2) := by decide +kernel
theorem dX9_leakOf_69 : decode cX9_leakOf 69 = .ok (.idiv, 1) := by decide +kernel
theorem dX9_leakOf_70 : decode cX9_leakOf 70 = .ok (.iadd, 1) := by decide +kernel
theorem dX9_leakOf_71 : decode cX9_leakOf 71 = .ok (.invokestatic 93, 3) := by decide +kernel
theorem dX9_leakOf_74 : decode cX9_leakOf 74 = .ok (.istore 5, 2) := by decide +kernel
theorem dX9_leakOf_76 : decode cX9_leakOf 76 = .ok (.aload_n 0, 1) := by decide +kernel
theorem dX9_leakOf_77 : decode cX9_leakOf 77 = .ok (.getfield 27, 3) := by decide +kernel
theorem dX9_leakOf_80 : decode cX9_leakOf 80 = .ok (.iload 4, 2) := by decide +kernel
theorem dX9_leakOf_82 : decode cX9_leakOf 82 = .ok (.invokevirtual 98, 3) := by decide +kernel
theorem dX9_leakOf_85 : decode cX9_leakOf 85 = .ok (.invokestatic 101, 3) := by decide +kernel
theorem dX9_leakOf_88 : decode cX9_leakOf 88 = .ok (.ifCond .eq 9, 3) := by decide +kernel
theorem dX9_leakOf_91 : decode cX9_leakOf 91 = .ok (.iload 5, 2) := by decide +kernel
theorem dX9_leakOf_93 : decode cX9_leakOf 93 = .ok (.iconst 2, 1) := by decide +kernel
theorem dX9_leakOf_94 : decode cX9_leakOf 94 = .ok (.idiv, 1) := by decide +kernel
theorem dX9_leakOf_95 : decode cX9_leakOf 95 = .ok (.istore 5, 2) := by decide +kernel
theorem dX9_leakOf_97 : decode cX9_leakOf 97 = .ok (.iload_n 2, 1) := by decide +kernel
theorem dX9_leakOf_98 : decode cX9_leakOf 98 = .ok (.ifCond .ge 8, 3) := by decide +kernel
theorem dX9_leakOf_101 : decode cX9_leakOf 101 = .ok (.iload 5, 2) := by decide +kernel
theorem dX9_leakOf_103 : decode cX9_leakOf 103 = .ok (.goto 9, 3) := by decide +kernel
theorem dX9_leakOf_106 : decode cX9_leakOf 106 = .ok (.iload_n 2, 1) := by decide +kernel
theorem dX9_leakOf_107 : decode cX9_leakOf 107 = .ok (.iload 5, 2) := by decide +kernel
theorem dX9_leakOf_109 : decode cX9_leakOf 109 = .ok (.invokestatic 93, 3) := by decide +kernel
theorem dX9_leakOf_112 : decode cX9_leakOf 112 = .ok (.istore_n 2, 1) := by decide +kernel
theorem dX9_leakOf_113 : decode cX9_leakOf 113 = .ok (.iinc 4 1, 3) := by decide +kernel
theorem dX9_leakOf_116 : decode cX9_leakOf 116 = .ok (.goto (-93), 3) := by decide +kernel
theorem dX9_leakOf_119 : decode cX9_leakOf 119 = .ok (.iload_n 2, 1) := by decide +kernel
theorem dX9_leakOf_120 : decode cX9_leakOf 120 = .ok (.ireturn, 1) := by decide +kernel
set_option maxHeartbeats 4000000 in
set_option maxRecDepth 100000 in
theorem c_X9_leakOfG (l : Launch) (D : va_G) (cI : ClassId) (aK aV : Nat → Nat) (k k0 k1 k2 k3 k4 k5 k40 k41 k42 k43 k44 k45 k46 k47 k48 : Nat) (sz : Nat) (c6 : Int32) (c7 : Int32) (c8 : Int32) (c0 : Nat → Int32) (c49 : Int32) (c40 : Nat → Int32) (c41 : Nat → Int32) (c43 : Nat → Int32) (c45 : Nat → Int32) (c46 : Nat → Int32) (a0 : Int32) : Met l yX9_leakOf (gW yX9_leakOf cX9_leakOf 6 (some .int)) ({ frames := 2, cells := 0, slots := 0, locals := 43 } : Room) (kPreX D cI aK aV [.ref k, .int a0] [(k, .inr (9, [.ref k0, .ref k1, .ref k2, .ref k3, .ref k4, .ref k5, .int c6, .int c7, .int c8])), (k0, .inl (cI, 12, .inl c0)), (k4, .inr (8, [.ref k40, .ref k41, .ref k42, .ref k43, .ref k44, .ref k45, .ref k46, .ref k47, .ref k48, .int c49])), (k40, .inl (cI, 60, .inl c40)), (k41, .inl (cI, 60, .inl c41)), (k43, .inl (cI, 60, .inl c43)), (k45, .inl (cI, 60, .inl c45)), (k46, .inl (cI, 40, .inl c46))] sz) (va_Qi (fun (r : Int32) (u : Unit) => True) (fun u t => kWd D cI (va_A [(k, .inr (9, [.ref k0, .ref k1, .ref k2, .ref k3, .ref k4, .ref k5, .int c6, .int c7, .int c8])), (k0, .inl (cI, 12, .inl c0)), (k4, .inr (8, [.ref k40, .ref k41, .ref k42, .ref k43, .ref k44, .ref k45, .ref k46, .ref k47, .ref k48, .int c49])), (k40, .inl (cI, 60, .inl c40)), (k41, .inl (cI, 60, .inl c41)), (k43, .inl (cI, 60, .inl c43)), (k45, .inl (cI, 60, .inl c45)), (k46, .inl (cI, 40, .inl c46))] sz) [(k, .inr (9, [.ref k0, .ref k1, .ref k2, .ref k3, .ref k4, .ref k5, .int c6, .int c7, .int c8])), (k0, .inl (cI, 12, .inl c0)), (k4, .inr (8, [.ref k40, .ref k41, .ref k42, .ref k43, .ref k44, .ref k45, .ref k46, .ref k47, .ref k48, .int c49])), (k40, .inl (cI, 60, .inl c40)), (k41, .inl (cI, 60, .inl c41)), (k43, .inl (cI, 60, .inl c43)), (k45, .inl (cI, 60, .inl c45)), (k46, .inl (cI, 40, .inl c46))] t) (va_A [(k, .inr (9, [.ref k0, .ref k1, .ref k2, .ref k3, .ref k4, .ref k5, .int c6, .int c7, .int c8])), (k0, .inl (cI, 12, .inl c0)), (k4, .inr (8, [.ref k40, .ref k41, .ref k42, .ref k43, .ref k44, .ref k45, .ref k46, .ref k47, .ref k48, .int c49])), (k40, .inl (cI, 60, .inl c40)), (k41, .inl (cI, 60, .inl c41)), (k43, .inl (cI, 60, .inl c43)), (k45, .inl (cI, 60, .inl c45)), (k46, .inl (cI, 40, .inl c46))] sz)) 0 0 (va_A [(k, .inr (9, [.ref k0, .ref k1, .ref k2, .ref k3, .ref k4, .ref k5, .int c6, .int c7, .int c8])), (k0, .inl (cI, 12, .inl c0)), (k4, .inr (8, [.ref k40, .ref k41, .ref k42, .ref k43, .ref k44, .ref k45, .ref k46, .ref k47, .ref k48, .int c49])), (k40, .inl (cI, 60, .inl c40)), (k41, .inl (cI, 60, .inl c41)), (k43, .inl (cI, 60, .inl c43)), (k45, .inl (cI, 60, .inl c45)), (k46, .inl (cI, 40, .inl c46))] sz) := by
  refine kMetIX (own := RX9) (by decide) rfl (Nat.le_of_ble_eq_true rfl) ?_
  intro p e s m args below meth c hx hb hT hown hname hml A Q hK hP hD hS hA hN hXS hRet ls hl
  have hl : lv_has ls 6 [(0, .ref k), (1, .int a0)] := hl
  have lo_a0 := k_lo a0
  have hi_a0 := k_hi a0
  have lo_c8 := k_lo c8
  have hi_c8 := k_hi c8
  have lo_c49 := k_lo c49
  have hi_c49 := k_hi c49
  refine lv_iconst (v := (-1)) hx hb dX9_leakOf_0 (by decide) ?_
  refine lv_istore_n (lv' := [(2, .int (-1)), (0, .ref k), (1, .int a0)]) hx hb dX9_leakOf_1 rfl hl (by decide) rfl ?_
  clear hl
  intro ls hl
  refine lv_aload_n hx hb dX9_leakOf_2 rfl (lv_at hl 1 rfl) ?_
  refine va_get (D := D) (ci := 9) (v := .ref k4) (C := RX9) (T := TX9) (N := 9) hx hb hT giX9 hown hK hP 0 rfl rfl 4 (by decide) (hT (Cond.fieldLink RX9 27 "DesertWire$World" "works" "LDesertWire$Works;") mw_97) (fun _ h9 => h9) rfl dX9_leakOf_3 ?_
  refine lv_iload_n hx hb dX9_leakOf_6 rfl (lv_at hl 2 rfl) ?_
  refine kJi (wr := [(k, .inr (9, [.ref k0, .ref k1, .ref k2, .ref k3, .ref k4, .ref k5, .int c6, .int c7, .int c8])), (k0, .inl (cI, 12, .inl c0)), (k40, .inl (cI, 60, .inl c40)), (k41, .inl (cI, 60, .inl c41)), (k43, .inl (cI, 60, .inl c43)), (k45, .inl (cI, 60, .inl c45))]) (va_runV (As := [.int a0]) (rest := []) ⟨hx, hb, hml, hown, hT⟩ (c_X8_isWiredG l D cI aK aV k4 k40 k41 k42 k43 k44 k45 k46 k47 k48 s.heap.size c49 c46 a0) (cwV 1 hT (gV_in mw_624 mw_629 mw_622 mw_623 mw_3) rfl rfl rfl (by decide +kernel) ⟨Nat.le_of_ble_eq_true rfl, Nat.le_of_ble_eq_true rfl⟩) (kRecvX (q0 := 2) (ci := 8) hK hP hD hN hXS hS hA rfl rfl [2, 7] rfl (by decide)) rfl rfl hl.1 rfl (lv_room (Nat.le_of_ble_eq_true rfl)) dX9_leakOf_7 ⟨Nat.le_of_ble_eq_true rfl, Nat.le_of_ble_eq_true rfl⟩) hP hD hS hA [2, 7] [0, 1, 3, 4, 5, 6] rfl rfl (by decide) (by decide) ?_
  clear hP hD hS
  intro r_1 u_3 H locs w_2 hP hD hS
  replace hP : va_P D vwCl [(k, .inr (9, [.ref k0, .ref k1, .ref k2, .ref k3, .ref k4, .ref k5, .int c6, .int c7, .int c8])), (k0, .inl (cI, 12, .inl c0)), (k40, .inl (cI, 60, .inl c40)), (k41, .inl (cI, 60, .inl c41)), (k43, .inl (cI, 60, .inl c43)), (k45, .inl (cI, 60, .inl c45)), (k4, .inr (8, [.ref k40, .ref k41, .ref k42, .ref k43, .ref k44, .ref k45, .ref k46, .ref k47, .ref k48, .int c49])), (k46, .inl (cI, 40, .inl c46))] H := hP
  replace hD : va_D A [(k, .inr (9, [.ref k0, .ref k1, .ref k2, .ref k3, .ref k4, .ref k5, .int c6, .int c7, .int c8])), (k0, .inl (cI, 12, .inl c0)), (k40, .inl (cI, 60, .inl c40)), (k41, .inl (cI, 60, .inl c41)), (k43, .inl (cI, 60, .inl c43)), (k45, .inl (cI, 60, .inl c45)), (k4, .inr (8, [.ref k40, .ref k41, .ref k42, .ref k43, .ref k44, .ref k45, .ref k46, .ref k47, .ref k48, .int c49])), (k46, .inl (cI, 40, .inl c46))] := hD
  have lo_r_1 := k_lo r_1
  have hi_r_1 := k_hi r_1
  refine b_if_ne hx hb rfl (tgt := 15) dX9_leakOf_10 (by decide) (fun c_4 => ?_) (fun c_4 => ?_)
  · refine lv_aload_n hx hb dX9_leakOf_15 rfl (lv_at hl 1 rfl) ?_
    refine kJi (wr := [(k40, .inl (cI, 60, .inl c40)), (k41, .inl (cI, 60, .inl c41)), (k43, .inl (cI, 60, .inl c43)), (k45, .inl (cI, 60, .inl c45)), (k4, .inr (8, [.ref k40, .ref k41, .ref k42, .ref k43, .ref k44, .ref k45, .ref k46, .ref k47, .ref k48, .int c49])), (k46, .inl (cI, 40, .inl c46))]) (va_runV (As := []) (rest := []) ⟨hx, hb, hml, hown, hT⟩ (c_X9_rainNowG l D cI aK aV k k0 k1 k2 k3 k4 k5 H.size c6 c7 c8 c0) (cwV 0 hT (gV_in mw_633 mw_630 mw_631 mw_632 mw_2) rfl rfl rfl (by decide +kernel) ⟨Nat.le_of_ble_eq_true rfl, Nat.le_of_ble_eq_true rfl⟩) (kRecvX (q0 := 0) (ci := 9) hK hP hD hN hXS hS hA rfl rfl [0, 1] rfl (by decide)) rfl rfl hl.1 rfl (lv_room (Nat.le_of_ble_eq_true rfl)) dX9_leakOf_16 ⟨Nat.le_of_ble_eq_true rfl, Nat.le_of_ble_eq_true rfl⟩) hP hD hS hA [0, 1] [2, 3, 4, 5, 6, 7] rfl rfl (by decide) (by decide) ?_
    clear hP hD hS
    intro r_5 u_7 H locs w_6 hP hD hS
    replace hP : va_P D vwCl [(k40, .inl (cI, 60, .inl c40)), (k41, .inl (cI, 60, .inl c41)), (k43, .inl (cI, 60, .inl c43)), (k45, .inl (cI, 60, .inl c45)), (k4, .inr (8, [.ref k40, .ref k41, .ref k42, .ref k43, .ref k44, .ref k45, .ref k46, .ref k47, .ref k48, .int c49])), (k46, .inl (cI, 40, .inl c46)), (k, .inr (9, [.ref k0, .ref k1, .ref k2, .ref k3, .ref k4, .ref k5, .int c6, .int c7, .int c8])), (k0, .inl (cI, 12, .inl c0))] H := hP
    replace hD : va_D A [(k40, .inl (cI, 60, .inl c40)), (k41, .inl (cI, 60, .inl c41)), (k43, .inl (cI, 60, .inl c43)), (k45, .inl (cI, 60, .inl c45)), (k4, .inr (8, [.ref k40, .ref k41, .ref k42, .ref k43, .ref k44, .ref k45, .ref k46, .ref k47, .ref k48, .int c49])), (k46, .inl (cI, 40, .inl c46)), (k, .inr (9, [.ref k0, .ref k1, .ref k2, .ref k3, .ref k4, .ref k5, .int c6, .int c7, .int c8])), (k0, .inl (cI, 12, .inl c0))] := hD
    have lo_r_5 := k_lo r_5
    have hi_r_5 := k_hi r_5
    refine lv_istore_n (lv' := [(3, .int r_5), (2, .int (-1)), (0, .ref k), (1, .int a0)]) hx hb dX9_leakOf_19 rfl hl (by decide) rfl ?_
    clear hl
    intro ls hl
    refine lv_iconst (v := 0) hx hb dX9_leakOf_20 (by decide) ?_
    refine lv_istore (lv' := [(4, .int 0), (3, .int r_5), (2, .int (-1)), (0, .ref k), (1, .int a0)]) hx hb dX9_leakOf_21 hl (by decide) rfl ?_
    clear hl
    intro ls hl
    have hloop_23 : ∀ (fu_ : Nat) (l23_2 : Int32) (l23_4 : Int32), 0 ≤ l23_4.toInt → (c49.toInt - l23_4.toInt).toNat < fu_ → ∀ (ls : Array Slot) (H : Heap) (locs : List Loc), lv_has ls 6 [(4, .int l23_4), (3, .int r_5), (2, .int l23_2), (0, .ref k), (1, .int a0)] → va_P D vwCl [(k40, .inl (cI, 60, .inl c40)), (k41, .inl (cI, 60, .inl c41)), (k43, .inl (cI, 60, .inl c43)), (k45, .inl (cI, 60, .inl c45)), (k4, .inr (8, [.ref k40, .ref k41, .ref k42, .ref k43, .ref k44, .ref k45, .ref k46, .ref k47, .ref k48, .int c49])), (k46, .inl (cI, 40, .inl c46)), (k, .inr (9, [.ref k0, .ref k1, .ref k2, .ref k3, .ref k4, .ref k5, .int c6, .int c7, .int c8])), (k0, .inl (cI, 12, .inl c0))] H → va_D A [(k40, .inl (cI, 60, .inl c40)), (k41, .inl (cI, 60, .inl c41)), (k43, .inl (cI, 60, .inl c43)), (k45, .inl (cI, 60, .inl c45)), (k4, .inr (8, [.ref k40, .ref k41, .ref k42, .ref k43, .ref k44, .ref k45, .ref k46, .ref k47, .ref k48, .int c49])), (k46, .inl (cI, 40, .inl c46)), (k, .inr (9, [.ref k0, .ref k1, .ref k2, .ref k3, .ref k4, .ref k5, .int c6, .int c7, .int c8])), (k0, .inl (cI, 12, .inl c0))] → va_S A s.heap H locs → W p l e ({ frames := 2, cells := 0, slots := 0, locals := 43 } : Room) s m args below meth c H locs 0 0 Q (F0 m 23 ls []) := by
      intro fu_; induction fu_ with
      | zero => intro l23_2 l23_4 i23_0 hm; exact absurd hm (by omega)
      | succ fu_ ih23 =>
          intro l23_2 l23_4 i23_0 hm ls H locs hl hP hD hS
          have lo_l23_2 := k_lo l23_2
          have hi_l23_2 := k_hi l23_2
          have lo_l23_4 := k_lo l23_4
          have hi_l23_4 := k_hi l23_4
          refine lv_iload hx hb dX9_leakOf_23 (lv_at hl 0 rfl) ?_
          refine lv_aload_n hx hb dX9_leakOf_25 rfl (lv_at hl 3 rfl) ?_
          refine va_get (D := D) (ci := 9) (v := .ref k4) (C := RX9) (T := TX9) (N := 9) hx hb hT giX9 hown hK hP 6 rfl rfl 4 (by decide) (hT (Cond.fieldLink RX9 27 "DesertWire$World" "works" "LDesertWire$Works;") mw_97) (fun _ h9 => h9) rfl dX9_leakOf_26 ?_
          refine va_get (D := D) (ci := 8) (v := .int c49) (C := RX8) (T := TX8) (N := 10) hx hb hT giX8 hown hK hP 4 rfl rfl 9 (by decide) (hT (Cond.fieldLink RX9 83 "DesertWire$Works" "number" "I") mw_50) (fun _ h9 => h9) rfl dX9_leakOf_29 ?_
          refine b_icmp_ge hx hb rfl rfl (tgt := 119) dX9_leakOf_32 (by decide) (fun c_8 => ?_) (fun c_8 => ?_)
          · refine lv_iload_n hx hb dX9_leakOf_119 rfl (lv_at hl 2 rfl) ?_
            exact hRet () [6, 7, 4, 0, 1, 2, 3, 5] trivial hP hD (by decide) rfl hS rfl dX9_leakOf_120
          · refine lv_aload_n hx hb dX9_leakOf_35 rfl (lv_at hl 3 rfl) ?_
            refine va_get (D := D) (ci := 9) (v := .ref k4) (C := RX9) (T := TX9) (N := 9) hx hb hT giX9 hown hK hP 6 rfl rfl 4 (by decide) (hT (Cond.fieldLink RX9 27 "DesertWire$World" "works" "LDesertWire$Works;") mw_97) (fun _ h9 => h9) rfl dX9_leakOf_36 ?_
            refine lv_iload hx hb dX9_leakOf_39 (lv_at hl 0 rfl) ?_
            refine lv_iload_n hx hb dX9_leakOf_41 rfl (lv_at hl 4 rfl) ?_
            refine kJi (wr := [(k43, .inl (cI, 60, .inl c43)), (k46, .inl (cI, 40, .inl c46)), (k, .inr (9, [.ref k0, .ref k1, .ref k2, .ref k3, .ref k4, .ref k5, .int c6, .int c7, .int c8])), (k0, .inl (cI, 12, .inl c0))]) (va_runV (As := [.int l23_4, .int a0]) (rest := []) ⟨hx, hb, hml, hown, hT⟩ (c_X8_standsAsPoleG l D cI aK aV k4 k40 k41 k42 k43 k44 k45 k46 k47 k48 H.size c49 c40 c41 c45 l23_4 a0) (cwV 2 hT (gV_in mw_640 mw_637 mw_638 mw_639 mw_3) rfl rfl rfl (by decide +kernel) ⟨Nat.le_of_ble_eq_true rfl, Nat.le_of_ble_eq_true rfl⟩) (kRecvX (q0 := 4) (ci := 8) hK hP hD hN hXS hS hA rfl rfl [4, 0, 1, 3] rfl (by decide)) rfl rfl hl.1 rfl (lv_room (Nat.le_of_ble_eq_true rfl)) dX9_leakOf_42 ⟨Nat.le_of_ble_eq_true rfl, Nat.le_of_ble_eq_true rfl⟩) hP hD hS hA [4, 0, 1, 3] [2, 5, 6, 7] rfl rfl (by decide) (by decide) ?_
            clear hP hD hS
            intro r_9 u_11 H locs w_10 hP hD hS
            replace hP : va_P D vwCl [(k43, .inl (cI, 60, .inl c43)), (k46, .inl (cI, 40, .inl c46)), (k, .inr (9, [.ref k0, .ref k1, .ref k2, .ref k3, .ref k4, .ref k5, .int c6, .int c7, .int c8])), (k0, .inl (cI, 12, .inl c0)), (k4, .inr (8, [.ref k40, .ref k41, .ref k42, .ref k43, .ref k44, .ref k45, .ref k46, .ref k47, .ref k48, .int c49])), (k40, .inl (cI, 60, .inl c40)), (k41, .inl (cI, 60, .inl c41)), (k45, .inl (cI, 60, .inl c45))] H := hP
            replace hD : va_D A [(k43, .inl (cI, 60, .inl c43)), (k46, .inl (cI, 40, .inl c46)), (k, .inr (9, [.ref k0, .ref k1, .ref k2, .ref k3, .ref k4, .ref k5, .int c6, .int c7, .int c8])), (k0, .inl (cI, 12, .inl c0)), (k4, .inr (8, [.ref k40, .ref k41, .ref k42, .ref k43, .ref k44, .ref k45, .ref k46, .ref k47, .ref k48, .int c49])), (k40, .inl (cI, 60, .inl c40)), (k41, .inl (cI, 60, .inl c41)), (k45, .inl (cI, 60, .inl c45))] := hD
            have lo_r_9 := k_lo r_9
            have hi_r_9 := k_hi r_9
            refine b_if_eq hx hb rfl (tgt := 113) dX9_leakOf_45 (by decide) (fun c_12 => ?_) (fun c_12 => ?_)
            · obtain ⟨v_13, ev_13⟩ : ∃ y : Int32, y = l23_4 + 1 := ⟨_, rfl⟩
              have tv_13 : v_13.toInt = l23_4.toInt + 1 := by rw [ev_13]; exact k_addv rfl zl_1 (by omega) (by omega)
              refine lv_iinc (v := v_13) (lv' := [(4, .int v_13), (3, .int r_5), (2, .int l23_2), (0, .ref k), (1, .int a0)]) hx hb dX9_leakOf_113 hl (k := 0) rfl (by rw [ev_13]; rfl) (by decide) rfl ?_
              clear hl
              intro ls hl
              refine lv_goto (tgt := 23) hx hb dX9_leakOf_116 (by decide) ?_
              exact ih23 l23_2 v_13 (by first | omega | decide | assumption | rfl) (by omega) ls _ _ (lv_sub hl [0, 1, 2, 3, 4] rfl) (hP.sub [5, 6, 0, 7, 4, 1, 2, 3] rfl) (hD.sub [5, 6, 0, 7, 4, 1, 2, 3] (by decide) rfl) hS
            · refine lv_bipush (v := 9) hx hb dX9_leakOf_48 (by decide) ?_
              refine lv_iconst (v := 1) hx hb dX9_leakOf_50 (by decide) ?_
              refine lv_iload_n hx hb dX9_leakOf_51 rfl (lv_at hl 1 rfl) ?_
              refine lv_iadd hx hb dX9_leakOf_52 ?_
              refine lv_topi (fun v_14 ev_14 => ?_)
              have lo_v_14 := k_lo v_14
              have hi_v_14 := k_hi v_14
              refine lv_aload_n hx hb dX9_leakOf_53 rfl (lv_at hl 3 rfl) ?_
              refine va_get (D := D) (ci := 9) (v := .int c8) (C := RX9) (T := TX9) (N := 9) hx hb hT giX9 hown hK hP 2 rfl rfl 8 (by decide) (hT (Cond.fieldLink RX9 45 "DesertWire$World" "day" "I") mw_108) (fun _ h9 => h9) rfl dX9_leakOf_54 ?_
              refine lv_aload_n hx hb dX9_leakOf_57 rfl (lv_at hl 3 rfl) ?_
              refine va_get (D := D) (ci := 9) (v := .ref k4) (C := RX9) (T := TX9) (N := 9) hx hb hT giX9 hown hK hP 2 rfl rfl 4 (by decide) (hT (Cond.fieldLink RX9 27 "DesertWire$World" "works" "LDesertWire$Works;") mw_97) (fun _ h9 => h9) rfl dX9_leakOf_58 ?_
              refine lv_iload hx hb dX9_leakOf_61 (lv_at hl 0 rfl) ?_
              refine kJi (wr := [(k46, .inl (cI, 40, .inl c46)), (k, .inr (9, [.ref k0, .ref k1, .ref k2, .ref k3, .ref k4, .ref k5, .int c6, .int c7, .int c8])), (k0, .inl (cI, 12, .inl c0)), (k40, .inl (cI, 60, .inl c40)), (k41, .inl (cI, 60, .inl c41)), (k45, .inl (cI, 60, .inl c45))]) (va_runV (As := [.int l23_4]) (rest := [.int c8, .int v_14, .int 9]) ⟨hx, hb, hml, hown, hT⟩ (c_X8_sinceOfG l D cI aK aV k4 k40 k41 k42 k43 k44 k45 k46 k47 k48 H.size c49 c43 l23_4) (cwV 1 hT (gV_in mw_403 mw_414 mw_401 mw_402 mw_3) rfl rfl rfl (by decide +kernel) ⟨Nat.le_of_ble_eq_true rfl, Nat.le_of_ble_eq_true rfl⟩) (kRecvX (q0 := 4) (ci := 8) hK hP hD hN hXS hS hA rfl rfl [4, 0] rfl (by decide)) rfl rfl hl.1 rfl (lv_room (Nat.le_of_ble_eq_true rfl)) dX9_leakOf_63 ⟨Nat.le_of_ble_eq_true rfl, Nat.le_of_ble_eq_true rfl⟩) hP hD hS hA [4, 0] [1, 2, 3, 5, 6, 7] rfl rfl (by decide) (by decide) ?_
              clear hP hD hS
              intro r_15 u_17 H locs w_16 hP hD hS
              replace hP : va_P D vwCl [(k46, .inl (cI, 40, .inl c46)), (k, .inr (9, [.ref k0, .ref k1, .ref k2, .ref k3, .ref k4, .ref k5, .int c6, .int c7, .int c8])), (k0, .inl (cI, 12, .inl c0)), (k40, .inl (cI, 60, .inl c40)), (k41, .inl (cI, 60, .inl c41)), (k45, .inl (cI, 60, .inl c45)), (k4, .inr (8, [.ref k40, .ref k41, .ref k42, .ref k43, .ref k44, .ref k45, .ref k46, .ref k47, .ref k48, .int c49])), (k43, .inl (cI, 60, .inl c43))] H := hP
              replace hD : va_D A [(k46, .inl (cI, 40, .inl c46)), (k, .inr (9, [.ref k0, .ref k1, .ref k2, .ref k3, .ref k4, .ref k5, .int c6, .int c7, .int c8])), (k0, .inl (cI, 12, .inl c0)), (k40, .inl (cI, 60, .inl c40)), (k41, .inl (cI, 60, .inl c41)), (k45, .inl (cI, 60, .inl c45)), (k4, .inr (8, [.ref k40, .ref k41, .ref k42, .ref k43, .ref k44, .ref k45, .ref k46, .ref k47, .ref k48, .int c49])), (k43, .inl (cI, 60, .inl c43))] := hD
              have lo_r_15 := k_lo r_15
              have hi_r_15 := k_hi r_15
              refine lv_isub hx hb dX9_leakOf_66 ?_
              refine lv_topi (fun v_18 ev_18 => ?_)
              have lo_v_18 := k_lo v_18
              have hi_v_18 := k_hi v_18
              refine lv_bipush (v := 30) hx hb dX9_leakOf_67 (by decide) ?_
              refine lv_idiv hx hb dX9_leakOf_69 (by decide) ?_
              refine lv_topi (fun v_19 ev_19 => ?_)
              have lo_v_19 := k_lo v_19
              have hi_v_19 := k_hi v_19
              refine lv_iadd hx hb dX9_leakOf_70 ?_
              refine lv_topi (fun v_20 ev_20 => ?_)
              have lo_v_20 := k_lo v_20
              have hi_v_20 := k_hi v_20
              refine va_mmin hx hb (hml.trans hl.1.symm) hown (hT _ mw_641) (hT _ mw_538) (hT _ mw_13) (hT _ mw_539) (Nat.le_of_ble_eq_true rfl) (Nat.le_of_ble_eq_true rfl) (Nat.le_of_ble_eq_true rfl) (Nat.le_of_ble_eq_true rfl) dX9_leakOf_71 ?_
              refine lv_topi (fun v_21 ev_21 => ?_)
              have lo_v_21 := k_lo v_21
              have hi_v_21 := k_hi v_21
              have tv_21 : v_21.toInt = k_min 9 v_20.toInt := by rw [ev_21]; exact k_mmin zl_9 rfl
              have sv_21 := k_min_spec (9) (v_20.toInt)
              refine lv_istore (lv' := [(5, .int v_21), (4, .int l23_4), (3, .int r_5), (2, .int l23_2), (0, .ref k), (1, .int a0)]) hx hb dX9_leakOf_74 hl (by decide) rfl ?_
              clear hl
              intro ls hl
              refine lv_aload_n hx hb dX9_leakOf_76 rfl (lv_at hl 4 rfl) ?_
              refine va_get (D := D) (ci := 9) (v := .ref k4) (C := RX9) (T := TX9) (N := 9) hx hb hT giX9 hown hK hP 1 rfl rfl 4 (by decide) (hT (Cond.fieldLink RX9 27 "DesertWire$World" "works" "LDesertWire$Works;") mw_97) (fun _ h9 => h9) rfl dX9_leakOf_77 ?_
              refine lv_iload hx hb dX9_leakOf_80 (lv_at hl 1 rfl) ?_
              refine kJi (wr := [(k46, .inl (cI, 40, .inl c46)), (k, .inr (9, [.ref k0, .ref k1, .ref k2, .ref k3, .ref k4, .ref k5, .int c6, .int c7, .int c8])), (k0, .inl (cI, 12, .inl c0)), (k41, .inl (cI, 60, .inl c41)), (k45, .inl (cI, 60, .inl c45)), (k43, .inl (cI, 60, .inl c43))]) (va_runV (As := [.int l23_4]) (rest := []) ⟨hx, hb, hml, hown, hT⟩ (c_X8_kindOfG l D cI aK aV k4 k40 k41 k42 k43 k44 k45 k46 k47 k48 H.size c49 c40 l23_4) (cwV 1 hT (gV_in mw_384 mw_412 mw_382 mw_383 mw_3) rfl rfl rfl (by decide +kernel) ⟨Nat.le_of_ble_eq_true rfl, Nat.le_of_ble_eq_true rfl⟩) (kRecvX (q0 := 6) (ci := 8) hK hP hD hN hXS hS hA rfl rfl [6, 3] rfl (by decide)) rfl rfl hl.1 rfl (lv_room (Nat.le_of_ble_eq_true rfl)) dX9_leakOf_82 ⟨Nat.le_of_ble_eq_true rfl, Nat.le_of_ble_eq_true rfl⟩) hP hD hS hA [6, 3] [0, 1, 2, 4, 5, 7] rfl rfl (by decide) (by decide) ?_
              clear hP hD hS
              intro r_22 u_24 H locs w_23 hP hD hS
              replace hP : va_P D vwCl [(k46, .inl (cI, 40, .inl c46)), (k, .inr (9, [.ref k0, .ref k1, .ref k2, .ref k3, .ref k4, .ref k5, .int c6, .int c7, .int c8])), (k0, .inl (cI, 12, .inl c0)), (k41, .inl (cI, 60, .inl c41)), (k45, .inl (cI, 60, .inl c45)), (k43, .inl (cI, 60, .inl c43)), (k4, .inr (8, [.ref k40, .ref k41, .ref k42, .ref k43, .ref k44, .ref k45, .ref k46, .ref k47, .ref k48, .int c49])), (k40, .inl (cI, 60, .inl c40))] H := hP
              replace hD : va_D A [(k46, .inl (cI, 40, .inl c46)), (k, .inr (9, [.ref k0, .ref k1, .ref k2, .ref k3, .ref k4, .ref k5, .int c6, .int c7, .int c8])), (k0, .inl (cI, 12, .inl c0)), (k41, .inl (cI, 60, .inl c41)), (k45, .inl (cI, 60, .inl c45)), (k43, .inl (cI, 60, .inl c43)), (k4, .inr (8, [.ref k40, .ref k41, .ref k42, .ref k43, .ref k44, .ref k45, .ref k46, .ref k47, .ref k48, .int c49])), (k40, .inl (cI, 60, .inl c40))] := hD
              have lo_r_22 := k_lo r_22
              have hi_r_22 := k_hi r_22
              refine kJi (wr := [(k46, .inl (cI, 40, .inl c46)), (k, .inr (9, [.ref k0, .ref k1, .ref k2, .ref k3, .ref k4, .ref k5, .int c6, .int c7, .int c8])), (k0, .inl (cI, 12, .inl c0)), (k41, .inl (cI, 60, .inl c41)), (k45, .inl (cI, 60, .inl c45)), (k43, .inl (cI, 60, .inl c43)), (k4, .inr (8, [.ref k40, .ref k41, .ref k42, .ref k43, .ref k44, .ref k45, .ref k46, .ref k47, .ref k48, .int c49])), (k40, .inl (cI, 60, .inl c40))]) (va_runSN (As := [.int r_22]) (rest := []) ⟨hx, hb, hml, hown, hT⟩ (c_X10_isIronG l D cI aK aV H.size r_22) ⟨va_cnB 1 hT (gW_in mw_644) rfl rfl rfl (hN _ mw_642) (hT _ mw_1) (by decide +kernel) ⟨Nat.le_of_ble_eq_true rfl, Nat.le_of_ble_eq_true rfl⟩, hT _ mw_643, trivial⟩ (kStatX hK hP hD hN hXS hS hA [] rfl (by decide)) rfl rfl hl.1 rfl (lv_room (Nat.le_of_ble_eq_true rfl)) dX9_leakOf_85 ⟨Nat.le_of_ble_eq_true rfl, Nat.le_of_ble_eq_true rfl⟩) hP hD hS hA [] [0, 1, 2, 3, 4, 5, 6, 7] rfl rfl (by decide) (by decide) ?_
              clear hP hD hS
              intro r_25 u_27 H locs w_26 hP hD hS
              replace hP : va_P D vwCl [(k46, .inl (cI, 40, .inl c46)), (k, .inr (9, [.ref k0, .ref k1, .ref k2, .ref k3, .ref k4, .ref k5, .int c6, .int c7, .int c8])), (k0, .inl (cI, 12, .inl c0)), (k41, .inl (cI, 60, .inl c41)), (k45, .inl (cI, 60, .inl c45)), (k43, .inl (cI, 60, .inl c43)), (k4, .inr (8, [.ref k40, .ref k41, .ref k42, .ref k43, .ref k44, .ref k45, .ref k46, .ref k47, .ref k48, .int c49])), (k40, .inl (cI, 60, .inl c40))] H := hP
              replace hD : va_D A [(k46, .inl (cI, 40, .inl c46)), (k, .inr (9, [.ref k0, .ref k1, .ref k2, .ref k3, .ref k4, .ref k5, .int c6, .int c7, .int c8])), (k0, .inl (cI, 12, .inl c0)), (k41, .inl (cI, 60, .inl c41)), (k45, .inl (cI, 60, .inl c45)), (k43, .inl (cI, 60, .inl c43)), (k4, .inr (8, [.ref k40, .ref k41, .ref k42, .ref k43, .ref k44, .ref k45, .ref k46, .ref k47, .ref k48, .int c49])), (k40, .inl (cI, 60, .inl c40))] := hD
              have lo_r_25 := k_lo r_25
              have hi_r_25 := k_hi r_25
              refine b_if_eq hx hb rfl (tgt := 97) dX9_leakOf_88 (by decide) (fun c_28 => ?_) (fun c_28 => ?_)
              · refine lv_iload_n hx hb dX9_leakOf_97 rfl (lv_at hl 3 rfl) ?_
                refine b_if_ge hx hb rfl (tgt := 106) dX9_leakOf_98 (by decide) (fun c_29 => ?_) (fun c_29 => ?_)
                · refine lv_iload_n hx hb dX9_leakOf_106 rfl (lv_at hl 3 rfl) ?_
                  refine lv_iload hx hb dX9_leakOf_107 (lv_at hl 0 rfl) ?_
                  refine va_mmin hx hb (hml.trans hl.1.symm) hown (hT _ mw_641) (hT _ mw_538) (hT _ mw_13) (hT _ mw_539) (Nat.le_of_ble_eq_true rfl) (Nat.le_of_ble_eq_true rfl) (Nat.le_of_ble_eq_true rfl) (Nat.le_of_ble_eq_true rfl) dX9_leakOf_109 ?_
                  refine lv_topi (fun v_30 ev_30 => ?_)
                  have lo_v_30 := k_lo v_30
                  have hi_v_30 := k_hi v_30
                  have tv_30 : v_30.toInt = k_min l23_2.toInt v_21.toInt := by rw [ev_30]; exact k_mmin rfl rfl
                  try rw [tv_21] at tv_30
                  have sv_30 := k_min_spec (l23_2.toInt) (v_21.toInt)
                  try rw [tv_21] at sv_30
                  refine lv_istore_n (lv' := [(2, .int v_30), (5, .int v_21), (4, .int l23_4), (3, .int r_5), (0, .ref k), (1, .int a0)]) hx hb dX9_leakOf_112 rfl hl (by decide) rfl ?_
                  clear hl
                  intro ls hl
                  obtain ⟨v_31, ev_31⟩ : ∃ y : Int32, y = l23_4 + 1 := ⟨_, rfl⟩
                  have tv_31 : v_31.toInt = l23_4.toInt + 1 := by rw [ev_31]; exact k_addv rfl zl_1 (by omega) (by omega)
                  refine lv_iinc (v := v_31) (lv' := [(4, .int v_31), (2, .int v_30), (5, .int v_21), (3, .int r_5), (0, .ref k), (1, .int a0)]) hx hb dX9_leakOf_113 hl (k := 2) rfl (by rw [ev_31]; rfl) (by decide) rfl ?_
                  clear hl
                  intro ls hl
                  refine lv_goto (tgt := 23) hx hb dX9_leakOf_116 (by decide) ?_
                  exact ih23 v_30 v_31 (by first | omega | decide | assumption | rfl) (by omega) ls _ _ (lv_sub hl [0, 3, 1, 4, 5] rfl) (hP.sub [7, 3, 5, 4, 6, 0, 1, 2] rfl) (hD.sub [7, 3, 5, 4, 6, 0, 1, 2] (by decide) rfl) hS
                · refine lv_iload hx hb dX9_leakOf_101 (lv_at hl 0 rfl) ?_
                  refine lv_goto (tgt := 112) hx hb dX9_leakOf_103 (by decide) ?_
                  refine lv_istore_n (lv' := [(2, .int v_21), (5, .int v_21), (4, .int l23_4), (3, .int r_5), (0, .ref k), (1, .int a0)]) hx hb dX9_leakOf_112 rfl hl (by decide) rfl ?_
                  clear hl
                  intro ls hl
                  obtain ⟨v_32, ev_32⟩ : ∃ y : Int32, y = l23_4 + 1 := ⟨_, rfl⟩
                  have tv_32 : v_32.toInt = l23_4.toInt + 1 := by rw [ev_32]; exact k_addv rfl zl_1 (by omega) (by omega)
                  refine lv_iinc (v := v_32) (lv' := [(4, .int v_32), (2, .int v_21), (5, .int v_21), (3, .int r_5), (0, .ref k), (1, .int a0)]) hx hb dX9_leakOf_113 hl (k := 2) rfl (by rw [ev_32]; rfl) (by decide) rfl ?_
                  clear hl
                  intro ls hl
                  refine lv_goto (tgt := 23) hx hb dX9_leakOf_116 (by decide) ?_
                  exact ih23 v_21 v_32 (by first | omega | decide | assumption | rfl) (by omega) ls _ _ (lv_sub hl [0, 3, 1, 4, 5] rfl) (hP.sub [7, 3, 5, 4, 6, 0, 1, 2] rfl) (hD.sub [7, 3, 5, 4, 6, 0, 1, 2] (by decide) rfl) hS
              · refine lv_iload hx hb dX9_leakOf_91 (lv_at hl 0 rfl) ?_
                refine lv_iconst (v := 2) hx hb dX9_leakOf_93 (by decide) ?_
                refine lv_idiv hx hb dX9_leakOf_94 (by decide) ?_
                refine lv_topi (fun v_33 ev_33 => ?_)
                have lo_v_33 := k_lo v_33
                have hi_v_33 := k_hi v_33
                refine lv_istore (lv' := [(5, .int v_33), (4, .int l23_4), (3, .int r_5), (2, .int l23_2), (0, .ref k), (1, .int a0)]) hx hb dX9_leakOf_95 hl (by decide) rfl ?_
                clear hl
                intro ls hl
                refine lv_iload_n hx hb dX9_leakOf_97 rfl (lv_at hl 3 rfl) ?_
                refine b_if_ge hx hb rfl (tgt := 106) dX9_leakOf_98 (by decide) (fun c_34 => ?_) (fun c_34 => ?_)
                · refine lv_iload_n hx hb dX9_leakOf_106 rfl (lv_at hl 3 rfl) ?_
                  refine lv_iload hx hb dX9_leakOf_107 (lv_at hl 0 rfl) ?_
                  refine va_mmin hx hb (hml.trans hl.1.symm) hown (hT _ mw_641) (hT _ mw_538) (hT _ mw_13) (hT _ mw_539) (Nat.le_of_ble_eq_true rfl) (Nat.le_of_ble_eq_true rfl) (Nat.le_of_ble_eq_true rfl) (Nat.le_of_ble_eq_true rfl) dX9_leakOf_109 ?_
                  refine lv_topi (fun v_35 ev_35 => ?_)
                  have lo_v_35 := k_lo v_35
                  have hi_v_35 := k_hi v_35
                  have tv_35 : v_35.toInt = k_min l23_2.toInt v_33.toInt := by rw [ev_35]; exact k_mmin rfl rfl
                  have sv_35 := k_min_spec (l23_2.toInt) (v_33.toInt)
                  refine lv_istore_n (lv' := [(2, .int v_35), (5, .int v_33), (4, .int l23_4), (3, .int r_5), (0, .ref k), (1, .int a0)]) hx hb dX9_leakOf_112 rfl hl (by decide) rfl ?_
                  clear hl
                  intro ls hl
                  obtain ⟨v_36, ev_36⟩ : ∃ y : Int32, y = l23_4 + 1 := ⟨_, rfl⟩
                  have tv_36 : v_36.toInt = l23_4.toInt + 1 := by rw [ev_36]; exact k_addv rfl zl_1 (by omega) (by omega)
                  refine lv_iinc (v := v_36) (lv' := [(4, .int v_36), (2, .int v_35), (5, .int v_33), (3, .int r_5), (0, .ref k), (1, .int a0)]) hx hb dX9_leakOf_113 hl (k := 2) rfl (by rw [ev_36]; rfl) (by decide) rfl ?_
                  clear hl
                  intro ls hl
                  refine lv_goto (tgt := 23) hx hb dX9_leakOf_116 (by decide) ?_
                  exact ih23 v_35 v_36 (by first | omega | decide | assumption | rfl) (by omega) ls _ _ (lv_sub hl [0, 3, 1, 4, 5] rfl) (hP.sub [7, 3, 5, 4, 6, 0, 1, 2] rfl) (hD.sub [7, 3, 5, 4, 6, 0, 1, 2] (by decide) rfl) hS
                · refine lv_iload hx hb dX9_leakOf_101 (lv_at hl 0 rfl) ?_
                  refine lv_goto (tgt := 112) hx hb dX9_leakOf_103 (by decide) ?_
                  refine lv_istore_n (lv' := [(2, .int v_33), (5, .int v_33), (4, .int l23_4), (3, .int r_5), (0, .ref k), (1, .int a0)]) hx hb dX9_leakOf_112 rfl hl (by decide) rfl ?_
                  clear hl
                  intro ls hl
                  obtain ⟨v_37, ev_37⟩ : ∃ y : Int32, y = l23_4 + 1 := ⟨_, rfl⟩
                  have tv_37 : v_37.toInt = l23_4.toInt + 1 := by rw [ev_37]; exact k_addv rfl zl_1 (by omega) (by omega)
                  refine lv_iinc (v := v_37) (lv' := [(4, .int v_37), (2, .int v_33), (5, .int v_33), (3, .int r_5), (0, .ref k), (1, .int a0)]) hx hb dX9_leakOf_113 hl (k := 2) rfl (by rw [ev_37]; rfl) (by decide) rfl ?_
                  clear hl
                  intro ls hl
                  refine lv_goto (tgt := 23) hx hb dX9_leakOf_116 (by decide) ?_
                  exact ih23 v_33 v_37 (by first | omega | decide | assumption | rfl) (by omega) ls _ _ (lv_sub hl [0, 3, 1, 4, 5] rfl) (hP.sub [7, 3, 5, 4, 6, 0, 1, 2] rfl) (hD.sub [7, 3, 5, 4, 6, 0, 1, 2] (by decide) rfl) hS
    exact hloop_23 _ (-1) 0 (by first | omega | (simp only [zl_m1, zl_0]; first | done | omega) | decide | assumption | rfl) (Nat.lt_succ_self _) ls _ _ (lv_sub hl [0, 1, 2, 3, 4] rfl) hP hD hS
  · refine lv_iload_n hx hb dX9_leakOf_13 rfl (lv_at hl 0 rfl) ?_
    exact hRet () [0, 1, 6, 2, 3, 4, 5, 7] trivial hP hD (by decide) rfl hS rfl dX9_leakOf_14
theorem dX9_lifeOf_0 : decode cX9_lifeOf 0 = .ok (.aload_n 0, 1) := by decide +kernel
theorem dX9_lifeOf_1 : decode cX9_lifeOf 1 = .ok (.aload_n 0, 1) := by decide +kernel
theorem dX9_lifeOf_2 : decode cX9_lifeOf 2 = .ok (.getfield 27, 3) := by decide +kernel
theorem dX9_lifeOf_5 : decode cX9_lifeOf 5 = .ok (.iload_n 1, 1) := by decide +kernel
theorem dX9_lifeOf_6 : decode cX9_lifeOf 6 = .ok (.invokevirtual 104, 3) := by decide +kernel
theorem dX9_lifeOf_9 : decode cX9_lifeOf 9 = .ok (.invokevirtual 69, 3) := by decide +kernel
theorem dX9_lifeOf_12 : decode cX9_lifeOf 12 = .ok (.ifCond .ne 8, 3) := by decide +kernel
theorem dX9_lifeOf_15 : decode cX9_lifeOf 15 = .ok (.bipush 60, 2) := by decide +kernel
theorem dX9_lifeOf_17 : decode cX9_lifeOf 17 = .ok (.goto 5, 3) := by decide +kernel
theorem dX9_lifeOf_20 : decode cX9_lifeOf 20 = .ok (.bipush 120, 2) := by decide +kernel
theorem dX9_lifeOf_22 : decode cX9_lifeOf 22 = .ok (.ireturn, 1) := by decide +kernel
set_option maxHeartbeats 4000000 in
set_option maxRecDepth 100000 in
theorem c_X9_lifeOfG (l : Launch) (D : va_G) (cI : ClassId) (aK aV : Nat → Nat) (k k0 k1 k2 k3 k4 k5 k40 k41 k42 k43 k44 k45 k46 k47 k48 : Nat) (sz : Nat) (c6 : Int32) (c7 : Int32) (c8 : Int32) (c1 : Nat → Int32) (c49 : Int32) (c41 : Nat → Int32) (a0 : Int32) : Met l yX9_lifeOf (gW yX9_lifeOf cX9_lifeOf 2 (some .int)) ({ frames := 2, cells := 0, slots := 0, locals := 42 } : Room) (kPreX D cI aK aV [.ref k, .int a0] [(k, .inr (9, [.ref k0, .ref k1, .ref k2, .ref k3, .ref k4, .ref k5, .int c6, .int c7, .int c8])), (k1, .inl (cI, 40, .inl c1)), (k4, .inr (8, [.ref k40, .ref k41, .ref k42, .ref k43, .ref k44, .ref k45, .ref k46, .ref k47, .ref k48, .int c49])), (k41, .inl (cI, 60, .inl c41))] sz) (va_Qi (fun (r : Int32) (u : Unit) => True) (fun u t => kWd D cI (va_A [(k, .inr (9, [.ref k0, .ref k1, .ref k2, .ref k3, .ref k4, .ref k5, .int c6, .int c7, .int c8])), (k1, .inl (cI, 40, .inl c1)), (k4, .inr (8, [.ref k40, .ref k41, .ref k42, .ref k43, .ref k44, .ref k45, .ref k46, .ref k47, .ref k48, .int c49])), (k41, .inl (cI, 60, .inl c41))] sz) [(k, .inr (9, [.ref k0, .ref k1, .ref k2, .ref k3, .ref k4, .ref k5, .int c6, .int c7, .int c8])), (k1, .inl (cI, 40, .inl c1)), (k4, .inr (8, [.ref k40, .ref k41, .ref k42, .ref k43, .ref k44, .ref k45, .ref k46, .ref k47, .ref k48, .int c49])), (k41, .inl (cI, 60, .inl c41))] t) (va_A [(k, .inr (9, [.ref k0, .ref k1, .ref k2, .ref k3, .ref k4, .ref k5, .int c6, .int c7, .int c8])), (k1, .inl (cI, 40, .inl c1)), (k4, .inr (8, [.ref k40, .ref k41, .ref k42, .ref k43, .ref k44, .ref k45, .ref k46, .ref k47, .ref k48, .int c49])), (k41, .inl (cI, 60, .inl c41))] sz)) 0 0 (va_A [(k, .inr (9, [.ref k0, .ref k1, .ref k2, .ref k3, .ref k4, .ref k5, .int c6, .int c7, .int c8])), (k1, .inl (cI, 40, .inl c1)), (k4, .inr (8, [.ref k40, .ref k41, .ref k42, .ref k43, .ref k44, .ref k45, .ref k46, .ref k47, .ref k48, .int c49])), (k41, .inl (cI, 60, .inl c41))] sz) := by
  refine kMetIX (own := RX9) (by decide) rfl (Nat.le_of_ble_eq_true rfl) ?_
  intro p e s m args below meth c hx hb hT hown hname hml A Q hK hP hD hS hA hN hXS hRet ls hl
  have hl : lv_has ls 2 [(0, .ref k), (1, .int a0)] := hl
  have lo_a0 := k_lo a0
  have hi_a0 := k_hi a0
  refine lv_aload_n hx hb dX9_lifeOf_0 rfl (lv_at hl 0 rfl) ?_
  refine lv_aload_n hx hb dX9_lifeOf_1 rfl (lv_at hl 0 rfl) ?_
  refine va_get (D := D) (ci := 9) (v := .ref k4) (C := RX9) (T := TX9) (N := 9) hx hb hT giX9 hown hK hP 0 rfl rfl 4 (by decide) (hT (Cond.fieldLink RX9 27 "DesertWire$World" "works" "LDesertWire$Works;") mw_97) (fun _ h9 => h9) rfl dX9_lifeOf_2 ?_
  refine lv_iload_n hx hb dX9_lifeOf_5 rfl (lv_at hl 1 rfl) ?_
  refine kJi (wr := [(k, .inr (9, [.ref k0, .ref k1, .ref k2, .ref k3, .ref k4, .ref k5, .int c6, .int c7, .int c8])), (k1, .inl (cI, 40, .inl c1))]) (va_runV (As := [.int a0]) (rest := [.ref k]) ⟨hx, hb, hml, hown, hT⟩ (c_X8_mileOfG l D cI aK aV k4 k40 k41 k42 k43 k44 k45 k46 k47 k48 s.heap.size c49 c41 a0) (cwV 1 hT (gV_in mw_367 mw_419 mw_365 mw_366 mw_3) rfl rfl rfl (by decide +kernel) ⟨Nat.le_of_ble_eq_true rfl, Nat.le_of_ble_eq_true rfl⟩) (kRecvX (q0 := 2) (ci := 8) hK hP hD hN hXS hS hA rfl rfl [2, 3] rfl (by decide)) rfl rfl hl.1 rfl (lv_room (Nat.le_of_ble_eq_true rfl)) dX9_lifeOf_6 ⟨Nat.le_of_ble_eq_true rfl, Nat.le_of_ble_eq_true rfl⟩) hP hD hS hA [2, 3] [0, 1] rfl rfl (by decide) (by decide) ?_
  clear hP hD hS
  intro r_1 u_3 H locs w_2 hP hD hS
  replace hP : va_P D vwCl [(k, .inr (9, [.ref k0, .ref k1, .ref k2, .ref k3, .ref k4, .ref k5, .int c6, .int c7, .int c8])), (k1, .inl (cI, 40, .inl c1)), (k4, .inr (8, [.ref k40, .ref k41, .ref k42, .ref k43, .ref k44, .ref k45, .ref k46, .ref k47, .ref k48, .int c49])), (k41, .inl (cI, 60, .inl c41))] H := hP
  replace hD : va_D A [(k, .inr (9, [.ref k0, .ref k1, .ref k2, .ref k3, .ref k4, .ref k5, .int c6, .int c7, .int c8])), (k1, .inl (cI, 40, .inl c1)), (k4, .inr (8, [.ref k40, .ref k41, .ref k42, .ref k43, .ref k44, .ref k45, .ref k46, .ref k47, .ref k48, .int c49])), (k41, .inl (cI, 60, .inl c41))] := hD
  have lo_r_1 := k_lo r_1
  have hi_r_1 := k_hi r_1
  refine kJi (wr := [(k4, .inr (8, [.ref k40, .ref k41, .ref k42, .ref k43, .ref k44, .ref k45, .ref k46, .ref k47, .ref k48, .int c49])), (k41, .inl (cI, 60, .inl c41))]) (va_runV (As := [.int r_1]) (rest := []) ⟨hx, hb, hml, hown, hT⟩ (c_X9_soilOfG l D cI aK aV k k0 k1 k2 k3 k4 k5 H.size c6 c7 c8 c1 r_1) (cwV 1 hT (gV_in mw_423 mw_420 mw_421 mw_422 mw_2) rfl rfl rfl (by decide +kernel) ⟨Nat.le_of_ble_eq_true rfl, Nat.le_of_ble_eq_true rfl⟩) (kRecvX (q0 := 0) (ci := 9) hK hP hD hN hXS hS hA rfl rfl [0, 1] rfl (by decide)) rfl rfl hl.1 rfl (lv_room (Nat.le_of_ble_eq_true rfl)) dX9_lifeOf_9 ⟨Nat.le_of_ble_eq_true rfl, Nat.le_of_ble_eq_true rfl⟩) hP hD hS hA [0, 1] [2, 3] rfl rfl (by decide) (by decide) ?_
  clear hP hD hS
  intro r_4 u_6 H locs w_5 hP hD hS
  replace hP : va_P D vwCl [(k4, .inr (8, [.ref k40, .ref k41, .ref k42, .ref k43, .ref k44, .ref k45, .ref k46, .ref k47, .ref k48, .int c49])), (k41, .inl (cI, 60, .inl c41)), (k, .inr (9, [.ref k0, .ref k1, .ref k2, .ref k3, .ref k4, .ref k5, .int c6, .int c7, .int c8])), (k1, .inl (cI, 40, .inl c1))] H := hP
  replace hD : va_D A [(k4, .inr (8, [.ref k40, .ref k41, .ref k42, .ref k43, .ref k44, .ref k45, .ref k46, .ref k47, .ref k48, .int c49])), (k41, .inl (cI, 60, .inl c41)), (k, .inr (9, [.ref k0, .ref k1, .ref k2, .ref k3, .ref k4, .ref k5, .int c6, .int c7, .int c8])), (k1, .inl (cI, 40, .inl c1))] := hD
  have lo_r_4 := k_lo r_4
  have hi_r_4 := k_hi r_4
  refine b_if_ne hx hb rfl (tgt := 20) dX9_lifeOf_12 (by decide) (fun c_7 => ?_) (fun c_7 => ?_)
  · refine lv_bipush (v := 120) hx hb dX9_lifeOf_20 (by decide) ?_
    exact hRet () [2, 3, 0, 1] trivial hP hD (by decide) rfl hS rfl dX9_lifeOf_22
  · refine lv_bipush (v := 60) hx hb dX9_lifeOf_15 (by decide) ?_
    refine lv_goto (tgt := 22) hx hb dX9_lifeOf_17 (by decide) ?_
    exact hRet () [2, 3, 0, 1] trivial hP hD (by decide) rfl hS rfl dX9_lifeOf_22
theorem dX9_eatenOn_0 : decode cX9_eatenOn 0 = .ok (.aload_n 0, 1) := by decide +kernel
theorem dX9_eatenOn_1 : decode cX9_eatenOn 1 = .ok (.getfield 27, 3) := by decide +kernel
theorem dX9_eatenOn_4 : decode cX9_eatenOn 4 = .ok (.iload_n 1, 1) := by decide +kernel
theorem dX9_eatenOn_5 : decode cX9_eatenOn 5 = .ok (.invokevirtual 98, 3) := by decide +kernel
theorem dX9_eatenOn_8 : decode cX9_eatenOn 8 = .ok (.iconst 1, 1) := by decide +kernel
theorem dX9_eatenOn_9 : decode cX9_eatenOn 9 = .ok (.if_icmp .ne 14, 3) := by decide +kernel
theorem dX9_eatenOn_12 : decode cX9_eatenOn 12 = .ok (.aload_n 0, 1) := by decide +kernel
theorem dX9_eatenOn_13 : decode cX9_eatenOn 13 = .ok (.getfield 27, 3) := by decide +kernel
theorem dX9_eatenOn_16 : decode cX9_eatenOn 16 = .ok (.iload_n 1, 1) := by decide +kernel
theorem dX9_eatenOn_17 : decode cX9_eatenOn 17 = .ok (.invokevirtual 107, 3) := by decide +kernel
theorem dX9_eatenOn_20 : decode cX9_eatenOn 20 = .ok (.ifCond .eq 5, 3) := by decide +kernel
theorem dX9_eatenOn_23 : decode cX9_eatenOn 23 = .ok (.iconst (-1), 1) := by decide +kernel
theorem dX9_eatenOn_24 : decode cX9_eatenOn 24 = .ok (.ireturn, 1) := by decide +kernel
theorem dX9_eatenOn_25 : decode cX9_eatenOn 25 = .ok (.aload_n 0, 1) := by decide +kernel
theorem dX9_eatenOn_26 : decode cX9_eatenOn 26 = .ok (.getfield 45, 3) := by decide +kernel
theorem dX9_eatenOn_29 : decode cX9_eatenOn 29 = .ok (.iconst 1, 1) := by decide +kernel
theorem dX9_eatenOn_30 : decode cX9_eatenOn 30 = .ok (.iadd, 1) := by decide +kernel
theorem dX9_eatenOn_31 : decode cX9_eatenOn 31 = .ok (.aload_n 0, 1) := by decide +kernel
theorem dX9_eatenOn_32 : decode cX9_eatenOn 32 = .ok (.getfield 27, 3) := by decide +kernel
theorem dX9_eatenOn_35 : decode cX9_eatenOn 35 = .ok (.iload_n 1, 1) := by decide +kernel
theorem dX9_eatenOn_36 : decode cX9_eatenOn 36 = .ok (.invokevirtual 90, 3) := by decide +kernel
theorem dX9_eatenOn_39 : decode cX9_eatenOn 39 = .ok (.aload_n 0, 1) := by decide +kernel
theorem dX9_eatenOn_40 : decode cX9_eatenOn 40 = .ok (.iload_n 1, 1) := by decide +kernel
theorem dX9_eatenOn_41 : decode cX9_eatenOn 41 = .ok (.invokevirtual 110, 3) := by decide +kernel
theorem dX9_eatenOn_44 : decode cX9_eatenOn 44 = .ok (.iadd, 1) := by decide +kernel
theorem dX9_eatenOn_45 : decode cX9_eatenOn 45 = .ok (.invokestatic 113, 3) := by decide +kernel
theorem dX9_eatenOn_48 : decode cX9_eatenOn 48 = .ok (.ireturn, 1) := by decide +kernel
set_option maxHeartbeats 4000000 in
set_option maxRecDepth 100000 in
theorem c_X9_eatenOnG (l : Launch) (D : va_G) (cI : ClassId) (aK aV : Nat → Nat) (k k0 k1 k2 k3 k4 k5 k40 k41 k42 k43 k44 k45 k46 k47 k48 : Nat) (sz : Nat) (c6 : Int32) (c7 : Int32) (c8 : Int32) (c1 : Nat → Int32) (c49 : Int32) (c40 : Nat → Int32) (c41 : Nat → Int32) (c43 : Nat → Int32) (c45 : Nat → Int32) (a0 : Int32) : Met l yX9_eatenOn (gW yX9_eatenOn cX9_eatenOn 2 (some .int)) ({ frames := 3, cells := 0, slots := 0, locals := 63 } : Room) (kPreX D cI aK aV [.ref k, .int a0] [(k, .inr (9, [.ref k0, .ref k1, .ref k2, .ref k3, .ref k4, .ref k5, .int c6, .int c7, .int c8])), (k1, .inl (cI, 40, .inl c1)), (k4, .inr (8, [.ref k40, .ref k41, .ref k42, .ref k43, .ref k44, .ref k45, .ref k46, .ref k47, .ref k48, .int c49])), (k40, .inl (cI, 60, .inl c40)), (k41, .inl (cI, 60, .inl c41)), (k43, .inl (cI, 60, .inl c43)), (k45, .inl (cI, 60, .inl c45))] sz) (va_Qi (fun (r : Int32) (u : Unit) => True) (fun u t => kWd D cI (va_A [(k, .inr (9, [.ref k0, .ref k1, .ref k2, .ref k3, .ref k4, .ref k5, .int c6, .int c7, .int c8])), (k1, .inl (cI, 40, .inl c1)), (k4, .inr (8, [.ref k40, .ref k41, .ref k42, .ref k43, .ref k44, .ref k45, .ref k46, .ref k47, .ref k48, .int c49])), (k40, .inl (cI, 60, .inl c40)), (k41, .inl (cI, 60, .inl c41)), (k43, .inl (cI, 60, .inl c43)), (k45, .inl (cI, 60, .inl c45))] sz) [(k, .inr (9, [.ref k0, .ref k1, .ref k2, .ref k3, .ref k4, .ref k5, .int c6, .int c7, .int c8])), (k1, .inl (cI, 40, .inl c1)), (k4, .inr (8, [.ref k40, .ref k41, .ref k42, .ref k43, .ref k44, .ref k45, .ref k46, .ref k47, .ref k48, .int c49])), (k40, .inl (cI, 60, .inl c40)), (k41, .inl (cI, 60, .inl c41)), (k43, .inl (cI, 60, .inl c43)), (k45, .inl (cI, 60, .inl c45))] t) (va_A [(k, .inr (9, [.ref k0, .ref k1, .ref k2, .ref k3, .ref k4, .ref k5, .int c6, .int c7, .int c8])), (k1, .inl (cI, 40, .inl c1)), (k4, .inr (8, [.ref k40, .ref k41, .ref k42, .ref k43, .ref k44, .ref k45, .ref k46, .ref k47, .ref k48, .int c49])), (k40, .inl (cI, 60, .inl c40)), (k41, .inl (cI, 60, .inl c41)), (k43, .inl (cI, 60, .inl c43)), (k45, .inl (cI, 60, .inl c45))] sz)) 0 0 (va_A [(k, .inr (9, [.ref k0, .ref k1, .ref k2, .ref k3, .ref k4, .ref k5, .int c6, .int c7, .int c8])), (k1, .inl (cI, 40, .inl c1)), (k4, .inr (8, [.ref k40, .ref k41, .ref k42, .ref k43, .ref k44, .ref k45, .ref k46, .ref k47, .ref k48, .int c49])), (k40, .inl (cI, 60, .inl c40)), (k41, .inl (cI, 60, .inl c41)), (k43, .inl (cI, 60, .inl c43)), (k45, .inl (cI, 60, .inl c45))] sz) := by
  refine kMetIX (own := RX9) (by decide) rfl (Nat.le_of_ble_eq_true rfl) ?_
  intro p e s m args below meth c hx hb hT hown hname hml A Q hK hP hD hS hA hN hXS hRet ls hl
  have hl : lv_has ls 2 [(0, .ref k), (1, .int a0)] := hl
  have lo_a0 := k_lo a0
  have hi_a0 := k_hi a0
  have lo_c8 := k_lo c8
  have hi_c8 := k_hi c8
  refine lv_aload_n hx hb dX9_eatenOn_0 rfl (lv_at hl 0 rfl) ?_
  refine va_get (D := D) (ci := 9) (v := .ref k4) (C := RX9) (T := TX9) (N := 9) hx hb hT giX9 hown hK hP 0 rfl rfl 4 (by decide) (hT (Cond.fieldLink RX9 27 "DesertWire$World" "works" "LDesertWire$Works;") mw_97) (fun _ h9 => h9) rfl dX9_eatenOn_1 ?_
  refine lv_iload_n hx hb dX9_eatenOn_4 rfl (lv_at hl 1 rfl) ?_
  refine kJi (wr := [(k, .inr (9, [.ref k0, .ref k1, .ref k2, .ref k3, .ref k4, .ref k5, .int c6, .int c7, .int c8])), (k1, .inl (cI, 40, .inl c1)), (k41, .inl (cI, 60, .inl c41)), (k43, .inl (cI, 60, .inl c43)), (k45, .inl (cI, 60, .inl c45))]) (va_runV (As := [.int a0]) (rest := []) ⟨hx, hb, hml, hown, hT⟩ (c_X8_kindOfG l D cI aK aV k4 k40 k41 k42 k43 k44 k45 k46 k47 k48 s.heap.size c49 c40 a0) (cwV 1 hT (gV_in mw_384 mw_412 mw_382 mw_383 mw_3) rfl rfl rfl (by decide +kernel) ⟨Nat.le_of_ble_eq_true rfl, Nat.le_of_ble_eq_true rfl⟩) (kRecvX (q0 := 2) (ci := 8) hK hP hD hN hXS hS hA rfl rfl [2, 3] rfl (by decide)) rfl rfl hl.1 rfl (lv_room (Nat.le_of_ble_eq_true rfl)) dX9_eatenOn_5 ⟨Nat.le_of_ble_eq_true rfl, Nat.le_of_ble_eq_true rfl⟩) hP hD hS hA [2, 3] [0, 1, 4, 5, 6] rfl rfl (by decide) (by decide) ?_
  clear hP hD hS
  intro r_1 u_3 H locs w_2 hP hD hS
  replace hP : va_P D vwCl [(k, .inr (9, [.ref k0, .ref k1, .ref k2, .ref k3, .ref k4, .ref k5, .int c6, .int c7, .int c8])), (k1, .inl (cI, 40, .inl c1)), (k41, .inl (cI, 60, .inl c41)), (k43, .inl (cI, 60, .inl c43)), (k45, .inl (cI, 60, .inl c45)), (k4, .inr (8, [.ref k40, .ref k41, .ref k42, .ref k43, .ref k44, .ref k45, .ref k46, .ref k47, .ref k48, .int c49])), (k40, .inl (cI, 60, .inl c40))] H := hP
  replace hD : va_D A [(k, .inr (9, [.ref k0, .ref k1, .ref k2, .ref k3, .ref k4, .ref k5, .int c6, .int c7, .int c8])), (k1, .inl (cI, 40, .inl c1)), (k41, .inl (cI, 60, .inl c41)), (k43, .inl (cI, 60, .inl c43)), (k45, .inl (cI, 60, .inl c45)), (k4, .inr (8, [.ref k40, .ref k41, .ref k42, .ref k43, .ref k44, .ref k45, .ref k46, .ref k47, .ref k48, .int c49])), (k40, .inl (cI, 60, .inl c40))] := hD
  have lo_r_1 := k_lo r_1
  have hi_r_1 := k_hi r_1
  refine lv_iconst (v := 1) hx hb dX9_eatenOn_8 (by decide) ?_
  refine b_icmp_ne hx hb rfl zl_1 (tgt := 23) dX9_eatenOn_9 (by decide) (fun c_4 => ?_) (fun c_4 => ?_)
  · refine lv_iconst (v := (-1)) hx hb dX9_eatenOn_23 (by decide) ?_
    exact hRet () [0, 1, 5, 6, 2, 3, 4] trivial hP hD (by decide) rfl hS rfl dX9_eatenOn_24
  · refine lv_aload_n hx hb dX9_eatenOn_12 rfl (lv_at hl 0 rfl) ?_
    refine va_get (D := D) (ci := 9) (v := .ref k4) (C := RX9) (T := TX9) (N := 9) hx hb hT giX9 hown hK hP 0 rfl rfl 4 (by decide) (hT (Cond.fieldLink RX9 27 "DesertWire$World" "works" "LDesertWire$Works;") mw_97) (fun _ h9 => h9) rfl dX9_eatenOn_13 ?_
    refine lv_iload_n hx hb dX9_eatenOn_16 rfl (lv_at hl 1 rfl) ?_
    refine kJi (wr := [(k, .inr (9, [.ref k0, .ref k1, .ref k2, .ref k3, .ref k4, .ref k5, .int c6, .int c7, .int c8])), (k1, .inl (cI, 40, .inl c1)), (k41, .inl (cI, 60, .inl c41)), (k43, .inl (cI, 60, .inl c43)), (k40, .inl (cI, 60, .inl c40))]) (va_runV (As := [.int a0]) (rest := []) ⟨hx, hb, hml, hown, hT⟩ (c_X8_isDownG l D cI aK aV k4 k40 k41 k42 k43 k44 k45 k46 k47 k48 H.size c49 c45 a0) (cwV 1 hT (gV_in mw_407 mw_413 mw_405 mw_406 mw_3) rfl rfl rfl (by decide +kernel) ⟨Nat.le_of_ble_eq_true rfl, Nat.le_of_ble_eq_true rfl⟩) (kRecvX (q0 := 5) (ci := 8) hK hP hD hN hXS hS hA rfl rfl [5, 4] rfl (by decide)) rfl rfl hl.1 rfl (lv_room (Nat.le_of_ble_eq_true rfl)) dX9_eatenOn_17 ⟨Nat.le_of_ble_eq_true rfl, Nat.le_of_ble_eq_true rfl⟩) hP hD hS hA [5, 4] [0, 1, 2, 3, 6] rfl rfl (by decide) (by decide) ?_
    clear hP hD hS
    intro r_5 u_7 H locs w_6 hP hD hS
    replace hP : va_P D vwCl [(k, .inr (9, [.ref k0, .ref k1, .ref k2, .ref k3, .ref k4, .ref k5, .int c6, .int c7, .int c8])), (k1, .inl (cI, 40, .inl c1)), (k41, .inl (cI, 60, .inl c41)), (k43, .inl (cI, 60, .inl c43)), (k40, .inl (cI, 60, .inl c40)), (k4, .inr (8, [.ref k40, .ref k41, .ref k42, .ref k43, .ref k44, .ref k45, .ref k46, .ref k47, .ref k48, .int c49])), (k45, .inl (cI, 60, .inl c45))] H := hP
    replace hD : va_D A [(k, .inr (9, [.ref k0, .ref k1, .ref k2, .ref k3, .ref k4, .ref k5, .int c6, .int c7, .int c8])), (k1, .inl (cI, 40, .inl c1)), (k41, .inl (cI, 60, .inl c41)), (k43, .inl (cI, 60, .inl c43)), (k40, .inl (cI, 60, .inl c40)), (k4, .inr (8, [.ref k40, .ref k41, .ref k42, .ref k43, .ref k44, .ref k45, .ref k46, .ref k47, .ref k48, .int c49])), (k45, .inl (cI, 60, .inl c45))] := hD
    have lo_r_5 := k_lo r_5
    have hi_r_5 := k_hi r_5
    refine b_if_eq hx hb rfl (tgt := 25) dX9_eatenOn_20 (by decide) (fun c_8 => ?_) (fun c_8 => ?_)
    · refine lv_aload_n hx hb dX9_eatenOn_25 rfl (lv_at hl 0 rfl) ?_
      refine va_get (D := D) (ci := 9) (v := .int c8) (C := RX9) (T := TX9) (N := 9) hx hb hT giX9 hown hK hP 0 rfl rfl 8 (by decide) (hT (Cond.fieldLink RX9 45 "DesertWire$World" "day" "I") mw_108) (fun _ h9 => h9) rfl dX9_eatenOn_26 ?_
      refine lv_iconst (v := 1) hx hb dX9_eatenOn_29 (by decide) ?_
      refine lv_iadd hx hb dX9_eatenOn_30 ?_
      refine lv_topi (fun v_9 ev_9 => ?_)
      have lo_v_9 := k_lo v_9
      have hi_v_9 := k_hi v_9
      refine lv_aload_n hx hb dX9_eatenOn_31 rfl (lv_at hl 0 rfl) ?_
      refine va_get (D := D) (ci := 9) (v := .ref k4) (C := RX9) (T := TX9) (N := 9) hx hb hT giX9 hown hK hP 0 rfl rfl 4 (by decide) (hT (Cond.fieldLink RX9 27 "DesertWire$World" "works" "LDesertWire$Works;") mw_97) (fun _ h9 => h9) rfl dX9_eatenOn_32 ?_
      refine lv_iload_n hx hb dX9_eatenOn_35 rfl (lv_at hl 1 rfl) ?_
      refine kJi (wr := [(k, .inr (9, [.ref k0, .ref k1, .ref k2, .ref k3, .ref k4, .ref k5, .int c6, .int c7, .int c8])), (k1, .inl (cI, 40, .inl c1)), (k41, .inl (cI, 60, .inl c41)), (k40, .inl (cI, 60, .inl c40)), (k45, .inl (cI, 60, .inl c45))]) (va_runV (As := [.int a0]) (rest := [.int v_9]) ⟨hx, hb, hml, hown, hT⟩ (c_X8_sinceOfG l D cI aK aV k4 k40 k41 k42 k43 k44 k45 k46 k47 k48 H.size c49 c43 a0) (cwV 1 hT (gV_in mw_403 mw_414 mw_401 mw_402 mw_3) rfl rfl rfl (by decide +kernel) ⟨Nat.le_of_ble_eq_true rfl, Nat.le_of_ble_eq_true rfl⟩) (kRecvX (q0 := 5) (ci := 8) hK hP hD hN hXS hS hA rfl rfl [5, 3] rfl (by decide)) rfl rfl hl.1 rfl (lv_room (Nat.le_of_ble_eq_true rfl)) dX9_eatenOn_36 ⟨Nat.le_of_ble_eq_true rfl, Nat.le_of_ble_eq_true rfl⟩) hP hD hS hA [5, 3] [0, 1, 2, 4, 6] rfl rfl (by decide) (by decide) ?_
      clear hP hD hS
      intro r_10 u_12 H locs w_11 hP hD hS
      replace hP : va_P D vwCl [(k, .inr (9, [.ref k0, .ref k1, .ref k2, .ref k3, .ref k4, .ref k5, .int c6, .int c7, .int c8])), (k1, .inl (cI, 40, .inl c1)), (k41, .inl (cI, 60, .inl c41)), (k40, .inl (cI, 60, .inl c40)), (k45, .inl (cI, 60, .inl c45)), (k4, .inr (8, [.ref k40, .ref k41, .ref k42, .ref k43, .ref k44, .ref k45, .ref k46, .ref k47, .ref k48, .int c49])), (k43, .inl (cI, 60, .inl c43))] H := hP
      replace hD : va_D A [(k, .inr (9, [.ref k0, .ref k1, .ref k2, .ref k3, .ref k4, .ref k5, .int c6, .int c7, .int c8])), (k1, .inl (cI, 40, .inl c1)), (k41, .inl (cI, 60, .inl c41)), (k40, .inl (cI, 60, .inl c40)), (k45, .inl (cI, 60, .inl c45)), (k4, .inr (8, [.ref k40, .ref k41, .ref k42, .ref k43, .ref k44, .ref k45, .ref k46, .ref k47, .ref k48, .int c49])), (k43, .inl (cI, 60, .inl c43))] := hD
      have lo_r_10 := k_lo r_10
      have hi_r_10 := k_hi r_10
      refine lv_aload_n hx hb dX9_eatenOn_39 rfl (lv_at hl 0 rfl) ?_
      refine lv_iload_n hx hb dX9_eatenOn_40 rfl (lv_at hl 1 rfl) ?_
      refine kJi (wr := [(k40, .inl (cI, 60, .inl c40)), (k45, .inl (cI, 60, .inl c45)), (k43, .inl (cI, 60, .inl c43))]) (va_runV (As := [.int a0]) (rest := [.int r_10, .int v_9]) ⟨hx, hb, hml, hown, hT⟩ (c_X9_lifeOfG l D cI aK aV k k0 k1 k2 k3 k4 k5 k40 k41 k42 k43 k44 k45 k46 k47 k48 H.size c6 c7 c8 c1 c49 c41 a0) (cwV 1 hT (gV_in mw_418 mw_415 mw_417 mw_p1_2 mw_2) rfl rfl rfl (by decide +kernel) ⟨Nat.le_of_ble_eq_true rfl, Nat.le_of_ble_eq_true rfl⟩) (kRecvX (q0 := 0) (ci := 9) hK hP hD hN hXS hS hA rfl rfl [0, 1, 5, 2] rfl (by decide)) rfl rfl hl.1 rfl (lv_room (Nat.le_of_ble_eq_true rfl)) dX9_eatenOn_41 ⟨Nat.le_of_ble_eq_true rfl, Nat.le_of_ble_eq_true rfl⟩) hP hD hS hA [0, 1, 5, 2] [3, 4, 6] rfl rfl (by decide) (by decide) ?_
      clear hP hD hS
      intro r_13 u_15 H locs w_14 hP hD hS
      replace hP : va_P D vwCl [(k40, .inl (cI, 60, .inl c40)), (k45, .inl (cI, 60, .inl c45)), (k43, .inl (cI, 60, .inl c43)), (k, .inr (9, [.ref k0, .ref k1, .ref k2, .ref k3, .ref k4, .ref k5, .int c6, .int c7, .int c8])), (k1, .inl (cI, 40, .inl c1)), (k4, .inr (8, [.ref k40, .ref k41, .ref k42, .ref k43, .ref k44, .ref k45, .ref k46, .ref k47, .ref k48, .int c49])), (k41, .inl (cI, 60, .inl c41))] H := hP
      replace hD : va_D A [(k40, .inl (cI, 60, .inl c40)), (k45, .inl (cI, 60, .inl c45)), (k43, .inl (cI, 60, .inl c43)), (k, .inr (9, [.ref k0, .ref k1, .ref k2, .ref k3, .ref k4, .ref k5, .int c6, .int c7, .int c8])), (k1, .inl (cI, 40, .inl c1)), (k4, .inr (8, [.ref k40, .ref k41, .ref k42, .ref k43, .ref k44, .ref k45, .ref k46, .ref k47, .ref k48, .int c49])), (k41, .inl (cI, 60, .inl c41))] := hD
      have lo_r_13 := k_lo r_13
      have hi_r_13 := k_hi r_13
      refine lv_iadd hx hb dX9_eatenOn_44 ?_
      refine lv_topi (fun v_16 ev_16 => ?_)
      have lo_v_16 := k_lo v_16
      have hi_v_16 := k_hi v_16
      refine va_mmax hx hb (hml.trans hl.1.symm) hown (hT _ mw_425) (hT _ mw_426) (hT _ mw_13) (hT _ mw_427) (Nat.le_of_ble_eq_true rfl) (Nat.le_of_ble_eq_true rfl) (Nat.le_of_ble_eq_true rfl) (Nat.le_of_ble_eq_true rfl) dX9_eatenOn_45 ?_
      refine lv_topi (fun v_17 ev_17 => ?_)
      have lo_v_17 := k_lo v_17
      have hi_v_17 := k_hi v_17
      have tv_17 : v_17.toInt = k_max v_9.toInt v_16.toInt := by rw [ev_17]; exact k_mmax rfl rfl
      have sv_17 := k_max_spec (v_9.toInt) (v_16.toInt)
      exact hRet () [3, 4, 5, 0, 6, 2, 1] trivial hP hD (by decide) rfl hS rfl dX9_eatenOn_48
    · refine lv_iconst (v := (-1)) hx hb dX9_eatenOn_23 (by decide) ?_
      exact hRet () [0, 1, 5, 4, 2, 3, 6] trivial hP hD (by decide) rfl hS rfl dX9_eatenOn_24
theorem dX9_eatPoles_0 : decode cX9_eatPoles 0 = .ok (.iconst 0, 1) := by decide +kernel
theorem dX9_eatPoles_1 : decode cX9_eatPoles 1 = .ok (.istore_n 1, 1) := by decide +kernel
theorem dX9_eatPoles_2 : decode cX9_eatPoles 2 = .ok (.iload_n 1, 1) := by decide +kernel
theorem dX9_eatPoles_3 : decode cX9_eatPoles 3 = .ok (.aload_n 0, 1) := by decide +kernel
theorem dX9_eatPoles_4 : decode cX9_eatPoles 4 = .ok (.getfield 27, 3) := by decide +kernel
theorem dX9_eatPoles_7 : decode cX9_eatPoles 7 = .ok (.getfield 83, 3) := by decide +kernel
theorem dX9_eatPoles_10 : decode cX9_eatPoles 10 = .ok (.if_icmp .ge 63, 3) := by decide +kernel
theorem dX9_eatPoles_13 : decode cX9_eatPoles 13 = .ok (.aload_n 0, 1) := by decide +kernel
theorem dX9_eatPoles_14 : decode cX9_eatPoles 14 = .ok (.getfield 27, 3) := by decide +kernel
theorem dX9_eatPoles_17 : decode cX9_eatPoles 17 = .ok (.iload_n 1, 1) := by decide +kernel
theorem dX9_eatPoles_18 : decode cX9_eatPoles 18 = .ok (.invokevirtual 98, 3) := by decide +kernel
theorem dX9_eatPoles_21 : decode cX9_eatPoles 21 = .ok (.iconst 1, 1) := by decide +kernel
theorem dX9_eatPoles_22 : decode cX9_eatPoles 22 = .ok (.if_icmp .ne 45, 3) := by decide +kernel
theorem dX9_eatPoles_25 : decode cX9_eatPoles 25 = .ok (.aload_n 0, 1) := by decide +kernel
theorem dX9_eatPoles_26 : decode cX9_eatPoles 26 = .ok (.getfield 27, 3) := by decide +kernel
theorem dX9_eatPoles_29 : decode cX9_eatPoles 29 = .ok (.iload_n 1, 1) := by decide +kernel
theorem dX9_eatPoles_30 : decode cX9_eatPoles 30 = .ok (.invokevirtual 107, 3) := by decide +kernel
theorem dX9_eatPoles_33 : decode cX9_eatPoles 33 = .ok (.ifCond .ne 34, 3) := by decide +kernel
theorem dX9_eatPoles_36 : decode cX9_eatPoles 36 = .ok (.aload_n 0, 1) := by decide +kernel
theorem dX9_eatPoles_37 : decode cX9_eatPoles 37 = .ok (.getfield 45, 3) := by decide +kernel
theorem dX9_eatPoles_40 : decode cX9_eatPoles 40 = .ok (.iconst 1, 1) := by decide +kernel
theorem dX9_eatPoles_41 : decode cX9_eatPoles 41 = .ok (.iadd, 1) := by decide +kernel
theorem dX9_eatPoles_42 : decode cX9_eatPoles 42 = .ok (.aload_n 0, 1) := by decide +kernel
theorem dX9_eatPoles_43 : decode cX9_eatPoles 43 = .ok (.getfield 27, 3) := by decide +kernel
theorem dX9_eatPoles_46 : decode cX9_eatPoles 46 = .ok (.iload_n 1, 1) := by decide +kernel
theorem dX9_eatPoles_47 : decode cX9_eatPoles 47 = .ok (.invokevirtual 90, 3) := by decide +kernel
theorem dX9_eatPoles_50 : decode cX9_eatPoles 50 = .ok (.isub, 1) := by decide +kernel
theorem dX9_eatPoles_51 : decode cX9_eatPoles 51 = .ok (.aload_n 0, 1) := by decide +kernel
theorem dX9_eatPoles_52 : decode cX9_eatPoles 52 = .ok (.iload_n 1, 1) := by decide +kernel
theorem dX9_eatPoles_53 : decode cX9_eatPoles 53 = .ok (.invokevirtual 110, 3) := by decide +kernel
theorem dX9_eatPoles_56 : decode cX9_eatPoles 56 = .ok (.if_icmp .lt 11, 3) := by decide +kernel
theorem dX9_eatPoles_59 : decode cX9_eatPoles 59 = .ok (.aload_n 0, 1) := by decide +kernel
theorem dX9_eatPoles_60 : decode cX9_eatPoles 60 = .ok (.getfield 27, 3) := by decide +kernel
theorem dX9_eatPoles_63 : decode cX9_eatPoles 63 = .ok (.iload_n 1, 1) := by decide +kernel
theorem dX9_eatPoles_64 : decode cX9_eatPoles 64 = .ok (.invokevirtual 136, 3) := by decide +kernel
theorem dX9_eatPoles_67 : decode cX9_eatPoles 67 = .ok (.iinc 1 1, 3) := by decide +kernel
theorem dX9_eatPoles_70 : decode cX9_eatPoles 70 = .ok (.goto (-68), 3) := by decide +kernel
theorem dX9_eatPoles_73 : decode cX9_eatPoles 73 = .ok (.return_, 1) := by decide +kernel
set_option maxHeartbeats 4000000 in
set_option maxRecDepth 100000 in
theorem c_X9_eatPolesG (l : Launch) (D : va_G) (cI : ClassId) (aK aV : Nat → Nat) (k k0 k1 k2 k3 k4 k5 k40 k41 k42 k43 k44 k45 k46 k47 k48 : Nat) (sz : Nat) (c6 : Int32) (c7 : Int32) (c8 : Int32) (c1 : Nat → Int32) (c49 : Int32) (c40 : Nat → Int32) (c41 : Nat → Int32) (c42 : Nat → Int32) (c43 : Nat → Int32) (c45 : Nat → Int32) (c46 : Nat → Int32) (c47 : Nat → Int32) (c48 : Nat → Int32) : Met l yX9_eatPoles (gW yX9_eatPoles cX9_eatPoles 2 none) ({ frames := 4, cells := 0, slots := 0, locals := 87 } : Room) (kPreX D cI aK aV [.ref k] [(k, .inr (9, [.ref k0, .ref k1, .ref k2, .ref k3, .ref k4, .ref k5, .int c6, .int c7, .int c8])), (k1, .inl (cI, 40, .inl c1)), (k4, .inr (8, [.ref k40, .ref k41, .ref k42, .ref k43, .ref k44, .ref k45, .ref k46, .ref k47, .ref k48, .int c49])), (k40, .inl (cI, 60, .inl c40)), (k41, .inl (cI, 60, .inl c41)), (k42, .inl (cI, 60, .inl c42)), (k43, .inl (cI, 60, .inl c43)), (k45, .inl (cI, 60, .inl c45)), (k46, .inl (cI, 40, .inl c46)), (k47, .inl (cI, 40, .inl c47)), (k48, .inl (cI, 40, .inl c48))] sz) (va_Qv (fun (u : (Nat → Int32) × (Nat → Int32) × (Nat → Int32) × (Nat → Int32)) => True) (fun u t => kWd D cI (va_A [(k, .inr (9, [.ref k0, .ref k1, .ref k2, .ref k3, .ref k4, .ref k5, .int c6, .int c7, .int c8])), (k1, .inl (cI, 40, .inl c1)), (k4, .inr (8, [.ref k40, .ref k41, .ref k42, .ref k43, .ref k44, .ref k45, .ref k46, .ref k47, .ref k48, .int c49])), (k40, .inl (cI, 60, .inl c40)), (k41, .inl (cI, 60, .inl c41)), (k42, .inl (cI, 60, .inl c42)), (k43, .inl (cI, 60, .inl c43)), (k45, .inl (cI, 60, .inl c45)), (k46, .inl (cI, 40, .inl c46)), (k47, .inl (cI, 40, .inl c47)), (k48, .inl (cI, 40, .inl c48))] sz) [(k, .inr (9, [.ref k0, .ref k1, .ref k2, .ref k3, .ref k4, .ref k5, .int c6, .int c7, .int c8])), (k1, .inl (cI, 40, .inl c1)), (k4, .inr (8, [.ref k40, .ref k41, .ref k42, .ref k43, .ref k44, .ref k45, .ref k46, .ref k47, .ref k48, .int c49])), (k40, .inl (cI, 60, .inl c40)), (k41, .inl (cI, 60, .inl c41)), (k42, .inl (cI, 60, .inl c42)), (k43, .inl (cI, 60, .inl c43)), (k45, .inl (cI, 60, .inl u.1)), (k46, .inl (cI, 40, .inl u.2.1)), (k47, .inl (cI, 40, .inl u.2.2.1)), (k48, .inl (cI, 40, .inl u.2.2.2))] t) (va_A [(k, .inr (9, [.ref k0, .ref k1, .ref k2, .ref k3, .ref k4, .ref k5, .int c6, .int c7, .int c8])), (k1, .inl (cI, 40, .inl c1)), (k4, .inr (8, [.ref k40, .ref k41, .ref k42, .ref k43, .ref k44, .ref k45, .ref k46, .ref k47, .ref k48, .int c49])), (k40, .inl (cI, 60, .inl c40)), (k41, .inl (cI, 60, .inl c41)), (k42, .inl (cI, 60, .inl c42)), (k43, .inl (cI, 60, .inl c43)), (k45, .inl (cI, 60, .inl c45)), (k46, .inl (cI, 40, .inl c46)), (k47, .inl (cI, 40, .inl c47)), (k48, .inl (cI, 40, .inl c48))] sz)) 0 0 (va_A [(k, .inr (9, [.ref k0, .ref k1, .ref k2, .ref k3, .ref k4, .ref k5, .int c6, .int c7, .int c8])), (k1, .inl (cI, 40, .inl c1)), (k4, .inr (8, [.ref k40, .ref k41, .ref k42, .ref k43, .ref k44, .ref k45, .ref k46, .ref k47, .ref k48, .int c49])), (k40, .inl (cI, 60, .inl c40)), (k41, .inl (cI, 60, .inl c41)), (k42, .inl (cI, 60, .inl c42)), (k43, .inl (cI, 60, .inl c43)), (k45, .inl (cI, 60, .inl c45)), (k46, .inl (cI, 40, .inl c46)), (k47, .inl (cI, 40, .inl c47)), (k48, .inl (cI, 40, .inl c48))] sz) := by
  refine kMetVX (own := RX9) (by decide) rfl (Nat.le_of_ble_eq_true rfl) ?_
  intro p e s m args below meth c hx hb hT hown hname hml A Q hK hP hD hS hA hN hXS hRet ls hl
  have hl : lv_has ls 2 [(0, .ref k)] := hl
  have lo_c8 := k_lo c8
  have hi_c8 := k_hi c8
  have lo_c49 := k_lo c49
  have hi_c49 := k_hi c49
  refine lv_iconst (v := 0) hx hb dX9_eatPoles_0 (by decide) ?_
  refine lv_istore_n (lv' := [(1, .int 0), (0, .ref k)]) hx hb dX9_eatPoles_1 rfl hl (by decide) rfl ?_
  clear hl
  intro ls hl
  have hloop_2 : ∀ (fu_ : Nat) (l2_1 : Int32) (g2_k45 : Nat → Int32) (g2_k46 : Nat → Int32) (g2_k47 : Nat → Int32) (g2_k48 : Nat → Int32), 0 ≤ l2_1.toInt → (c49.toInt - l2_1.toInt).toNat < fu_ → ∀ (ls : Array Slot) (H : Heap) (locs : List Loc), lv_has ls 2 [(1, .int l2_1), (0, .ref k)] → va_P D vwCl [(k, .inr (9, [.ref k0, .ref k1, .ref k2, .ref k3, .ref k4, .ref k5, .int c6, .int c7, .int c8])), (k1, .inl (cI, 40, .inl c1)), (k4, .inr (8, [.ref k40, .ref k41, .ref k42, .ref k43, .ref k44, .ref k45, .ref k46, .ref k47, .ref k48, .int c49])), (k40, .inl (cI, 60, .inl c40)), (k41, .inl (cI, 60, .inl c41)), (k42, .inl (cI, 60, .inl c42)), (k43, .inl (cI, 60, .inl c43)), (k45, .inl (cI, 60, .inl g2_k45)), (k46, .inl (cI, 40, .inl g2_k46)), (k47, .inl (cI, 40, .inl g2_k47)), (k48, .inl (cI, 40, .inl g2_k48))] H → va_D A [(k, .inr (9, [.ref k0, .ref k1, .ref k2, .ref k3, .ref k4, .ref k5, .int c6, .int c7, .int c8])), (k1, .inl (cI, 40, .inl c1)), (k4, .inr (8, [.ref k40, .ref k41, .ref k42, .ref k43, .ref k44, .ref k45, .ref k46, .ref k47, .ref k48, .int c49])), (k40, .inl (cI, 60, .inl c40)), (k41, .inl (cI, 60, .inl c41)), (k42, .inl (cI, 60, .inl c42)), (k43, .inl (cI, 60, .inl c43)), (k45, .inl (cI, 60, .inl g2_k45)), (k46, .inl (cI, 40, .inl g2_k46)), (k47, .inl (cI, 40, .inl g2_k47)), (k48, .inl (cI, 40, .inl g2_k48))] → va_S A s.heap H locs → W p l e ({ frames := 4, cells := 0, slots := 0, locals := 87 } : Room) s m args below meth c H locs 0 0 Q (F0 m 2 ls []) := by
    intro fu_; induction fu_ with
    | zero => intro l2_1 g2_k45 g2_k46 g2_k47 g2_k48 i2_0 hm; exact absurd hm (by omega)
    | succ fu_ ih2 =>
        intro l2_1 g2_k45 g2_k46 g2_k47 g2_k48 i2_0 hm ls H locs hl hP hD hS
        have lo_l2_1 := k_lo l2_1
        have hi_l2_1 := k_hi l2_1
        refine lv_iload_n hx hb dX9_eatPoles_2 rfl (lv_at hl 0 rfl) ?_
        refine lv_aload_n hx hb dX9_eatPoles_3 rfl (lv_at hl 1 rfl) ?_
        refine va_get (D := D) (ci := 9) (v := .ref k4) (C := RX9) (T := TX9) (N := 9) hx hb hT giX9 hown hK hP 0 rfl rfl 4 (by decide) (hT (Cond.fieldLink RX9 27 "DesertWire$World" "works" "LDesertWire$Works;") mw_97) (fun _ h9 => h9) rfl dX9_eatPoles_4 ?_
        refine va_get (D := D) (ci := 8) (v := .int c49) (C := RX8) (T := TX8) (N := 10) hx hb hT giX8 hown hK hP 2 rfl rfl 9 (by decide) (hT (Cond.fieldLink RX9 83 "DesertWire$Works" "number" "I") mw_50) (fun _ h9 => h9) rfl dX9_eatPoles_7 ?_
        refine b_icmp_ge hx hb rfl rfl (tgt := 73) dX9_eatPoles_10 (by decide) (fun c_1 => ?_) (fun c_1 => ?_)
        · exact hRet (g2_k45, g2_k46, g2_k47, g2_k48) [0, 1, 2, 3, 4, 5, 6, 7, 8, 9, 10] trivial hP hD (by decide) rfl hS dX9_eatPoles_73
        · refine lv_aload_n hx hb dX9_eatPoles_13 rfl (lv_at hl 1 rfl) ?_
          refine va_get (D := D) (ci := 9) (v := .ref k4) (C := RX9) (T := TX9) (N := 9) hx hb hT giX9 hown hK hP 0 rfl rfl 4 (by decide) (hT (Cond.fieldLink RX9 27 "DesertWire$World" "works" "LDesertWire$Works;") mw_97) (fun _ h9 => h9) rfl dX9_eatPoles_14 ?_
          refine lv_iload_n hx hb dX9_eatPoles_17 rfl (lv_at hl 0 rfl) ?_
          refine kJi (wr := [(k, .inr (9, [.ref k0, .ref k1, .ref k2, .ref k3, .ref k4, .ref k5, .int c6, .int c7, .int c8])), (k1, .inl (cI, 40, .inl c1)), (k41, .inl (cI, 60, .inl c41)), (k42, .inl (cI, 60, .inl c42)), (k43, .inl (cI, 60, .inl c43)), (k45, .inl (cI, 60, .inl g2_k45)), (k46, .inl (cI, 40, .inl g2_k46)), (k47, .inl (cI, 40, .inl g2_k47)), (k48, .inl (cI, 40, .inl g2_k48))]) (va_runV (As := [.int l2_1]) (rest := []) ⟨hx, hb, hml, hown, hT⟩ (c_X8_kindOfG l D cI aK aV k4 k40 k41 k42 k43 k44 k45 k46 k47 k48 H.size c49 c40 l2_1) (cwV 1 hT (gV_in mw_384 mw_412 mw_382 mw_383 mw_3) rfl rfl rfl (by decide +kernel) ⟨Nat.le_of_ble_eq_true rfl, Nat.le_of_ble_eq_true rfl⟩) (kRecvX (q0 := 2) (ci := 8) hK hP hD hN hXS hS hA rfl rfl [2, 3] rfl (by decide)) rfl rfl hl.1 rfl (lv_room (Nat.le_of_ble_eq_true rfl)) dX9_eatPoles_18 ⟨Nat.le_of_ble_eq_true rfl, Nat.le_of_ble_eq_true rfl⟩) hP hD hS hA [2, 3] [0, 1, 4, 5, 6, 7, 8, 9, 10] rfl rfl (by decide) (by decide) ?_
          clear hP hD hS
          intro r_2 u_4 H locs w_3 hP hD hS
          replace hP : va_P D vwCl [(k, .inr (9, [.ref k0, .ref k1, .ref k2, .ref k3, .ref k4, .ref k5, .int c6, .int c7, .int c8])), (k1, .inl (cI, 40, .inl c1)), (k41, .inl (cI, 60, .inl c41)), (k42, .inl (cI, 60, .inl c42)), (k43, .inl (cI, 60, .inl c43)), (k45, .inl (cI, 60, .inl g2_k45)), (k46, .inl (cI, 40, .inl g2_k46)), (k47, .inl (cI, 40, .inl g2_k47)), (k48, .inl (cI, 40, .inl g2_k48)), (k4, .inr (8, [.ref k40, .ref k41, .ref k42, .ref k43, .ref k44, .ref k45, .ref k46, .ref k47, .ref k48, .int c49])), (k40, .inl (cI, 60, .inl c40))] H := hP
          replace hD : va_D A [(k, .inr (9, [.ref k0, .ref k1, .ref k2, .ref k3, .ref k4, .ref k5, .int c6, .int c7, .int c8])), (k1, .inl (cI, 40, .inl c1)), (k41, .inl (cI, 60, .inl c41)), (k42, .inl (cI, 60, .inl c42)), (k43, .inl (cI, 60, .inl c43)), (k45, .inl (cI, 60, .inl g2_k45)), (k46, .inl (cI, 40, .inl g2_k46)), (k47, .inl (cI, 40, .inl g2_k47)), (k48, .inl (cI, 40, .inl g2_k48)), (k4, .inr (8, [.ref k40, .ref k41, .ref k42, .ref k43, .ref k44, .ref k45, .ref k46, .ref k47, .ref k48, .int c49])), (k40, .inl (cI, 60, .inl c40))] := hD
          have lo_r_2 := k_lo r_2
          have hi_r_2 := k_hi r_2
          refine lv_iconst (v := 1) hx hb dX9_eatPoles_21 (by decide) ?_
          refine b_icmp_ne hx hb rfl zl_1 (tgt := 67) dX9_eatPoles_22 (by decide) (fun c_5 => ?_) (fun c_5 => ?_)
          · obtain ⟨v_6, ev_6⟩ : ∃ y : Int32, y = l2_1 + 1 := ⟨_, rfl⟩
            have tv_6 : v_6.toInt = l2_1.toInt + 1 := by rw [ev_6]; exact k_addv rfl zl_1 (by omega) (by omega)
            refine lv_iinc (v := v_6) (lv' := [(1, .int v_6), (0, .ref k)]) hx hb dX9_eatPoles_67 hl (k := 0) rfl (by rw [ev_6]; rfl) (by decide) rfl ?_
            clear hl
            intro ls hl
            refine lv_goto (tgt := 2) hx hb dX9_eatPoles_70 (by decide) ?_
            exact ih2 v_6 g2_k45 g2_k46 g2_k47 g2_k48 (by first | omega | decide | assumption | rfl) (by omega) ls _ _ (lv_sub hl [0, 1] rfl) (hP.sub [0, 1, 9, 10, 2, 3, 4, 5, 6, 7, 8] rfl) (hD.sub [0, 1, 9, 10, 2, 3, 4, 5, 6, 7, 8] (by decide) rfl) hS
          · refine lv_aload_n hx hb dX9_eatPoles_25 rfl (lv_at hl 1 rfl) ?_
            refine va_get (D := D) (ci := 9) (v := .ref k4) (C := RX9) (T := TX9) (N := 9) hx hb hT giX9 hown hK hP 0 rfl rfl 4 (by decide) (hT (Cond.fieldLink RX9 27 "DesertWire$World" "works" "LDesertWire$Works;") mw_97) (fun _ h9 => h9) rfl dX9_eatPoles_26 ?_
            refine lv_iload_n hx hb dX9_eatPoles_29 rfl (lv_at hl 0 rfl) ?_
            refine kJi (wr := [(k, .inr (9, [.ref k0, .ref k1, .ref k2, .ref k3, .ref k4, .ref k5, .int c6, .int c7, .int c8])), (k1, .inl (cI, 40, .inl c1)), (k41, .inl (cI, 60, .inl c41)), (k42, .inl (cI, 60, .inl c42)), (k43, .inl (cI, 60, .inl c43)), (k46, .inl (cI, 40, .inl g2_k46)), (k47, .inl (cI, 40, .inl g2_k47)), (k48, .inl (cI, 40, .inl g2_k48)), (k40, .inl (cI, 60, .inl c40))]) (va_runV (As := [.int l2_1]) (rest := []) ⟨hx, hb, hml, hown, hT⟩ (c_X8_isDownG l D cI aK aV k4 k40 k41 k42 k43 k44 k45 k46 k47 k48 H.size c49 g2_k45 l2_1) (cwV 1 hT (gV_in mw_407 mw_413 mw_405 mw_406 mw_3) rfl rfl rfl (by decide +kernel) ⟨Nat.le_of_ble_eq_true rfl, Nat.le_of_ble_eq_true rfl⟩) (kRecvX (q0 := 9) (ci := 8) hK hP hD hN hXS hS hA rfl rfl [9, 5] rfl (by decide)) rfl rfl hl.1 rfl (lv_room (Nat.le_of_ble_eq_true rfl)) dX9_eatPoles_30 ⟨Nat.le_of_ble_eq_true rfl, Nat.le_of_ble_eq_true rfl⟩) hP hD hS hA [9, 5] [0, 1, 2, 3, 4, 6, 7, 8, 10] rfl rfl (by decide) (by decide) ?_
            clear hP hD hS
            intro r_7 u_9 H locs w_8 hP hD hS
            replace hP : va_P D vwCl [(k, .inr (9, [.ref k0, .ref k1, .ref k2, .ref k3, .ref k4, .ref k5, .int c6, .int c7, .int c8])), (k1, .inl (cI, 40, .inl c1)), (k41, .inl (cI, 60, .inl c41)), (k42, .inl (cI, 60, .inl c42)), (k43, .inl (cI, 60, .inl c43)), (k46, .inl (cI, 40, .inl g2_k46)), (k47, .inl (cI, 40, .inl g2_k47)), (k48, .inl (cI, 40, .inl g2_k48)), (k40, .inl (cI, 60, .inl c40)), (k4, .inr (8, [.ref k40, .ref k41, .ref k42, .ref k43, .ref k44, .ref k45, .ref k46, .ref k47, .ref k48, .int c49])), (k45, .inl (cI, 60, .inl g2_k45))] H := hP
            replace hD : va_D A [(k, .inr (9, [.ref k0, .ref k1, .ref k2, .ref k3, .ref k4, .ref k5, .int c6, .int c7, .int c8])), (k1, .inl (cI, 40, .inl c1)), (k41, .inl (cI, 60, .inl c41)), (k42, .inl (cI, 60, .inl c42)), (k43, .inl (cI, 60, .inl c43)), (k46, .inl (cI, 40, .inl g2_k46)), (k47, .inl (cI, 40, .inl g2_k47)), (k48, .inl (cI, 40, .inl g2_k48)), (k40, .inl (cI, 60, .inl c40)), (k4, .inr (8, [.ref k40, .ref k41, .ref k42, .ref k43, .ref k44, .ref k45, .ref k46, .ref k47, .ref k48, .int c49])), (k45, .inl (cI, 60, .inl g2_k45))] := hD
            have lo_r_7 := k_lo r_7
            have hi_r_7 := k_hi r_7
            refine b_if_ne hx hb rfl (tgt := 67) dX9_eatPoles_33 (by decide) (fun c_10 => ?_) (fun c_10 => ?_)
            · obtain ⟨v_11, ev_11⟩ : ∃ y : Int32, y = l2_1 + 1 := ⟨_, rfl⟩
              have tv_11 : v_11.toInt = l2_1.toInt + 1 := by rw [ev_11]; exact k_addv rfl zl_1 (by omega) (by omega)
              refine lv_iinc (v := v_11) (lv' := [(1, .int v_11), (0, .ref k)]) hx hb dX9_eatPoles_67 hl (k := 0) rfl (by rw [ev_11]; rfl) (by decide) rfl ?_
              clear hl
              intro ls hl
              refine lv_goto (tgt := 2) hx hb dX9_eatPoles_70 (by decide) ?_
              exact ih2 v_11 g2_k45 g2_k46 g2_k47 g2_k48 (by first | omega | decide | assumption | rfl) (by omega) ls _ _ (lv_sub hl [0, 1] rfl) (hP.sub [0, 1, 9, 8, 2, 3, 4, 10, 5, 6, 7] rfl) (hD.sub [0, 1, 9, 8, 2, 3, 4, 10, 5, 6, 7] (by decide) rfl) hS
            · refine lv_aload_n hx hb dX9_eatPoles_36 rfl (lv_at hl 1 rfl) ?_
              refine va_get (D := D) (ci := 9) (v := .int c8) (C := RX9) (T := TX9) (N := 9) hx hb hT giX9 hown hK hP 0 rfl rfl 8 (by decide) (hT (Cond.fieldLink RX9 45 "DesertWire$World" "day" "I") mw_108) (fun _ h9 => h9) rfl dX9_eatPoles_37 ?_
              refine lv_iconst (v := 1) hx hb dX9_eatPoles_40 (by decide) ?_
              refine lv_iadd hx hb dX9_eatPoles_41 ?_
              refine lv_topi (fun v_12 ev_12 => ?_)
              have lo_v_12 := k_lo v_12
              have hi_v_12 := k_hi v_12
              refine lv_aload_n hx hb dX9_eatPoles_42 rfl (lv_at hl 1 rfl) ?_
              refine va_get (D := D) (ci := 9) (v := .ref k4) (C := RX9) (T := TX9) (N := 9) hx hb hT giX9 hown hK hP 0 rfl rfl 4 (by decide) (hT (Cond.fieldLink RX9 27 "DesertWire$World" "works" "LDesertWire$Works;") mw_97) (fun _ h9 => h9) rfl dX9_eatPoles_43 ?_
              refine lv_iload_n hx hb dX9_eatPoles_46 rfl (lv_at hl 0 rfl) ?_
              refine kJi (wr := [(k, .inr (9, [.ref k0, .ref k1, .ref k2, .ref k3, .ref k4, .ref k5, .int c6, .int c7, .int c8])), (k1, .inl (cI, 40, .inl c1)), (k41, .inl (cI, 60, .inl c41)), (k42, .inl (cI, 60, .inl c42)), (k46, .inl (cI, 40, .inl g2_k46)), (k47, .inl (cI, 40, .inl g2_k47)), (k48, .inl (cI, 40, .inl g2_k48)), (k40, .inl (cI, 60, .inl c40)), (k45, .inl (cI, 60, .inl g2_k45))]) (va_runV (As := [.int l2_1]) (rest := [.int v_12]) ⟨hx, hb, hml, hown, hT⟩ (c_X8_sinceOfG l D cI aK aV k4 k40 k41 k42 k43 k44 k45 k46 k47 k48 H.size c49 c43 l2_1) (cwV 1 hT (gV_in mw_403 mw_414 mw_401 mw_402 mw_3) rfl rfl rfl (by decide +kernel) ⟨Nat.le_of_ble_eq_true rfl, Nat.le_of_ble_eq_true rfl⟩) (kRecvX (q0 := 9) (ci := 8) hK hP hD hN hXS hS hA rfl rfl [9, 4] rfl (by decide)) rfl rfl hl.1 rfl (lv_room (Nat.le_of_ble_eq_true rfl)) dX9_eatPoles_47 ⟨Nat.le_of_ble_eq_true rfl, Nat.le_of_ble_eq_true rfl⟩) hP hD hS hA [9, 4] [0, 1, 2, 3, 5, 6, 7, 8, 10] rfl rfl (by decide) (by decide) ?_
              clear hP hD hS
              intro r_13 u_15 H locs w_14 hP hD hS
              replace hP : va_P D vwCl [(k, .inr (9, [.ref k0, .ref k1, .ref k2, .ref k3, .ref k4, .ref k5, .int c6, .int c7, .int c8])), (k1, .inl (cI, 40, .inl c1)), (k41, .inl (cI, 60, .inl c41)), (k42, .inl (cI, 60, .inl c42)), (k46, .inl (cI, 40, .inl g2_k46)), (k47, .inl (cI, 40, .inl g2_k47)), (k48, .inl (cI, 40, .inl g2_k48)), (k40, .inl (cI, 60, .inl c40)), (k45, .inl (cI, 60, .inl g2_k45)), (k4, .inr (8, [.ref k40, .ref k41, .ref k42, .ref k43, .ref k44, .ref k45, .ref k46, .ref k47, .ref k48, .int c49])), (k43, .inl (cI, 60, .inl c43))] H := hP
              replace hD : va_D A [(k, .inr (9, [.ref k0, .ref k1, .ref k2, .ref k3, .ref k4, .ref k5, .int c6, .int c7, .int c8])), (k1, .inl (cI, 40, .inl c1)), (k41, .inl (cI, 60, .inl c41)), (k42, .inl (cI, 60, .inl c42)), (k46, .inl (cI, 40, .inl g2_k46)), (k47, .inl (cI, 40, .inl g2_k47)), (k48, .inl (cI, 40, .inl g2_k48)), (k40, .inl (cI, 60, .inl c40)), (k45, .inl (cI, 60, .inl g2_k45)), (k4, .inr (8, [.ref k40, .ref k41, .ref k42, .ref k43, .ref k44, .ref k45, .ref k46, .ref k47, .ref k48, .int c49])), (k43, .inl (cI, 60, .inl c43))] := hD
              have lo_r_13 := k_lo r_13
              have hi_r_13 := k_hi r_13
              refine lv_isub hx hb dX9_eatPoles_50 ?_
              refine lv_topi (fun v_16 ev_16 => ?_)
              have lo_v_16 := k_lo v_16
              have hi_v_16 := k_hi v_16
              refine lv_aload_n hx hb dX9_eatPoles_51 rfl (lv_at hl 1 rfl) ?_
              refine lv_iload_n hx hb dX9_eatPoles_52 rfl (lv_at hl 0 rfl) ?_
              refine kJi (wr := [(k42, .inl (cI, 60, .inl c42)), (k46, .inl (cI, 40, .inl g2_k46)), (k47, .inl (cI, 40, .inl g2_k47)), (k48, .inl (cI, 40, .inl g2_k48)), (k40, .inl (cI, 60, .inl c40)), (k45, .inl (cI, 60, .inl g2_k45)), (k43, .inl (cI, 60, .inl c43))]) (va_runV (As := [.int l2_1]) (rest := [.int v_16]) ⟨hx, hb, hml, hown, hT⟩ (c_X9_lifeOfG l D cI aK aV k k0 k1 k2 k3 k4 k5 k40 k41 k42 k43 k44 k45 k46 k47 k48 H.size c6 c7 c8 c1 c49 c41 l2_1) (cwV 1 hT (gV_in mw_418 mw_415 mw_417 mw_p1_2 mw_2) rfl rfl rfl (by decide +kernel) ⟨Nat.le_of_ble_eq_true rfl, Nat.le_of_ble_eq_true rfl⟩) (kRecvX (q0 := 0) (ci := 9) hK hP hD hN hXS hS hA rfl rfl [0, 1, 9, 2] rfl (by decide)) rfl rfl hl.1 rfl (lv_room (Nat.le_of_ble_eq_true rfl)) dX9_eatPoles_53 ⟨Nat.le_of_ble_eq_true rfl, Nat.le_of_ble_eq_true rfl⟩) hP hD hS hA [0, 1, 9, 2] [3, 4, 5, 6, 7, 8, 10] rfl rfl (by decide) (by decide) ?_
              clear hP hD hS
              intro r_17 u_19 H locs w_18 hP hD hS
              replace hP : va_P D vwCl [(k42, .inl (cI, 60, .inl c42)), (k46, .inl (cI, 40, .inl g2_k46)), (k47, .inl (cI, 40, .inl g2_k47)), (k48, .inl (cI, 40, .inl g2_k48)), (k40, .inl (cI, 60, .inl c40)), (k45, .inl (cI, 60, .inl g2_k45)), (k43, .inl (cI, 60, .inl c43)), (k, .inr (9, [.ref k0, .ref k1, .ref k2, .ref k3, .ref k4, .ref k5, .int c6, .int c7, .int c8])), (k1, .inl (cI, 40, .inl c1)), (k4, .inr (8, [.ref k40, .ref k41, .ref k42, .ref k43, .ref k44, .ref k45, .ref k46, .ref k47, .ref k48, .int c49])), (k41, .inl (cI, 60, .inl c41))] H := hP
              replace hD : va_D A [(k42, .inl (cI, 60, .inl c42)), (k46, .inl (cI, 40, .inl g2_k46)), (k47, .inl (cI, 40, .inl g2_k47)), (k48, .inl (cI, 40, .inl g2_k48)), (k40, .inl (cI, 60, .inl c40)), (k45, .inl (cI, 60, .inl g2_k45)), (k43, .inl (cI, 60, .inl c43)), (k, .inr (9, [.ref k0, .ref k1, .ref k2, .ref k3, .ref k4, .ref k5, .int c6, .int c7, .int c8])), (k1, .inl (cI, 40, .inl c1)), (k4, .inr (8, [.ref k40, .ref k41, .ref k42, .ref k43, .ref k44, .ref k45, .ref k46, .ref k47, .ref k48, .int c49])), (k41, .inl (cI, 60, .inl c41))] := hD
              have lo_r_17 := k_lo r_17
              have hi_r_17 := k_hi r_17
              refine b_icmp_lt hx hb rfl rfl (tgt := 67) dX9_eatPoles_56 (by decide) (fun c_20 => ?_) (fun c_20 => ?_)
              · obtain ⟨v_21, ev_21⟩ : ∃ y : Int32, y = l2_1 + 1 := ⟨_, rfl⟩
                have tv_21 : v_21.toInt = l2_1.toInt + 1 := by rw [ev_21]; exact k_addv rfl zl_1 (by omega) (by omega)
                refine lv_iinc (v := v_21) (lv' := [(1, .int v_21), (0, .ref k)]) hx hb dX9_eatPoles_67 hl (k := 0) rfl (by rw [ev_21]; rfl) (by decide) rfl ?_
                clear hl
                intro ls hl
                refine lv_goto (tgt := 2) hx hb dX9_eatPoles_70 (by decide) ?_
                exact ih2 v_21 g2_k45 g2_k46 g2_k47 g2_k48 (by first | omega | decide | assumption | rfl) (by omega) ls _ _ (lv_sub hl [0, 1] rfl) (hP.sub [7, 8, 9, 4, 10, 0, 6, 5, 1, 2, 3] rfl) (hD.sub [7, 8, 9, 4, 10, 0, 6, 5, 1, 2, 3] (by decide) rfl) hS
              · refine lv_aload_n hx hb dX9_eatPoles_59 rfl (lv_at hl 1 rfl) ?_
                refine va_get (D := D) (ci := 9) (v := .ref k4) (C := RX9) (T := TX9) (N := 9) hx hb hT giX9 hown hK hP 7 rfl rfl 4 (by decide) (hT (Cond.fieldLink RX9 27 "DesertWire$World" "works" "LDesertWire$Works;") mw_97) (fun _ h9 => h9) rfl dX9_eatPoles_60 ?_
                refine lv_iload_n hx hb dX9_eatPoles_63 rfl (lv_at hl 0 rfl) ?_
                refine kJv (wr := [(k43, .inl (cI, 60, .inl c43)), (k, .inr (9, [.ref k0, .ref k1, .ref k2, .ref k3, .ref k4, .ref k5, .int c6, .int c7, .int c8])), (k1, .inl (cI, 40, .inl c1))]) (va_runV (As := [.int l2_1]) (rest := []) ⟨hx, hb, hml, hown, hT⟩ (c_X8_bringDownG l D cI aK aV k4 k40 k41 k42 k43 k44 k45 k46 k47 k48 H.size c49 c40 c41 c42 g2_k45 g2_k46 g2_k47 g2_k48 l2_1) (cwV 1 hT (gV_in mw_603 mw_972 mw_601 mw_602 mw_3) rfl rfl rfl (by decide +kernel) ⟨Nat.le_of_ble_eq_true rfl, Nat.le_of_ble_eq_true rfl⟩) (kRecvX (q0 := 9) (ci := 8) hK hP hD hN hXS hS hA rfl rfl [9, 4, 10, 0, 5, 1, 2, 3] rfl (by decide)) rfl rfl hl.1 rfl (lv_room (Nat.le_of_ble_eq_true rfl)) dX9_eatPoles_64 ⟨Nat.le_of_ble_eq_true rfl, Nat.le_of_ble_eq_true rfl⟩) hP hD hS hA [9, 4, 10, 0, 5, 1, 2, 3] [6, 7, 8] rfl rfl (by decide) (by decide) ?_
                clear hP hD hS
                intro u_28 H locs w_23 hP hD hS
                obtain ⟨sc5_24, sc6_25, sc7_26, sc8_27⟩ := u_28
                replace hP : va_P D vwCl [(k43, .inl (cI, 60, .inl c43)), (k, .inr (9, [.ref k0, .ref k1, .ref k2, .ref k3, .ref k4, .ref k5, .int c6, .int c7, .int c8])), (k1, .inl (cI, 40, .inl c1)), (k4, .inr (8, [.ref k40, .ref k41, .ref k42, .ref k43, .ref k44, .ref k45, .ref k46, .ref k47, .ref k48, .int c49])), (k40, .inl (cI, 60, .inl c40)), (k41, .inl (cI, 60, .inl c41)), (k42, .inl (cI, 60, .inl c42)), (k45, .inl (cI, 60, .inl sc5_24)), (k46, .inl (cI, 40, .inl sc6_25)), (k47, .inl (cI, 40, .inl sc7_26)), (k48, .inl (cI, 40, .inl sc8_27))] H := hP
                replace hD : va_D A [(k43, .inl (cI, 60, .inl c43)), (k, .inr (9, [.ref k0, .ref k1, .ref k2, .ref k3, .ref k4, .ref k5, .int c6, .int c7, .int c8])), (k1, .inl (cI, 40, .inl c1)), (k4, .inr (8, [.ref k40, .ref k41, .ref k42, .ref k43, .ref k44, .ref k45, .ref k46, .ref k47, .ref k48, .int c49])), (k40, .inl (cI, 60, .inl c40)), (k41, .inl (cI, 60, .inl c41)), (k42, .inl (cI, 60, .inl c42)), (k45, .inl (cI, 60, .inl sc5_24)), (k46, .inl (cI, 40, .inl sc6_25)), (k47, .inl (cI, 40, .inl sc7_26)), (k48, .inl (cI, 40, .inl sc8_27))] := hD
                obtain ⟨v_29, ev_29⟩ : ∃ y : Int32, y = l2_1 + 1 := ⟨_, rfl⟩
                have tv_29 : v_29.toInt = l2_1.toInt + 1 := by rw [ev_29]; exact k_addv rfl zl_1 (by omega) (by omega)
                refine lv_iinc (v := v_29) (lv' := [(1, .int v_29), (0, .ref k)]) hx hb dX9_eatPoles_67 hl (k := 0) rfl (by rw [ev_29]; rfl) (by decide) rfl ?_
                clear hl
                intro ls hl
                refine lv_goto (tgt := 2) hx hb dX9_eatPoles_70 (by decide) ?_
                exact ih2 v_29 sc5_24 sc6_25 sc7_26 sc8_27 (by first | omega | decide | assumption | rfl) (by omega) ls _ _ (lv_sub hl [0, 1] rfl) (hP.sub [1, 2, 3, 4, 5, 6, 0, 7, 8, 9, 10] rfl) (hD.sub [1, 2, 3, 4, 5, 6, 0, 7, 8, 9, 10] (by decide) rfl) hS
  exact hloop_2 _ 0 c45 c46 c47 c48 (by first | omega | (simp only [zl_0]; first | done | omega) | decide | assumption | rfl) (Nat.lt_succ_self _) ls _ _ (lv_sub hl [0, 1] rfl) hP hD hS
theorem dX9_drinkOf_0 : decode cX9_drinkOf 0 = .ok (.aload_n 0, 1) := by decide +kernel
theorem dX9_drinkOf_1 : decode cX9_drinkOf 1 = .ok (.getfield 34, 3) := by decide +kernel
theorem dX9_drinkOf_4 : decode cX9_drinkOf 4 = .ok (.iload_n 1, 1) := by decide +kernel
theorem dX9_drinkOf_5 : decode cX9_drinkOf 5 = .ok (.iconst 0, 1) := by decide +kernel
theorem dX9_drinkOf_6 : decode cX9_drinkOf 6 = .ok (.invokevirtual 130, 3) := by decide +kernel
theorem dX9_drinkOf_9 : decode cX9_drinkOf 9 = .ok (.istore_n 2, 1) := by decide +kernel
theorem dX9_drinkOf_10 : decode cX9_drinkOf 10 = .ok (.aload_n 0, 1) := by decide +kernel
theorem dX9_drinkOf_11 : decode cX9_drinkOf 11 = .ok (.getfield 34, 3) := by decide +kernel
theorem dX9_drinkOf_14 : decode cX9_drinkOf 14 = .ok (.iload_n 1, 1) := by decide +kernel
theorem dX9_drinkOf_15 : decode cX9_drinkOf 15 = .ok (.iconst 2, 1) := by decide +kernel
theorem dX9_drinkOf_16 : decode cX9_drinkOf 16 = .ok (.invokevirtual 130, 3) := by decide +kernel
theorem dX9_drinkOf_19 : decode cX9_drinkOf 19 = .ok (.istore_n 3, 1) := by decide +kernel
theorem dX9_drinkOf_20 : decode cX9_drinkOf 20 = .ok (.aload_n 0, 1) := by decide +kernel
theorem dX9_drinkOf_21 : decode cX9_drinkOf 21 = .ok (.getfield 34, 3) := by decide +kernel
theorem dX9_drinkOf_24 : decode cX9_drinkOf 24 = .ok (.iload_n 1, 1) := by decide +kernel
theorem dX9_drinkOf_25 : decode cX9_drinkOf 25 = .ok (.iconst 3, 1) := by decide +kernel
theorem dX9_drinkOf_26 : decode cX9_drinkOf 26 = .ok (.invokevirtual 130, 3) := by decide +kernel
theorem dX9_drinkOf_29 : decode cX9_drinkOf 29 = .ok (.istore 4, 2) := by decide +kernel
theorem dX9_drinkOf_31 : decode cX9_drinkOf 31 = .ok (.aload_n 0, 1) := by decide +kernel
theorem dX9_drinkOf_32 : decode cX9_drinkOf 32 = .ok (.getfield 34, 3) := by decide +kernel
theorem dX9_drinkOf_35 : decode cX9_drinkOf 35 = .ok (.iload_n 1, 1) := by decide +kernel
theorem dX9_drinkOf_36 : decode cX9_drinkOf 36 = .ok (.bipush 6, 2) := by decide +kernel
theorem dX9_drinkOf_38 : decode cX9_drinkOf 38 = .ok (.invokevirtual 130, 3) := by decide +kernel
theorem dX9_drinkOf_41 : decode cX9_drinkOf 41 = .ok (.istore 5, 2) := by decide +kernel
theorem dX9_drinkOf_43 : decode cX9_drinkOf 43 = .ok (.iload 5, 2) := by decide +kernel
theorem dX9_drinkOf_45 : decode cX9_drinkOf 45 = .ok (.aload_n 0, 1) := by decide +kernel
theorem dX9_drinkOf_46 : decode cX9_drinkOf 46 = .ok (.iload_n 2, 1) := by decide +kernel
theorem dX9_drinkOf_47 : decode cX9_drinkOf 47 = .ok (.invokevirtual 139, 3) := by decide +kernel
theorem dX9_drinkOf_50 : decode cX9_drinkOf 50 = .ok (.iadd, 1) := by decide +kernel
theorem dX9_drinkOf_51 : decode cX9_drinkOf 51 = .ok (.aload_n 0, 1) := by decide +kernel
theorem dX9_drinkOf_52 : decode cX9_drinkOf 52 = .ok (.getfield 27, 3) := by decide +kernel
theorem dX9_drinkOf_55 : decode cX9_drinkOf 55 = .ok (.iload_n 2, 1) := by decide +kernel
theorem dX9_drinkOf_56 : decode cX9_drinkOf 56 = .ok (.invokevirtual 142, 3) := by decide +kernel
theorem dX9_drinkOf_59 : decode cX9_drinkOf 59 = .ok (.iadd, 1) := by decide +kernel
theorem dX9_drinkOf_60 : decode cX9_drinkOf 60 = .ok (.bipush 50, 2) := by decide +kernel
theorem dX9_drinkOf_62 : decode cX9_drinkOf 62 = .ok (.iload_n 3, 1) := by decide +kernel
theorem dX9_drinkOf_63 : decode cX9_drinkOf 63 = .ok (.iload 4, 2) := by decide +kernel
theorem dX9_drinkOf_65 : decode cX9_drinkOf 65 = .ok (.iadd, 1) := by decide +kernel
theorem dX9_drinkOf_66 : decode cX9_drinkOf 66 = .ok (.imul, 1) := by decide +kernel
theorem dX9_drinkOf_67 : decode cX9_drinkOf 67 = .ok (.invokestatic 93, 3) := by decide +kernel
theorem dX9_drinkOf_70 : decode cX9_drinkOf 70 = .ok (.istore 6, 2) := by decide +kernel
theorem dX9_drinkOf_72 : decode cX9_drinkOf 72 = .ok (.iload 5, 2) := by decide +kernel
theorem dX9_drinkOf_74 : decode cX9_drinkOf 74 = .ok (.iload 6, 2) := by decide +kernel
theorem dX9_drinkOf_76 : decode cX9_drinkOf 76 = .ok (.invokestatic 113, 3) := by decide +kernel
theorem dX9_drinkOf_79 : decode cX9_drinkOf 79 = .ok (.iload_n 3, 1) := by decide +kernel
theorem dX9_drinkOf_80 : decode cX9_drinkOf 80 = .ok (.isub, 1) := by decide +kernel
theorem dX9_drinkOf_81 : decode cX9_drinkOf 81 = .ok (.iconst 2, 1) := by decide +kernel
theorem dX9_drinkOf_82 : decode cX9_drinkOf 82 = .ok (.iload 4, 2) := by decide +kernel
theorem dX9_drinkOf_84 : decode cX9_drinkOf 84 = .ok (.imul, 1) := by decide +kernel
theorem dX9_drinkOf_85 : decode cX9_drinkOf 85 = .ok (.isub, 1) := by decide +kernel
theorem dX9_drinkOf_86 : decode cX9_drinkOf 86 = .ok (.istore 7, 2) := by decide +kernel
theorem dX9_drinkOf_88 : decode cX9_drinkOf 88 = .ok (.aload_n 0, 1) := by decide +kernel
theorem dX9_drinkOf_89 : decode cX9_drinkOf 89 = .ok (.getfield 34, 3) := by decide +kernel
theorem dX9_drinkOf_92 : decode cX9_drinkOf 92 = .ok (.iload_n 1, 1) := by decide +kernel
theorem dX9_drinkOf_93 : decode cX9_drinkOf 93 = .ok (.bipush 6, 2) := by decide +kernel
theorem dX9_drinkOf_95 : decode cX9_drinkOf 95 = .ok (.iconst 0, 1) := by decide +kernel
theorem dX9_drinkOf_96 : decode cX9_drinkOf 96 = .ok (.iload 7, 2) := by decide +kernel
theorem dX9_drinkOf_98 : decode cX9_drinkOf 98 = .ok (.invokestatic 113, 3) := by decide +kernel
theorem dX9_drinkOf_101 : decode cX9_drinkOf 101 = .ok (.invokevirtual 145, 3) := by decide +kernel
theorem dX9_drinkOf_104 : decode cX9_drinkOf 104 = .ok (.iload 7, 2) := by decide +kernel
theorem dX9_drinkOf_106 : decode cX9_drinkOf 106 = .ok (.ifCond .ge 22, 3) := by decide +kernel
theorem dX9_drinkOf_109 : decode cX9_drinkOf 109 = .ok (.aload_n 0, 1) := by decide +kernel
theorem dX9_drinkOf_110 : decode cX9_drinkOf 110 = .ok (.getfield 34, 3) := by decide +kernel
theorem dX9_drinkOf_113 : decode cX9_drinkOf 113 = .ok (.iload_n 1, 1) := by decide +kernel
theorem dX9_drinkOf_114 : decode cX9_drinkOf 114 = .ok (.iload 4, 2) := by decide +kernel
theorem dX9_drinkOf_116 : decode cX9_drinkOf 116 = .ok (.ifCond .le 7, 3) := by decide +kernel
theorem dX9_drinkOf_119 : decode cX9_drinkOf 119 = .ok (.iconst 3, 1) := by decide +kernel
theorem dX9_drinkOf_120 : decode cX9_drinkOf 120 = .ok (.goto 4, 3) := by decide +kernel
theorem dX9_drinkOf_123 : decode cX9_drinkOf 123 = .ok (.iconst 2, 1) := by decide +kernel
theorem dX9_drinkOf_124 : decode cX9_drinkOf 124 = .ok (.iconst (-1), 1) := by decide +kernel
theorem dX9_drinkOf_125 : decode cX9_drinkOf 125 = .ok (.invokevirtual 149, 3) := by decide +kernel
theorem dX9_drinkOf_128 : decode cX9_drinkOf 128 = .ok (.return_, 1) := by decide +kernel
set_option maxHeartbeats 4000000 in
set_option maxRecDepth 100000 in
theorem c_X9_drinkOfG (l : Launch) (D : va_G) (cI : ClassId) (aK aV : Nat → Nat) (k k0 k1 k2 k3 k4 k5 k40 k41 k42 k43 k44 k45 k46 k47 k48 k50 : Nat) (sz : Nat) (c6 : Int32) (c7 : Int32) (c8 : Int32) (c2 : Nat → Int32) (c49 : Int32) (c51 : Int32) (c47 : Nat → Int32) (c50 : Nat → Int32) (a0 : Int32) : Met l yX9_drinkOf (gW yX9_drinkOf cX9_drinkOf 8 none) ({ frames := 3, cells := 0, slots := 0, locals := 67 } : Room) (kPreX D cI aK aV [.ref k, .int a0] [(k, .inr (9, [.ref k0, .ref k1, .ref k2, .ref k3, .ref k4, .ref k5, .int c6, .int c7, .int c8])), (k2, .inl (cI, 40, .inl c2)), (k4, .inr (8, [.ref k40, .ref k41, .ref k42, .ref k43, .ref k44, .ref k45, .ref k46, .ref k47, .ref k48, .int c49])), (k5, .inr (3, [.ref k50, .int c51])), (k47, .inl (cI, 40, .inl c47)), (k50, .inl (cI, 36, .inl c50))] sz) (va_Qv (fun (u : (Nat → Int32)) => True) (fun u t => kWd D cI (va_A [(k, .inr (9, [.ref k0, .ref k1, .ref k2, .ref k3, .ref k4, .ref k5, .int c6, .int c7, .int c8])), (k2, .inl (cI, 40, .inl c2)), (k4, .inr (8, [.ref k40, .ref k41, .ref k42, .ref k43, .ref k44, .ref k45, .ref k46, .ref k47, .ref k48, .int c49])), (k5, .inr (3, [.ref k50, .int c51])), (k47, .inl (cI, 40, .inl c47)), (k50, .inl (cI, 36, .inl c50))] sz) [(k, .inr (9, [.ref k0, .ref k1, .ref k2, .ref k3, .ref k4, .ref k5, .int c6, .int c7, .int c8])), (k2, .inl (cI, 40, .inl c2)), (k4, .inr (8, [.ref k40, .ref k41, .ref k42, .ref k43, .ref k44, .ref k45, .ref k46, .ref k47, .ref k48, .int c49])), (k5, .inr (3, [.ref k50, .int c51])), (k47, .inl (cI, 40, .inl c47)), (k50, .inl (cI, 36, .inl u))] t) (va_A [(k, .inr (9, [.ref k0, .ref k1, .ref k2, .ref k3, .ref k4, .ref k5, .int c6, .int c7, .int c8])), (k2, .inl (cI, 40, .inl c2)), (k4, .inr (8, [.ref k40, .ref k41, .ref k42, .ref k43, .ref k44, .ref k45, .ref k46, .ref k47, .ref k48, .int c49])), (k5, .inr (3, [.ref k50, .int c51])), (k47, .inl (cI, 40, .inl c47)), (k50, .inl (cI, 36, .inl c50))] sz)) 0 0 (va_A [(k, .inr (9, [.ref k0, .ref k1, .ref k2, .ref k3, .ref k4, .ref k5, .int c6, .int c7, .int c8])), (k2, .inl (cI, 40, .inl c2)), (k4, .inr (8, [.ref k40, .ref k41, .ref k42, .ref k43, .ref k44, .ref k45, .ref k46, .ref k47, .ref k48, .int c49])), (k5, .inr (3, [.ref k50, .int c51])), (k47, .inl (cI, 40, .inl c47)), (k50, .inl (cI, 36, .inl c50))] sz) := by
  refine kMetVX (own := RX9) (by decide) rfl (Nat.le_of_ble_eq_true rfl) ?_
  intro p e s m args below meth c hx hb hT hown hname hml A Q hK hP hD hS hA hN hXS hRet ls hl
  have hl : lv_has ls 8 [(0, .ref k), (1, .int a0)] := hl
  have lo_a0 := k_lo a0
  have hi_a0 := k_hi a0
  refine lv_aload_n hx hb dX9_drinkOf_0 rfl (lv_at hl 0 rfl) ?_
  refine va_get (D := D) (ci := 9) (v := .ref k5) (C := RX9) (T := TX9) (N := 9) hx hb hT giX9 hown hK hP 0 rfl rfl 5 (by decide) (hT (Cond.fieldLink RX9 34 "DesertWire$World" "parties" "LDesertWire$Parties;") mw_100) (fun _ h9 => h9) rfl dX9_drinkOf_1 ?_
  refine lv_iload_n hx hb dX9_drinkOf_4 rfl (lv_at hl 1 rfl) ?_
  refine lv_iconst (v := 0) hx hb dX9_drinkOf_5 (by decide) ?_
  refine kJi (wr := [(k, .inr (9, [.ref k0, .ref k1, .ref k2, .ref k3, .ref k4, .ref k5, .int c6, .int c7, .int c8])), (k2, .inl (cI, 40, .inl c2)), (k4, .inr (8, [.ref k40, .ref k41, .ref k42, .ref k43, .ref k44, .ref k45, .ref k46, .ref k47, .ref k48, .int c49])), (k47, .inl (cI, 40, .inl c47))]) (va_runV (As := [.int a0, .int 0]) (rest := []) ⟨hx, hb, hml, hown, hT⟩ (c_X3_getG l D cI aK aV k5 k50 s.heap.size c51 c50 a0 0) (cwV 2 hT (gV_in mw_726 mw_978 mw_724 mw_725 mw_4) rfl rfl rfl (by decide +kernel) ⟨Nat.le_of_ble_eq_true rfl, Nat.le_of_ble_eq_true rfl⟩) (kRecvX (q0 := 3) (ci := 3) hK hP hD hN hXS hS hA rfl rfl [3, 5] rfl (by decide)) rfl rfl hl.1 rfl (lv_room (Nat.le_of_ble_eq_true rfl)) dX9_drinkOf_6 ⟨Nat.le_of_ble_eq_true rfl, Nat.le_of_ble_eq_true rfl⟩) hP hD hS hA [3, 5] [0, 1, 2, 4] rfl rfl (by decide) (by decide) ?_
  clear hP hD hS
  intro r_1 u_3 H locs w_2 hP hD hS
  replace hP : va_P D vwCl [(k, .inr (9, [.ref k0, .ref k1, .ref k2, .ref k3, .ref k4, .ref k5, .int c6, .int c7, .int c8])), (k2, .inl (cI, 40, .inl c2)), (k4, .inr (8, [.ref k40, .ref k41, .ref k42, .ref k43, .ref k44, .ref k45, .ref k46, .ref k47, .ref k48, .int c49])), (k47, .inl (cI, 40, .inl c47)), (k5, .inr (3, [.ref k50, .int c51])), (k50, .inl (cI, 36, .inl c50))] H := hP
  replace hD : va_D A [(k, .inr (9, [.ref k0, .ref k1, .ref k2, .ref k3, .ref k4, .ref k5, .int c6, .int c7, .int c8])), (k2, .inl (cI, 40, .inl c2)), (k4, .inr (8, [.ref k40, .ref k41, .ref k42, .ref k43, .ref k44, .ref k45, .ref k46, .ref k47, .ref k48, .int c49])), (k47, .inl (cI, 40, .inl c47)), (k5, .inr (3, [.ref k50, .int c51])), (k50, .inl (cI, 36, .inl c50))] := hD
  have lo_r_1 := k_lo r_1
  have hi_r_1 := k_hi r_1
  refine lv_istore_n (lv' := [(2, .int r_1), (0, .ref k), (1, .int a0)]) hx hb dX9_drinkOf_9 rfl hl (by decide) rfl ?_
  clear hl
  intro ls hl
  refine lv_aload_n hx hb dX9_drinkOf_10 rfl (lv_at hl 1 rfl) ?_
  refine va_get (D := D) (ci := 9) (v := .ref k5) (C := RX9) (T := TX9) (N := 9) hx hb hT giX9 hown hK hP 0 rfl rfl 5 (by decide) (hT (Cond.fieldLink RX9 34 "DesertWire$World" "parties" "LDesertWire$Parties;") mw_100) (fun _ h9 => h9) rfl dX9_drinkOf_11 ?_
  refine lv_iload_n hx hb dX9_drinkOf_14 rfl (lv_at hl 2 rfl) ?_
  refine lv_iconst (v := 2) hx hb dX9_drinkOf_15 (by decide) ?_
  refine kJi (wr := [(k, .inr (9, [.ref k0, .ref k1, .ref k2, .ref k3, .ref k4, .ref k5, .int c6, .int c7, .int c8])), (k2, .inl (cI, 40, .inl c2)), (k4, .inr (8, [.ref k40, .ref k41, .ref k42, .ref k43, .ref k44, .ref k45, .ref k46, .ref k47, .ref k48, .int c49])), (k47, .inl (cI, 40, .inl c47))]) (va_runV (As := [.int a0, .int 2]) (rest := []) ⟨hx, hb, hml, hown, hT⟩ (c_X3_getG l D cI aK aV k5 k50 H.size c51 c50 a0 2) (cwV 2 hT (gV_in mw_726 mw_978 mw_724 mw_725 mw_4) rfl rfl rfl (by decide +kernel) ⟨Nat.le_of_ble_eq_true rfl, Nat.le_of_ble_eq_true rfl⟩) (kRecvX (q0 := 4) (ci := 3) hK hP hD hN hXS hS hA rfl rfl [4, 5] rfl (by decide)) rfl rfl hl.1 rfl (lv_room (Nat.le_of_ble_eq_true rfl)) dX9_drinkOf_16 ⟨Nat.le_of_ble_eq_true rfl, Nat.le_of_ble_eq_true rfl⟩) hP hD hS hA [4, 5] [0, 1, 2, 3] rfl rfl (by decide) (by decide) ?_
  clear hP hD hS
  intro r_4 u_6 H locs w_5 hP hD hS
  replace hP : va_P D vwCl [(k, .inr (9, [.ref k0, .ref k1, .ref k2, .ref k3, .ref k4, .ref k5, .int c6, .int c7, .int c8])), (k2, .inl (cI, 40, .inl c2)), (k4, .inr (8, [.ref k40, .ref k41, .ref k42, .ref k43, .ref k44, .ref k45, .ref k46, .ref k47, .ref k48, .int c49])), (k47, .inl (cI, 40, .inl c47)), (k5, .inr (3, [.ref k50, .int c51])), (k50, .inl (cI, 36, .inl c50))] H := hP
  replace hD : va_D A [(k, .inr (9, [.ref k0, .ref k1, .ref k2, .ref k3, .ref k4, .ref k5, .int c6, .int c7, .int c8])), (k2, .inl (cI, 40, .inl c2)), (k4, .inr (8, [.ref k40, .ref k41, .ref k42, .ref k43, .ref k44, .ref k45, .ref k46, .ref k47, .ref k48, .int c49])), (k47, .inl (cI, 40, .inl c47)), (k5, .inr (3, [.ref k50, .int c51])), (k50, .inl (cI, 36, .inl c50))] := hD
  have lo_r_4 := k_lo r_4
  have hi_r_4 := k_hi r_4
  refine lv_istore_n (lv' := [(3, .int r_4), (2, .int r_1), (0, .ref k), (1, .int a0)]) hx hb dX9_drinkOf_19 rfl hl (by decide) rfl ?_
  clear hl
  intro ls hl
  refine lv_aload_n hx hb dX9_drinkOf_20 rfl (lv_at hl 2 rfl) ?_
  refine va_get (D := D) (ci := 9) (v := .ref k5) (C := RX9) (T := TX9) (N := 9) hx hb hT giX9 hown hK hP 0 rfl rfl 5 (by decide) (hT (Cond.fieldLink RX9 34 "DesertWire$World" "parties" "LDesertWire$Parties;") mw_100) (fun _ h9 => h9) rfl dX9_drinkOf_21 ?_
  refine lv_iload_n hx hb dX9_drinkOf_24 rfl (lv_at hl 3 rfl) ?_
  refine lv_iconst (v := 3) hx hb dX9_drinkOf_25 (by decide) ?_
  refine kJi (wr := [(k, .inr (9, [.ref k0, .ref k1, .ref k2, .ref k3, .ref k4, .ref k5, .int c6, .int c7, .int c8])), (k2, .inl (cI, 40, .inl c2)), (k4, .inr (8, [.ref k40, .ref k41, .ref k42, .ref k43, .ref k44, .ref k45, .ref k46, .ref k47, .ref k48, .int c49])), (k47, .inl (cI, 40, .inl c47))]) (va_runV (As := [.int a0, .int 3]) (rest := []) ⟨hx, hb, hml, hown, hT⟩ (c_X3_getG l D cI aK aV k5 k50 H.size c51 c50 a0 3) (cwV 2 hT (gV_in mw_726 mw_978 mw_724 mw_725 mw_4) rfl rfl rfl (by decide +kernel) ⟨Nat.le_of_ble_eq_true rfl, Nat.le_of_ble_eq_true rfl⟩) (kRecvX (q0 := 4) (ci := 3) hK hP hD hN hXS hS hA rfl rfl [4, 5] rfl (by decide)) rfl rfl hl.1 rfl (lv_room (Nat.le_of_ble_eq_true rfl)) dX9_drinkOf_26 ⟨Nat.le_of_ble_eq_true rfl, Nat.le_of_ble_eq_true rfl⟩) hP hD hS hA [4, 5] [0, 1, 2, 3] rfl rfl (by decide) (by decide) ?_
  clear hP hD hS
  intro r_7 u_9 H locs w_8 hP hD hS
  replace hP : va_P D vwCl [(k, .inr (9, [.ref k0, .ref k1, .ref k2, .ref k3, .ref k4, .ref k5, .int c6, .int c7, .int c8])), (k2, .inl (cI, 40, .inl c2)), (k4, .inr (8, [.ref k40, .ref k41, .ref k42, .ref k43, .ref k44, .ref k45, .ref k46, .ref k47, .ref k48, .int c49])), (k47, .inl (cI, 40, .inl c47)), (k5, .inr (3, [.ref k50, .int c51])), (k50, .inl (cI, 36, .inl c50))] H := hP
  replace hD : va_D A [(k, .inr (9, [.ref k0, .ref k1, .ref k2, .ref k3, .ref k4, .ref k5, .int c6, .int c7, .int c8])), (k2, .inl (cI, 40, .inl c2)), (k4, .inr (8, [.ref k40, .ref k41, .ref k42, .ref k43, .ref k44, .ref k45, .ref k46, .ref k47, .ref k48, .int c49])), (k47, .inl (cI, 40, .inl c47)), (k5, .inr (3, [.ref k50, .int c51])), (k50, .inl (cI, 36, .inl c50))] := hD
  have lo_r_7 := k_lo r_7
  have hi_r_7 := k_hi r_7
  refine lv_istore (lv' := [(4, .int r_7), (3, .int r_4), (2, .int r_1), (0, .ref k), (1, .int a0)]) hx hb dX9_drinkOf_29 hl (by decide) rfl ?_
  clear hl
  intro ls hl
  refine lv_aload_n hx hb dX9_drinkOf_31 rfl (lv_at hl 3 rfl) ?_
  refine va_get (D := D) (ci := 9) (v := .ref k5) (C := RX9) (T := TX9) (N := 9) hx hb hT giX9 hown hK hP 0 rfl rfl 5 (by decide) (hT (Cond.fieldLink RX9 34 "DesertWire$World" "parties" "LDesertWire$Parties;") mw_100) (fun _ h9 => h9) rfl dX9_drinkOf_32 ?_
  refine lv_iload_n hx hb dX9_drinkOf_35 rfl (lv_at hl 4 rfl) ?_
  refine lv_bipush (v := 6) hx hb dX9_drinkOf_36 (by decide) ?_
  refine kJi (wr := [(k, .inr (9, [.ref k0, .ref k1, .ref k2, .ref k3, .ref k4, .ref k5, .int c6, .int c7, .int c8])), (k2, .inl (cI, 40, .inl c2)), (k4, .inr (8, [.ref k40, .ref k41, .ref k42, .ref k43, .ref k44, .ref k45, .ref k46, .ref k47, .ref k48, .int c49])), (k47, .inl (cI, 40, .inl c47))]) (va_runV (As := [.int a0, .int 6]) (rest := []) ⟨hx, hb, hml, hown, hT⟩ (c_X3_getG l D cI aK aV k5 k50 H.size c51 c50 a0 6) (cwV 2 hT (gV_in mw_726 mw_978 mw_724 mw_725 mw_4) rfl rfl rfl (by decide +kernel) ⟨Nat.le_of_ble_eq_true rfl, Nat.le_of_ble_eq_true rfl⟩) (kRecvX (q0 := 4) (ci := 3) hK hP hD hN hXS hS hA rfl rfl [4, 5] rfl (by decide)) rfl rfl hl.1 rfl (lv_room (Nat.le_of_ble_eq_true rfl)) dX9_drinkOf_38 ⟨Nat.le_of_ble_eq_true rfl, Nat.le_of_ble_eq_true rfl⟩) hP hD hS hA [4, 5] [0, 1, 2, 3] rfl rfl (by decide) (by decide) ?_
  clear hP hD hS
  intro r_10 u_12 H locs w_11 hP hD hS
  replace hP : va_P D vwCl [(k, .inr (9, [.ref k0, .ref k1, .ref k2, .ref k3, .ref k4, .ref k5, .int c6, .int c7, .int c8])), (k2, .inl (cI, 40, .inl c2)), (k4, .inr (8, [.ref k40, .ref k41, .ref k42, .ref k43, .ref k44, .ref k45, .ref k46, .ref k47, .ref k48, .int c49])), (k47, .inl (cI, 40, .inl c47)), (k5, .inr (3, [.ref k50, .int c51])), (k50, .inl (cI, 36, .inl c50))] H := hP
  replace hD : va_D A [(k, .inr (9, [.ref k0, .ref k1, .ref k2, .ref k3, .ref k4, .ref k5, .int c6, .int c7, .int c8])), (k2, .inl (cI, 40, .inl c2)), (k4, .inr (8, [.ref k40, .ref k41, .ref k42, .ref k43, .ref k44, .ref k45, .ref k46, .ref k47, .ref k48, .int c49])), (k47, .inl (cI, 40, .inl c47)), (k5, .inr (3, [.ref k50, .int c51])), (k50, .inl (cI, 36, .inl c50))] := hD
  have lo_r_10 := k_lo r_10
  have hi_r_10 := k_hi r_10
  refine lv_istore (lv' := [(5, .int r_10), (4, .int r_7), (3, .int r_4), (2, .int r_1), (0, .ref k), (1, .int a0)]) hx hb dX9_drinkOf_41 hl (by decide) rfl ?_
  clear hl
  intro ls hl
  refine lv_iload hx hb dX9_drinkOf_43 (lv_at hl 0 rfl) ?_
  refine lv_aload_n hx hb dX9_drinkOf_45 rfl (lv_at hl 4 rfl) ?_
  refine lv_iload_n hx hb dX9_drinkOf_46 rfl (lv_at hl 3 rfl) ?_
  refine kJi (wr := [(k4, .inr (8, [.ref k40, .ref k41, .ref k42, .ref k43, .ref k44, .ref k45, .ref k46, .ref k47, .ref k48, .int c49])), (k47, .inl (cI, 40, .inl c47)), (k5, .inr (3, [.ref k50, .int c51])), (k50, .inl (cI, 36, .inl c50))]) (va_runV (As := [.int r_1]) (rest := [.int r_10]) ⟨hx, hb, hml, hown, hT⟩ (c_X9_springOfG l D cI aK aV k k0 k1 k2 k3 k4 k5 H.size c6 c7 c8 c2 r_1) (cwV 1 hT (gV_in mw_620 mw_979 mw_618 mw_619 mw_2) rfl rfl rfl (by decide +kernel) ⟨Nat.le_of_ble_eq_true rfl, Nat.le_of_ble_eq_true rfl⟩) (kRecvX (q0 := 0) (ci := 9) hK hP hD hN hXS hS hA rfl rfl [0, 1] rfl (by decide)) rfl rfl hl.1 rfl (lv_room (Nat.le_of_ble_eq_true rfl)) dX9_drinkOf_47 ⟨Nat.le_of_ble_eq_true rfl, Nat.le_of_ble_eq_true rfl⟩) hP hD hS hA [0, 1] [2, 3, 4, 5] rfl rfl (by decide) (by decide) ?_
  clear hP hD hS
  intro r_13 u_15 H locs w_14 hP hD hS
  replace hP : va_P D vwCl [(k4, .inr (8, [.ref k40, .ref k41, .ref k42, .ref k43, .ref k44, .ref k45, .ref k46, .ref k47, .ref k48, .int c49])), (k47, .inl (cI, 40, .inl c47)), (k5, .inr (3, [.ref k50, .int c51])), (k50, .inl (cI, 36, .inl c50)), (k, .inr (9, [.ref k0, .ref k1, .ref k2, .ref k3, .ref k4, .ref k5, .int c6, .int c7, .int c8])), (k2, .inl (cI, 40, .inl c2))] H := hP
  replace hD : va_D A [(k4, .inr (8, [.ref k40, .ref k41, .ref k42, .ref k43, .ref k44, .ref k45, .ref k46, .ref k47, .ref k48, .int c49])), (k47, .inl (cI, 40, .inl c47)), (k5, .inr (3, [.ref k50, .int c51])), (k50, .inl (cI, 36, .inl c50)), (k, .inr (9, [.ref k0, .ref k1, .ref k2, .ref k3, .ref k4, .ref k5, .int c6, .int c7, .int c8])), (k2, .inl (cI, 40, .inl c2))] := hD
  have lo_r_13 := k_lo r_13
  have hi_r_13 := k_hi r_13
  refine lv_iadd hx hb dX9_drinkOf_50 ?_
  refine lv_topi (fun v_16 ev_16 => ?_)
  have lo_v_16 := k_lo v_16
  have hi_v_16 := k_hi v_16
  refine lv_aload_n hx hb dX9_drinkOf_51 rfl (lv_at hl 4 rfl) ?_
  refine va_get (D := D) (ci := 9) (v := .ref k4) (C := RX9) (T := TX9) (N := 9) hx hb hT giX9 hown hK hP 4 rfl rfl 4 (by decide) (hT (Cond.fieldLink RX9 27 "DesertWire$World" "works" "LDesertWire$Works;") mw_97) (fun _ h9 => h9) rfl dX9_drinkOf_52 ?_
  refine lv_iload_n hx hb dX9_drinkOf_55 rfl (lv_at hl 3 rfl) ?_
  refine kJi (wr := [(k5, .inr (3, [.ref k50, .int c51])), (k50, .inl (cI, 36, .inl c50)), (k, .inr (9, [.ref k0, .ref k1, .ref k2, .ref k3, .ref k4, .ref k5, .int c6, .int c7, .int c8])), (k2, .inl (cI, 40, .inl c2))]) (va_runV (As := [.int r_1]) (rest := [.int v_16]) ⟨hx, hb, hml, hown, hT⟩ (c_X8_drinkInG l D cI aK aV k4 k40 k41 k42 k43 k44 k45 k46 k47 k48 H.size c49 c47 r_1) (cwV 1 hT (gV_in mw_655 mw_980 mw_653 mw_654 mw_3) rfl rfl rfl (by decide +kernel) ⟨Nat.le_of_ble_eq_true rfl, Nat.le_of_ble_eq_true rfl⟩) (kRecvX (q0 := 0) (ci := 8) hK hP hD hN hXS hS hA rfl rfl [0, 1] rfl (by decide)) rfl rfl hl.1 rfl (lv_room (Nat.le_of_ble_eq_true rfl)) dX9_drinkOf_56 ⟨Nat.le_of_ble_eq_true rfl, Nat.le_of_ble_eq_true rfl⟩) hP hD hS hA [0, 1] [2, 3, 4, 5] rfl rfl (by decide) (by decide) ?_
  clear hP hD hS
  intro r_17 u_19 H locs w_18 hP hD hS
  replace hP : va_P D vwCl [(k5, .inr (3, [.ref k50, .int c51])), (k50, .inl (cI, 36, .inl c50)), (k, .inr (9, [.ref k0, .ref k1, .ref k2, .ref k3, .ref k4, .ref k5, .int c6, .int c7, .int c8])), (k2, .inl (cI, 40, .inl c2)), (k4, .inr (8, [.ref k40, .ref k41, .ref k42, .ref k43, .ref k44, .ref k45, .ref k46, .ref k47, .ref k48, .int c49])), (k47, .inl (cI, 40, .inl c47))] H := hP
  replace hD : va_D A [(k5, .inr (3, [.ref k50, .int c51])), (k50, .inl (cI, 36, .inl c50)), (k, .inr (9, [.ref k0, .ref k1, .ref k2, .ref k3, .ref k4, .ref k5, .int c6, .int c7, .int c8])), (k2, .inl (cI, 40, .inl c2)), (k4, .inr (8, [.ref k40, .ref k41, .ref k42, .ref k43, .ref k44, .ref k45, .ref k46, .ref k47, .ref k48, .int c49])), (k47, .inl (cI, 40, .inl c47))] := hD
  have lo_r_17 := k_lo r_17
  have hi_r_17 := k_hi r_17
  refine lv_iadd hx hb dX9_drinkOf_59 ?_
  refine lv_topi (fun v_20 ev_20 => ?_)
  have lo_v_20 := k_lo v_20
  have hi_v_20 := k_hi v_20
  refine lv_bipush (v := 50) hx hb dX9_drinkOf_60 (by decide) ?_
  refine lv_iload_n hx hb dX9_drinkOf_62 rfl (lv_at hl 2 rfl) ?_
  refine lv_iload hx hb dX9_drinkOf_63 (lv_at hl 1 rfl) ?_
  refine lv_iadd hx hb dX9_drinkOf_65 ?_
  refine lv_topi (fun v_21 ev_21 => ?_)
  have lo_v_21 := k_lo v_21
  have hi_v_21 := k_hi v_21
  refine lv_imul hx hb dX9_drinkOf_66 ?_
  refine lv_topi (fun v_22 ev_22 => ?_)
  have lo_v_22 := k_lo v_22
  have hi_v_22 := k_hi v_22
  refine va_mmin hx hb (hml.trans hl.1.symm) hown (hT _ mw_641) (hT _ mw_538) (hT _ mw_13) (hT _ mw_539) (Nat.le_of_ble_eq_true rfl) (Nat.le_of_ble_eq_true rfl) (Nat.le_of_ble_eq_true rfl) (Nat.le_of_ble_eq_true rfl) dX9_drinkOf_67 ?_
  refine lv_topi (fun v_23 ev_23 => ?_)
  have lo_v_23 := k_lo v_23
  have hi_v_23 := k_hi v_23
  have tv_23 : v_23.toInt = k_min v_20.toInt v_22.toInt := by rw [ev_23]; exact k_mmin rfl rfl
  have sv_23 := k_min_spec (v_20.toInt) (v_22.toInt)
  refine lv_istore (lv' := [(6, .int v_23), (5, .int r_10), (4, .int r_7), (3, .int r_4), (2, .int r_1), (0, .ref k), (1, .int a0)]) hx hb dX9_drinkOf_70 hl (by decide) rfl ?_
  clear hl
  intro ls hl
  refine lv_iload hx hb dX9_drinkOf_72 (lv_at hl 1 rfl) ?_
  refine lv_iload hx hb dX9_drinkOf_74 (lv_at hl 0 rfl) ?_
  refine va_mmax hx hb (hml.trans hl.1.symm) hown (hT _ mw_425) (hT _ mw_426) (hT _ mw_13) (hT _ mw_427) (Nat.le_of_ble_eq_true rfl) (Nat.le_of_ble_eq_true rfl) (Nat.le_of_ble_eq_true rfl) (Nat.le_of_ble_eq_true rfl) dX9_drinkOf_76 ?_
  refine lv_topi (fun v_24 ev_24 => ?_)
  have lo_v_24 := k_lo v_24
  have hi_v_24 := k_hi v_24
  have tv_24 : v_24.toInt = k_max r_10.toInt v_23.toInt := by rw [ev_24]; exact k_mmax rfl rfl
  try rw [tv_23] at tv_24
  have sv_24 := k_max_spec (r_10.toInt) (v_23.toInt)
  try rw [tv_23] at sv_24
  refine lv_iload_n hx hb dX9_drinkOf_79 rfl (lv_at hl 3 rfl) ?_
  refine lv_isub hx hb dX9_drinkOf_80 ?_
  refine lv_topi (fun v_25 ev_25 => ?_)
  have lo_v_25 := k_lo v_25
  have hi_v_25 := k_hi v_25
  refine lv_iconst (v := 2) hx hb dX9_drinkOf_81 (by decide) ?_
  refine lv_iload hx hb dX9_drinkOf_82 (lv_at hl 2 rfl) ?_
  refine lv_imul hx hb dX9_drinkOf_84 ?_
  refine lv_topi (fun v_26 ev_26 => ?_)
  have lo_v_26 := k_lo v_26
  have hi_v_26 := k_hi v_26
  refine lv_isub hx hb dX9_drinkOf_85 ?_
  refine lv_topi (fun v_27 ev_27 => ?_)
  have lo_v_27 := k_lo v_27
  have hi_v_27 := k_hi v_27
  refine lv_istore (lv' := [(7, .int v_27), (6, .int v_23), (5, .int r_10), (4, .int r_7), (3, .int r_4), (2, .int r_1), (0, .ref k), (1, .int a0)]) hx hb dX9_drinkOf_86 hl (by decide) rfl ?_
  clear hl
  intro ls hl
  refine lv_aload_n hx hb dX9_drinkOf_88 rfl (lv_at hl 6 rfl) ?_
  refine va_get (D := D) (ci := 9) (v := .ref k5) (C := RX9) (T := TX9) (N := 9) hx hb hT giX9 hown hK hP 2 rfl rfl 5 (by decide) (hT (Cond.fieldLink RX9 34 "DesertWire$World" "parties" "LDesertWire$Parties;") mw_100) (fun _ h9 => h9) rfl dX9_drinkOf_89 ?_
  refine lv_iload_n hx hb dX9_drinkOf_92 rfl (lv_at hl 7 rfl) ?_
  refine lv_bipush (v := 6) hx hb dX9_drinkOf_93 (by decide) ?_
  refine lv_iconst (v := 0) hx hb dX9_drinkOf_95 (by decide) ?_
  refine lv_iload hx hb dX9_drinkOf_96 (lv_at hl 0 rfl) ?_
  refine va_mmax hx hb (hml.trans hl.1.symm) hown (hT _ mw_425) (hT _ mw_426) (hT _ mw_13) (hT _ mw_427) (Nat.le_of_ble_eq_true rfl) (Nat.le_of_ble_eq_true rfl) (Nat.le_of_ble_eq_true rfl) (Nat.le_of_ble_eq_true rfl) dX9_drinkOf_98 ?_
  refine lv_topi (fun v_28 ev_28 => ?_)
  have lo_v_28 := k_lo v_28
  have hi_v_28 := k_hi v_28
  have tv_28 : v_28.toInt = k_max 0 v_27.toInt := by rw [ev_28]; exact k_mmax zl_0 rfl
  have sv_28 := k_max_spec (0) (v_27.toInt)
  refine kJv (wr := [(k, .inr (9, [.ref k0, .ref k1, .ref k2, .ref k3, .ref k4, .ref k5, .int c6, .int c7, .int c8])), (k2, .inl (cI, 40, .inl c2)), (k4, .inr (8, [.ref k40, .ref k41, .ref k42, .ref k43, .ref k44, .ref k45, .ref k46, .ref k47, .ref k48, .int c49])), (k47, .inl (cI, 40, .inl c47))]) (va_runV (As := [.int a0, .int 6, .int v_28]) (rest := []) ⟨hx, hb, hml, hown, hT⟩ (c_X3_setG l D cI aK aV k5 k50 H.size c51 c50 a0 6 v_28) (cwV 3 hT (gV_in mw_713 mw_981 mw_711 mw_712 mw_4) rfl rfl rfl (by decide +kernel) ⟨Nat.le_of_ble_eq_true rfl, Nat.le_of_ble_eq_true rfl⟩) (kRecvX (q0 := 0) (ci := 3) hK hP hD hN hXS hS hA rfl rfl [0, 1] rfl (by decide)) rfl rfl hl.1 rfl (lv_room (Nat.le_of_ble_eq_true rfl)) dX9_drinkOf_101 ⟨Nat.le_of_ble_eq_true rfl, Nat.le_of_ble_eq_true rfl⟩) hP hD hS hA [0, 1] [2, 3, 4, 5] rfl rfl (by decide) (by decide) ?_
  clear hP hD hS
  intro sc0_31 H locs w_30 hP hD hS
  replace hP : va_P D vwCl [(k, .inr (9, [.ref k0, .ref k1, .ref k2, .ref k3, .ref k4, .ref k5, .int c6, .int c7, .int c8])), (k2, .inl (cI, 40, .inl c2)), (k4, .inr (8, [.ref k40, .ref k41, .ref k42, .ref k43, .ref k44, .ref k45, .ref k46, .ref k47, .ref k48, .int c49])), (k47, .inl (cI, 40, .inl c47)), (k5, .inr (3, [.ref k50, .int c51])), (k50, .inl (cI, 36, .inl sc0_31))] H := hP
  replace hD : va_D A [(k, .inr (9, [.ref k0, .ref k1, .ref k2, .ref k3, .ref k4, .ref k5, .int c6, .int c7, .int c8])), (k2, .inl (cI, 40, .inl c2)), (k4, .inr (8, [.ref k40, .ref k41, .ref k42, .ref k43, .ref k44, .ref k45, .ref k46, .ref k47, .ref k48, .int c49])), (k47, .inl (cI, 40, .inl c47)), (k5, .inr (3, [.ref k50, .int c51])), (k50, .inl (cI, 36, .inl sc0_31))] := hD
  refine lv_iload hx hb dX9_drinkOf_104 (lv_at hl 0 rfl) ?_
  refine b_if_ge hx hb rfl (tgt := 128) dX9_drinkOf_106 (by decide) (fun c_32 => ?_) (fun c_32 => ?_)
  · exact hRet sc0_31 [0, 1, 2, 4, 3, 5] trivial hP hD (by decide) rfl hS dX9_drinkOf_128
  · refine lv_aload_n hx hb dX9_drinkOf_109 rfl (lv_at hl 6 rfl) ?_
    refine va_get (D := D) (ci := 9) (v := .ref k5) (C := RX9) (T := TX9) (N := 9) hx hb hT giX9 hown hK hP 0 rfl rfl 5 (by decide) (hT (Cond.fieldLink RX9 34 "DesertWire$World" "parties" "LDesertWire$Parties;") mw_100) (fun _ h9 => h9) rfl dX9_drinkOf_110 ?_
    refine lv_iload_n hx hb dX9_drinkOf_113 rfl (lv_at hl 7 rfl) ?_
    refine lv_iload hx hb dX9_drinkOf_114 (lv_at hl 3 rfl) ?_
    refine b_if_le hx hb rfl (tgt := 123) dX9_drinkOf_116 (by decide) (fun c_33 => ?_) (fun c_33 => ?_)
    · refine lv_iconst (v := 2) hx hb dX9_drinkOf_123 (by decide) ?_
      refine lv_iconst (v := (-1)) hx hb dX9_drinkOf_124 (by decide) ?_
      refine kJv (wr := [(k, .inr (9, [.ref k0, .ref k1, .ref k2, .ref k3, .ref k4, .ref k5, .int c6, .int c7, .int c8])), (k2, .inl (cI, 40, .inl c2)), (k4, .inr (8, [.ref k40, .ref k41, .ref k42, .ref k43, .ref k44, .ref k45, .ref k46, .ref k47, .ref k48, .int c49])), (k47, .inl (cI, 40, .inl c47))]) (va_runV (As := [.int a0, .int 2, .int (-1)]) (rest := []) ⟨hx, hb, hml, hown, hT⟩ (c_X3_moreG l D cI aK aV k5 k50 H.size c51 sc0_31 a0 2 (-1)) (cwV 3 hT (gV_in mw_751 mw_982 mw_749 mw_750 mw_4) rfl rfl rfl (by decide +kernel) ⟨Nat.le_of_ble_eq_true rfl, Nat.le_of_ble_eq_true rfl⟩) (kRecvX (q0 := 4) (ci := 3) hK hP hD hN hXS hS hA rfl rfl [4, 5] rfl (by decide)) rfl rfl hl.1 rfl (lv_room (Nat.le_of_ble_eq_true rfl)) dX9_drinkOf_125 ⟨Nat.le_of_ble_eq_true rfl, Nat.le_of_ble_eq_true rfl⟩) hP hD hS hA [4, 5] [0, 1, 2, 3] rfl rfl (by decide) (by decide) ?_
      clear hP hD hS
      intro sc0_36 H locs w_35 hP hD hS
      replace hP : va_P D vwCl [(k, .inr (9, [.ref k0, .ref k1, .ref k2, .ref k3, .ref k4, .ref k5, .int c6, .int c7, .int c8])), (k2, .inl (cI, 40, .inl c2)), (k4, .inr (8, [.ref k40, .ref k41, .ref k42, .ref k43, .ref k44, .ref k45, .ref k46, .ref k47, .ref k48, .int c49])), (k47, .inl (cI, 40, .inl c47)), (k5, .inr (3, [.ref k50, .int c51])), (k50, .inl (cI, 36, .inl sc0_36))] H := hP
      replace hD : va_D A [(k, .inr (9, [.ref k0, .ref k1, .ref k2, .ref k3, .ref k4, .ref k5, .int c6, .int c7, .int c8])), (k2, .inl (cI, 40, .inl c2)), (k4, .inr (8, [.ref k40, .ref k41, .ref k42, .ref k43, .ref k44, .ref k45, .ref k46, .ref k47, .ref k48, .int c49])), (k47, .inl (cI, 40, .inl c47)), (k5, .inr (3, [.ref k50, .int c51])), (k50, .inl (cI, 36, .inl sc0_36))] := hD
      exact hRet sc0_36 [0, 1, 2, 4, 3, 5] trivial hP hD (by decide) rfl hS dX9_drinkOf_128
    · refine lv_iconst (v := 3) hx hb dX9_drinkOf_119 (by decide) ?_
      refine lv_goto (tgt := 124) hx hb dX9_drinkOf_120 (by decide) ?_
      refine lv_iconst (v := (-1)) hx hb dX9_drinkOf_124 (by decide) ?_
      refine kJv (wr := [(k, .inr (9, [.ref k0, .ref k1, .ref k2, .ref k3, .ref k4, .ref k5, .int c6, .int c7, .int c8])), (k2, .inl (cI, 40, .inl c2)), (k4, .inr (8, [.ref k40, .ref k41, .ref k42, .ref k43, .ref k44, .ref k45, .ref k46, .ref k47, .ref k48, .int c49])), (k47, .inl (cI, 40, .inl c47))]) (va_runV (As := [.int a0, .int 3, .int (-1)]) (rest := []) ⟨hx, hb, hml, hown, hT⟩ (c_X3_moreG l D cI aK aV k5 k50 H.size c51 sc0_31 a0 3 (-1)) (cwV 3 hT (gV_in mw_751 mw_982 mw_749 mw_750 mw_4) rfl rfl rfl (by decide +kernel) ⟨Nat.le_of_ble_eq_true rfl, Nat.le_of_ble_eq_true rfl⟩) (kRecvX (q0 := 4) (ci := 3) hK hP hD hN hXS hS hA rfl rfl [4, 5] rfl (by decide)) rfl rfl hl.1 rfl (lv_room (Nat.le_of_ble_eq_true rfl)) dX9_drinkOf_125 ⟨Nat.le_of_ble_eq_true rfl, Nat.le_of_ble_eq_true rfl⟩) hP hD hS hA [4, 5] [0, 1, 2, 3] rfl rfl (by decide) (by decide) ?_
      clear hP hD hS
      intro sc0_39 H locs w_38 hP hD hS
      replace hP : va_P D vwCl [(k, .inr (9, [.ref k0, .ref k1, .ref k2, .ref k3, .ref k4, .ref k5, .int c6, .int c7, .int c8])), (k2, .inl (cI, 40, .inl c2)), (k4, .inr (8, [.ref k40, .ref k41, .ref k42, .ref k43, .ref k44, .ref k45, .ref k46, .ref k47, .ref k48, .int c49])), (k47, .inl (cI, 40, .inl c47)), (k5, .inr (3, [.ref k50, .int c51])), (k50, .inl (cI, 36, .inl sc0_39))] H := hP
      replace hD : va_D A [(k, .inr (9, [.ref k0, .ref k1, .ref k2, .ref k3, .ref k4, .ref k5, .int c6, .int c7, .int c8])), (k2, .inl (cI, 40, .inl c2)), (k4, .inr (8, [.ref k40, .ref k41, .ref k42, .ref k43, .ref k44, .ref k45, .ref k46, .ref k47, .ref k48, .int c49])), (k47, .inl (cI, 40, .inl c47)), (k5, .inr (3, [.ref k50, .int c51])), (k50, .inl (cI, 36, .inl sc0_39))] := hD
      exact hRet sc0_39 [0, 1, 2, 4, 3, 5] trivial hP hD (by decide) rfl hS dX9_drinkOf_128
theorem dX9_eatOf_0 : decode cX9_eatOf 0 = .ok (.aload_n 0, 1) := by decide +kernel
theorem dX9_eatOf_1 : decode cX9_eatOf 1 = .ok (.getfield 34, 3) := by decide +kernel
theorem dX9_eatOf_4 : decode cX9_eatOf 4 = .ok (.iload_n 1, 1) := by decide +kernel
theorem dX9_eatOf_5 : decode cX9_eatOf 5 = .ok (.iconst 2, 1) := by decide +kernel
theorem dX9_eatOf_6 : decode cX9_eatOf 6 = .ok (.invokevirtual 130, 3) := by decide +kernel
theorem dX9_eatOf_9 : decode cX9_eatOf 9 = .ok (.istore_n 2, 1) := by decide +kernel
theorem dX9_eatOf_10 : decode cX9_eatOf 10 = .ok (.aload_n 0, 1) := by decide +kernel
theorem dX9_eatOf_11 : decode cX9_eatOf 11 = .ok (.getfield 34, 3) := by decide +kernel
theorem dX9_eatOf_14 : decode cX9_eatOf 14 = .ok (.iload_n 1, 1) := by decide +kernel
theorem dX9_eatOf_15 : decode cX9_eatOf 15 = .ok (.iconst 5, 1) := by decide +kernel
theorem dX9_eatOf_16 : decode cX9_eatOf 16 = .ok (.invokevirtual 130, 3) := by decide +kernel
theorem dX9_eatOf_19 : decode cX9_eatOf 19 = .ok (.istore_n 3, 1) := by decide +kernel
theorem dX9_eatOf_20 : decode cX9_eatOf 20 = .ok (.aload_n 0, 1) := by decide +kernel
theorem dX9_eatOf_21 : decode cX9_eatOf 21 = .ok (.getfield 27, 3) := by decide +kernel
theorem dX9_eatOf_24 : decode cX9_eatOf 24 = .ok (.aload_n 0, 1) := by decide +kernel
theorem dX9_eatOf_25 : decode cX9_eatOf 25 = .ok (.getfield 34, 3) := by decide +kernel
theorem dX9_eatOf_28 : decode cX9_eatOf 28 = .ok (.iload_n 1, 1) := by decide +kernel
theorem dX9_eatOf_29 : decode cX9_eatOf 29 = .ok (.iconst 0, 1) := by decide +kernel
theorem dX9_eatOf_30 : decode cX9_eatOf 30 = .ok (.invokevirtual 130, 3) := by decide +kernel
theorem dX9_eatOf_33 : decode cX9_eatOf 33 = .ok (.bipush 20, 2) := by decide +kernel
theorem dX9_eatOf_35 : decode cX9_eatOf 35 = .ok (.iload_n 2, 1) := by decide +kernel
theorem dX9_eatOf_36 : decode cX9_eatOf 36 = .ok (.imul, 1) := by decide +kernel
theorem dX9_eatOf_37 : decode cX9_eatOf 37 = .ok (.iload_n 3, 1) := by decide +kernel
theorem dX9_eatOf_38 : decode cX9_eatOf 38 = .ok (.isub, 1) := by decide +kernel
theorem dX9_eatOf_39 : decode cX9_eatOf 39 = .ok (.invokevirtual 152, 3) := by decide +kernel
theorem dX9_eatOf_42 : decode cX9_eatOf 42 = .ok (.istore 4, 2) := by decide +kernel
theorem dX9_eatOf_44 : decode cX9_eatOf 44 = .ok (.iload_n 3, 1) := by decide +kernel
theorem dX9_eatOf_45 : decode cX9_eatOf 45 = .ok (.iload 4, 2) := by decide +kernel
theorem dX9_eatOf_47 : decode cX9_eatOf 47 = .ok (.iadd, 1) := by decide +kernel
theorem dX9_eatOf_48 : decode cX9_eatOf 48 = .ok (.iload_n 2, 1) := by decide +kernel
theorem dX9_eatOf_49 : decode cX9_eatOf 49 = .ok (.isub, 1) := by decide +kernel
theorem dX9_eatOf_50 : decode cX9_eatOf 50 = .ok (.istore 5, 2) := by decide +kernel
theorem dX9_eatOf_52 : decode cX9_eatOf 52 = .ok (.aload_n 0, 1) := by decide +kernel
theorem dX9_eatOf_53 : decode cX9_eatOf 53 = .ok (.getfield 34, 3) := by decide +kernel
theorem dX9_eatOf_56 : decode cX9_eatOf 56 = .ok (.iload_n 1, 1) := by decide +kernel
theorem dX9_eatOf_57 : decode cX9_eatOf 57 = .ok (.iconst 5, 1) := by decide +kernel
theorem dX9_eatOf_58 : decode cX9_eatOf 58 = .ok (.iconst 0, 1) := by decide +kernel
theorem dX9_eatOf_59 : decode cX9_eatOf 59 = .ok (.iload 5, 2) := by decide +kernel
theorem dX9_eatOf_61 : decode cX9_eatOf 61 = .ok (.invokestatic 113, 3) := by decide +kernel
theorem dX9_eatOf_64 : decode cX9_eatOf 64 = .ok (.invokevirtual 145, 3) := by decide +kernel
theorem dX9_eatOf_67 : decode cX9_eatOf 67 = .ok (.iload 5, 2) := by decide +kernel
theorem dX9_eatOf_69 : decode cX9_eatOf 69 = .ok (.ifCond .ge 13, 3) := by decide +kernel
theorem dX9_eatOf_72 : decode cX9_eatOf 72 = .ok (.aload_n 0, 1) := by decide +kernel
theorem dX9_eatOf_73 : decode cX9_eatOf 73 = .ok (.getfield 34, 3) := by decide +kernel
theorem dX9_eatOf_76 : decode cX9_eatOf 76 = .ok (.iload_n 1, 1) := by decide +kernel
theorem dX9_eatOf_77 : decode cX9_eatOf 77 = .ok (.iconst 2, 1) := by decide +kernel
theorem dX9_eatOf_78 : decode cX9_eatOf 78 = .ok (.iconst (-1), 1) := by decide +kernel
theorem dX9_eatOf_79 : decode cX9_eatOf 79 = .ok (.invokevirtual 149, 3) := by decide +kernel
theorem dX9_eatOf_82 : decode cX9_eatOf 82 = .ok (.aload_n 0, 1) := by decide +kernel
theorem dX9_eatOf_83 : decode cX9_eatOf 83 = .ok (.getfield 34, 3) := by decide +kernel
theorem dX9_eatOf_86 : decode cX9_eatOf 86 = .ok (.iload_n 1, 1) := by decide +kernel
theorem dX9_eatOf_87 : decode cX9_eatOf 87 = .ok (.iconst 2, 1) := by decide +kernel
theorem dX9_eatOf_88 : decode cX9_eatOf 88 = .ok (.invokevirtual 130, 3) := by decide +kernel
theorem dX9_eatOf_91 : decode cX9_eatOf 91 = .ok (.ifCond .gt 14, 3) := by decide +kernel
theorem dX9_eatOf_94 : decode cX9_eatOf 94 = .ok (.aload_n 0, 1) := by decide +kernel
theorem dX9_eatOf_95 : decode cX9_eatOf 95 = .ok (.getfield 34, 3) := by decide +kernel
theorem dX9_eatOf_98 : decode cX9_eatOf 98 = .ok (.iload_n 1, 1) := by decide +kernel
theorem dX9_eatOf_99 : decode cX9_eatOf 99 = .ok (.bipush 8, 2) := by decide +kernel
theorem dX9_eatOf_101 : decode cX9_eatOf 101 = .ok (.iconst 2, 1) := by decide +kernel
theorem dX9_eatOf_102 : decode cX9_eatOf 102 = .ok (.invokevirtual 145, 3) := by decide +kernel
theorem dX9_eatOf_105 : decode cX9_eatOf 105 = .ok (.return_, 1) := by decide +kernel
set_option maxHeartbeats 4000000 in
set_option maxRecDepth 100000 in
theorem c_X9_eatOfG (l : Launch) (D : va_G) (cI : ClassId) (aK aV : Nat → Nat) (k k0 k1 k2 k3 k4 k5 k40 k41 k42 k43 k44 k45 k46 k47 k48 k50 : Nat) (sz : Nat) (c6 : Int32) (c7 : Int32) (c8 : Int32) (c49 : Int32) (c51 : Int32) (c40 : Nat → Int32) (c41 : Nat → Int32) (c44 : Nat → Int32) (c45 : Nat → Int32) (c48 : Nat → Int32) (c50 : Nat → Int32) (a0 : Int32) : Met l yX9_eatOf (gW yX9_eatOf cX9_eatOf 6 none) ({ frames := 3, cells := 0, slots := 0, locals := 67 } : Room) (kPreX D cI aK aV [.ref k, .int a0] [(k, .inr (9, [.ref k0, .ref k1, .ref k2, .ref k3, .ref k4, .ref k5, .int c6, .int c7, .int c8])), (k4, .inr (8, [.ref k40, .ref k41, .ref k42, .ref k43, .ref k44, .ref k45, .ref k46, .ref k47, .ref k48, .int c49])), (k5, .inr (3, [.ref k50, .int c51])), (k40, .inl (cI, 60, .inl c40)), (k41, .inl (cI, 60, .inl c41)), (k44, .inl (cI, 60, .inl c44)), (k45, .inl (cI, 60, .inl c45)), (k48, .inl (cI, 40, .inl c48)), (k50, .inl (cI, 36, .inl c50))] sz) (va_Qv (fun (u : (Nat → Int32) × (Nat → Int32)) => True) (fun u t => kWd D cI (va_A [(k, .inr (9, [.ref k0, .ref k1, .ref k2, .ref k3, .ref k4, .ref k5, .int c6, .int c7, .int c8])), (k4, .inr (8, [.ref k40, .ref k41, .ref k42, .ref k43, .ref k44, .ref k45, .ref k46, .ref k47, .ref k48, .int c49])), (k5, .inr (3, [.ref k50, .int c51])), (k40, .inl (cI, 60, .inl c40)), (k41, .inl (cI, 60, .inl c41)), (k44, .inl (cI, 60, .inl c44)), (k45, .inl (cI, 60, .inl c45)), (k48, .inl (cI, 40, .inl c48)), (k50, .inl (cI, 36, .inl c50))] sz) [(k, .inr (9, [.ref k0, .ref k1, .ref k2, .ref k3, .ref k4, .ref k5, .int c6, .int c7, .int c8])), (k4, .inr (8, [.ref k40, .ref k41, .ref k42, .ref k43, .ref k44, .ref k45, .ref k46, .ref k47, .ref k48, .int c49])), (k5, .inr (3, [.ref k50, .int c51])), (k40, .inl (cI, 60, .inl c40)), (k41, .inl (cI, 60, .inl c41)), (k44, .inl (cI, 60, .inl u.1)), (k45, .inl (cI, 60, .inl c45)), (k48, .inl (cI, 40, .inl c48)), (k50, .inl (cI, 36, .inl u.2))] t) (va_A [(k, .inr (9, [.ref k0, .ref k1, .ref k2, .ref k3, .ref k4, .ref k5, .int c6, .int c7, .int c8])), (k4, .inr (8, [.ref k40, .ref k41, .ref k42, .ref k43, .ref k44, .ref k45, .ref k46, .ref k47, .ref k48, .int c49])), (k5, .inr (3, [.ref k50, .int c51])), (k40, .inl (cI, 60, .inl c40)), (k41, .inl (cI, 60, .inl c41)), (k44, .inl (cI, 60, .inl c44)), (k45, .inl (cI, 60, .inl c45)), (k48, .inl (cI, 40, .inl c48)), (k50, .inl (cI, 36, .inl c50))] sz)) 0 0 (va_A [(k, .inr (9, [.ref k0, .ref k1, .ref k2, .ref k3, .ref k4, .ref k5, .int c6, .int c7, .int c8])), (k4, .inr (8, [.ref k40, .ref k41, .ref k42, .ref k43, .ref k44, .ref k45, .ref k46, .ref k47, .ref k48, .int c49])), (k5, .inr (3, [.ref k50, .int c51])), (k40, .inl (cI, 60, .inl c40)), (k41, .inl (cI, 60, .inl c41)), (k44, .inl (cI, 60, .inl c44)), (k45, .inl (cI, 60, .inl c45)), (k48, .inl (cI, 40, .inl c48)), (k50, .inl (cI, 36, .inl c50))] sz) := by
  refine kMetVX (own := RX9) (by decide) rfl (Nat.le_of_ble_eq_true rfl) ?_
  intro p e s m args below meth c hx hb hT hown hname hml A Q hK hP hD hS hA hN hXS hRet ls hl
  have hl : lv_has ls 6 [(0, .ref k), (1, .int a0)] := hl
  have lo_a0 := k_lo a0
  have hi_a0 := k_hi a0
  refine lv_aload_n hx hb dX9_eatOf_0 rfl (lv_at hl 0 rfl) ?_
  refine va_get (D := D) (ci := 9) (v := .ref k5) (C := RX9) (T := TX9) (N := 9) hx hb hT giX9 hown hK hP 0 rfl rfl 5 (by decide) (hT (Cond.fieldLink RX9 34 "DesertWire$World" "parties" "LDesertWire$Parties;") mw_100) (fun _ h9 => h9) rfl dX9_eatOf_1 ?_
  refine lv_iload_n hx hb dX9_eatOf_4 rfl (lv_at hl 1 rfl) ?_
  refine lv_iconst (v := 2) hx hb dX9_eatOf_5 (by decide) ?_
  refine kJi (wr := [(k, .inr (9, [.ref k0, .ref k1, .ref k2, .ref k3, .ref k4, .ref k5, .int c6, .int c7, .int c8])), (k4, .inr (8, [.ref k40, .ref k41, .ref k42, .ref k43, .ref k44, .ref k45, .ref k46, .ref k47, .ref k48, .int c49])), (k40, .inl (cI, 60, .inl c40)), (k41, .inl (cI, 60, .inl c41)), (k44, .inl (cI, 60, .inl c44)), (k45, .inl (cI, 60, .inl c45)), (k48, .inl (cI, 40, .inl c48))]) (va_runV (As := [.int a0, .int 2]) (rest := []) ⟨hx, hb, hml, hown, hT⟩ (c_X3_getG l D cI aK aV k5 k50 s.heap.size c51 c50 a0 2) (cwV 2 hT (gV_in mw_726 mw_978 mw_724 mw_725 mw_4) rfl rfl rfl (by decide +kernel) ⟨Nat.le_of_ble_eq_true rfl, Nat.le_of_ble_eq_true rfl⟩) (kRecvX (q0 := 2) (ci := 3) hK hP hD hN hXS hS hA rfl rfl [2, 8] rfl (by decide)) rfl rfl hl.1 rfl (lv_room (Nat.le_of_ble_eq_true rfl)) dX9_eatOf_6 ⟨Nat.le_of_ble_eq_true rfl, Nat.le_of_ble_eq_true rfl⟩) hP hD hS hA [2, 8] [0, 1, 3, 4, 5, 6, 7] rfl rfl (by decide) (by decide) ?_
  clear hP hD hS
  intro r_1 u_3 H locs w_2 hP hD hS
  replace hP : va_P D vwCl [(k, .inr (9, [.ref k0, .ref k1, .ref k2, .ref k3, .ref k4, .ref k5, .int c6, .int c7, .int c8])), (k4, .inr (8, [.ref k40, .ref k41, .ref k42, .ref k43, .ref k44, .ref k45, .ref k46, .ref k47, .ref k48, .int c49])), (k40, .inl (cI, 60, .inl c40)), (k41, .inl (cI, 60, .inl c41)), (k44, .inl (cI, 60, .inl c44)), (k45, .inl (cI, 60, .inl c45)), (k48, .inl (cI, 40, .inl c48)), (k5, .inr (3, [.ref k50, .int c51])), (k50, .inl (cI, 36, .inl c50))] H := hP
  replace hD : va_D A [(k, .inr (9, [.ref k0, .ref k1, .ref k2, .ref k3, .ref k4, .ref k5, .int c6, .int c7, .int c8])), (k4, .inr (8, [.ref k40, .ref k41, .ref k42, .ref k43, .ref k44, .ref k45, .ref k46, .ref k47, .ref k48, .int c49])), (k40, .inl (cI, 60, .inl c40)), (k41, .inl (cI, 60, .inl c41)), (k44, .inl (cI, 60, .inl c44)), (k45, .inl (cI, 60, .inl c45)), (k48, .inl (cI, 40, .inl c48)), (k5, .inr (3, [.ref k50, .int c51])), (k50, .inl (cI, 36, .inl c50))] := hD
  have lo_r_1 := k_lo r_1
  have hi_r_1 := k_hi r_1
  refine lv_istore_n (lv' := [(2, .int r_1), (0, .ref k), (1, .int a0)]) hx hb dX9_eatOf_9 rfl hl (by decide) rfl ?_
  clear hl
  intro ls hl
  refine lv_aload_n hx hb dX9_eatOf_10 rfl (lv_at hl 1 rfl) ?_
  refine va_get (D := D) (ci := 9) (v := .ref k5) (C := RX9) (T := TX9) (N := 9) hx hb hT giX9 hown hK hP 0 rfl rfl 5 (by decide) (hT (Cond.fieldLink RX9 34 "DesertWire$World" "parties" "LDesertWire$Parties;") mw_100) (fun _ h9 => h9) rfl dX9_eatOf_11 ?_
  refine lv_iload_n hx hb dX9_eatOf_14 rfl (lv_at hl 2 rfl) ?_
  refine lv_iconst (v := 5) hx hb dX9_eatOf_15 (by decide) ?_
  refine kJi (wr := [(k, .inr (9, [.ref k0, .ref k1, .ref k2, .ref k3, .ref k4, .ref k5, .int c6, .int c7, .int c8])), (k4, .inr (8, [.ref k40, .ref k41, .ref k42, .ref k43, .ref k44, .ref k45, .ref k46, .ref k47, .ref k48, .int c49])), (k40, .inl (cI, 60, .inl c40)), (k41, .inl (cI, 60, .inl c41)), (k44, .inl (cI, 60, .inl c44)), (k45, .inl (cI, 60, .inl c45)), (k48, .inl (cI, 40, .inl c48))]) (va_runV (As := [.int a0, .int 5]) (rest := []) ⟨hx, hb, hml, hown, hT⟩ (c_X3_getG l D cI aK aV k5 k50 H.size c51 c50 a0 5) (cwV 2 hT (gV_in mw_726 mw_978 mw_724 mw_725 mw_4) rfl rfl rfl (by decide +kernel) ⟨Nat.le_of_ble_eq_true rfl, Nat.le_of_ble_eq_true rfl⟩) (kRecvX (q0 := 7) (ci := 3) hK hP hD hN hXS hS hA rfl rfl [7, 8] rfl (by decide)) rfl rfl hl.1 rfl (lv_room (Nat.le_of_ble_eq_true rfl)) dX9_eatOf_16 ⟨Nat.le_of_ble_eq_true rfl, Nat.le_of_ble_eq_true rfl⟩) hP hD hS hA [7, 8] [0, 1, 2, 3, 4, 5, 6] rfl rfl (by decide) (by decide) ?_
  clear hP hD hS
  intro r_4 u_6 H locs w_5 hP hD hS
  replace hP : va_P D vwCl [(k, .inr (9, [.ref k0, .ref k1, .ref k2, .ref k3, .ref k4, .ref k5, .int c6, .int c7, .int c8])), (k4, .inr (8, [.ref k40, .ref k41, .ref k42, .ref k43, .ref k44, .ref k45, .ref k46, .ref k47, .ref k48, .int c49])), (k40, .inl (cI, 60, .inl c40)), (k41, .inl (cI, 60, .inl c41)), (k44, .inl (cI, 60, .inl c44)), (k45, .inl (cI, 60, .inl c45)), (k48, .inl (cI, 40, .inl c48)), (k5, .inr (3, [.ref k50, .int c51])), (k50, .inl (cI, 36, .inl c50))] H := hP
  replace hD : va_D A [(k, .inr (9, [.ref k0, .ref k1, .ref k2, .ref k3, .ref k4, .ref k5, .int c6, .int c7, .int c8])), (k4, .inr (8, [.ref k40, .ref k41, .ref k42, .ref k43, .ref k44, .ref k45, .ref k46, .ref k47, .ref k48, .int c49])), (k40, .inl (cI, 60, .inl c40)), (k41, .inl (cI, 60, .inl c41)), (k44, .inl (cI, 60, .inl c44)), (k45, .inl (cI, 60, .inl c45)), (k48, .inl (cI, 40, .inl c48)), (k5, .inr (3, [.ref k50, .int c51])), (k50, .inl (cI, 36, .inl c50))] := hD
  have lo_r_4 := k_lo r_4
  have hi_r_4 := k_hi r_4
  refine lv_istore_n (lv' := [(3, .int r_4), (2, .int r_1), (0, .ref k), (1, .int a0)]) hx hb dX9_eatOf_19 rfl hl (by decide) rfl ?_
  clear hl
  intro ls hl
  refine lv_aload_n hx hb dX9_eatOf_20 rfl (lv_at hl 2 rfl) ?_
  refine va_get (D := D) (ci := 9) (v := .ref k4) (C := RX9) (T := TX9) (N := 9) hx hb hT giX9 hown hK hP 0 rfl rfl 4 (by decide) (hT (Cond.fieldLink RX9 27 "DesertWire$World" "works" "LDesertWire$Works;") mw_97) (fun _ h9 => h9) rfl dX9_eatOf_21 ?_
  refine lv_aload_n hx hb dX9_eatOf_24 rfl (lv_at hl 2 rfl) ?_
  refine va_get (D := D) (ci := 9) (v := .ref k5) (C := RX9) (T := TX9) (N := 9) hx hb hT giX9 hown hK hP 0 rfl rfl 5 (by decide) (hT (Cond.fieldLink RX9 34 "DesertWire$World" "parties" "LDesertWire$Parties;") mw_100) (fun _ h9 => h9) rfl dX9_eatOf_25 ?_
  refine lv_iload_n hx hb dX9_eatOf_28 rfl (lv_at hl 3 rfl) ?_
  refine lv_iconst (v := 0) hx hb dX9_eatOf_29 (by decide) ?_
  refine kJi (wr := [(k, .inr (9, [.ref k0, .ref k1, .ref k2, .ref k3, .ref k4, .ref k5, .int c6, .int c7, .int c8])), (k4, .inr (8, [.ref k40, .ref k41, .ref k42, .ref k43, .ref k44, .ref k45, .ref k46, .ref k47, .ref k48, .int c49])), (k40, .inl (cI, 60, .inl c40)), (k41, .inl (cI, 60, .inl c41)), (k44, .inl (cI, 60, .inl c44)), (k45, .inl (cI, 60, .inl c45)), (k48, .inl (cI, 40, .inl c48))]) (va_runV (As := [.int a0, .int 0]) (rest := [.ref k4]) ⟨hx, hb, hml, hown, hT⟩ (c_X3_getG l D cI aK aV k5 k50 H.size c51 c50 a0 0) (cwV 2 hT (gV_in mw_726 mw_978 mw_724 mw_725 mw_4) rfl rfl rfl (by decide +kernel) ⟨Nat.le_of_ble_eq_true rfl, Nat.le_of_ble_eq_true rfl⟩) (kRecvX (q0 := 7) (ci := 3) hK hP hD hN hXS hS hA rfl rfl [7, 8] rfl (by decide)) rfl rfl hl.1 rfl (lv_room (Nat.le_of_ble_eq_true rfl)) dX9_eatOf_30 ⟨Nat.le_of_ble_eq_true rfl, Nat.le_of_ble_eq_true rfl⟩) hP hD hS hA [7, 8] [0, 1, 2, 3, 4, 5, 6] rfl rfl (by decide) (by decide) ?_
  clear hP hD hS
  intro r_7 u_9 H locs w_8 hP hD hS
  replace hP : va_P D vwCl [(k, .inr (9, [.ref k0, .ref k1, .ref k2, .ref k3, .ref k4, .ref k5, .int c6, .int c7, .int c8])), (k4, .inr (8, [.ref k40, .ref k41, .ref k42, .ref k43, .ref k44, .ref k45, .ref k46, .ref k47, .ref k48, .int c49])), (k40, .inl (cI, 60, .inl c40)), (k41, .inl (cI, 60, .inl c41)), (k44, .inl (cI, 60, .inl c44)), (k45, .inl (cI, 60, .inl c45)), (k48, .inl (cI, 40, .inl c48)), (k5, .inr (3, [.ref k50, .int c51])), (k50, .inl (cI, 36, .inl c50))] H := hP
  replace hD : va_D A [(k, .inr (9, [.ref k0, .ref k1, .ref k2, .ref k3, .ref k4, .ref k5, .int c6, .int c7, .int c8])), (k4, .inr (8, [.ref k40, .ref k41, .ref k42, .ref k43, .ref k44, .ref k45, .ref k46, .ref k47, .ref k48, .int c49])), (k40, .inl (cI, 60, .inl c40)), (k41, .inl (cI, 60, .inl c41)), (k44, .inl (cI, 60, .inl c44)), (k45, .inl (cI, 60, .inl c45)), (k48, .inl (cI, 40, .inl c48)), (k5, .inr (3, [.ref k50, .int c51])), (k50, .inl (cI, 36, .inl c50))] := hD
  have lo_r_7 := k_lo r_7
  have hi_r_7 := k_hi r_7
  refine lv_bipush (v := 20) hx hb dX9_eatOf_33 (by decide) ?_
  refine lv_iload_n hx hb dX9_eatOf_35 rfl (lv_at hl 1 rfl) ?_
  refine lv_imul hx hb dX9_eatOf_36 ?_
  refine lv_topi (fun v_10 ev_10 => ?_)
  have lo_v_10 := k_lo v_10
  have hi_v_10 := k_hi v_10
  refine lv_iload_n hx hb dX9_eatOf_37 rfl (lv_at hl 0 rfl) ?_
  refine lv_isub hx hb dX9_eatOf_38 ?_
  refine lv_topi (fun v_11 ev_11 => ?_)
  have lo_v_11 := k_lo v_11
  have hi_v_11 := k_hi v_11
  refine kJi (wr := [(k, .inr (9, [.ref k0, .ref k1, .ref k2, .ref k3, .ref k4, .ref k5, .int c6, .int c7, .int c8])), (k5, .inr (3, [.ref k50, .int c51])), (k50, .inl (cI, 36, .inl c50))]) (va_runV (As := [.int r_7, .int v_11]) (rest := []) ⟨hx, hb, hml, hown, hT⟩ (c_X8_takeFoodG l D cI aK aV k4 k40 k41 k42 k43 k44 k45 k46 k47 k48 H.size c49 c40 c41 c44 c45 c48 r_7 v_11) (cwV 2 hT (gV_in mw_990 mw_987 mw_988 mw_989 mw_3) rfl rfl rfl (by decide +kernel) ⟨Nat.le_of_ble_eq_true rfl, Nat.le_of_ble_eq_true rfl⟩) (kRecvX (q0 := 1) (ci := 8) hK hP hD hN hXS hS hA rfl rfl [1, 2, 3, 4, 5, 6] rfl (by decide)) rfl rfl hl.1 rfl (lv_room (Nat.le_of_ble_eq_true rfl)) dX9_eatOf_39 ⟨Nat.le_of_ble_eq_true rfl, Nat.le_of_ble_eq_true rfl⟩) hP hD hS hA [1, 2, 3, 4, 5, 6] [0, 7, 8] rfl rfl (by decide) (by decide) ?_
  clear hP hD hS
  intro r_12 sc4_14 H locs w_13 hP hD hS
  replace hP : va_P D vwCl [(k, .inr (9, [.ref k0, .ref k1, .ref k2, .ref k3, .ref k4, .ref k5, .int c6, .int c7, .int c8])), (k5, .inr (3, [.ref k50, .int c51])), (k50, .inl (cI, 36, .inl c50)), (k4, .inr (8, [.ref k40, .ref k41, .ref k42, .ref k43, .ref k44, .ref k45, .ref k46, .ref k47, .ref k48, .int c49])), (k40, .inl (cI, 60, .inl c40)), (k41, .inl (cI, 60, .inl c41)), (k44, .inl (cI, 60, .inl sc4_14)), (k45, .inl (cI, 60, .inl c45)), (k48, .inl (cI, 40, .inl c48))] H := hP
  replace hD : va_D A [(k, .inr (9, [.ref k0, .ref k1, .ref k2, .ref k3, .ref k4, .ref k5, .int c6, .int c7, .int c8])), (k5, .inr (3, [.ref k50, .int c51])), (k50, .inl (cI, 36, .inl c50)), (k4, .inr (8, [.ref k40, .ref k41, .ref k42, .ref k43, .ref k44, .ref k45, .ref k46, .ref k47, .ref k48, .int c49])), (k40, .inl (cI, 60, .inl c40)), (k41, .inl (cI, 60, .inl c41)), (k44, .inl (cI, 60, .inl sc4_14)), (k45, .inl (cI, 60, .inl c45)), (k48, .inl (cI, 40, .inl c48))] := hD
  have lo_r_12 := k_lo r_12
  have hi_r_12 := k_hi r_12
  refine lv_istore (lv' := [(4, .int r_12), (3, .int r_4), (2, .int r_1), (0, .ref k), (1, .int a0)]) hx hb dX9_eatOf_42 hl (by decide) rfl ?_
  clear hl
  intro ls hl
  refine lv_iload_n hx hb dX9_eatOf_44 rfl (lv_at hl 1 rfl) ?_
  refine lv_iload hx hb dX9_eatOf_45 (lv_at hl 0 rfl) ?_
  refine lv_iadd hx hb dX9_eatOf_47 ?_
  refine lv_topi (fun v_15 ev_15 => ?_)
  have lo_v_15 := k_lo v_15
  have hi_v_15 := k_hi v_15
  refine lv_iload_n hx hb dX9_eatOf_48 rfl (lv_at hl 2 rfl) ?_
  refine lv_isub hx hb dX9_eatOf_49 ?_
  refine lv_topi (fun v_16 ev_16 => ?_)
  have lo_v_16 := k_lo v_16
  have hi_v_16 := k_hi v_16
  refine lv_istore (lv' := [(5, .int v_16), (4, .int r_12), (3, .int r_4), (2, .int r_1), (0, .ref k), (1, .int a0)]) hx hb dX9_eatOf_50 hl (by decide) rfl ?_
  clear hl
  intro ls hl
  refine lv_aload_n hx hb dX9_eatOf_52 rfl (lv_at hl 4 rfl) ?_
  refine va_get (D := D) (ci := 9) (v := .ref k5) (C := RX9) (T := TX9) (N := 9) hx hb hT giX9 hown hK hP 0 rfl rfl 5 (by decide) (hT (Cond.fieldLink RX9 34 "DesertWire$World" "parties" "LDesertWire$Parties;") mw_100) (fun _ h9 => h9) rfl dX9_eatOf_53 ?_
  refine lv_iload_n hx hb dX9_eatOf_56 rfl (lv_at hl 5 rfl) ?_
  refine lv_iconst (v := 5) hx hb dX9_eatOf_57 (by decide) ?_
  refine lv_iconst (v := 0) hx hb dX9_eatOf_58 (by decide) ?_
  refine lv_iload hx hb dX9_eatOf_59 (lv_at hl 0 rfl) ?_
  refine va_mmax hx hb (hml.trans hl.1.symm) hown (hT _ mw_425) (hT _ mw_426) (hT _ mw_13) (hT _ mw_427) (Nat.le_of_ble_eq_true rfl) (Nat.le_of_ble_eq_true rfl) (Nat.le_of_ble_eq_true rfl) (Nat.le_of_ble_eq_true rfl) dX9_eatOf_61 ?_
  refine lv_topi (fun v_17 ev_17 => ?_)
  have lo_v_17 := k_lo v_17
  have hi_v_17 := k_hi v_17
  have tv_17 : v_17.toInt = k_max 0 v_16.toInt := by rw [ev_17]; exact k_mmax zl_0 rfl
  have sv_17 := k_max_spec (0) (v_16.toInt)
  refine kJv (wr := [(k, .inr (9, [.ref k0, .ref k1, .ref k2, .ref k3, .ref k4, .ref k5, .int c6, .int c7, .int c8])), (k4, .inr (8, [.ref k40, .ref k41, .ref k42, .ref k43, .ref k44, .ref k45, .ref k46, .ref k47, .ref k48, .int c49])), (k40, .inl (cI, 60, .inl c40)), (k41, .inl (cI, 60, .inl c41)), (k44, .inl (cI, 60, .inl sc4_14)), (k45, .inl (cI, 60, .inl c45)), (k48, .inl (cI, 40, .inl c48))]) (va_runV (As := [.int a0, .int 5, .int v_17]) (rest := []) ⟨hx, hb, hml, hown, hT⟩ (c_X3_setG l D cI aK aV k5 k50 H.size c51 c50 a0 5 v_17) (cwV 3 hT (gV_in mw_713 mw_981 mw_711 mw_712 mw_4) rfl rfl rfl (by decide +kernel) ⟨Nat.le_of_ble_eq_true rfl, Nat.le_of_ble_eq_true rfl⟩) (kRecvX (q0 := 1) (ci := 3) hK hP hD hN hXS hS hA rfl rfl [1, 2] rfl (by decide)) rfl rfl hl.1 rfl (lv_room (Nat.le_of_ble_eq_true rfl)) dX9_eatOf_64 ⟨Nat.le_of_ble_eq_true rfl, Nat.le_of_ble_eq_true rfl⟩) hP hD hS hA [1, 2] [0, 3, 4, 5, 6, 7, 8] rfl rfl (by decide) (by decide) ?_
  clear hP hD hS
  intro sc0_20 H locs w_19 hP hD hS
  replace hP : va_P D vwCl [(k, .inr (9, [.ref k0, .ref k1, .ref k2, .ref k3, .ref k4, .ref k5, .int c6, .int c7, .int c8])), (k4, .inr (8, [.ref k40, .ref k41, .ref k42, .ref k43, .ref k44, .ref k45, .ref k46, .ref k47, .ref k48, .int c49])), (k40, .inl (cI, 60, .inl c40)), (k41, .inl (cI, 60, .inl c41)), (k44, .inl (cI, 60, .inl sc4_14)), (k45, .inl (cI, 60, .inl c45)), (k48, .inl (cI, 40, .inl c48)), (k5, .inr (3, [.ref k50, .int c51])), (k50, .inl (cI, 36, .inl sc0_20))] H := hP
  replace hD : va_D A [(k, .inr (9, [.ref k0, .ref k1, .ref k2, .ref k3, .ref k4, .ref k5, .int c6, .int c7, .int c8])), (k4, .inr (8, [.ref k40, .ref k41, .ref k42, .ref k43, .ref k44, .ref k45, .ref k46, .ref k47, .ref k48, .int c49])), (k40, .inl (cI, 60, .inl c40)), (k41, .inl (cI, 60, .inl c41)), (k44, .inl (cI, 60, .inl sc4_14)), (k45, .inl (cI, 60, .inl c45)), (k48, .inl (cI, 40, .inl c48)), (k5, .inr (3, [.ref k50, .int c51])), (k50, .inl (cI, 36, .inl sc0_20))] := hD
  refine lv_iload hx hb dX9_eatOf_67 (lv_at hl 0 rfl) ?_
  refine b_if_ge hx hb rfl (tgt := 82) dX9_eatOf_69 (by decide) (fun c_21 => ?_) (fun c_21 => ?_)
  · refine lv_aload_n hx hb dX9_eatOf_82 rfl (lv_at hl 4 rfl) ?_
    refine va_get (D := D) (ci := 9) (v := .ref k5) (C := RX9) (T := TX9) (N := 9) hx hb hT giX9 hown hK hP 0 rfl rfl 5 (by decide) (hT (Cond.fieldLink RX9 34 "DesertWire$World" "parties" "LDesertWire$Parties;") mw_100) (fun _ h9 => h9) rfl dX9_eatOf_83 ?_
    refine lv_iload_n hx hb dX9_eatOf_86 rfl (lv_at hl 5 rfl) ?_
    refine lv_iconst (v := 2) hx hb dX9_eatOf_87 (by decide) ?_
    refine kJi (wr := [(k, .inr (9, [.ref k0, .ref k1, .ref k2, .ref k3, .ref k4, .ref k5, .int c6, .int c7, .int c8])), (k4, .inr (8, [.ref k40, .ref k41, .ref k42, .ref k43, .ref k44, .ref k45, .ref k46, .ref k47, .ref k48, .int c49])), (k40, .inl (cI, 60, .inl c40)), (k41, .inl (cI, 60, .inl c41)), (k44, .inl (cI, 60, .inl sc4_14)), (k45, .inl (cI, 60, .inl c45)), (k48, .inl (cI, 40, .inl c48))]) (va_runV (As := [.int a0, .int 2]) (rest := []) ⟨hx, hb, hml, hown, hT⟩ (c_X3_getG l D cI aK aV k5 k50 H.size c51 sc0_20 a0 2) (cwV 2 hT (gV_in mw_726 mw_978 mw_724 mw_725 mw_4) rfl rfl rfl (by decide +kernel) ⟨Nat.le_of_ble_eq_true rfl, Nat.le_of_ble_eq_true rfl⟩) (kRecvX (q0 := 7) (ci := 3) hK hP hD hN hXS hS hA rfl rfl [7, 8] rfl (by decide)) rfl rfl hl.1 rfl (lv_room (Nat.le_of_ble_eq_true rfl)) dX9_eatOf_88 ⟨Nat.le_of_ble_eq_true rfl, Nat.le_of_ble_eq_true rfl⟩) hP hD hS hA [7, 8] [0, 1, 2, 3, 4, 5, 6] rfl rfl (by decide) (by decide) ?_
    clear hP hD hS
    intro r_22 u_24 H locs w_23 hP hD hS
    replace hP : va_P D vwCl [(k, .inr (9, [.ref k0, .ref k1, .ref k2, .ref k3, .ref k4, .ref k5, .int c6, .int c7, .int c8])), (k4, .inr (8, [.ref k40, .ref k41, .ref k42, .ref k43, .ref k44, .ref k45, .ref k46, .ref k47, .ref k48, .int c49])), (k40, .inl (cI, 60, .inl c40)), (k41, .inl (cI, 60, .inl c41)), (k44, .inl (cI, 60, .inl sc4_14)), (k45, .inl (cI, 60, .inl c45)), (k48, .inl (cI, 40, .inl c48)), (k5, .inr (3, [.ref k50, .int c51])), (k50, .inl (cI, 36, .inl sc0_20))] H := hP
    replace hD : va_D A [(k, .inr (9, [.ref k0, .ref k1, .ref k2, .ref k3, .ref k4, .ref k5, .int c6, .int c7, .int c8])), (k4, .inr (8, [.ref k40, .ref k41, .ref k42, .ref k43, .ref k44, .ref k45, .ref k46, .ref k47, .ref k48, .int c49])), (k40, .inl (cI, 60, .inl c40)), (k41, .inl (cI, 60, .inl c41)), (k44, .inl (cI, 60, .inl sc4_14)), (k45, .inl (cI, 60, .inl c45)), (k48, .inl (cI, 40, .inl c48)), (k5, .inr (3, [.ref k50, .int c51])), (k50, .inl (cI, 36, .inl sc0_20))] := hD
    have lo_r_22 := k_lo r_22
    have hi_r_22 := k_hi r_22
    refine b_if_gt hx hb rfl (tgt := 105) dX9_eatOf_91 (by decide) (fun c_25 => ?_) (fun c_25 => ?_)
    · exact hRet (sc4_14, sc0_20) [0, 1, 7, 2, 3, 4, 5, 6, 8] trivial hP hD (by decide) rfl hS dX9_eatOf_105
    · refine lv_aload_n hx hb dX9_eatOf_94 rfl (lv_at hl 4 rfl) ?_
      refine va_get (D := D) (ci := 9) (v := .ref k5) (C := RX9) (T := TX9) (N := 9) hx hb hT giX9 hown hK hP 0 rfl rfl 5 (by decide) (hT (Cond.fieldLink RX9 34 "DesertWire$World" "parties" "LDesertWire$Parties;") mw_100) (fun _ h9 => h9) rfl dX9_eatOf_95 ?_
      refine lv_iload_n hx hb dX9_eatOf_98 rfl (lv_at hl 5 rfl) ?_
      refine lv_bipush (v := 8) hx hb dX9_eatOf_99 (by decide) ?_
      refine lv_iconst (v := 2) hx hb dX9_eatOf_101 (by decide) ?_
      refine kJv (wr := [(k, .inr (9, [.ref k0, .ref k1, .ref k2, .ref k3, .ref k4, .ref k5, .int c6, .int c7, .int c8])), (k4, .inr (8, [.ref k40, .ref k41, .ref k42, .ref k43, .ref k44, .ref k45, .ref k46, .ref k47, .ref k48, .int c49])), (k40, .inl (cI, 60, .inl c40)), (k41, .inl (cI, 60, .inl c41)), (k44, .inl (cI, 60, .inl sc4_14)), (k45, .inl (cI, 60, .inl c45)), (k48, .inl (cI, 40, .inl c48))]) (va_runV (As := [.int a0, .int 8, .int 2]) (rest := []) ⟨hx, hb, hml, hown, hT⟩ (c_X3_setG l D cI aK aV k5 k50 H.size c51 sc0_20 a0 8 2) (cwV 3 hT (gV_in mw_713 mw_981 mw_711 mw_712 mw_4) rfl rfl rfl (by decide +kernel) ⟨Nat.le_of_ble_eq_true rfl, Nat.le_of_ble_eq_true rfl⟩) (kRecvX (q0 := 7) (ci := 3) hK hP hD hN hXS hS hA rfl rfl [7, 8] rfl (by decide)) rfl rfl hl.1 rfl (lv_room (Nat.le_of_ble_eq_true rfl)) dX9_eatOf_102 ⟨Nat.le_of_ble_eq_true rfl, Nat.le_of_ble_eq_true rfl⟩) hP hD hS hA [7, 8] [0, 1, 2, 3, 4, 5, 6] rfl rfl (by decide) (by decide) ?_
      clear hP hD hS
      intro sc0_28 H locs w_27 hP hD hS
      replace hP : va_P D vwCl [(k, .inr (9, [.ref k0, .ref k1, .ref k2, .ref k3, .ref k4, .ref k5, .int c6, .int c7, .int c8])), (k4, .inr (8, [.ref k40, .ref k41, .ref k42, .ref k43, .ref k44, .ref k45, .ref k46, .ref k47, .ref k48, .int c49])), (k40, .inl (cI, 60, .inl c40)), (k41, .inl (cI, 60, .inl c41)), (k44, .inl (cI, 60, .inl sc4_14)), (k45, .inl (cI, 60, .inl c45)), (k48, .inl (cI, 40, .inl c48)), (k5, .inr (3, [.ref k50, .int c51])), (k50, .inl (cI, 36, .inl sc0_28))] H := hP
      replace hD : va_D A [(k, .inr (9, [.ref k0, .ref k1, .ref k2, .ref k3, .ref k4, .ref k5, .int c6, .int c7, .int c8])), (k4, .inr (8, [.ref k40, .ref k41, .ref k42, .ref k43, .ref k44, .ref k45, .ref k46, .ref k47, .ref k48, .int c49])), (k40, .inl (cI, 60, .inl c40)), (k41, .inl (cI, 60, .inl c41)), (k44, .inl (cI, 60, .inl sc4_14)), (k45, .inl (cI, 60, .inl c45)), (k48, .inl (cI, 40, .inl c48)), (k5, .inr (3, [.ref k50, .int c51])), (k50, .inl (cI, 36, .inl sc0_28))] := hD
      exact hRet (sc4_14, sc0_28) [0, 1, 7, 2, 3, 4, 5, 6, 8] trivial hP hD (by decide) rfl hS dX9_eatOf_105
  · refine lv_aload_n hx hb dX9_eatOf_72 rfl (lv_at hl 4 rfl) ?_
    refine va_get (D := D) (ci := 9) (v := .ref k5) (C := RX9) (T := TX9) (N := 9) hx hb hT giX9 hown hK hP 0 rfl rfl 5 (by decide) (hT (Cond.fieldLink RX9 34 "DesertWire$World" "parties" "LDesertWire$Parties;") mw_100) (fun _ h9 => h9) rfl dX9_eatOf_73 ?_
    refine lv_iload_n hx hb dX9_eatOf_76 rfl (lv_at hl 5 rfl) ?_
    refine lv_iconst (v := 2) hx hb dX9_eatOf_77 (by decide) ?_
    refine lv_iconst (v := (-1)) hx hb dX9_eatOf_78 (by decide) ?_
    refine kJv (wr := [(k, .inr (9, [.ref k0, .ref k1, .ref k2, .ref k3, .ref k4, .ref k5, .int c6, .int c7, .int c8])), (k4, .inr (8, [.ref k40, .ref k41, .ref k42, .ref k43, .ref k44, .ref k45, .ref k46, .ref k47, .ref k48, .int c49])), (k40, .inl (cI, 60, .inl c40)), (k41, .inl (cI, 60, .inl c41)), (k44, .inl (cI, 60, .inl sc4_14)), (k45, .inl (cI, 60, .inl c45)), (k48, .inl (cI, 40, .inl c48))]) (va_runV (As := [.int a0, .int 2, .int (-1)]) (rest := []) ⟨hx, hb, hml, hown, hT⟩ (c_X3_moreG l D cI aK aV k5 k50 H.size c51 sc0_20 a0 2 (-1)) (cwV 3 hT (gV_in mw_751 mw_982 mw_749 mw_750 mw_4) rfl rfl rfl (by decide +kernel) ⟨Nat.le_of_ble_eq_true rfl, Nat.le_of_ble_eq_true rfl⟩) (kRecvX (q0 := 7) (ci := 3) hK hP hD hN hXS hS hA rfl rfl [7, 8] rfl (by decide)) rfl rfl hl.1 rfl (lv_room (Nat.le_of_ble_eq_true rfl)) dX9_eatOf_79 ⟨Nat.le_of_ble_eq_true rfl, Nat.le_of_ble_eq_true rfl⟩) hP hD hS hA [7, 8] [0, 1, 2, 3, 4, 5, 6] rfl rfl (by decide) (by decide) ?_
    clear hP hD hS
    intro sc0_31 H locs w_30 hP hD hS
    replace hP : va_P D vwCl [(k, .inr (9, [.ref k0, .ref k1, .ref k2, .ref k3, .ref k4, .ref k5, .int c6, .int c7, .int c8])), (k4, .inr (8, [.ref k40, .ref k41, .ref k42, .ref k43, .ref k44, .ref k45, .ref k46, .ref k47, .ref k48, .int c49])), (k40, .inl (cI, 60, .inl c40)), (k41, .inl (cI, 60, .inl c41)), (k44, .inl (cI, 60, .inl sc4_14)), (k45, .inl (cI, 60, .inl c45)), (k48, .inl (cI, 40, .inl c48)), (k5, .inr (3, [.ref k50, .int c51])), (k50, .inl (cI, 36, .inl sc0_31))] H := hP
    replace hD : va_D A [(k, .inr (9, [.ref k0, .ref k1, .ref k2, .ref k3, .ref k4, .ref k5, .int c6, .int c7, .int c8])), (k4, .inr (8, [.ref k40, .ref k41, .ref k42, .ref k43, .ref k44, .ref k45, .ref k46, .ref k47, .ref k48, .int c49])), (k40, .inl (cI, 60, .inl c40)), (k41, .inl (cI, 60, .inl c41)), (k44, .inl (cI, 60, .inl sc4_14)), (k45, .inl (cI, 60, .inl c45)), (k48, .inl (cI, 40, .inl c48)), (k5, .inr (3, [.ref k50, .int c51])), (k50, .inl (cI, 36, .inl sc0_31))] := hD
    refine lv_aload_n hx hb dX9_eatOf_82 rfl (lv_at hl 4 rfl) ?_
    refine va_get (D := D) (ci := 9) (v := .ref k5) (C := RX9) (T := TX9) (N := 9) hx hb hT giX9 hown hK hP 0 rfl rfl 5 (by decide) (hT (Cond.fieldLink RX9 34 "DesertWire$World" "parties" "LDesertWire$Parties;") mw_100) (fun _ h9 => h9) rfl dX9_eatOf_83 ?_
    refine lv_iload_n hx hb dX9_eatOf_86 rfl (lv_at hl 5 rfl) ?_
    refine lv_iconst (v := 2) hx hb dX9_eatOf_87 (by decide) ?_
    refine kJi (wr := [(k, .inr (9, [.ref k0, .ref k1, .ref k2, .ref k3, .ref k4, .ref k5, .int c6, .int c7, .int c8])), (k4, .inr (8, [.ref k40, .ref k41, .ref k42, .ref k43, .ref k44, .ref k45, .ref k46, .ref k47, .ref k48, .int c49])), (k40, .inl (cI, 60, .inl c40)), (k41, .inl (cI, 60, .inl c41)), (k44, .inl (cI, 60, .inl sc4_14)), (k45, .inl (cI, 60, .inl c45)), (k48, .inl (cI, 40, .inl c48))]) (va_runV (As := [.int a0, .int 2]) (rest := []) ⟨hx, hb, hml, hown, hT⟩ (c_X3_getG l D cI aK aV k5 k50 H.size c51 sc0_31 a0 2) (cwV 2 hT (gV_in mw_726 mw_978 mw_724 mw_725 mw_4) rfl rfl rfl (by decide +kernel) ⟨Nat.le_of_ble_eq_true rfl, Nat.le_of_ble_eq_true rfl⟩) (kRecvX (q0 := 7) (ci := 3) hK hP hD hN hXS hS hA rfl rfl [7, 8] rfl (by decide)) rfl rfl hl.1 rfl (lv_room (Nat.le_of_ble_eq_true rfl)) dX9_eatOf_88 ⟨Nat.le_of_ble_eq_true rfl, Nat.le_of_ble_eq_true rfl⟩) hP hD hS hA [7, 8] [0, 1, 2, 3, 4, 5, 6] rfl rfl (by decide) (by decide) ?_
    clear hP hD hS
    intro r_32 u_34 H locs w_33 hP hD hS
    replace hP : va_P D vwCl [(k, .inr (9, [.ref k0, .ref k1, .ref k2, .ref k3, .ref k4, .ref k5, .int c6, .int c7, .int c8])), (k4, .inr (8, [.ref k40, .ref k41, .ref k42, .ref k43, .ref k44, .ref k45, .ref k46, .ref k47, .ref k48, .int c49])), (k40, .inl (cI, 60, .inl c40)), (k41, .inl (cI, 60, .inl c41)), (k44, .inl (cI, 60, .inl sc4_14)), (k45, .inl (cI, 60, .inl c45)), (k48, .inl (cI, 40, .inl c48)), (k5, .inr (3, [.ref k50, .int c51])), (k50, .inl (cI, 36, .inl sc0_31))] H := hP
    replace hD : va_D A [(k, .inr (9, [.ref k0, .ref k1, .ref k2, .ref k3, .ref k4, .ref k5, .int c6, .int c7, .int c8])), (k4, .inr (8, [.ref k40, .ref k41, .ref k42, .ref k43, .ref k44, .ref k45, .ref k46, .ref k47, .ref k48, .int c49])), (k40, .inl (cI, 60, .inl c40)), (k41, .inl (cI, 60, .inl c41)), (k44, .inl (cI, 60, .inl sc4_14)), (k45, .inl (cI, 60, .inl c45)), (k48, .inl (cI, 40, .inl c48)), (k5, .inr (3, [.ref k50, .int c51])), (k50, .inl (cI, 36, .inl sc0_31))] := hD
    have lo_r_32 := k_lo r_32
    have hi_r_32 := k_hi r_32
    refine b_if_gt hx hb rfl (tgt := 105) dX9_eatOf_91 (by decide) (fun c_35 => ?_) (fun c_35 => ?_)
    · exact hRet (sc4_14, sc0_31) [0, 1, 7, 2, 3, 4, 5, 6, 8] trivial hP hD (by decide) rfl hS dX9_eatOf_105
    · refine lv_aload_n hx hb dX9_eatOf_94 rfl (lv_at hl 4 rfl) ?_
      refine va_get (D := D) (ci := 9) (v := .ref k5) (C := RX9) (T := TX9) (N := 9) hx hb hT giX9 hown hK hP 0 rfl rfl 5 (by decide) (hT (Cond.fieldLink RX9 34 "DesertWire$World" "parties" "LDesertWire$Parties;") mw_100) (fun _ h9 => h9) rfl dX9_eatOf_95 ?_
      refine lv_iload_n hx hb dX9_eatOf_98 rfl (lv_at hl 5 rfl) ?_
      refine lv_bipush (v := 8) hx hb dX9_eatOf_99 (by decide) ?_
      refine lv_iconst (v := 2) hx hb dX9_eatOf_101 (by decide) ?_
      refine kJv (wr := [(k, .inr (9, [.ref k0, .ref k1, .ref k2, .ref k3, .ref k4, .ref k5, .int c6, .int c7, .int c8])), (k4, .inr (8, [.ref k40, .ref k41, .ref k42, .ref k43, .ref k44, .ref k45, .ref k46, .ref k47, .ref k48, .int c49])), (k40, .inl (cI, 60, .inl c40)), (k41, .inl (cI, 60, .inl c41)), (k44, .inl (cI, 60, .inl sc4_14)), (k45, .inl (cI, 60, .inl c45)), (k48, .inl (cI, 40, .inl c48))]) (va_runV (As := [.int a0, .int 8, .int 2]) (rest := []) ⟨hx, hb, hml, hown, hT⟩ (c_X3_setG l D cI aK aV k5 k50 H.size c51 sc0_31 a0 8 2) (cwV 3 hT (gV_in mw_713 mw_981 mw_711 mw_712 mw_4) rfl rfl rfl (by decide +kernel) ⟨Nat.le_of_ble_eq_true rfl, Nat.le_of_ble_eq_true rfl⟩) (kRecvX (q0 := 7) (ci := 3) hK hP hD hN hXS hS hA rfl rfl [7, 8] rfl (by decide)) rfl rfl hl.1 rfl (lv_room (Nat.le_of_ble_eq_true rfl)) dX9_eatOf_102 ⟨Nat.le_of_ble_eq_true rfl, Nat.le_of_ble_eq_true rfl⟩) hP hD hS hA [7, 8] [0, 1, 2, 3, 4, 5, 6] rfl rfl (by decide) (by decide) ?_
      clear hP hD hS
      intro sc0_38 H locs w_37 hP hD hS
      replace hP : va_P D vwCl [(k, .inr (9, [.ref k0, .ref k1, .ref k2, .ref k3, .ref k4, .ref k5, .int c6, .int c7, .int c8])), (k4, .inr (8, [.ref k40, .ref k41, .ref k42, .ref k43, .ref k44, .ref k45, .ref k46, .ref k47, .ref k48, .int c49])), (k40, .inl (cI, 60, .inl c40)), (k41, .inl (cI, 60, .inl c41)), (k44, .inl (cI, 60, .inl sc4_14)), (k45, .inl (cI, 60, .inl c45)), (k48, .inl (cI, 40, .inl c48)), (k5, .inr (3, [.ref k50, .int c51])), (k50, .inl (cI, 36, .inl sc0_38))] H := hP
      replace hD : va_D A [(k, .inr (9, [.ref k0, .ref k1, .ref k2, .ref k3, .ref k4, .ref k5, .int c6, .int c7, .int c8])), (k4, .inr (8, [.ref k40, .ref k41, .ref k42, .ref k43, .ref k44, .ref k45, .ref k46, .ref k47, .ref k48, .int c49])), (k40, .inl (cI, 60, .inl c40)), (k41, .inl (cI, 60, .inl c41)), (k44, .inl (cI, 60, .inl sc4_14)), (k45, .inl (cI, 60, .inl c45)), (k48, .inl (cI, 40, .inl c48)), (k5, .inr (3, [.ref k50, .int c51])), (k50, .inl (cI, 36, .inl sc0_38))] := hD
      exact hRet (sc4_14, sc0_38) [0, 1, 7, 2, 3, 4, 5, 6, 8] trivial hP hD (by decide) rfl hS dX9_eatOf_105
theorem dX9_goOn_0 : decode cX9_goOn 0 = .ok (.aload_n 0, 1) := by decide +kernel
theorem dX9_goOn_1 : decode cX9_goOn 1 = .ok (.getfield 34, 3) := by decide +kernel
theorem dX9_goOn_4 : decode cX9_goOn 4 = .ok (.iload_n 1, 1) := by decide +kernel
theorem dX9_goOn_5 : decode cX9_goOn 5 = .ok (.bipush 7, 2) := by decide +kernel
theorem dX9_goOn_7 : decode cX9_goOn 7 = .ok (.iconst 0, 1) := by decide +kernel
theorem dX9_goOn_8 : decode cX9_goOn 8 = .ok (.invokevirtual 145, 3) := by decide +kernel
theorem dX9_goOn_11 : decode cX9_goOn 11 = .ok (.iload_n 2, 1) := by decide +kernel
theorem dX9_goOn_12 : decode cX9_goOn 12 = .ok (.invokestatic 61, 3) := by decide +kernel
theorem dX9_goOn_15 : decode cX9_goOn 15 = .ok (.ifCond .eq 16, 3) := by decide +kernel
theorem dX9_goOn_18 : decode cX9_goOn 18 = .ok (.aload_n 0, 1) := by decide +kernel
theorem dX9_goOn_19 : decode cX9_goOn 19 = .ok (.getfield 34, 3) := by decide +kernel
theorem dX9_goOn_22 : decode cX9_goOn 22 = .ok (.iload_n 1, 1) := by decide +kernel
theorem dX9_goOn_23 : decode cX9_goOn 23 = .ok (.iconst 0, 1) := by decide +kernel
theorem dX9_goOn_24 : decode cX9_goOn 24 = .ok (.iload_n 2, 1) := by decide +kernel
theorem dX9_goOn_25 : decode cX9_goOn 25 = .ok (.invokevirtual 145, 3) := by decide +kernel
theorem dX9_goOn_28 : decode cX9_goOn 28 = .ok (.goto 14, 3) := by decide +kernel
theorem dX9_goOn_31 : decode cX9_goOn 31 = .ok (.aload_n 0, 1) := by decide +kernel
theorem dX9_goOn_32 : decode cX9_goOn 32 = .ok (.getfield 34, 3) := by decide +kernel
theorem dX9_goOn_35 : decode cX9_goOn 35 = .ok (.iload_n 1, 1) := by decide +kernel
theorem dX9_goOn_36 : decode cX9_goOn 36 = .ok (.bipush 8, 2) := by decide +kernel
theorem dX9_goOn_38 : decode cX9_goOn 38 = .ok (.iconst 1, 1) := by decide +kernel
theorem dX9_goOn_39 : decode cX9_goOn 39 = .ok (.invokevirtual 145, 3) := by decide +kernel
theorem dX9_goOn_42 : decode cX9_goOn 42 = .ok (.return_, 1) := by decide +kernel
set_option maxHeartbeats 4000000 in
set_option maxRecDepth 100000 in
theorem c_X9_goOnG (l : Launch) (D : va_G) (cI : ClassId) (aK aV : Nat → Nat) (k k0 k1 k2 k3 k4 k5 k50 : Nat) (sz : Nat) (c6 : Int32) (c7 : Int32) (c8 : Int32) (c51 : Int32) (c50 : Nat → Int32) (a0 : Int32) (a1 : Int32) : Met l yX9_goOn (gW yX9_goOn cX9_goOn 3 none) ({ frames := 2, cells := 0, slots := 0, locals := 44 } : Room) (kPreX D cI aK aV [.ref k, .int a0, .int a1] [(k, .inr (9, [.ref k0, .ref k1, .ref k2, .ref k3, .ref k4, .ref k5, .int c6, .int c7, .int c8])), (k5, .inr (3, [.ref k50, .int c51])), (k50, .inl (cI, 36, .inl c50))] sz) (va_Qv (fun (u : (Nat → Int32)) => True) (fun u t => kWd D cI (va_A [(k, .inr (9, [.ref k0, .ref k1, .ref k2, .ref k3, .ref k4, .ref k5, .int c6, .int c7, .int c8])), (k5, .inr (3, [.ref k50, .int c51])), (k50, .inl (cI, 36, .inl c50))] sz) [(k, .inr (9, [.ref k0, .ref k1, .ref k2, .ref k3, .ref k4, .ref k5, .int c6, .int c7, .int c8])), (k5, .inr (3, [.ref k50, .int c51])), (k50, .inl (cI, 36, .inl u))] t) (va_A [(k, .inr (9, [.ref k0, .ref k1, .ref k2, .ref k3, .ref k4, .ref k5, .int c6, .int c7, .int c8])), (k5, .inr (3, [.ref k50, .int c51])), (k50, .inl (cI, 36, .inl c50))] sz)) 0 0 (va_A [(k, .inr (9, [.ref k0, .ref k1, .ref k2, .ref k3, .ref k4, .ref k5, .int c6, .int c7, .int c8])), (k5, .inr (3, [.ref k50, .int c51])), (k50, .inl (cI, 36, .inl c50))] sz) := by
  refine kMetVX (own := RX9) (by decide) rfl (Nat.le_of_ble_eq_true rfl) ?_
  intro p e s m args below meth c hx hb hT hown hname hml A Q hK hP hD hS hA hN hXS hRet ls hl
  have hl : lv_has ls 3 [(0, .ref k), (1, .int a0), (2, .int a1)] := hl
  have lo_a0 := k_lo a0
  have hi_a0 := k_hi a0
  have lo_a1 := k_lo a1
  have hi_a1 := k_hi a1
  refine lv_aload_n hx hb dX9_goOn_0 rfl (lv_at hl 0 rfl) ?_
  refine va_get (D := D) (ci := 9) (v := .ref k5) (C := RX9) (T := TX9) (N := 9) hx hb hT giX9 hown hK hP 0 rfl rfl 5 (by decide) (hT (Cond.fieldLink RX9 34 "DesertWire$World" "parties" "LDesertWire$Parties;") mw_100) (fun _ h9 => h9) rfl dX9_goOn_1 ?_
  refine lv_iload_n hx hb dX9_goOn_4 rfl (lv_at hl 1 rfl) ?_
  refine lv_bipush (v := 7) hx hb dX9_goOn_5 (by decide) ?_
  refine lv_iconst (v := 0) hx hb dX9_goOn_7 (by decide) ?_
  refine kJv (wr := [(k, .inr (9, [.ref k0, .ref k1, .ref k2, .ref k3, .ref k4, .ref k5, .int c6, .int c7, .int c8]))]) (va_runV (As := [.int a0, .int 7, .int 0]) (rest := []) ⟨hx, hb, hml, hown, hT⟩ (c_X3_setG l D cI aK aV k5 k50 s.heap.size c51 c50 a0 7 0) (cwV 3 hT (gV_in mw_713 mw_981 mw_711 mw_712 mw_4) rfl rfl rfl (by decide +kernel) ⟨Nat.le_of_ble_eq_true rfl, Nat.le_of_ble_eq_true rfl⟩) (kRecvX (q0 := 1) (ci := 3) hK hP hD hN hXS hS hA rfl rfl [1, 2] rfl (by decide)) rfl rfl hl.1 rfl (lv_room (Nat.le_of_ble_eq_true rfl)) dX9_goOn_8 ⟨Nat.le_of_ble_eq_true rfl, Nat.le_of_ble_eq_true rfl⟩) hP hD hS hA [1, 2] [0] rfl rfl (by decide) (by decide) ?_
  clear hP hD hS
  intro sc0_3 H locs w_2 hP hD hS
  replace hP : va_P D vwCl [(k, .inr (9, [.ref k0, .ref k1, .ref k2, .ref k3, .ref k4, .ref k5, .int c6, .int c7, .int c8])), (k5, .inr (3, [.ref k50, .int c51])), (k50, .inl (cI, 36, .inl sc0_3))] H := hP
  replace hD : va_D A [(k, .inr (9, [.ref k0, .ref k1, .ref k2, .ref k3, .ref k4, .ref k5, .int c6, .int c7, .int c8])), (k5, .inr (3, [.ref k50, .int c51])), (k50, .inl (cI, 36, .inl sc0_3))] := hD
  refine lv_iload_n hx hb dX9_goOn_11 rfl (lv_at hl 2 rfl) ?_
  refine kJi (wr := [(k, .inr (9, [.ref k0, .ref k1, .ref k2, .ref k3, .ref k4, .ref k5, .int c6, .int c7, .int c8])), (k5, .inr (3, [.ref k50, .int c51])), (k50, .inl (cI, 36, .inl sc0_3))]) (va_runSN (As := [.int a1]) (rest := []) ⟨hx, hb, hml, hown, hT⟩ (c_X10_isMileG l D cI aK aV H.size a1) ⟨va_cnB 1 hT (gW_in mw_346) rfl rfl rfl (hN _ mw_424) (hT _ mw_1) (by decide +kernel) ⟨Nat.le_of_ble_eq_true rfl, Nat.le_of_ble_eq_true rfl⟩, hT _ mw_345, trivial⟩ (kStatX hK hP hD hN hXS hS hA [] rfl (by decide)) rfl rfl hl.1 rfl (lv_room (Nat.le_of_ble_eq_true rfl)) dX9_goOn_12 ⟨Nat.le_of_ble_eq_true rfl, Nat.le_of_ble_eq_true rfl⟩) hP hD hS hA [] [0, 1, 2] rfl rfl (by decide) (by decide) ?_
  clear hP hD hS
  intro r_4 u_6 H locs w_5 hP hD hS
  replace hP : va_P D vwCl [(k, .inr (9, [.ref k0, .ref k1, .ref k2, .ref k3, .ref k4, .ref k5, .int c6, .int c7, .int c8])), (k5, .inr (3, [.ref k50, .int c51])), (k50, .inl (cI, 36, .inl sc0_3))] H := hP
  replace hD : va_D A [(k, .inr (9, [.ref k0, .ref k1, .ref k2, .ref k3, .ref k4, .ref k5, .int c6, .int c7, .int c8])), (k5, .inr (3, [.ref k50, .int c51])), (k50, .inl (cI, 36, .inl sc0_3))] := hD
  rcases w_5 with ⟨hr_4, h_7, h_8⟩ | ⟨hr_4, h_9⟩
  · have h_7 : 0 ≤ a1.toInt := h_7
    have h_8 : a1.toInt ≤ 39 := h_8
    obtain rfl : r_4 = 1 := hr_4.trans (by decide)
    refine b_if_eq hx hb zl_1 (tgt := 31) dX9_goOn_15 (by decide) (fun c_10 => by exfalso; omega) (fun c_10 => ?_)
    refine lv_aload_n hx hb dX9_goOn_18 rfl (lv_at hl 0 rfl) ?_
    refine va_get (D := D) (ci := 9) (v := .ref k5) (C := RX9) (T := TX9) (N := 9) hx hb hT giX9 hown hK hP 0 rfl rfl 5 (by decide) (hT (Cond.fieldLink RX9 34 "DesertWire$World" "parties" "LDesertWire$Parties;") mw_100) (fun _ h9 => h9) rfl dX9_goOn_19 ?_
    refine lv_iload_n hx hb dX9_goOn_22 rfl (lv_at hl 1 rfl) ?_
    refine lv_iconst (v := 0) hx hb dX9_goOn_23 (by decide) ?_
    refine lv_iload_n hx hb dX9_goOn_24 rfl (lv_at hl 2 rfl) ?_
    refine kJv (wr := [(k, .inr (9, [.ref k0, .ref k1, .ref k2, .ref k3, .ref k4, .ref k5, .int c6, .int c7, .int c8]))]) (va_runV (As := [.int a0, .int 0, .int a1]) (rest := []) ⟨hx, hb, hml, hown, hT⟩ (c_X3_setG l D cI aK aV k5 k50 H.size c51 sc0_3 a0 0 a1) (cwV 3 hT (gV_in mw_713 mw_981 mw_711 mw_712 mw_4) rfl rfl rfl (by decide +kernel) ⟨Nat.le_of_ble_eq_true rfl, Nat.le_of_ble_eq_true rfl⟩) (kRecvX (q0 := 1) (ci := 3) hK hP hD hN hXS hS hA rfl rfl [1, 2] rfl (by decide)) rfl rfl hl.1 rfl (lv_room (Nat.le_of_ble_eq_true rfl)) dX9_goOn_25 ⟨Nat.le_of_ble_eq_true rfl, Nat.le_of_ble_eq_true rfl⟩) hP hD hS hA [1, 2] [0] rfl rfl (by decide) (by decide) ?_
    clear hP hD hS
    intro sc0_13 H locs w_12 hP hD hS
    replace hP : va_P D vwCl [(k, .inr (9, [.ref k0, .ref k1, .ref k2, .ref k3, .ref k4, .ref k5, .int c6, .int c7, .int c8])), (k5, .inr (3, [.ref k50, .int c51])), (k50, .inl (cI, 36, .inl sc0_13))] H := hP
    replace hD : va_D A [(k, .inr (9, [.ref k0, .ref k1, .ref k2, .ref k3, .ref k4, .ref k5, .int c6, .int c7, .int c8])), (k5, .inr (3, [.ref k50, .int c51])), (k50, .inl (cI, 36, .inl sc0_13))] := hD
    refine lv_goto (tgt := 42) hx hb dX9_goOn_28 (by decide) ?_
    exact hRet sc0_13 [0, 1, 2] trivial hP hD (by decide) rfl hS dX9_goOn_42
  · have h_9 : a1.toInt < 0 ∨ 39 < a1.toInt := h_9
    obtain rfl : r_4 = 0 := hr_4.trans (by decide)
    refine b_if_eq hx hb zl_0 (tgt := 31) dX9_goOn_15 (by decide) (fun c_14 => ?_) (fun c_14 => by exfalso; omega)
    refine lv_aload_n hx hb dX9_goOn_31 rfl (lv_at hl 0 rfl) ?_
    refine va_get (D := D) (ci := 9) (v := .ref k5) (C := RX9) (T := TX9) (N := 9) hx hb hT giX9 hown hK hP 0 rfl rfl 5 (by decide) (hT (Cond.fieldLink RX9 34 "DesertWire$World" "parties" "LDesertWire$Parties;") mw_100) (fun _ h9 => h9) rfl dX9_goOn_32 ?_
    refine lv_iload_n hx hb dX9_goOn_35 rfl (lv_at hl 1 rfl) ?_
    refine lv_bipush (v := 8) hx hb dX9_goOn_36 (by decide) ?_
    refine lv_iconst (v := 1) hx hb dX9_goOn_38 (by decide) ?_
    refine kJv (wr := [(k, .inr (9, [.ref k0, .ref k1, .ref k2, .ref k3, .ref k4, .ref k5, .int c6, .int c7, .int c8]))]) (va_runV (As := [.int a0, .int 8, .int 1]) (rest := []) ⟨hx, hb, hml, hown, hT⟩ (c_X3_setG l D cI aK aV k5 k50 H.size c51 sc0_3 a0 8 1) (cwV 3 hT (gV_in mw_713 mw_981 mw_711 mw_712 mw_4) rfl rfl rfl (by decide +kernel) ⟨Nat.le_of_ble_eq_true rfl, Nat.le_of_ble_eq_true rfl⟩) (kRecvX (q0 := 1) (ci := 3) hK hP hD hN hXS hS hA rfl rfl [1, 2] rfl (by decide)) rfl rfl hl.1 rfl (lv_room (Nat.le_of_ble_eq_true rfl)) dX9_goOn_39 ⟨Nat.le_of_ble_eq_true rfl, Nat.le_of_ble_eq_true rfl⟩) hP hD hS hA [1, 2] [0] rfl rfl (by decide) (by decide) ?_
    clear hP hD hS
    intro sc0_17 H locs w_16 hP hD hS
    replace hP : va_P D vwCl [(k, .inr (9, [.ref k0, .ref k1, .ref k2, .ref k3, .ref k4, .ref k5, .int c6, .int c7, .int c8])), (k5, .inr (3, [.ref k50, .int c51])), (k50, .inl (cI, 36, .inl sc0_17))] H := hP
    replace hD : va_D A [(k, .inr (9, [.ref k0, .ref k1, .ref k2, .ref k3, .ref k4, .ref k5, .int c6, .int c7, .int c8])), (k5, .inr (3, [.ref k50, .int c51])), (k50, .inl (cI, 36, .inl sc0_17))] := hD
    exact hRet sc0_17 [0, 1, 2] trivial hP hD (by decide) rfl hS dX9_goOn_42
theorem dX9_dig_0 : decode cX9_dig 0 = .ok (.aload_n 0, 1) := by decide +kernel
theorem dX9_dig_1 : decode cX9_dig 1 = .ok (.getfield 34, 3) := by decide +kernel
theorem dX9_dig_4 : decode cX9_dig 4 = .ok (.iload_n 1, 1) := by decide +kernel
theorem dX9_dig_5 : decode cX9_dig 5 = .ok (.bipush 7, 2) := by decide +kernel
theorem dX9_dig_7 : decode cX9_dig 7 = .ok (.aload_n 0, 1) := by decide +kernel
theorem dX9_dig_8 : decode cX9_dig 8 = .ok (.getfield 34, 3) := by decide +kernel
theorem dX9_dig_11 : decode cX9_dig 11 = .ok (.iload_n 1, 1) := by decide +kernel
theorem dX9_dig_12 : decode cX9_dig 12 = .ok (.iconst 2, 1) := by decide +kernel
theorem dX9_dig_13 : decode cX9_dig 13 = .ok (.invokevirtual 130, 3) := by decide +kernel
theorem dX9_dig_16 : decode cX9_dig 16 = .ok (.invokevirtual 149, 3) := by decide +kernel
theorem dX9_dig_19 : decode cX9_dig 19 = .ok (.aload_n 0, 1) := by decide +kernel
theorem dX9_dig_20 : decode cX9_dig 20 = .ok (.getfield 34, 3) := by decide +kernel
theorem dX9_dig_23 : decode cX9_dig 23 = .ok (.iload_n 1, 1) := by decide +kernel
theorem dX9_dig_24 : decode cX9_dig 24 = .ok (.bipush 7, 2) := by decide +kernel
theorem dX9_dig_26 : decode cX9_dig 26 = .ok (.invokevirtual 130, 3) := by decide +kernel
theorem dX9_dig_29 : decode cX9_dig 29 = .ok (.aload_n 0, 1) := by decide +kernel
theorem dX9_dig_30 : decode cX9_dig 30 = .ok (.iload_n 2, 1) := by decide +kernel
theorem dX9_dig_31 : decode cX9_dig 31 = .ok (.invokevirtual 162, 3) := by decide +kernel
theorem dX9_dig_34 : decode cX9_dig 34 = .ok (.if_icmp .lt 7, 3) := by decide +kernel
theorem dX9_dig_37 : decode cX9_dig 37 = .ok (.iconst 1, 1) := by decide +kernel
theorem dX9_dig_38 : decode cX9_dig 38 = .ok (.goto 4, 3) := by decide +kernel
theorem dX9_dig_41 : decode cX9_dig 41 = .ok (.iconst 0, 1) := by decide +kernel
theorem dX9_dig_42 : decode cX9_dig 42 = .ok (.istore_n 3, 1) := by decide +kernel
theorem dX9_dig_43 : decode cX9_dig 43 = .ok (.iload_n 3, 1) := by decide +kernel
theorem dX9_dig_44 : decode cX9_dig 44 = .ok (.ifCond .eq 63, 3) := by decide +kernel
theorem dX9_dig_47 : decode cX9_dig 47 = .ok (.aload_n 0, 1) := by decide +kernel
theorem dX9_dig_48 : decode cX9_dig 48 = .ok (.getfield 34, 3) := by decide +kernel
theorem dX9_dig_51 : decode cX9_dig 51 = .ok (.iload_n 1, 1) := by decide +kernel
theorem dX9_dig_52 : decode cX9_dig 52 = .ok (.iconst 4, 1) := by decide +kernel
theorem dX9_dig_53 : decode cX9_dig 53 = .ok (.invokevirtual 130, 3) := by decide +kernel
theorem dX9_dig_56 : decode cX9_dig 56 = .ok (.ifCond .le 51, 3) := by decide +kernel
theorem dX9_dig_59 : decode cX9_dig 59 = .ok (.aload_n 0, 1) := by decide +kernel
theorem dX9_dig_60 : decode cX9_dig 60 = .ok (.getfield 27, 3) := by decide +kernel
theorem dX9_dig_63 : decode cX9_dig 63 = .ok (.invokevirtual 165, 3) := by decide +kernel
theorem dX9_dig_66 : decode cX9_dig 66 = .ok (.ifCond .eq 41, 3) := by decide +kernel
theorem dX9_dig_69 : decode cX9_dig 69 = .ok (.aload_n 0, 1) := by decide +kernel
theorem dX9_dig_70 : decode cX9_dig 70 = .ok (.getfield 27, 3) := by decide +kernel
theorem dX9_dig_73 : decode cX9_dig 73 = .ok (.iconst 1, 1) := by decide +kernel
theorem dX9_dig_74 : decode cX9_dig 74 = .ok (.iload_n 2, 1) := by decide +kernel
theorem dX9_dig_75 : decode cX9_dig 75 = .ok (.iconst 1, 1) := by decide +kernel
theorem dX9_dig_76 : decode cX9_dig 76 = .ok (.aload_n 0, 1) := by decide +kernel
theorem dX9_dig_77 : decode cX9_dig 77 = .ok (.getfield 45, 3) := by decide +kernel
theorem dX9_dig_80 : decode cX9_dig 80 = .ok (.iconst 1, 1) := by decide +kernel
theorem dX9_dig_81 : decode cX9_dig 81 = .ok (.iadd, 1) := by decide +kernel
theorem dX9_dig_82 : decode cX9_dig 82 = .ok (.invokevirtual 169, 3) := by decide +kernel
theorem dX9_dig_85 : decode cX9_dig 85 = .ok (.pop, 1) := by decide +kernel
theorem dX9_dig_86 : decode cX9_dig 86 = .ok (.aload_n 0, 1) := by decide +kernel
theorem dX9_dig_87 : decode cX9_dig 87 = .ok (.getfield 34, 3) := by decide +kernel
theorem dX9_dig_90 : decode cX9_dig 90 = .ok (.iload_n 1, 1) := by decide +kernel
theorem dX9_dig_91 : decode cX9_dig 91 = .ok (.iconst 4, 1) := by decide +kernel
theorem dX9_dig_92 : decode cX9_dig 92 = .ok (.iconst (-1), 1) := by decide +kernel
theorem dX9_dig_93 : decode cX9_dig 93 = .ok (.invokevirtual 149, 3) := by decide +kernel
theorem dX9_dig_96 : decode cX9_dig 96 = .ok (.aload_n 0, 1) := by decide +kernel
theorem dX9_dig_97 : decode cX9_dig 97 = .ok (.getfield 34, 3) := by decide +kernel
theorem dX9_dig_100 : decode cX9_dig 100 = .ok (.iload_n 1, 1) := by decide +kernel
theorem dX9_dig_101 : decode cX9_dig 101 = .ok (.bipush 7, 2) := by decide +kernel
theorem dX9_dig_103 : decode cX9_dig 103 = .ok (.iconst 0, 1) := by decide +kernel
theorem dX9_dig_104 : decode cX9_dig 104 = .ok (.invokevirtual 145, 3) := by decide +kernel
theorem dX9_dig_107 : decode cX9_dig 107 = .ok (.return_, 1) := by decide +kernel
set_option maxHeartbeats 4000000 in
set_option maxRecDepth 100000 in
theorem c_X9_digG (l : Launch) (D : va_G) (cI : ClassId) (aK aV : Nat → Nat) (k k0 k1 k2 k3 k4 k5 k40 k41 k42 k43 k44 k45 k46 k47 k48 k50 : Nat) (sz : Nat) (c6 : Int32) (c7 : Int32) (c8 : Int32) (c0 : Nat → Int32) (c1 : Nat → Int32) (c49 : Int32) (c51 : Int32) (c40 : Nat → Int32) (c41 : Nat → Int32) (c42 : Nat → Int32) (c43 : Nat → Int32) (c44 : Nat → Int32) (c45 : Nat → Int32) (c46 : Nat → Int32) (c47 : Nat → Int32) (c48 : Nat → Int32) (c50 : Nat → Int32) (a0 : Int32) (a1 : Int32) : Met l yX9_dig (gW yX9_dig cX9_dig 4 none) ({ frames := 4, cells := 0, slots := 0, locals := 90 } : Room) (kPreX D cI aK aV [.ref k, .int a0, .int a1] [(k, .inr (9, [.ref k0, .ref k1, .ref k2, .ref k3, .ref k4, .ref k5, .int c6, .int c7, .int c8])), (k0, .inl (cI, 12, .inl c0)), (k1, .inl (cI, 40, .inl c1)), (k4, .inr (8, [.ref k40, .ref k41, .ref k42, .ref k43, .ref k44, .ref k45, .ref k46, .ref k47, .ref k48, .int c49])), (k5, .inr (3, [.ref k50, .int c51])), (k40, .inl (cI, 60, .inl c40)), (k41, .inl (cI, 60, .inl c41)), (k42, .inl (cI, 60, .inl c42)), (k43, .inl (cI, 60, .inl c43)), (k44, .inl (cI, 60, .inl c44)), (k45, .inl (cI, 60, .inl c45)), (k46, .inl (cI, 40, .inl c46)), (k47, .inl (cI, 40, .inl c47)), (k48, .inl (cI, 40, .inl c48)), (k50, .inl (cI, 36, .inl c50))] sz) (va_Qv (fun (u : Int32 × (Nat → Int32) × (Nat → Int32) × (Nat → Int32) × (Nat → Int32) × (Nat → Int32) × (Nat → Int32) × (Nat → Int32) × (Nat → Int32) × (Nat → Int32) × (Nat → Int32)) => True) (fun u t => kWd D cI (va_A [(k, .inr (9, [.ref k0, .ref k1, .ref k2, .ref k3, .ref k4, .ref k5, .int c6, .int c7, .int c8])), (k0, .inl (cI, 12, .inl c0)), (k1, .inl (cI, 40, .inl c1)), (k4, .inr (8, [.ref k40, .ref k41, .ref k42, .ref k43, .ref k44, .ref k45, .ref k46, .ref k47, .ref k48, .int c49])), (k5, .inr (3, [.ref k50, .int c51])), (k40, .inl (cI, 60, .inl c40)), (k41, .inl (cI, 60, .inl c41)), (k42, .inl (cI, 60, .inl c42)), (k43, .inl (cI, 60, .inl c43)), (k44, .inl (cI, 60, .inl c44)), (k45, .inl (cI, 60, .inl c45)), (k46, .inl (cI, 40, .inl c46)), (k47, .inl (cI, 40, .inl c47)), (k48, .inl (cI, 40, .inl c48)), (k50, .inl (cI, 36, .inl c50))] sz) [(k, .inr (9, [.ref k0, .ref k1, .ref k2, .ref k3, .ref k4, .ref k5, .int c6, .int c7, .int c8])), (k0, .inl (cI, 12, .inl c0)), (k1, .inl (cI, 40, .inl c1)), (k4, .inr (8, [.ref k40, .ref k41, .ref k42, .ref k43, .ref k44, .ref k45, .ref k46, .ref k47, .ref k48, .int u.1])), (k5, .inr (3, [.ref k50, .int c51])), (k40, .inl (cI, 60, .inl u.2.1)), (k41, .inl (cI, 60, .inl u.2.2.1)), (k42, .inl (cI, 60, .inl u.2.2.2.1)), (k43, .inl (cI, 60, .inl u.2.2.2.2.1)), (k44, .inl (cI, 60, .inl u.2.2.2.2.2.1)), (k45, .inl (cI, 60, .inl u.2.2.2.2.2.2.1)), (k46, .inl (cI, 40, .inl u.2.2.2.2.2.2.2.1)), (k47, .inl (cI, 40, .inl u.2.2.2.2.2.2.2.2.1)), (k48, .inl (cI, 40, .inl u.2.2.2.2.2.2.2.2.2.1)), (k50, .inl (cI, 36, .inl u.2.2.2.2.2.2.2.2.2.2))] t) (va_A [(k, .inr (9, [.ref k0, .ref k1, .ref k2, .ref k3, .ref k4, .ref k5, .int c6, .int c7, .int c8])), (k0, .inl (cI, 12, .inl c0)), (k1, .inl (cI, 40, .inl c1)), (k4, .inr (8, [.ref k40, .ref k41, .ref k42, .ref k43, .ref k44, .ref k45, .ref k46, .ref k47, .ref k48, .int c49])), (k5, .inr (3, [.ref k50, .int c51])), (k40, .inl (cI, 60, .inl c40)), (k41, .inl (cI, 60, .inl c41)), (k42, .inl (cI, 60, .inl c42)), (k43, .inl (cI, 60, .inl c43)), (k44, .inl (cI, 60, .inl c44)), (k45, .inl (cI, 60, .inl c45)), (k46, .inl (cI, 40, .inl c46)), (k47, .inl (cI, 40, .inl c47)), (k48, .inl (cI, 40, .inl c48)), (k50, .inl (cI, 36, .inl c50))] sz)) 0 0 (va_A [(k, .inr (9, [.ref k0, .ref k1, .ref k2, .ref k3, .ref k4, .ref k5, .int c6, .int c7, .int c8])), (k0, .inl (cI, 12, .inl c0)), (k1, .inl (cI, 40, .inl c1)), (k4, .inr (8, [.ref k40, .ref k41, .ref k42, .ref k43, .ref k44, .ref k45, .ref k46, .ref k47, .ref k48, .int c49])), (k5, .inr (3, [.ref k50, .int c51])), (k40, .inl (cI, 60, .inl c40)), (k41, .inl (cI, 60, .inl c41)), (k42, .inl (cI, 60, .inl c42)), (k43, .inl (cI, 60, .inl c43)), (k44, .inl (cI, 60, .inl c44)), (k45, .inl (cI, 60, .inl c45)), (k46, .inl (cI, 40, .inl c46)), (k47, .inl (cI, 40, .inl c47)), (k48, .inl (cI, 40, .inl c48)), (k50, .inl (cI, 36, .inl c50))] sz) := by
  refine kMetVX (own := RX9) (by decide) rfl (Nat.le_of_ble_eq_true rfl) ?_
  intro p e s m args below meth c hx hb hT hown hname hml A Q hK hP hD hS hA hN hXS hRet ls hl
  have hl : lv_has ls 4 [(0, .ref k), (1, .int a0), (2, .int a1)] := hl
  have lo_a0 := k_lo a0
  have hi_a0 := k_hi a0
  have lo_a1 := k_lo a1
  have hi_a1 := k_hi a1
  have lo_c8 := k_lo c8
  have hi_c8 := k_hi c8
  have lo_c49 := k_lo c49
  have hi_c49 := k_hi c49
  refine lv_aload_n hx hb dX9_dig_0 rfl (lv_at hl 0 rfl) ?_
  refine va_get (D := D) (ci := 9) (v := .ref k5) (C := RX9) (T := TX9) (N := 9) hx hb hT giX9 hown hK hP 0 rfl rfl 5 (by decide) (hT (Cond.fieldLink RX9 34 "DesertWire$World" "parties" "LDesertWire$Parties;") mw_100) (fun _ h9 => h9) rfl dX9_dig_1 ?_
  refine lv_iload_n hx hb dX9_dig_4 rfl (lv_at hl 1 rfl) ?_
  refine lv_bipush (v := 7) hx hb dX9_dig_5 (by decide) ?_
  refine lv_aload_n hx hb dX9_dig_7 rfl (lv_at hl 0 rfl) ?_
  refine va_get (D := D) (ci := 9) (v := .ref k5) (C := RX9) (T := TX9) (N := 9) hx hb hT giX9 hown hK hP 0 rfl rfl 5 (by decide) (hT (Cond.fieldLink RX9 34 "DesertWire$World" "parties" "LDesertWire$Parties;") mw_100) (fun _ h9 => h9) rfl dX9_dig_8 ?_
  refine lv_iload_n hx hb dX9_dig_11 rfl (lv_at hl 1 rfl) ?_
  refine lv_iconst (v := 2) hx hb dX9_dig_12 (by decide) ?_
  refine kJi (wr := [(k, .inr (9, [.ref k0, .ref k1, .ref k2, .ref k3, .ref k4, .ref k5, .int c6, .int c7, .int c8])), (k0, .inl (cI, 12, .inl c0)), (k1, .inl (cI, 40, .inl c1)), (k4, .inr (8, [.ref k40, .ref k41, .ref k42, .ref k43, .ref k44, .ref k45, .ref k46, .ref k47, .ref k48, .int c49])), (k40, .inl (cI, 60, .inl c40)), (k41, .inl (cI, 60, .inl c41)), (k42, .inl (cI, 60, .inl c42)), (k43, .inl (cI, 60, .inl c43)), (k44, .inl (cI, 60, .inl c44)), (k45, .inl (cI, 60, .inl c45)), (k46, .inl (cI, 40, .inl c46)), (k47, .inl (cI, 40, .inl c47)), (k48, .inl (cI, 40, .inl c48))]) (va_runV (As := [.int a0, .int 2]) (rest := [.int 7, .int a0, .ref k5]) ⟨hx, hb, hml, hown, hT⟩ (c_X3_getG l D cI aK aV k5 k50 s.heap.size c51 c50 a0 2) (cwV 2 hT (gV_in mw_726 mw_978 mw_724 mw_725 mw_4) rfl rfl rfl (by decide +kernel) ⟨Nat.le_of_ble_eq_true rfl, Nat.le_of_ble_eq_true rfl⟩) (kRecvX (q0 := 4) (ci := 3) hK hP hD hN hXS hS hA rfl rfl [4, 14] rfl (by decide)) rfl rfl hl.1 rfl (lv_room (Nat.le_of_ble_eq_true rfl)) dX9_dig_13 ⟨Nat.le_of_ble_eq_true rfl, Nat.le_of_ble_eq_true rfl⟩) hP hD hS hA [4, 14] [0, 1, 2, 3, 5, 6, 7, 8, 9, 10, 11, 12, 13] rfl rfl (by decide) (by decide) ?_
  clear hP hD hS
  intro r_1 u_3 H locs w_2 hP hD hS
  replace hP : va_P D vwCl [(k, .inr (9, [.ref k0, .ref k1, .ref k2, .ref k3, .ref k4, .ref k5, .int c6, .int c7, .int c8])), (k0, .inl (cI, 12, .inl c0)), (k1, .inl (cI, 40, .inl c1)), (k4, .inr (8, [.ref k40, .ref k41, .ref k42, .ref k43, .ref k44, .ref k45, .ref k46, .ref k47, .ref k48, .int c49])), (k40, .inl (cI, 60, .inl c40)), (k41, .inl (cI, 60, .inl c41)), (k42, .inl (cI, 60, .inl c42)), (k43, .inl (cI, 60, .inl c43)), (k44, .inl (cI, 60, .inl c44)), (k45, .inl (cI, 60, .inl c45)), (k46, .inl (cI, 40, .inl c46)), (k47, .inl (cI, 40, .inl c47)), (k48, .inl (cI, 40, .inl c48)), (k5, .inr (3, [.ref k50, .int c51])), (k50, .inl (cI, 36, .inl c50))] H := hP
  replace hD : va_D A [(k, .inr (9, [.ref k0, .ref k1, .ref k2, .ref k3, .ref k4, .ref k5, .int c6, .int c7, .int c8])), (k0, .inl (cI, 12, .inl c0)), (k1, .inl (cI, 40, .inl c1)), (k4, .inr (8, [.ref k40, .ref k41, .ref k42, .ref k43, .ref k44, .ref k45, .ref k46, .ref k47, .ref k48, .int c49])), (k40, .inl (cI, 60, .inl c40)), (k41, .inl (cI, 60, .inl c41)), (k42, .inl (cI, 60, .inl c42)), (k43, .inl (cI, 60, .inl c43)), (k44, .inl (cI, 60, .inl c44)), (k45, .inl (cI, 60, .inl c45)), (k46, .inl (cI, 40, .inl c46)), (k47, .inl (cI, 40, .inl c47)), (k48, .inl (cI, 40, .inl c48)), (k5, .inr (3, [.ref k50, .int c51])), (k50, .inl (cI, 36, .inl c50))] := hD
  have lo_r_1 := k_lo r_1
  have hi_r_1 := k_hi r_1
  refine kJv (wr := [(k, .inr (9, [.ref k0, .ref k1, .ref k2, .ref k3, .ref k4, .ref k5, .int c6, .int c7, .int c8])), (k0, .inl (cI, 12, .inl c0)), (k1, .inl (cI, 40, .inl c1)), (k4, .inr (8, [.ref k40, .ref k41, .ref k42, .ref k43, .ref k44, .ref k45, .ref k46, .ref k47, .ref k48, .int c49])), (k40, .inl (cI, 60, .inl c40)), (k41, .inl (cI, 60, .inl c41)), (k42, .inl (cI, 60, .inl c42)), (k43, .inl (cI, 60, .inl c43)), (k44, .inl (cI, 60, .inl c44)), (k45, .inl (cI, 60, .inl c45)), (k46, .inl (cI, 40, .inl c46)), (k47, .inl (cI, 40, .inl c47)), (k48, .inl (cI, 40, .inl c48))]) (va_runV (As := [.int a0, .int 7, .int r_1]) (rest := []) ⟨hx, hb, hml, hown, hT⟩ (c_X3_moreG l D cI aK aV k5 k50 H.size c51 c50 a0 7 r_1) (cwV 3 hT (gV_in mw_751 mw_982 mw_749 mw_750 mw_4) rfl rfl rfl (by decide +kernel) ⟨Nat.le_of_ble_eq_true rfl, Nat.le_of_ble_eq_true rfl⟩) (kRecvX (q0 := 13) (ci := 3) hK hP hD hN hXS hS hA rfl rfl [13, 14] rfl (by decide)) rfl rfl hl.1 rfl (lv_room (Nat.le_of_ble_eq_true rfl)) dX9_dig_16 ⟨Nat.le_of_ble_eq_true rfl, Nat.le_of_ble_eq_true rfl⟩) hP hD hS hA [13, 14] [0, 1, 2, 3, 4, 5, 6, 7, 8, 9, 10, 11, 12] rfl rfl (by decide) (by decide) ?_
  clear hP hD hS
  intro sc0_6 H locs w_5 hP hD hS
  replace hP : va_P D vwCl [(k, .inr (9, [.ref k0, .ref k1, .ref k2, .ref k3, .ref k4, .ref k5, .int c6, .int c7, .int c8])), (k0, .inl (cI, 12, .inl c0)), (k1, .inl (cI, 40, .inl c1)), (k4, .inr (8, [.ref k40, .ref k41, .ref k42, .ref k43, .ref k44, .ref k45, .ref k46, .ref k47, .ref k48, .int c49])), (k40, .inl (cI, 60, .inl c40)), (k41, .inl (cI, 60, .inl c41)), (k42, .inl (cI, 60, .inl c42)), (k43, .inl (cI, 60, .inl c43)), (k44, .inl (cI, 60, .inl c44)), (k45, .inl (cI, 60, .inl c45)), (k46, .inl (cI, 40, .inl c46)), (k47, .inl (cI, 40, .inl c47)), (k48, .inl (cI, 40, .inl c48)), (k5, .inr (3, [.ref k50, .int c51])), (k50, .inl (cI, 36, .inl sc0_6))] H := hP
  replace hD : va_D A [(k, .inr (9, [.ref k0, .ref k1, .ref k2, .ref k3, .ref k4, .ref k5, .int c6, .int c7, .int c8])), (k0, .inl (cI, 12, .inl c0)), (k1, .inl (cI, 40, .inl c1)), (k4, .inr (8, [.ref k40, .ref k41, .ref k42, .ref k43, .ref k44, .ref k45, .ref k46, .ref k47, .ref k48, .int c49])), (k40, .inl (cI, 60, .inl c40)), (k41, .inl (cI, 60, .inl c41)), (k42, .inl (cI, 60, .inl c42)), (k43, .inl (cI, 60, .inl c43)), (k44, .inl (cI, 60, .inl c44)), (k45, .inl (cI, 60, .inl c45)), (k46, .inl (cI, 40, .inl c46)), (k47, .inl (cI, 40, .inl c47)), (k48, .inl (cI, 40, .inl c48)), (k5, .inr (3, [.ref k50, .int c51])), (k50, .inl (cI, 36, .inl sc0_6))] := hD
  refine lv_aload_n hx hb dX9_dig_19 rfl (lv_at hl 0 rfl) ?_
  refine va_get (D := D) (ci := 9) (v := .ref k5) (C := RX9) (T := TX9) (N := 9) hx hb hT giX9 hown hK hP 0 rfl rfl 5 (by decide) (hT (Cond.fieldLink RX9 34 "DesertWire$World" "parties" "LDesertWire$Parties;") mw_100) (fun _ h9 => h9) rfl dX9_dig_20 ?_
  refine lv_iload_n hx hb dX9_dig_23 rfl (lv_at hl 1 rfl) ?_
  refine lv_bipush (v := 7) hx hb dX9_dig_24 (by decide) ?_
  refine kJi (wr := [(k, .inr (9, [.ref k0, .ref k1, .ref k2, .ref k3, .ref k4, .ref k5, .int c6, .int c7, .int c8])), (k0, .inl (cI, 12, .inl c0)), (k1, .inl (cI, 40, .inl c1)), (k4, .inr (8, [.ref k40, .ref k41, .ref k42, .ref k43, .ref k44, .ref k45, .ref k46, .ref k47, .ref k48, .int c49])), (k40, .inl (cI, 60, .inl c40)), (k41, .inl (cI, 60, .inl c41)), (k42, .inl (cI, 60, .inl c42)), (k43, .inl (cI, 60, .inl c43)), (k44, .inl (cI, 60, .inl c44)), (k45, .inl (cI, 60, .inl c45)), (k46, .inl (cI, 40, .inl c46)), (k47, .inl (cI, 40, .inl c47)), (k48, .inl (cI, 40, .inl c48))]) (va_runV (As := [.int a0, .int 7]) (rest := []) ⟨hx, hb, hml, hown, hT⟩ (c_X3_getG l D cI aK aV k5 k50 H.size c51 sc0_6 a0 7) (cwV 2 hT (gV_in mw_726 mw_978 mw_724 mw_725 mw_4) rfl rfl rfl (by decide +kernel) ⟨Nat.le_of_ble_eq_true rfl, Nat.le_of_ble_eq_true rfl⟩) (kRecvX (q0 := 13) (ci := 3) hK hP hD hN hXS hS hA rfl rfl [13, 14] rfl (by decide)) rfl rfl hl.1 rfl (lv_room (Nat.le_of_ble_eq_true rfl)) dX9_dig_26 ⟨Nat.le_of_ble_eq_true rfl, Nat.le_of_ble_eq_true rfl⟩) hP hD hS hA [13, 14] [0, 1, 2, 3, 4, 5, 6, 7, 8, 9, 10, 11, 12] rfl rfl (by decide) (by decide) ?_
  clear hP hD hS
  intro r_7 u_9 H locs w_8 hP hD hS
  replace hP : va_P D vwCl [(k, .inr (9, [.ref k0, .ref k1, .ref k2, .ref k3, .ref k4, .ref k5, .int c6, .int c7, .int c8])), (k0, .inl (cI, 12, .inl c0)), (k1, .inl (cI, 40, .inl c1)), (k4, .inr (8, [.ref k40, .ref k41, .ref k42, .ref k43, .ref k44, .ref k45, .ref k46, .ref k47, .ref k48, .int c49])), (k40, .inl (cI, 60, .inl c40)), (k41, .inl (cI, 60, .inl c41)), (k42, .inl (cI, 60, .inl c42)), (k43, .inl (cI, 60, .inl c43)), (k44, .inl (cI, 60, .inl c44)), (k45, .inl (cI, 60, .inl c45)), (k46, .inl (cI, 40, .inl c46)), (k47, .inl (cI, 40, .inl c47)), (k48, .inl (cI, 40, .inl c48)), (k5, .inr (3, [.ref k50, .int c51])), (k50, .inl (cI, 36, .inl sc0_6))] H := hP
  replace hD : va_D A [(k, .inr (9, [.ref k0, .ref k1, .ref k2, .ref k3, .ref k4, .ref k5, .int c6, .int c7, .int c8])), (k0, .inl (cI, 12, .inl c0)), (k1, .inl (cI, 40, .inl c1)), (k4, .inr (8, [.ref k40, .ref k41, .ref k42, .ref k43, .ref k44, .ref k45, .ref k46, .ref k47, .ref k48, .int c49])), (k40, .inl (cI, 60, .inl c40)), (k41, .inl (cI, 60, .inl c41)), (k42, .inl (cI, 60, .inl c42)), (k43, .inl (cI, 60, .inl c43)), (k44, .inl (cI, 60, .inl c44)), (k45, .inl (cI, 60, .inl c45)), (k46, .inl (cI, 40, .inl c46)), (k47, .inl (cI, 40, .inl c47)), (k48, .inl (cI, 40, .inl c48)), (k5, .inr (3, [.ref k50, .int c51])), (k50, .inl (cI, 36, .inl sc0_6))] := hD
  have lo_r_7 := k_lo r_7
  have hi_r_7 := k_hi r_7
  refine lv_aload_n hx hb dX9_dig_29 rfl (lv_at hl 0 rfl) ?_
  refine lv_iload_n hx hb dX9_dig_30 rfl (lv_at hl 2 rfl) ?_
  refine kJi (wr := [(k4, .inr (8, [.ref k40, .ref k41, .ref k42, .ref k43, .ref k44, .ref k45, .ref k46, .ref k47, .ref k48, .int c49])), (k40, .inl (cI, 60, .inl c40)), (k41, .inl (cI, 60, .inl c41)), (k42, .inl (cI, 60, .inl c42)), (k43, .inl (cI, 60, .inl c43)), (k44, .inl (cI, 60, .inl c44)), (k45, .inl (cI, 60, .inl c45)), (k46, .inl (cI, 40, .inl c46)), (k47, .inl (cI, 40, .inl c47)), (k48, .inl (cI, 40, .inl c48)), (k5, .inr (3, [.ref k50, .int c51])), (k50, .inl (cI, 36, .inl sc0_6))]) (va_runV (As := [.int a1]) (rest := [.int r_7]) ⟨hx, hb, hml, hown, hT⟩ (c_X9_effortOfG l D cI aK aV k k0 k1 k2 k3 k4 k5 H.size c6 c7 c8 c0 c1 a1) (cwV 1 hT (gV_in mw_648 mw_1004 mw_646 mw_647 mw_2) rfl rfl rfl (by decide +kernel) ⟨Nat.le_of_ble_eq_true rfl, Nat.le_of_ble_eq_true rfl⟩) (kRecvX (q0 := 0) (ci := 9) hK hP hD hN hXS hS hA rfl rfl [0, 1, 2] rfl (by decide)) rfl rfl hl.1 rfl (lv_room (Nat.le_of_ble_eq_true rfl)) dX9_dig_31 ⟨Nat.le_of_ble_eq_true rfl, Nat.le_of_ble_eq_true rfl⟩) hP hD hS hA [0, 1, 2] [3, 4, 5, 6, 7, 8, 9, 10, 11, 12, 13, 14] rfl rfl (by decide) (by decide) ?_
  clear hP hD hS
  intro r_10 u_12 H locs w_11 hP hD hS
  replace hP : va_P D vwCl [(k4, .inr (8, [.ref k40, .ref k41, .ref k42, .ref k43, .ref k44, .ref k45, .ref k46, .ref k47, .ref k48, .int c49])), (k40, .inl (cI, 60, .inl c40)), (k41, .inl (cI, 60, .inl c41)), (k42, .inl (cI, 60, .inl c42)), (k43, .inl (cI, 60, .inl c43)), (k44, .inl (cI, 60, .inl c44)), (k45, .inl (cI, 60, .inl c45)), (k46, .inl (cI, 40, .inl c46)), (k47, .inl (cI, 40, .inl c47)), (k48, .inl (cI, 40, .inl c48)), (k5, .inr (3, [.ref k50, .int c51])), (k50, .inl (cI, 36, .inl sc0_6)), (k, .inr (9, [.ref k0, .ref k1, .ref k2, .ref k3, .ref k4, .ref k5, .int c6, .int c7, .int c8])), (k0, .inl (cI, 12, .inl c0)), (k1, .inl (cI, 40, .inl c1))] H := hP
  replace hD : va_D A [(k4, .inr (8, [.ref k40, .ref k41, .ref k42, .ref k43, .ref k44, .ref k45, .ref k46, .ref k47, .ref k48, .int c49])), (k40, .inl (cI, 60, .inl c40)), (k41, .inl (cI, 60, .inl c41)), (k42, .inl (cI, 60, .inl c42)), (k43, .inl (cI, 60, .inl c43)), (k44, .inl (cI, 60, .inl c44)), (k45, .inl (cI, 60, .inl c45)), (k46, .inl (cI, 40, .inl c46)), (k47, .inl (cI, 40, .inl c47)), (k48, .inl (cI, 40, .inl c48)), (k5, .inr (3, [.ref k50, .int c51])), (k50, .inl (cI, 36, .inl sc0_6)), (k, .inr (9, [.ref k0, .ref k1, .ref k2, .ref k3, .ref k4, .ref k5, .int c6, .int c7, .int c8])), (k0, .inl (cI, 12, .inl c0)), (k1, .inl (cI, 40, .inl c1))] := hD
  have lo_r_10 := k_lo r_10
  have hi_r_10 := k_hi r_10
  refine b_icmp_lt hx hb rfl rfl (tgt := 41) dX9_dig_34 (by decide) (fun c_13 => ?_) (fun c_13 => ?_)
  · refine lv_iconst (v := 0) hx hb dX9_dig_41 (by decide) ?_
    refine lv_istore_n (lv' := [(3, .int 0), (0, .ref k), (1, .int a0), (2, .int a1)]) hx hb dX9_dig_42 rfl hl (by decide) rfl ?_
    clear hl
    intro ls hl
    refine lv_iload_n hx hb dX9_dig_43 rfl (lv_at hl 0 rfl) ?_
    refine b_if_eq hx hb zl_0 (tgt := 107) dX9_dig_44 (by decide) (fun c_14 => ?_) (fun c_14 => by exfalso; omega)
    exact hRet (c49, c40, c41, c42, c43, c44, c45, c46, c47, c48, sc0_6) [12, 13, 14, 0, 10, 1, 2, 3, 4, 5, 6, 7, 8, 9, 11] trivial hP hD (by decide) rfl hS dX9_dig_107
  · refine lv_iconst (v := 1) hx hb dX9_dig_37 (by decide) ?_
    refine lv_goto (tgt := 42) hx hb dX9_dig_38 (by decide) ?_
    refine lv_istore_n (lv' := [(3, .int 1), (0, .ref k), (1, .int a0), (2, .int a1)]) hx hb dX9_dig_42 rfl hl (by decide) rfl ?_
    clear hl
    intro ls hl
    refine lv_iload_n hx hb dX9_dig_43 rfl (lv_at hl 0 rfl) ?_
    refine b_if_eq hx hb zl_1 (tgt := 107) dX9_dig_44 (by decide) (fun c_15 => by exfalso; omega) (fun c_15 => ?_)
    refine lv_aload_n hx hb dX9_dig_47 rfl (lv_at hl 1 rfl) ?_
    refine va_get (D := D) (ci := 9) (v := .ref k5) (C := RX9) (T := TX9) (N := 9) hx hb hT giX9 hown hK hP 12 rfl rfl 5 (by decide) (hT (Cond.fieldLink RX9 34 "DesertWire$World" "parties" "LDesertWire$Parties;") mw_100) (fun _ h9 => h9) rfl dX9_dig_48 ?_
    refine lv_iload_n hx hb dX9_dig_51 rfl (lv_at hl 2 rfl) ?_
    refine lv_iconst (v := 4) hx hb dX9_dig_52 (by decide) ?_
    refine kJi (wr := [(k4, .inr (8, [.ref k40, .ref k41, .ref k42, .ref k43, .ref k44, .ref k45, .ref k46, .ref k47, .ref k48, .int c49])), (k40, .inl (cI, 60, .inl c40)), (k41, .inl (cI, 60, .inl c41)), (k42, .inl (cI, 60, .inl c42)), (k43, .inl (cI, 60, .inl c43)), (k44, .inl (cI, 60, .inl c44)), (k45, .inl (cI, 60, .inl c45)), (k46, .inl (cI, 40, .inl c46)), (k47, .inl (cI, 40, .inl c47)), (k48, .inl (cI, 40, .inl c48)), (k, .inr (9, [.ref k0, .ref k1, .ref k2, .ref k3, .ref k4, .ref k5, .int c6, .int c7, .int c8])), (k0, .inl (cI, 12, .inl c0)), (k1, .inl (cI, 40, .inl c1))]) (va_runV (As := [.int a0, .int 4]) (rest := []) ⟨hx, hb, hml, hown, hT⟩ (c_X3_getG l D cI aK aV k5 k50 H.size c51 sc0_6 a0 4) (cwV 2 hT (gV_in mw_726 mw_978 mw_724 mw_725 mw_4) rfl rfl rfl (by decide +kernel) ⟨Nat.le_of_ble_eq_true rfl, Nat.le_of_ble_eq_true rfl⟩) (kRecvX (q0 := 10) (ci := 3) hK hP hD hN hXS hS hA rfl rfl [10, 11] rfl (by decide)) rfl rfl hl.1 rfl (lv_room (Nat.le_of_ble_eq_true rfl)) dX9_dig_53 ⟨Nat.le_of_ble_eq_true rfl, Nat.le_of_ble_eq_true rfl⟩) hP hD hS hA [10, 11] [0, 1, 2, 3, 4, 5, 6, 7, 8, 9, 12, 13, 14] rfl rfl (by decide) (by decide) ?_
    clear hP hD hS
    intro r_16 u_18 H locs w_17 hP hD hS
    replace hP : va_P D vwCl [(k4, .inr (8, [.ref k40, .ref k41, .ref k42, .ref k43, .ref k44, .ref k45, .ref k46, .ref k47, .ref k48, .int c49])), (k40, .inl (cI, 60, .inl c40)), (k41, .inl (cI, 60, .inl c41)), (k42, .inl (cI, 60, .inl c42)), (k43, .inl (cI, 60, .inl c43)), (k44, .inl (cI, 60, .inl c44)), (k45, .inl (cI, 60, .inl c45)), (k46, .inl (cI, 40, .inl c46)), (k47, .inl (cI, 40, .inl c47)), (k48, .inl (cI, 40, .inl c48)), (k, .inr (9, [.ref k0, .ref k1, .ref k2, .ref k3, .ref k4, .ref k5, .int c6, .int c7, .int c8])), (k0, .inl (cI, 12, .inl c0)), (k1, .inl (cI, 40, .inl c1)), (k5, .inr (3, [.ref k50, .int c51])), (k50, .inl (cI, 36, .inl sc0_6))] H := hP
    replace hD : va_D A [(k4, .inr (8, [.ref k40, .ref k41, .ref k42, .ref k43, .ref k44, .ref k45, .ref k46, .ref k47, .ref k48, .int c49])), (k40, .inl (cI, 60, .inl c40)), (k41, .inl (cI, 60, .inl c41)), (k42, .inl (cI, 60, .inl c42)), (k43, .inl (cI, 60, .inl c43)), (k44, .inl (cI, 60, .inl c44)), (k45, .inl (cI, 60, .inl c45)), (k46, .inl (cI, 40, .inl c46)), (k47, .inl (cI, 40, .inl c47)), (k48, .inl (cI, 40, .inl c48)), (k, .inr (9, [.ref k0, .ref k1, .ref k2, .ref k3, .ref k4, .ref k5, .int c6, .int c7, .int c8])), (k0, .inl (cI, 12, .inl c0)), (k1, .inl (cI, 40, .inl c1)), (k5, .inr (3, [.ref k50, .int c51])), (k50, .inl (cI, 36, .inl sc0_6))] := hD
    have lo_r_16 := k_lo r_16
    have hi_r_16 := k_hi r_16
    refine b_if_le hx hb rfl (tgt := 107) dX9_dig_56 (by decide) (fun c_19 => ?_) (fun c_19 => ?_)
    · exact hRet (c49, c40, c41, c42, c43, c44, c45, c46, c47, c48, sc0_6) [10, 11, 12, 0, 13, 1, 2, 3, 4, 5, 6, 7, 8, 9, 14] trivial hP hD (by decide) rfl hS dX9_dig_107
    · refine lv_aload_n hx hb dX9_dig_59 rfl (lv_at hl 1 rfl) ?_
      refine va_get (D := D) (ci := 9) (v := .ref k4) (C := RX9) (T := TX9) (N := 9) hx hb hT giX9 hown hK hP 10 rfl rfl 4 (by decide) (hT (Cond.fieldLink RX9 27 "DesertWire$World" "works" "LDesertWire$Works;") mw_97) (fun _ h9 => h9) rfl dX9_dig_60 ?_
      refine kJi (wr := [(k40, .inl (cI, 60, .inl c40)), (k41, .inl (cI, 60, .inl c41)), (k42, .inl (cI, 60, .inl c42)), (k43, .inl (cI, 60, .inl c43)), (k44, .inl (cI, 60, .inl c44)), (k45, .inl (cI, 60, .inl c45)), (k46, .inl (cI, 40, .inl c46)), (k47, .inl (cI, 40, .inl c47)), (k48, .inl (cI, 40, .inl c48)), (k, .inr (9, [.ref k0, .ref k1, .ref k2, .ref k3, .ref k4, .ref k5, .int c6, .int c7, .int c8])), (k0, .inl (cI, 12, .inl c0)), (k1, .inl (cI, 40, .inl c1)), (k5, .inr (3, [.ref k50, .int c51])), (k50, .inl (cI, 36, .inl sc0_6))]) (va_runV (As := []) (rest := []) ⟨hx, hb, hml, hown, hT⟩ (c_X8_hasRoomG l D cI aK aV k4 k40 k41 k42 k43 k44 k45 k46 k47 k48 H.size c49) (cwV 0 hT (gV_in mw_354 mw_1005 mw_352 mw_353 mw_3) rfl rfl rfl (by decide +kernel) ⟨Nat.le_of_ble_eq_true rfl, Nat.le_of_ble_eq_true rfl⟩) (kRecvX (q0 := 0) (ci := 8) hK hP hD hN hXS hS hA rfl rfl [0] rfl (by decide)) rfl rfl hl.1 rfl (lv_room (Nat.le_of_ble_eq_true rfl)) dX9_dig_63 ⟨Nat.le_of_ble_eq_true rfl, Nat.le_of_ble_eq_true rfl⟩) hP hD hS hA [0] [1, 2, 3, 4, 5, 6, 7, 8, 9, 10, 11, 12, 13, 14] rfl rfl (by decide) (by decide) ?_
      clear hP hD hS
      intro r_20 u_22 H locs w_21 hP hD hS
      replace hP : va_P D vwCl [(k40, .inl (cI, 60, .inl c40)), (k41, .inl (cI, 60, .inl c41)), (k42, .inl (cI, 60, .inl c42)), (k43, .inl (cI, 60, .inl c43)), (k44, .inl (cI, 60, .inl c44)), (k45, .inl (cI, 60, .inl c45)), (k46, .inl (cI, 40, .inl c46)), (k47, .inl (cI, 40, .inl c47)), (k48, .inl (cI, 40, .inl c48)), (k, .inr (9, [.ref k0, .ref k1, .ref k2, .ref k3, .ref k4, .ref k5, .int c6, .int c7, .int c8])), (k0, .inl (cI, 12, .inl c0)), (k1, .inl (cI, 40, .inl c1)), (k5, .inr (3, [.ref k50, .int c51])), (k50, .inl (cI, 36, .inl sc0_6)), (k4, .inr (8, [.ref k40, .ref k41, .ref k42, .ref k43, .ref k44, .ref k45, .ref k46, .ref k47, .ref k48, .int c49]))] H := hP
      replace hD : va_D A [(k40, .inl (cI, 60, .inl c40)), (k41, .inl (cI, 60, .inl c41)), (k42, .inl (cI, 60, .inl c42)), (k43, .inl (cI, 60, .inl c43)), (k44, .inl (cI, 60, .inl c44)), (k45, .inl (cI, 60, .inl c45)), (k46, .inl (cI, 40, .inl c46)), (k47, .inl (cI, 40, .inl c47)), (k48, .inl (cI, 40, .inl c48)), (k, .inr (9, [.ref k0, .ref k1, .ref k2, .ref k3, .ref k4, .ref k5, .int c6, .int c7, .int c8])), (k0, .inl (cI, 12, .inl c0)), (k1, .inl (cI, 40, .inl c1)), (k5, .inr (3, [.ref k50, .int c51])), (k50, .inl (cI, 36, .inl sc0_6)), (k4, .inr (8, [.ref k40, .ref k41, .ref k42, .ref k43, .ref k44, .ref k45, .ref k46, .ref k47, .ref k48, .int c49]))] := hD
      rcases w_21 with ⟨hr_20, h_23, h_24⟩ | ⟨hr_20, h_25⟩
      · have h_23 : 0 ≤ c49.toInt := h_23
        have h_24 : c49.toInt < 60 := h_24
        obtain rfl : r_20 = 1 := hr_20.trans (by decide)
        refine b_if_eq hx hb zl_1 (tgt := 107) dX9_dig_66 (by decide) (fun c_26 => by exfalso; omega) (fun c_26 => ?_)
        refine lv_aload_n hx hb dX9_dig_69 rfl (lv_at hl 1 rfl) ?_
        refine va_get (D := D) (ci := 9) (v := .ref k4) (C := RX9) (T := TX9) (N := 9) hx hb hT giX9 hown hK hP 9 rfl rfl 4 (by decide) (hT (Cond.fieldLink RX9 27 "DesertWire$World" "works" "LDesertWire$Works;") mw_97) (fun _ h9 => h9) rfl dX9_dig_70 ?_
        refine lv_iconst (v := 1) hx hb dX9_dig_73 (by decide) ?_
        refine lv_iload_n hx hb dX9_dig_74 rfl (lv_at hl 3 rfl) ?_
        refine lv_iconst (v := 1) hx hb dX9_dig_75 (by decide) ?_
        refine lv_aload_n hx hb dX9_dig_76 rfl (lv_at hl 1 rfl) ?_
        refine va_get (D := D) (ci := 9) (v := .int c8) (C := RX9) (T := TX9) (N := 9) hx hb hT giX9 hown hK hP 9 rfl rfl 8 (by decide) (hT (Cond.fieldLink RX9 45 "DesertWire$World" "day" "I") mw_108) (fun _ h9 => h9) rfl dX9_dig_77 ?_
        refine lv_iconst (v := 1) hx hb dX9_dig_80 (by decide) ?_
        refine lv_iadd hx hb dX9_dig_81 ?_
        refine lv_topi (fun v_27 ev_27 => ?_)
        have lo_v_27 := k_lo v_27
        have hi_v_27 := k_hi v_27
        refine kJi (wr := [(k, .inr (9, [.ref k0, .ref k1, .ref k2, .ref k3, .ref k4, .ref k5, .int c6, .int c7, .int c8])), (k0, .inl (cI, 12, .inl c0)), (k1, .inl (cI, 40, .inl c1)), (k5, .inr (3, [.ref k50, .int c51])), (k50, .inl (cI, 36, .inl sc0_6))]) (va_runV (As := [.int 1, .int a1, .int 1, .int v_27]) (rest := []) ⟨hx, hb, hml, hown, hT⟩ (c_X8_addG l D cI aK aV k4 k40 k41 k42 k43 k44 k45 k46 k47 k48 H.size c49 c40 c41 c42 c43 c44 c45 c46 c47 c48 1 a1 1 v_27) (cwV 4 hT (gV_in mw_358 mw_1006 mw_356 mw_357 mw_3) rfl rfl rfl (by decide +kernel) ⟨Nat.le_of_ble_eq_true rfl, Nat.le_of_ble_eq_true rfl⟩) (kRecvX (q0 := 14) (ci := 8) hK hP hD hN hXS hS hA rfl rfl [14, 0, 1, 2, 3, 4, 5, 6, 7, 8] rfl (by decide)) rfl rfl hl.1 rfl (lv_room (Nat.le_of_ble_eq_true rfl)) dX9_dig_82 ⟨Nat.le_of_ble_eq_true rfl, Nat.le_of_ble_eq_true rfl⟩) hP hD hS hA [14, 0, 1, 2, 3, 4, 5, 6, 7, 8] [9, 10, 11, 12, 13] rfl rfl (by decide) (by decide) ?_
        clear hP hD hS
        intro r_28 u_40 H locs w_29 hP hD hS
        obtain ⟨sc9_30, sc0_31, sc1_32, sc2_33, sc3_34, sc4_35, sc5_36, sc6_37, sc7_38, sc8_39⟩ := u_40
        replace hP : va_P D vwCl [(k, .inr (9, [.ref k0, .ref k1, .ref k2, .ref k3, .ref k4, .ref k5, .int c6, .int c7, .int c8])), (k0, .inl (cI, 12, .inl c0)), (k1, .inl (cI, 40, .inl c1)), (k5, .inr (3, [.ref k50, .int c51])), (k50, .inl (cI, 36, .inl sc0_6)), (k4, .inr (8, [.ref k40, .ref k41, .ref k42, .ref k43, .ref k44, .ref k45, .ref k46, .ref k47, .ref k48, .int sc9_30])), (k40, .inl (cI, 60, .inl sc0_31)), (k41, .inl (cI, 60, .inl sc1_32)), (k42, .inl (cI, 60, .inl sc2_33)), (k43, .inl (cI, 60, .inl sc3_34)), (k44, .inl (cI, 60, .inl sc4_35)), (k45, .inl (cI, 60, .inl sc5_36)), (k46, .inl (cI, 40, .inl sc6_37)), (k47, .inl (cI, 40, .inl sc7_38)), (k48, .inl (cI, 40, .inl sc8_39))] H := hP
        replace hD : va_D A [(k, .inr (9, [.ref k0, .ref k1, .ref k2, .ref k3, .ref k4, .ref k5, .int c6, .int c7, .int c8])), (k0, .inl (cI, 12, .inl c0)), (k1, .inl (cI, 40, .inl c1)), (k5, .inr (3, [.ref k50, .int c51])), (k50, .inl (cI, 36, .inl sc0_6)), (k4, .inr (8, [.ref k40, .ref k41, .ref k42, .ref k43, .ref k44, .ref k45, .ref k46, .ref k47, .ref k48, .int sc9_30])), (k40, .inl (cI, 60, .inl sc0_31)), (k41, .inl (cI, 60, .inl sc1_32)), (k42, .inl (cI, 60, .inl sc2_33)), (k43, .inl (cI, 60, .inl sc3_34)), (k44, .inl (cI, 60, .inl sc4_35)), (k45, .inl (cI, 60, .inl sc5_36)), (k46, .inl (cI, 40, .inl sc6_37)), (k47, .inl (cI, 40, .inl sc7_38)), (k48, .inl (cI, 40, .inl sc8_39))] := hD
        have lo_r_28 := k_lo r_28
        have hi_r_28 := k_hi r_28
        refine lv_pop hx hb dX9_dig_85 rfl ?_
        refine lv_aload_n hx hb dX9_dig_86 rfl (lv_at hl 1 rfl) ?_
        refine va_get (D := D) (ci := 9) (v := .ref k5) (C := RX9) (T := TX9) (N := 9) hx hb hT giX9 hown hK hP 0 rfl rfl 5 (by decide) (hT (Cond.fieldLink RX9 34 "DesertWire$World" "parties" "LDesertWire$Parties;") mw_100) (fun _ h9 => h9) rfl dX9_dig_87 ?_
        refine lv_iload_n hx hb dX9_dig_90 rfl (lv_at hl 2 rfl) ?_
        refine lv_iconst (v := 4) hx hb dX9_dig_91 (by decide) ?_
        refine lv_iconst (v := (-1)) hx hb dX9_dig_92 (by decide) ?_
        refine kJv (wr := [(k, .inr (9, [.ref k0, .ref k1, .ref k2, .ref k3, .ref k4, .ref k5, .int c6, .int c7, .int c8])), (k0, .inl (cI, 12, .inl c0)), (k1, .inl (cI, 40, .inl c1)), (k4, .inr (8, [.ref k40, .ref k41, .ref k42, .ref k43, .ref k44, .ref k45, .ref k46, .ref k47, .ref k48, .int sc9_30])), (k40, .inl (cI, 60, .inl sc0_31)), (k41, .inl (cI, 60, .inl sc1_32)), (k42, .inl (cI, 60, .inl sc2_33)), (k43, .inl (cI, 60, .inl sc3_34)), (k44, .inl (cI, 60, .inl sc4_35)), (k45, .inl (cI, 60, .inl sc5_36)), (k46, .inl (cI, 40, .inl sc6_37)), (k47, .inl (cI, 40, .inl sc7_38)), (k48, .inl (cI, 40, .inl sc8_39))]) (va_runV (As := [.int a0, .int 4, .int (-1)]) (rest := []) ⟨hx, hb, hml, hown, hT⟩ (c_X3_moreG l D cI aK aV k5 k50 H.size c51 sc0_6 a0 4 (-1)) (cwV 3 hT (gV_in mw_751 mw_982 mw_749 mw_750 mw_4) rfl rfl rfl (by decide +kernel) ⟨Nat.le_of_ble_eq_true rfl, Nat.le_of_ble_eq_true rfl⟩) (kRecvX (q0 := 3) (ci := 3) hK hP hD hN hXS hS hA rfl rfl [3, 4] rfl (by decide)) rfl rfl hl.1 rfl (lv_room (Nat.le_of_ble_eq_true rfl)) dX9_dig_93 ⟨Nat.le_of_ble_eq_true rfl, Nat.le_of_ble_eq_true rfl⟩) hP hD hS hA [3, 4] [0, 1, 2, 5, 6, 7, 8, 9, 10, 11, 12, 13, 14] rfl rfl (by decide) (by decide) ?_
        clear hP hD hS
        intro sc0_43 H locs w_42 hP hD hS
        replace hP : va_P D vwCl [(k, .inr (9, [.ref k0, .ref k1, .ref k2, .ref k3, .ref k4, .ref k5, .int c6, .int c7, .int c8])), (k0, .inl (cI, 12, .inl c0)), (k1, .inl (cI, 40, .inl c1)), (k4, .inr (8, [.ref k40, .ref k41, .ref k42, .ref k43, .ref k44, .ref k45, .ref k46, .ref k47, .ref k48, .int sc9_30])), (k40, .inl (cI, 60, .inl sc0_31)), (k41, .inl (cI, 60, .inl sc1_32)), (k42, .inl (cI, 60, .inl sc2_33)), (k43, .inl (cI, 60, .inl sc3_34)), (k44, .inl (cI, 60, .inl sc4_35)), (k45, .inl (cI, 60, .inl sc5_36)), (k46, .inl (cI, 40, .inl sc6_37)), (k47, .inl (cI, 40, .inl sc7_38)), (k48, .inl (cI, 40, .inl sc8_39)), (k5, .inr (3, [.ref k50, .int c51])), (k50, .inl (cI, 36, .inl sc0_43))] H := hP
        replace hD : va_D A [(k, .inr (9, [.ref k0, .ref k1, .ref k2, .ref k3, .ref k4, .ref k5, .int c6, .int c7, .int c8])), (k0, .inl (cI, 12, .inl c0)), (k1, .inl (cI, 40, .inl c1)), (k4, .inr (8, [.ref k40, .ref k41, .ref k42, .ref k43, .ref k44, .ref k45, .ref k46, .ref k47, .ref k48, .int sc9_30])), (k40, .inl (cI, 60, .inl sc0_31)), (k41, .inl (cI, 60, .inl sc1_32)), (k42, .inl (cI, 60, .inl sc2_33)), (k43, .inl (cI, 60, .inl sc3_34)), (k44, .inl (cI, 60, .inl sc4_35)), (k45, .inl (cI, 60, .inl sc5_36)), (k46, .inl (cI, 40, .inl sc6_37)), (k47, .inl (cI, 40, .inl sc7_38)), (k48, .inl (cI, 40, .inl sc8_39)), (k5, .inr (3, [.ref k50, .int c51])), (k50, .inl (cI, 36, .inl sc0_43))] := hD
        refine lv_aload_n hx hb dX9_dig_96 rfl (lv_at hl 1 rfl) ?_
        refine va_get (D := D) (ci := 9) (v := .ref k5) (C := RX9) (T := TX9) (N := 9) hx hb hT giX9 hown hK hP 0 rfl rfl 5 (by decide) (hT (Cond.fieldLink RX9 34 "DesertWire$World" "parties" "LDesertWire$Parties;") mw_100) (fun _ h9 => h9) rfl dX9_dig_97 ?_
        refine lv_iload_n hx hb dX9_dig_100 rfl (lv_at hl 2 rfl) ?_
        refine lv_bipush (v := 7) hx hb dX9_dig_101 (by decide) ?_
        refine lv_iconst (v := 0) hx hb dX9_dig_103 (by decide) ?_
        refine kJv (wr := [(k, .inr (9, [.ref k0, .ref k1, .ref k2, .ref k3, .ref k4, .ref k5, .int c6, .int c7, .int c8])), (k0, .inl (cI, 12, .inl c0)), (k1, .inl (cI, 40, .inl c1)), (k4, .inr (8, [.ref k40, .ref k41, .ref k42, .ref k43, .ref k44, .ref k45, .ref k46, .ref k47, .ref k48, .int sc9_30])), (k40, .inl (cI, 60, .inl sc0_31)), (k41, .inl (cI, 60, .inl sc1_32)), (k42, .inl (cI, 60, .inl sc2_33)), (k43, .inl (cI, 60, .inl sc3_34)), (k44, .inl (cI, 60, .inl sc4_35)), (k45, .inl (cI, 60, .inl sc5_36)), (k46, .inl (cI, 40, .inl sc6_37)), (k47, .inl (cI, 40, .inl sc7_38)), (k48, .inl (cI, 40, .inl sc8_39))]) (va_runV (As := [.int a0, .int 7, .int 0]) (rest := []) ⟨hx, hb, hml, hown, hT⟩ (c_X3_setG l D cI aK aV k5 k50 H.size c51 sc0_43 a0 7 0) (cwV 3 hT (gV_in mw_713 mw_981 mw_711 mw_712 mw_4) rfl rfl rfl (by decide +kernel) ⟨Nat.le_of_ble_eq_true rfl, Nat.le_of_ble_eq_true rfl⟩) (kRecvX (q0 := 13) (ci := 3) hK hP hD hN hXS hS hA rfl rfl [13, 14] rfl (by decide)) rfl rfl hl.1 rfl (lv_room (Nat.le_of_ble_eq_true rfl)) dX9_dig_104 ⟨Nat.le_of_ble_eq_true rfl, Nat.le_of_ble_eq_true rfl⟩) hP hD hS hA [13, 14] [0, 1, 2, 3, 4, 5, 6, 7, 8, 9, 10, 11, 12] rfl rfl (by decide) (by decide) ?_
        clear hP hD hS
        intro sc0_46 H locs w_45 hP hD hS
        replace hP : va_P D vwCl [(k, .inr (9, [.ref k0, .ref k1, .ref k2, .ref k3, .ref k4, .ref k5, .int c6, .int c7, .int c8])), (k0, .inl (cI, 12, .inl c0)), (k1, .inl (cI, 40, .inl c1)), (k4, .inr (8, [.ref k40, .ref k41, .ref k42, .ref k43, .ref k44, .ref k45, .ref k46, .ref k47, .ref k48, .int sc9_30])), (k40, .inl (cI, 60, .inl sc0_31)), (k41, .inl (cI, 60, .inl sc1_32)), (k42, .inl (cI, 60, .inl sc2_33)), (k43, .inl (cI, 60, .inl sc3_34)), (k44, .inl (cI, 60, .inl sc4_35)), (k45, .inl (cI, 60, .inl sc5_36)), (k46, .inl (cI, 40, .inl sc6_37)), (k47, .inl (cI, 40, .inl sc7_38)), (k48, .inl (cI, 40, .inl sc8_39)), (k5, .inr (3, [.ref k50, .int c51])), (k50, .inl (cI, 36, .inl sc0_46))] H := hP
        replace hD : va_D A [(k, .inr (9, [.ref k0, .ref k1, .ref k2, .ref k3, .ref k4, .ref k5, .int c6, .int c7, .int c8])), (k0, .inl (cI, 12, .inl c0)), (k1, .inl (cI, 40, .inl c1)), (k4, .inr (8, [.ref k40, .ref k41, .ref k42, .ref k43, .ref k44, .ref k45, .ref k46, .ref k47, .ref k48, .int sc9_30])), (k40, .inl (cI, 60, .inl sc0_31)), (k41, .inl (cI, 60, .inl sc1_32)), (k42, .inl (cI, 60, .inl sc2_33)), (k43, .inl (cI, 60, .inl sc3_34)), (k44, .inl (cI, 60, .inl sc4_35)), (k45, .inl (cI, 60, .inl sc5_36)), (k46, .inl (cI, 40, .inl sc6_37)), (k47, .inl (cI, 40, .inl sc7_38)), (k48, .inl (cI, 40, .inl sc8_39)), (k5, .inr (3, [.ref k50, .int c51])), (k50, .inl (cI, 36, .inl sc0_46))] := hD
        exact hRet (sc9_30, sc0_31, sc1_32, sc2_33, sc3_34, sc4_35, sc5_36, sc6_37, sc7_38, sc8_39, sc0_46) [0, 1, 2, 3, 13, 4, 5, 6, 7, 8, 9, 10, 11, 12, 14] trivial hP hD (by decide) rfl hS dX9_dig_107
      · have h_25 : c49.toInt < 0 ∨ 60 ≤ c49.toInt := h_25
        obtain rfl : r_20 = 0 := hr_20.trans (by decide)
        refine b_if_eq hx hb zl_0 (tgt := 107) dX9_dig_66 (by decide) (fun c_47 => ?_) (fun c_47 => by exfalso; omega)
        exact hRet (c49, c40, c41, c42, c43, c44, c45, c46, c47, c48, sc0_6) [9, 10, 11, 14, 12, 0, 1, 2, 3, 4, 5, 6, 7, 8, 13] trivial hP hD (by decide) rfl hS dX9_dig_107
theorem dX9_labour_0 : decode cX9_labour 0 = .ok (.aload_n 0, 1) := by decide +kernel
theorem dX9_labour_1 : decode cX9_labour 1 = .ok (.getfield 34, 3) := by decide +kernel
theorem dX9_labour_4 : decode cX9_labour 4 = .ok (.iload_n 1, 1) := by decide +kernel
theorem dX9_labour_5 : decode cX9_labour 5 = .ok (.iconst 0, 1) := by decide +kernel
theorem dX9_labour_6 : decode cX9_labour 6 = .ok (.invokevirtual 130, 3) := by decide +kernel
theorem dX9_labour_9 : decode cX9_labour 9 = .ok (.istore_n 2, 1) := by decide +kernel
theorem dX9_labour_10 : decode cX9_labour 10 = .ok (.aload_n 0, 1) := by decide +kernel
theorem dX9_labour_11 : decode cX9_labour 11 = .ok (.getfield 27, 3) := by decide +kernel
theorem dX9_labour_14 : decode cX9_labour 14 = .ok (.iload_n 2, 1) := by decide +kernel
theorem dX9_labour_15 : decode cX9_labour 15 = .ok (.invokevirtual 80, 3) := by decide +kernel
theorem dX9_labour_18 : decode cX9_labour 18 = .ok (.ifCond .eq 22, 3) := by decide +kernel
theorem dX9_labour_21 : decode cX9_labour 21 = .ok (.aload_n 0, 1) := by decide +kernel
theorem dX9_labour_22 : decode cX9_labour 22 = .ok (.iload_n 1, 1) := by decide +kernel
theorem dX9_labour_23 : decode cX9_labour 23 = .ok (.iload_n 2, 1) := by decide +kernel
theorem dX9_labour_24 : decode cX9_labour 24 = .ok (.aload_n 0, 1) := by decide +kernel
theorem dX9_labour_25 : decode cX9_labour 25 = .ok (.getfield 34, 3) := by decide +kernel
theorem dX9_labour_28 : decode cX9_labour 28 = .ok (.iload_n 1, 1) := by decide +kernel
theorem dX9_labour_29 : decode cX9_labour 29 = .ok (.iconst 1, 1) := by decide +kernel
theorem dX9_labour_30 : decode cX9_labour 30 = .ok (.invokevirtual 130, 3) := by decide +kernel
theorem dX9_labour_33 : decode cX9_labour 33 = .ok (.iadd, 1) := by decide +kernel
theorem dX9_labour_34 : decode cX9_labour 34 = .ok (.invokevirtual 155, 3) := by decide +kernel
theorem dX9_labour_37 : decode cX9_labour 37 = .ok (.goto 9, 3) := by decide +kernel
theorem dX9_labour_40 : decode cX9_labour 40 = .ok (.aload_n 0, 1) := by decide +kernel
theorem dX9_labour_41 : decode cX9_labour 41 = .ok (.iload_n 1, 1) := by decide +kernel
theorem dX9_labour_42 : decode cX9_labour 42 = .ok (.iload_n 2, 1) := by decide +kernel
theorem dX9_labour_43 : decode cX9_labour 43 = .ok (.invokevirtual 159, 3) := by decide +kernel
theorem dX9_labour_46 : decode cX9_labour 46 = .ok (.return_, 1) := by decide +kernel
set_option maxHeartbeats 4000000 in
set_option maxRecDepth 100000 in
theorem c_X9_labourG (l : Launch) (D : va_G) (cI : ClassId) (aK aV : Nat → Nat) (k k0 k1 k2 k3 k4 k5 k40 k41 k42 k43 k44 k45 k46 k47 k48 k50 : Nat) (sz : Nat) (c6 : Int32) (c7 : Int32) (c8 : Int32) (c0 : Nat → Int32) (c1 : Nat → Int32) (c49 : Int32) (c51 : Int32) (c40 : Nat → Int32) (c41 : Nat → Int32) (c42 : Nat → Int32) (c43 : Nat → Int32) (c44 : Nat → Int32) (c45 : Nat → Int32) (c46 : Nat → Int32) (c47 : Nat → Int32) (c48 : Nat → Int32) (c50 : Nat → Int32) (a0 : Int32) : Met l yX9_labour (gW yX9_labour cX9_labour 3 none) ({ frames := 5, cells := 0, slots := 0, locals := 113 } : Room) (kPreX D cI aK aV [.ref k, .int a0] [(k, .inr (9, [.ref k0, .ref k1, .ref k2, .ref k3, .ref k4, .ref k5, .int c6, .int c7, .int c8])), (k0, .inl (cI, 12, .inl c0)), (k1, .inl (cI, 40, .inl c1)), (k4, .inr (8, [.ref k40, .ref k41, .ref k42, .ref k43, .ref k44, .ref k45, .ref k46, .ref k47, .ref k48, .int c49])), (k5, .inr (3, [.ref k50, .int c51])), (k40, .inl (cI, 60, .inl c40)), (k41, .inl (cI, 60, .inl c41)), (k42, .inl (cI, 60, .inl c42)), (k43, .inl (cI, 60, .inl c43)), (k44, .inl (cI, 60, .inl c44)), (k45, .inl (cI, 60, .inl c45)), (k46, .inl (cI, 40, .inl c46)), (k47, .inl (cI, 40, .inl c47)), (k48, .inl (cI, 40, .inl c48)), (k50, .inl (cI, 36, .inl c50))] sz) (va_Qv (fun (u : Int32 × (Nat → Int32) × (Nat → Int32) × (Nat → Int32) × (Nat → Int32) × (Nat → Int32) × (Nat → Int32) × (Nat → Int32) × (Nat → Int32) × (Nat → Int32) × (Nat → Int32)) => True) (fun u t => kWd D cI (va_A [(k, .inr (9, [.ref k0, .ref k1, .ref k2, .ref k3, .ref k4, .ref k5, .int c6, .int c7, .int c8])), (k0, .inl (cI, 12, .inl c0)), (k1, .inl (cI, 40, .inl c1)), (k4, .inr (8, [.ref k40, .ref k41, .ref k42, .ref k43, .ref k44, .ref k45, .ref k46, .ref k47, .ref k48, .int c49])), (k5, .inr (3, [.ref k50, .int c51])), (k40, .inl (cI, 60, .inl c40)), (k41, .inl (cI, 60, .inl c41)), (k42, .inl (cI, 60, .inl c42)), (k43, .inl (cI, 60, .inl c43)), (k44, .inl (cI, 60, .inl c44)), (k45, .inl (cI, 60, .inl c45)), (k46, .inl (cI, 40, .inl c46)), (k47, .inl (cI, 40, .inl c47)), (k48, .inl (cI, 40, .inl c48)), (k50, .inl (cI, 36, .inl c50))] sz) [(k, .inr (9, [.ref k0, .ref k1, .ref k2, .ref k3, .ref k4, .ref k5, .int c6, .int c7, .int c8])), (k0, .inl (cI, 12, .inl c0)), (k1, .inl (cI, 40, .inl c1)), (k4, .inr (8, [.ref k40, .ref k41, .ref k42, .ref k43, .ref k44, .ref k45, .ref k46, .ref k47, .ref k48, .int u.1])), (k5, .inr (3, [.ref k50, .int c51])), (k40, .inl (cI, 60, .inl u.2.1)), (k41, .inl (cI, 60, .inl u.2.2.1)), (k42, .inl (cI, 60, .inl u.2.2.2.1)), (k43, .inl (cI, 60, .inl u.2.2.2.2.1)), (k44, .inl (cI, 60, .inl u.2.2.2.2.2.1)), (k45, .inl (cI, 60, .inl u.2.2.2.2.2.2.1)), (k46, .inl (cI, 40, .inl u.2.2.2.2.2.2.2.1)), (k47, .inl (cI, 40, .inl u.2.2.2.2.2.2.2.2.1)), (k48, .inl (cI, 40, .inl u.2.2.2.2.2.2.2.2.2.1)), (k50, .inl (cI, 36, .inl u.2.2.2.2.2.2.2.2.2.2))] t) (va_A [(k, .inr (9, [.ref k0, .ref k1, .ref k2, .ref k3, .ref k4, .ref k5, .int c6, .int c7, .int c8])), (k0, .inl (cI, 12, .inl c0)), (k1, .inl (cI, 40, .inl c1)), (k4, .inr (8, [.ref k40, .ref k41, .ref k42, .ref k43, .ref k44, .ref k45, .ref k46, .ref k47, .ref k48, .int c49])), (k5, .inr (3, [.ref k50, .int c51])), (k40, .inl (cI, 60, .inl c40)), (k41, .inl (cI, 60, .inl c41)), (k42, .inl (cI, 60, .inl c42)), (k43, .inl (cI, 60, .inl c43)), (k44, .inl (cI, 60, .inl c44)), (k45, .inl (cI, 60, .inl c45)), (k46, .inl (cI, 40, .inl c46)), (k47, .inl (cI, 40, .inl c47)), (k48, .inl (cI, 40, .inl c48)), (k50, .inl (cI, 36, .inl c50))] sz)) 0 0 (va_A [(k, .inr (9, [.ref k0, .ref k1, .ref k2, .ref k3, .ref k4, .ref k5, .int c6, .int c7, .int c8])), (k0, .inl (cI, 12, .inl c0)), (k1, .inl (cI, 40, .inl c1)), (k4, .inr (8, [.ref k40, .ref k41, .ref k42, .ref k43, .ref k44, .ref k45, .ref k46, .ref k47, .ref k48, .int c49])), (k5, .inr (3, [.ref k50, .int c51])), (k40, .inl (cI, 60, .inl c40)), (k41, .inl (cI, 60, .inl c41)), (k42, .inl (cI, 60, .inl c42)), (k43, .inl (cI, 60, .inl c43)), (k44, .inl (cI, 60, .inl c44)), (k45, .inl (cI, 60, .inl c45)), (k46, .inl (cI, 40, .inl c46)), (k47, .inl (cI, 40, .inl c47)), (k48, .inl (cI, 40, .inl c48)), (k50, .inl (cI, 36, .inl c50))] sz) := by
  refine kMetVX (own := RX9) (by decide) rfl (Nat.le_of_ble_eq_true rfl) ?_
  intro p e s m args below meth c hx hb hT hown hname hml A Q hK hP hD hS hA hN hXS hRet ls hl
  have hl : lv_has ls 3 [(0, .ref k), (1, .int a0)] := hl
  have lo_a0 := k_lo a0
  have hi_a0 := k_hi a0
  refine lv_aload_n hx hb dX9_labour_0 rfl (lv_at hl 0 rfl) ?_
  refine va_get (D := D) (ci := 9) (v := .ref k5) (C := RX9) (T := TX9) (N := 9) hx hb hT giX9 hown hK hP 0 rfl rfl 5 (by decide) (hT (Cond.fieldLink RX9 34 "DesertWire$World" "parties" "LDesertWire$Parties;") mw_100) (fun _ h9 => h9) rfl dX9_labour_1 ?_
  refine lv_iload_n hx hb dX9_labour_4 rfl (lv_at hl 1 rfl) ?_
  refine lv_iconst (v := 0) hx hb dX9_labour_5 (by decide) ?_
  refine kJi (wr := [(k, .inr (9, [.ref k0, .ref k1, .ref k2, .ref k3, .ref k4, .ref k5, .int c6, .int c7, .int c8])), (k0, .inl (cI, 12, .inl c0)), (k1, .inl (cI, 40, .inl c1)), (k4, .inr (8, [.ref k40, .ref k41, .ref k42, .ref k43, .ref k44, .ref k45, .ref k46, .ref k47, .ref k48, .int c49])), (k40, .inl (cI, 60, .inl c40)), (k41, .inl (cI, 60, .inl c41)), (k42, .inl (cI, 60, .inl c42)), (k43, .inl (cI, 60, .inl c43)), (k44, .inl (cI, 60, .inl c44)), (k45, .inl (cI, 60, .inl c45)), (k46, .inl (cI, 40, .inl c46)), (k47, .inl (cI, 40, .inl c47)), (k48, .inl (cI, 40, .inl c48))]) (va_runV (As := [.int a0, .int 0]) (rest := []) ⟨hx, hb, hml, hown, hT⟩ (c_X3_getG l D cI aK aV k5 k50 s.heap.size c51 c50 a0 0) (cwV 2 hT (gV_in mw_726 mw_978 mw_724 mw_725 mw_4) rfl rfl rfl (by decide +kernel) ⟨Nat.le_of_ble_eq_true rfl, Nat.le_of_ble_eq_true rfl⟩) (kRecvX (q0 := 4) (ci := 3) hK hP hD hN hXS hS hA rfl rfl [4, 14] rfl (by decide)) rfl rfl hl.1 rfl (lv_room (Nat.le_of_ble_eq_true rfl)) dX9_labour_6 ⟨Nat.le_of_ble_eq_true rfl, Nat.le_of_ble_eq_true rfl⟩) hP hD hS hA [4, 14] [0, 1, 2, 3, 5, 6, 7, 8, 9, 10, 11, 12, 13] rfl rfl (by decide) (by decide) ?_
  clear hP hD hS
  intro r_1 u_3 H locs w_2 hP hD hS
  replace hP : va_P D vwCl [(k, .inr (9, [.ref k0, .ref k1, .ref k2, .ref k3, .ref k4, .ref k5, .int c6, .int c7, .int c8])), (k0, .inl (cI, 12, .inl c0)), (k1, .inl (cI, 40, .inl c1)), (k4, .inr (8, [.ref k40, .ref k41, .ref k42, .ref k43, .ref k44, .ref k45, .ref k46, .ref k47, .ref k48, .int c49])), (k40, .inl (cI, 60, .inl c40)), (k41, .inl (cI, 60, .inl c41)), (k42, .inl (cI, 60, .inl c42)), (k43, .inl (cI, 60, .inl c43)), (k44, .inl (cI, 60, .inl c44)), (k45, .inl (cI, 60, .inl c45)), (k46, .inl (cI, 40, .inl c46)), (k47, .inl (cI, 40, .inl c47)), (k48, .inl (cI, 40, .inl c48)), (k5, .inr (3, [.ref k50, .int c51])), (k50, .inl (cI, 36, .inl c50))] H := hP
  replace hD : va_D A [(k, .inr (9, [.ref k0, .ref k1, .ref k2, .ref k3, .ref k4, .ref k5, .int c6, .int c7, .int c8])), (k0, .inl (cI, 12, .inl c0)), (k1, .inl (cI, 40, .inl c1)), (k4, .inr (8, [.ref k40, .ref k41, .ref k42, .ref k43, .ref k44, .ref k45, .ref k46, .ref k47, .ref k48, .int c49])), (k40, .inl (cI, 60, .inl c40)), (k41, .inl (cI, 60, .inl c41)), (k42, .inl (cI, 60, .inl c42)), (k43, .inl (cI, 60, .inl c43)), (k44, .inl (cI, 60, .inl c44)), (k45, .inl (cI, 60, .inl c45)), (k46, .inl (cI, 40, .inl c46)), (k47, .inl (cI, 40, .inl c47)), (k48, .inl (cI, 40, .inl c48)), (k5, .inr (3, [.ref k50, .int c51])), (k50, .inl (cI, 36, .inl c50))] := hD
  have lo_r_1 := k_lo r_1
  have hi_r_1 := k_hi r_1
  refine lv_istore_n (lv' := [(2, .int r_1), (0, .ref k), (1, .int a0)]) hx hb dX9_labour_9 rfl hl (by decide) rfl ?_
  clear hl
  intro ls hl
  refine lv_aload_n hx hb dX9_labour_10 rfl (lv_at hl 1 rfl) ?_
  refine va_get (D := D) (ci := 9) (v := .ref k4) (C := RX9) (T := TX9) (N := 9) hx hb hT giX9 hown hK hP 0 rfl rfl 4 (by decide) (hT (Cond.fieldLink RX9 27 "DesertWire$World" "works" "LDesertWire$Works;") mw_97) (fun _ h9 => h9) rfl dX9_labour_11 ?_
  refine lv_iload_n hx hb dX9_labour_14 rfl (lv_at hl 0 rfl) ?_
  refine kJi (wr := [(k, .inr (9, [.ref k0, .ref k1, .ref k2, .ref k3, .ref k4, .ref k5, .int c6, .int c7, .int c8])), (k0, .inl (cI, 12, .inl c0)), (k1, .inl (cI, 40, .inl c1)), (k40, .inl (cI, 60, .inl c40)), (k41, .inl (cI, 60, .inl c41)), (k42, .inl (cI, 60, .inl c42)), (k43, .inl (cI, 60, .inl c43)), (k44, .inl (cI, 60, .inl c44)), (k45, .inl (cI, 60, .inl c45)), (k47, .inl (cI, 40, .inl c47)), (k48, .inl (cI, 40, .inl c48)), (k5, .inr (3, [.ref k50, .int c51])), (k50, .inl (cI, 36, .inl c50))]) (va_runV (As := [.int r_1]) (rest := []) ⟨hx, hb, hml, hown, hT⟩ (c_X8_isWiredG l D cI aK aV k4 k40 k41 k42 k43 k44 k45 k46 k47 k48 H.size c49 c46 r_1) (cwV 1 hT (gV_in mw_624 mw_629 mw_622 mw_623 mw_3) rfl rfl rfl (by decide +kernel) ⟨Nat.le_of_ble_eq_true rfl, Nat.le_of_ble_eq_true rfl⟩) (kRecvX (q0 := 3) (ci := 8) hK hP hD hN hXS hS hA rfl rfl [3, 10] rfl (by decide)) rfl rfl hl.1 rfl (lv_room (Nat.le_of_ble_eq_true rfl)) dX9_labour_15 ⟨Nat.le_of_ble_eq_true rfl, Nat.le_of_ble_eq_true rfl⟩) hP hD hS hA [3, 10] [0, 1, 2, 4, 5, 6, 7, 8, 9, 11, 12, 13, 14] rfl rfl (by decide) (by decide) ?_
  clear hP hD hS
  intro r_4 u_6 H locs w_5 hP hD hS
  replace hP : va_P D vwCl [(k, .inr (9, [.ref k0, .ref k1, .ref k2, .ref k3, .ref k4, .ref k5, .int c6, .int c7, .int c8])), (k0, .inl (cI, 12, .inl c0)), (k1, .inl (cI, 40, .inl c1)), (k40, .inl (cI, 60, .inl c40)), (k41, .inl (cI, 60, .inl c41)), (k42, .inl (cI, 60, .inl c42)), (k43, .inl (cI, 60, .inl c43)), (k44, .inl (cI, 60, .inl c44)), (k45, .inl (cI, 60, .inl c45)), (k47, .inl (cI, 40, .inl c47)), (k48, .inl (cI, 40, .inl c48)), (k5, .inr (3, [.ref k50, .int c51])), (k50, .inl (cI, 36, .inl c50)), (k4, .inr (8, [.ref k40, .ref k41, .ref k42, .ref k43, .ref k44, .ref k45, .ref k46, .ref k47, .ref k48, .int c49])), (k46, .inl (cI, 40, .inl c46))] H := hP
  replace hD : va_D A [(k, .inr (9, [.ref k0, .ref k1, .ref k2, .ref k3, .ref k4, .ref k5, .int c6, .int c7, .int c8])), (k0, .inl (cI, 12, .inl c0)), (k1, .inl (cI, 40, .inl c1)), (k40, .inl (cI, 60, .inl c40)), (k41, .inl (cI, 60, .inl c41)), (k42, .inl (cI, 60, .inl c42)), (k43, .inl (cI, 60, .inl c43)), (k44, .inl (cI, 60, .inl c44)), (k45, .inl (cI, 60, .inl c45)), (k47, .inl (cI, 40, .inl c47)), (k48, .inl (cI, 40, .inl c48)), (k5, .inr (3, [.ref k50, .int c51])), (k50, .inl (cI, 36, .inl c50)), (k4, .inr (8, [.ref k40, .ref k41, .ref k42, .ref k43, .ref k44, .ref k45, .ref k46, .ref k47, .ref k48, .int c49])), (k46, .inl (cI, 40, .inl c46))] := hD
  have lo_r_4 := k_lo r_4
  have hi_r_4 := k_hi r_4
  refine b_if_eq hx hb rfl (tgt := 40) dX9_labour_18 (by decide) (fun c_7 => ?_) (fun c_7 => ?_)
  · refine lv_aload_n hx hb dX9_labour_40 rfl (lv_at hl 1 rfl) ?_
    refine lv_iload_n hx hb dX9_labour_41 rfl (lv_at hl 2 rfl) ?_
    refine lv_iload_n hx hb dX9_labour_42 rfl (lv_at hl 0 rfl) ?_
    refine kJv (wr := []) (va_runV (As := [.int a0, .int r_1]) (rest := []) ⟨hx, hb, hml, hown, hT⟩ (c_X9_digG l D cI aK aV k k0 k1 k2 k3 k4 k5 k40 k41 k42 k43 k44 k45 k46 k47 k48 k50 H.size c6 c7 c8 c0 c1 c49 c51 c40 c41 c42 c43 c44 c45 c46 c47 c48 c50 a0 r_1) (cwV 2 hT (gV_in mw_1003 mw_1000 mw_1002 mw_p3_5 mw_2) rfl rfl rfl (by decide +kernel) ⟨Nat.le_of_ble_eq_true rfl, Nat.le_of_ble_eq_true rfl⟩) (kRecvX (q0 := 0) (ci := 9) hK hP hD hN hXS hS hA rfl rfl [0, 1, 2, 13, 11, 3, 4, 5, 6, 7, 8, 14, 9, 10, 12] rfl (by decide)) rfl rfl hl.1 rfl (lv_room (Nat.le_of_ble_eq_true rfl)) dX9_labour_43 ⟨Nat.le_of_ble_eq_true rfl, Nat.le_of_ble_eq_true rfl⟩) hP hD hS hA [0, 1, 2, 13, 11, 3, 4, 5, 6, 7, 8, 14, 9, 10, 12] [] rfl rfl (by decide) (by decide) ?_
    clear hP hD hS
    intro u_21 H locs w_9 hP hD hS
    obtain ⟨sc49_10, sc40_11, sc41_12, sc42_13, sc43_14, sc44_15, sc45_16, sc46_17, sc47_18, sc48_19, sc50_20⟩ := u_21
    replace hP : va_P D vwCl [(k, .inr (9, [.ref k0, .ref k1, .ref k2, .ref k3, .ref k4, .ref k5, .int c6, .int c7, .int c8])), (k0, .inl (cI, 12, .inl c0)), (k1, .inl (cI, 40, .inl c1)), (k4, .inr (8, [.ref k40, .ref k41, .ref k42, .ref k43, .ref k44, .ref k45, .ref k46, .ref k47, .ref k48, .int sc49_10])), (k5, .inr (3, [.ref k50, .int c51])), (k40, .inl (cI, 60, .inl sc40_11)), (k41, .inl (cI, 60, .inl sc41_12)), (k42, .inl (cI, 60, .inl sc42_13)), (k43, .inl (cI, 60, .inl sc43_14)), (k44, .inl (cI, 60, .inl sc44_15)), (k45, .inl (cI, 60, .inl sc45_16)), (k46, .inl (cI, 40, .inl sc46_17)), (k47, .inl (cI, 40, .inl sc47_18)), (k48, .inl (cI, 40, .inl sc48_19)), (k50, .inl (cI, 36, .inl sc50_20))] H := hP
    replace hD : va_D A [(k, .inr (9, [.ref k0, .ref k1, .ref k2, .ref k3, .ref k4, .ref k5, .int c6, .int c7, .int c8])), (k0, .inl (cI, 12, .inl c0)), (k1, .inl (cI, 40, .inl c1)), (k4, .inr (8, [.ref k40, .ref k41, .ref k42, .ref k43, .ref k44, .ref k45, .ref k46, .ref k47, .ref k48, .int sc49_10])), (k5, .inr (3, [.ref k50, .int c51])), (k40, .inl (cI, 60, .inl sc40_11)), (k41, .inl (cI, 60, .inl sc41_12)), (k42, .inl (cI, 60, .inl sc42_13)), (k43, .inl (cI, 60, .inl sc43_14)), (k44, .inl (cI, 60, .inl sc44_15)), (k45, .inl (cI, 60, .inl sc45_16)), (k46, .inl (cI, 40, .inl sc46_17)), (k47, .inl (cI, 40, .inl sc47_18)), (k48, .inl (cI, 40, .inl sc48_19)), (k50, .inl (cI, 36, .inl sc50_20))] := hD
    exact hRet (sc49_10, sc40_11, sc41_12, sc42_13, sc43_14, sc44_15, sc45_16, sc46_17, sc47_18, sc48_19, sc50_20) [0, 1, 2, 3, 4, 5, 6, 7, 8, 9, 10, 11, 12, 13, 14] trivial hP hD (by decide) rfl hS dX9_labour_46
  · refine lv_aload_n hx hb dX9_labour_21 rfl (lv_at hl 1 rfl) ?_
    refine lv_iload_n hx hb dX9_labour_22 rfl (lv_at hl 2 rfl) ?_
    refine lv_iload_n hx hb dX9_labour_23 rfl (lv_at hl 0 rfl) ?_
    refine lv_aload_n hx hb dX9_labour_24 rfl (lv_at hl 1 rfl) ?_
    refine va_get (D := D) (ci := 9) (v := .ref k5) (C := RX9) (T := TX9) (N := 9) hx hb hT giX9 hown hK hP 0 rfl rfl 5 (by decide) (hT (Cond.fieldLink RX9 34 "DesertWire$World" "parties" "LDesertWire$Parties;") mw_100) (fun _ h9 => h9) rfl dX9_labour_25 ?_
    refine lv_iload_n hx hb dX9_labour_28 rfl (lv_at hl 2 rfl) ?_
    refine lv_iconst (v := 1) hx hb dX9_labour_29 (by decide) ?_
    refine kJi (wr := [(k, .inr (9, [.ref k0, .ref k1, .ref k2, .ref k3, .ref k4, .ref k5, .int c6, .int c7, .int c8])), (k0, .inl (cI, 12, .inl c0)), (k1, .inl (cI, 40, .inl c1)), (k40, .inl (cI, 60, .inl c40)), (k41, .inl (cI, 60, .inl c41)), (k42, .inl (cI, 60, .inl c42)), (k43, .inl (cI, 60, .inl c43)), (k44, .inl (cI, 60, .inl c44)), (k45, .inl (cI, 60, .inl c45)), (k47, .inl (cI, 40, .inl c47)), (k48, .inl (cI, 40, .inl c48)), (k4, .inr (8, [.ref k40, .ref k41, .ref k42, .ref k43, .ref k44, .ref k45, .ref k46, .ref k47, .ref k48, .int c49])), (k46, .inl (cI, 40, .inl c46))]) (va_runV (As := [.int a0, .int 1]) (rest := [.int r_1, .int a0, .ref k]) ⟨hx, hb, hml, hown, hT⟩ (c_X3_getG l D cI aK aV k5 k50 H.size c51 c50 a0 1) (cwV 2 hT (gV_in mw_726 mw_978 mw_724 mw_725 mw_4) rfl rfl rfl (by decide +kernel) ⟨Nat.le_of_ble_eq_true rfl, Nat.le_of_ble_eq_true rfl⟩) (kRecvX (q0 := 11) (ci := 3) hK hP hD hN hXS hS hA rfl rfl [11, 12] rfl (by decide)) rfl rfl hl.1 rfl (lv_room (Nat.le_of_ble_eq_true rfl)) dX9_labour_30 ⟨Nat.le_of_ble_eq_true rfl, Nat.le_of_ble_eq_true rfl⟩) hP hD hS hA [11, 12] [0, 1, 2, 3, 4, 5, 6, 7, 8, 9, 10, 13, 14] rfl rfl (by decide) (by decide) ?_
    clear hP hD hS
    intro r_22 u_24 H locs w_23 hP hD hS
    replace hP : va_P D vwCl [(k, .inr (9, [.ref k0, .ref k1, .ref k2, .ref k3, .ref k4, .ref k5, .int c6, .int c7, .int c8])), (k0, .inl (cI, 12, .inl c0)), (k1, .inl (cI, 40, .inl c1)), (k40, .inl (cI, 60, .inl c40)), (k41, .inl (cI, 60, .inl c41)), (k42, .inl (cI, 60, .inl c42)), (k43, .inl (cI, 60, .inl c43)), (k44, .inl (cI, 60, .inl c44)), (k45, .inl (cI, 60, .inl c45)), (k47, .inl (cI, 40, .inl c47)), (k48, .inl (cI, 40, .inl c48)), (k4, .inr (8, [.ref k40, .ref k41, .ref k42, .ref k43, .ref k44, .ref k45, .ref k46, .ref k47, .ref k48, .int c49])), (k46, .inl (cI, 40, .inl c46)), (k5, .inr (3, [.ref k50, .int c51])), (k50, .inl (cI, 36, .inl c50))] H := hP
    replace hD : va_D A [(k, .inr (9, [.ref k0, .ref k1, .ref k2, .ref k3, .ref k4, .ref k5, .int c6, .int c7, .int c8])), (k0, .inl (cI, 12, .inl c0)), (k1, .inl (cI, 40, .inl c1)), (k40, .inl (cI, 60, .inl c40)), (k41, .inl (cI, 60, .inl c41)), (k42, .inl (cI, 60, .inl c42)), (k43, .inl (cI, 60, .inl c43)), (k44, .inl (cI, 60, .inl c44)), (k45, .inl (cI, 60, .inl c45)), (k47, .inl (cI, 40, .inl c47)), (k48, .inl (cI, 40, .inl c48)), (k4, .inr (8, [.ref k40, .ref k41, .ref k42, .ref k43, .ref k44, .ref k45, .ref k46, .ref k47, .ref k48, .int c49])), (k46, .inl (cI, 40, .inl c46)), (k5, .inr (3, [.ref k50, .int c51])), (k50, .inl (cI, 36, .inl c50))] := hD
    have lo_r_22 := k_lo r_22
    have hi_r_22 := k_hi r_22
    refine lv_iadd hx hb dX9_labour_33 ?_
    refine lv_topi (fun v_25 ev_25 => ?_)
    have lo_v_25 := k_lo v_25
    have hi_v_25 := k_hi v_25
    refine kJv (wr := [(k0, .inl (cI, 12, .inl c0)), (k1, .inl (cI, 40, .inl c1)), (k40, .inl (cI, 60, .inl c40)), (k41, .inl (cI, 60, .inl c41)), (k42, .inl (cI, 60, .inl c42)), (k43, .inl (cI, 60, .inl c43)), (k44, .inl (cI, 60, .inl c44)), (k45, .inl (cI, 60, .inl c45)), (k47, .inl (cI, 40, .inl c47)), (k48, .inl (cI, 40, .inl c48)), (k4, .inr (8, [.ref k40, .ref k41, .ref k42, .ref k43, .ref k44, .ref k45, .ref k46, .ref k47, .ref k48, .int c49])), (k46, .inl (cI, 40, .inl c46))]) (va_runV (As := [.int a0, .int v_25]) (rest := []) ⟨hx, hb, hml, hown, hT⟩ (c_X9_goOnG l D cI aK aV k k0 k1 k2 k3 k4 k5 k50 H.size c6 c7 c8 c51 c50 a0 v_25) (cwV 2 hT (gV_in mw_999 mw_996 mw_998 mw_p3_4 mw_2) rfl rfl rfl (by decide +kernel) ⟨Nat.le_of_ble_eq_true rfl, Nat.le_of_ble_eq_true rfl⟩) (kRecvX (q0 := 0) (ci := 9) hK hP hD hN hXS hS hA rfl rfl [0, 13, 14] rfl (by decide)) rfl rfl hl.1 rfl (lv_room (Nat.le_of_ble_eq_true rfl)) dX9_labour_34 ⟨Nat.le_of_ble_eq_true rfl, Nat.le_of_ble_eq_true rfl⟩) hP hD hS hA [0, 13, 14] [1, 2, 3, 4, 5, 6, 7, 8, 9, 10, 11, 12] rfl rfl (by decide) (by decide) ?_
    clear hP hD hS
    intro sc50_28 H locs w_27 hP hD hS
    replace hP : va_P D vwCl [(k0, .inl (cI, 12, .inl c0)), (k1, .inl (cI, 40, .inl c1)), (k40, .inl (cI, 60, .inl c40)), (k41, .inl (cI, 60, .inl c41)), (k42, .inl (cI, 60, .inl c42)), (k43, .inl (cI, 60, .inl c43)), (k44, .inl (cI, 60, .inl c44)), (k45, .inl (cI, 60, .inl c45)), (k47, .inl (cI, 40, .inl c47)), (k48, .inl (cI, 40, .inl c48)), (k4, .inr (8, [.ref k40, .ref k41, .ref k42, .ref k43, .ref k44, .ref k45, .ref k46, .ref k47, .ref k48, .int c49])), (k46, .inl (cI, 40, .inl c46)), (k, .inr (9, [.ref k0, .ref k1, .ref k2, .ref k3, .ref k4, .ref k5, .int c6, .int c7, .int c8])), (k5, .inr (3, [.ref k50, .int c51])), (k50, .inl (cI, 36, .inl sc50_28))] H := hP
    replace hD : va_D A [(k0, .inl (cI, 12, .inl c0)), (k1, .inl (cI, 40, .inl c1)), (k40, .inl (cI, 60, .inl c40)), (k41, .inl (cI, 60, .inl c41)), (k42, .inl (cI, 60, .inl c42)), (k43, .inl (cI, 60, .inl c43)), (k44, .inl (cI, 60, .inl c44)), (k45, .inl (cI, 60, .inl c45)), (k47, .inl (cI, 40, .inl c47)), (k48, .inl (cI, 40, .inl c48)), (k4, .inr (8, [.ref k40, .ref k41, .ref k42, .ref k43, .ref k44, .ref k45, .ref k46, .ref k47, .ref k48, .int c49])), (k46, .inl (cI, 40, .inl c46)), (k, .inr (9, [.ref k0, .ref k1, .ref k2, .ref k3, .ref k4, .ref k5, .int c6, .int c7, .int c8])), (k5, .inr (3, [.ref k50, .int c51])), (k50, .inl (cI, 36, .inl sc50_28))] := hD
    refine lv_goto (tgt := 46) hx hb dX9_labour_37 (by decide) ?_
    exact hRet (c49, c40, c41, c42, c43, c44, c45, c46, c47, c48, sc50_28) [12, 0, 1, 10, 13, 2, 3, 4, 5, 6, 7, 11, 8, 9, 14] trivial hP hD (by decide) rfl hS dX9_labour_46
theorem dX9_endDay_0 : decode cX9_endDay 0 = .ok (.aload_n 0, 1) := by decide +kernel
theorem dX9_endDay_1 : decode cX9_endDay 1 = .ok (.invokevirtual 116, 3) := by decide +kernel
theorem dX9_endDay_4 : decode cX9_endDay 4 = .ok (.iconst 0, 1) := by decide +kernel
theorem dX9_endDay_5 : decode cX9_endDay 5 = .ok (.istore_n 1, 1) := by decide +kernel
theorem dX9_endDay_6 : decode cX9_endDay 6 = .ok (.iload_n 1, 1) := by decide +kernel
theorem dX9_endDay_7 : decode cX9_endDay 7 = .ok (.aload_n 0, 1) := by decide +kernel
theorem dX9_endDay_8 : decode cX9_endDay 8 = .ok (.getfield 34, 3) := by decide +kernel
theorem dX9_endDay_11 : decode cX9_endDay 11 = .ok (.getfield 119, 3) := by decide +kernel
theorem dX9_endDay_14 : decode cX9_endDay 14 = .ok (.if_icmp .ge 30, 3) := by decide +kernel
theorem dX9_endDay_17 : decode cX9_endDay 17 = .ok (.aload_n 0, 1) := by decide +kernel
theorem dX9_endDay_18 : decode cX9_endDay 18 = .ok (.getfield 34, 3) := by decide +kernel
theorem dX9_endDay_21 : decode cX9_endDay 21 = .ok (.iload_n 1, 1) := by decide +kernel
theorem dX9_endDay_22 : decode cX9_endDay 22 = .ok (.invokevirtual 120, 3) := by decide +kernel
theorem dX9_endDay_25 : decode cX9_endDay 25 = .ok (.ifCond .ne 13, 3) := by decide +kernel
theorem dX9_endDay_28 : decode cX9_endDay 28 = .ok (.aload_n 0, 1) := by decide +kernel
theorem dX9_endDay_29 : decode cX9_endDay 29 = .ok (.iload_n 1, 1) := by decide +kernel
theorem dX9_endDay_30 : decode cX9_endDay 30 = .ok (.invokevirtual 123, 3) := by decide +kernel
theorem dX9_endDay_33 : decode cX9_endDay 33 = .ok (.aload_n 0, 1) := by decide +kernel
theorem dX9_endDay_34 : decode cX9_endDay 34 = .ok (.iload_n 1, 1) := by decide +kernel
theorem dX9_endDay_35 : decode cX9_endDay 35 = .ok (.invokevirtual 127, 3) := by decide +kernel
theorem dX9_endDay_38 : decode cX9_endDay 38 = .ok (.iinc 1 1, 3) := by decide +kernel
theorem dX9_endDay_41 : decode cX9_endDay 41 = .ok (.goto (-35), 3) := by decide +kernel
theorem dX9_endDay_44 : decode cX9_endDay 44 = .ok (.iconst 0, 1) := by decide +kernel
theorem dX9_endDay_45 : decode cX9_endDay 45 = .ok (.istore_n 1, 1) := by decide +kernel
theorem dX9_endDay_46 : decode cX9_endDay 46 = .ok (.iload_n 1, 1) := by decide +kernel
theorem dX9_endDay_47 : decode cX9_endDay 47 = .ok (.aload_n 0, 1) := by decide +kernel
theorem dX9_endDay_48 : decode cX9_endDay 48 = .ok (.getfield 34, 3) := by decide +kernel
theorem dX9_endDay_51 : decode cX9_endDay 51 = .ok (.getfield 119, 3) := by decide +kernel
theorem dX9_endDay_54 : decode cX9_endDay 54 = .ok (.if_icmp .ge 27, 3) := by decide +kernel
theorem dX9_endDay_57 : decode cX9_endDay 57 = .ok (.aload_n 0, 1) := by decide +kernel
theorem dX9_endDay_58 : decode cX9_endDay 58 = .ok (.getfield 34, 3) := by decide +kernel
theorem dX9_endDay_61 : decode cX9_endDay 61 = .ok (.iload_n 1, 1) := by decide +kernel
theorem dX9_endDay_62 : decode cX9_endDay 62 = .ok (.bipush 8, 2) := by decide +kernel
theorem dX9_endDay_64 : decode cX9_endDay 64 = .ok (.invokevirtual 130, 3) := by decide +kernel
theorem dX9_endDay_67 : decode cX9_endDay 67 = .ok (.ifCond .ne 8, 3) := by decide +kernel
theorem dX9_endDay_70 : decode cX9_endDay 70 = .ok (.aload_n 0, 1) := by decide +kernel
theorem dX9_endDay_71 : decode cX9_endDay 71 = .ok (.iload_n 1, 1) := by decide +kernel
theorem dX9_endDay_72 : decode cX9_endDay 72 = .ok (.invokevirtual 133, 3) := by decide +kernel
theorem dX9_endDay_75 : decode cX9_endDay 75 = .ok (.iinc 1 1, 3) := by decide +kernel
theorem dX9_endDay_78 : decode cX9_endDay 78 = .ok (.goto (-32), 3) := by decide +kernel
theorem dX9_endDay_81 : decode cX9_endDay 81 = .ok (.aload_n 0, 1) := by decide +kernel
theorem dX9_endDay_82 : decode cX9_endDay 82 = .ok (.dup, 1) := by decide +kernel
theorem dX9_endDay_83 : decode cX9_endDay 83 = .ok (.getfield 45, 3) := by decide +kernel
theorem dX9_endDay_86 : decode cX9_endDay 86 = .ok (.iconst 1, 1) := by decide +kernel
theorem dX9_endDay_87 : decode cX9_endDay 87 = .ok (.iadd, 1) := by decide +kernel
theorem dX9_endDay_88 : decode cX9_endDay 88 = .ok (.putfield 45, 3) := by decide +kernel
theorem dX9_endDay_91 : decode cX9_endDay 91 = .ok (.return_, 1) := by decide +kernel
set_option maxHeartbeats 4000000 in
set_option maxRecDepth 100000 in
theorem c_X9_endDayG (l : Launch) (D : va_G) (cI : ClassId) (aK aV : Nat → Nat) (k k0 k1 k2 k3 k4 k5 k40 k41 k42 k43 k44 k45 k46 k47 k48 k50 : Nat) (sz : Nat) (c6 : Int32) (c7 : Int32) (c8 : Int32) (c0 : Nat → Int32) (c1 : Nat → Int32) (c2 : Nat → Int32) (c49 : Int32) (c51 : Int32) (c40 : Nat → Int32) (c41 : Nat → Int32) (c42 : Nat → Int32) (c43 : Nat → Int32) (c44 : Nat → Int32) (c45 : Nat → Int32) (c46 : Nat → Int32) (c47 : Nat → Int32) (c48 : Nat → Int32) (c50 : Nat → Int32) : Met l yX9_endDay (gW yX9_endDay cX9_endDay 2 none) ({ frames := 6, cells := 0, slots := 0, locals := 135 } : Room) (kPreX D cI aK aV [.ref k] [(k, .inr (9, [.ref k0, .ref k1, .ref k2, .ref k3, .ref k4, .ref k5, .int c6, .int c7, .int c8])), (k0, .inl (cI, 12, .inl c0)), (k1, .inl (cI, 40, .inl c1)), (k2, .inl (cI, 40, .inl c2)), (k4, .inr (8, [.ref k40, .ref k41, .ref k42, .ref k43, .ref k44, .ref k45, .ref k46, .ref k47, .ref k48, .int c49])), (k5, .inr (3, [.ref k50, .int c51])), (k40, .inl (cI, 60, .inl c40)), (k41, .inl (cI, 60, .inl c41)), (k42, .inl (cI, 60, .inl c42)), (k43, .inl (cI, 60, .inl c43)), (k44, .inl (cI, 60, .inl c44)), (k45, .inl (cI, 60, .inl c45)), (k46, .inl (cI, 40, .inl c46)), (k47, .inl (cI, 40, .inl c47)), (k48, .inl (cI, 40, .inl c48)), (k50, .inl (cI, 36, .inl c50))] sz) (va_Qv (fun (u : Int32 × Int32 × (Nat → Int32) × (Nat → Int32) × (Nat → Int32) × (Nat → Int32) × (Nat → Int32) × (Nat → Int32) × (Nat → Int32) × (Nat → Int32) × (Nat → Int32) × (Nat → Int32)) => u.1 = c8 + 1) (fun u t => kWd D cI (va_A [(k, .inr (9, [.ref k0, .ref k1, .ref k2, .ref k3, .ref k4, .ref k5, .int c6, .int c7, .int c8])), (k0, .inl (cI, 12, .inl c0)), (k1, .inl (cI, 40, .inl c1)), (k2, .inl (cI, 40, .inl c2)), (k4, .inr (8, [.ref k40, .ref k41, .ref k42, .ref k43, .ref k44, .ref k45, .ref k46, .ref k47, .ref k48, .int c49])), (k5, .inr (3, [.ref k50, .int c51])), (k40, .inl (cI, 60, .inl c40)), (k41, .inl (cI, 60, .inl c41)), (k42, .inl (cI, 60, .inl c42)), (k43, .inl (cI, 60, .inl c43)), (k44, .inl (cI, 60, .inl c44)), (k45, .inl (cI, 60, .inl c45)), (k46, .inl (cI, 40, .inl c46)), (k47, .inl (cI, 40, .inl c47)), (k48, .inl (cI, 40, .inl c48)), (k50, .inl (cI, 36, .inl c50))] sz) [(k, .inr (9, [.ref k0, .ref k1, .ref k2, .ref k3, .ref k4, .ref k5, .int c6, .int c7, .int u.1])), (k0, .inl (cI, 12, .inl c0)), (k1, .inl (cI, 40, .inl c1)), (k2, .inl (cI, 40, .inl c2)), (k4, .inr (8, [.ref k40, .ref k41, .ref k42, .ref k43, .ref k44, .ref k45, .ref k46, .ref k47, .ref k48, .int u.2.1])), (k5, .inr (3, [.ref k50, .int c51])), (k40, .inl (cI, 60, .inl u.2.2.1)), (k41, .inl (cI, 60, .inl u.2.2.2.1)), (k42, .inl (cI, 60, .inl u.2.2.2.2.1)), (k43, .inl (cI, 60, .inl u.2.2.2.2.2.1)), (k44, .inl (cI, 60, .inl u.2.2.2.2.2.2.1)), (k45, .inl (cI, 60, .inl u.2.2.2.2.2.2.2.1)), (k46, .inl (cI, 40, .inl u.2.2.2.2.2.2.2.2.1)), (k47, .inl (cI, 40, .inl u.2.2.2.2.2.2.2.2.2.1)), (k48, .inl (cI, 40, .inl u.2.2.2.2.2.2.2.2.2.2.1)), (k50, .inl (cI, 36, .inl u.2.2.2.2.2.2.2.2.2.2.2))] t) (va_A [(k, .inr (9, [.ref k0, .ref k1, .ref k2, .ref k3, .ref k4, .ref k5, .int c6, .int c7, .int c8])), (k0, .inl (cI, 12, .inl c0)), (k1, .inl (cI, 40, .inl c1)), (k2, .inl (cI, 40, .inl c2)), (k4, .inr (8, [.ref k40, .ref k41, .ref k42, .ref k43, .ref k44, .ref k45, .ref k46, .ref k47, .ref k48, .int c49])), (k5, .inr (3, [.ref k50, .int c51])), (k40, .inl (cI, 60, .inl c40)), (k41, .inl (cI, 60, .inl c41)), (k42, .inl (cI, 60, .inl c42)), (k43, .inl (cI, 60, .inl c43)), (k44, .inl (cI, 60, .inl c44)), (k45, .inl (cI, 60, .inl c45)), (k46, .inl (cI, 40, .inl c46)), (k47, .inl (cI, 40, .inl c47)), (k48, .inl (cI, 40, .inl c48)), (k50, .inl (cI, 36, .inl c50))] sz)) 0 0 (va_A [(k, .inr (9, [.ref k0, .ref k1, .ref k2, .ref k3, .ref k4, .ref k5, .int c6, .int c7, .int c8])), (k0, .inl (cI, 12, .inl c0)), (k1, .inl (cI, 40, .inl c1)), (k2, .inl (cI, 40, .inl c2)), (k4, .inr (8, [.ref k40, .ref k41, .ref k42, .ref k43, .ref k44, .ref k45, .ref k46, .ref k47, .ref k48, .int c49])), (k5, .inr (3, [.ref k50, .int c51])), (k40, .inl (cI, 60, .inl c40)), (k41, .inl (cI, 60, .inl c41)), (k42, .inl (cI, 60, .inl c42)), (k43, .inl (cI, 60, .inl c43)), (k44, .inl (cI, 60, .inl c44)), (k45, .inl (cI, 60, .inl c45)), (k46, .inl (cI, 40, .inl c46)), (k47, .inl (cI, 40, .inl c47)), (k48, .inl (cI, 40, .inl c48)), (k50, .inl (cI, 36, .inl c50))] sz) := by
  refine kMetVX (own := RX9) (by decide) rfl (Nat.le_of_ble_eq_true rfl) ?_
  intro p e s m args below meth c hx hb hT hown hname hml A Q hK hP hD hS hA hN hXS hRet ls hl
  have hl : lv_has ls 2 [(0, .ref k)] := hl
  have lo_c8 := k_lo c8
  have hi_c8 := k_hi c8
  have lo_c51 := k_lo c51
  have hi_c51 := k_hi c51
  refine lv_aload_n hx hb dX9_endDay_0 rfl (lv_at hl 0 rfl) ?_
  refine kJv (wr := [(k0, .inl (cI, 12, .inl c0)), (k2, .inl (cI, 40, .inl c2)), (k5, .inr (3, [.ref k50, .int c51])), (k44, .inl (cI, 60, .inl c44)), (k50, .inl (cI, 36, .inl c50))]) (va_runV (As := []) (rest := []) ⟨hx, hb, hml, hown, hT⟩ (c_X9_eatPolesG l D cI aK aV k k0 k1 k2 k3 k4 k5 k40 k41 k42 k43 k44 k45 k46 k47 k48 s.heap.size c6 c7 c8 c1 c49 c40 c41 c42 c43 c45 c46 c47 c48) (cwV 0 hT (gV_in mw_971 mw_968 mw_970 mw_p3_0 mw_2) rfl rfl rfl (by decide +kernel) ⟨Nat.le_of_ble_eq_true rfl, Nat.le_of_ble_eq_true rfl⟩) (kRecvX (q0 := 0) (ci := 9) hK hP hD hN hXS hS hA rfl rfl [0, 2, 4, 6, 7, 8, 9, 11, 12, 13, 14] rfl (by decide)) rfl rfl hl.1 rfl (lv_room (Nat.le_of_ble_eq_true rfl)) dX9_endDay_1 ⟨Nat.le_of_ble_eq_true rfl, Nat.le_of_ble_eq_true rfl⟩) hP hD hS hA [0, 2, 4, 6, 7, 8, 9, 11, 12, 13, 14] [1, 3, 5, 10, 15] rfl rfl (by decide) (by decide) ?_
  clear hP hD hS
  intro u_7 H locs w_2 hP hD hS
  obtain ⟨sc45_3, sc46_4, sc47_5, sc48_6⟩ := u_7
  replace hP : va_P D vwCl [(k0, .inl (cI, 12, .inl c0)), (k2, .inl (cI, 40, .inl c2)), (k5, .inr (3, [.ref k50, .int c51])), (k44, .inl (cI, 60, .inl c44)), (k50, .inl (cI, 36, .inl c50)), (k, .inr (9, [.ref k0, .ref k1, .ref k2, .ref k3, .ref k4, .ref k5, .int c6, .int c7, .int c8])), (k1, .inl (cI, 40, .inl c1)), (k4, .inr (8, [.ref k40, .ref k41, .ref k42, .ref k43, .ref k44, .ref k45, .ref k46, .ref k47, .ref k48, .int c49])), (k40, .inl (cI, 60, .inl c40)), (k41, .inl (cI, 60, .inl c41)), (k42, .inl (cI, 60, .inl c42)), (k43, .inl (cI, 60, .inl c43)), (k45, .inl (cI, 60, .inl sc45_3)), (k46, .inl (cI, 40, .inl sc46_4)), (k47, .inl (cI, 40, .inl sc47_5)), (k48, .inl (cI, 40, .inl sc48_6))] H := hP
  replace hD : va_D A [(k0, .inl (cI, 12, .inl c0)), (k2, .inl (cI, 40, .inl c2)), (k5, .inr (3, [.ref k50, .int c51])), (k44, .inl (cI, 60, .inl c44)), (k50, .inl (cI, 36, .inl c50)), (k, .inr (9, [.ref k0, .ref k1, .ref k2, .ref k3, .ref k4, .ref k5, .int c6, .int c7, .int c8])), (k1, .inl (cI, 40, .inl c1)), (k4, .inr (8, [.ref k40, .ref k41, .ref k42, .ref k43, .ref k44, .ref k45, .ref k46, .ref k47, .ref k48, .int c49])), (k40, .inl (cI, 60, .inl c40)), (k41, .inl (cI, 60, .inl c41)), (k42, .inl (cI, 60, .inl c42)), (k43, .inl (cI, 60, .inl c43)), (k45, .inl (cI, 60, .inl sc45_3)), (k46, .inl (cI, 40, .inl sc46_4)), (k47, .inl (cI, 40, .inl sc47_5)), (k48, .inl (cI, 40, .inl sc48_6))] := hD
  refine lv_iconst (v := 0) hx hb dX9_endDay_4 (by decide) ?_
  refine lv_istore_n (lv' := [(1, .int 0), (0, .ref k)]) hx hb dX9_endDay_5 rfl hl (by decide) rfl ?_
  clear hl
  intro ls hl
  have hloop_6 : ∀ (fu_ : Nat) (l6_1 : Int32) (g6_k44 : Nat → Int32) (g6_k50 : Nat → Int32), 0 ≤ l6_1.toInt → (c51.toInt - l6_1.toInt).toNat < fu_ → ∀ (ls : Array Slot) (H : Heap) (locs : List Loc), lv_has ls 2 [(1, .int l6_1), (0, .ref k)] → va_P D vwCl [(k0, .inl (cI, 12, .inl c0)), (k2, .inl (cI, 40, .inl c2)), (k5, .inr (3, [.ref k50, .int c51])), (k44, .inl (cI, 60, .inl g6_k44)), (k50, .inl (cI, 36, .inl g6_k50)), (k, .inr (9, [.ref k0, .ref k1, .ref k2, .ref k3, .ref k4, .ref k5, .int c6, .int c7, .int c8])), (k1, .inl (cI, 40, .inl c1)), (k4, .inr (8, [.ref k40, .ref k41, .ref k42, .ref k43, .ref k44, .ref k45, .ref k46, .ref k47, .ref k48, .int c49])), (k40, .inl (cI, 60, .inl c40)), (k41, .inl (cI, 60, .inl c41)), (k42, .inl (cI, 60, .inl c42)), (k43, .inl (cI, 60, .inl c43)), (k45, .inl (cI, 60, .inl sc45_3)), (k46, .inl (cI, 40, .inl sc46_4)), (k47, .inl (cI, 40, .inl sc47_5)), (k48, .inl (cI, 40, .inl sc48_6))] H → va_D A [(k0, .inl (cI, 12, .inl c0)), (k2, .inl (cI, 40, .inl c2)), (k5, .inr (3, [.ref k50, .int c51])), (k44, .inl (cI, 60, .inl g6_k44)), (k50, .inl (cI, 36, .inl g6_k50)), (k, .inr (9, [.ref k0, .ref k1, .ref k2, .ref k3, .ref k4, .ref k5, .int c6, .int c7, .int c8])), (k1, .inl (cI, 40, .inl c1)), (k4, .inr (8, [.ref k40, .ref k41, .ref k42, .ref k43, .ref k44, .ref k45, .ref k46, .ref k47, .ref k48, .int c49])), (k40, .inl (cI, 60, .inl c40)), (k41, .inl (cI, 60, .inl c41)), (k42, .inl (cI, 60, .inl c42)), (k43, .inl (cI, 60, .inl c43)), (k45, .inl (cI, 60, .inl sc45_3)), (k46, .inl (cI, 40, .inl sc46_4)), (k47, .inl (cI, 40, .inl sc47_5)), (k48, .inl (cI, 40, .inl sc48_6))] → va_S A s.heap H locs → W p l e ({ frames := 6, cells := 0, slots := 0, locals := 135 } : Room) s m args below meth c H locs 0 0 Q (F0 m 6 ls []) := by
    intro fu_; induction fu_ with
    | zero => intro l6_1 g6_k44 g6_k50 i6_0 hm; exact absurd hm (by omega)
    | succ fu_ ih6 =>
        intro l6_1 g6_k44 g6_k50 i6_0 hm ls H locs hl hP hD hS
        have lo_l6_1 := k_lo l6_1
        have hi_l6_1 := k_hi l6_1
        refine lv_iload_n hx hb dX9_endDay_6 rfl (lv_at hl 0 rfl) ?_
        refine lv_aload_n hx hb dX9_endDay_7 rfl (lv_at hl 1 rfl) ?_
        refine va_get (D := D) (ci := 9) (v := .ref k5) (C := RX9) (T := TX9) (N := 9) hx hb hT giX9 hown hK hP 5 rfl rfl 5 (by decide) (hT (Cond.fieldLink RX9 34 "DesertWire$World" "parties" "LDesertWire$Parties;") mw_100) (fun _ h9 => h9) rfl dX9_endDay_8 ?_
        refine va_get (D := D) (ci := 3) (v := .int c51) (C := RX3) (T := TX3) (N := 2) hx hb hT giX3 hown hK hP 2 rfl rfl 1 (by decide) (hT (Cond.fieldLink RX9 119 "DesertWire$Parties" "number" "I") mw_82) (fun _ h9 => h9) rfl dX9_endDay_11 ?_
        refine b_icmp_ge hx hb rfl rfl (tgt := 44) dX9_endDay_14 (by decide) (fun c_8 => ?_) (fun c_8 => ?_)
        · refine lv_iconst (v := 0) hx hb dX9_endDay_44 (by decide) ?_
          refine lv_istore_n (lv' := [(1, .int 0), (0, .ref k)]) hx hb dX9_endDay_45 rfl hl (by decide) rfl ?_
          clear hl
          intro ls hl
          have hloop_46 : ∀ (fu_ : Nat) (l46_1 : Int32) (f46_k49 : Int32) (g46_k40 : Nat → Int32) (g46_k41 : Nat → Int32) (g46_k42 : Nat → Int32) (g46_k43 : Nat → Int32) (g46_k44 : Nat → Int32) (g46_k45 : Nat → Int32) (g46_k46 : Nat → Int32) (g46_k47 : Nat → Int32) (g46_k48 : Nat → Int32) (g46_k50 : Nat → Int32), 0 ≤ l46_1.toInt → (c51.toInt - l46_1.toInt).toNat < fu_ → ∀ (ls : Array Slot) (H : Heap) (locs : List Loc), lv_has ls 2 [(1, .int l46_1), (0, .ref k)] → va_P D vwCl [(k0, .inl (cI, 12, .inl c0)), (k2, .inl (cI, 40, .inl c2)), (k5, .inr (3, [.ref k50, .int c51])), (k44, .inl (cI, 60, .inl g46_k44)), (k50, .inl (cI, 36, .inl g46_k50)), (k, .inr (9, [.ref k0, .ref k1, .ref k2, .ref k3, .ref k4, .ref k5, .int c6, .int c7, .int c8])), (k1, .inl (cI, 40, .inl c1)), (k4, .inr (8, [.ref k40, .ref k41, .ref k42, .ref k43, .ref k44, .ref k45, .ref k46, .ref k47, .ref k48, .int f46_k49])), (k40, .inl (cI, 60, .inl g46_k40)), (k41, .inl (cI, 60, .inl g46_k41)), (k42, .inl (cI, 60, .inl g46_k42)), (k43, .inl (cI, 60, .inl g46_k43)), (k45, .inl (cI, 60, .inl g46_k45)), (k46, .inl (cI, 40, .inl g46_k46)), (k47, .inl (cI, 40, .inl g46_k47)), (k48, .inl (cI, 40, .inl g46_k48))] H → va_D A [(k0, .inl (cI, 12, .inl c0)), (k2, .inl (cI, 40, .inl c2)), (k5, .inr (3, [.ref k50, .int c51])), (k44, .inl (cI, 60, .inl g46_k44)), (k50, .inl (cI, 36, .inl g46_k50)), (k, .inr (9, [.ref k0, .ref k1, .ref k2, .ref k3, .ref k4, .ref k5, .int c6, .int c7, .int c8])), (k1, .inl (cI, 40, .inl c1)), (k4, .inr (8, [.ref k40, .ref k41, .ref k42, .ref k43, .ref k44, .ref k45, .ref k46, .ref k47, .ref k48, .int f46_k49])), (k40, .inl (cI, 60, .inl g46_k40)), (k41, .inl (cI, 60, .inl g46_k41)), (k42, .inl (cI, 60, .inl g46_k42)), (k43, .inl (cI, 60, .inl g46_k43)), (k45, .inl (cI, 60, .inl g46_k45)), (k46, .inl (cI, 40, .inl g46_k46)), (k47, .inl (cI, 40, .inl g46_k47)), (k48, .inl (cI, 40, .inl g46_k48))] → va_S A s.heap H locs → W p l e ({ frames := 6, cells := 0, slots := 0, locals := 135 } : Room) s m args below meth c H locs 0 0 Q (F0 m 46 ls []) := by
            intro fu_; induction fu_ with
            | zero => intro l46_1 f46_k49 g46_k40 g46_k41 g46_k42 g46_k43 g46_k44 g46_k45 g46_k46 g46_k47 g46_k48 g46_k50 i46_0 hm; exact absurd hm (by omega)
            | succ fu_ ih46 =>
                intro l46_1 f46_k49 g46_k40 g46_k41 g46_k42 g46_k43 g46_k44 g46_k45 g46_k46 g46_k47 g46_k48 g46_k50 i46_0 hm ls H locs hl hP hD hS
                have lo_l46_1 := k_lo l46_1
                have hi_l46_1 := k_hi l46_1
                have lo_f46_k49 := k_lo f46_k49
                have hi_f46_k49 := k_hi f46_k49
                refine lv_iload_n hx hb dX9_endDay_46 rfl (lv_at hl 0 rfl) ?_
                refine lv_aload_n hx hb dX9_endDay_47 rfl (lv_at hl 1 rfl) ?_
                refine va_get (D := D) (ci := 9) (v := .ref k5) (C := RX9) (T := TX9) (N := 9) hx hb hT giX9 hown hK hP 5 rfl rfl 5 (by decide) (hT (Cond.fieldLink RX9 34 "DesertWire$World" "parties" "LDesertWire$Parties;") mw_100) (fun _ h9 => h9) rfl dX9_endDay_48 ?_
                refine va_get (D := D) (ci := 3) (v := .int c51) (C := RX3) (T := TX3) (N := 2) hx hb hT giX3 hown hK hP 2 rfl rfl 1 (by decide) (hT (Cond.fieldLink RX9 119 "DesertWire$Parties" "number" "I") mw_82) (fun _ h9 => h9) rfl dX9_endDay_51 ?_
                refine b_icmp_ge hx hb rfl rfl (tgt := 81) dX9_endDay_54 (by decide) (fun c_9 => ?_) (fun c_9 => ?_)
                · refine lv_aload_n hx hb dX9_endDay_81 rfl (lv_at hl 1 rfl) ?_
                  refine lv_dup hx hb dX9_endDay_82 rfl ?_
                  refine va_get (D := D) (ci := 9) (v := .int c8) (C := RX9) (T := TX9) (N := 9) hx hb hT giX9 hown hK hP 5 rfl rfl 8 (by decide) (hT (Cond.fieldLink RX9 45 "DesertWire$World" "day" "I") mw_108) (fun _ h9 => h9) rfl dX9_endDay_83 ?_
                  refine lv_iconst (v := 1) hx hb dX9_endDay_86 (by decide) ?_
                  refine lv_iadd hx hb dX9_endDay_87 ?_
                  refine lv_topi (fun v_10 ev_10 => ?_)
                  have lo_v_10 := k_lo v_10
                  have hi_v_10 := k_hi v_10
                  refine va_put (D := D) (ci := 9) (v := .int v_10) (ty := .int) (C := RX9) (T := TX9) (N := 9) hx hb hT giX9 tyX9 tyX9_ok nmX9 hown hK hP hD hS 5 rfl rfl 8 (by decide) (hT (Cond.fieldLink RX9 45 "DesertWire$World" "day" "I") mw_108) (fun _ h9 => h9) rfl (by decide +kernel) rfl rfl (Nat.le_of_ble_eq_true rfl) dX9_endDay_88 ?_
                  clear hP hD hS
                  intro H locs hP hD hS
                  replace hP : va_P D vwCl [(k0, .inl (cI, 12, .inl c0)), (k2, .inl (cI, 40, .inl c2)), (k5, .inr (3, [.ref k50, .int c51])), (k44, .inl (cI, 60, .inl g46_k44)), (k50, .inl (cI, 36, .inl g46_k50)), (k, .inr (9, [.ref k0, .ref k1, .ref k2, .ref k3, .ref k4, .ref k5, .int c6, .int c7, .int v_10])), (k1, .inl (cI, 40, .inl c1)), (k4, .inr (8, [.ref k40, .ref k41, .ref k42, .ref k43, .ref k44, .ref k45, .ref k46, .ref k47, .ref k48, .int f46_k49])), (k40, .inl (cI, 60, .inl g46_k40)), (k41, .inl (cI, 60, .inl g46_k41)), (k42, .inl (cI, 60, .inl g46_k42)), (k43, .inl (cI, 60, .inl g46_k43)), (k45, .inl (cI, 60, .inl g46_k45)), (k46, .inl (cI, 40, .inl g46_k46)), (k47, .inl (cI, 40, .inl g46_k47)), (k48, .inl (cI, 40, .inl g46_k48))] H := hP
                  replace hD : va_D A [(k0, .inl (cI, 12, .inl c0)), (k2, .inl (cI, 40, .inl c2)), (k5, .inr (3, [.ref k50, .int c51])), (k44, .inl (cI, 60, .inl g46_k44)), (k50, .inl (cI, 36, .inl g46_k50)), (k, .inr (9, [.ref k0, .ref k1, .ref k2, .ref k3, .ref k4, .ref k5, .int c6, .int c7, .int v_10])), (k1, .inl (cI, 40, .inl c1)), (k4, .inr (8, [.ref k40, .ref k41, .ref k42, .ref k43, .ref k44, .ref k45, .ref k46, .ref k47, .ref k48, .int f46_k49])), (k40, .inl (cI, 60, .inl g46_k40)), (k41, .inl (cI, 60, .inl g46_k41)), (k42, .inl (cI, 60, .inl g46_k42)), (k43, .inl (cI, 60, .inl g46_k43)), (k45, .inl (cI, 60, .inl g46_k45)), (k46, .inl (cI, 40, .inl g46_k46)), (k47, .inl (cI, 40, .inl g46_k47)), (k48, .inl (cI, 40, .inl g46_k48))] := hD
                  exact hRet (v_10, f46_k49, g46_k40, g46_k41, g46_k42, g46_k43, g46_k44, g46_k45, g46_k46, g46_k47, g46_k48, g46_k50) [5, 0, 6, 1, 7, 2, 8, 9, 10, 11, 3, 12, 13, 14, 15, 4] ev_10 hP hD (by decide) rfl hS dX9_endDay_91
                · refine lv_aload_n hx hb dX9_endDay_57 rfl (lv_at hl 1 rfl) ?_
                  refine va_get (D := D) (ci := 9) (v := .ref k5) (C := RX9) (T := TX9) (N := 9) hx hb hT giX9 hown hK hP 5 rfl rfl 5 (by decide) (hT (Cond.fieldLink RX9 34 "DesertWire$World" "parties" "LDesertWire$Parties;") mw_100) (fun _ h9 => h9) rfl dX9_endDay_58 ?_
                  refine lv_iload_n hx hb dX9_endDay_61 rfl (lv_at hl 0 rfl) ?_
                  refine lv_bipush (v := 8) hx hb dX9_endDay_62 (by decide) ?_
                  refine kJi (wr := [(k0, .inl (cI, 12, .inl c0)), (k2, .inl (cI, 40, .inl c2)), (k44, .inl (cI, 60, .inl g46_k44)), (k, .inr (9, [.ref k0, .ref k1, .ref k2, .ref k3, .ref k4, .ref k5, .int c6, .int c7, .int c8])), (k1, .inl (cI, 40, .inl c1)), (k4, .inr (8, [.ref k40, .ref k41, .ref k42, .ref k43, .ref k44, .ref k45, .ref k46, .ref k47, .ref k48, .int f46_k49])), (k40, .inl (cI, 60, .inl g46_k40)), (k41, .inl (cI, 60, .inl g46_k41)), (k42, .inl (cI, 60, .inl g46_k42)), (k43, .inl (cI, 60, .inl g46_k43)), (k45, .inl (cI, 60, .inl g46_k45)), (k46, .inl (cI, 40, .inl g46_k46)), (k47, .inl (cI, 40, .inl g46_k47)), (k48, .inl (cI, 40, .inl g46_k48))]) (va_runV (As := [.int l46_1, .int 8]) (rest := []) ⟨hx, hb, hml, hown, hT⟩ (c_X3_getG l D cI aK aV k5 k50 H.size c51 g46_k50 l46_1 8) (cwV 2 hT (gV_in mw_726 mw_978 mw_724 mw_725 mw_4) rfl rfl rfl (by decide +kernel) ⟨Nat.le_of_ble_eq_true rfl, Nat.le_of_ble_eq_true rfl⟩) (kRecvX (q0 := 2) (ci := 3) hK hP hD hN hXS hS hA rfl rfl [2, 4] rfl (by decide)) rfl rfl hl.1 rfl (lv_room (Nat.le_of_ble_eq_true rfl)) dX9_endDay_64 ⟨Nat.le_of_ble_eq_true rfl, Nat.le_of_ble_eq_true rfl⟩) hP hD hS hA [2, 4] [0, 1, 3, 5, 6, 7, 8, 9, 10, 11, 12, 13, 14, 15] rfl rfl (by decide) (by decide) ?_
                  clear hP hD hS
                  intro r_11 u_13 H locs w_12 hP hD hS
                  replace hP : va_P D vwCl [(k0, .inl (cI, 12, .inl c0)), (k2, .inl (cI, 40, .inl c2)), (k44, .inl (cI, 60, .inl g46_k44)), (k, .inr (9, [.ref k0, .ref k1, .ref k2, .ref k3, .ref k4, .ref k5, .int c6, .int c7, .int c8])), (k1, .inl (cI, 40, .inl c1)), (k4, .inr (8, [.ref k40, .ref k41, .ref k42, .ref k43, .ref k44, .ref k45, .ref k46, .ref k47, .ref k48, .int f46_k49])), (k40, .inl (cI, 60, .inl g46_k40)), (k41, .inl (cI, 60, .inl g46_k41)), (k42, .inl (cI, 60, .inl g46_k42)), (k43, .inl (cI, 60, .inl g46_k43)), (k45, .inl (cI, 60, .inl g46_k45)), (k46, .inl (cI, 40, .inl g46_k46)), (k47, .inl (cI, 40, .inl g46_k47)), (k48, .inl (cI, 40, .inl g46_k48)), (k5, .inr (3, [.ref k50, .int c51])), (k50, .inl (cI, 36, .inl g46_k50))] H := hP
                  replace hD : va_D A [(k0, .inl (cI, 12, .inl c0)), (k2, .inl (cI, 40, .inl c2)), (k44, .inl (cI, 60, .inl g46_k44)), (k, .inr (9, [.ref k0, .ref k1, .ref k2, .ref k3, .ref k4, .ref k5, .int c6, .int c7, .int c8])), (k1, .inl (cI, 40, .inl c1)), (k4, .inr (8, [.ref k40, .ref k41, .ref k42, .ref k43, .ref k44, .ref k45, .ref k46, .ref k47, .ref k48, .int f46_k49])), (k40, .inl (cI, 60, .inl g46_k40)), (k41, .inl (cI, 60, .inl g46_k41)), (k42, .inl (cI, 60, .inl g46_k42)), (k43, .inl (cI, 60, .inl g46_k43)), (k45, .inl (cI, 60, .inl g46_k45)), (k46, .inl (cI, 40, .inl g46_k46)), (k47, .inl (cI, 40, .inl g46_k47)), (k48, .inl (cI, 40, .inl g46_k48)), (k5, .inr (3, [.ref k50, .int c51])), (k50, .inl (cI, 36, .inl g46_k50))] := hD
                  have lo_r_11 := k_lo r_11
                  have hi_r_11 := k_hi r_11
                  refine b_if_ne hx hb rfl (tgt := 75) dX9_endDay_67 (by decide) (fun c_14 => ?_) (fun c_14 => ?_)
                  · obtain ⟨v_15, ev_15⟩ : ∃ y : Int32, y = l46_1 + 1 := ⟨_, rfl⟩
                    have tv_15 : v_15.toInt = l46_1.toInt + 1 := by rw [ev_15]; exact k_addv rfl zl_1 (by omega) (by omega)
                    refine lv_iinc (v := v_15) (lv' := [(1, .int v_15), (0, .ref k)]) hx hb dX9_endDay_75 hl (k := 0) rfl (by rw [ev_15]; rfl) (by decide) rfl ?_
                    clear hl
                    intro ls hl
                    refine lv_goto (tgt := 46) hx hb dX9_endDay_78 (by decide) ?_
                    exact ih46 v_15 f46_k49 g46_k40 g46_k41 g46_k42 g46_k43 g46_k44 g46_k45 g46_k46 g46_k47 g46_k48 g46_k50 (by first | omega | decide | assumption | rfl) (by omega) ls _ _ (lv_sub hl [0, 1] rfl) (hP.sub [0, 1, 14, 2, 15, 3, 4, 5, 6, 7, 8, 9, 10, 11, 12, 13] rfl) (hD.sub [0, 1, 14, 2, 15, 3, 4, 5, 6, 7, 8, 9, 10, 11, 12, 13] (by decide) rfl) hS
                  · refine lv_aload_n hx hb dX9_endDay_70 rfl (lv_at hl 1 rfl) ?_
                    refine lv_iload_n hx hb dX9_endDay_71 rfl (lv_at hl 0 rfl) ?_
                    refine kJv (wr := [(k2, .inl (cI, 40, .inl c2))]) (va_runV (As := [.int l46_1]) (rest := []) ⟨hx, hb, hml, hown, hT⟩ (c_X9_labourG l D cI aK aV k k0 k1 k2 k3 k4 k5 k40 k41 k42 k43 k44 k45 k46 k47 k48 k50 H.size c6 c7 c8 c0 c1 f46_k49 c51 g46_k40 g46_k41 g46_k42 g46_k43 g46_k44 g46_k45 g46_k46 g46_k47 g46_k48 g46_k50 l46_1) (cwV 1 hT (gV_in mw_995 mw_992 mw_994 mw_p3_3 mw_2) rfl rfl rfl (by decide +kernel) ⟨Nat.le_of_ble_eq_true rfl, Nat.le_of_ble_eq_true rfl⟩) (kRecvX (q0 := 3) (ci := 9) hK hP hD hN hXS hS hA rfl rfl [3, 0, 4, 5, 14, 6, 7, 8, 9, 2, 10, 11, 12, 13, 15] rfl (by decide)) rfl rfl hl.1 rfl (lv_room (Nat.le_of_ble_eq_true rfl)) dX9_endDay_72 ⟨Nat.le_of_ble_eq_true rfl, Nat.le_of_ble_eq_true rfl⟩) hP hD hS hA [3, 0, 4, 5, 14, 6, 7, 8, 9, 2, 10, 11, 12, 13, 15] [1] rfl rfl (by decide) (by decide) ?_
                    clear hP hD hS
                    intro u_29 H locs w_17 hP hD hS
                    obtain ⟨sc49_18, sc40_19, sc41_20, sc42_21, sc43_22, sc44_23, sc45_24, sc46_25, sc47_26, sc48_27, sc50_28⟩ := u_29
                    replace hP : va_P D vwCl [(k2, .inl (cI, 40, .inl c2)), (k, .inr (9, [.ref k0, .ref k1, .ref k2, .ref k3, .ref k4, .ref k5, .int c6, .int c7, .int c8])), (k0, .inl (cI, 12, .inl c0)), (k1, .inl (cI, 40, .inl c1)), (k4, .inr (8, [.ref k40, .ref k41, .ref k42, .ref k43, .ref k44, .ref k45, .ref k46, .ref k47, .ref k48, .int sc49_18])), (k5, .inr (3, [.ref k50, .int c51])), (k40, .inl (cI, 60, .inl sc40_19)), (k41, .inl (cI, 60, .inl sc41_20)), (k42, .inl (cI, 60, .inl sc42_21)), (k43, .inl (cI, 60, .inl sc43_22)), (k44, .inl (cI, 60, .inl sc44_23)), (k45, .inl (cI, 60, .inl sc45_24)), (k46, .inl (cI, 40, .inl sc46_25)), (k47, .inl (cI, 40, .inl sc47_26)), (k48, .inl (cI, 40, .inl sc48_27)), (k50, .inl (cI, 36, .inl sc50_28))] H := hP
                    replace hD : va_D A [(k2, .inl (cI, 40, .inl c2)), (k, .inr (9, [.ref k0, .ref k1, .ref k2, .ref k3, .ref k4, .ref k5, .int c6, .int c7, .int c8])), (k0, .inl (cI, 12, .inl c0)), (k1, .inl (cI, 40, .inl c1)), (k4, .inr (8, [.ref k40, .ref k41, .ref k42, .ref k43, .ref k44, .ref k45, .ref k46, .ref k47, .ref k48, .int sc49_18])), (k5, .inr (3, [.ref k50, .int c51])), (k40, .inl (cI, 60, .inl sc40_19)), (k41, .inl (cI, 60, .inl sc41_20)), (k42, .inl (cI, 60, .inl sc42_21)), (k43, .inl (cI, 60, .inl sc43_22)), (k44, .inl (cI, 60, .inl sc44_23)), (k45, .inl (cI, 60, .inl sc45_24)), (k46, .inl (cI, 40, .inl sc46_25)), (k47, .inl (cI, 40, .inl sc47_26)), (k48, .inl (cI, 40, .inl sc48_27)), (k50, .inl (cI, 36, .inl sc50_28))] := hD
                    obtain ⟨v_30, ev_30⟩ : ∃ y : Int32, y = l46_1 + 1 := ⟨_, rfl⟩
                    have tv_30 : v_30.toInt = l46_1.toInt + 1 := by rw [ev_30]; exact k_addv rfl zl_1 (by omega) (by omega)
                    refine lv_iinc (v := v_30) (lv' := [(1, .int v_30), (0, .ref k)]) hx hb dX9_endDay_75 hl (k := 0) rfl (by rw [ev_30]; rfl) (by decide) rfl ?_
                    clear hl
                    intro ls hl
                    refine lv_goto (tgt := 46) hx hb dX9_endDay_78 (by decide) ?_
                    exact ih46 v_30 sc49_18 sc40_19 sc41_20 sc42_21 sc43_22 sc44_23 sc45_24 sc46_25 sc47_26 sc48_27 sc50_28 (by first | omega | decide | assumption | rfl) (by omega) ls _ _ (lv_sub hl [0, 1] rfl) (hP.sub [2, 0, 5, 10, 15, 1, 3, 4, 6, 7, 8, 9, 11, 12, 13, 14] rfl) (hD.sub [2, 0, 5, 10, 15, 1, 3, 4, 6, 7, 8, 9, 11, 12, 13, 14] (by decide) rfl) hS
          exact hloop_46 _ 0 c49 c40 c41 c42 c43 g6_k44 sc45_3 sc46_4 sc47_5 sc48_6 g6_k50 (by first | omega | (simp only [zl_0]; first | done | omega) | decide | assumption | rfl) (Nat.lt_succ_self _) ls _ _ (lv_sub hl [0, 1] rfl) hP hD hS
        · refine lv_aload_n hx hb dX9_endDay_17 rfl (lv_at hl 1 rfl) ?_
          refine va_get (D := D) (ci := 9) (v := .ref k5) (C := RX9) (T := TX9) (N := 9) hx hb hT giX9 hown hK hP 5 rfl rfl 5 (by decide) (hT (Cond.fieldLink RX9 34 "DesertWire$World" "parties" "LDesertWire$Parties;") mw_100) (fun _ h9 => h9) rfl dX9_endDay_18 ?_
          refine lv_iload_n hx hb dX9_endDay_21 rfl (lv_at hl 0 rfl) ?_
          refine kJi (wr := [(k0, .inl (cI, 12, .inl c0)), (k2, .inl (cI, 40, .inl c2)), (k44, .inl (cI, 60, .inl g6_k44)), (k, .inr (9, [.ref k0, .ref k1, .ref k2, .ref k3, .ref k4, .ref k5, .int c6, .int c7, .int c8])), (k1, .inl (cI, 40, .inl c1)), (k4, .inr (8, [.ref k40, .ref k41, .ref k42, .ref k43, .ref k44, .ref k45, .ref k46, .ref k47, .ref k48, .int c49])), (k40, .inl (cI, 60, .inl c40)), (k41, .inl (cI, 60, .inl c41)), (k42, .inl (cI, 60, .inl c42)), (k43, .inl (cI, 60, .inl c43)), (k45, .inl (cI, 60, .inl sc45_3)), (k46, .inl (cI, 40, .inl sc46_4)), (k47, .inl (cI, 40, .inl sc47_5)), (k48, .inl (cI, 40, .inl sc48_6))]) (va_runV (As := [.int l6_1]) (rest := []) ⟨hx, hb, hml, hown, hT⟩ (c_X3_isLostG l D cI aK aV k5 k50 H.size c51 g6_k50 l6_1) (cwV 1 hT (gV_in mw_734 mw_973 mw_732 mw_733 mw_4) rfl rfl rfl (by decide +kernel) ⟨Nat.le_of_ble_eq_true rfl, Nat.le_of_ble_eq_true rfl⟩) (kRecvX (q0 := 2) (ci := 3) hK hP hD hN hXS hS hA rfl rfl [2, 4] rfl (by decide)) rfl rfl hl.1 rfl (lv_room (Nat.le_of_ble_eq_true rfl)) dX9_endDay_22 ⟨Nat.le_of_ble_eq_true rfl, Nat.le_of_ble_eq_true rfl⟩) hP hD hS hA [2, 4] [0, 1, 3, 5, 6, 7, 8, 9, 10, 11, 12, 13, 14, 15] rfl rfl (by decide) (by decide) ?_
          clear hP hD hS
          intro r_31 u_33 H locs w_32 hP hD hS
          replace hP : va_P D vwCl [(k0, .inl (cI, 12, .inl c0)), (k2, .inl (cI, 40, .inl c2)), (k44, .inl (cI, 60, .inl g6_k44)), (k, .inr (9, [.ref k0, .ref k1, .ref k2, .ref k3, .ref k4, .ref k5, .int c6, .int c7, .int c8])), (k1, .inl (cI, 40, .inl c1)), (k4, .inr (8, [.ref k40, .ref k41, .ref k42, .ref k43, .ref k44, .ref k45, .ref k46, .ref k47, .ref k48, .int c49])), (k40, .inl (cI, 60, .inl c40)), (k41, .inl (cI, 60, .inl c41)), (k42, .inl (cI, 60, .inl c42)), (k43, .inl (cI, 60, .inl c43)), (k45, .inl (cI, 60, .inl sc45_3)), (k46, .inl (cI, 40, .inl sc46_4)), (k47, .inl (cI, 40, .inl sc47_5)), (k48, .inl (cI, 40, .inl sc48_6)), (k5, .inr (3, [.ref k50, .int c51])), (k50, .inl (cI, 36, .inl g6_k50))] H := hP
          replace hD : va_D A [(k0, .inl (cI, 12, .inl c0)), (k2, .inl (cI, 40, .inl c2)), (k44, .inl (cI, 60, .inl g6_k44)), (k, .inr (9, [.ref k0, .ref k1, .ref k2, .ref k3, .ref k4, .ref k5, .int c6, .int c7, .int c8])), (k1, .inl (cI, 40, .inl c1)), (k4, .inr (8, [.ref k40, .ref k41, .ref k42, .ref k43, .ref k44, .ref k45, .ref k46, .ref k47, .ref k48, .int c49])), (k40, .inl (cI, 60, .inl c40)), (k41, .inl (cI, 60, .inl c41)), (k42, .inl (cI, 60, .inl c42)), (k43, .inl (cI, 60, .inl c43)), (k45, .inl (cI, 60, .inl sc45_3)), (k46, .inl (cI, 40, .inl sc46_4)), (k47, .inl (cI, 40, .inl sc47_5)), (k48, .inl (cI, 40, .inl sc48_6)), (k5, .inr (3, [.ref k50, .int c51])), (k50, .inl (cI, 36, .inl g6_k50))] := hD
          have lo_r_31 := k_lo r_31
          have hi_r_31 := k_hi r_31
          refine b_if_ne hx hb rfl (tgt := 38) dX9_endDay_25 (by decide) (fun c_34 => ?_) (fun c_34 => ?_)
          · obtain ⟨v_35, ev_35⟩ : ∃ y : Int32, y = l6_1 + 1 := ⟨_, rfl⟩
            have tv_35 : v_35.toInt = l6_1.toInt + 1 := by rw [ev_35]; exact k_addv rfl zl_1 (by omega) (by omega)
            refine lv_iinc (v := v_35) (lv' := [(1, .int v_35), (0, .ref k)]) hx hb dX9_endDay_38 hl (k := 0) rfl (by rw [ev_35]; rfl) (by decide) rfl ?_
            clear hl
            intro ls hl
            refine lv_goto (tgt := 6) hx hb dX9_endDay_41 (by decide) ?_
            exact ih6 v_35 g6_k44 g6_k50 (by first | omega | decide | assumption | rfl) (by omega) ls _ _ (lv_sub hl [0, 1] rfl) (hP.sub [0, 1, 14, 2, 15, 3, 4, 5, 6, 7, 8, 9, 10, 11, 12, 13] rfl) (hD.sub [0, 1, 14, 2, 15, 3, 4, 5, 6, 7, 8, 9, 10, 11, 12, 13] (by decide) rfl) hS
          · refine lv_aload_n hx hb dX9_endDay_28 rfl (lv_at hl 1 rfl) ?_
            refine lv_iload_n hx hb dX9_endDay_29 rfl (lv_at hl 0 rfl) ?_
            refine kJv (wr := [(k0, .inl (cI, 12, .inl c0)), (k44, .inl (cI, 60, .inl g6_k44)), (k1, .inl (cI, 40, .inl c1)), (k40, .inl (cI, 60, .inl c40)), (k41, .inl (cI, 60, .inl c41)), (k42, .inl (cI, 60, .inl c42)), (k43, .inl (cI, 60, .inl c43)), (k45, .inl (cI, 60, .inl sc45_3)), (k46, .inl (cI, 40, .inl sc46_4)), (k48, .inl (cI, 40, .inl sc48_6))]) (va_runV (As := [.int l6_1]) (rest := []) ⟨hx, hb, hml, hown, hT⟩ (c_X9_drinkOfG l D cI aK aV k k0 k1 k2 k3 k4 k5 k40 k41 k42 k43 k44 k45 k46 k47 k48 k50 H.size c6 c7 c8 c2 c49 c51 sc47_5 g6_k50 l6_1) (cwV 1 hT (gV_in mw_977 mw_974 mw_976 mw_p3_1 mw_2) rfl rfl rfl (by decide +kernel) ⟨Nat.le_of_ble_eq_true rfl, Nat.le_of_ble_eq_true rfl⟩) (kRecvX (q0 := 3) (ci := 9) hK hP hD hN hXS hS hA rfl rfl [3, 1, 5, 14, 12, 15] rfl (by decide)) rfl rfl hl.1 rfl (lv_room (Nat.le_of_ble_eq_true rfl)) dX9_endDay_30 ⟨Nat.le_of_ble_eq_true rfl, Nat.le_of_ble_eq_true rfl⟩) hP hD hS hA [3, 1, 5, 14, 12, 15] [0, 2, 4, 6, 7, 8, 9, 10, 11, 13] rfl rfl (by decide) (by decide) ?_
            clear hP hD hS
            intro sc50_38 H locs w_37 hP hD hS
            replace hP : va_P D vwCl [(k0, .inl (cI, 12, .inl c0)), (k44, .inl (cI, 60, .inl g6_k44)), (k1, .inl (cI, 40, .inl c1)), (k40, .inl (cI, 60, .inl c40)), (k41, .inl (cI, 60, .inl c41)), (k42, .inl (cI, 60, .inl c42)), (k43, .inl (cI, 60, .inl c43)), (k45, .inl (cI, 60, .inl sc45_3)), (k46, .inl (cI, 40, .inl sc46_4)), (k48, .inl (cI, 40, .inl sc48_6)), (k, .inr (9, [.ref k0, .ref k1, .ref k2, .ref k3, .ref k4, .ref k5, .int c6, .int c7, .int c8])), (k2, .inl (cI, 40, .inl c2)), (k4, .inr (8, [.ref k40, .ref k41, .ref k42, .ref k43, .ref k44, .ref k45, .ref k46, .ref k47, .ref k48, .int c49])), (k5, .inr (3, [.ref k50, .int c51])), (k47, .inl (cI, 40, .inl sc47_5)), (k50, .inl (cI, 36, .inl sc50_38))] H := hP
            replace hD : va_D A [(k0, .inl (cI, 12, .inl c0)), (k44, .inl (cI, 60, .inl g6_k44)), (k1, .inl (cI, 40, .inl c1)), (k40, .inl (cI, 60, .inl c40)), (k41, .inl (cI, 60, .inl c41)), (k42, .inl (cI, 60, .inl c42)), (k43, .inl (cI, 60, .inl c43)), (k45, .inl (cI, 60, .inl sc45_3)), (k46, .inl (cI, 40, .inl sc46_4)), (k48, .inl (cI, 40, .inl sc48_6)), (k, .inr (9, [.ref k0, .ref k1, .ref k2, .ref k3, .ref k4, .ref k5, .int c6, .int c7, .int c8])), (k2, .inl (cI, 40, .inl c2)), (k4, .inr (8, [.ref k40, .ref k41, .ref k42, .ref k43, .ref k44, .ref k45, .ref k46, .ref k47, .ref k48, .int c49])), (k5, .inr (3, [.ref k50, .int c51])), (k47, .inl (cI, 40, .inl sc47_5)), (k50, .inl (cI, 36, .inl sc50_38))] := hD
            refine lv_aload_n hx hb dX9_endDay_33 rfl (lv_at hl 1 rfl) ?_
            refine lv_iload_n hx hb dX9_endDay_34 rfl (lv_at hl 0 rfl) ?_
            refine kJv (wr := [(k0, .inl (cI, 12, .inl c0)), (k1, .inl (cI, 40, .inl c1)), (k42, .inl (cI, 60, .inl c42)), (k43, .inl (cI, 60, .inl c43)), (k46, .inl (cI, 40, .inl sc46_4)), (k2, .inl (cI, 40, .inl c2)), (k47, .inl (cI, 40, .inl sc47_5))]) (va_runV (As := [.int l6_1]) (rest := []) ⟨hx, hb, hml, hown, hT⟩ (c_X9_eatOfG l D cI aK aV k k0 k1 k2 k3 k4 k5 k40 k41 k42 k43 k44 k45 k46 k47 k48 k50 H.size c6 c7 c8 c49 c51 c40 c41 g6_k44 sc45_3 sc48_6 sc50_38 l6_1) (cwV 1 hT (gV_in mw_986 mw_983 mw_985 mw_p3_2 mw_2) rfl rfl rfl (by decide +kernel) ⟨Nat.le_of_ble_eq_true rfl, Nat.le_of_ble_eq_true rfl⟩) (kRecvX (q0 := 10) (ci := 9) hK hP hD hN hXS hS hA rfl rfl [10, 12, 13, 3, 4, 1, 7, 9, 15] rfl (by decide)) rfl rfl hl.1 rfl (lv_room (Nat.le_of_ble_eq_true rfl)) dX9_endDay_35 ⟨Nat.le_of_ble_eq_true rfl, Nat.le_of_ble_eq_true rfl⟩) hP hD hS hA [10, 12, 13, 3, 4, 1, 7, 9, 15] [0, 2, 5, 6, 8, 11, 14] rfl rfl (by decide) (by decide) ?_
            clear hP hD hS
            intro u_43 H locs w_40 hP hD hS
            obtain ⟨sc44_41, sc50_42⟩ := u_43
            replace hP : va_P D vwCl [(k0, .inl (cI, 12, .inl c0)), (k1, .inl (cI, 40, .inl c1)), (k42, .inl (cI, 60, .inl c42)), (k43, .inl (cI, 60, .inl c43)), (k46, .inl (cI, 40, .inl sc46_4)), (k2, .inl (cI, 40, .inl c2)), (k47, .inl (cI, 40, .inl sc47_5)), (k, .inr (9, [.ref k0, .ref k1, .ref k2, .ref k3, .ref k4, .ref k5, .int c6, .int c7, .int c8])), (k4, .inr (8, [.ref k40, .ref k41, .ref k42, .ref k43, .ref k44, .ref k45, .ref k46, .ref k47, .ref k48, .int c49])), (k5, .inr (3, [.ref k50, .int c51])), (k40, .inl (cI, 60, .inl c40)), (k41, .inl (cI, 60, .inl c41)), (k44, .inl (cI, 60, .inl sc44_41)), (k45, .inl (cI, 60, .inl sc45_3)), (k48, .inl (cI, 40, .inl sc48_6)), (k50, .inl (cI, 36, .inl sc50_42))] H := hP
            replace hD : va_D A [(k0, .inl (cI, 12, .inl c0)), (k1, .inl (cI, 40, .inl c1)), (k42, .inl (cI, 60, .inl c42)), (k43, .inl (cI, 60, .inl c43)), (k46, .inl (cI, 40, .inl sc46_4)), (k2, .inl (cI, 40, .inl c2)), (k47, .inl (cI, 40, .inl sc47_5)), (k, .inr (9, [.ref k0, .ref k1, .ref k2, .ref k3, .ref k4, .ref k5, .int c6, .int c7, .int c8])), (k4, .inr (8, [.ref k40, .ref k41, .ref k42, .ref k43, .ref k44, .ref k45, .ref k46, .ref k47, .ref k48, .int c49])), (k5, .inr (3, [.ref k50, .int c51])), (k40, .inl (cI, 60, .inl c40)), (k41, .inl (cI, 60, .inl c41)), (k44, .inl (cI, 60, .inl sc44_41)), (k45, .inl (cI, 60, .inl sc45_3)), (k48, .inl (cI, 40, .inl sc48_6)), (k50, .inl (cI, 36, .inl sc50_42))] := hD
            obtain ⟨v_44, ev_44⟩ : ∃ y : Int32, y = l6_1 + 1 := ⟨_, rfl⟩
            have tv_44 : v_44.toInt = l6_1.toInt + 1 := by rw [ev_44]; exact k_addv rfl zl_1 (by omega) (by omega)
            refine lv_iinc (v := v_44) (lv' := [(1, .int v_44), (0, .ref k)]) hx hb dX9_endDay_38 hl (k := 0) rfl (by rw [ev_44]; rfl) (by decide) rfl ?_
            clear hl
            intro ls hl
            refine lv_goto (tgt := 6) hx hb dX9_endDay_41 (by decide) ?_
            exact ih6 v_44 sc44_41 sc50_42 (by first | omega | decide | assumption | rfl) (by omega) ls _ _ (lv_sub hl [0, 1] rfl) (hP.sub [0, 5, 9, 12, 15, 7, 1, 8, 10, 11, 2, 3, 13, 4, 6, 14] rfl) (hD.sub [0, 5, 9, 12, 15, 7, 1, 8, 10, 11, 2, 3, 13, 4, 6, 14] (by decide) rfl) hS
  exact hloop_6 _ 0 c44 c50 (by first | omega | (simp only [zl_0]; first | done | omega) | decide | assumption | rfl) (Nat.lt_succ_self _) ls _ _ (lv_sub hl [0, 1] rfl) hP hD hS
theorem dX9_copyFrom_0 : decode cX9_copyFrom 0 = .ok (.aload_n 1, 1) := by decide +kernel
theorem dX9_copyFrom_1 : decode cX9_copyFrom 1 = .ok (.getfield 9, 3) := by decide +kernel
theorem dX9_copyFrom_4 : decode cX9_copyFrom 4 = .ok (.iconst 0, 1) := by decide +kernel
theorem dX9_copyFrom_5 : decode cX9_copyFrom 5 = .ok (.aload_n 0, 1) := by decide +kernel
theorem dX9_copyFrom_6 : decode cX9_copyFrom 6 = .ok (.getfield 9, 3) := by decide +kernel
theorem dX9_copyFrom_9 : decode cX9_copyFrom 9 = .ok (.iconst 0, 1) := by decide +kernel
theorem dX9_copyFrom_10 : decode cX9_copyFrom 10 = .ok (.bipush 12, 2) := by decide +kernel
theorem dX9_copyFrom_12 : decode cX9_copyFrom 12 = .ok (.invokestatic 48, 3) := by decide +kernel
theorem dX9_copyFrom_15 : decode cX9_copyFrom 15 = .ok (.aload_n 1, 1) := by decide +kernel
theorem dX9_copyFrom_16 : decode cX9_copyFrom 16 = .ok (.getfield 15, 3) := by decide +kernel
theorem dX9_copyFrom_19 : decode cX9_copyFrom 19 = .ok (.iconst 0, 1) := by decide +kernel
theorem dX9_copyFrom_20 : decode cX9_copyFrom 20 = .ok (.aload_n 0, 1) := by decide +kernel
theorem dX9_copyFrom_21 : decode cX9_copyFrom 21 = .ok (.getfield 15, 3) := by decide +kernel
theorem dX9_copyFrom_24 : decode cX9_copyFrom 24 = .ok (.iconst 0, 1) := by decide +kernel
theorem dX9_copyFrom_25 : decode cX9_copyFrom 25 = .ok (.bipush 40, 2) := by decide +kernel
theorem dX9_copyFrom_27 : decode cX9_copyFrom 27 = .ok (.invokestatic 48, 3) := by decide +kernel
theorem dX9_copyFrom_30 : decode cX9_copyFrom 30 = .ok (.aload_n 1, 1) := by decide +kernel
theorem dX9_copyFrom_31 : decode cX9_copyFrom 31 = .ok (.getfield 18, 3) := by decide +kernel
theorem dX9_copyFrom_34 : decode cX9_copyFrom 34 = .ok (.iconst 0, 1) := by decide +kernel
theorem dX9_copyFrom_35 : decode cX9_copyFrom 35 = .ok (.aload_n 0, 1) := by decide +kernel
theorem dX9_copyFrom_36 : decode cX9_copyFrom 36 = .ok (.getfield 18, 3) := by decide +kernel
theorem dX9_copyFrom_39 : decode cX9_copyFrom 39 = .ok (.iconst 0, 1) := by decide +kernel
theorem dX9_copyFrom_40 : decode cX9_copyFrom 40 = .ok (.bipush 40, 2) := by decide +kernel
theorem dX9_copyFrom_42 : decode cX9_copyFrom 42 = .ok (.invokestatic 48, 3) := by decide +kernel
theorem dX9_copyFrom_45 : decode cX9_copyFrom 45 = .ok (.aload_n 1, 1) := by decide +kernel
theorem dX9_copyFrom_46 : decode cX9_copyFrom 46 = .ok (.getfield 21, 3) := by decide +kernel
theorem dX9_copyFrom_49 : decode cX9_copyFrom 49 = .ok (.iconst 0, 1) := by decide +kernel
theorem dX9_copyFrom_50 : decode cX9_copyFrom 50 = .ok (.aload_n 0, 1) := by decide +kernel
theorem dX9_copyFrom_51 : decode cX9_copyFrom 51 = .ok (.getfield 21, 3) := by decide +kernel
theorem dX9_copyFrom_54 : decode cX9_copyFrom 54 = .ok (.iconst 0, 1) := by decide +kernel
theorem dX9_copyFrom_55 : decode cX9_copyFrom 55 = .ok (.bipush 20, 2) := by decide +kernel
theorem dX9_copyFrom_57 : decode cX9_copyFrom 57 = .ok (.invokestatic 48, 3) := by decide +kernel
theorem dX9_copyFrom_60 : decode cX9_copyFrom 60 = .ok (.aload_n 0, 1) := by decide +kernel
theorem dX9_copyFrom_61 : decode cX9_copyFrom 61 = .ok (.getfield 27, 3) := by decide +kernel
theorem dX9_copyFrom_64 : decode cX9_copyFrom 64 = .ok (.aload_n 1, 1) := by decide +kernel
theorem dX9_copyFrom_65 : decode cX9_copyFrom 65 = .ok (.getfield 27, 3) := by decide +kernel
theorem dX9_copyFrom_68 : decode cX9_copyFrom 68 = .ok (.invokevirtual 54, 3) := by decide +kernel
theorem dX9_copyFrom_71 : decode cX9_copyFrom 71 = .ok (.aload_n 0, 1) := by decide +kernel
theorem dX9_copyFrom_72 : decode cX9_copyFrom 72 = .ok (.getfield 34, 3) := by decide +kernel
theorem dX9_copyFrom_75 : decode cX9_copyFrom 75 = .ok (.aload_n 1, 1) := by decide +kernel
theorem dX9_copyFrom_76 : decode cX9_copyFrom 76 = .ok (.getfield 34, 3) := by decide +kernel
theorem dX9_copyFrom_79 : decode cX9_copyFrom 79 = .ok (.invokevirtual 58, 3) := by decide +kernel
theorem dX9_copyFrom_82 : decode cX9_copyFrom 82 = .ok (.aload_n 0, 1) := by decide +kernel
theorem dX9_copyFrom_83 : decode cX9_copyFrom 83 = .ok (.aload_n 1, 1) := by decide +kernel
theorem dX9_copyFrom_84 : decode cX9_copyFrom 84 = .ok (.getfield 38, 3) := by decide +kernel
theorem dX9_copyFrom_87 : decode cX9_copyFrom 87 = .ok (.putfield 38, 3) := by decide +kernel
theorem dX9_copyFrom_90 : decode cX9_copyFrom 90 = .ok (.aload_n 0, 1) := by decide +kernel
theorem dX9_copyFrom_91 : decode cX9_copyFrom 91 = .ok (.aload_n 1, 1) := by decide +kernel
theorem dX9_copyFrom_92 : decode cX9_copyFrom 92 = .ok (.getfield 42, 3) := by decide +kernel
theorem dX9_copyFrom_95 : decode cX9_copyFrom 95 = .ok (.putfield 42, 3) := by decide +kernel
theorem dX9_copyFrom_98 : decode cX9_copyFrom 98 = .ok (.aload_n 0, 1) := by decide +kernel
theorem dX9_copyFrom_99 : decode cX9_copyFrom 99 = .ok (.aload_n 1, 1) := by decide +kernel
theorem dX9_copyFrom_100 : decode cX9_copyFrom 100 = .ok (.getfield 45, 3) := by decide +kernel
theorem dX9_copyFrom_103 : decode cX9_copyFrom 103 = .ok (.putfield 45, 3) := by decide +kernel
theorem dX9_copyFrom_106 : decode cX9_copyFrom 106 = .ok (.return_, 1) := by decide +kernel
set_option maxHeartbeats 4000000 in
set_option maxRecDepth 100000 in
theorem c_X9_copyFromG (l : Launch) (D : va_G) (cI : ClassId) (aK aV : Nat → Nat) (k o k0 k1 k2 k3 k4 k5 k40 k41 k42 k43 k44 k45 k46 k47 k48 k50 o0 o1 o2 o3 o4 o5 o40 o41 o42 o43 o44 o45 o46 o47 o48 o50 : Nat) (sz : Nat) (c6 : Int32) (c7 : Int32) (c8 : Int32) (c0 : Nat → Int32) (c1 : Nat → Int32) (c2 : Nat → Int32) (c3 : Nat → Int32) (c49 : Int32) (c51 : Int32) (c40 : Nat → Int32) (c41 : Nat → Int32) (c42 : Nat → Int32) (c43 : Nat → Int32) (c44 : Nat → Int32) (c45 : Nat → Int32) (c46 : Nat → Int32) (c47 : Nat → Int32) (c48 : Nat → Int32) (c50 : Nat → Int32) (d6 : Int32) (d7 : Int32) (d8 : Int32) (d0 : Nat → Int32) (d1 : Nat → Int32) (d2 : Nat → Int32) (d3 : Nat → Int32) (d49 : Int32) (d51 : Int32) (d40 : Nat → Int32) (d41 : Nat → Int32) (d42 : Nat → Int32) (d43 : Nat → Int32) (d44 : Nat → Int32) (d45 : Nat → Int32) (d46 : Nat → Int32) (d47 : Nat → Int32) (d48 : Nat → Int32) (d50 : Nat → Int32) : Met l yX9_copyFrom (gW yX9_copyFrom cX9_copyFrom 2 none) ({ frames := 2, cells := 0, slots := 0, locals := 85 } : Room) (kPreX D cI aK aV [.ref k, .ref o] [(k, .inr (9, [.ref k0, .ref k1, .ref k2, .ref k3, .ref k4, .ref k5, .int c6, .int c7, .int c8])), (k0, .inl (cI, 12, .inl c0)), (k1, .inl (cI, 40, .inl c1)), (k2, .inl (cI, 40, .inl c2)), (k3, .inl (cI, 20, .inl c3)), (k4, .inr (8, [.ref k40, .ref k41, .ref k42, .ref k43, .ref k44, .ref k45, .ref k46, .ref k47, .ref k48, .int c49])), (k5, .inr (3, [.ref k50, .int c51])), (k40, .inl (cI, 60, .inl c40)), (k41, .inl (cI, 60, .inl c41)), (k42, .inl (cI, 60, .inl c42)), (k43, .inl (cI, 60, .inl c43)), (k44, .inl (cI, 60, .inl c44)), (k45, .inl (cI, 60, .inl c45)), (k46, .inl (cI, 40, .inl c46)), (k47, .inl (cI, 40, .inl c47)), (k48, .inl (cI, 40, .inl c48)), (k50, .inl (cI, 36, .inl c50)), (o, .inr (9, [.ref o0, .ref o1, .ref o2, .ref o3, .ref o4, .ref o5, .int d6, .int d7, .int d8])), (o0, .inl (cI, 12, .inl d0)), (o1, .inl (cI, 40, .inl d1)), (o2, .inl (cI, 40, .inl d2)), (o3, .inl (cI, 20, .inl d3)), (o4, .inr (8, [.ref o40, .ref o41, .ref o42, .ref o43, .ref o44, .ref o45, .ref o46, .ref o47, .ref o48, .int d49])), (o5, .inr (3, [.ref o50, .int d51])), (o40, .inl (cI, 60, .inl d40)), (o41, .inl (cI, 60, .inl d41)), (o42, .inl (cI, 60, .inl d42)), (o43, .inl (cI, 60, .inl d43)), (o44, .inl (cI, 60, .inl d44)), (o45, .inl (cI, 60, .inl d45)), (o46, .inl (cI, 40, .inl d46)), (o47, .inl (cI, 40, .inl d47)), (o48, .inl (cI, 40, .inl d48)), (o50, .inl (cI, 36, .inl d50))] sz) (va_Qv (fun (u : Int32 × Int32 × Int32 × (Nat → Int32) × (Nat → Int32) × (Nat → Int32) × (Nat → Int32) × Int32 × Int32 × (Nat → Int32) × (Nat → Int32) × (Nat → Int32) × (Nat → Int32) × (Nat → Int32) × (Nat → Int32) × (Nat → Int32) × (Nat → Int32) × (Nat → Int32) × (Nat → Int32)) => u.2.2.2.1 = d0 ∧ u.2.2.2.2.1 = d1 ∧ u.2.2.2.2.2.1 = d2 ∧ u.1 = d6 ∧ u.2.1 = d7 ∧ u.2.2.1 = d8 ∧ u.2.2.2.2.2.2.2.2.1 = d51) (fun u t => kWd D cI (va_A [(k, .inr (9, [.ref k0, .ref k1, .ref k2, .ref k3, .ref k4, .ref k5, .int c6, .int c7, .int c8])), (k0, .inl (cI, 12, .inl c0)), (k1, .inl (cI, 40, .inl c1)), (k2, .inl (cI, 40, .inl c2)), (k3, .inl (cI, 20, .inl c3)), (k4, .inr (8, [.ref k40, .ref k41, .ref k42, .ref k43, .ref k44, .ref k45, .ref k46, .ref k47, .ref k48, .int c49])), (k5, .inr (3, [.ref k50, .int c51])), (k40, .inl (cI, 60, .inl c40)), (k41, .inl (cI, 60, .inl c41)), (k42, .inl (cI, 60, .inl c42)), (k43, .inl (cI, 60, .inl c43)), (k44, .inl (cI, 60, .inl c44)), (k45, .inl (cI, 60, .inl c45)), (k46, .inl (cI, 40, .inl c46)), (k47, .inl (cI, 40, .inl c47)), (k48, .inl (cI, 40, .inl c48)), (k50, .inl (cI, 36, .inl c50)), (o, .inr (9, [.ref o0, .ref o1, .ref o2, .ref o3, .ref o4, .ref o5, .int d6, .int d7, .int d8])), (o0, .inl (cI, 12, .inl d0)), (o1, .inl (cI, 40, .inl d1)), (o2, .inl (cI, 40, .inl d2)), (o3, .inl (cI, 20, .inl d3)), (o4, .inr (8, [.ref o40, .ref o41, .ref o42, .ref o43, .ref o44, .ref o45, .ref o46, .ref o47, .ref o48, .int d49])), (o5, .inr (3, [.ref o50, .int d51])), (o40, .inl (cI, 60, .inl d40)), (o41, .inl (cI, 60, .inl d41)), (o42, .inl (cI, 60, .inl d42)), (o43, .inl (cI, 60, .inl d43)), (o44, .inl (cI, 60, .inl d44)), (o45, .inl (cI, 60, .inl d45)), (o46, .inl (cI, 40, .inl d46)), (o47, .inl (cI, 40, .inl d47)), (o48, .inl (cI, 40, .inl d48)), (o50, .inl (cI, 36, .inl d50))] sz) [(k, .inr (9, [.ref k0, .ref k1, .ref k2, .ref k3, .ref k4, .ref k5, .int u.1, .int u.2.1, .int u.2.2.1])), (k0, .inl (cI, 12, .inl u.2.2.2.1)), (k1, .inl (cI, 40, .inl u.2.2.2.2.1)), (k2, .inl (cI, 40, .inl u.2.2.2.2.2.1)), (k3, .inl (cI, 20, .inl u.2.2.2.2.2.2.1)), (k4, .inr (8, [.ref k40, .ref k41, .ref k42, .ref k43, .ref k44, .ref k45, .ref k46, .ref k47, .ref k48, .int u.2.2.2.2.2.2.2.1])), (k5, .inr (3, [.ref k50, .int u.2.2.2.2.2.2.2.2.1])), (k40, .inl (cI, 60, .inl u.2.2.2.2.2.2.2.2.2.1)), (k41, .inl (cI, 60, .inl u.2.2.2.2.2.2.2.2.2.2.1)), (k42, .inl (cI, 60, .inl u.2.2.2.2.2.2.2.2.2.2.2.1)), (k43, .inl (cI, 60, .inl u.2.2.2.2.2.2.2.2.2.2.2.2.1)), (k44, .inl (cI, 60, .inl u.2.2.2.2.2.2.2.2.2.2.2.2.2.1)), (k45, .inl (cI, 60, .inl u.2.2.2.2.2.2.2.2.2.2.2.2.2.2.1)), (k46, .inl (cI, 40, .inl u.2.2.2.2.2.2.2.2.2.2.2.2.2.2.2.1)), (k47, .inl (cI, 40, .inl u.2.2.2.2.2.2.2.2.2.2.2.2.2.2.2.2.1)), (k48, .inl (cI, 40, .inl u.2.2.2.2.2.2.2.2.2.2.2.2.2.2.2.2.2.1)), (k50, .inl (cI, 36, .inl u.2.2.2.2.2.2.2.2.2.2.2.2.2.2.2.2.2.2)), (o, .inr (9, [.ref o0, .ref o1, .ref o2, .ref o3, .ref o4, .ref o5, .int d6, .int d7, .int d8])), (o0, .inl (cI, 12, .inl d0)), (o1, .inl (cI, 40, .inl d1)), (o2, .inl (cI, 40, .inl d2)), (o3, .inl (cI, 20, .inl d3)), (o4, .inr (8, [.ref o40, .ref o41, .ref o42, .ref o43, .ref o44, .ref o45, .ref o46, .ref o47, .ref o48, .int d49])), (o5, .inr (3, [.ref o50, .int d51])), (o40, .inl (cI, 60, .inl d40)), (o41, .inl (cI, 60, .inl d41)), (o42, .inl (cI, 60, .inl d42)), (o43, .inl (cI, 60, .inl d43)), (o44, .inl (cI, 60, .inl d44)), (o45, .inl (cI, 60, .inl d45)), (o46, .inl (cI, 40, .inl d46)), (o47, .inl (cI, 40, .inl d47)), (o48, .inl (cI, 40, .inl d48)), (o50, .inl (cI, 36, .inl d50))] t) (va_A [(k, .inr (9, [.ref k0, .ref k1, .ref k2, .ref k3, .ref k4, .ref k5, .int c6, .int c7, .int c8])), (k0, .inl (cI, 12, .inl c0)), (k1, .inl (cI, 40, .inl c1)), (k2, .inl (cI, 40, .inl c2)), (k3, .inl (cI, 20, .inl c3)), (k4, .inr (8, [.ref k40, .ref k41, .ref k42, .ref k43, .ref k44, .ref k45, .ref k46, .ref k47, .ref k48, .int c49])), (k5, .inr (3, [.ref k50, .int c51])), (k40, .inl (cI, 60, .inl c40)), (k41, .inl (cI, 60, .inl c41)), (k42, .inl (cI, 60, .inl c42)), (k43, .inl (cI, 60, .inl c43)), (k44, .inl (cI, 60, .inl c44)), (k45, .inl (cI, 60, .inl c45)), (k46, .inl (cI, 40, .inl c46)), (k47, .inl (cI, 40, .inl c47)), (k48, .inl (cI, 40, .inl c48)), (k50, .inl (cI, 36, .inl c50)), (o, .inr (9, [.ref o0, .ref o1, .ref o2, .ref o3, .ref o4, .ref o5, .int d6, .int d7, .int d8])), (o0, .inl (cI, 12, .inl d0)), (o1, .inl (cI, 40, .inl d1)), (o2, .inl (cI, 40, .inl d2)), (o3, .inl (cI, 20, .inl d3)), (o4, .inr (8, [.ref o40, .ref o41, .ref o42, .ref o43, .ref o44, .ref o45, .ref o46, .ref o47, .ref o48, .int d49])), (o5, .inr (3, [.ref o50, .int d51])), (o40, .inl (cI, 60, .inl d40)), (o41, .inl (cI, 60, .inl d41)), (o42, .inl (cI, 60, .inl d42)), (o43, .inl (cI, 60, .inl d43)), (o44, .inl (cI, 60, .inl d44)), (o45, .inl (cI, 60, .inl d45)), (o46, .inl (cI, 40, .inl d46)), (o47, .inl (cI, 40, .inl d47)), (o48, .inl (cI, 40, .inl d48)), (o50, .inl (cI, 36, .inl d50))] sz)) 0 0 (va_A [(k, .inr (9, [.ref k0, .ref k1, .ref k2, .ref k3, .ref k4, .ref k5, .int c6, .int c7, .int c8])), (k0, .inl (cI, 12, .inl c0)), (k1, .inl (cI, 40, .inl c1)), (k2, .inl (cI, 40, .inl c2)), (k3, .inl (cI, 20, .inl c3)), (k4, .inr (8, [.ref k40, .ref k41, .ref k42, .ref k43, .ref k44, .ref k45, .ref k46, .ref k47, .ref k48, .int c49])), (k5, .inr (3, [.ref k50, .int c51])), (k40, .inl (cI, 60, .inl c40)), (k41, .inl (cI, 60, .inl c41)), (k42, .inl (cI, 60, .inl c42)), (k43, .inl (cI, 60, .inl c43)), (k44, .inl (cI, 60, .inl c44)), (k45, .inl (cI, 60, .inl c45)), (k46, .inl (cI, 40, .inl c46)), (k47, .inl (cI, 40, .inl c47)), (k48, .inl (cI, 40, .inl c48)), (k50, .inl (cI, 36, .inl c50)), (o, .inr (9, [.ref o0, .ref o1, .ref o2, .ref o3, .ref o4, .ref o5, .int d6, .int d7, .int d8])), (o0, .inl (cI, 12, .inl d0)), (o1, .inl (cI, 40, .inl d1)), (o2, .inl (cI, 40, .inl d2)), (o3, .inl (cI, 20, .inl d3)), (o4, .inr (8, [.ref o40, .ref o41, .ref o42, .ref o43, .ref o44, .ref o45, .ref o46, .ref o47, .ref o48, .int d49])), (o5, .inr (3, [.ref o50, .int d51])), (o40, .inl (cI, 60, .inl d40)), (o41, .inl (cI, 60, .inl d41)), (o42, .inl (cI, 60, .inl d42)), (o43, .inl (cI, 60, .inl d43)), (o44, .inl (cI, 60, .inl d44)), (o45, .inl (cI, 60, .inl d45)), (o46, .inl (cI, 40, .inl d46)), (o47, .inl (cI, 40, .inl d47)), (o48, .inl (cI, 40, .inl d48)), (o50, .inl (cI, 36, .inl d50))] sz) := by
  refine kMetVX (own := RX9) (by decide) rfl (Nat.le_of_ble_eq_true rfl) ?_
  intro p e s m args below meth c hx hb hT hown hname hml A Q hK hP hD hS hA hN hXS hRet ls hl
  have hl : lv_has ls 2 [(0, .ref k), (1, .ref o)] := hl
  have lo_d6 := k_lo d6
  have hi_d6 := k_hi d6
  have lo_d7 := k_lo d7
  have hi_d7 := k_hi d7
  have lo_d8 := k_lo d8
  have hi_d8 := k_hi d8
  have lo_d51 := k_lo d51
  have hi_d51 := k_hi d51
  refine lv_aload_n hx hb dX9_copyFrom_0 rfl (lv_at hl 1 rfl) ?_
  refine va_get (D := D) (ci := 9) (v := .ref o0) (C := RX9) (T := TX9) (N := 9) hx hb hT giX9 hown hK hP 17 rfl rfl 0 (by decide) (hT (Cond.fieldLink RX9 9 "DesertWire$World" "rains" "[I") mw_89) (fun _ h9 => h9) rfl dX9_copyFrom_1 ?_
  refine lv_iconst (v := 0) hx hb dX9_copyFrom_4 (by decide) ?_
  refine lv_aload_n hx hb dX9_copyFrom_5 rfl (lv_at hl 0 rfl) ?_
  refine va_get (D := D) (ci := 9) (v := .ref k0) (C := RX9) (T := TX9) (N := 9) hx hb hT giX9 hown hK hP 0 rfl rfl 0 (by decide) (hT (Cond.fieldLink RX9 9 "DesertWire$World" "rains" "[I") mw_89) (fun _ h9 => h9) rfl dX9_copyFrom_6 ?_
  refine lv_iconst (v := 0) hx hb dX9_copyFrom_9 (by decide) ?_
  refine lv_bipush (v := 12) hx hb dX9_copyFrom_10 (by decide) ?_
  refine k_copy (c0 := cI) (c1 := cI) hx hb (hml.trans hl.1.symm) hown (hT _ mw_1015) (hT _ mw_865) (hT _ mw_864) (hT _ mw_19) hK hP hD hS 18 1 rfl rfl (by decide) (by decide) (Nat.le_of_ble_eq_true rfl) (by decide +kernel) dX9_copyFrom_12 ?_
  clear hP hD hS
  intro H locs hP hD hS
  replace hP : va_P D vwCl [(k, .inr (9, [.ref k0, .ref k1, .ref k2, .ref k3, .ref k4, .ref k5, .int c6, .int c7, .int c8])), (k0, .inl (cI, 12, .inl d0)), (k1, .inl (cI, 40, .inl c1)), (k2, .inl (cI, 40, .inl c2)), (k3, .inl (cI, 20, .inl c3)), (k4, .inr (8, [.ref k40, .ref k41, .ref k42, .ref k43, .ref k44, .ref k45, .ref k46, .ref k47, .ref k48, .int c49])), (k5, .inr (3, [.ref k50, .int c51])), (k40, .inl (cI, 60, .inl c40)), (k41, .inl (cI, 60, .inl c41)), (k42, .inl (cI, 60, .inl c42)), (k43, .inl (cI, 60, .inl c43)), (k44, .inl (cI, 60, .inl c44)), (k45, .inl (cI, 60, .inl c45)), (k46, .inl (cI, 40, .inl c46)), (k47, .inl (cI, 40, .inl c47)), (k48, .inl (cI, 40, .inl c48)), (k50, .inl (cI, 36, .inl c50)), (o, .inr (9, [.ref o0, .ref o1, .ref o2, .ref o3, .ref o4, .ref o5, .int d6, .int d7, .int d8])), (o0, .inl (cI, 12, .inl d0)), (o1, .inl (cI, 40, .inl d1)), (o2, .inl (cI, 40, .inl d2)), (o3, .inl (cI, 20, .inl d3)), (o4, .inr (8, [.ref o40, .ref o41, .ref o42, .ref o43, .ref o44, .ref o45, .ref o46, .ref o47, .ref o48, .int d49])), (o5, .inr (3, [.ref o50, .int d51])), (o40, .inl (cI, 60, .inl d40)), (o41, .inl (cI, 60, .inl d41)), (o42, .inl (cI, 60, .inl d42)), (o43, .inl (cI, 60, .inl d43)), (o44, .inl (cI, 60, .inl d44)), (o45, .inl (cI, 60, .inl d45)), (o46, .inl (cI, 40, .inl d46)), (o47, .inl (cI, 40, .inl d47)), (o48, .inl (cI, 40, .inl d48)), (o50, .inl (cI, 36, .inl d50))] H := hP
  replace hD : va_D A [(k, .inr (9, [.ref k0, .ref k1, .ref k2, .ref k3, .ref k4, .ref k5, .int c6, .int c7, .int c8])), (k0, .inl (cI, 12, .inl d0)), (k1, .inl (cI, 40, .inl c1)), (k2, .inl (cI, 40, .inl c2)), (k3, .inl (cI, 20, .inl c3)), (k4, .inr (8, [.ref k40, .ref k41, .ref k42, .ref k43, .ref k44, .ref k45, .ref k46, .ref k47, .ref k48, .int c49])), (k5, .inr (3, [.ref k50, .int c51])), (k40, .inl (cI, 60, .inl c40)), (k41, .inl (cI, 60, .inl c41)), (k42, .inl (cI, 60, .inl c42)), (k43, .inl (cI, 60, .inl c43)), (k44, .inl (cI, 60, .inl c44)), (k45, .inl (cI, 60, .inl c45)), (k46, .inl (cI, 40, .inl c46)), (k47, .inl (cI, 40, .inl c47)), (k48, .inl (cI, 40, .inl c48)), (k50, .inl (cI, 36, .inl c50)), (o, .inr (9, [.ref o0, .ref o1, .ref o2, .ref o3, .ref o4, .ref o5, .int d6, .int d7, .int d8])), (o0, .inl (cI, 12, .inl d0)), (o1, .inl (cI, 40, .inl d1)), (o2, .inl (cI, 40, .inl d2)), (o3, .inl (cI, 20, .inl d3)), (o4, .inr (8, [.ref o40, .ref o41, .ref o42, .ref o43, .ref o44, .ref o45, .ref o46, .ref o47, .ref o48, .int d49])), (o5, .inr (3, [.ref o50, .int d51])), (o40, .inl (cI, 60, .inl d40)), (o41, .inl (cI, 60, .inl d41)), (o42, .inl (cI, 60, .inl d42)), (o43, .inl (cI, 60, .inl d43)), (o44, .inl (cI, 60, .inl d44)), (o45, .inl (cI, 60, .inl d45)), (o46, .inl (cI, 40, .inl d46)), (o47, .inl (cI, 40, .inl d47)), (o48, .inl (cI, 40, .inl d48)), (o50, .inl (cI, 36, .inl d50))] := hD
  refine lv_aload_n hx hb dX9_copyFrom_15 rfl (lv_at hl 1 rfl) ?_
  refine va_get (D := D) (ci := 9) (v := .ref o1) (C := RX9) (T := TX9) (N := 9) hx hb hT giX9 hown hK hP 17 rfl rfl 1 (by decide) (hT (Cond.fieldLink RX9 15 "DesertWire$World" "soils" "[I") mw_91) (fun _ h9 => h9) rfl dX9_copyFrom_16 ?_
  refine lv_iconst (v := 0) hx hb dX9_copyFrom_19 (by decide) ?_
  refine lv_aload_n hx hb dX9_copyFrom_20 rfl (lv_at hl 0 rfl) ?_
  refine va_get (D := D) (ci := 9) (v := .ref k1) (C := RX9) (T := TX9) (N := 9) hx hb hT giX9 hown hK hP 0 rfl rfl 1 (by decide) (hT (Cond.fieldLink RX9 15 "DesertWire$World" "soils" "[I") mw_91) (fun _ h9 => h9) rfl dX9_copyFrom_21 ?_
  refine lv_iconst (v := 0) hx hb dX9_copyFrom_24 (by decide) ?_
  refine lv_bipush (v := 40) hx hb dX9_copyFrom_25 (by decide) ?_
  refine k_copy (c0 := cI) (c1 := cI) hx hb (hml.trans hl.1.symm) hown (hT _ mw_1015) (hT _ mw_865) (hT _ mw_864) (hT _ mw_19) hK hP hD hS 19 2 rfl rfl (by decide) (by decide) (Nat.le_of_ble_eq_true rfl) (by decide +kernel) dX9_copyFrom_27 ?_
  clear hP hD hS
  intro H locs hP hD hS
  replace hP : va_P D vwCl [(k, .inr (9, [.ref k0, .ref k1, .ref k2, .ref k3, .ref k4, .ref k5, .int c6, .int c7, .int c8])), (k0, .inl (cI, 12, .inl d0)), (k1, .inl (cI, 40, .inl d1)), (k2, .inl (cI, 40, .inl c2)), (k3, .inl (cI, 20, .inl c3)), (k4, .inr (8, [.ref k40, .ref k41, .ref k42, .ref k43, .ref k44, .ref k45, .ref k46, .ref k47, .ref k48, .int c49])), (k5, .inr (3, [.ref k50, .int c51])), (k40, .inl (cI, 60, .inl c40)), (k41, .inl (cI, 60, .inl c41)), (k42, .inl (cI, 60, .inl c42)), (k43, .inl (cI, 60, .inl c43)), (k44, .inl (cI, 60, .inl c44)), (k45, .inl (cI, 60, .inl c45)), (k46, .inl (cI, 40, .inl c46)), (k47, .inl (cI, 40, .inl c47)), (k48, .inl (cI, 40, .inl c48)), (k50, .inl (cI, 36, .inl c50)), (o, .inr (9, [.ref o0, .ref o1, .ref o2, .ref o3, .ref o4, .ref o5, .int d6, .int d7, .int d8])), (o0, .inl (cI, 12, .inl d0)), (o1, .inl (cI, 40, .inl d1)), (o2, .inl (cI, 40, .inl d2)), (o3, .inl (cI, 20, .inl d3)), (o4, .inr (8, [.ref o40, .ref o41, .ref o42, .ref o43, .ref o44, .ref o45, .ref o46, .ref o47, .ref o48, .int d49])), (o5, .inr (3, [.ref o50, .int d51])), (o40, .inl (cI, 60, .inl d40)), (o41, .inl (cI, 60, .inl d41)), (o42, .inl (cI, 60, .inl d42)), (o43, .inl (cI, 60, .inl d43)), (o44, .inl (cI, 60, .inl d44)), (o45, .inl (cI, 60, .inl d45)), (o46, .inl (cI, 40, .inl d46)), (o47, .inl (cI, 40, .inl d47)), (o48, .inl (cI, 40, .inl d48)), (o50, .inl (cI, 36, .inl d50))] H := hP
  replace hD : va_D A [(k, .inr (9, [.ref k0, .ref k1, .ref k2, .ref k3, .ref k4, .ref k5, .int c6, .int c7, .int c8])), (k0, .inl (cI, 12, .inl d0)), (k1, .inl (cI, 40, .inl d1)), (k2, .inl (cI, 40, .inl c2)), (k3, .inl (cI, 20, .inl c3)), (k4, .inr (8, [.ref k40, .ref k41, .ref k42, .ref k43, .ref k44, .ref k45, .ref k46, .ref k47, .ref k48, .int c49])), (k5, .inr (3, [.ref k50, .int c51])), (k40, .inl (cI, 60, .inl c40)), (k41, .inl (cI, 60, .inl c41)), (k42, .inl (cI, 60, .inl c42)), (k43, .inl (cI, 60, .inl c43)), (k44, .inl (cI, 60, .inl c44)), (k45, .inl (cI, 60, .inl c45)), (k46, .inl (cI, 40, .inl c46)), (k47, .inl (cI, 40, .inl c47)), (k48, .inl (cI, 40, .inl c48)), (k50, .inl (cI, 36, .inl c50)), (o, .inr (9, [.ref o0, .ref o1, .ref o2, .ref o3, .ref o4, .ref o5, .int d6, .int d7, .int d8])), (o0, .inl (cI, 12, .inl d0)), (o1, .inl (cI, 40, .inl d1)), (o2, .inl (cI, 40, .inl d2)), (o3, .inl (cI, 20, .inl d3)), (o4, .inr (8, [.ref o40, .ref o41, .ref o42, .ref o43, .ref o44, .ref o45, .ref o46, .ref o47, .ref o48, .int d49])), (o5, .inr (3, [.ref o50, .int d51])), (o40, .inl (cI, 60, .inl d40)), (o41, .inl (cI, 60, .inl d41)), (o42, .inl (cI, 60, .inl d42)), (o43, .inl (cI, 60, .inl d43)), (o44, .inl (cI, 60, .inl d44)), (o45, .inl (cI, 60, .inl d45)), (o46, .inl (cI, 40, .inl d46)), (o47, .inl (cI, 40, .inl d47)), (o48, .inl (cI, 40, .inl d48)), (o50, .inl (cI, 36, .inl d50))] := hD
  refine lv_aload_n hx hb dX9_copyFrom_30 rfl (lv_at hl 1 rfl) ?_
  refine va_get (D := D) (ci := 9) (v := .ref o2) (C := RX9) (T := TX9) (N := 9) hx hb hT giX9 hown hK hP 17 rfl rfl 2 (by decide) (hT (Cond.fieldLink RX9 18 "DesertWire$World" "springs" "[I") mw_93) (fun _ h9 => h9) rfl dX9_copyFrom_31 ?_
  refine lv_iconst (v := 0) hx hb dX9_copyFrom_34 (by decide) ?_
  refine lv_aload_n hx hb dX9_copyFrom_35 rfl (lv_at hl 0 rfl) ?_
  refine va_get (D := D) (ci := 9) (v := .ref k2) (C := RX9) (T := TX9) (N := 9) hx hb hT giX9 hown hK hP 0 rfl rfl 2 (by decide) (hT (Cond.fieldLink RX9 18 "DesertWire$World" "springs" "[I") mw_93) (fun _ h9 => h9) rfl dX9_copyFrom_36 ?_
  refine lv_iconst (v := 0) hx hb dX9_copyFrom_39 (by decide) ?_
  refine lv_bipush (v := 40) hx hb dX9_copyFrom_40 (by decide) ?_
  refine k_copy (c0 := cI) (c1 := cI) hx hb (hml.trans hl.1.symm) hown (hT _ mw_1015) (hT _ mw_865) (hT _ mw_864) (hT _ mw_19) hK hP hD hS 20 3 rfl rfl (by decide) (by decide) (Nat.le_of_ble_eq_true rfl) (by decide +kernel) dX9_copyFrom_42 ?_
  clear hP hD hS
  intro H locs hP hD hS
  replace hP : va_P D vwCl [(k, .inr (9, [.ref k0, .ref k1, .ref k2, .ref k3, .ref k4, .ref k5, .int c6, .int c7, .int c8])), (k0, .inl (cI, 12, .inl d0)), (k1, .inl (cI, 40, .inl d1)), (k2, .inl (cI, 40, .inl d2)), (k3, .inl (cI, 20, .inl c3)), (k4, .inr (8, [.ref k40, .ref k41, .ref k42, .ref k43, .ref k44, .ref k45, .ref k46, .ref k47, .ref k48, .int c49])), (k5, .inr (3, [.ref k50, .int c51])), (k40, .inl (cI, 60, .inl c40)), (k41, .inl (cI, 60, .inl c41)), (k42, .inl (cI, 60, .inl c42)), (k43, .inl (cI, 60, .inl c43)), (k44, .inl (cI, 60, .inl c44)), (k45, .inl (cI, 60, .inl c45)), (k46, .inl (cI, 40, .inl c46)), (k47, .inl (cI, 40, .inl c47)), (k48, .inl (cI, 40, .inl c48)), (k50, .inl (cI, 36, .inl c50)), (o, .inr (9, [.ref o0, .ref o1, .ref o2, .ref o3, .ref o4, .ref o5, .int d6, .int d7, .int d8])), (o0, .inl (cI, 12, .inl d0)), (o1, .inl (cI, 40, .inl d1)), (o2, .inl (cI, 40, .inl d2)), (o3, .inl (cI, 20, .inl d3)), (o4, .inr (8, [.ref o40, .ref o41, .ref o42, .ref o43, .ref o44, .ref o45, .ref o46, .ref o47, .ref o48, .int d49])), (o5, .inr (3, [.ref o50, .int d51])), (o40, .inl (cI, 60, .inl d40)), (o41, .inl (cI, 60, .inl d41)), (o42, .inl (cI, 60, .inl d42)), (o43, .inl (cI, 60, .inl d43)), (o44, .inl (cI, 60, .inl d44)), (o45, .inl (cI, 60, .inl d45)), (o46, .inl (cI, 40, .inl d46)), (o47, .inl (cI, 40, .inl d47)), (o48, .inl (cI, 40, .inl d48)), (o50, .inl (cI, 36, .inl d50))] H := hP
  replace hD : va_D A [(k, .inr (9, [.ref k0, .ref k1, .ref k2, .ref k3, .ref k4, .ref k5, .int c6, .int c7, .int c8])), (k0, .inl (cI, 12, .inl d0)), (k1, .inl (cI, 40, .inl d1)), (k2, .inl (cI, 40, .inl d2)), (k3, .inl (cI, 20, .inl c3)), (k4, .inr (8, [.ref k40, .ref k41, .ref k42, .ref k43, .ref k44, .ref k45, .ref k46, .ref k47, .ref k48, .int c49])), (k5, .inr (3, [.ref k50, .int c51])), (k40, .inl (cI, 60, .inl c40)), (k41, .inl (cI, 60, .inl c41)), (k42, .inl (cI, 60, .inl c42)), (k43, .inl (cI, 60, .inl c43)), (k44, .inl (cI, 60, .inl c44)), (k45, .inl (cI, 60, .inl c45)), (k46, .inl (cI, 40, .inl c46)), (k47, .inl (cI, 40, .inl c47)), (k48, .inl (cI, 40, .inl c48)), (k50, .inl (cI, 36, .inl c50)), (o, .inr (9, [.ref o0, .ref o1, .ref o2, .ref o3, .ref o4, .ref o5, .int d6, .int d7, .int d8])), (o0, .inl (cI, 12, .inl d0)), (o1, .inl (cI, 40, .inl d1)), (o2, .inl (cI, 40, .inl d2)), (o3, .inl (cI, 20, .inl d3)), (o4, .inr (8, [.ref o40, .ref o41, .ref o42, .ref o43, .ref o44, .ref o45, .ref o46, .ref o47, .ref o48, .int d49])), (o5, .inr (3, [.ref o50, .int d51])), (o40, .inl (cI, 60, .inl d40)), (o41, .inl (cI, 60, .inl d41)), (o42, .inl (cI, 60, .inl d42)), (o43, .inl (cI, 60, .inl d43)), (o44, .inl (cI, 60, .inl d44)), (o45, .inl (cI, 60, .inl d45)), (o46, .inl (cI, 40, .inl d46)), (o47, .inl (cI, 40, .inl d47)), (o48, .inl (cI, 40, .inl d48)), (o50, .inl (cI, 36, .inl d50))] := hD
  refine lv_aload_n hx hb dX9_copyFrom_45 rfl (lv_at hl 1 rfl) ?_
  refine va_get (D := D) (ci := 9) (v := .ref o3) (C := RX9) (T := TX9) (N := 9) hx hb hT giX9 hown hK hP 17 rfl rfl 3 (by decide) (hT (Cond.fieldLink RX9 21 "DesertWire$World" "waits" "[I") mw_95) (fun _ h9 => h9) rfl dX9_copyFrom_46 ?_
  refine lv_iconst (v := 0) hx hb dX9_copyFrom_49 (by decide) ?_
  refine lv_aload_n hx hb dX9_copyFrom_50 rfl (lv_at hl 0 rfl) ?_
  refine va_get (D := D) (ci := 9) (v := .ref k3) (C := RX9) (T := TX9) (N := 9) hx hb hT giX9 hown hK hP 0 rfl rfl 3 (by decide) (hT (Cond.fieldLink RX9 21 "DesertWire$World" "waits" "[I") mw_95) (fun _ h9 => h9) rfl dX9_copyFrom_51 ?_
  refine lv_iconst (v := 0) hx hb dX9_copyFrom_54 (by decide) ?_
  refine lv_bipush (v := 20) hx hb dX9_copyFrom_55 (by decide) ?_
  refine k_copy (c0 := cI) (c1 := cI) hx hb (hml.trans hl.1.symm) hown (hT _ mw_1015) (hT _ mw_865) (hT _ mw_864) (hT _ mw_19) hK hP hD hS 21 4 rfl rfl (by decide) (by decide) (Nat.le_of_ble_eq_true rfl) (by decide +kernel) dX9_copyFrom_57 ?_
  clear hP hD hS
  intro H locs hP hD hS
  replace hP : va_P D vwCl [(k, .inr (9, [.ref k0, .ref k1, .ref k2, .ref k3, .ref k4, .ref k5, .int c6, .int c7, .int c8])), (k0, .inl (cI, 12, .inl d0)), (k1, .inl (cI, 40, .inl d1)), (k2, .inl (cI, 40, .inl d2)), (k3, .inl (cI, 20, .inl d3)), (k4, .inr (8, [.ref k40, .ref k41, .ref k42, .ref k43, .ref k44, .ref k45, .ref k46, .ref k47, .ref k48, .int c49])), (k5, .inr (3, [.ref k50, .int c51])), (k40, .inl (cI, 60, .inl c40)), (k41, .inl (cI, 60, .inl c41)), (k42, .inl (cI, 60, .inl c42)), (k43, .inl (cI, 60, .inl c43)), (k44, .inl (cI, 60, .inl c44)), (k45, .inl (cI, 60, .inl c45)), (k46, .inl (cI, 40, .inl c46)), (k47, .inl (cI, 40, .inl c47)), (k48, .inl (cI, 40, .inl c48)), (k50, .inl (cI, 36, .inl c50)), (o, .inr (9, [.ref o0, .ref o1, .ref o2, .ref o3, .ref o4, .ref o5, .int d6, .int d7, .int d8])), (o0, .inl (cI, 12, .inl d0)), (o1, .inl (cI, 40, .inl d1)), (o2, .inl (cI, 40, .inl d2)), (o3, .inl (cI, 20, .inl d3)), (o4, .inr (8, [.ref o40, .ref o41, .ref o42, .ref o43, .ref o44, .ref o45, .ref o46, .ref o47, .ref o48, .int d49])), (o5, .inr (3, [.ref o50, .int d51])), (o40, .inl (cI, 60, .inl d40)), (o41, .inl (cI, 60, .inl d41)), (o42, .inl (cI, 60, .inl d42)), (o43, .inl (cI, 60, .inl d43)), (o44, .inl (cI, 60, .inl d44)), (o45, .inl (cI, 60, .inl d45)), (o46, .inl (cI, 40, .inl d46)), (o47, .inl (cI, 40, .inl d47)), (o48, .inl (cI, 40, .inl d48)), (o50, .inl (cI, 36, .inl d50))] H := hP
  replace hD : va_D A [(k, .inr (9, [.ref k0, .ref k1, .ref k2, .ref k3, .ref k4, .ref k5, .int c6, .int c7, .int c8])), (k0, .inl (cI, 12, .inl d0)), (k1, .inl (cI, 40, .inl d1)), (k2, .inl (cI, 40, .inl d2)), (k3, .inl (cI, 20, .inl d3)), (k4, .inr (8, [.ref k40, .ref k41, .ref k42, .ref k43, .ref k44, .ref k45, .ref k46, .ref k47, .ref k48, .int c49])), (k5, .inr (3, [.ref k50, .int c51])), (k40, .inl (cI, 60, .inl c40)), (k41, .inl (cI, 60, .inl c41)), (k42, .inl (cI, 60, .inl c42)), (k43, .inl (cI, 60, .inl c43)), (k44, .inl (cI, 60, .inl c44)), (k45, .inl (cI, 60, .inl c45)), (k46, .inl (cI, 40, .inl c46)), (k47, .inl (cI, 40, .inl c47)), (k48, .inl (cI, 40, .inl c48)), (k50, .inl (cI, 36, .inl c50)), (o, .inr (9, [.ref o0, .ref o1, .ref o2, .ref o3, .ref o4, .ref o5, .int d6, .int d7, .int d8])), (o0, .inl (cI, 12, .inl d0)), (o1, .inl (cI, 40, .inl d1)), (o2, .inl (cI, 40, .inl d2)), (o3, .inl (cI, 20, .inl d3)), (o4, .inr (8, [.ref o40, .ref o41, .ref o42, .ref o43, .ref o44, .ref o45, .ref o46, .ref o47, .ref o48, .int d49])), (o5, .inr (3, [.ref o50, .int d51])), (o40, .inl (cI, 60, .inl d40)), (o41, .inl (cI, 60, .inl d41)), (o42, .inl (cI, 60, .inl d42)), (o43, .inl (cI, 60, .inl d43)), (o44, .inl (cI, 60, .inl d44)), (o45, .inl (cI, 60, .inl d45)), (o46, .inl (cI, 40, .inl d46)), (o47, .inl (cI, 40, .inl d47)), (o48, .inl (cI, 40, .inl d48)), (o50, .inl (cI, 36, .inl d50))] := hD
  refine lv_aload_n hx hb dX9_copyFrom_60 rfl (lv_at hl 0 rfl) ?_
  refine va_get (D := D) (ci := 9) (v := .ref k4) (C := RX9) (T := TX9) (N := 9) hx hb hT giX9 hown hK hP 0 rfl rfl 4 (by decide) (hT (Cond.fieldLink RX9 27 "DesertWire$World" "works" "LDesertWire$Works;") mw_97) (fun _ h9 => h9) rfl dX9_copyFrom_61 ?_
  refine lv_aload_n hx hb dX9_copyFrom_64 rfl (lv_at hl 1 rfl) ?_
  refine va_get (D := D) (ci := 9) (v := .ref o4) (C := RX9) (T := TX9) (N := 9) hx hb hT giX9 hown hK hP 17 rfl rfl 4 (by decide) (hT (Cond.fieldLink RX9 27 "DesertWire$World" "works" "LDesertWire$Works;") mw_97) (fun _ h9 => h9) rfl dX9_copyFrom_65 ?_
  refine kJv (wr := [(k, .inr (9, [.ref k0, .ref k1, .ref k2, .ref k3, .ref k4, .ref k5, .int c6, .int c7, .int c8])), (k0, .inl (cI, 12, .inl d0)), (k1, .inl (cI, 40, .inl d1)), (k2, .inl (cI, 40, .inl d2)), (k3, .inl (cI, 20, .inl d3)), (k5, .inr (3, [.ref k50, .int c51])), (k50, .inl (cI, 36, .inl c50)), (o, .inr (9, [.ref o0, .ref o1, .ref o2, .ref o3, .ref o4, .ref o5, .int d6, .int d7, .int d8])), (o0, .inl (cI, 12, .inl d0)), (o1, .inl (cI, 40, .inl d1)), (o2, .inl (cI, 40, .inl d2)), (o3, .inl (cI, 20, .inl d3)), (o5, .inr (3, [.ref o50, .int d51])), (o50, .inl (cI, 36, .inl d50))]) (va_runV (As := [.ref o4]) (rest := []) ⟨hx, hb, hml, hown, hT⟩ (c_X8_copyFromG l D cI aK aV k4 o4 k40 k41 k42 k43 k44 k45 k46 k47 k48 o40 o41 o42 o43 o44 o45 o46 o47 o48 H.size c49 c40 c41 c42 c43 c44 c45 c46 c47 c48 d49 d40 d41 d42 d43 d44 d45 d46 d47 d48) (cwV 1 hT (gV_in mw_1019 mw_1016 mw_1017 mw_1018 mw_3) rfl rfl rfl (by decide +kernel) ⟨Nat.le_of_ble_eq_true rfl, Nat.le_of_ble_eq_true rfl⟩) (kRecvX (q0 := 5) (ci := 8) hK hP hD hN hXS hS hA rfl rfl [5, 7, 8, 9, 10, 11, 12, 13, 14, 15, 22, 24, 25, 26, 27, 28, 29, 30, 31, 32] rfl (by decide)) rfl rfl hl.1 rfl (lv_room (Nat.le_of_ble_eq_true rfl)) dX9_copyFrom_68 ⟨Nat.le_of_ble_eq_true rfl, Nat.le_of_ble_eq_true rfl⟩) hP hD hS hA [5, 7, 8, 9, 10, 11, 12, 13, 14, 15, 22, 24, 25, 26, 27, 28, 29, 30, 31, 32] [0, 1, 2, 3, 4, 6, 16, 17, 18, 19, 20, 21, 23, 33] rfl rfl (by decide) (by decide) ?_
  clear hP hD hS
  intro u_13 H locs w_2 hP hD hS
  obtain ⟨sc9_3, sc0_4, sc1_5, sc2_6, sc3_7, sc4_8, sc5_9, sc6_10, sc7_11, sc8_12⟩ := u_13
  replace hP : va_P D vwCl [(k, .inr (9, [.ref k0, .ref k1, .ref k2, .ref k3, .ref k4, .ref k5, .int c6, .int c7, .int c8])), (k0, .inl (cI, 12, .inl d0)), (k1, .inl (cI, 40, .inl d1)), (k2, .inl (cI, 40, .inl d2)), (k3, .inl (cI, 20, .inl d3)), (k5, .inr (3, [.ref k50, .int c51])), (k50, .inl (cI, 36, .inl c50)), (o, .inr (9, [.ref o0, .ref o1, .ref o2, .ref o3, .ref o4, .ref o5, .int d6, .int d7, .int d8])), (o0, .inl (cI, 12, .inl d0)), (o1, .inl (cI, 40, .inl d1)), (o2, .inl (cI, 40, .inl d2)), (o3, .inl (cI, 20, .inl d3)), (o5, .inr (3, [.ref o50, .int d51])), (o50, .inl (cI, 36, .inl d50)), (k4, .inr (8, [.ref k40, .ref k41, .ref k42, .ref k43, .ref k44, .ref k45, .ref k46, .ref k47, .ref k48, .int sc9_3])), (k40, .inl (cI, 60, .inl sc0_4)), (k41, .inl (cI, 60, .inl sc1_5)), (k42, .inl (cI, 60, .inl sc2_6)), (k43, .inl (cI, 60, .inl sc3_7)), (k44, .inl (cI, 60, .inl sc4_8)), (k45, .inl (cI, 60, .inl sc5_9)), (k46, .inl (cI, 40, .inl sc6_10)), (k47, .inl (cI, 40, .inl sc7_11)), (k48, .inl (cI, 40, .inl sc8_12)), (o4, .inr (8, [.ref o40, .ref o41, .ref o42, .ref o43, .ref o44, .ref o45, .ref o46, .ref o47, .ref o48, .int d49])), (o40, .inl (cI, 60, .inl d40)), (o41, .inl (cI, 60, .inl d41)), (o42, .inl (cI, 60, .inl d42)), (o43, .inl (cI, 60, .inl d43)), (o44, .inl (cI, 60, .inl d44)), (o45, .inl (cI, 60, .inl d45)), (o46, .inl (cI, 40, .inl d46)), (o47, .inl (cI, 40, .inl d47)), (o48, .inl (cI, 40, .inl d48))] H := hP
  replace hD : va_D A [(k, .inr (9, [.ref k0, .ref k1, .ref k2, .ref k3, .ref k4, .ref k5, .int c6, .int c7, .int c8])), (k0, .inl (cI, 12, .inl d0)), (k1, .inl (cI, 40, .inl d1)), (k2, .inl (cI, 40, .inl d2)), (k3, .inl (cI, 20, .inl d3)), (k5, .inr (3, [.ref k50, .int c51])), (k50, .inl (cI, 36, .inl c50)), (o, .inr (9, [.ref o0, .ref o1, .ref o2, .ref o3, .ref o4, .ref o5, .int d6, .int d7, .int d8])), (o0, .inl (cI, 12, .inl d0)), (o1, .inl (cI, 40, .inl d1)), (o2, .inl (cI, 40, .inl d2)), (o3, .inl (cI, 20, .inl d3)), (o5, .inr (3, [.ref o50, .int d51])), (o50, .inl (cI, 36, .inl d50)), (k4, .inr (8, [.ref k40, .ref k41, .ref k42, .ref k43, .ref k44, .ref k45, .ref k46, .ref k47, .ref k48, .int sc9_3])), (k40, .inl (cI, 60, .inl sc0_4)), (k41, .inl (cI, 60, .inl sc1_5)), (k42, .inl (cI, 60, .inl sc2_6)), (k43, .inl (cI, 60, .inl sc3_7)), (k44, .inl (cI, 60, .inl sc4_8)), (k45, .inl (cI, 60, .inl sc5_9)), (k46, .inl (cI, 40, .inl sc6_10)), (k47, .inl (cI, 40, .inl sc7_11)), (k48, .inl (cI, 40, .inl sc8_12)), (o4, .inr (8, [.ref o40, .ref o41, .ref o42, .ref o43, .ref o44, .ref o45, .ref o46, .ref o47, .ref o48, .int d49])), (o40, .inl (cI, 60, .inl d40)), (o41, .inl (cI, 60, .inl d41)), (o42, .inl (cI, 60, .inl d42)), (o43, .inl (cI, 60, .inl d43)), (o44, .inl (cI, 60, .inl d44)), (o45, .inl (cI, 60, .inl d45)), (o46, .inl (cI, 40, .inl d46)), (o47, .inl (cI, 40, .inl d47)), (o48, .inl (cI, 40, .inl d48))] := hD
  refine lv_aload_n hx hb dX9_copyFrom_71 rfl (lv_at hl 0 rfl) ?_
  refine va_get (D := D) (ci := 9) (v := .ref k5) (C := RX9) (T := TX9) (N := 9) hx hb hT giX9 hown hK hP 0 rfl rfl 5 (by decide) (hT (Cond.fieldLink RX9 34 "DesertWire$World" "parties" "LDesertWire$Parties;") mw_100) (fun _ h9 => h9) rfl dX9_copyFrom_72 ?_
  refine lv_aload_n hx hb dX9_copyFrom_75 rfl (lv_at hl 1 rfl) ?_
  refine va_get (D := D) (ci := 9) (v := .ref o5) (C := RX9) (T := TX9) (N := 9) hx hb hT giX9 hown hK hP 7 rfl rfl 5 (by decide) (hT (Cond.fieldLink RX9 34 "DesertWire$World" "parties" "LDesertWire$Parties;") mw_100) (fun _ h9 => h9) rfl dX9_copyFrom_76 ?_
  refine kJv (wr := [(k, .inr (9, [.ref k0, .ref k1, .ref k2, .ref k3, .ref k4, .ref k5, .int c6, .int c7, .int c8])), (k0, .inl (cI, 12, .inl d0)), (k1, .inl (cI, 40, .inl d1)), (k2, .inl (cI, 40, .inl d2)), (k3, .inl (cI, 20, .inl d3)), (o, .inr (9, [.ref o0, .ref o1, .ref o2, .ref o3, .ref o4, .ref o5, .int d6, .int d7, .int d8])), (o0, .inl (cI, 12, .inl d0)), (o1, .inl (cI, 40, .inl d1)), (o2, .inl (cI, 40, .inl d2)), (o3, .inl (cI, 20, .inl d3)), (k4, .inr (8, [.ref k40, .ref k41, .ref k42, .ref k43, .ref k44, .ref k45, .ref k46, .ref k47, .ref k48, .int sc9_3])), (k40, .inl (cI, 60, .inl sc0_4)), (k41, .inl (cI, 60, .inl sc1_5)), (k42, .inl (cI, 60, .inl sc2_6)), (k43, .inl (cI, 60, .inl sc3_7)), (k44, .inl (cI, 60, .inl sc4_8)), (k45, .inl (cI, 60, .inl sc5_9)), (k46, .inl (cI, 40, .inl sc6_10)), (k47, .inl (cI, 40, .inl sc7_11)), (k48, .inl (cI, 40, .inl sc8_12)), (o4, .inr (8, [.ref o40, .ref o41, .ref o42, .ref o43, .ref o44, .ref o45, .ref o46, .ref o47, .ref o48, .int d49])), (o40, .inl (cI, 60, .inl d40)), (o41, .inl (cI, 60, .inl d41)), (o42, .inl (cI, 60, .inl d42)), (o43, .inl (cI, 60, .inl d43)), (o44, .inl (cI, 60, .inl d44)), (o45, .inl (cI, 60, .inl d45)), (o46, .inl (cI, 40, .inl d46)), (o47, .inl (cI, 40, .inl d47)), (o48, .inl (cI, 40, .inl d48))]) (va_runV (As := [.ref o5]) (rest := []) ⟨hx, hb, hml, hown, hT⟩ (c_X3_copyFromG l D cI aK aV k5 o5 k50 o50 H.size c51 c50 d51 d50) (cwV 1 hT (gV_in mw_1024 mw_1021 mw_1022 mw_1023 mw_4) rfl rfl rfl (by decide +kernel) ⟨Nat.le_of_ble_eq_true rfl, Nat.le_of_ble_eq_true rfl⟩) (kRecvX (q0 := 5) (ci := 3) hK hP hD hN hXS hS hA rfl rfl [5, 6, 12, 13] rfl (by decide)) rfl rfl hl.1 rfl (lv_room (Nat.le_of_ble_eq_true rfl)) dX9_copyFrom_79 ⟨Nat.le_of_ble_eq_true rfl, Nat.le_of_ble_eq_true rfl⟩) hP hD hS hA [5, 6, 12, 13] [0, 1, 2, 3, 4, 7, 8, 9, 10, 11, 14, 15, 16, 17, 18, 19, 20, 21, 22, 23, 24, 25, 26, 27, 28, 29, 30, 31, 32, 33] rfl rfl (by decide) (by decide) ?_
  clear hP hD hS
  intro u_18 H locs w_15 hP hD hS
  obtain ⟨sc1_16, sc0_17⟩ := u_18
  replace hP : va_P D vwCl [(k, .inr (9, [.ref k0, .ref k1, .ref k2, .ref k3, .ref k4, .ref k5, .int c6, .int c7, .int c8])), (k0, .inl (cI, 12, .inl d0)), (k1, .inl (cI, 40, .inl d1)), (k2, .inl (cI, 40, .inl d2)), (k3, .inl (cI, 20, .inl d3)), (o, .inr (9, [.ref o0, .ref o1, .ref o2, .ref o3, .ref o4, .ref o5, .int d6, .int d7, .int d8])), (o0, .inl (cI, 12, .inl d0)), (o1, .inl (cI, 40, .inl d1)), (o2, .inl (cI, 40, .inl d2)), (o3, .inl (cI, 20, .inl d3)), (k4, .inr (8, [.ref k40, .ref k41, .ref k42, .ref k43, .ref k44, .ref k45, .ref k46, .ref k47, .ref k48, .int sc9_3])), (k40, .inl (cI, 60, .inl sc0_4)), (k41, .inl (cI, 60, .inl sc1_5)), (k42, .inl (cI, 60, .inl sc2_6)), (k43, .inl (cI, 60, .inl sc3_7)), (k44, .inl (cI, 60, .inl sc4_8)), (k45, .inl (cI, 60, .inl sc5_9)), (k46, .inl (cI, 40, .inl sc6_10)), (k47, .inl (cI, 40, .inl sc7_11)), (k48, .inl (cI, 40, .inl sc8_12)), (o4, .inr (8, [.ref o40, .ref o41, .ref o42, .ref o43, .ref o44, .ref o45, .ref o46, .ref o47, .ref o48, .int d49])), (o40, .inl (cI, 60, .inl d40)), (o41, .inl (cI, 60, .inl d41)), (o42, .inl (cI, 60, .inl d42)), (o43, .inl (cI, 60, .inl d43)), (o44, .inl (cI, 60, .inl d44)), (o45, .inl (cI, 60, .inl d45)), (o46, .inl (cI, 40, .inl d46)), (o47, .inl (cI, 40, .inl d47)), (o48, .inl (cI, 40, .inl d48)), (k5, .inr (3, [.ref k50, .int sc1_16])), (k50, .inl (cI, 36, .inl sc0_17)), (o5, .inr (3, [.ref o50, .int d51])), (o50, .inl (cI, 36, .inl d50))] H := hP
  replace hD : va_D A [(k, .inr (9, [.ref k0, .ref k1, .ref k2, .ref k3, .ref k4, .ref k5, .int c6, .int c7, .int c8])), (k0, .inl (cI, 12, .inl d0)), (k1, .inl (cI, 40, .inl d1)), (k2, .inl (cI, 40, .inl d2)), (k3, .inl (cI, 20, .inl d3)), (o, .inr (9, [.ref o0, .ref o1, .ref o2, .ref o3, .ref o4, .ref o5, .int d6, .int d7, .int d8])), (o0, .inl (cI, 12, .inl d0)), (o1, .inl (cI, 40, .inl d1)), (o2, .inl (cI, 40, .inl d2)), (o3, .inl (cI, 20, .inl d3)), (k4, .inr (8, [.ref k40, .ref k41, .ref k42, .ref k43, .ref k44, .ref k45, .ref k46, .ref k47, .ref k48, .int sc9_3])), (k40, .inl (cI, 60, .inl sc0_4)), (k41, .inl (cI, 60, .inl sc1_5)), (k42, .inl (cI, 60, .inl sc2_6)), (k43, .inl (cI, 60, .inl sc3_7)), (k44, .inl (cI, 60, .inl sc4_8)), (k45, .inl (cI, 60, .inl sc5_9)), (k46, .inl (cI, 40, .inl sc6_10)), (k47, .inl (cI, 40, .inl sc7_11)), (k48, .inl (cI, 40, .inl sc8_12)), (o4, .inr (8, [.ref o40, .ref o41, .ref o42, .ref o43, .ref o44, .ref o45, .ref o46, .ref o47, .ref o48, .int d49])), (o40, .inl (cI, 60, .inl d40)), (o41, .inl (cI, 60, .inl d41)), (o42, .inl (cI, 60, .inl d42)), (o43, .inl (cI, 60, .inl d43)), (o44, .inl (cI, 60, .inl d44)), (o45, .inl (cI, 60, .inl d45)), (o46, .inl (cI, 40, .inl d46)), (o47, .inl (cI, 40, .inl d47)), (o48, .inl (cI, 40, .inl d48)), (k5, .inr (3, [.ref k50, .int sc1_16])), (k50, .inl (cI, 36, .inl sc0_17)), (o5, .inr (3, [.ref o50, .int d51])), (o50, .inl (cI, 36, .inl d50))] := hD
  have lo_sc1_16 := k_lo sc1_16
  have hi_sc1_16 := k_hi sc1_16
  have h_19 := w_15
  have h_19 : sc1_16 = d51 := h_19
  refine lv_aload_n hx hb dX9_copyFrom_82 rfl (lv_at hl 0 rfl) ?_
  refine lv_aload_n hx hb dX9_copyFrom_83 rfl (lv_at hl 1 rfl) ?_
  refine va_get (D := D) (ci := 9) (v := .int d6) (C := RX9) (T := TX9) (N := 9) hx hb hT giX9 hown hK hP 5 rfl rfl 6 (by decide) (hT (Cond.fieldLink RX9 38 "DesertWire$World" "waiting" "I") mw_103) (fun _ h9 => h9) rfl dX9_copyFrom_84 ?_
  refine va_put (D := D) (ci := 9) (v := .int d6) (ty := .int) (C := RX9) (T := TX9) (N := 9) hx hb hT giX9 tyX9 tyX9_ok nmX9 hown hK hP hD hS 0 rfl rfl 6 (by decide) (hT (Cond.fieldLink RX9 38 "DesertWire$World" "waiting" "I") mw_103) (fun _ h9 => h9) rfl (by decide +kernel) rfl rfl (Nat.le_of_ble_eq_true rfl) dX9_copyFrom_87 ?_
  clear hP hD hS
  intro H locs hP hD hS
  replace hP : va_P D vwCl [(k, .inr (9, [.ref k0, .ref k1, .ref k2, .ref k3, .ref k4, .ref k5, .int d6, .int c7, .int c8])), (k0, .inl (cI, 12, .inl d0)), (k1, .inl (cI, 40, .inl d1)), (k2, .inl (cI, 40, .inl d2)), (k3, .inl (cI, 20, .inl d3)), (o, .inr (9, [.ref o0, .ref o1, .ref o2, .ref o3, .ref o4, .ref o5, .int d6, .int d7, .int d8])), (o0, .inl (cI, 12, .inl d0)), (o1, .inl (cI, 40, .inl d1)), (o2, .inl (cI, 40, .inl d2)), (o3, .inl (cI, 20, .inl d3)), (k4, .inr (8, [.ref k40, .ref k41, .ref k42, .ref k43, .ref k44, .ref k45, .ref k46, .ref k47, .ref k48, .int sc9_3])), (k40, .inl (cI, 60, .inl sc0_4)), (k41, .inl (cI, 60, .inl sc1_5)), (k42, .inl (cI, 60, .inl sc2_6)), (k43, .inl (cI, 60, .inl sc3_7)), (k44, .inl (cI, 60, .inl sc4_8)), (k45, .inl (cI, 60, .inl sc5_9)), (k46, .inl (cI, 40, .inl sc6_10)), (k47, .inl (cI, 40, .inl sc7_11)), (k48, .inl (cI, 40, .inl sc8_12)), (o4, .inr (8, [.ref o40, .ref o41, .ref o42, .ref o43, .ref o44, .ref o45, .ref o46, .ref o47, .ref o48, .int d49])), (o40, .inl (cI, 60, .inl d40)), (o41, .inl (cI, 60, .inl d41)), (o42, .inl (cI, 60, .inl d42)), (o43, .inl (cI, 60, .inl d43)), (o44, .inl (cI, 60, .inl d44)), (o45, .inl (cI, 60, .inl d45)), (o46, .inl (cI, 40, .inl d46)), (o47, .inl (cI, 40, .inl d47)), (o48, .inl (cI, 40, .inl d48)), (k5, .inr (3, [.ref k50, .int sc1_16])), (k50, .inl (cI, 36, .inl sc0_17)), (o5, .inr (3, [.ref o50, .int d51])), (o50, .inl (cI, 36, .inl d50))] H := hP
  replace hD : va_D A [(k, .inr (9, [.ref k0, .ref k1, .ref k2, .ref k3, .ref k4, .ref k5, .int d6, .int c7, .int c8])), (k0, .inl (cI, 12, .inl d0)), (k1, .inl (cI, 40, .inl d1)), (k2, .inl (cI, 40, .inl d2)), (k3, .inl (cI, 20, .inl d3)), (o, .inr (9, [.ref o0, .ref o1, .ref o2, .ref o3, .ref o4, .ref o5, .int d6, .int d7, .int d8])), (o0, .inl (cI, 12, .inl d0)), (o1, .inl (cI, 40, .inl d1)), (o2, .inl (cI, 40, .inl d2)), (o3, .inl (cI, 20, .inl d3)), (k4, .inr (8, [.ref k40, .ref k41, .ref k42, .ref k43, .ref k44, .ref k45, .ref k46, .ref k47, .ref k48, .int sc9_3])), (k40, .inl (cI, 60, .inl sc0_4)), (k41, .inl (cI, 60, .inl sc1_5)), (k42, .inl (cI, 60, .inl sc2_6)), (k43, .inl (cI, 60, .inl sc3_7)), (k44, .inl (cI, 60, .inl sc4_8)), (k45, .inl (cI, 60, .inl sc5_9)), (k46, .inl (cI, 40, .inl sc6_10)), (k47, .inl (cI, 40, .inl sc7_11)), (k48, .inl (cI, 40, .inl sc8_12)), (o4, .inr (8, [.ref o40, .ref o41, .ref o42, .ref o43, .ref o44, .ref o45, .ref o46, .ref o47, .ref o48, .int d49])), (o40, .inl (cI, 60, .inl d40)), (o41, .inl (cI, 60, .inl d41)), (o42, .inl (cI, 60, .inl d42)), (o43, .inl (cI, 60, .inl d43)), (o44, .inl (cI, 60, .inl d44)), (o45, .inl (cI, 60, .inl d45)), (o46, .inl (cI, 40, .inl d46)), (o47, .inl (cI, 40, .inl d47)), (o48, .inl (cI, 40, .inl d48)), (k5, .inr (3, [.ref k50, .int sc1_16])), (k50, .inl (cI, 36, .inl sc0_17)), (o5, .inr (3, [.ref o50, .int d51])), (o50, .inl (cI, 36, .inl d50))] := hD
  refine lv_aload_n hx hb dX9_copyFrom_90 rfl (lv_at hl 0 rfl) ?_
  refine lv_aload_n hx hb dX9_copyFrom_91 rfl (lv_at hl 1 rfl) ?_
  refine va_get (D := D) (ci := 9) (v := .int d7) (C := RX9) (T := TX9) (N := 9) hx hb hT giX9 hown hK hP 5 rfl rfl 7 (by decide) (hT (Cond.fieldLink RX9 42 "DesertWire$World" "reach" "I") mw_105) (fun _ h9 => h9) rfl dX9_copyFrom_92 ?_
  refine va_put (D := D) (ci := 9) (v := .int d7) (ty := .int) (C := RX9) (T := TX9) (N := 9) hx hb hT giX9 tyX9 tyX9_ok nmX9 hown hK hP hD hS 0 rfl rfl 7 (by decide) (hT (Cond.fieldLink RX9 42 "DesertWire$World" "reach" "I") mw_105) (fun _ h9 => h9) rfl (by decide +kernel) rfl rfl (Nat.le_of_ble_eq_true rfl) dX9_copyFrom_95 ?_
  clear hP hD hS
  intro H locs hP hD hS
  replace hP : va_P D vwCl [(k, .inr (9, [.ref k0, .ref k1, .ref k2, .ref k3, .ref k4, .ref k5, .int d6, .int d7, .int c8])), (k0, .inl (cI, 12, .inl d0)), (k1, .inl (cI, 40, .inl d1)), (k2, .inl (cI, 40, .inl d2)), (k3, .inl (cI, 20, .inl d3)), (o, .inr (9, [.ref o0, .ref o1, .ref o2, .ref o3, .ref o4, .ref o5, .int d6, .int d7, .int d8])), (o0, .inl (cI, 12, .inl d0)), (o1, .inl (cI, 40, .inl d1)), (o2, .inl (cI, 40, .inl d2)), (o3, .inl (cI, 20, .inl d3)), (k4, .inr (8, [.ref k40, .ref k41, .ref k42, .ref k43, .ref k44, .ref k45, .ref k46, .ref k47, .ref k48, .int sc9_3])), (k40, .inl (cI, 60, .inl sc0_4)), (k41, .inl (cI, 60, .inl sc1_5)), (k42, .inl (cI, 60, .inl sc2_6)), (k43, .inl (cI, 60, .inl sc3_7)), (k44, .inl (cI, 60, .inl sc4_8)), (k45, .inl (cI, 60, .inl sc5_9)), (k46, .inl (cI, 40, .inl sc6_10)), (k47, .inl (cI, 40, .inl sc7_11)), (k48, .inl (cI, 40, .inl sc8_12)), (o4, .inr (8, [.ref o40, .ref o41, .ref o42, .ref o43, .ref o44, .ref o45, .ref o46, .ref o47, .ref o48, .int d49])), (o40, .inl (cI, 60, .inl d40)), (o41, .inl (cI, 60, .inl d41)), (o42, .inl (cI, 60, .inl d42)), (o43, .inl (cI, 60, .inl d43)), (o44, .inl (cI, 60, .inl d44)), (o45, .inl (cI, 60, .inl d45)), (o46, .inl (cI, 40, .inl d46)), (o47, .inl (cI, 40, .inl d47)), (o48, .inl (cI, 40, .inl d48)), (k5, .inr (3, [.ref k50, .int sc1_16])), (k50, .inl (cI, 36, .inl sc0_17)), (o5, .inr (3, [.ref o50, .int d51])), (o50, .inl (cI, 36, .inl d50))] H := hP
  replace hD : va_D A [(k, .inr (9, [.ref k0, .ref k1, .ref k2, .ref k3, .ref k4, .ref k5, .int d6, .int d7, .int c8])), (k0, .inl (cI, 12, .inl d0)), (k1, .inl (cI, 40, .inl d1)), (k2, .inl (cI, 40, .inl d2)), (k3, .inl (cI, 20, .inl d3)), (o, .inr (9, [.ref o0, .ref o1, .ref o2, .ref o3, .ref o4, .ref o5, .int d6, .int d7, .int d8])), (o0, .inl (cI, 12, .inl d0)), (o1, .inl (cI, 40, .inl d1)), (o2, .inl (cI, 40, .inl d2)), (o3, .inl (cI, 20, .inl d3)), (k4, .inr (8, [.ref k40, .ref k41, .ref k42, .ref k43, .ref k44, .ref k45, .ref k46, .ref k47, .ref k48, .int sc9_3])), (k40, .inl (cI, 60, .inl sc0_4)), (k41, .inl (cI, 60, .inl sc1_5)), (k42, .inl (cI, 60, .inl sc2_6)), (k43, .inl (cI, 60, .inl sc3_7)), (k44, .inl (cI, 60, .inl sc4_8)), (k45, .inl (cI, 60, .inl sc5_9)), (k46, .inl (cI, 40, .inl sc6_10)), (k47, .inl (cI, 40, .inl sc7_11)), (k48, .inl (cI, 40, .inl sc8_12)), (o4, .inr (8, [.ref o40, .ref o41, .ref o42, .ref o43, .ref o44, .ref o45, .ref o46, .ref o47, .ref o48, .int d49])), (o40, .inl (cI, 60, .inl d40)), (o41, .inl (cI, 60, .inl d41)), (o42, .inl (cI, 60, .inl d42)), (o43, .inl (cI, 60, .inl d43)), (o44, .inl (cI, 60, .inl d44)), (o45, .inl (cI, 60, .inl d45)), (o46, .inl (cI, 40, .inl d46)), (o47, .inl (cI, 40, .inl d47)), (o48, .inl (cI, 40, .inl d48)), (k5, .inr (3, [.ref k50, .int sc1_16])), (k50, .inl (cI, 36, .inl sc0_17)), (o5, .inr (3, [.ref o50, .int d51])), (o50, .inl (cI, 36, .inl d50))] := hD
  refine lv_aload_n hx hb dX9_copyFrom_98 rfl (lv_at hl 0 rfl) ?_
  refine lv_aload_n hx hb dX9_copyFrom_99 rfl (lv_at hl 1 rfl) ?_
  refine va_get (D := D) (ci := 9) (v := .int d8) (C := RX9) (T := TX9) (N := 9) hx hb hT giX9 hown hK hP 5 rfl rfl 8 (by decide) (hT (Cond.fieldLink RX9 45 "DesertWire$World" "day" "I") mw_108) (fun _ h9 => h9) rfl dX9_copyFrom_100 ?_
  refine va_put (D := D) (ci := 9) (v := .int d8) (ty := .int) (C := RX9) (T := TX9) (N := 9) hx hb hT giX9 tyX9 tyX9_ok nmX9 hown hK hP hD hS 0 rfl rfl 8 (by decide) (hT (Cond.fieldLink RX9 45 "DesertWire$World" "day" "I") mw_108) (fun _ h9 => h9) rfl (by decide +kernel) rfl rfl (Nat.le_of_ble_eq_true rfl) dX9_copyFrom_103 ?_
  clear hP hD hS
  intro H locs hP hD hS
  replace hP : va_P D vwCl [(k, .inr (9, [.ref k0, .ref k1, .ref k2, .ref k3, .ref k4, .ref k5, .int d6, .int d7, .int d8])), (k0, .inl (cI, 12, .inl d0)), (k1, .inl (cI, 40, .inl d1)), (k2, .inl (cI, 40, .inl d2)), (k3, .inl (cI, 20, .inl d3)), (o, .inr (9, [.ref o0, .ref o1, .ref o2, .ref o3, .ref o4, .ref o5, .int d6, .int d7, .int d8])), (o0, .inl (cI, 12, .inl d0)), (o1, .inl (cI, 40, .inl d1)), (o2, .inl (cI, 40, .inl d2)), (o3, .inl (cI, 20, .inl d3)), (k4, .inr (8, [.ref k40, .ref k41, .ref k42, .ref k43, .ref k44, .ref k45, .ref k46, .ref k47, .ref k48, .int sc9_3])), (k40, .inl (cI, 60, .inl sc0_4)), (k41, .inl (cI, 60, .inl sc1_5)), (k42, .inl (cI, 60, .inl sc2_6)), (k43, .inl (cI, 60, .inl sc3_7)), (k44, .inl (cI, 60, .inl sc4_8)), (k45, .inl (cI, 60, .inl sc5_9)), (k46, .inl (cI, 40, .inl sc6_10)), (k47, .inl (cI, 40, .inl sc7_11)), (k48, .inl (cI, 40, .inl sc8_12)), (o4, .inr (8, [.ref o40, .ref o41, .ref o42, .ref o43, .ref o44, .ref o45, .ref o46, .ref o47, .ref o48, .int d49])), (o40, .inl (cI, 60, .inl d40)), (o41, .inl (cI, 60, .inl d41)), (o42, .inl (cI, 60, .inl d42)), (o43, .inl (cI, 60, .inl d43)), (o44, .inl (cI, 60, .inl d44)), (o45, .inl (cI, 60, .inl d45)), (o46, .inl (cI, 40, .inl d46)), (o47, .inl (cI, 40, .inl d47)), (o48, .inl (cI, 40, .inl d48)), (k5, .inr (3, [.ref k50, .int sc1_16])), (k50, .inl (cI, 36, .inl sc0_17)), (o5, .inr (3, [.ref o50, .int d51])), (o50, .inl (cI, 36, .inl d50))] H := hP
  replace hD : va_D A [(k, .inr (9, [.ref k0, .ref k1, .ref k2, .ref k3, .ref k4, .ref k5, .int d6, .int d7, .int d8])), (k0, .inl (cI, 12, .inl d0)), (k1, .inl (cI, 40, .inl d1)), (k2, .inl (cI, 40, .inl d2)), (k3, .inl (cI, 20, .inl d3)), (o, .inr (9, [.ref o0, .ref o1, .ref o2, .ref o3, .ref o4, .ref o5, .int d6, .int d7, .int d8])), (o0, .inl (cI, 12, .inl d0)), (o1, .inl (cI, 40, .inl d1)), (o2, .inl (cI, 40, .inl d2)), (o3, .inl (cI, 20, .inl d3)), (k4, .inr (8, [.ref k40, .ref k41, .ref k42, .ref k43, .ref k44, .ref k45, .ref k46, .ref k47, .ref k48, .int sc9_3])), (k40, .inl (cI, 60, .inl sc0_4)), (k41, .inl (cI, 60, .inl sc1_5)), (k42, .inl (cI, 60, .inl sc2_6)), (k43, .inl (cI, 60, .inl sc3_7)), (k44, .inl (cI, 60, .inl sc4_8)), (k45, .inl (cI, 60, .inl sc5_9)), (k46, .inl (cI, 40, .inl sc6_10)), (k47, .inl (cI, 40, .inl sc7_11)), (k48, .inl (cI, 40, .inl sc8_12)), (o4, .inr (8, [.ref o40, .ref o41, .ref o42, .ref o43, .ref o44, .ref o45, .ref o46, .ref o47, .ref o48, .int d49])), (o40, .inl (cI, 60, .inl d40)), (o41, .inl (cI, 60, .inl d41)), (o42, .inl (cI, 60, .inl d42)), (o43, .inl (cI, 60, .inl d43)), (o44, .inl (cI, 60, .inl d44)), (o45, .inl (cI, 60, .inl d45)), (o46, .inl (cI, 40, .inl d46)), (o47, .inl (cI, 40, .inl d47)), (o48, .inl (cI, 40, .inl d48)), (k5, .inr (3, [.ref k50, .int sc1_16])), (k50, .inl (cI, 36, .inl sc0_17)), (o5, .inr (3, [.ref o50, .int d51])), (o50, .inl (cI, 36, .inl d50))] := hD
  exact hRet (d6, d7, d8, d0, d1, d2, d3, sc9_3, sc1_16, sc0_4, sc1_5, sc2_6, sc3_7, sc4_8, sc5_9, sc6_10, sc7_11, sc8_12, sc0_17) [0, 1, 2, 3, 4, 10, 30, 11, 12, 13, 14, 15, 16, 17, 18, 19, 31, 5, 6, 7, 8, 9, 20, 32, 21, 22, 23, 24, 25, 26, 27, 28, 29, 33] ⟨rfl, rfl, rfl, rfl, rfl, rfl, h_19⟩ hP hD (by decide) rfl hS dX9_copyFrom_106
