
set_option maxHeartbeats 4000000 in
set_option maxRecDepth 100000 in
theorem c_X3_copyFromD (l : Launch) (D : va_G) (cI : ClassId) (aK aV : Nat → Nat) (k o k0 o0 : Nat) (sz : Nat) (c1 : Int32) (c0 : Nat → Int32) (d1 : Int32) (d0 : Nat → Int32) : Met l yX3_copyFrom (gW yX3_copyFrom cX3_copyFrom 2 none) ({ frames := 1, cells := 0, slots := 0, locals := 64 } : Room) (kPreX D cI aK aV [.ref k, .ref o] [(k, .inr (3, [.ref k0, .int c1])), (k0, .inl (cI, 36, .inl c0)), (o, .inr (3, [.ref o0, .int d1])), (o0, .inl (cI, 36, .inl d0))] sz) (va_Qv (fun (u : Int32 × (Nat → Int32)) => u.2 = d0 ∧ u.1 = d1) (fun u t => kWd D cI (va_A [(k, .inr (3, [.ref k0, .int c1])), (k0, .inl (cI, 36, .inl c0)), (o, .inr (3, [.ref o0, .int d1])), (o0, .inl (cI, 36, .inl d0))] sz) [(k, .inr (3, [.ref k0, .int u.1])), (k0, .inl (cI, 36, .inl u.2)), (o, .inr (3, [.ref o0, .int d1])), (o0, .inl (cI, 36, .inl d0))] t) (va_A [(k, .inr (3, [.ref k0, .int c1])), (k0, .inl (cI, 36, .inl c0)), (o, .inr (3, [.ref o0, .int d1])), (o0, .inl (cI, 36, .inl d0))] sz)) 0 0 (va_A [(k, .inr (3, [.ref k0, .int c1])), (k0, .inl (cI, 36, .inl c0)), (o, .inr (3, [.ref o0, .int d1])), (o0, .inl (cI, 36, .inl d0))] sz) := by
  refine kMetVX (own := RX3) (by decide +kernel) rfl (Nat.le_of_ble_eq_true rfl) ?_
  intro p e s m args below meth c hx hb hT hown hname hml A Q hK hP hD hS hA hN hXS hRet ls hl
  have hl : lv_has ls 2 [(0, .ref k), (1, .ref o)] := hl
  have lo_c1 := k_lo c1
  have hi_c1 := k_hi c1
  have lo_d1 := k_lo d1
  have hi_d1 := k_hi d1
  refine lv_aload_n hx hb dX3_copyFrom_0 rfl (lv_at hl 1 rfl) ?_
  refine va_get (D := D) (ci := 3) (v := .ref o0) (C := RX3) (T := TX3) (N := 2) hx hb hT giX3 hown hK hP 2 rfl rfl 0 (by decide +kernel) (hT (Cond.fieldLink RX3 9 "DesertWire$Parties" "facts" "[I") mw_80) (fun _ h9 => h9) rfl dX3_copyFrom_1 ?_
  refine lv_iconst (v := 0) hx hb dX3_copyFrom_4 (by decide +kernel) ?_
  refine lv_aload_n hx hb dX3_copyFrom_5 rfl (lv_at hl 0 rfl) ?_
  refine va_get (D := D) (ci := 3) (v := .ref k0) (C := RX3) (T := TX3) (N := 2) hx hb hT giX3 hown hK hP 0 rfl rfl 0 (by decide +kernel) (hT (Cond.fieldLink RX3 9 "DesertWire$Parties" "facts" "[I") mw_80) (fun _ h9 => h9) rfl dX3_copyFrom_6 ?_
  refine lv_iconst (v := 0) hx hb dX3_copyFrom_9 (by decide +kernel) ?_
  refine lv_bipush (v := 36) hx hb dX3_copyFrom_10 (by decide +kernel) ?_
  refine k_copy (c0 := cI) (c1 := cI) hx hb (hml.trans hl.1.symm) hown (hT _ mw_1025) (hT _ mw_865) (hT _ mw_864) (hT _ mw_19) hK hP hD hS 3 1 rfl rfl (by decide +kernel) (by decide +kernel) (Nat.le_of_ble_eq_true rfl) (by decide +kernel) dX3_copyFrom_12 ?_
  clear hP hD hS
  intro H locs hP hD hS
  replace hP : va_P D vwCl [(k, .inr (3, [.ref k0, .int c1])), (k0, .inl (cI, 36, .inl d0)), (o, .inr (3, [.ref o0, .int d1])), (o0, .inl (cI, 36, .inl d0))] H := hP
  replace hD : va_D A [(k, .inr (3, [.ref k0, .int c1])), (k0, .inl (cI, 36, .inl d0)), (o, .inr (3, [.ref o0, .int d1])), (o0, .inl (cI, 36, .inl d0))] := hD
  refine lv_aload_n hx hb dX3_copyFrom_15 rfl (lv_at hl 0 rfl) ?_
  refine lv_aload_n hx hb dX3_copyFrom_16 rfl (lv_at hl 1 rfl) ?_
  refine va_get (D := D) (ci := 3) (v := .int d1) (C := RX3) (T := TX3) (N := 2) hx hb hT giX3 hown hK hP 2 rfl rfl 1 (by decide +kernel) (hT (Cond.fieldLink RX3 15 "DesertWire$Parties" "number" "I") mw_81) (fun _ h9 => h9) rfl dX3_copyFrom_17 ?_
  refine va_put (D := D) (ci := 3) (v := .int d1) (ty := .int) (C := RX3) (T := TX3) (N := 2) hx hb hT giX3 tyX3 tyX3_ok nmX3 hown hK hP hD hS 0 rfl rfl 1 (by decide +kernel) (hT (Cond.fieldLink RX3 15 "DesertWire$Parties" "number" "I") mw_81) (fun _ h9 => h9) rfl (by decide +kernel) rfl rfl (Nat.le_of_ble_eq_true rfl) dX3_copyFrom_20 ?_
  clear hP hD hS
  intro H locs hP hD hS
  replace hP : va_P D vwCl [(k, .inr (3, [.ref k0, .int d1])), (k0, .inl (cI, 36, .inl d0)), (o, .inr (3, [.ref o0, .int d1])), (o0, .inl (cI, 36, .inl d0))] H := hP
  replace hD : va_D A [(k, .inr (3, [.ref k0, .int d1])), (k0, .inl (cI, 36, .inl d0)), (o, .inr (3, [.ref o0, .int d1])), (o0, .inl (cI, 36, .inl d0))] := hD
  exact hRet (d1, d0) [0, 1, 2, 3] ⟨rfl, rfl⟩ hP hD (by decide +kernel) rfl hS dX3_copyFrom_23

set_option maxHeartbeats 4000000 in
set_option maxRecDepth 100000 in
theorem c_X9_soilOfD (l : Launch) (D : va_G) (cI : ClassId) (aK aV : Nat → Nat) (k k0 k1 k2 k3 k4 k5 : Nat) (sz : Nat) (c6 : Int32) (c7 : Int32) (c8 : Int32) (c1 : Nat → Int32) (a0 : Int32) : Met l yX9_soilOf (gW yX9_soilOf cX9_soilOf 2 (some .int)) ({ frames := 1, cells := 0, slots := 0, locals := 20 } : Room) (kPreX D cI aK aV [.ref k, .int a0] [(k, .inr (9, [.ref k0, .ref k1, .ref k2, .ref k3, .ref k4, .ref k5, .int c6, .int c7, .int c8])), (k1, .inl (cI, 40, .inl c1))] sz) (va_Qi (fun (r : Int32) (u : Unit) => (0 ≤ a0.toInt ∧ a0.toInt ≤ 39 ∧ r = c1 a0.toNatClampNeg) ∨ (r = 0 ∧ (a0.toInt < 0 ∨ 39 < a0.toInt))) (fun u t => kWd D cI (va_A [(k, .inr (9, [.ref k0, .ref k1, .ref k2, .ref k3, .ref k4, .ref k5, .int c6, .int c7, .int c8])), (k1, .inl (cI, 40, .inl c1))] sz) [(k, .inr (9, [.ref k0, .ref k1, .ref k2, .ref k3, .ref k4, .ref k5, .int c6, .int c7, .int c8])), (k1, .inl (cI, 40, .inl c1))] t) (va_A [(k, .inr (9, [.ref k0, .ref k1, .ref k2, .ref k3, .ref k4, .ref k5, .int c6, .int c7, .int c8])), (k1, .inl (cI, 40, .inl c1))] sz)) 0 0 (va_A [(k, .inr (9, [.ref k0, .ref k1, .ref k2, .ref k3, .ref k4, .ref k5, .int c6, .int c7, .int c8])), (k1, .inl (cI, 40, .inl c1))] sz) := by
  refine kMetIX (own := RX9) (by decide +kernel) rfl (Nat.le_of_ble_eq_true rfl) ?_
  intro p e s m args below meth c hx hb hT hown hname hml A Q hK hP hD hS hA hN hXS hRet ls hl
  have hl : lv_has ls 2 [(0, .ref k), (1, .int a0)] := hl
  have lo_a0 := k_lo a0
  have hi_a0 := k_hi a0
  refine lv_iload_n hx hb dX9_soilOf_0 rfl (lv_at hl 1 rfl) ?_
  refine kJi (wr := [(k, .inr (9, [.ref k0, .ref k1, .ref k2, .ref k3, .ref k4, .ref k5, .int c6, .int c7, .int c8])), (k1, .inl (cI, 40, .inl c1))]) (va_runSN (As := [.int a0]) (rest := []) ⟨hx, hb, hml, hown, hT⟩ (c_X10_isMileG l D cI aK aV s.heap.size a0) ⟨va_cnB 1 hT (gW_in mw_346) rfl rfl rfl (hN _ mw_424) (hT _ mw_1) (by decide +kernel) ⟨Nat.le_of_ble_eq_true rfl, Nat.le_of_ble_eq_true rfl⟩, hT _ mw_345, trivial⟩ (kStatX hK hP hD hN hXS hS hA [] rfl (by decide +kernel)) rfl rfl hl.1 rfl (lv_room (Nat.le_of_ble_eq_true rfl)) dX9_soilOf_1 ⟨Nat.le_of_ble_eq_true rfl, Nat.le_of_ble_eq_true rfl⟩) hP hD hS hA [] [0, 1] rfl rfl (by decide +kernel) (by decide +kernel) ?_
  clear hP hD hS
  intro r_1 u_3 H locs w_2 hP hD hS
  replace hP : va_P D vwCl [(k, .inr (9, [.ref k0, .ref k1, .ref k2, .ref k3, .ref k4, .ref k5, .int c6, .int c7, .int c8])), (k1, .inl (cI, 40, .inl c1))] H := hP
  replace hD : va_D A [(k, .inr (9, [.ref k0, .ref k1, .ref k2, .ref k3, .ref k4, .ref k5, .int c6, .int c7, .int c8])), (k1, .inl (cI, 40, .inl c1))] := hD
  rcases w_2 with ⟨hr_1, h_4, h_5⟩ | ⟨hr_1, h_6⟩
  · have h_4 : 0 ≤ a0.toInt := h_4
    have h_5 : a0.toInt ≤ 39 := h_5
    obtain rfl : r_1 = 1 := hr_1.trans (by decide +kernel)
    refine b_if_eq hx hb zl_1 (tgt := 16) dX9_soilOf_4 (by decide +kernel) (fun c_7 => by exfalso; omega) (fun c_7 => ?_)
    refine lv_aload_n hx hb dX9_soilOf_7 rfl (lv_at hl 0 rfl) ?_
    refine va_get (D := D) (ci := 9) (v := .ref k1) (C := RX9) (T := TX9) (N := 9) hx hb hT giX9 hown hK hP 0 rfl rfl 1 (by decide +kernel) (hT (Cond.fieldLink RX9 15 "DesertWire$World" "soils" "[I") mw_91) (fun _ h9 => h9) rfl dX9_soilOf_8 ?_
    refine lv_iload_n hx hb dX9_soilOf_11 rfl (lv_at hl 1 rfl) ?_
    refine k_iald (v := (c1 a0.toNatClampNeg)) hx hb hK hP 1 0 rfl rfl (k_in (by omega) (by omega)) rfl dX9_soilOf_12 ?_
    refine lv_topi (fun v_8 ev_8 => ?_)
    have lo_v_8 := k_lo v_8
    have hi_v_8 := k_hi v_8
    have tv_8 : v_8.toInt = (c1 a0.toNatClampNeg).toInt := by rw [ev_8]
    refine lv_goto (tgt := 17) hx hb dX9_soilOf_13 (by decide +kernel) ?_
    exact hRet () [0, 1] (by first | exact Or.inl ⟨(by omega), (by omega), ev_8⟩ | exact Or.inr (⟨ev_8, (by omega)⟩)) hP hD (by decide +kernel) rfl hS rfl dX9_soilOf_17
  · have h_6 : a0.toInt < 0 ∨ 39 < a0.toInt := h_6
    obtain rfl : r_1 = 0 := hr_1.trans (by decide +kernel)
    refine b_if_eq hx hb zl_0 (tgt := 16) dX9_soilOf_4 (by decide +kernel) (fun c_9 => ?_) (fun c_9 => by exfalso; omega)
    refine lv_iconst (v := 0) hx hb dX9_soilOf_16 (by decide +kernel) ?_
    exact hRet () [0, 1] (by first | exact Or.inl ⟨(by omega), (by omega), e0⟩ | exact Or.inr (⟨rfl, (by omega)⟩)) hP hD (by decide +kernel) rfl hS rfl dX9_soilOf_17

set_option maxHeartbeats 4000000 in
set_option maxRecDepth 100000 in
theorem c_X9_springOfD (l : Launch) (D : va_G) (cI : ClassId) (aK aV : Nat → Nat) (k k0 k1 k2 k3 k4 k5 : Nat) (sz : Nat) (c6 : Int32) (c7 : Int32) (c8 : Int32) (c2 : Nat → Int32) (a0 : Int32) : Met l yX9_springOf (gW yX9_springOf cX9_springOf 2 (some .int)) ({ frames := 1, cells := 0, slots := 0, locals := 20 } : Room) (kPreX D cI aK aV [.ref k, .int a0] [(k, .inr (9, [.ref k0, .ref k1, .ref k2, .ref k3, .ref k4, .ref k5, .int c6, .int c7, .int c8])), (k2, .inl (cI, 40, .inl c2))] sz) (va_Qi (fun (r : Int32) (u : Unit) => (0 ≤ a0.toInt ∧ a0.toInt ≤ 39 ∧ r = c2 a0.toNatClampNeg) ∨ (r = 0 ∧ (a0.toInt < 0 ∨ 39 < a0.toInt))) (fun u t => kWd D cI (va_A [(k, .inr (9, [.ref k0, .ref k1, .ref k2, .ref k3, .ref k4, .ref k5, .int c6, .int c7, .int c8])), (k2, .inl (cI, 40, .inl c2))] sz) [(k, .inr (9, [.ref k0, .ref k1, .ref k2, .ref k3, .ref k4, .ref k5, .int c6, .int c7, .int c8])), (k2, .inl (cI, 40, .inl c2))] t) (va_A [(k, .inr (9, [.ref k0, .ref k1, .ref k2, .ref k3, .ref k4, .ref k5, .int c6, .int c7, .int c8])), (k2, .inl (cI, 40, .inl c2))] sz)) 0 0 (va_A [(k, .inr (9, [.ref k0, .ref k1, .ref k2, .ref k3, .ref k4, .ref k5, .int c6, .int c7, .int c8])), (k2, .inl (cI, 40, .inl c2))] sz) := by
  refine kMetIX (own := RX9) (by decide +kernel) rfl (Nat.le_of_ble_eq_true rfl) ?_
  intro p e s m args below meth c hx hb hT hown hname hml A Q hK hP hD hS hA hN hXS hRet ls hl
  have hl : lv_has ls 2 [(0, .ref k), (1, .int a0)] := hl
  have lo_a0 := k_lo a0
  have hi_a0 := k_hi a0
  refine lv_iload_n hx hb dX9_springOf_0 rfl (lv_at hl 1 rfl) ?_
  refine kJi (wr := [(k, .inr (9, [.ref k0, .ref k1, .ref k2, .ref k3, .ref k4, .ref k5, .int c6, .int c7, .int c8])), (k2, .inl (cI, 40, .inl c2))]) (va_runSN (As := [.int a0]) (rest := []) ⟨hx, hb, hml, hown, hT⟩ (c_X10_isMileG l D cI aK aV s.heap.size a0) ⟨va_cnB 1 hT (gW_in mw_346) rfl rfl rfl (hN _ mw_424) (hT _ mw_1) (by decide +kernel) ⟨Nat.le_of_ble_eq_true rfl, Nat.le_of_ble_eq_true rfl⟩, hT _ mw_345, trivial⟩ (kStatX hK hP hD hN hXS hS hA [] rfl (by decide +kernel)) rfl rfl hl.1 rfl (lv_room (Nat.le_of_ble_eq_true rfl)) dX9_springOf_1 ⟨Nat.le_of_ble_eq_true rfl, Nat.le_of_ble_eq_true rfl⟩) hP hD hS hA [] [0, 1] rfl rfl (by decide +kernel) (by decide +kernel) ?_
  clear hP hD hS
  intro r_1 u_3 H locs w_2 hP hD hS
  replace hP : va_P D vwCl [(k, .inr (9, [.ref k0, .ref k1, .ref k2, .ref k3, .ref k4, .ref k5, .int c6, .int c7, .int c8])), (k2, .inl (cI, 40, .inl c2))] H := hP
  replace hD : va_D A [(k, .inr (9, [.ref k0, .ref k1, .ref k2, .ref k3, .ref k4, .ref k5, .int c6, .int c7, .int c8])), (k2, .inl (cI, 40, .inl c2))] := hD
  rcases w_2 with ⟨hr_1, h_4, h_5⟩ | ⟨hr_1, h_6⟩
  · have h_4 : 0 ≤ a0.toInt := h_4
    have h_5 : a0.toInt ≤ 39 := h_5
    obtain rfl : r_1 = 1 := hr_1.trans (by decide +kernel)
    refine b_if_eq hx hb zl_1 (tgt := 16) dX9_springOf_4 (by decide +kernel) (fun c_7 => by exfalso; omega) (fun c_7 => ?_)
    refine lv_aload_n hx hb dX9_springOf_7 rfl (lv_at hl 0 rfl) ?_
    refine va_get (D := D) (ci := 9) (v := .ref k2) (C := RX9) (T := TX9) (N := 9) hx hb hT giX9 hown hK hP 0 rfl rfl 2 (by decide +kernel) (hT (Cond.fieldLink RX9 18 "DesertWire$World" "springs" "[I") mw_93) (fun _ h9 => h9) rfl dX9_springOf_8 ?_
    refine lv_iload_n hx hb dX9_springOf_11 rfl (lv_at hl 1 rfl) ?_
    refine k_iald (v := (c2 a0.toNatClampNeg)) hx hb hK hP 1 0 rfl rfl (k_in (by omega) (by omega)) rfl dX9_springOf_12 ?_
    refine lv_topi (fun v_8 ev_8 => ?_)
    have lo_v_8 := k_lo v_8
    have hi_v_8 := k_hi v_8
    have tv_8 : v_8.toInt = (c2 a0.toNatClampNeg).toInt := by rw [ev_8]
    refine lv_goto (tgt := 17) hx hb dX9_springOf_13 (by decide +kernel) ?_
    exact hRet () [0, 1] (by first | exact Or.inl ⟨(by omega), (by omega), ev_8⟩ | exact Or.inr (⟨ev_8, (by omega)⟩)) hP hD (by decide +kernel) rfl hS rfl dX9_springOf_17
  · have h_6 : a0.toInt < 0 ∨ 39 < a0.toInt := h_6
    obtain rfl : r_1 = 0 := hr_1.trans (by decide +kernel)
    refine b_if_eq hx hb zl_0 (tgt := 16) dX9_springOf_4 (by decide +kernel) (fun c_9 => ?_) (fun c_9 => by exfalso; omega)
    refine lv_iconst (v := 0) hx hb dX9_springOf_16 (by decide +kernel) ?_
    exact hRet () [0, 1] (by first | exact Or.inl ⟨(by omega), (by omega), e0⟩ | exact Or.inr (⟨rfl, (by omega)⟩)) hP hD (by decide +kernel) rfl hS rfl dX9_springOf_17

set_option maxHeartbeats 4000000 in
set_option maxRecDepth 100000 in
theorem c_X9_rainNowD (l : Launch) (D : va_G) (cI : ClassId) (aK aV : Nat → Nat) (k k0 k1 k2 k3 k4 k5 : Nat) (sz : Nat) (c6 : Int32) (c7 : Int32) (c8 : Int32) (c0 : Nat → Int32) (c1 : Nat → Int32) (c2 : Nat → Int32) (c3 : Nat → Int32) (c40 : Nat → Int32) (c41 : Nat → Int32) (c42 : Nat → Int32) (c43 : Nat → Int32) (c44 : Nat → Int32) (c45 : Nat → Int32) (c46 : Nat → Int32) (c47 : Nat → Int32) (c48 : Nat → Int32) (c49 : Int32) (c50 : Nat → Int32) (c51 : Int32) (gx : Nat → Int32) (pre0 : WR c0 c1 c2 c3 c40 c41 c42 c43 c44 c45 c46 c47 c48 c49 c50 c51 c6 c7 c8 gx) (pre1 : 0 ≤ c8.toInt) : Met l yX9_rainNow (gW yX9_rainNow cX9_rainNow 2 (some .int)) ({ frames := 1, cells := 0, slots := 0, locals := 20 } : Room) (kPreX D cI aK aV [.ref k] [(k, .inr (9, [.ref k0, .ref k1, .ref k2, .ref k3, .ref k4, .ref k5, .int c6, .int c7, .int c8])), (k0, .inl (cI, 12, .inl c0))] sz) (va_Qi (fun (r : Int32) (u : Unit) => r = rnF gx) (fun u t => kWd D cI (va_A [(k, .inr (9, [.ref k0, .ref k1, .ref k2, .ref k3, .ref k4, .ref k5, .int c6, .int c7, .int c8])), (k0, .inl (cI, 12, .inl c0))] sz) [(k, .inr (9, [.ref k0, .ref k1, .ref k2, .ref k3, .ref k4, .ref k5, .int c6, .int c7, .int c8])), (k0, .inl (cI, 12, .inl c0))] t) (va_A [(k, .inr (9, [.ref k0, .ref k1, .ref k2, .ref k3, .ref k4, .ref k5, .int c6, .int c7, .int c8])), (k0, .inl (cI, 12, .inl c0))] sz)) 0 0 (va_A [(k, .inr (9, [.ref k0, .ref k1, .ref k2, .ref k3, .ref k4, .ref k5, .int c6, .int c7, .int c8])), (k0, .inl (cI, 12, .inl c0))] sz) := by
  refine kMetIX (own := RX9) (by decide +kernel) rfl (Nat.le_of_ble_eq_true rfl) ?_
  intro p e s m args below meth c hx hb hT hown hname hml A Q hK hP hD hS hA hN hXS hRet ls hl
  have hl : lv_has ls 2 [(0, .ref k)] := hl
  have lo_c6 := k_lo c6
  have hi_c6 := k_hi c6
  have lo_c7 := k_lo c7
  have hi_c7 := k_hi c7
  have lo_c8 := k_lo c8
  have hi_c8 := k_hi c8
  have lo_c49 := k_lo c49
  have hi_c49 := k_hi c49
  have lo_c51 := k_lo c51
  have hi_c51 := k_hi c51
  have pre0 : WR c0 c1 c2 c3 c40 c41 c42 c43 c44 c45 c46 c47 c48 c49 c50 c51 c6 c7 c8 gx := pre0
  have b_1 : 0 ≤ c49.toInt ∧ c49.toInt ≤ 60 := WKR.n0 (WR.kw pre0)
  have t_2 : c49.toInt = (gx 1).toInt := WKR.nt (WR.kw pre0)
  have b_3 : 0 ≤ c51.toInt ∧ c51.toInt ≤ 4 := ((WR.kp pre0)).2.1
  have t_4 : c51.toInt = (gx 2).toInt := PTR.nt (WR.kp pre0)
  have t_5 : c8.toInt = (gx 0).toInt := by rw [WR.dd pre0]
  refine lv_aload_n hx hb dX9_rainNow_0 rfl (lv_at hl 0 rfl) ?_
  refine va_get (D := D) (ci := 9) (v := .int c8) (C := RX9) (T := TX9) (N := 9) hx hb hT giX9 hown hK hP 0 rfl rfl 8 (by decide +kernel) (hT (Cond.fieldLink RX9 45 "DesertWire$World" "day" "I") mw_108) (fun _ h9 => h9) rfl dX9_rainNow_1 ?_
  refine kJi (wr := [(k, .inr (9, [.ref k0, .ref k1, .ref k2, .ref k3, .ref k4, .ref k5, .int c6, .int c7, .int c8])), (k0, .inl (cI, 12, .inl c0))]) (va_runSN (As := [.int c8]) (rest := []) ⟨hx, hb, hml, hown, hT⟩ (c_X10_monthOfD l D cI aK aV s.heap.size c8 (by first | omega | decide | assumption | rfl)) ⟨va_cnB 1 hT (gW_in mw_636) rfl rfl rfl (hN _ mw_634) (hT _ mw_1) (by decide +kernel) ⟨Nat.le_of_ble_eq_true rfl, Nat.le_of_ble_eq_true rfl⟩, hT _ mw_635, trivial⟩ (kStatX hK hP hD hN hXS hS hA [] rfl (by decide +kernel)) rfl rfl hl.1 rfl (lv_room (Nat.le_of_ble_eq_true rfl)) dX9_rainNow_4 ⟨Nat.le_of_ble_eq_true rfl, Nat.le_of_ble_eq_true rfl⟩) hP hD hS hA [] [0, 1] rfl rfl (by decide +kernel) (by decide +kernel) ?_
  clear hP hD hS
  intro r_6 u_8 H locs w_7 hP hD hS
  replace hP : va_P D vwCl [(k, .inr (9, [.ref k0, .ref k1, .ref k2, .ref k3, .ref k4, .ref k5, .int c6, .int c7, .int c8])), (k0, .inl (cI, 12, .inl c0))] H := hP
  replace hD : va_D A [(k, .inr (9, [.ref k0, .ref k1, .ref k2, .ref k3, .ref k4, .ref k5, .int c6, .int c7, .int c8])), (k0, .inl (cI, 12, .inl c0))] := hD
  obtain ⟨h_9, h_10, h_11⟩ := w_7
  have h_9 : r_6.toInt = c8.toInt / 30 % 12 := h_9
  have h_10 : 0 ≤ r_6.toInt := h_10
  have h_11 : r_6.toInt ≤ 11 := h_11
  have lo_r_6 := k_lo r_6
  have hi_r_6 := k_hi r_6
  refine lv_istore_n (lv' := [(1, .int r_6), (0, .ref k)]) hx hb dX9_rainNow_7 rfl hl (by decide +kernel) rfl ?_
  clear hl
  intro ls hl
  refine lv_iload_n hx hb dX9_rainNow_8 rfl (lv_at hl 0 rfl) ?_
  refine b_if_lt hx hb rfl (tgt := 27) dX9_rainNow_9 (by decide +kernel) (fun c_12 => by exfalso; omega) (fun c_12 => ?_)
  refine lv_iload_n hx hb dX9_rainNow_12 rfl (lv_at hl 0 rfl) ?_
  refine lv_bipush (v := 12) hx hb dX9_rainNow_13 (by decide +kernel) ?_
  refine b_icmp_ge hx hb rfl zl_12 (tgt := 27) dX9_rainNow_15 (by decide +kernel) (fun c_13 => by exfalso; omega) (fun c_13 => ?_)
  refine lv_aload_n hx hb dX9_rainNow_18 rfl (lv_at hl 1 rfl) ?_
  refine va_get (D := D) (ci := 9) (v := .ref k0) (C := RX9) (T := TX9) (N := 9) hx hb hT giX9 hown hK hP 0 rfl rfl 0 (by decide +kernel) (hT (Cond.fieldLink RX9 9 "DesertWire$World" "rains" "[I") mw_89) (fun _ h9 => h9) rfl dX9_rainNow_19 ?_
  refine lv_iload_n hx hb dX9_rainNow_22 rfl (lv_at hl 0 rfl) ?_
  refine k_iald (v := (c0 r_6.toNatClampNeg)) hx hb hK hP 1 0 rfl rfl (k_in (by omega) (by omega)) rfl dX9_rainNow_23 ?_
  refine lv_topi (fun v_14 ev_14 => ?_)
  have lo_v_14 := k_lo v_14
  have hi_v_14 := k_hi v_14
  have tv_14 : v_14.toInt = (c0 r_6.toNatClampNeg).toInt := by rw [ev_14]
  have h_15 : v_14 = gx (7 + r_6.toInt.toNat) := Eq.trans ev_14 (WR.rn pre0 (by omega) (by omega))
  refine lv_goto (tgt := 28) hx hb dX9_rainNow_24 (by decide +kernel) ?_
  exact hRet () [0, 1] (h_15.trans (by unfold rnF; congr 2; omega)) hP hD (by decide +kernel) rfl hS rfl dX9_rainNow_28

set_option maxHeartbeats 4000000 in
set_option maxRecDepth 100000 in
theorem c_X9_effortOfD (l : Launch) (D : va_G) (cI : ClassId) (aK aV : Nat → Nat) (k k0 k1 k2 k3 k4 k5 : Nat) (sz : Nat) (c6 : Int32) (c7 : Int32) (c8 : Int32) (c0 : Nat → Int32) (c1 : Nat → Int32) (c2 : Nat → Int32) (c3 : Nat → Int32) (c40 : Nat → Int32) (c41 : Nat → Int32) (c42 : Nat → Int32) (c43 : Nat → Int32) (c44 : Nat → Int32) (c45 : Nat → Int32) (c46 : Nat → Int32) (c47 : Nat → Int32) (c48 : Nat → Int32) (c49 : Int32) (c50 : Nat → Int32) (c51 : Int32) (gx : Nat → Int32) (a0 : Int32) (pre0 : WR c0 c1 c2 c3 c40 c41 c42 c43 c44 c45 c46 c47 c48 c49 c50 c51 c6 c7 c8 gx) (pre1 : SB gx) (pre2 : 0 ≤ c8.toInt) (pre3 : 0 ≤ a0.toInt) (pre4 : a0.toInt ≤ 39) : Met l yX9_effortOf (gW yX9_effortOf cX9_effortOf 2 (some .int)) ({ frames := 2, cells := 0, slots := 0, locals := 41 } : Room) (kPreX D cI aK aV [.ref k, .int a0] [(k, .inr (9, [.ref k0, .ref k1, .ref k2, .ref k3, .ref k4, .ref k5, .int c6, .int c7, .int c8])), (k0, .inl (cI, 12, .inl c0)), (k1, .inl (cI, 40, .inl c1))] sz) (va_Qi (fun (r : Int32) (u : Unit) => r = efN gx a0.toInt (rnF gx)) (fun u t => kWd D cI (va_A [(k, .inr (9, [.ref k0, .ref k1, .ref k2, .ref k3, .ref k4, .ref k5, .int c6, .int c7, .int c8])), (k0, .inl (cI, 12, .inl c0)), (k1, .inl (cI, 40, .inl c1))] sz) [(k, .inr (9, [.ref k0, .ref k1, .ref k2, .ref k3, .ref k4, .ref k5, .int c6, .int c7, .int c8])), (k0, .inl (cI, 12, .inl c0)), (k1, .inl (cI, 40, .inl c1))] t) (va_A [(k, .inr (9, [.ref k0, .ref k1, .ref k2, .ref k3, .ref k4, .ref k5, .int c6, .int c7, .int c8])), (k0, .inl (cI, 12, .inl c0)), (k1, .inl (cI, 40, .inl c1))] sz)) 0 0 (va_A [(k, .inr (9, [.ref k0, .ref k1, .ref k2, .ref k3, .ref k4, .ref k5, .int c6, .int c7, .int c8])), (k0, .inl (cI, 12, .inl c0)), (k1, .inl (cI, 40, .inl c1))] sz) := by
  refine kMetIX (own := RX9) (by decide +kernel) rfl (Nat.le_of_ble_eq_true rfl) ?_
  intro p e s m args below meth c hx hb hT hown hname hml A Q hK hP hD hS hA hN hXS hRet ls hl
  have hl : lv_has ls 2 [(0, .ref k), (1, .int a0)] := hl
  have lo_a0 := k_lo a0
  have hi_a0 := k_hi a0
  have lo_c6 := k_lo c6
  have hi_c6 := k_hi c6
  have lo_c7 := k_lo c7
  have hi_c7 := k_hi c7
  have lo_c8 := k_lo c8
  have hi_c8 := k_hi c8
  have lo_c49 := k_lo c49
  have hi_c49 := k_hi c49
  have lo_c51 := k_lo c51
  have hi_c51 := k_hi c51
  have pre0 : WR c0 c1 c2 c3 c40 c41 c42 c43 c44 c45 c46 c47 c48 c49 c50 c51 c6 c7 c8 gx := pre0
  have b_1 : 0 ≤ c49.toInt ∧ c49.toInt ≤ 60 := WKR.n0 (WR.kw pre0)
  have t_2 : c49.toInt = (gx 1).toInt := WKR.nt (WR.kw pre0)
  have b_3 : 0 ≤ c51.toInt ∧ c51.toInt ≤ 4 := ((WR.kp pre0)).2.1
  have t_4 : c51.toInt = (gx 2).toInt := PTR.nt (WR.kp pre0)
  have t_5 : c8.toInt = (gx 0).toInt := by rw [WR.dd pre0]
  have pre1 : SB gx := pre1
  refine lv_aload_n hx hb dX9_effortOf_0 rfl (lv_at hl 0 rfl) ?_
  refine lv_iload_n hx hb dX9_effortOf_1 rfl (lv_at hl 1 rfl) ?_
  refine kJi (wr := [(k0, .inl (cI, 12, .inl c0))]) (va_runV (As := [.int a0]) (rest := []) ⟨hx, hb, hml, hown, hT⟩ (c_X9_soilOfD l D cI aK aV k k0 k1 k2 k3 k4 k5 s.heap.size c6 c7 c8 c1 a0) (cwV 1 hT (gV_in mw_423 mw_420 mw_421 mw_422 mw_2) rfl rfl rfl (by decide +kernel) ⟨Nat.le_of_ble_eq_true rfl, Nat.le_of_ble_eq_true rfl⟩) (kRecvX (q0 := 0) (ci := 9) hK hP hD hN hXS hS hA rfl rfl [0, 2] rfl (by decide +kernel)) rfl rfl hl.1 rfl (lv_room (Nat.le_of_ble_eq_true rfl)) dX9_effortOf_2 ⟨Nat.le_of_ble_eq_true rfl, Nat.le_of_ble_eq_true rfl⟩) hP hD hS hA [0, 2] [1] rfl rfl (by decide +kernel) (by decide +kernel) ?_
  clear hP hD hS
  intro r_6 u_8 H locs w_7 hP hD hS
  replace hP : va_P D vwCl [(k0, .inl (cI, 12, .inl c0)), (k, .inr (9, [.ref k0, .ref k1, .ref k2, .ref k3, .ref k4, .ref k5, .int c6, .int c7, .int c8])), (k1, .inl (cI, 40, .inl c1))] H := hP
  replace hD : va_D A [(k0, .inl (cI, 12, .inl c0)), (k, .inr (9, [.ref k0, .ref k1, .ref k2, .ref k3, .ref k4, .ref k5, .int c6, .int c7, .int c8])), (k1, .inl (cI, 40, .inl c1))] := hD
  rcases w_7 with ⟨h_9, h_10, h_11⟩ | ⟨hr_6, h_12⟩
  · have h_9 : 0 ≤ a0.toInt := h_9
    have h_10 : a0.toInt ≤ 39 := h_10
    have h_11 : r_6 = c1 a0.toNatClampNeg := h_11
    have h_13 : r_6 = gx (19 + a0.toInt.toNat) := Eq.trans h_11 (WR.qso pre0 (by omega) (by omega))
    have b_14 : 0 ≤ r_6.toInt ∧ r_6.toInt ≤ 2 := by rw [h_13]; exact SB.so pre1 (by omega)
    have lo_r_6 := k_lo r_6
    have hi_r_6 := k_hi r_6
    refine lv_aload_n hx hb dX9_effortOf_5 rfl (lv_at hl 0 rfl) ?_
    refine kJi (wr := [(k1, .inl (cI, 40, .inl c1))]) (va_runV (As := []) (rest := [.int r_6]) ⟨hx, hb, hml, hown, hT⟩ (c_X9_rainNowD l D cI aK aV k k0 k1 k2 k3 k4 k5 H.size c6 c7 c8 c0 c1 c2 c3 c40 c41 c42 c43 c44 c45 c46 c47 c48 c49 c50 c51 gx pre0 (by first | omega | decide | assumption | rfl)) (cwV 0 hT (gV_in mw_633 mw_630 mw_631 mw_632 mw_2) rfl rfl rfl (by decide +kernel) ⟨Nat.le_of_ble_eq_true rfl, Nat.le_of_ble_eq_true rfl⟩) (kRecvX (q0 := 1) (ci := 9) hK hP hD hN hXS hS hA rfl rfl [1, 0] rfl (by decide +kernel)) rfl rfl hl.1 rfl (lv_room (Nat.le_of_ble_eq_true rfl)) dX9_effortOf_6 ⟨Nat.le_of_ble_eq_true rfl, Nat.le_of_ble_eq_true rfl⟩) hP hD hS hA [1, 0] [2] rfl rfl (by decide +kernel) (by decide +kernel) ?_
    clear hP hD hS
    intro r_15 u_17 H locs w_16 hP hD hS
    replace hP : va_P D vwCl [(k1, .inl (cI, 40, .inl c1)), (k, .inr (9, [.ref k0, .ref k1, .ref k2, .ref k3, .ref k4, .ref k5, .int c6, .int c7, .int c8])), (k0, .inl (cI, 12, .inl c0))] H := hP
    replace hD : va_D A [(k1, .inl (cI, 40, .inl c1)), (k, .inr (9, [.ref k0, .ref k1, .ref k2, .ref k3, .ref k4, .ref k5, .int c6, .int c7, .int c8])), (k0, .inl (cI, 12, .inl c0))] := hD
    have h_18 := w_16
    have h_18 : r_15 = rnF gx := h_18
    have lo_r_15 := k_lo r_15
    have hi_r_15 := k_hi r_15
    refine kJi (wr := [(k1, .inl (cI, 40, .inl c1)), (k, .inr (9, [.ref k0, .ref k1, .ref k2, .ref k3, .ref k4, .ref k5, .int c6, .int c7, .int c8])), (k0, .inl (cI, 12, .inl c0))]) (va_runSN (As := [.int r_6, .int r_15]) (rest := []) ⟨hx, hb, hml, hown, hT⟩ (c_X10_effortInD l D cI aK aV H.size r_6 r_15) ⟨va_cnB 2 hT (gW_in mw_651) rfl rfl rfl (hN _ mw_649) (hT _ mw_1) (by decide +kernel) ⟨Nat.le_of_ble_eq_true rfl, Nat.le_of_ble_eq_true rfl⟩, hT _ mw_650, trivial⟩ (kStatX hK hP hD hN hXS hS hA [] rfl (by decide +kernel)) rfl rfl hl.1 rfl (lv_room (Nat.le_of_ble_eq_true rfl)) dX9_effortOf_9 ⟨Nat.le_of_ble_eq_true rfl, Nat.le_of_ble_eq_true rfl⟩) hP hD hS hA [] [0, 1, 2] rfl rfl (by decide +kernel) (by decide +kernel) ?_
    clear hP hD hS
    intro r_19 u_21 H locs w_20 hP hD hS
    replace hP : va_P D vwCl [(k1, .inl (cI, 40, .inl c1)), (k, .inr (9, [.ref k0, .ref k1, .ref k2, .ref k3, .ref k4, .ref k5, .int c6, .int c7, .int c8])), (k0, .inl (cI, 12, .inl c0))] H := hP
    replace hD : va_D A [(k1, .inl (cI, 40, .inl c1)), (k, .inr (9, [.ref k0, .ref k1, .ref k2, .ref k3, .ref k4, .ref k5, .int c6, .int c7, .int c8])), (k0, .inl (cI, 12, .inl c0))] := hD
    rcases w_20 with ⟨hr_19, h_22⟩ | ⟨h_23, h_24⟩ | ⟨hr_19, h_25, h_26⟩
    · have h_22 : r_6.toInt = 1 := h_22
      obtain rfl : r_19 = 40 := hr_19.trans (by decide +kernel)
      exact hRet () [1, 2, 0] (ef_in (s := r_6) (r := r_15) h_13 h_18 (by first | exact Or.inl ⟨by omega, rfl⟩ | exact Or.inr (Or.inl ⟨by omega, by assumption⟩) | exact Or.inr (Or.inr ⟨by omega, by omega, rfl⟩)) b_14) hP hD (by decide +kernel) rfl hS rfl dX9_effortOf_12
    · have h_23 : r_6.toInt = 2 := h_23
      have lo_r_19 := k_lo r_19
      have hi_r_19 := k_hi r_19
      exact hRet () [1, 2, 0] (ef_in (s := r_6) (r := r_15) h_13 h_18 (by first | exact Or.inl ⟨by omega, rfl⟩ | exact Or.inr (Or.inl ⟨by omega, by assumption⟩) | exact Or.inr (Or.inr ⟨by omega, by omega, rfl⟩)) b_14) hP hD (by decide +kernel) rfl hS rfl dX9_effortOf_12
    · have h_25 : r_6.toInt ≠ 1 := h_25
      have h_26 : r_6.toInt ≠ 2 := h_26
      obtain rfl : r_19 = 10 := hr_19.trans (by decide +kernel)
      exact hRet () [1, 2, 0] (ef_in (s := r_6) (r := r_15) h_13 h_18 (by first | exact Or.inl ⟨by omega, rfl⟩ | exact Or.inr (Or.inl ⟨by omega, by assumption⟩) | exact Or.inr (Or.inr ⟨by omega, by omega, rfl⟩)) b_14) hP hD (by decide +kernel) rfl hS rfl dX9_effortOf_12
  · exfalso; omega

set_option maxHeartbeats 4000000 in
set_option maxRecDepth 100000 in
theorem c_X9_lifeOfD (l : Launch) (D : va_G) (cI : ClassId) (aK aV : Nat → Nat) (k k0 k1 k2 k3 k4 k5 k40 k41 k42 k43 k44 k45 k46 k47 k48 : Nat) (sz : Nat) (c6 : Int32) (c7 : Int32) (c8 : Int32) (c1 : Nat → Int32) (c49 : Int32) (c41 : Nat → Int32) (c0 : Nat → Int32) (c2 : Nat → Int32) (c3 : Nat → Int32) (c40 : Nat → Int32) (c42 : Nat → Int32) (c43 : Nat → Int32) (c44 : Nat → Int32) (c45 : Nat → Int32) (c46 : Nat → Int32) (c47 : Nat → Int32) (c48 : Nat → Int32) (c50 : Nat → Int32) (c51 : Int32) (gx : Nat → Int32) (a0 : Int32) (pre0 : WR c0 c1 c2 c3 c40 c41 c42 c43 c44 c45 c46 c47 c48 c49 c50 c51 c6 c7 c8 gx) (pre1 : SB gx) (pre2 : 0 ≤ a0.toInt) (pre3 : a0.toInt < c49.toInt) : Met l yX9_lifeOf (gW yX9_lifeOf cX9_lifeOf 2 (some .int)) ({ frames := 2, cells := 0, slots := 0, locals := 42 } : Room) (kPreX D cI aK aV [.ref k, .int a0] [(k, .inr (9, [.ref k0, .ref k1, .ref k2, .ref k3, .ref k4, .ref k5, .int c6, .int c7, .int c8])), (k1, .inl (cI, 40, .inl c1)), (k4, .inr (8, [.ref k40, .ref k41, .ref k42, .ref k43, .ref k44, .ref k45, .ref k46, .ref k47, .ref k48, .int c49])), (k41, .inl (cI, 60, .inl c41))] sz) (va_Qi (fun (r : Int32) (u : Unit) => (r = 60 ∧ r = lifN gx a0.toInt.toNat) ∨ (r = 120 ∧ r = lifN gx a0.toInt.toNat)) (fun u t => kWd D cI (va_A [(k, .inr (9, [.ref k0, .ref k1, .ref k2, .ref k3, .ref k4, .ref k5, .int c6, .int c7, .int c8])), (k1, .inl (cI, 40, .inl c1)), (k4, .inr (8, [.ref k40, .ref k41, .ref k42, .ref k43, .ref k44, .ref k45, .ref k46, .ref k47, .ref k48, .int c49])), (k41, .inl (cI, 60, .inl c41))] sz) [(k, .inr (9, [.ref k0, .ref k1, .ref k2, .ref k3, .ref k4, .ref k5, .int c6, .int c7, .int c8])), (k1, .inl (cI, 40, .inl c1)), (k4, .inr (8, [.ref k40, .ref k41, .ref k42, .ref k43, .ref k44, .ref k45, .ref k46, .ref k47, .ref k48, .int c49])), (k41, .inl (cI, 60, .inl c41))] t) (va_A [(k, .inr (9, [.ref k0, .ref k1, .ref k2, .ref k3, .ref k4, .ref k5, .int c6, .int c7, .int c8])), (k1, .inl (cI, 40, .inl c1)), (k4, .inr (8, [.ref k40, .ref k41, .ref k42, .ref k43, .ref k44, .ref k45, .ref k46, .ref k47, .ref k48, .int c49])), (k41, .inl (cI, 60, .inl c41))] sz)) 0 0 (va_A [(k, .inr (9, [.ref k0, .ref k1, .ref k2, .ref k3, .ref k4, .ref k5, .int c6, .int c7, .int c8])), (k1, .inl (cI, 40, .inl c1)), (k4, .inr (8, [.ref k40, .ref k41, .ref k42, .ref k43, .ref k44, .ref k45, .ref k46, .ref k47, .ref k48, .int c49])), (k41, .inl (cI, 60, .inl c41))] sz) := by
  refine kMetIX (own := RX9) (by decide +kernel) rfl (Nat.le_of_ble_eq_true rfl) ?_
  intro p e s m args below meth c hx hb hT hown hname hml A Q hK hP hD hS hA hN hXS hRet ls hl
  have hl : lv_has ls 2 [(0, .ref k), (1, .int a0)] := hl
  have lo_a0 := k_lo a0
  have hi_a0 := k_hi a0
  have lo_c6 := k_lo c6
  have hi_c6 := k_hi c6
  have lo_c7 := k_lo c7
  have hi_c7 := k_hi c7
  have lo_c8 := k_lo c8
  have hi_c8 := k_hi c8
  have lo_c49 := k_lo c49
  have hi_c49 := k_hi c49
  have lo_c51 := k_lo c51
  have hi_c51 := k_hi c51
  have pre0 : WR c0 c1 c2 c3 c40 c41 c42 c43 c44 c45 c46 c47 c48 c49 c50 c51 c6 c7 c8 gx := pre0
  have b_1 : 0 ≤ c49.toInt ∧ c49.toInt ≤ 60 := WKR.n0 (WR.kw pre0)
  have t_2 : c49.toInt = (gx 1).toInt := WKR.nt (WR.kw pre0)
  have b_3 : 0 ≤ c51.toInt ∧ c51.toInt ≤ 4 := ((WR.kp pre0)).2.1
  have t_4 : c51.toInt = (gx 2).toInt := PTR.nt (WR.kp pre0)
  have t_5 : c8.toInt = (gx 0).toInt := by rw [WR.dd pre0]
  have pre1 : SB gx := pre1
  refine lv_aload_n hx hb dX9_lifeOf_0 rfl (lv_at hl 0 rfl) ?_
  refine lv_aload_n hx hb dX9_lifeOf_1 rfl (lv_at hl 0 rfl) ?_
  refine va_get (D := D) (ci := 9) (v := .ref k4) (C := RX9) (T := TX9) (N := 9) hx hb hT giX9 hown hK hP 0 rfl rfl 4 (by decide +kernel) (hT (Cond.fieldLink RX9 27 "DesertWire$World" "works" "LDesertWire$Works;") mw_97) (fun _ h9 => h9) rfl dX9_lifeOf_2 ?_
  refine lv_iload_n hx hb dX9_lifeOf_5 rfl (lv_at hl 1 rfl) ?_
  refine kJi (wr := [(k, .inr (9, [.ref k0, .ref k1, .ref k2, .ref k3, .ref k4, .ref k5, .int c6, .int c7, .int c8])), (k1, .inl (cI, 40, .inl c1))]) (va_runV (As := [.int a0]) (rest := [.ref k]) ⟨hx, hb, hml, hown, hT⟩ (c_X8_mileOfD l D cI aK aV k4 k40 k41 k42 k43 k44 k45 k46 k47 k48 s.heap.size c49 c41 a0) (cwV 1 hT (gV_in mw_367 mw_419 mw_365 mw_366 mw_3) rfl rfl rfl (by decide +kernel) ⟨Nat.le_of_ble_eq_true rfl, Nat.le_of_ble_eq_true rfl⟩) (kRecvX (q0 := 2) (ci := 8) hK hP hD hN hXS hS hA rfl rfl [2, 3] rfl (by decide +kernel)) rfl rfl hl.1 rfl (lv_room (Nat.le_of_ble_eq_true rfl)) dX9_lifeOf_6 ⟨Nat.le_of_ble_eq_true rfl, Nat.le_of_ble_eq_true rfl⟩) hP hD hS hA [2, 3] [0, 1] rfl rfl (by decide +kernel) (by decide +kernel) ?_
  clear hP hD hS
  intro r_6 u_8 H locs w_7 hP hD hS
  replace hP : va_P D vwCl [(k, .inr (9, [.ref k0, .ref k1, .ref k2, .ref k3, .ref k4, .ref k5, .int c6, .int c7, .int c8])), (k1, .inl (cI, 40, .inl c1)), (k4, .inr (8, [.ref k40, .ref k41, .ref k42, .ref k43, .ref k44, .ref k45, .ref k46, .ref k47, .ref k48, .int c49])), (k41, .inl (cI, 60, .inl c41))] H := hP
  replace hD : va_D A [(k, .inr (9, [.ref k0, .ref k1, .ref k2, .ref k3, .ref k4, .ref k5, .int c6, .int c7, .int c8])), (k1, .inl (cI, 40, .inl c1)), (k4, .inr (8, [.ref k40, .ref k41, .ref k42, .ref k43, .ref k44, .ref k45, .ref k46, .ref k47, .ref k48, .int c49])), (k41, .inl (cI, 60, .inl c41))] := hD
  rcases w_7 with ⟨h_9, h_10, h_11, h_12⟩ | ⟨hr_6, h_13⟩
  · have h_9 : 0 ≤ a0.toInt := h_9
    have h_10 : a0.toInt < c49.toInt := h_10
    have h_11 : a0.toInt ≤ 59 := h_11
    have h_12 : r_6 = c41 a0.toNatClampNeg := h_12
    have h_14 : r_6 = wW gx a0 1 := Eq.trans h_12 (WKR.r1 (WR.kw pre0) (by omega) (by omega))
    have t_15 : r_6.toInt = (wW gx a0 1).toInt := by rw [h_14]
    have b_16 : 0 ≤ r_6.toInt ∧ r_6.toInt ≤ 39 := by rw [h_14]; exact SB.w1 pre1 (by omega) (by omega)
    have lo_r_6 := k_lo r_6
    have hi_r_6 := k_hi r_6
    refine kJi (wr := [(k4, .inr (8, [.ref k40, .ref k41, .ref k42, .ref k43, .ref k44, .ref k45, .ref k46, .ref k47, .ref k48, .int c49])), (k41, .inl (cI, 60, .inl c41))]) (va_runV (As := [.int r_6]) (rest := []) ⟨hx, hb, hml, hown, hT⟩ (c_X9_soilOfD l D cI aK aV k k0 k1 k2 k3 k4 k5 H.size c6 c7 c8 c1 r_6) (cwV 1 hT (gV_in mw_423 mw_420 mw_421 mw_422 mw_2) rfl rfl rfl (by decide +kernel) ⟨Nat.le_of_ble_eq_true rfl, Nat.le_of_ble_eq_true rfl⟩) (kRecvX (q0 := 0) (ci := 9) hK hP hD hN hXS hS hA rfl rfl [0, 1] rfl (by decide +kernel)) rfl rfl hl.1 rfl (lv_room (Nat.le_of_ble_eq_true rfl)) dX9_lifeOf_9 ⟨Nat.le_of_ble_eq_true rfl, Nat.le_of_ble_eq_true rfl⟩) hP hD hS hA [0, 1] [2, 3] rfl rfl (by decide +kernel) (by decide +kernel) ?_
    clear hP hD hS
    intro r_17 u_19 H locs w_18 hP hD hS
    replace hP : va_P D vwCl [(k4, .inr (8, [.ref k40, .ref k41, .ref k42, .ref k43, .ref k44, .ref k45, .ref k46, .ref k47, .ref k48, .int c49])), (k41, .inl (cI, 60, .inl c41)), (k, .inr (9, [.ref k0, .ref k1, .ref k2, .ref k3, .ref k4, .ref k5, .int c6, .int c7, .int c8])), (k1, .inl (cI, 40, .inl c1))] H := hP
    replace hD : va_D A [(k4, .inr (8, [.ref k40, .ref k41, .ref k42, .ref k43, .ref k44, .ref k45, .ref k46, .ref k47, .ref k48, .int c49])), (k41, .inl (cI, 60, .inl c41)), (k, .inr (9, [.ref k0, .ref k1, .ref k2, .ref k3, .ref k4, .ref k5, .int c6, .int c7, .int c8])), (k1, .inl (cI, 40, .inl c1))] := hD
    rcases w_18 with ⟨h_20, h_21, h_22⟩ | ⟨hr_17, h_23⟩
    · have h_20 : 0 ≤ r_6.toInt := h_20
      have h_21 : r_6.toInt ≤ 39 := h_21
      have h_22 : r_17 = c1 r_6.toNatClampNeg := h_22
      have h_24 : r_17 = gx (19 + r_6.toInt.toNat) := Eq.trans h_22 (WR.qso pre0 (by omega) (by omega))
      have b_25 : 0 ≤ r_17.toInt ∧ r_17.toInt ≤ 2 := by rw [h_24]; exact SB.so pre1 (by omega)
      have lo_r_17 := k_lo r_17
      have hi_r_17 := k_hi r_17
      refine b_if_ne hx hb rfl (tgt := 20) dX9_lifeOf_12 (by decide +kernel) (fun c_26 => ?_) (fun c_26 => ?_)
      · refine lv_bipush (v := 120) hx hb dX9_lifeOf_20 (by decide +kernel) ?_
        exact hRet () [2, 3, 0, 1] (Or.inr (⟨rfl, (by rw [lif_in h_14 h_24]; (repeat (first | rw [if_pos (by omega)] | rw [if_neg (by omega)])))⟩)) hP hD (by decide +kernel) rfl hS rfl dX9_lifeOf_22
      · refine lv_bipush (v := 60) hx hb dX9_lifeOf_15 (by decide +kernel) ?_
        refine lv_goto (tgt := 22) hx hb dX9_lifeOf_17 (by decide +kernel) ?_
        exact hRet () [2, 3, 0, 1] (Or.inl ⟨rfl, (by rw [lif_in h_14 h_24]; (repeat (first | rw [if_pos (by omega)] | rw [if_neg (by omega)])))⟩) hP hD (by decide +kernel) rfl hS rfl dX9_lifeOf_22
    · exfalso; omega
  · exfalso; omega

set_option maxHeartbeats 4000000 in
set_option maxRecDepth 100000 in
theorem c_X9_eatPolesD (l : Launch) (D : va_G) (cI : ClassId) (aK aV : Nat → Nat) (k k0 k1 k2 k3 k4 k5 k40 k41 k42 k43 k44 k45 k46 k47 k48 : Nat) (sz : Nat) (c6 : Int32) (c7 : Int32) (c8 : Int32) (c1 : Nat → Int32) (c49 : Int32) (c40 : Nat → Int32) (c41 : Nat → Int32) (c42 : Nat → Int32) (c43 : Nat → Int32) (c45 : Nat → Int32) (c46 : Nat → Int32) (c47 : Nat → Int32) (c48 : Nat → Int32) (c0 : Nat → Int32) (c2 : Nat → Int32) (c3 : Nat → Int32) (c44 : Nat → Int32) (c50 : Nat → Int32) (c51 : Int32) (gx : Nat → Int32) (pre0 : WR c0 c1 c2 c3 c40 c41 c42 c43 c44 c45 c46 c47 c48 c49 c50 c51 c6 c7 c8 gx) (pre1 : SIX gx (-1)) : Met l yX9_eatPoles (gW yX9_eatPoles cX9_eatPoles 2 none) ({ frames := 4, cells := 0, slots := 0, locals := 87 } : Room) (kPreX D cI aK aV [.ref k] [(k, .inr (9, [.ref k0, .ref k1, .ref k2, .ref k3, .ref k4, .ref k5, .int c6, .int c7, .int c8])), (k1, .inl (cI, 40, .inl c1)), (k4, .inr (8, [.ref k40, .ref k41, .ref k42, .ref k43, .ref k44, .ref k45, .ref k46, .ref k47, .ref k48, .int c49])), (k40, .inl (cI, 60, .inl c40)), (k41, .inl (cI, 60, .inl c41)), (k42, .inl (cI, 60, .inl c42)), (k43, .inl (cI, 60, .inl c43)), (k45, .inl (cI, 60, .inl c45)), (k46, .inl (cI, 40, .inl c46)), (k47, .inl (cI, 40, .inl c47)), (k48, .inl (cI, 40, .inl c48))] sz) (va_Qv (fun (u : (Nat → Int32) × (Nat → Int32) × (Nat → Int32) × (Nat → Int32)) => WR c0 c1 c2 c3 c40 c41 c42 c43 c44 u.1 u.2.1 u.2.2.1 u.2.2.2 c49 c50 c51 c6 c7 c8 (eatS gx)) (fun u t => kWd D cI (va_A [(k, .inr (9, [.ref k0, .ref k1, .ref k2, .ref k3, .ref k4, .ref k5, .int c6, .int c7, .int c8])), (k1, .inl (cI, 40, .inl c1)), (k4, .inr (8, [.ref k40, .ref k41, .ref k42, .ref k43, .ref k44, .ref k45, .ref k46, .ref k47, .ref k48, .int c49])), (k40, .inl (cI, 60, .inl c40)), (k41, .inl (cI, 60, .inl c41)), (k42, .inl (cI, 60, .inl c42)), (k43, .inl (cI, 60, .inl c43)), (k45, .inl (cI, 60, .inl c45)), (k46, .inl (cI, 40, .inl c46)), (k47, .inl (cI, 40, .inl c47)), (k48, .inl (cI, 40, .inl c48))] sz) [(k, .inr (9, [.ref k0, .ref k1, .ref k2, .ref k3, .ref k4, .ref k5, .int c6, .int c7, .int c8])), (k1, .inl (cI, 40, .inl c1)), (k4, .inr (8, [.ref k40, .ref k41, .ref k42, .ref k43, .ref k44, .ref k45, .ref k46, .ref k47, .ref k48, .int c49])), (k40, .inl (cI, 60, .inl c40)), (k41, .inl (cI, 60, .inl c41)), (k42, .inl (cI, 60, .inl c42)), (k43, .inl (cI, 60, .inl c43)), (k45, .inl (cI, 60, .inl u.1)), (k46, .inl (cI, 40, .inl u.2.1)), (k47, .inl (cI, 40, .inl u.2.2.1)), (k48, .inl (cI, 40, .inl u.2.2.2))] t) (va_A [(k, .inr (9, [.ref k0, .ref k1, .ref k2, .ref k3, .ref k4, .ref k5, .int c6, .int c7, .int c8])), (k1, .inl (cI, 40, .inl c1)), (k4, .inr (8, [.ref k40, .ref k41, .ref k42, .ref k43, .ref k44, .ref k45, .ref k46, .ref k47, .ref k48, .int c49])), (k40, .inl (cI, 60, .inl c40)), (k41, .inl (cI, 60, .inl c41)), (k42, .inl (cI, 60, .inl c42)), (k43, .inl (cI, 60, .inl c43)), (k45, .inl (cI, 60, .inl c45)), (k46, .inl (cI, 40, .inl c46)), (k47, .inl (cI, 40, .inl c47)), (k48, .inl (cI, 40, .inl c48))] sz)) 0 0 (va_A [(k, .inr (9, [.ref k0, .ref k1, .ref k2, .ref k3, .ref k4, .ref k5, .int c6, .int c7, .int c8])), (k1, .inl (cI, 40, .inl c1)), (k4, .inr (8, [.ref k40, .ref k41, .ref k42, .ref k43, .ref k44, .ref k45, .ref k46, .ref k47, .ref k48, .int c49])), (k40, .inl (cI, 60, .inl c40)), (k41, .inl (cI, 60, .inl c41)), (k42, .inl (cI, 60, .inl c42)), (k43, .inl (cI, 60, .inl c43)), (k45, .inl (cI, 60, .inl c45)), (k46, .inl (cI, 40, .inl c46)), (k47, .inl (cI, 40, .inl c47)), (k48, .inl (cI, 40, .inl c48))] sz) := by
  refine kMetVX (own := RX9) (by decide +kernel) rfl (Nat.le_of_ble_eq_true rfl) ?_
  intro p e s m args below meth c hx hb hT hown hname hml A Q hK hP hD hS hA hN hXS hRet ls hl
  have hl : lv_has ls 2 [(0, .ref k)] := hl
  have lo_c6 := k_lo c6
  have hi_c6 := k_hi c6
  have lo_c7 := k_lo c7
  have hi_c7 := k_hi c7
  have lo_c8 := k_lo c8
  have hi_c8 := k_hi c8
  have lo_c49 := k_lo c49
  have hi_c49 := k_hi c49
  have lo_c51 := k_lo c51
  have hi_c51 := k_hi c51
  have pre0 : WR c0 c1 c2 c3 c40 c41 c42 c43 c44 c45 c46 c47 c48 c49 c50 c51 c6 c7 c8 gx := pre0
  have b_1 : 0 ≤ c49.toInt ∧ c49.toInt ≤ 60 := WKR.n0 (WR.kw pre0)
  have t_2 : c49.toInt = (gx 1).toInt := WKR.nt (WR.kw pre0)
  have b_3 : 0 ≤ c51.toInt ∧ c51.toInt ≤ 4 := ((WR.kp pre0)).2.1
  have t_4 : c51.toInt = (gx 2).toInt := PTR.nt (WR.kp pre0)
  have t_5 : c8.toInt = (gx 0).toInt := by rw [WR.dd pre0]
  have pre1 : SIX gx (-1) := pre1
  refine lv_iconst (v := 0) hx hb dX9_eatPoles_0 (by decide +kernel) ?_
  refine lv_istore_n (lv' := [(1, .int 0), (0, .ref k)]) hx hb dX9_eatPoles_1 rfl hl (by decide +kernel) rfl ?_
  clear hl
  intro ls hl
  have hloop_2 : ∀ (fu_ : Nat) (l2_1 : Int32) (g2_k45 : Nat → Int32) (g2_k46 : Nat → Int32) (g2_k47 : Nat → Int32) (g2_k48 : Nat → Int32) (g2_gx : Nat → Int32), 0 ≤ l2_1.toInt → WR c0 c1 c2 c3 c40 c41 c42 c43 c44 g2_k45 g2_k46 g2_k47 g2_k48 c49 c50 c51 c6 c7 c8 g2_gx → g2_gx = eatN gx l2_1.toInt.toNat → SIX g2_gx (-1) → l2_1.toInt ≤ c49.toInt → (c49.toInt - l2_1.toInt).toNat < fu_ → ∀ (ls : Array Slot) (H : Heap) (locs : List Loc), lv_has ls 2 [(1, .int l2_1), (0, .ref k)] → va_P D vwCl [(k, .inr (9, [.ref k0, .ref k1, .ref k2, .ref k3, .ref k4, .ref k5, .int c6, .int c7, .int c8])), (k1, .inl (cI, 40, .inl c1)), (k4, .inr (8, [.ref k40, .ref k41, .ref k42, .ref k43, .ref k44, .ref k45, .ref k46, .ref k47, .ref k48, .int c49])), (k40, .inl (cI, 60, .inl c40)), (k41, .inl (cI, 60, .inl c41)), (k42, .inl (cI, 60, .inl c42)), (k43, .inl (cI, 60, .inl c43)), (k45, .inl (cI, 60, .inl g2_k45)), (k46, .inl (cI, 40, .inl g2_k46)), (k47, .inl (cI, 40, .inl g2_k47)), (k48, .inl (cI, 40, .inl g2_k48))] H → va_D A [(k, .inr (9, [.ref k0, .ref k1, .ref k2, .ref k3, .ref k4, .ref k5, .int c6, .int c7, .int c8])), (k1, .inl (cI, 40, .inl c1)), (k4, .inr (8, [.ref k40, .ref k41, .ref k42, .ref k43, .ref k44, .ref k45, .ref k46, .ref k47, .ref k48, .int c49])), (k40, .inl (cI, 60, .inl c40)), (k41, .inl (cI, 60, .inl c41)), (k42, .inl (cI, 60, .inl c42)), (k43, .inl (cI, 60, .inl c43)), (k45, .inl (cI, 60, .inl g2_k45)), (k46, .inl (cI, 40, .inl g2_k46)), (k47, .inl (cI, 40, .inl g2_k47)), (k48, .inl (cI, 40, .inl g2_k48))] → va_S A s.heap H locs → W p l e ({ frames := 4, cells := 0, slots := 0, locals := 87 } : Room) s m args below meth c H locs 0 0 Q (F0 m 2 ls []) := by
    intro fu_; induction fu_ with
    | zero => intro l2_1 g2_k45 g2_k46 g2_k47 g2_k48 g2_gx i2_0 i2_1 i2_2 i2_3 i2_4 hm; exact absurd hm (by omega)
    | succ fu_ ih2 =>
        intro l2_1 g2_k45 g2_k46 g2_k47 g2_k48 g2_gx i2_0 i2_1 i2_2 i2_3 i2_4 hm ls H locs hl hP hD hS
        have lo_l2_1 := k_lo l2_1
        have hi_l2_1 := k_hi l2_1
        have i2_1 : WR c0 c1 c2 c3 c40 c41 c42 c43 c44 g2_k45 g2_k46 g2_k47 g2_k48 c49 c50 c51 c6 c7 c8 g2_gx := i2_1
        have t_6 : c49.toInt = (g2_gx 1).toInt := WKR.nt (WR.kw i2_1)
        have t_7 : c51.toInt = (g2_gx 2).toInt := PTR.nt (WR.kp i2_1)
        have t_8 : c8.toInt = (g2_gx 0).toInt := by rw [WR.dd i2_1]
        have i2_2 : g2_gx = eatN gx l2_1.toInt.toNat := i2_2
        have i2_3 : SIX g2_gx (-1) := i2_3
        have b_9 := SB.n0 (And.left i2_3)
        refine lv_iload_n hx hb dX9_eatPoles_2 rfl (lv_at hl 0 rfl) ?_
        refine lv_aload_n hx hb dX9_eatPoles_3 rfl (lv_at hl 1 rfl) ?_
        refine va_get (D := D) (ci := 9) (v := .ref k4) (C := RX9) (T := TX9) (N := 9) hx hb hT giX9 hown hK hP 0 rfl rfl 4 (by decide +kernel) (hT (Cond.fieldLink RX9 27 "DesertWire$World" "works" "LDesertWire$Works;") mw_97) (fun _ h9 => h9) rfl dX9_eatPoles_4 ?_
        refine va_get (D := D) (ci := 8) (v := .int c49) (C := RX8) (T := TX8) (N := 10) hx hb hT giX8 hown hK hP 2 rfl rfl 9 (by decide +kernel) (hT (Cond.fieldLink RX9 83 "DesertWire$Works" "number" "I") mw_50) (fun _ h9 => h9) rfl dX9_eatPoles_7 ?_
        refine b_icmp_ge hx hb rfl rfl (tgt := 73) dX9_eatPoles_10 (by decide +kernel) (fun c_10 => ?_) (fun c_10 => ?_)
        · exact hRet (g2_k45, g2_k46, g2_k47, g2_k48) [0, 1, 2, 3, 4, 5, 6, 7, 8, 9, 10] (WR.gt i2_1 (by unfold eatS; rw [show (gx 1).toInt.toNat = l2_1.toInt.toNat from by omega]; exact i2_2.symm)) hP hD (by decide +kernel) rfl hS dX9_eatPoles_73
        · refine lv_aload_n hx hb dX9_eatPoles_13 rfl (lv_at hl 1 rfl) ?_
          refine va_get (D := D) (ci := 9) (v := .ref k4) (C := RX9) (T := TX9) (N := 9) hx hb hT giX9 hown hK hP 0 rfl rfl 4 (by decide +kernel) (hT (Cond.fieldLink RX9 27 "DesertWire$World" "works" "LDesertWire$Works;") mw_97) (fun _ h9 => h9) rfl dX9_eatPoles_14 ?_
          refine lv_iload_n hx hb dX9_eatPoles_17 rfl (lv_at hl 0 rfl) ?_
          refine kJi (wr := [(k, .inr (9, [.ref k0, .ref k1, .ref k2, .ref k3, .ref k4, .ref k5, .int c6, .int c7, .int c8])), (k1, .inl (cI, 40, .inl c1)), (k41, .inl (cI, 60, .inl c41)), (k42, .inl (cI, 60, .inl c42)), (k43, .inl (cI, 60, .inl c43)), (k45, .inl (cI, 60, .inl g2_k45)), (k46, .inl (cI, 40, .inl g2_k46)), (k47, .inl (cI, 40, .inl g2_k47)), (k48, .inl (cI, 40, .inl g2_k48))]) (va_runV (As := [.int l2_1]) (rest := []) ⟨hx, hb, hml, hown, hT⟩ (c_X8_kindOfD l D cI aK aV k4 k40 k41 k42 k43 k44 k45 k46 k47 k48 H.size c49 c40 l2_1) (cwV 1 hT (gV_in mw_384 mw_412 mw_382 mw_383 mw_3) rfl rfl rfl (by decide +kernel) ⟨Nat.le_of_ble_eq_true rfl, Nat.le_of_ble_eq_true rfl⟩) (kRecvX (q0 := 2) (ci := 8) hK hP hD hN hXS hS hA rfl rfl [2, 3] rfl (by decide +kernel)) rfl rfl hl.1 rfl (lv_room (Nat.le_of_ble_eq_true rfl)) dX9_eatPoles_18 ⟨Nat.le_of_ble_eq_true rfl, Nat.le_of_ble_eq_true rfl⟩) hP hD hS hA [2, 3] [0, 1, 4, 5, 6, 7, 8, 9, 10] rfl rfl (by decide +kernel) (by decide +kernel) ?_
          clear hP hD hS
          intro r_11 u_13 H locs w_12 hP hD hS
          replace hP : va_P D vwCl [(k, .inr (9, [.ref k0, .ref k1, .ref k2, .ref k3, .ref k4, .ref k5, .int c6, .int c7, .int c8])), (k1, .inl (cI, 40, .inl c1)), (k41, .inl (cI, 60, .inl c41)), (k42, .inl (cI, 60, .inl c42)), (k43, .inl (cI, 60, .inl c43)), (k45, .inl (cI, 60, .inl g2_k45)), (k46, .inl (cI, 40, .inl g2_k46)), (k47, .inl (cI, 40, .inl g2_k47)), (k48, .inl (cI, 40, .inl g2_k48)), (k4, .inr (8, [.ref k40, .ref k41, .ref k42, .ref k43, .ref k44, .ref k45, .ref k46, .ref k47, .ref k48, .int c49])), (k40, .inl (cI, 60, .inl c40))] H := hP
          replace hD : va_D A [(k, .inr (9, [.ref k0, .ref k1, .ref k2, .ref k3, .ref k4, .ref k5, .int c6, .int c7, .int c8])), (k1, .inl (cI, 40, .inl c1)), (k41, .inl (cI, 60, .inl c41)), (k42, .inl (cI, 60, .inl c42)), (k43, .inl (cI, 60, .inl c43)), (k45, .inl (cI, 60, .inl g2_k45)), (k46, .inl (cI, 40, .inl g2_k46)), (k47, .inl (cI, 40, .inl g2_k47)), (k48, .inl (cI, 40, .inl g2_k48)), (k4, .inr (8, [.ref k40, .ref k41, .ref k42, .ref k43, .ref k44, .ref k45, .ref k46, .ref k47, .ref k48, .int c49])), (k40, .inl (cI, 60, .inl c40))] := hD
          rcases w_12 with ⟨h_14, h_15, h_16, h_17⟩ | ⟨hr_11, h_18⟩
          · have h_14 : 0 ≤ l2_1.toInt := h_14
            have h_15 : l2_1.toInt < c49.toInt := h_15
            have h_16 : l2_1.toInt ≤ 59 := h_16
            have h_17 : r_11 = c40 l2_1.toNatClampNeg := h_17
            have h_19 : r_11 = wW g2_gx l2_1 0 := Eq.trans h_17 (WKR.r0 (WR.kw i2_1) (by omega) (by omega))
            have t_20 : r_11.toInt = (wW g2_gx l2_1 0).toInt := by rw [h_19]
            have b_21 : 0 ≤ r_11.toInt ∧ r_11.toInt ≤ 5 := by rw [h_19]; exact SB.w0 (And.left i2_3) (by omega) (by omega)
            have lo_r_11 := k_lo r_11
            have hi_r_11 := k_hi r_11
            refine lv_iconst (v := 1) hx hb dX9_eatPoles_21 (by decide +kernel) ?_
            refine b_icmp_ne hx hb rfl zl_1 (tgt := 67) dX9_eatPoles_22 (by decide +kernel) (fun c_22 => ?_) (fun c_22 => ?_)
            · obtain ⟨v_23, ev_23⟩ : ∃ y : Int32, y = l2_1 + 1 := ⟨_, rfl⟩
              have tv_23 : v_23.toInt = l2_1.toInt + 1 := by rw [ev_23]; exact k_addv rfl zl_1 (by omega) (by omega)
              refine lv_iinc (v := v_23) (lv' := [(1, .int v_23), (0, .ref k)]) hx hb dX9_eatPoles_67 hl (k := 0) rfl (by rw [ev_23]; rfl) (by decide +kernel) rfl ?_
              clear hl
              intro ls hl
              refine lv_goto (tgt := 2) hx hb dX9_eatPoles_70 (by decide +kernel) ?_
              exact ih2 v_23 g2_k45 g2_k46 g2_k47 g2_k48 g2_gx (by first | omega | decide | assumption | rfl) i2_1 (eat_n i2_2 (by omega) (by omega) (by omega)) (eatN_sx pre1 (eat_n i2_2 (by omega) (by omega) (by omega)) (by omega)) (by first | omega | decide | assumption | rfl) (by omega) ls _ _ (lv_sub hl [0, 1] rfl) (hP.sub [0, 1, 9, 10, 2, 3, 4, 5, 6, 7, 8] rfl) (hD.sub [0, 1, 9, 10, 2, 3, 4, 5, 6, 7, 8] (by decide +kernel) rfl) hS
            · refine lv_aload_n hx hb dX9_eatPoles_25 rfl (lv_at hl 1 rfl) ?_
              refine va_get (D := D) (ci := 9) (v := .ref k4) (C := RX9) (T := TX9) (N := 9) hx hb hT giX9 hown hK hP 0 rfl rfl 4 (by decide +kernel) (hT (Cond.fieldLink RX9 27 "DesertWire$World" "works" "LDesertWire$Works;") mw_97) (fun _ h9 => h9) rfl dX9_eatPoles_26 ?_
              refine lv_iload_n hx hb dX9_eatPoles_29 rfl (lv_at hl 0 rfl) ?_
              refine kJi (wr := [(k, .inr (9, [.ref k0, .ref k1, .ref k2, .ref k3, .ref k4, .ref k5, .int c6, .int c7, .int c8])), (k1, .inl (cI, 40, .inl c1)), (k41, .inl (cI, 60, .inl c41)), (k42, .inl (cI, 60, .inl c42)), (k43, .inl (cI, 60, .inl c43)), (k46, .inl (cI, 40, .inl g2_k46)), (k47, .inl (cI, 40, .inl g2_k47)), (k48, .inl (cI, 40, .inl g2_k48)), (k40, .inl (cI, 60, .inl c40))]) (va_runV (As := [.int l2_1]) (rest := []) ⟨hx, hb, hml, hown, hT⟩ (c_X8_isDownD l D cI aK aV k4 k40 k41 k42 k43 k44 k45 k46 k47 k48 H.size c49 g2_k45 l2_1) (cwV 1 hT (gV_in mw_407 mw_413 mw_405 mw_406 mw_3) rfl rfl rfl (by decide +kernel) ⟨Nat.le_of_ble_eq_true rfl, Nat.le_of_ble_eq_true rfl⟩) (kRecvX (q0 := 9) (ci := 8) hK hP hD hN hXS hS hA rfl rfl [9, 5] rfl (by decide +kernel)) rfl rfl hl.1 rfl (lv_room (Nat.le_of_ble_eq_true rfl)) dX9_eatPoles_30 ⟨Nat.le_of_ble_eq_true rfl, Nat.le_of_ble_eq_true rfl⟩) hP hD hS hA [9, 5] [0, 1, 2, 3, 4, 6, 7, 8, 10] rfl rfl (by decide +kernel) (by decide +kernel) ?_
              clear hP hD hS
              intro r_24 u_26 H locs w_25 hP hD hS
              replace hP : va_P D vwCl [(k, .inr (9, [.ref k0, .ref k1, .ref k2, .ref k3, .ref k4, .ref k5, .int c6, .int c7, .int c8])), (k1, .inl (cI, 40, .inl c1)), (k41, .inl (cI, 60, .inl c41)), (k42, .inl (cI, 60, .inl c42)), (k43, .inl (cI, 60, .inl c43)), (k46, .inl (cI, 40, .inl g2_k46)), (k47, .inl (cI, 40, .inl g2_k47)), (k48, .inl (cI, 40, .inl g2_k48)), (k40, .inl (cI, 60, .inl c40)), (k4, .inr (8, [.ref k40, .ref k41, .ref k42, .ref k43, .ref k44, .ref k45, .ref k46, .ref k47, .ref k48, .int c49])), (k45, .inl (cI, 60, .inl g2_k45))] H := hP
              replace hD : va_D A [(k, .inr (9, [.ref k0, .ref k1, .ref k2, .ref k3, .ref k4, .ref k5, .int c6, .int c7, .int c8])), (k1, .inl (cI, 40, .inl c1)), (k41, .inl (cI, 60, .inl c41)), (k42, .inl (cI, 60, .inl c42)), (k43, .inl (cI, 60, .inl c43)), (k46, .inl (cI, 40, .inl g2_k46)), (k47, .inl (cI, 40, .inl g2_k47)), (k48, .inl (cI, 40, .inl g2_k48)), (k40, .inl (cI, 60, .inl c40)), (k4, .inr (8, [.ref k40, .ref k41, .ref k42, .ref k43, .ref k44, .ref k45, .ref k46, .ref k47, .ref k48, .int c49])), (k45, .inl (cI, 60, .inl g2_k45))] := hD
              rcases w_25 with ⟨hr_24, h_27, h_28, h_29, h_30⟩ | ⟨hr_24, h_31, h_32, h_33, h_34⟩ | ⟨hr_24, h_35⟩
              · have h_27 : 0 ≤ l2_1.toInt := h_27
                have h_28 : l2_1.toInt < c49.toInt := h_28
                have h_29 : l2_1.toInt ≤ 59 := h_29
                have h_30 : (g2_k45 l2_1.toNatClampNeg).toInt ≠ 0 := h_30
                have t_36 : (g2_k45 l2_1.toNatClampNeg).toInt = (wW g2_gx l2_1 4).toInt := by rw [WKR.r4 (WR.kw i2_1) (by omega) (by omega)]
                obtain rfl : r_24 = 1 := hr_24.trans (by decide +kernel)
                refine b_if_ne hx hb zl_1 (tgt := 67) dX9_eatPoles_33 (by decide +kernel) (fun c_37 => ?_) (fun c_37 => by exfalso; omega)
                obtain ⟨v_38, ev_38⟩ : ∃ y : Int32, y = l2_1 + 1 := ⟨_, rfl⟩
                have tv_38 : v_38.toInt = l2_1.toInt + 1 := by rw [ev_38]; exact k_addv rfl zl_1 (by omega) (by omega)
                refine lv_iinc (v := v_38) (lv' := [(1, .int v_38), (0, .ref k)]) hx hb dX9_eatPoles_67 hl (k := 0) rfl (by rw [ev_38]; rfl) (by decide +kernel) rfl ?_
                clear hl
                intro ls hl
                refine lv_goto (tgt := 2) hx hb dX9_eatPoles_70 (by decide +kernel) ?_
                exact ih2 v_38 g2_k45 g2_k46 g2_k47 g2_k48 g2_gx (by first | omega | decide | assumption | rfl) i2_1 (eat_n i2_2 (by omega) (by omega) (by omega)) (eatN_sx pre1 (eat_n i2_2 (by omega) (by omega) (by omega)) (by omega)) (by first | omega | decide | assumption | rfl) (by omega) ls _ _ (lv_sub hl [0, 1] rfl) (hP.sub [0, 1, 9, 8, 2, 3, 4, 10, 5, 6, 7] rfl) (hD.sub [0, 1, 9, 8, 2, 3, 4, 10, 5, 6, 7] (by decide +kernel) rfl) hS
              · have h_31 : 0 ≤ l2_1.toInt := h_31
                have h_32 : l2_1.toInt < c49.toInt := h_32
                have h_33 : l2_1.toInt ≤ 59 := h_33
                have h_34 : (g2_k45 l2_1.toNatClampNeg).toInt = 0 := h_34
                have t_39 : (g2_k45 l2_1.toNatClampNeg).toInt = (wW g2_gx l2_1 4).toInt := by rw [WKR.r4 (WR.kw i2_1) (by omega) (by omega)]
                obtain rfl : r_24 = 0 := hr_24.trans (by decide +kernel)
                refine b_if_ne hx hb zl_0 (tgt := 67) dX9_eatPoles_33 (by decide +kernel) (fun c_40 => by exfalso; omega) (fun c_40 => ?_)
                refine lv_aload_n hx hb dX9_eatPoles_36 rfl (lv_at hl 1 rfl) ?_
                refine va_get (D := D) (ci := 9) (v := .int c8) (C := RX9) (T := TX9) (N := 9) hx hb hT giX9 hown hK hP 0 rfl rfl 8 (by decide +kernel) (hT (Cond.fieldLink RX9 45 "DesertWire$World" "day" "I") mw_108) (fun _ h9 => h9) rfl dX9_eatPoles_37 ?_
                refine lv_iconst (v := 1) hx hb dX9_eatPoles_40 (by decide +kernel) ?_
                refine lv_iadd hx hb dX9_eatPoles_41 ?_
                refine lv_topi (fun v_41 ev_41 => ?_)
                have tv_41 : v_41.toInt = c8.toInt + 1 := by rw [ev_41]; exact k_addv rfl zl_1 (by omega) (by omega)
                refine lv_aload_n hx hb dX9_eatPoles_42 rfl (lv_at hl 1 rfl) ?_
                refine va_get (D := D) (ci := 9) (v := .ref k4) (C := RX9) (T := TX9) (N := 9) hx hb hT giX9 hown hK hP 0 rfl rfl 4 (by decide +kernel) (hT (Cond.fieldLink RX9 27 "DesertWire$World" "works" "LDesertWire$Works;") mw_97) (fun _ h9 => h9) rfl dX9_eatPoles_43 ?_
                refine lv_iload_n hx hb dX9_eatPoles_46 rfl (lv_at hl 0 rfl) ?_
                refine kJi (wr := [(k, .inr (9, [.ref k0, .ref k1, .ref k2, .ref k3, .ref k4, .ref k5, .int c6, .int c7, .int c8])), (k1, .inl (cI, 40, .inl c1)), (k41, .inl (cI, 60, .inl c41)), (k42, .inl (cI, 60, .inl c42)), (k46, .inl (cI, 40, .inl g2_k46)), (k47, .inl (cI, 40, .inl g2_k47)), (k48, .inl (cI, 40, .inl g2_k48)), (k40, .inl (cI, 60, .inl c40)), (k45, .inl (cI, 60, .inl g2_k45))]) (va_runV (As := [.int l2_1]) (rest := [.int v_41]) ⟨hx, hb, hml, hown, hT⟩ (c_X8_sinceOfD l D cI aK aV k4 k40 k41 k42 k43 k44 k45 k46 k47 k48 H.size c49 c43 l2_1) (cwV 1 hT (gV_in mw_403 mw_414 mw_401 mw_402 mw_3) rfl rfl rfl (by decide +kernel) ⟨Nat.le_of_ble_eq_true rfl, Nat.le_of_ble_eq_true rfl⟩) (kRecvX (q0 := 9) (ci := 8) hK hP hD hN hXS hS hA rfl rfl [9, 4] rfl (by decide +kernel)) rfl rfl hl.1 rfl (lv_room (Nat.le_of_ble_eq_true rfl)) dX9_eatPoles_47 ⟨Nat.le_of_ble_eq_true rfl, Nat.le_of_ble_eq_true rfl⟩) hP hD hS hA [9, 4] [0, 1, 2, 3, 5, 6, 7, 8, 10] rfl rfl (by decide +kernel) (by decide +kernel) ?_
                clear hP hD hS
                intro r_42 u_44 H locs w_43 hP hD hS
                replace hP : va_P D vwCl [(k, .inr (9, [.ref k0, .ref k1, .ref k2, .ref k3, .ref k4, .ref k5, .int c6, .int c7, .int c8])), (k1, .inl (cI, 40, .inl c1)), (k41, .inl (cI, 60, .inl c41)), (k42, .inl (cI, 60, .inl c42)), (k46, .inl (cI, 40, .inl g2_k46)), (k47, .inl (cI, 40, .inl g2_k47)), (k48, .inl (cI, 40, .inl g2_k48)), (k40, .inl (cI, 60, .inl c40)), (k45, .inl (cI, 60, .inl g2_k45)), (k4, .inr (8, [.ref k40, .ref k41, .ref k42, .ref k43, .ref k44, .ref k45, .ref k46, .ref k47, .ref k48, .int c49])), (k43, .inl (cI, 60, .inl c43))] H := hP
                replace hD : va_D A [(k, .inr (9, [.ref k0, .ref k1, .ref k2, .ref k3, .ref k4, .ref k5, .int c6, .int c7, .int c8])), (k1, .inl (cI, 40, .inl c1)), (k41, .inl (cI, 60, .inl c41)), (k42, .inl (cI, 60, .inl c42)), (k46, .inl (cI, 40, .inl g2_k46)), (k47, .inl (cI, 40, .inl g2_k47)), (k48, .inl (cI, 40, .inl g2_k48)), (k40, .inl (cI, 60, .inl c40)), (k45, .inl (cI, 60, .inl g2_k45)), (k4, .inr (8, [.ref k40, .ref k41, .ref k42, .ref k43, .ref k44, .ref k45, .ref k46, .ref k47, .ref k48, .int c49])), (k43, .inl (cI, 60, .inl c43))] := hD
                rcases w_43 with ⟨h_45, h_46, h_47, h_48⟩ | ⟨hr_42, h_49⟩
                · have h_45 : 0 ≤ l2_1.toInt := h_45
                  have h_46 : l2_1.toInt < c49.toInt := h_46
                  have h_47 : l2_1.toInt ≤ 59 := h_47
                  have h_48 : r_42 = c43 l2_1.toNatClampNeg := h_48
                  have h_50 : r_42 = wW g2_gx l2_1 3 := Eq.trans h_48 (WKR.r3 (WR.kw i2_1) (by omega) (by omega))
                  have t_51 : r_42.toInt = (wW g2_gx l2_1 3).toInt := by rw [h_50]
                  have b_52 : 0 ≤ r_42.toInt ∧ r_42.toInt ≤ 2001 := by rw [h_50]; exact SB.w3 (And.left i2_3) (by omega) (by omega)
                  have lo_r_42 := k_lo r_42
                  have hi_r_42 := k_hi r_42
                  refine lv_isub hx hb dX9_eatPoles_50 ?_
                  refine lv_topi (fun v_53 ev_53 => ?_)
                  have tv_53 : v_53.toInt = v_41.toInt - r_42.toInt := by rw [ev_53]; exact k_subv rfl rfl (by omega) (by omega)
                  refine lv_aload_n hx hb dX9_eatPoles_51 rfl (lv_at hl 1 rfl) ?_
                  refine lv_iload_n hx hb dX9_eatPoles_52 rfl (lv_at hl 0 rfl) ?_
                  refine kJi (wr := [(k42, .inl (cI, 60, .inl c42)), (k46, .inl (cI, 40, .inl g2_k46)), (k47, .inl (cI, 40, .inl g2_k47)), (k48, .inl (cI, 40, .inl g2_k48)), (k40, .inl (cI, 60, .inl c40)), (k45, .inl (cI, 60, .inl g2_k45)), (k43, .inl (cI, 60, .inl c43))]) (va_runV (As := [.int l2_1]) (rest := [.int v_53]) ⟨hx, hb, hml, hown, hT⟩ (c_X9_lifeOfD l D cI aK aV k k0 k1 k2 k3 k4 k5 k40 k41 k42 k43 k44 k45 k46 k47 k48 H.size c6 c7 c8 c1 c49 c41 c0 c2 c3 c40 c42 c43 c44 g2_k45 g2_k46 g2_k47 g2_k48 c50 c51 g2_gx l2_1 i2_1 (And.left i2_3) (by first | omega | decide | assumption | rfl) (by first | omega | decide | assumption | rfl)) (cwV 1 hT (gV_in mw_418 mw_415 mw_417 mw_p1_2 mw_2) rfl rfl rfl (by decide +kernel) ⟨Nat.le_of_ble_eq_true rfl, Nat.le_of_ble_eq_true rfl⟩) (kRecvX (q0 := 0) (ci := 9) hK hP hD hN hXS hS hA rfl rfl [0, 1, 9, 2] rfl (by decide +kernel)) rfl rfl hl.1 rfl (lv_room (Nat.le_of_ble_eq_true rfl)) dX9_eatPoles_53 ⟨Nat.le_of_ble_eq_true rfl, Nat.le_of_ble_eq_true rfl⟩) hP hD hS hA [0, 1, 9, 2] [3, 4, 5, 6, 7, 8, 10] rfl rfl (by decide +kernel) (by decide +kernel) ?_
                  clear hP hD hS
                  intro r_54 u_56 H locs w_55 hP hD hS
                  replace hP : va_P D vwCl [(k42, .inl (cI, 60, .inl c42)), (k46, .inl (cI, 40, .inl g2_k46)), (k47, .inl (cI, 40, .inl g2_k47)), (k48, .inl (cI, 40, .inl g2_k48)), (k40, .inl (cI, 60, .inl c40)), (k45, .inl (cI, 60, .inl g2_k45)), (k43, .inl (cI, 60, .inl c43)), (k, .inr (9, [.ref k0, .ref k1, .ref k2, .ref k3, .ref k4, .ref k5, .int c6, .int c7, .int c8])), (k1, .inl (cI, 40, .inl c1)), (k4, .inr (8, [.ref k40, .ref k41, .ref k42, .ref k43, .ref k44, .ref k45, .ref k46, .ref k47, .ref k48, .int c49])), (k41, .inl (cI, 60, .inl c41))] H := hP
                  replace hD : va_D A [(k42, .inl (cI, 60, .inl c42)), (k46, .inl (cI, 40, .inl g2_k46)), (k47, .inl (cI, 40, .inl g2_k47)), (k48, .inl (cI, 40, .inl g2_k48)), (k40, .inl (cI, 60, .inl c40)), (k45, .inl (cI, 60, .inl g2_k45)), (k43, .inl (cI, 60, .inl c43)), (k, .inr (9, [.ref k0, .ref k1, .ref k2, .ref k3, .ref k4, .ref k5, .int c6, .int c7, .int c8])), (k1, .inl (cI, 40, .inl c1)), (k4, .inr (8, [.ref k40, .ref k41, .ref k42, .ref k43, .ref k44, .ref k45, .ref k46, .ref k47, .ref k48, .int c49])), (k41, .inl (cI, 60, .inl c41))] := hD
                  rcases w_55 with ⟨hr_54, h_57⟩ | ⟨hr_54, h_58⟩
                  · have h_57 : r_54 = lifN g2_gx l2_1.toInt.toNat := h_57
                    have h_57 : r_54 = lifN g2_gx l2_1.toInt.toNat := h_57
                    obtain rfl : r_54 = 60 := hr_54.trans (by decide +kernel)
                    have hl_59 : (60 : Int32) = lifN g2_gx l2_1.toInt.toNat := h_57
                    refine b_icmp_lt hx hb rfl zl_60 (tgt := 67) dX9_eatPoles_56 (by decide +kernel) (fun c_60 => ?_) (fun c_60 => ?_)
                    · obtain ⟨v_61, ev_61⟩ : ∃ y : Int32, y = l2_1 + 1 := ⟨_, rfl⟩
                      have tv_61 : v_61.toInt = l2_1.toInt + 1 := by rw [ev_61]; exact k_addv rfl zl_1 (by omega) (by omega)
                      refine lv_iinc (v := v_61) (lv' := [(1, .int v_61), (0, .ref k)]) hx hb dX9_eatPoles_67 hl (k := 0) rfl (by rw [ev_61]; rfl) (by decide +kernel) rfl ?_
                      clear hl
                      intro ls hl
                      refine lv_goto (tgt := 2) hx hb dX9_eatPoles_70 (by decide +kernel) ?_
                      exact ih2 v_61 g2_k45 g2_k46 g2_k47 g2_k48 g2_gx (by first | omega | decide | assumption | rfl) i2_1 (eat_l (li := (60 : Int32)) i2_2 (by omega) (by omega) (by omega) (And.left i2_3) (by omega) (by omega) hl_59 (by have := zl_60; omega)) (eatN_sx pre1 (eat_l (li := (60 : Int32)) i2_2 (by omega) (by omega) (by omega) (And.left i2_3) (by omega) (by omega) hl_59 (by have := zl_60; omega)) (by omega)) (by first | omega | decide | assumption | rfl) (by omega) ls _ _ (lv_sub hl [0, 1] rfl) (hP.sub [7, 8, 9, 4, 10, 0, 6, 5, 1, 2, 3] rfl) (hD.sub [7, 8, 9, 4, 10, 0, 6, 5, 1, 2, 3] (by decide +kernel) rfl) hS
                    · refine lv_aload_n hx hb dX9_eatPoles_59 rfl (lv_at hl 1 rfl) ?_
                      refine va_get (D := D) (ci := 9) (v := .ref k4) (C := RX9) (T := TX9) (N := 9) hx hb hT giX9 hown hK hP 7 rfl rfl 4 (by decide +kernel) (hT (Cond.fieldLink RX9 27 "DesertWire$World" "works" "LDesertWire$Works;") mw_97) (fun _ h9 => h9) rfl dX9_eatPoles_60 ?_
                      refine lv_iload_n hx hb dX9_eatPoles_63 rfl (lv_at hl 0 rfl) ?_
                      refine kJv (wr := [(k43, .inl (cI, 60, .inl c43)), (k, .inr (9, [.ref k0, .ref k1, .ref k2, .ref k3, .ref k4, .ref k5, .int c6, .int c7, .int c8])), (k1, .inl (cI, 40, .inl c1))]) (va_runV (As := [.int l2_1]) (rest := []) ⟨hx, hb, hml, hown, hT⟩ (c_X8_bringDownD l D cI aK aV k4 k40 k41 k42 k43 k44 k45 k46 k47 k48 H.size c49 c40 c41 c42 g2_k45 g2_k46 g2_k47 g2_k48 c43 c44 g2_gx l2_1 (WR.kw i2_1) (And.left i2_3) (by first | omega | decide | assumption | rfl) (by first | omega | decide | assumption | rfl)) (cwV 1 hT (gV_in mw_603 mw_972 mw_601 mw_602 mw_3) rfl rfl rfl (by decide +kernel) ⟨Nat.le_of_ble_eq_true rfl, Nat.le_of_ble_eq_true rfl⟩) (kRecvX (q0 := 9) (ci := 8) hK hP hD hN hXS hS hA rfl rfl [9, 4, 10, 0, 5, 1, 2, 3] rfl (by decide +kernel)) rfl rfl hl.1 rfl (lv_room (Nat.le_of_ble_eq_true rfl)) dX9_eatPoles_64 ⟨Nat.le_of_ble_eq_true rfl, Nat.le_of_ble_eq_true rfl⟩) hP hD hS hA [9, 4, 10, 0, 5, 1, 2, 3] [6, 7, 8] rfl rfl (by decide +kernel) (by decide +kernel) ?_
                      clear hP hD hS
                      intro u_68 H locs w_63 hP hD hS
                      obtain ⟨sc5_64, sc6_65, sc7_66, sc8_67⟩ := u_68
                      replace hP : va_P D vwCl [(k43, .inl (cI, 60, .inl c43)), (k, .inr (9, [.ref k0, .ref k1, .ref k2, .ref k3, .ref k4, .ref k5, .int c6, .int c7, .int c8])), (k1, .inl (cI, 40, .inl c1)), (k4, .inr (8, [.ref k40, .ref k41, .ref k42, .ref k43, .ref k44, .ref k45, .ref k46, .ref k47, .ref k48, .int c49])), (k40, .inl (cI, 60, .inl c40)), (k41, .inl (cI, 60, .inl c41)), (k42, .inl (cI, 60, .inl c42)), (k45, .inl (cI, 60, .inl sc5_64)), (k46, .inl (cI, 40, .inl sc6_65)), (k47, .inl (cI, 40, .inl sc7_66)), (k48, .inl (cI, 40, .inl sc8_67))] H := hP
                      replace hD : va_D A [(k43, .inl (cI, 60, .inl c43)), (k, .inr (9, [.ref k0, .ref k1, .ref k2, .ref k3, .ref k4, .ref k5, .int c6, .int c7, .int c8])), (k1, .inl (cI, 40, .inl c1)), (k4, .inr (8, [.ref k40, .ref k41, .ref k42, .ref k43, .ref k44, .ref k45, .ref k46, .ref k47, .ref k48, .int c49])), (k40, .inl (cI, 60, .inl c40)), (k41, .inl (cI, 60, .inl c41)), (k42, .inl (cI, 60, .inl c42)), (k45, .inl (cI, 60, .inl sc5_64)), (k46, .inl (cI, 40, .inl sc6_65)), (k47, .inl (cI, 40, .inl sc7_66)), (k48, .inl (cI, 40, .inl sc8_67))] := hD
                      have h_69 := w_63
                      have h_69 : WKR c40 c41 c42 c43 c44 sc5_64 sc6_65 sc7_66 sc8_67 c49 (dnS g2_gx l2_1) := h_69
                      obtain ⟨gg_70, egg_70⟩ : ∃ g_ : Nat → Int32, g_ = (dnS g2_gx l2_1) := ⟨_, rfl⟩
                      rw [← egg_70] at h_69
                      have hW_71 : WR c0 c1 c2 c3 c40 c41 c42 c43 c44 sc5_64 sc6_65 sc7_66 sc8_67 c49 c50 c51 c6 c7 c8 gg_70 := WR.ofW i2_1 h_69 (by rw [egg_70]; exact OFW.dn (by omega) (by omega))
                      have t_72 : c49.toInt = (gg_70 1).toInt := WKR.nt (WR.kw hW_71)
                      obtain ⟨v_73, ev_73⟩ : ∃ y : Int32, y = l2_1 + 1 := ⟨_, rfl⟩
                      have tv_73 : v_73.toInt = l2_1.toInt + 1 := by rw [ev_73]; exact k_addv rfl zl_1 (by omega) (by omega)
                      refine lv_iinc (v := v_73) (lv' := [(1, .int v_73), (0, .ref k)]) hx hb dX9_eatPoles_67 hl (k := 0) rfl (by rw [ev_73]; rfl) (by decide +kernel) rfl ?_
                      clear hl
                      intro ls hl
                      refine lv_goto (tgt := 2) hx hb dX9_eatPoles_70 (by decide +kernel) ?_
                      exact ih2 v_73 sc5_64 sc6_65 sc7_66 sc8_67 gg_70 (by first | omega | decide | assumption | rfl) hW_71 (eat_y (li := (60 : Int32)) i2_2 (by omega) (by omega) (by omega) (And.left i2_3) (by omega) (by omega) hl_59 (by have := zl_60; omega) egg_70) (eatN_sx pre1 (eat_y (li := (60 : Int32)) i2_2 (by omega) (by omega) (by omega) (And.left i2_3) (by omega) (by omega) hl_59 (by have := zl_60; omega) egg_70) (by omega)) (by first | omega | decide | assumption | rfl) (by omega) ls _ _ (lv_sub hl [0, 1] rfl) (hP.sub [1, 2, 3, 4, 5, 6, 0, 7, 8, 9, 10] rfl) (hD.sub [1, 2, 3, 4, 5, 6, 0, 7, 8, 9, 10] (by decide +kernel) rfl) hS
                  · have h_58 : r_54 = lifN g2_gx l2_1.toInt.toNat := h_58
                    have h_58 : r_54 = lifN g2_gx l2_1.toInt.toNat := h_58
                    obtain rfl : r_54 = 120 := hr_54.trans (by decide +kernel)
                    have hl_74 : (120 : Int32) = lifN g2_gx l2_1.toInt.toNat := h_58
                    refine b_icmp_lt hx hb rfl zl_120 (tgt := 67) dX9_eatPoles_56 (by decide +kernel) (fun c_75 => ?_) (fun c_75 => ?_)
                    · obtain ⟨v_76, ev_76⟩ : ∃ y : Int32, y = l2_1 + 1 := ⟨_, rfl⟩
                      have tv_76 : v_76.toInt = l2_1.toInt + 1 := by rw [ev_76]; exact k_addv rfl zl_1 (by omega) (by omega)
                      refine lv_iinc (v := v_76) (lv' := [(1, .int v_76), (0, .ref k)]) hx hb dX9_eatPoles_67 hl (k := 0) rfl (by rw [ev_76]; rfl) (by decide +kernel) rfl ?_
                      clear hl
                      intro ls hl
                      refine lv_goto (tgt := 2) hx hb dX9_eatPoles_70 (by decide +kernel) ?_
                      exact ih2 v_76 g2_k45 g2_k46 g2_k47 g2_k48 g2_gx (by first | omega | decide | assumption | rfl) i2_1 (eat_l (li := (120 : Int32)) i2_2 (by omega) (by omega) (by omega) (And.left i2_3) (by omega) (by omega) hl_74 (by have := zl_120; omega)) (eatN_sx pre1 (eat_l (li := (120 : Int32)) i2_2 (by omega) (by omega) (by omega) (And.left i2_3) (by omega) (by omega) hl_74 (by have := zl_120; omega)) (by omega)) (by first | omega | decide | assumption | rfl) (by omega) ls _ _ (lv_sub hl [0, 1] rfl) (hP.sub [7, 8, 9, 4, 10, 0, 6, 5, 1, 2, 3] rfl) (hD.sub [7, 8, 9, 4, 10, 0, 6, 5, 1, 2, 3] (by decide +kernel) rfl) hS
                    · refine lv_aload_n hx hb dX9_eatPoles_59 rfl (lv_at hl 1 rfl) ?_
                      refine va_get (D := D) (ci := 9) (v := .ref k4) (C := RX9) (T := TX9) (N := 9) hx hb hT giX9 hown hK hP 7 rfl rfl 4 (by decide +kernel) (hT (Cond.fieldLink RX9 27 "DesertWire$World" "works" "LDesertWire$Works;") mw_97) (fun _ h9 => h9) rfl dX9_eatPoles_60 ?_
                      refine lv_iload_n hx hb dX9_eatPoles_63 rfl (lv_at hl 0 rfl) ?_
                      refine kJv (wr := [(k43, .inl (cI, 60, .inl c43)), (k, .inr (9, [.ref k0, .ref k1, .ref k2, .ref k3, .ref k4, .ref k5, .int c6, .int c7, .int c8])), (k1, .inl (cI, 40, .inl c1))]) (va_runV (As := [.int l2_1]) (rest := []) ⟨hx, hb, hml, hown, hT⟩ (c_X8_bringDownD l D cI aK aV k4 k40 k41 k42 k43 k44 k45 k46 k47 k48 H.size c49 c40 c41 c42 g2_k45 g2_k46 g2_k47 g2_k48 c43 c44 g2_gx l2_1 (WR.kw i2_1) (And.left i2_3) (by first | omega | decide | assumption | rfl) (by first | omega | decide | assumption | rfl)) (cwV 1 hT (gV_in mw_603 mw_972 mw_601 mw_602 mw_3) rfl rfl rfl (by decide +kernel) ⟨Nat.le_of_ble_eq_true rfl, Nat.le_of_ble_eq_true rfl⟩) (kRecvX (q0 := 9) (ci := 8) hK hP hD hN hXS hS hA rfl rfl [9, 4, 10, 0, 5, 1, 2, 3] rfl (by decide +kernel)) rfl rfl hl.1 rfl (lv_room (Nat.le_of_ble_eq_true rfl)) dX9_eatPoles_64 ⟨Nat.le_of_ble_eq_true rfl, Nat.le_of_ble_eq_true rfl⟩) hP hD hS hA [9, 4, 10, 0, 5, 1, 2, 3] [6, 7, 8] rfl rfl (by decide +kernel) (by decide +kernel) ?_
                      clear hP hD hS
                      intro u_83 H locs w_78 hP hD hS
                      obtain ⟨sc5_79, sc6_80, sc7_81, sc8_82⟩ := u_83
                      replace hP : va_P D vwCl [(k43, .inl (cI, 60, .inl c43)), (k, .inr (9, [.ref k0, .ref k1, .ref k2, .ref k3, .ref k4, .ref k5, .int c6, .int c7, .int c8])), (k1, .inl (cI, 40, .inl c1)), (k4, .inr (8, [.ref k40, .ref k41, .ref k42, .ref k43, .ref k44, .ref k45, .ref k46, .ref k47, .ref k48, .int c49])), (k40, .inl (cI, 60, .inl c40)), (k41, .inl (cI, 60, .inl c41)), (k42, .inl (cI, 60, .inl c42)), (k45, .inl (cI, 60, .inl sc5_79)), (k46, .inl (cI, 40, .inl sc6_80)), (k47, .inl (cI, 40, .inl sc7_81)), (k48, .inl (cI, 40, .inl sc8_82))] H := hP
                      replace hD : va_D A [(k43, .inl (cI, 60, .inl c43)), (k, .inr (9, [.ref k0, .ref k1, .ref k2, .ref k3, .ref k4, .ref k5, .int c6, .int c7, .int c8])), (k1, .inl (cI, 40, .inl c1)), (k4, .inr (8, [.ref k40, .ref k41, .ref k42, .ref k43, .ref k44, .ref k45, .ref k46, .ref k47, .ref k48, .int c49])), (k40, .inl (cI, 60, .inl c40)), (k41, .inl (cI, 60, .inl c41)), (k42, .inl (cI, 60, .inl c42)), (k45, .inl (cI, 60, .inl sc5_79)), (k46, .inl (cI, 40, .inl sc6_80)), (k47, .inl (cI, 40, .inl sc7_81)), (k48, .inl (cI, 40, .inl sc8_82))] := hD
                      have h_84 := w_78
                      have h_84 : WKR c40 c41 c42 c43 c44 sc5_79 sc6_80 sc7_81 sc8_82 c49 (dnS g2_gx l2_1) := h_84
                      obtain ⟨gg_85, egg_85⟩ : ∃ g_ : Nat → Int32, g_ = (dnS g2_gx l2_1) := ⟨_, rfl⟩
                      rw [← egg_85] at h_84
                      have hW_86 : WR c0 c1 c2 c3 c40 c41 c42 c43 c44 sc5_79 sc6_80 sc7_81 sc8_82 c49 c50 c51 c6 c7 c8 gg_85 := WR.ofW i2_1 h_84 (by rw [egg_85]; exact OFW.dn (by omega) (by omega))
                      have t_87 : c49.toInt = (gg_85 1).toInt := WKR.nt (WR.kw hW_86)
                      obtain ⟨v_88, ev_88⟩ : ∃ y : Int32, y = l2_1 + 1 := ⟨_, rfl⟩
                      have tv_88 : v_88.toInt = l2_1.toInt + 1 := by rw [ev_88]; exact k_addv rfl zl_1 (by omega) (by omega)
                      refine lv_iinc (v := v_88) (lv' := [(1, .int v_88), (0, .ref k)]) hx hb dX9_eatPoles_67 hl (k := 0) rfl (by rw [ev_88]; rfl) (by decide +kernel) rfl ?_
                      clear hl
                      intro ls hl
                      refine lv_goto (tgt := 2) hx hb dX9_eatPoles_70 (by decide +kernel) ?_
                      exact ih2 v_88 sc5_79 sc6_80 sc7_81 sc8_82 gg_85 (by first | omega | decide | assumption | rfl) hW_86 (eat_y (li := (120 : Int32)) i2_2 (by omega) (by omega) (by omega) (And.left i2_3) (by omega) (by omega) hl_74 (by have := zl_120; omega) egg_85) (eatN_sx pre1 (eat_y (li := (120 : Int32)) i2_2 (by omega) (by omega) (by omega) (And.left i2_3) (by omega) (by omega) hl_74 (by have := zl_120; omega) egg_85) (by omega)) (by first | omega | decide | assumption | rfl) (by omega) ls _ _ (lv_sub hl [0, 1] rfl) (hP.sub [1, 2, 3, 4, 5, 6, 0, 7, 8, 9, 10] rfl) (hD.sub [1, 2, 3, 4, 5, 6, 0, 7, 8, 9, 10] (by decide +kernel) rfl) hS
                · exfalso; omega
              · exfalso; omega
          · exfalso; omega
  exact hloop_2 _ 0 c45 c46 c47 c48 gx (by first | omega | (simp only [zl_0]; first | done | omega) | decide | assumption | rfl) pre0 (by rw [zl_0]; rfl) pre1 (by first | omega | (simp only [zl_0]; first | done | omega) | decide | assumption | rfl) (Nat.lt_succ_self _) ls _ _ (lv_sub hl [0, 1] rfl) hP hD hS

set_option maxHeartbeats 4000000 in
set_option maxRecDepth 100000 in
theorem c_X9_drinkOfD (l : Launch) (D : va_G) (cI : ClassId) (aK aV : Nat → Nat) (k k0 k1 k2 k3 k4 k5 k40 k41 k42 k43 k44 k45 k46 k47 k48 k50 : Nat) (sz : Nat) (c6 : Int32) (c7 : Int32) (c8 : Int32) (c2 : Nat → Int32) (c49 : Int32) (c51 : Int32) (c47 : Nat → Int32) (c50 : Nat → Int32) (c0 : Nat → Int32) (c1 : Nat → Int32) (c3 : Nat → Int32) (c40 : Nat → Int32) (c41 : Nat → Int32) (c42 : Nat → Int32) (c43 : Nat → Int32) (c44 : Nat → Int32) (c45 : Nat → Int32) (c46 : Nat → Int32) (c48 : Nat → Int32) (gx : Nat → Int32) (a0 : Int32) (pre0 : WR c0 c1 c2 c3 c40 c41 c42 c43 c44 c45 c46 c47 c48 c49 c50 c51 c6 c7 c8 gx) (pre1 : SB gx) (pre2 : 0 ≤ a0.toInt) (pre3 : a0.toInt < c51.toInt) : Met l yX9_drinkOf (gW yX9_drinkOf cX9_drinkOf 8 none) ({ frames := 3, cells := 0, slots := 0, locals := 67 } : Room) (kPreX D cI aK aV [.ref k, .int a0] [(k, .inr (9, [.ref k0, .ref k1, .ref k2, .ref k3, .ref k4, .ref k5, .int c6, .int c7, .int c8])), (k2, .inl (cI, 40, .inl c2)), (k4, .inr (8, [.ref k40, .ref k41, .ref k42, .ref k43, .ref k44, .ref k45, .ref k46, .ref k47, .ref k48, .int c49])), (k5, .inr (3, [.ref k50, .int c51])), (k47, .inl (cI, 40, .inl c47)), (k50, .inl (cI, 36, .inl c50))] sz) (va_Qv (fun (u : (Nat → Int32)) => WR c0 c1 c2 c3 c40 c41 c42 c43 c44 c45 c46 c47 c48 c49 u c51 c6 c7 c8 (drkS gx a0.toInt.toNat)) (fun u t => kWd D cI (va_A [(k, .inr (9, [.ref k0, .ref k1, .ref k2, .ref k3, .ref k4, .ref k5, .int c6, .int c7, .int c8])), (k2, .inl (cI, 40, .inl c2)), (k4, .inr (8, [.ref k40, .ref k41, .ref k42, .ref k43, .ref k44, .ref k45, .ref k46, .ref k47, .ref k48, .int c49])), (k5, .inr (3, [.ref k50, .int c51])), (k47, .inl (cI, 40, .inl c47)), (k50, .inl (cI, 36, .inl c50))] sz) [(k, .inr (9, [.ref k0, .ref k1, .ref k2, .ref k3, .ref k4, .ref k5, .int c6, .int c7, .int c8])), (k2, .inl (cI, 40, .inl c2)), (k4, .inr (8, [.ref k40, .ref k41, .ref k42, .ref k43, .ref k44, .ref k45, .ref k46, .ref k47, .ref k48, .int c49])), (k5, .inr (3, [.ref k50, .int c51])), (k47, .inl (cI, 40, .inl c47)), (k50, .inl (cI, 36, .inl u))] t) (va_A [(k, .inr (9, [.ref k0, .ref k1, .ref k2, .ref k3, .ref k4, .ref k5, .int c6, .int c7, .int c8])), (k2, .inl (cI, 40, .inl c2)), (k4, .inr (8, [.ref k40, .ref k41, .ref k42, .ref k43, .ref k44, .ref k45, .ref k46, .ref k47, .ref k48, .int c49])), (k5, .inr (3, [.ref k50, .int c51])), (k47, .inl (cI, 40, .inl c47)), (k50, .inl (cI, 36, .inl c50))] sz)) 0 0 (va_A [(k, .inr (9, [.ref k0, .ref k1, .ref k2, .ref k3, .ref k4, .ref k5, .int c6, .int c7, .int c8])), (k2, .inl (cI, 40, .inl c2)), (k4, .inr (8, [.ref k40, .ref k41, .ref k42, .ref k43, .ref k44, .ref k45, .ref k46, .ref k47, .ref k48, .int c49])), (k5, .inr (3, [.ref k50, .int c51])), (k47, .inl (cI, 40, .inl c47)), (k50, .inl (cI, 36, .inl c50))] sz) := by
  refine kMetVX (own := RX9) (by decide +kernel) rfl (Nat.le_of_ble_eq_true rfl) ?_
  intro p e s m args below meth c hx hb hT hown hname hml A Q hK hP hD hS hA hN hXS hRet ls hl
  have hl : lv_has ls 8 [(0, .ref k), (1, .int a0)] := hl
  have lo_a0 := k_lo a0
  have hi_a0 := k_hi a0
  have lo_c6 := k_lo c6
  have hi_c6 := k_hi c6
  have lo_c7 := k_lo c7
  have hi_c7 := k_hi c7
  have lo_c8 := k_lo c8
  have hi_c8 := k_hi c8
  have lo_c49 := k_lo c49
  have hi_c49 := k_hi c49
  have lo_c51 := k_lo c51
  have hi_c51 := k_hi c51
  have pre0 : WR c0 c1 c2 c3 c40 c41 c42 c43 c44 c45 c46 c47 c48 c49 c50 c51 c6 c7 c8 gx := pre0
  have b_1 : 0 ≤ c49.toInt ∧ c49.toInt ≤ 60 := WKR.n0 (WR.kw pre0)
  have t_2 : c49.toInt = (gx 1).toInt := WKR.nt (WR.kw pre0)
  have b_3 : 0 ≤ c51.toInt ∧ c51.toInt ≤ 4 := ((WR.kp pre0)).2.1
  have t_4 : c51.toInt = (gx 2).toInt := PTR.nt (WR.kp pre0)
  have t_5 : c8.toInt = (gx 0).toInt := by rw [WR.dd pre0]
  have pre1 : SB gx := pre1
  refine lv_aload_n hx hb dX9_drinkOf_0 rfl (lv_at hl 0 rfl) ?_
  refine va_get (D := D) (ci := 9) (v := .ref k5) (C := RX9) (T := TX9) (N := 9) hx hb hT giX9 hown hK hP 0 rfl rfl 5 (by decide +kernel) (hT (Cond.fieldLink RX9 34 "DesertWire$World" "parties" "LDesertWire$Parties;") mw_100) (fun _ h9 => h9) rfl dX9_drinkOf_1 ?_
  refine lv_iload_n hx hb dX9_drinkOf_4 rfl (lv_at hl 1 rfl) ?_
  refine lv_iconst (v := 0) hx hb dX9_drinkOf_5 (by decide +kernel) ?_
  refine kJi (wr := [(k, .inr (9, [.ref k0, .ref k1, .ref k2, .ref k3, .ref k4, .ref k5, .int c6, .int c7, .int c8])), (k2, .inl (cI, 40, .inl c2)), (k4, .inr (8, [.ref k40, .ref k41, .ref k42, .ref k43, .ref k44, .ref k45, .ref k46, .ref k47, .ref k48, .int c49])), (k47, .inl (cI, 40, .inl c47))]) (va_runV (As := [.int a0, .int 0]) (rest := []) ⟨hx, hb, hml, hown, hT⟩ (c_X3_getD0 l D cI aK aV k5 k50 s.heap.size c51 c50 gx a0 0 (WR.kp pre0) (by first | omega | (simp only [zl_0]; first | done | omega) | decide | assumption | rfl) (by first | omega | (simp only [zl_0]; first | done | omega) | decide | assumption | rfl) (by first | omega | (simp only [zl_0]; first | done | omega) | decide | assumption | rfl)) (cwV 2 hT (gV_in mw_726 mw_978 mw_724 mw_725 mw_4) rfl rfl rfl (by decide +kernel) ⟨Nat.le_of_ble_eq_true rfl, Nat.le_of_ble_eq_true rfl⟩) (kRecvX (q0 := 3) (ci := 3) hK hP hD hN hXS hS hA rfl rfl [3, 5] rfl (by decide +kernel)) rfl rfl hl.1 rfl (lv_room (Nat.le_of_ble_eq_true rfl)) dX9_drinkOf_6 ⟨Nat.le_of_ble_eq_true rfl, Nat.le_of_ble_eq_true rfl⟩) hP hD hS hA [3, 5] [0, 1, 2, 4] rfl rfl (by decide +kernel) (by decide +kernel) ?_
  clear hP hD hS
  intro r_6 u_8 H locs w_7 hP hD hS
  replace hP : va_P D vwCl [(k, .inr (9, [.ref k0, .ref k1, .ref k2, .ref k3, .ref k4, .ref k5, .int c6, .int c7, .int c8])), (k2, .inl (cI, 40, .inl c2)), (k4, .inr (8, [.ref k40, .ref k41, .ref k42, .ref k43, .ref k44, .ref k45, .ref k46, .ref k47, .ref k48, .int c49])), (k47, .inl (cI, 40, .inl c47)), (k5, .inr (3, [.ref k50, .int c51])), (k50, .inl (cI, 36, .inl c50))] H := hP
  replace hD : va_D A [(k, .inr (9, [.ref k0, .ref k1, .ref k2, .ref k3, .ref k4, .ref k5, .int c6, .int c7, .int c8])), (k2, .inl (cI, 40, .inl c2)), (k4, .inr (8, [.ref k40, .ref k41, .ref k42, .ref k43, .ref k44, .ref k45, .ref k46, .ref k47, .ref k48, .int c49])), (k47, .inl (cI, 40, .inl c47)), (k5, .inr (3, [.ref k50, .int c51])), (k50, .inl (cI, 36, .inl c50))] := hD
  have h_9 := w_7
  have h_9 : r_6 = pW gx a0 0 := h_9
  have t_10 : r_6.toInt = (pW gx a0 0).toInt := by rw [h_9]
  have b_11 : 0 ≤ r_6.toInt ∧ r_6.toInt ≤ 39 := by rw [h_9]; exact SB.p0 pre1 (by omega) (by omega)
  have lo_r_6 := k_lo r_6
  have hi_r_6 := k_hi r_6
  refine lv_istore_n (lv' := [(2, .int r_6), (0, .ref k), (1, .int a0)]) hx hb dX9_drinkOf_9 rfl hl (by decide +kernel) rfl ?_
  clear hl
  intro ls hl
  refine lv_aload_n hx hb dX9_drinkOf_10 rfl (lv_at hl 1 rfl) ?_
  refine va_get (D := D) (ci := 9) (v := .ref k5) (C := RX9) (T := TX9) (N := 9) hx hb hT giX9 hown hK hP 0 rfl rfl 5 (by decide +kernel) (hT (Cond.fieldLink RX9 34 "DesertWire$World" "parties" "LDesertWire$Parties;") mw_100) (fun _ h9 => h9) rfl dX9_drinkOf_11 ?_
  refine lv_iload_n hx hb dX9_drinkOf_14 rfl (lv_at hl 2 rfl) ?_
  refine lv_iconst (v := 2) hx hb dX9_drinkOf_15 (by decide +kernel) ?_
  refine kJi (wr := [(k, .inr (9, [.ref k0, .ref k1, .ref k2, .ref k3, .ref k4, .ref k5, .int c6, .int c7, .int c8])), (k2, .inl (cI, 40, .inl c2)), (k4, .inr (8, [.ref k40, .ref k41, .ref k42, .ref k43, .ref k44, .ref k45, .ref k46, .ref k47, .ref k48, .int c49])), (k47, .inl (cI, 40, .inl c47))]) (va_runV (As := [.int a0, .int 2]) (rest := []) ⟨hx, hb, hml, hown, hT⟩ (c_X3_getD2 l D cI aK aV k5 k50 H.size c51 c50 gx a0 2 (WR.kp pre0) (by first | omega | (simp only [zl_2]; first | done | omega) | decide | assumption | rfl) (by first | omega | (simp only [zl_2]; first | done | omega) | decide | assumption | rfl) (by first | omega | (simp only [zl_2]; first | done | omega) | decide | assumption | rfl)) (cwV 2 hT (gV_in mw_726 mw_978 mw_724 mw_725 mw_4) rfl rfl rfl (by decide +kernel) ⟨Nat.le_of_ble_eq_true rfl, Nat.le_of_ble_eq_true rfl⟩) (kRecvX (q0 := 4) (ci := 3) hK hP hD hN hXS hS hA rfl rfl [4, 5] rfl (by decide +kernel)) rfl rfl hl.1 rfl (lv_room (Nat.le_of_ble_eq_true rfl)) dX9_drinkOf_16 ⟨Nat.le_of_ble_eq_true rfl, Nat.le_of_ble_eq_true rfl⟩) hP hD hS hA [4, 5] [0, 1, 2, 3] rfl rfl (by decide +kernel) (by decide +kernel) ?_
  clear hP hD hS
  intro r_12 u_14 H locs w_13 hP hD hS
  replace hP : va_P D vwCl [(k, .inr (9, [.ref k0, .ref k1, .ref k2, .ref k3, .ref k4, .ref k5, .int c6, .int c7, .int c8])), (k2, .inl (cI, 40, .inl c2)), (k4, .inr (8, [.ref k40, .ref k41, .ref k42, .ref k43, .ref k44, .ref k45, .ref k46, .ref k47, .ref k48, .int c49])), (k47, .inl (cI, 40, .inl c47)), (k5, .inr (3, [.ref k50, .int c51])), (k50, .inl (cI, 36, .inl c50))] H := hP
  replace hD : va_D A [(k, .inr (9, [.ref k0, .ref k1, .ref k2, .ref k3, .ref k4, .ref k5, .int c6, .int c7, .int c8])), (k2, .inl (cI, 40, .inl c2)), (k4, .inr (8, [.ref k40, .ref k41, .ref k42, .ref k43, .ref k44, .ref k45, .ref k46, .ref k47, .ref k48, .int c49])), (k47, .inl (cI, 40, .inl c47)), (k5, .inr (3, [.ref k50, .int c51])), (k50, .inl (cI, 36, .inl c50))] := hD
  have h_15 := w_13
  have h_15 : r_12 = pW gx a0 2 := h_15
  have t_16 : r_12.toInt = (pW gx a0 2).toInt := by rw [h_15]
  have b_17 : 0 ≤ r_12.toInt ∧ r_12.toInt ≤ 50 := by rw [h_15]; exact SB.p2 pre1 (by omega) (by omega)
  have lo_r_12 := k_lo r_12
  have hi_r_12 := k_hi r_12
  refine lv_istore_n (lv' := [(3, .int r_12), (2, .int r_6), (0, .ref k), (1, .int a0)]) hx hb dX9_drinkOf_19 rfl hl (by decide +kernel) rfl ?_
  clear hl
  intro ls hl
  refine lv_aload_n hx hb dX9_drinkOf_20 rfl (lv_at hl 2 rfl) ?_
  refine va_get (D := D) (ci := 9) (v := .ref k5) (C := RX9) (T := TX9) (N := 9) hx hb hT giX9 hown hK hP 0 rfl rfl 5 (by decide +kernel) (hT (Cond.fieldLink RX9 34 "DesertWire$World" "parties" "LDesertWire$Parties;") mw_100) (fun _ h9 => h9) rfl dX9_drinkOf_21 ?_
  refine lv_iload_n hx hb dX9_drinkOf_24 rfl (lv_at hl 3 rfl) ?_
  refine lv_iconst (v := 3) hx hb dX9_drinkOf_25 (by decide +kernel) ?_
  refine kJi (wr := [(k, .inr (9, [.ref k0, .ref k1, .ref k2, .ref k3, .ref k4, .ref k5, .int c6, .int c7, .int c8])), (k2, .inl (cI, 40, .inl c2)), (k4, .inr (8, [.ref k40, .ref k41, .ref k42, .ref k43, .ref k44, .ref k45, .ref k46, .ref k47, .ref k48, .int c49])), (k47, .inl (cI, 40, .inl c47))]) (va_runV (As := [.int a0, .int 3]) (rest := []) ⟨hx, hb, hml, hown, hT⟩ (c_X3_getD3 l D cI aK aV k5 k50 H.size c51 c50 gx a0 3 (WR.kp pre0) (by first | omega | (simp only [zl_3]; first | done | omega) | decide | assumption | rfl) (by first | omega | (simp only [zl_3]; first | done | omega) | decide | assumption | rfl) (by first | omega | (simp only [zl_3]; first | done | omega) | decide | assumption | rfl)) (cwV 2 hT (gV_in mw_726 mw_978 mw_724 mw_725 mw_4) rfl rfl rfl (by decide +kernel) ⟨Nat.le_of_ble_eq_true rfl, Nat.le_of_ble_eq_true rfl⟩) (kRecvX (q0 := 4) (ci := 3) hK hP hD hN hXS hS hA rfl rfl [4, 5] rfl (by decide +kernel)) rfl rfl hl.1 rfl (lv_room (Nat.le_of_ble_eq_true rfl)) dX9_drinkOf_26 ⟨Nat.le_of_ble_eq_true rfl, Nat.le_of_ble_eq_true rfl⟩) hP hD hS hA [4, 5] [0, 1, 2, 3] rfl rfl (by decide +kernel) (by decide +kernel) ?_
  clear hP hD hS
  intro r_18 u_20 H locs w_19 hP hD hS
  replace hP : va_P D vwCl [(k, .inr (9, [.ref k0, .ref k1, .ref k2, .ref k3, .ref k4, .ref k5, .int c6, .int c7, .int c8])), (k2, .inl (cI, 40, .inl c2)), (k4, .inr (8, [.ref k40, .ref k41, .ref k42, .ref k43, .ref k44, .ref k45, .ref k46, .ref k47, .ref k48, .int c49])), (k47, .inl (cI, 40, .inl c47)), (k5, .inr (3, [.ref k50, .int c51])), (k50, .inl (cI, 36, .inl c50))] H := hP
  replace hD : va_D A [(k, .inr (9, [.ref k0, .ref k1, .ref k2, .ref k3, .ref k4, .ref k5, .int c6, .int c7, .int c8])), (k2, .inl (cI, 40, .inl c2)), (k4, .inr (8, [.ref k40, .ref k41, .ref k42, .ref k43, .ref k44, .ref k45, .ref k46, .ref k47, .ref k48, .int c49])), (k47, .inl (cI, 40, .inl c47)), (k5, .inr (3, [.ref k50, .int c51])), (k50, .inl (cI, 36, .inl c50))] := hD
  have h_21 := w_19
  have h_21 : r_18 = pW gx a0 3 := h_21
  have t_22 : r_18.toInt = (pW gx a0 3).toInt := by rw [h_21]
  have b_23 : 0 ≤ r_18.toInt ∧ r_18.toInt ≤ 50 := by rw [h_21]; exact SB.p3 pre1 (by omega) (by omega)
  have lo_r_18 := k_lo r_18
  have hi_r_18 := k_hi r_18
  refine lv_istore (lv' := [(4, .int r_18), (3, .int r_12), (2, .int r_6), (0, .ref k), (1, .int a0)]) hx hb dX9_drinkOf_29 hl (by decide +kernel) rfl ?_
  clear hl
  intro ls hl
  refine lv_aload_n hx hb dX9_drinkOf_31 rfl (lv_at hl 3 rfl) ?_
  refine va_get (D := D) (ci := 9) (v := .ref k5) (C := RX9) (T := TX9) (N := 9) hx hb hT giX9 hown hK hP 0 rfl rfl 5 (by decide +kernel) (hT (Cond.fieldLink RX9 34 "DesertWire$World" "parties" "LDesertWire$Parties;") mw_100) (fun _ h9 => h9) rfl dX9_drinkOf_32 ?_
  refine lv_iload_n hx hb dX9_drinkOf_35 rfl (lv_at hl 4 rfl) ?_
  refine lv_bipush (v := 6) hx hb dX9_drinkOf_36 (by decide +kernel) ?_
  refine kJi (wr := [(k, .inr (9, [.ref k0, .ref k1, .ref k2, .ref k3, .ref k4, .ref k5, .int c6, .int c7, .int c8])), (k2, .inl (cI, 40, .inl c2)), (k4, .inr (8, [.ref k40, .ref k41, .ref k42, .ref k43, .ref k44, .ref k45, .ref k46, .ref k47, .ref k48, .int c49])), (k47, .inl (cI, 40, .inl c47))]) (va_runV (As := [.int a0, .int 6]) (rest := []) ⟨hx, hb, hml, hown, hT⟩ (c_X3_getD6 l D cI aK aV k5 k50 H.size c51 c50 gx a0 6 (WR.kp pre0) (by first | omega | (simp only [zl_6]; first | done | omega) | decide | assumption | rfl) (by first | omega | (simp only [zl_6]; first | done | omega) | decide | assumption | rfl) (by first | omega | (simp only [zl_6]; first | done | omega) | decide | assumption | rfl)) (cwV 2 hT (gV_in mw_726 mw_978 mw_724 mw_725 mw_4) rfl rfl rfl (by decide +kernel) ⟨Nat.le_of_ble_eq_true rfl, Nat.le_of_ble_eq_true rfl⟩) (kRecvX (q0 := 4) (ci := 3) hK hP hD hN hXS hS hA rfl rfl [4, 5] rfl (by decide +kernel)) rfl rfl hl.1 rfl (lv_room (Nat.le_of_ble_eq_true rfl)) dX9_drinkOf_38 ⟨Nat.le_of_ble_eq_true rfl, Nat.le_of_ble_eq_true rfl⟩) hP hD hS hA [4, 5] [0, 1, 2, 3] rfl rfl (by decide +kernel) (by decide +kernel) ?_
  clear hP hD hS
  intro r_24 u_26 H locs w_25 hP hD hS
  replace hP : va_P D vwCl [(k, .inr (9, [.ref k0, .ref k1, .ref k2, .ref k3, .ref k4, .ref k5, .int c6, .int c7, .int c8])), (k2, .inl (cI, 40, .inl c2)), (k4, .inr (8, [.ref k40, .ref k41, .ref k42, .ref k43, .ref k44, .ref k45, .ref k46, .ref k47, .ref k48, .int c49])), (k47, .inl (cI, 40, .inl c47)), (k5, .inr (3, [.ref k50, .int c51])), (k50, .inl (cI, 36, .inl c50))] H := hP
  replace hD : va_D A [(k, .inr (9, [.ref k0, .ref k1, .ref k2, .ref k3, .ref k4, .ref k5, .int c6, .int c7, .int c8])), (k2, .inl (cI, 40, .inl c2)), (k4, .inr (8, [.ref k40, .ref k41, .ref k42, .ref k43, .ref k44, .ref k45, .ref k46, .ref k47, .ref k48, .int c49])), (k47, .inl (cI, 40, .inl c47)), (k5, .inr (3, [.ref k50, .int c51])), (k50, .inl (cI, 36, .inl c50))] := hD
  have h_27 := w_25
  have h_27 : r_24 = pW gx a0 6 := h_27
  have t_28 : r_24.toInt = (pW gx a0 6).toInt := by rw [h_27]
  have lo_r_24 := k_lo r_24
  have hi_r_24 := k_hi r_24
  refine lv_istore (lv' := [(5, .int r_24), (4, .int r_18), (3, .int r_12), (2, .int r_6), (0, .ref k), (1, .int a0)]) hx hb dX9_drinkOf_41 hl (by decide +kernel) rfl ?_
  clear hl
  intro ls hl
  refine lv_iload hx hb dX9_drinkOf_43 (lv_at hl 0 rfl) ?_
  refine lv_aload_n hx hb dX9_drinkOf_45 rfl (lv_at hl 4 rfl) ?_
  refine lv_iload_n hx hb dX9_drinkOf_46 rfl (lv_at hl 3 rfl) ?_
  refine kJi (wr := [(k4, .inr (8, [.ref k40, .ref k41, .ref k42, .ref k43, .ref k44, .ref k45, .ref k46, .ref k47, .ref k48, .int c49])), (k47, .inl (cI, 40, .inl c47)), (k5, .inr (3, [.ref k50, .int c51])), (k50, .inl (cI, 36, .inl c50))]) (va_runV (As := [.int r_6]) (rest := [.int r_24]) ⟨hx, hb, hml, hown, hT⟩ (c_X9_springOfD l D cI aK aV k k0 k1 k2 k3 k4 k5 H.size c6 c7 c8 c2 r_6) (cwV 1 hT (gV_in mw_620 mw_979 mw_618 mw_619 mw_2) rfl rfl rfl (by decide +kernel) ⟨Nat.le_of_ble_eq_true rfl, Nat.le_of_ble_eq_true rfl⟩) (kRecvX (q0 := 0) (ci := 9) hK hP hD hN hXS hS hA rfl rfl [0, 1] rfl (by decide +kernel)) rfl rfl hl.1 rfl (lv_room (Nat.le_of_ble_eq_true rfl)) dX9_drinkOf_47 ⟨Nat.le_of_ble_eq_true rfl, Nat.le_of_ble_eq_true rfl⟩) hP hD hS hA [0, 1] [2, 3, 4, 5] rfl rfl (by decide +kernel) (by decide +kernel) ?_
  clear hP hD hS
  intro r_29 u_31 H locs w_30 hP hD hS
  replace hP : va_P D vwCl [(k4, .inr (8, [.ref k40, .ref k41, .ref k42, .ref k43, .ref k44, .ref k45, .ref k46, .ref k47, .ref k48, .int c49])), (k47, .inl (cI, 40, .inl c47)), (k5, .inr (3, [.ref k50, .int c51])), (k50, .inl (cI, 36, .inl c50)), (k, .inr (9, [.ref k0, .ref k1, .ref k2, .ref k3, .ref k4, .ref k5, .int c6, .int c7, .int c8])), (k2, .inl (cI, 40, .inl c2))] H := hP
  replace hD : va_D A [(k4, .inr (8, [.ref k40, .ref k41, .ref k42, .ref k43, .ref k44, .ref k45, .ref k46, .ref k47, .ref k48, .int c49])), (k47, .inl (cI, 40, .inl c47)), (k5, .inr (3, [.ref k50, .int c51])), (k50, .inl (cI, 36, .inl c50)), (k, .inr (9, [.ref k0, .ref k1, .ref k2, .ref k3, .ref k4, .ref k5, .int c6, .int c7, .int c8])), (k2, .inl (cI, 40, .inl c2))] := hD
  rcases w_30 with ⟨h_32, h_33, h_34⟩ | ⟨hr_29, h_35⟩
  · have h_32 : 0 ≤ r_6.toInt := h_32
    have h_33 : r_6.toInt ≤ 39 := h_33
    have h_34 : r_29 = c2 r_6.toNatClampNeg := h_34
    have h_36 : r_29 = gx (59 + r_6.toInt.toNat) := Eq.trans h_34 (WR.qsp pre0 (by omega) (by omega))
    have lo_r_29 := k_lo r_29
    have hi_r_29 := k_hi r_29
    refine lv_iadd hx hb dX9_drinkOf_50 ?_
    refine lv_topi (fun v_37 ev_37 => ?_)
    have lo_v_37 := k_lo v_37
    have hi_v_37 := k_hi v_37
    refine lv_aload_n hx hb dX9_drinkOf_51 rfl (lv_at hl 4 rfl) ?_
    refine va_get (D := D) (ci := 9) (v := .ref k4) (C := RX9) (T := TX9) (N := 9) hx hb hT giX9 hown hK hP 4 rfl rfl 4 (by decide +kernel) (hT (Cond.fieldLink RX9 27 "DesertWire$World" "works" "LDesertWire$Works;") mw_97) (fun _ h9 => h9) rfl dX9_drinkOf_52 ?_
    refine lv_iload_n hx hb dX9_drinkOf_55 rfl (lv_at hl 3 rfl) ?_
    refine kJi (wr := [(k5, .inr (3, [.ref k50, .int c51])), (k50, .inl (cI, 36, .inl c50)), (k, .inr (9, [.ref k0, .ref k1, .ref k2, .ref k3, .ref k4, .ref k5, .int c6, .int c7, .int c8])), (k2, .inl (cI, 40, .inl c2))]) (va_runV (As := [.int r_6]) (rest := [.int v_37]) ⟨hx, hb, hml, hown, hT⟩ (c_X8_drinkInD l D cI aK aV k4 k40 k41 k42 k43 k44 k45 k46 k47 k48 H.size c49 c47 c40 c41 c42 c43 c44 c45 c46 c48 gx r_6 (WR.kw pre0)) (cwV 1 hT (gV_in mw_655 mw_980 mw_653 mw_654 mw_3) rfl rfl rfl (by decide +kernel) ⟨Nat.le_of_ble_eq_true rfl, Nat.le_of_ble_eq_true rfl⟩) (kRecvX (q0 := 0) (ci := 8) hK hP hD hN hXS hS hA rfl rfl [0, 1] rfl (by decide +kernel)) rfl rfl hl.1 rfl (lv_room (Nat.le_of_ble_eq_true rfl)) dX9_drinkOf_56 ⟨Nat.le_of_ble_eq_true rfl, Nat.le_of_ble_eq_true rfl⟩) hP hD hS hA [0, 1] [2, 3, 4, 5] rfl rfl (by decide +kernel) (by decide +kernel) ?_
    clear hP hD hS
    intro r_38 u_40 H locs w_39 hP hD hS
    replace hP : va_P D vwCl [(k5, .inr (3, [.ref k50, .int c51])), (k50, .inl (cI, 36, .inl c50)), (k, .inr (9, [.ref k0, .ref k1, .ref k2, .ref k3, .ref k4, .ref k5, .int c6, .int c7, .int c8])), (k2, .inl (cI, 40, .inl c2)), (k4, .inr (8, [.ref k40, .ref k41, .ref k42, .ref k43, .ref k44, .ref k45, .ref k46, .ref k47, .ref k48, .int c49])), (k47, .inl (cI, 40, .inl c47))] H := hP
    replace hD : va_D A [(k5, .inr (3, [.ref k50, .int c51])), (k50, .inl (cI, 36, .inl c50)), (k, .inr (9, [.ref k0, .ref k1, .ref k2, .ref k3, .ref k4, .ref k5, .int c6, .int c7, .int c8])), (k2, .inl (cI, 40, .inl c2)), (k4, .inr (8, [.ref k40, .ref k41, .ref k42, .ref k43, .ref k44, .ref k45, .ref k46, .ref k47, .ref k48, .int c49])), (k47, .inl (cI, 40, .inl c47))] := hD
    rcases w_39 with ⟨h_41, h_42, h_43⟩ | ⟨hr_38, h_44⟩
    · have h_41 : 0 ≤ r_6.toInt := h_41
      have h_42 : r_6.toInt ≤ 39 := h_42
      have h_43 : r_38 = wlF gx r_6.toInt := h_43
      have h_43 : r_38 = wlF gx r_6.toInt := h_43
      have lo_r_38 := k_lo r_38
      have hi_r_38 := k_hi r_38
      refine lv_iadd hx hb dX9_drinkOf_59 ?_
      refine lv_topi (fun v_45 ev_45 => ?_)
      have lo_v_45 := k_lo v_45
      have hi_v_45 := k_hi v_45
      refine lv_bipush (v := 50) hx hb dX9_drinkOf_60 (by decide +kernel) ?_
      refine lv_iload_n hx hb dX9_drinkOf_62 rfl (lv_at hl 2 rfl) ?_
      refine lv_iload hx hb dX9_drinkOf_63 (lv_at hl 1 rfl) ?_
      refine lv_iadd hx hb dX9_drinkOf_65 ?_
      refine lv_topi (fun v_46 ev_46 => ?_)
      have tv_46 : v_46.toInt = r_12.toInt + r_18.toInt := by rw [ev_46]; exact k_addv rfl rfl (by omega) (by omega)
      refine lv_imul hx hb dX9_drinkOf_66 ?_
      refine lv_topi (fun v_47 ev_47 => ?_)
      have tv_47 : v_47.toInt = 50 * v_46.toInt := by rw [ev_47]; exact k_mulv zl_50 rfl (by omega) (by omega)
      refine va_mmin hx hb (hml.trans hl.1.symm) hown (hT _ mw_641) (hT _ mw_538) (hT _ mw_13) (hT _ mw_539) (Nat.le_of_ble_eq_true rfl) (Nat.le_of_ble_eq_true rfl) (Nat.le_of_ble_eq_true rfl) (Nat.le_of_ble_eq_true rfl) dX9_drinkOf_67 ?_
      refine lv_topi (fun v_48 ev_48 => ?_)
      have lo_v_48 := k_lo v_48
      have hi_v_48 := k_hi v_48
      have tv_48 : v_48.toInt = k_min v_45.toInt v_47.toInt := by rw [ev_48]; exact k_mmin rfl rfl
      try rw [tv_47] at tv_48
      have sv_48 := k_min_spec (v_45.toInt) (v_47.toInt)
      try rw [tv_47] at sv_48
      refine lv_istore (lv' := [(6, .int v_48), (5, .int r_24), (4, .int r_18), (3, .int r_12), (2, .int r_6), (0, .ref k), (1, .int a0)]) hx hb dX9_drinkOf_70 hl (by decide +kernel) rfl ?_
      clear hl
      intro ls hl
      refine lv_iload hx hb dX9_drinkOf_72 (lv_at hl 1 rfl) ?_
      refine lv_iload hx hb dX9_drinkOf_74 (lv_at hl 0 rfl) ?_
      refine va_mmax hx hb (hml.trans hl.1.symm) hown (hT _ mw_425) (hT _ mw_426) (hT _ mw_13) (hT _ mw_427) (Nat.le_of_ble_eq_true rfl) (Nat.le_of_ble_eq_true rfl) (Nat.le_of_ble_eq_true rfl) (Nat.le_of_ble_eq_true rfl) dX9_drinkOf_76 ?_
      refine lv_topi (fun v_49 ev_49 => ?_)
      have lo_v_49 := k_lo v_49
      have hi_v_49 := k_hi v_49
      have tv_49 : v_49.toInt = k_max r_24.toInt v_48.toInt := by rw [ev_49]; exact k_mmax rfl rfl
      try rw [tv_48] at tv_49
      have sv_49 := k_max_spec (r_24.toInt) (v_48.toInt)
      try rw [tv_48] at sv_49
      refine lv_iload_n hx hb dX9_drinkOf_79 rfl (lv_at hl 3 rfl) ?_
      refine lv_isub hx hb dX9_drinkOf_80 ?_
      refine lv_topi (fun v_50 ev_50 => ?_)
      have lo_v_50 := k_lo v_50
      have hi_v_50 := k_hi v_50
      refine lv_iconst (v := 2) hx hb dX9_drinkOf_81 (by decide +kernel) ?_
      refine lv_iload hx hb dX9_drinkOf_82 (lv_at hl 2 rfl) ?_
      refine lv_imul hx hb dX9_drinkOf_84 ?_
      refine lv_topi (fun v_51 ev_51 => ?_)
      have tv_51 : v_51.toInt = 2 * r_18.toInt := by rw [ev_51]; exact k_mulv zl_2 rfl (by omega) (by omega)
      refine lv_isub hx hb dX9_drinkOf_85 ?_
      refine lv_topi (fun v_52 ev_52 => ?_)
      have lo_v_52 := k_lo v_52
      have hi_v_52 := k_hi v_52
      refine lv_istore (lv' := [(7, .int v_52), (6, .int v_48), (5, .int r_24), (4, .int r_18), (3, .int r_12), (2, .int r_6), (0, .ref k), (1, .int a0)]) hx hb dX9_drinkOf_86 hl (by decide +kernel) rfl ?_
      clear hl
      intro ls hl
      refine lv_aload_n hx hb dX9_drinkOf_88 rfl (lv_at hl 6 rfl) ?_
      refine va_get (D := D) (ci := 9) (v := .ref k5) (C := RX9) (T := TX9) (N := 9) hx hb hT giX9 hown hK hP 2 rfl rfl 5 (by decide +kernel) (hT (Cond.fieldLink RX9 34 "DesertWire$World" "parties" "LDesertWire$Parties;") mw_100) (fun _ h9 => h9) rfl dX9_drinkOf_89 ?_
      refine lv_iload_n hx hb dX9_drinkOf_92 rfl (lv_at hl 7 rfl) ?_
      refine lv_bipush (v := 6) hx hb dX9_drinkOf_93 (by decide +kernel) ?_
      refine lv_iconst (v := 0) hx hb dX9_drinkOf_95 (by decide +kernel) ?_
      refine lv_iload hx hb dX9_drinkOf_96 (lv_at hl 0 rfl) ?_
      refine va_mmax hx hb (hml.trans hl.1.symm) hown (hT _ mw_425) (hT _ mw_426) (hT _ mw_13) (hT _ mw_427) (Nat.le_of_ble_eq_true rfl) (Nat.le_of_ble_eq_true rfl) (Nat.le_of_ble_eq_true rfl) (Nat.le_of_ble_eq_true rfl) dX9_drinkOf_98 ?_
      refine lv_topi (fun v_53 ev_53 => ?_)
      have lo_v_53 := k_lo v_53
      have hi_v_53 := k_hi v_53
      have tv_53 : v_53.toInt = k_max 0 v_52.toInt := by rw [ev_53]; exact k_mmax zl_0 rfl
      have sv_53 := k_max_spec (0) (v_52.toInt)
      refine kJv (wr := [(k, .inr (9, [.ref k0, .ref k1, .ref k2, .ref k3, .ref k4, .ref k5, .int c6, .int c7, .int c8])), (k2, .inl (cI, 40, .inl c2)), (k4, .inr (8, [.ref k40, .ref k41, .ref k42, .ref k43, .ref k44, .ref k45, .ref k46, .ref k47, .ref k48, .int c49])), (k47, .inl (cI, 40, .inl c47))]) (va_runV (As := [.int a0, .int 6, .int v_53]) (rest := []) ⟨hx, hb, hml, hown, hT⟩ (c_X3_setD6 l D cI aK aV k5 k50 H.size c51 c50 gx a0 6 v_53 (WR.kp pre0) (by first | omega | (simp only [zl_6]; first | done | omega) | decide | assumption | rfl) (by first | omega | (simp only [zl_6]; first | done | omega) | decide | assumption | rfl) (by first | omega | (simp only [zl_6]; first | done | omega) | decide | assumption | rfl)) (cwV 3 hT (gV_in mw_713 mw_981 mw_711 mw_712 mw_4) rfl rfl rfl (by decide +kernel) ⟨Nat.le_of_ble_eq_true rfl, Nat.le_of_ble_eq_true rfl⟩) (kRecvX (q0 := 0) (ci := 3) hK hP hD hN hXS hS hA rfl rfl [0, 1] rfl (by decide +kernel)) rfl rfl hl.1 rfl (lv_room (Nat.le_of_ble_eq_true rfl)) dX9_drinkOf_101 ⟨Nat.le_of_ble_eq_true rfl, Nat.le_of_ble_eq_true rfl⟩) hP hD hS hA [0, 1] [2, 3, 4, 5] rfl rfl (by decide +kernel) (by decide +kernel) ?_
      clear hP hD hS
      intro sc0_56 H locs w_55 hP hD hS
      replace hP : va_P D vwCl [(k, .inr (9, [.ref k0, .ref k1, .ref k2, .ref k3, .ref k4, .ref k5, .int c6, .int c7, .int c8])), (k2, .inl (cI, 40, .inl c2)), (k4, .inr (8, [.ref k40, .ref k41, .ref k42, .ref k43, .ref k44, .ref k45, .ref k46, .ref k47, .ref k48, .int c49])), (k47, .inl (cI, 40, .inl c47)), (k5, .inr (3, [.ref k50, .int c51])), (k50, .inl (cI, 36, .inl sc0_56))] H := hP
      replace hD : va_D A [(k, .inr (9, [.ref k0, .ref k1, .ref k2, .ref k3, .ref k4, .ref k5, .int c6, .int c7, .int c8])), (k2, .inl (cI, 40, .inl c2)), (k4, .inr (8, [.ref k40, .ref k41, .ref k42, .ref k43, .ref k44, .ref k45, .ref k46, .ref k47, .ref k48, .int c49])), (k47, .inl (cI, 40, .inl c47)), (k5, .inr (3, [.ref k50, .int c51])), (k50, .inl (cI, 36, .inl sc0_56))] := hD
      have h_57 := w_55
      try simp only [zl_6] at h_57
      have h_57 : PTR sc0_56 c51 (upd gx (459 + 9 * a0.toInt.toNat + 6) v_53) := h_57
      have h_57 : PTR sc0_56 c51 (upd gx (459 + 9 * a0.toInt.toNat + 6) v_53) := h_57
      obtain ⟨gg_58, egg_58⟩ : ∃ g_ : Nat → Int32, g_ = (upd gx (459 + 9 * a0.toInt.toNat + 6) v_53) := ⟨_, rfl⟩
      rw [← egg_58] at h_57
      have hW_59 : WR c0 c1 c2 c3 c40 c41 c42 c43 c44 c45 c46 c47 c48 c49 sc0_56 c51 c6 c7 c8 gg_58 := WR.ofP pre0 h_57 (by rw [egg_58]; exact OFP.up (by omega))
      have hs_60 : SB gg_58 := by rw [egg_58]; exact SB.fr pre1 (by omega) (by omega)
      refine lv_iload hx hb dX9_drinkOf_104 (lv_at hl 0 rfl) ?_
      refine b_if_ge hx hb rfl (tgt := 128) dX9_drinkOf_106 (by decide +kernel) (fun c_61 => ?_) (fun c_61 => ?_)
      · exact hRet sc0_56 [0, 1, 2, 4, 3, 5] (WR.gt hW_59 (drk_y (vl := v_52) (v := v_53) (drk_cl (mi := r_6) (me := r_12) (be := r_18) (ha := r_24) (sp := r_29) (wl := r_38) (va := v_37) (vb := v_45) (vc := v_46) (vd := v_47) (ve := v_48) (vf := v_49) (vg := v_50) (vh := v_51) (vl := v_52) h_9 h_15 h_21 h_27 h_36 h_43 ev_37 ev_45 ev_46 ev_47 ev_48 ev_49 ev_50 ev_51 ev_52) (by omega) (by omega) egg_58)) hP hD (by decide +kernel) rfl hS dX9_drinkOf_128
      · refine lv_aload_n hx hb dX9_drinkOf_109 rfl (lv_at hl 6 rfl) ?_
        refine va_get (D := D) (ci := 9) (v := .ref k5) (C := RX9) (T := TX9) (N := 9) hx hb hT giX9 hown hK hP 0 rfl rfl 5 (by decide +kernel) (hT (Cond.fieldLink RX9 34 "DesertWire$World" "parties" "LDesertWire$Parties;") mw_100) (fun _ h9 => h9) rfl dX9_drinkOf_110 ?_
        refine lv_iload_n hx hb dX9_drinkOf_113 rfl (lv_at hl 7 rfl) ?_
        refine lv_iload hx hb dX9_drinkOf_114 (lv_at hl 3 rfl) ?_
        refine b_if_le hx hb rfl (tgt := 123) dX9_drinkOf_116 (by decide +kernel) (fun c_62 => ?_) (fun c_62 => ?_)
        · refine lv_iconst (v := 2) hx hb dX9_drinkOf_123 (by decide +kernel) ?_
          refine lv_iconst (v := (-1)) hx hb dX9_drinkOf_124 (by decide +kernel) ?_
          refine kJv (wr := [(k, .inr (9, [.ref k0, .ref k1, .ref k2, .ref k3, .ref k4, .ref k5, .int c6, .int c7, .int c8])), (k2, .inl (cI, 40, .inl c2)), (k4, .inr (8, [.ref k40, .ref k41, .ref k42, .ref k43, .ref k44, .ref k45, .ref k46, .ref k47, .ref k48, .int c49])), (k47, .inl (cI, 40, .inl c47))]) (va_runV (As := [.int a0, .int 2, .int (-1)]) (rest := []) ⟨hx, hb, hml, hown, hT⟩ (c_X3_moreD2 l D cI aK aV k5 k50 H.size c51 sc0_56 gg_58 a0 2 (-1) (WR.kp hW_59) (by first | omega | (simp only [zl_m1, zl_2]; first | done | omega) | decide | assumption | rfl) (by first | omega | (simp only [zl_m1, zl_2]; first | done | omega) | decide | assumption | rfl) (by first | omega | (simp only [zl_m1, zl_2]; first | done | omega) | decide | assumption | rfl)) (cwV 3 hT (gV_in mw_751 mw_982 mw_749 mw_750 mw_4) rfl rfl rfl (by decide +kernel) ⟨Nat.le_of_ble_eq_true rfl, Nat.le_of_ble_eq_true rfl⟩) (kRecvX (q0 := 4) (ci := 3) hK hP hD hN hXS hS hA rfl rfl [4, 5] rfl (by decide +kernel)) rfl rfl hl.1 rfl (lv_room (Nat.le_of_ble_eq_true rfl)) dX9_drinkOf_125 ⟨Nat.le_of_ble_eq_true rfl, Nat.le_of_ble_eq_true rfl⟩) hP hD hS hA [4, 5] [0, 1, 2, 3] rfl rfl (by decide +kernel) (by decide +kernel) ?_
          clear hP hD hS
          intro sc0_65 H locs w_64 hP hD hS
          replace hP : va_P D vwCl [(k, .inr (9, [.ref k0, .ref k1, .ref k2, .ref k3, .ref k4, .ref k5, .int c6, .int c7, .int c8])), (k2, .inl (cI, 40, .inl c2)), (k4, .inr (8, [.ref k40, .ref k41, .ref k42, .ref k43, .ref k44, .ref k45, .ref k46, .ref k47, .ref k48, .int c49])), (k47, .inl (cI, 40, .inl c47)), (k5, .inr (3, [.ref k50, .int c51])), (k50, .inl (cI, 36, .inl sc0_65))] H := hP
          replace hD : va_D A [(k, .inr (9, [.ref k0, .ref k1, .ref k2, .ref k3, .ref k4, .ref k5, .int c6, .int c7, .int c8])), (k2, .inl (cI, 40, .inl c2)), (k4, .inr (8, [.ref k40, .ref k41, .ref k42, .ref k43, .ref k44, .ref k45, .ref k46, .ref k47, .ref k48, .int c49])), (k47, .inl (cI, 40, .inl c47)), (k5, .inr (3, [.ref k50, .int c51])), (k50, .inl (cI, 36, .inl sc0_65))] := hD
          have h_66 := w_64
          try simp only [zl_m1, zl_2] at h_66
          have h_66 : PTR sc0_65 c51 (upd gg_58 (459 + 9 * a0.toInt.toNat + 2) (pW gg_58 a0 2 + (-1))) := h_66
          have h_66 : PTR sc0_65 c51 (upd gg_58 (459 + 9 * a0.toInt.toNat + 2) (pW gg_58 a0 2 + (-1))) := h_66
          obtain ⟨gg_67, egg_67⟩ : ∃ g_ : Nat → Int32, g_ = (upd gg_58 (459 + 9 * a0.toInt.toNat + 2) (pW gg_58 a0 2 + (-1))) := ⟨_, rfl⟩
          rw [← egg_67] at h_66
          have hW_68 : WR c0 c1 c2 c3 c40 c41 c42 c43 c44 c45 c46 c47 c48 c49 sc0_65 c51 c6 c7 c8 gg_67 := WR.ofP hW_59 h_66 (by rw [egg_67]; exact OFP.up (by omega))
          exact hRet sc0_65 [0, 1, 2, 4, 3, 5] (WR.gt hW_68 (drk_m (vl := v_52) (v := v_53) (be := r_18) (drk_cl (mi := r_6) (me := r_12) (be := r_18) (ha := r_24) (sp := r_29) (wl := r_38) (va := v_37) (vb := v_45) (vc := v_46) (vd := v_47) (ve := v_48) (vf := v_49) (vg := v_50) (vh := v_51) (vl := v_52) h_9 h_15 h_21 h_27 h_36 h_43 ev_37 ev_45 ev_46 ev_47 ev_48 ev_49 ev_50 ev_51 ev_52) (by omega) (by omega) egg_58 h_21 (by omega) egg_67)) hP hD (by decide +kernel) rfl hS dX9_drinkOf_128
        · refine lv_iconst (v := 3) hx hb dX9_drinkOf_119 (by decide +kernel) ?_
          refine lv_goto (tgt := 124) hx hb dX9_drinkOf_120 (by decide +kernel) ?_
          refine lv_iconst (v := (-1)) hx hb dX9_drinkOf_124 (by decide +kernel) ?_
          refine kJv (wr := [(k, .inr (9, [.ref k0, .ref k1, .ref k2, .ref k3, .ref k4, .ref k5, .int c6, .int c7, .int c8])), (k2, .inl (cI, 40, .inl c2)), (k4, .inr (8, [.ref k40, .ref k41, .ref k42, .ref k43, .ref k44, .ref k45, .ref k46, .ref k47, .ref k48, .int c49])), (k47, .inl (cI, 40, .inl c47))]) (va_runV (As := [.int a0, .int 3, .int (-1)]) (rest := []) ⟨hx, hb, hml, hown, hT⟩ (c_X3_moreD3 l D cI aK aV k5 k50 H.size c51 sc0_56 gg_58 a0 3 (-1) (WR.kp hW_59) (by first | omega | (simp only [zl_m1, zl_3]; first | done | omega) | decide | assumption | rfl) (by first | omega | (simp only [zl_m1, zl_3]; first | done | omega) | decide | assumption | rfl) (by first | omega | (simp only [zl_m1, zl_3]; first | done | omega) | decide | assumption | rfl)) (cwV 3 hT (gV_in mw_751 mw_982 mw_749 mw_750 mw_4) rfl rfl rfl (by decide +kernel) ⟨Nat.le_of_ble_eq_true rfl, Nat.le_of_ble_eq_true rfl⟩) (kRecvX (q0 := 4) (ci := 3) hK hP hD hN hXS hS hA rfl rfl [4, 5] rfl (by decide +kernel)) rfl rfl hl.1 rfl (lv_room (Nat.le_of_ble_eq_true rfl)) dX9_drinkOf_125 ⟨Nat.le_of_ble_eq_true rfl, Nat.le_of_ble_eq_true rfl⟩) hP hD hS hA [4, 5] [0, 1, 2, 3] rfl rfl (by decide +kernel) (by decide +kernel) ?_
          clear hP hD hS
          intro sc0_71 H locs w_70 hP hD hS
          replace hP : va_P D vwCl [(k, .inr (9, [.ref k0, .ref k1, .ref k2, .ref k3, .ref k4, .ref k5, .int c6, .int c7, .int c8])), (k2, .inl (cI, 40, .inl c2)), (k4, .inr (8, [.ref k40, .ref k41, .ref k42, .ref k43, .ref k44, .ref k45, .ref k46, .ref k47, .ref k48, .int c49])), (k47, .inl (cI, 40, .inl c47)), (k5, .inr (3, [.ref k50, .int c51])), (k50, .inl (cI, 36, .inl sc0_71))] H := hP
          replace hD : va_D A [(k, .inr (9, [.ref k0, .ref k1, .ref k2, .ref k3, .ref k4, .ref k5, .int c6, .int c7, .int c8])), (k2, .inl (cI, 40, .inl c2)), (k4, .inr (8, [.ref k40, .ref k41, .ref k42, .ref k43, .ref k44, .ref k45, .ref k46, .ref k47, .ref k48, .int c49])), (k47, .inl (cI, 40, .inl c47)), (k5, .inr (3, [.ref k50, .int c51])), (k50, .inl (cI, 36, .inl sc0_71))] := hD
          have h_72 := w_70
          try simp only [zl_m1, zl_3] at h_72
          have h_72 : PTR sc0_71 c51 (upd gg_58 (459 + 9 * a0.toInt.toNat + 3) (pW gg_58 a0 3 + (-1))) := h_72
          have h_72 : PTR sc0_71 c51 (upd gg_58 (459 + 9 * a0.toInt.toNat + 3) (pW gg_58 a0 3 + (-1))) := h_72
          obtain ⟨gg_73, egg_73⟩ : ∃ g_ : Nat → Int32, g_ = (upd gg_58 (459 + 9 * a0.toInt.toNat + 3) (pW gg_58 a0 3 + (-1))) := ⟨_, rfl⟩
          rw [← egg_73] at h_72
          have hW_74 : WR c0 c1 c2 c3 c40 c41 c42 c43 c44 c45 c46 c47 c48 c49 sc0_71 c51 c6 c7 c8 gg_73 := WR.ofP hW_59 h_72 (by rw [egg_73]; exact OFP.up (by omega))
          exact hRet sc0_71 [0, 1, 2, 4, 3, 5] (WR.gt hW_74 (drk_b (vl := v_52) (v := v_53) (be := r_18) (drk_cl (mi := r_6) (me := r_12) (be := r_18) (ha := r_24) (sp := r_29) (wl := r_38) (va := v_37) (vb := v_45) (vc := v_46) (vd := v_47) (ve := v_48) (vf := v_49) (vg := v_50) (vh := v_51) (vl := v_52) h_9 h_15 h_21 h_27 h_36 h_43 ev_37 ev_45 ev_46 ev_47 ev_48 ev_49 ev_50 ev_51 ev_52) (by omega) (by omega) egg_58 h_21 (by omega) egg_73)) hP hD (by decide +kernel) rfl hS dX9_drinkOf_128
    · exfalso; omega
  · exfalso; omega

set_option maxHeartbeats 4000000 in
set_option maxRecDepth 100000 in
theorem c_X9_eatOfD (l : Launch) (D : va_G) (cI : ClassId) (aK aV : Nat → Nat) (k k0 k1 k2 k3 k4 k5 k40 k41 k42 k43 k44 k45 k46 k47 k48 k50 : Nat) (sz : Nat) (c6 : Int32) (c7 : Int32) (c8 : Int32) (c49 : Int32) (c51 : Int32) (c40 : Nat → Int32) (c41 : Nat → Int32) (c44 : Nat → Int32) (c45 : Nat → Int32) (c48 : Nat → Int32) (c50 : Nat → Int32) (c0 : Nat → Int32) (c1 : Nat → Int32) (c2 : Nat → Int32) (c3 : Nat → Int32) (c42 : Nat → Int32) (c43 : Nat → Int32) (c46 : Nat → Int32) (c47 : Nat → Int32) (gx : Nat → Int32) (a0 : Int32) (pre0 : WR c0 c1 c2 c3 c40 c41 c42 c43 c44 c45 c46 c47 c48 c49 c50 c51 c6 c7 c8 gx) (pre1 : SIX gx a0.toInt) (pre2 : 0 ≤ a0.toInt) (pre3 : a0.toInt < c51.toInt) : Met l yX9_eatOf (gW yX9_eatOf cX9_eatOf 6 none) ({ frames := 3, cells := 0, slots := 0, locals := 67 } : Room) (kPreX D cI aK aV [.ref k, .int a0] [(k, .inr (9, [.ref k0, .ref k1, .ref k2, .ref k3, .ref k4, .ref k5, .int c6, .int c7, .int c8])), (k4, .inr (8, [.ref k40, .ref k41, .ref k42, .ref k43, .ref k44, .ref k45, .ref k46, .ref k47, .ref k48, .int c49])), (k5, .inr (3, [.ref k50, .int c51])), (k40, .inl (cI, 60, .inl c40)), (k41, .inl (cI, 60, .inl c41)), (k44, .inl (cI, 60, .inl c44)), (k45, .inl (cI, 60, .inl c45)), (k48, .inl (cI, 40, .inl c48)), (k50, .inl (cI, 36, .inl c50))] sz) (va_Qv (fun (u : (Nat → Int32) × (Nat → Int32)) => WR c0 c1 c2 c3 c40 c41 c42 c43 u.1 c45 c46 c47 c48 c49 u.2 c51 c6 c7 c8 (sttS (eatP gx a0.toInt.toNat) a0.toInt.toNat)) (fun u t => kWd D cI (va_A [(k, .inr (9, [.ref k0, .ref k1, .ref k2, .ref k3, .ref k4, .ref k5, .int c6, .int c7, .int c8])), (k4, .inr (8, [.ref k40, .ref k41, .ref k42, .ref k43, .ref k44, .ref k45, .ref k46, .ref k47, .ref k48, .int c49])), (k5, .inr (3, [.ref k50, .int c51])), (k40, .inl (cI, 60, .inl c40)), (k41, .inl (cI, 60, .inl c41)), (k44, .inl (cI, 60, .inl c44)), (k45, .inl (cI, 60, .inl c45)), (k48, .inl (cI, 40, .inl c48)), (k50, .inl (cI, 36, .inl c50))] sz) [(k, .inr (9, [.ref k0, .ref k1, .ref k2, .ref k3, .ref k4, .ref k5, .int c6, .int c7, .int c8])), (k4, .inr (8, [.ref k40, .ref k41, .ref k42, .ref k43, .ref k44, .ref k45, .ref k46, .ref k47, .ref k48, .int c49])), (k5, .inr (3, [.ref k50, .int c51])), (k40, .inl (cI, 60, .inl c40)), (k41, .inl (cI, 60, .inl c41)), (k44, .inl (cI, 60, .inl u.1)), (k45, .inl (cI, 60, .inl c45)), (k48, .inl (cI, 40, .inl c48)), (k50, .inl (cI, 36, .inl u.2))] t) (va_A [(k, .inr (9, [.ref k0, .ref k1, .ref k2, .ref k3, .ref k4, .ref k5, .int c6, .int c7, .int c8])), (k4, .inr (8, [.ref k40, .ref k41, .ref k42, .ref k43, .ref k44, .ref k45, .ref k46, .ref k47, .ref k48, .int c49])), (k5, .inr (3, [.ref k50, .int c51])), (k40, .inl (cI, 60, .inl c40)), (k41, .inl (cI, 60, .inl c41)), (k44, .inl (cI, 60, .inl c44)), (k45, .inl (cI, 60, .inl c45)), (k48, .inl (cI, 40, .inl c48)), (k50, .inl (cI, 36, .inl c50))] sz)) 0 0 (va_A [(k, .inr (9, [.ref k0, .ref k1, .ref k2, .ref k3, .ref k4, .ref k5, .int c6, .int c7, .int c8])), (k4, .inr (8, [.ref k40, .ref k41, .ref k42, .ref k43, .ref k44, .ref k45, .ref k46, .ref k47, .ref k48, .int c49])), (k5, .inr (3, [.ref k50, .int c51])), (k40, .inl (cI, 60, .inl c40)), (k41, .inl (cI, 60, .inl c41)), (k44, .inl (cI, 60, .inl c44)), (k45, .inl (cI, 60, .inl c45)), (k48, .inl (cI, 40, .inl c48)), (k50, .inl (cI, 36, .inl c50))] sz) := by
  refine kMetVX (own := RX9) (by decide +kernel) rfl (Nat.le_of_ble_eq_true rfl) ?_
  intro p e s m args below meth c hx hb hT hown hname hml A Q hK hP hD hS hA hN hXS hRet ls hl
  have hl : lv_has ls 6 [(0, .ref k), (1, .int a0)] := hl
  have lo_a0 := k_lo a0
  have hi_a0 := k_hi a0
  have lo_c6 := k_lo c6
  have hi_c6 := k_hi c6
  have lo_c7 := k_lo c7
  have hi_c7 := k_hi c7
  have lo_c8 := k_lo c8
  have hi_c8 := k_hi c8
  have lo_c49 := k_lo c49
  have hi_c49 := k_hi c49
  have lo_c51 := k_lo c51
  have hi_c51 := k_hi c51
  have pre0 : WR c0 c1 c2 c3 c40 c41 c42 c43 c44 c45 c46 c47 c48 c49 c50 c51 c6 c7 c8 gx := pre0
  have b_1 : 0 ≤ c49.toInt ∧ c49.toInt ≤ 60 := WKR.n0 (WR.kw pre0)
  have t_2 : c49.toInt = (gx 1).toInt := WKR.nt (WR.kw pre0)
  have b_3 : 0 ≤ c51.toInt ∧ c51.toInt ≤ 4 := ((WR.kp pre0)).2.1
  have t_4 : c51.toInt = (gx 2).toInt := PTR.nt (WR.kp pre0)
  have t_5 : c8.toInt = (gx 0).toInt := by rw [WR.dd pre0]
  have pre1 : SIX gx a0.toInt := pre1
  refine lv_aload_n hx hb dX9_eatOf_0 rfl (lv_at hl 0 rfl) ?_
  refine va_get (D := D) (ci := 9) (v := .ref k5) (C := RX9) (T := TX9) (N := 9) hx hb hT giX9 hown hK hP 0 rfl rfl 5 (by decide +kernel) (hT (Cond.fieldLink RX9 34 "DesertWire$World" "parties" "LDesertWire$Parties;") mw_100) (fun _ h9 => h9) rfl dX9_eatOf_1 ?_
  refine lv_iload_n hx hb dX9_eatOf_4 rfl (lv_at hl 1 rfl) ?_
  refine lv_iconst (v := 2) hx hb dX9_eatOf_5 (by decide +kernel) ?_
  refine kJi (wr := [(k, .inr (9, [.ref k0, .ref k1, .ref k2, .ref k3, .ref k4, .ref k5, .int c6, .int c7, .int c8])), (k4, .inr (8, [.ref k40, .ref k41, .ref k42, .ref k43, .ref k44, .ref k45, .ref k46, .ref k47, .ref k48, .int c49])), (k40, .inl (cI, 60, .inl c40)), (k41, .inl (cI, 60, .inl c41)), (k44, .inl (cI, 60, .inl c44)), (k45, .inl (cI, 60, .inl c45)), (k48, .inl (cI, 40, .inl c48))]) (va_runV (As := [.int a0, .int 2]) (rest := []) ⟨hx, hb, hml, hown, hT⟩ (c_X3_getD2 l D cI aK aV k5 k50 s.heap.size c51 c50 gx a0 2 (WR.kp pre0) (by first | omega | (simp only [zl_2]; first | done | omega) | decide | assumption | rfl) (by first | omega | (simp only [zl_2]; first | done | omega) | decide | assumption | rfl) (by first | omega | (simp only [zl_2]; first | done | omega) | decide | assumption | rfl)) (cwV 2 hT (gV_in mw_726 mw_978 mw_724 mw_725 mw_4) rfl rfl rfl (by decide +kernel) ⟨Nat.le_of_ble_eq_true rfl, Nat.le_of_ble_eq_true rfl⟩) (kRecvX (q0 := 2) (ci := 3) hK hP hD hN hXS hS hA rfl rfl [2, 8] rfl (by decide +kernel)) rfl rfl hl.1 rfl (lv_room (Nat.le_of_ble_eq_true rfl)) dX9_eatOf_6 ⟨Nat.le_of_ble_eq_true rfl, Nat.le_of_ble_eq_true rfl⟩) hP hD hS hA [2, 8] [0, 1, 3, 4, 5, 6, 7] rfl rfl (by decide +kernel) (by decide +kernel) ?_
  clear hP hD hS
  intro r_6 u_8 H locs w_7 hP hD hS
  replace hP : va_P D vwCl [(k, .inr (9, [.ref k0, .ref k1, .ref k2, .ref k3, .ref k4, .ref k5, .int c6, .int c7, .int c8])), (k4, .inr (8, [.ref k40, .ref k41, .ref k42, .ref k43, .ref k44, .ref k45, .ref k46, .ref k47, .ref k48, .int c49])), (k40, .inl (cI, 60, .inl c40)), (k41, .inl (cI, 60, .inl c41)), (k44, .inl (cI, 60, .inl c44)), (k45, .inl (cI, 60, .inl c45)), (k48, .inl (cI, 40, .inl c48)), (k5, .inr (3, [.ref k50, .int c51])), (k50, .inl (cI, 36, .inl c50))] H := hP
  replace hD : va_D A [(k, .inr (9, [.ref k0, .ref k1, .ref k2, .ref k3, .ref k4, .ref k5, .int c6, .int c7, .int c8])), (k4, .inr (8, [.ref k40, .ref k41, .ref k42, .ref k43, .ref k44, .ref k45, .ref k46, .ref k47, .ref k48, .int c49])), (k40, .inl (cI, 60, .inl c40)), (k41, .inl (cI, 60, .inl c41)), (k44, .inl (cI, 60, .inl c44)), (k45, .inl (cI, 60, .inl c45)), (k48, .inl (cI, 40, .inl c48)), (k5, .inr (3, [.ref k50, .int c51])), (k50, .inl (cI, 36, .inl c50))] := hD
  have h_9 := w_7
  have h_9 : r_6 = pW gx a0 2 := h_9
  have t_10 : r_6.toInt = (pW gx a0 2).toInt := by rw [h_9]
  have b_11 : 0 ≤ r_6.toInt ∧ r_6.toInt ≤ 50 := by rw [h_9]; exact SB.p2 (And.left pre1) (by omega) (by omega)
  have lo_r_6 := k_lo r_6
  have hi_r_6 := k_hi r_6
  refine lv_istore_n (lv' := [(2, .int r_6), (0, .ref k), (1, .int a0)]) hx hb dX9_eatOf_9 rfl hl (by decide +kernel) rfl ?_
  clear hl
  intro ls hl
  refine lv_aload_n hx hb dX9_eatOf_10 rfl (lv_at hl 1 rfl) ?_
  refine va_get (D := D) (ci := 9) (v := .ref k5) (C := RX9) (T := TX9) (N := 9) hx hb hT giX9 hown hK hP 0 rfl rfl 5 (by decide +kernel) (hT (Cond.fieldLink RX9 34 "DesertWire$World" "parties" "LDesertWire$Parties;") mw_100) (fun _ h9 => h9) rfl dX9_eatOf_11 ?_
  refine lv_iload_n hx hb dX9_eatOf_14 rfl (lv_at hl 2 rfl) ?_
  refine lv_iconst (v := 5) hx hb dX9_eatOf_15 (by decide +kernel) ?_
  refine kJi (wr := [(k, .inr (9, [.ref k0, .ref k1, .ref k2, .ref k3, .ref k4, .ref k5, .int c6, .int c7, .int c8])), (k4, .inr (8, [.ref k40, .ref k41, .ref k42, .ref k43, .ref k44, .ref k45, .ref k46, .ref k47, .ref k48, .int c49])), (k40, .inl (cI, 60, .inl c40)), (k41, .inl (cI, 60, .inl c41)), (k44, .inl (cI, 60, .inl c44)), (k45, .inl (cI, 60, .inl c45)), (k48, .inl (cI, 40, .inl c48))]) (va_runV (As := [.int a0, .int 5]) (rest := []) ⟨hx, hb, hml, hown, hT⟩ (c_X3_getD5 l D cI aK aV k5 k50 H.size c51 c50 gx a0 5 (WR.kp pre0) (by first | omega | (simp only [zl_5]; first | done | omega) | decide | assumption | rfl) (by first | omega | (simp only [zl_5]; first | done | omega) | decide | assumption | rfl) (by first | omega | (simp only [zl_5]; first | done | omega) | decide | assumption | rfl)) (cwV 2 hT (gV_in mw_726 mw_978 mw_724 mw_725 mw_4) rfl rfl rfl (by decide +kernel) ⟨Nat.le_of_ble_eq_true rfl, Nat.le_of_ble_eq_true rfl⟩) (kRecvX (q0 := 7) (ci := 3) hK hP hD hN hXS hS hA rfl rfl [7, 8] rfl (by decide +kernel)) rfl rfl hl.1 rfl (lv_room (Nat.le_of_ble_eq_true rfl)) dX9_eatOf_16 ⟨Nat.le_of_ble_eq_true rfl, Nat.le_of_ble_eq_true rfl⟩) hP hD hS hA [7, 8] [0, 1, 2, 3, 4, 5, 6] rfl rfl (by decide +kernel) (by decide +kernel) ?_
  clear hP hD hS
  intro r_12 u_14 H locs w_13 hP hD hS
  replace hP : va_P D vwCl [(k, .inr (9, [.ref k0, .ref k1, .ref k2, .ref k3, .ref k4, .ref k5, .int c6, .int c7, .int c8])), (k4, .inr (8, [.ref k40, .ref k41, .ref k42, .ref k43, .ref k44, .ref k45, .ref k46, .ref k47, .ref k48, .int c49])), (k40, .inl (cI, 60, .inl c40)), (k41, .inl (cI, 60, .inl c41)), (k44, .inl (cI, 60, .inl c44)), (k45, .inl (cI, 60, .inl c45)), (k48, .inl (cI, 40, .inl c48)), (k5, .inr (3, [.ref k50, .int c51])), (k50, .inl (cI, 36, .inl c50))] H := hP
  replace hD : va_D A [(k, .inr (9, [.ref k0, .ref k1, .ref k2, .ref k3, .ref k4, .ref k5, .int c6, .int c7, .int c8])), (k4, .inr (8, [.ref k40, .ref k41, .ref k42, .ref k43, .ref k44, .ref k45, .ref k46, .ref k47, .ref k48, .int c49])), (k40, .inl (cI, 60, .inl c40)), (k41, .inl (cI, 60, .inl c41)), (k44, .inl (cI, 60, .inl c44)), (k45, .inl (cI, 60, .inl c45)), (k48, .inl (cI, 40, .inl c48)), (k5, .inr (3, [.ref k50, .int c51])), (k50, .inl (cI, 36, .inl c50))] := hD
  have h_15 := w_13
  have h_15 : r_12 = pW gx a0 5 := h_15
  have t_16 : r_12.toInt = (pW gx a0 5).toInt := by rw [h_15]
  have b_17 : 0 ≤ r_12.toInt ∧ r_12.toInt ≤ 9999 := by rw [h_15]; exact SB.p5 (And.left pre1) (by omega) (by omega)
  have lo_r_12 := k_lo r_12
  have hi_r_12 := k_hi r_12
  refine lv_istore_n (lv' := [(3, .int r_12), (2, .int r_6), (0, .ref k), (1, .int a0)]) hx hb dX9_eatOf_19 rfl hl (by decide +kernel) rfl ?_
  clear hl
  intro ls hl
  refine lv_aload_n hx hb dX9_eatOf_20 rfl (lv_at hl 2 rfl) ?_
  refine va_get (D := D) (ci := 9) (v := .ref k4) (C := RX9) (T := TX9) (N := 9) hx hb hT giX9 hown hK hP 0 rfl rfl 4 (by decide +kernel) (hT (Cond.fieldLink RX9 27 "DesertWire$World" "works" "LDesertWire$Works;") mw_97) (fun _ h9 => h9) rfl dX9_eatOf_21 ?_
  refine lv_aload_n hx hb dX9_eatOf_24 rfl (lv_at hl 2 rfl) ?_
  refine va_get (D := D) (ci := 9) (v := .ref k5) (C := RX9) (T := TX9) (N := 9) hx hb hT giX9 hown hK hP 0 rfl rfl 5 (by decide +kernel) (hT (Cond.fieldLink RX9 34 "DesertWire$World" "parties" "LDesertWire$Parties;") mw_100) (fun _ h9 => h9) rfl dX9_eatOf_25 ?_
  refine lv_iload_n hx hb dX9_eatOf_28 rfl (lv_at hl 3 rfl) ?_
  refine lv_iconst (v := 0) hx hb dX9_eatOf_29 (by decide +kernel) ?_
  refine kJi (wr := [(k, .inr (9, [.ref k0, .ref k1, .ref k2, .ref k3, .ref k4, .ref k5, .int c6, .int c7, .int c8])), (k4, .inr (8, [.ref k40, .ref k41, .ref k42, .ref k43, .ref k44, .ref k45, .ref k46, .ref k47, .ref k48, .int c49])), (k40, .inl (cI, 60, .inl c40)), (k41, .inl (cI, 60, .inl c41)), (k44, .inl (cI, 60, .inl c44)), (k45, .inl (cI, 60, .inl c45)), (k48, .inl (cI, 40, .inl c48))]) (va_runV (As := [.int a0, .int 0]) (rest := [.ref k4]) ⟨hx, hb, hml, hown, hT⟩ (c_X3_getD0 l D cI aK aV k5 k50 H.size c51 c50 gx a0 0 (WR.kp pre0) (by first | omega | (simp only [zl_0]; first | done | omega) | decide | assumption | rfl) (by first | omega | (simp only [zl_0]; first | done | omega) | decide | assumption | rfl) (by first | omega | (simp only [zl_0]; first | done | omega) | decide | assumption | rfl)) (cwV 2 hT (gV_in mw_726 mw_978 mw_724 mw_725 mw_4) rfl rfl rfl (by decide +kernel) ⟨Nat.le_of_ble_eq_true rfl, Nat.le_of_ble_eq_true rfl⟩) (kRecvX (q0 := 7) (ci := 3) hK hP hD hN hXS hS hA rfl rfl [7, 8] rfl (by decide +kernel)) rfl rfl hl.1 rfl (lv_room (Nat.le_of_ble_eq_true rfl)) dX9_eatOf_30 ⟨Nat.le_of_ble_eq_true rfl, Nat.le_of_ble_eq_true rfl⟩) hP hD hS hA [7, 8] [0, 1, 2, 3, 4, 5, 6] rfl rfl (by decide +kernel) (by decide +kernel) ?_
  clear hP hD hS
  intro r_18 u_20 H locs w_19 hP hD hS
  replace hP : va_P D vwCl [(k, .inr (9, [.ref k0, .ref k1, .ref k2, .ref k3, .ref k4, .ref k5, .int c6, .int c7, .int c8])), (k4, .inr (8, [.ref k40, .ref k41, .ref k42, .ref k43, .ref k44, .ref k45, .ref k46, .ref k47, .ref k48, .int c49])), (k40, .inl (cI, 60, .inl c40)), (k41, .inl (cI, 60, .inl c41)), (k44, .inl (cI, 60, .inl c44)), (k45, .inl (cI, 60, .inl c45)), (k48, .inl (cI, 40, .inl c48)), (k5, .inr (3, [.ref k50, .int c51])), (k50, .inl (cI, 36, .inl c50))] H := hP
  replace hD : va_D A [(k, .inr (9, [.ref k0, .ref k1, .ref k2, .ref k3, .ref k4, .ref k5, .int c6, .int c7, .int c8])), (k4, .inr (8, [.ref k40, .ref k41, .ref k42, .ref k43, .ref k44, .ref k45, .ref k46, .ref k47, .ref k48, .int c49])), (k40, .inl (cI, 60, .inl c40)), (k41, .inl (cI, 60, .inl c41)), (k44, .inl (cI, 60, .inl c44)), (k45, .inl (cI, 60, .inl c45)), (k48, .inl (cI, 40, .inl c48)), (k5, .inr (3, [.ref k50, .int c51])), (k50, .inl (cI, 36, .inl c50))] := hD
  have h_21 := w_19
  have h_21 : r_18 = pW gx a0 0 := h_21
  have t_22 : r_18.toInt = (pW gx a0 0).toInt := by rw [h_21]
  have b_23 : 0 ≤ r_18.toInt ∧ r_18.toInt ≤ 39 := by rw [h_21]; exact SB.p0 (And.left pre1) (by omega) (by omega)
  have lo_r_18 := k_lo r_18
  have hi_r_18 := k_hi r_18
  refine lv_bipush (v := 20) hx hb dX9_eatOf_33 (by decide +kernel) ?_
  refine lv_iload_n hx hb dX9_eatOf_35 rfl (lv_at hl 1 rfl) ?_
  refine lv_imul hx hb dX9_eatOf_36 ?_
  refine lv_topi (fun v_24 ev_24 => ?_)
  have tv_24 : v_24.toInt = 20 * r_6.toInt := by rw [ev_24]; exact k_mulv zl_20 rfl (by omega) (by omega)
  refine lv_iload_n hx hb dX9_eatOf_37 rfl (lv_at hl 0 rfl) ?_
  refine lv_isub hx hb dX9_eatOf_38 ?_
  refine lv_topi (fun v_25 ev_25 => ?_)
  have tv_25 : v_25.toInt = v_24.toInt - r_12.toInt := by rw [ev_25]; exact k_subv rfl rfl (by omega) (by omega)
  refine kJi (wr := [(k, .inr (9, [.ref k0, .ref k1, .ref k2, .ref k3, .ref k4, .ref k5, .int c6, .int c7, .int c8])), (k5, .inr (3, [.ref k50, .int c51])), (k50, .inl (cI, 36, .inl c50))]) (va_runV (As := [.int r_18, .int v_25]) (rest := []) ⟨hx, hb, hml, hown, hT⟩ (c_X8_takeFoodD l D cI aK aV k4 k40 k41 k42 k43 k44 k45 k46 k47 k48 H.size c49 c40 c41 c44 c45 c48 c42 c43 c46 c47 gx a0.toInt r_18 v_25 (WR.kw pre0) pre1 (by first | omega | decide | assumption | rfl) (by first | omega | decide | assumption | rfl) (by first | omega | decide | assumption | rfl) (by first | omega | decide | assumption | rfl)) (cwV 2 hT (gV_in mw_990 mw_987 mw_988 mw_989 mw_3) rfl rfl rfl (by decide +kernel) ⟨Nat.le_of_ble_eq_true rfl, Nat.le_of_ble_eq_true rfl⟩) (kRecvX (q0 := 1) (ci := 8) hK hP hD hN hXS hS hA rfl rfl [1, 2, 3, 4, 5, 6] rfl (by decide +kernel)) rfl rfl hl.1 rfl (lv_room (Nat.le_of_ble_eq_true rfl)) dX9_eatOf_39 ⟨Nat.le_of_ble_eq_true rfl, Nat.le_of_ble_eq_true rfl⟩) hP hD hS hA [1, 2, 3, 4, 5, 6] [0, 7, 8] rfl rfl (by decide +kernel) (by decide +kernel) ?_
  clear hP hD hS
  intro r_26 sc4_28 H locs w_27 hP hD hS
  replace hP : va_P D vwCl [(k, .inr (9, [.ref k0, .ref k1, .ref k2, .ref k3, .ref k4, .ref k5, .int c6, .int c7, .int c8])), (k5, .inr (3, [.ref k50, .int c51])), (k50, .inl (cI, 36, .inl c50)), (k4, .inr (8, [.ref k40, .ref k41, .ref k42, .ref k43, .ref k44, .ref k45, .ref k46, .ref k47, .ref k48, .int c49])), (k40, .inl (cI, 60, .inl c40)), (k41, .inl (cI, 60, .inl c41)), (k44, .inl (cI, 60, .inl sc4_28)), (k45, .inl (cI, 60, .inl c45)), (k48, .inl (cI, 40, .inl c48))] H := hP
  replace hD : va_D A [(k, .inr (9, [.ref k0, .ref k1, .ref k2, .ref k3, .ref k4, .ref k5, .int c6, .int c7, .int c8])), (k5, .inr (3, [.ref k50, .int c51])), (k50, .inl (cI, 36, .inl c50)), (k4, .inr (8, [.ref k40, .ref k41, .ref k42, .ref k43, .ref k44, .ref k45, .ref k46, .ref k47, .ref k48, .int c49])), (k40, .inl (cI, 60, .inl c40)), (k41, .inl (cI, 60, .inl c41)), (k44, .inl (cI, 60, .inl sc4_28)), (k45, .inl (cI, 60, .inl c45)), (k48, .inl (cI, 40, .inl c48))] := hD
  obtain ⟨h_29, h_30⟩ := w_27
  have h_29 : r_26 = (eaT gx r_18.toInt v_25 (gx 1).toInt.toNat).1 := h_29
  have h_29 : r_26 = (eaT gx r_18.toInt v_25 (gx 1).toInt.toNat).1 := h_29
  have h_30 : WKR c40 c41 c42 c43 sc4_28 c45 c46 c47 c48 c49 (eaT gx r_18.toInt v_25 (gx 1).toInt.toNat).2 := h_30
  have h_30 : WKR c40 c41 c42 c43 sc4_28 c45 c46 c47 c48 c49 (eaT gx r_18.toInt v_25 (gx 1).toInt.toNat).2 := h_30
  obtain ⟨gg_31, egg_31⟩ : ∃ g_ : Nat → Int32, g_ = (eaT gx r_18.toInt v_25 (gx 1).toInt.toNat).2 := ⟨_, rfl⟩
  rw [← egg_31] at h_30
  have hW_32 : WR c0 c1 c2 c3 c40 c41 c42 c43 sc4_28 c45 c46 c47 c48 c49 c50 c51 c6 c7 c8 gg_31 := WR.ofW pre0 h_30 (by rw [egg_31]; exact OFW.eat (by omega))
  have t_33 : c49.toInt = (gg_31 1).toInt := WKR.nt (WR.kw hW_32)
  have lo_r_26 := k_lo r_26
  have hi_r_26 := k_hi r_26
  refine lv_istore (lv' := [(4, .int r_26), (3, .int r_12), (2, .int r_6), (0, .ref k), (1, .int a0)]) hx hb dX9_eatOf_42 hl (by decide +kernel) rfl ?_
  clear hl
  intro ls hl
  refine lv_iload_n hx hb dX9_eatOf_44 rfl (lv_at hl 1 rfl) ?_
  refine lv_iload hx hb dX9_eatOf_45 (lv_at hl 0 rfl) ?_
  refine lv_iadd hx hb dX9_eatOf_47 ?_
  refine lv_topi (fun v_34 ev_34 => ?_)
  have lo_v_34 := k_lo v_34
  have hi_v_34 := k_hi v_34
  refine lv_iload_n hx hb dX9_eatOf_48 rfl (lv_at hl 2 rfl) ?_
  refine lv_isub hx hb dX9_eatOf_49 ?_
  refine lv_topi (fun v_35 ev_35 => ?_)
  have lo_v_35 := k_lo v_35
  have hi_v_35 := k_hi v_35
  refine lv_istore (lv' := [(5, .int v_35), (4, .int r_26), (3, .int r_12), (2, .int r_6), (0, .ref k), (1, .int a0)]) hx hb dX9_eatOf_50 hl (by decide +kernel) rfl ?_
  clear hl
  intro ls hl
  refine lv_aload_n hx hb dX9_eatOf_52 rfl (lv_at hl 4 rfl) ?_
  refine va_get (D := D) (ci := 9) (v := .ref k5) (C := RX9) (T := TX9) (N := 9) hx hb hT giX9 hown hK hP 0 rfl rfl 5 (by decide +kernel) (hT (Cond.fieldLink RX9 34 "DesertWire$World" "parties" "LDesertWire$Parties;") mw_100) (fun _ h9 => h9) rfl dX9_eatOf_53 ?_
  refine lv_iload_n hx hb dX9_eatOf_56 rfl (lv_at hl 5 rfl) ?_
  refine lv_iconst (v := 5) hx hb dX9_eatOf_57 (by decide +kernel) ?_
  refine lv_iconst (v := 0) hx hb dX9_eatOf_58 (by decide +kernel) ?_
  refine lv_iload hx hb dX9_eatOf_59 (lv_at hl 0 rfl) ?_
  refine va_mmax hx hb (hml.trans hl.1.symm) hown (hT _ mw_425) (hT _ mw_426) (hT _ mw_13) (hT _ mw_427) (Nat.le_of_ble_eq_true rfl) (Nat.le_of_ble_eq_true rfl) (Nat.le_of_ble_eq_true rfl) (Nat.le_of_ble_eq_true rfl) dX9_eatOf_61 ?_
  refine lv_topi (fun v_36 ev_36 => ?_)
  have lo_v_36 := k_lo v_36
  have hi_v_36 := k_hi v_36
  have tv_36 : v_36.toInt = k_max 0 v_35.toInt := by rw [ev_36]; exact k_mmax zl_0 rfl
  have sv_36 := k_max_spec (0) (v_35.toInt)
  refine kJv (wr := [(k, .inr (9, [.ref k0, .ref k1, .ref k2, .ref k3, .ref k4, .ref k5, .int c6, .int c7, .int c8])), (k4, .inr (8, [.ref k40, .ref k41, .ref k42, .ref k43, .ref k44, .ref k45, .ref k46, .ref k47, .ref k48, .int c49])), (k40, .inl (cI, 60, .inl c40)), (k41, .inl (cI, 60, .inl c41)), (k44, .inl (cI, 60, .inl sc4_28)), (k45, .inl (cI, 60, .inl c45)), (k48, .inl (cI, 40, .inl c48))]) (va_runV (As := [.int a0, .int 5, .int v_36]) (rest := []) ⟨hx, hb, hml, hown, hT⟩ (c_X3_setD5 l D cI aK aV k5 k50 H.size c51 c50 gg_31 a0 5 v_36 (WR.kp hW_32) (by first | omega | (simp only [zl_5]; first | done | omega) | decide | assumption | rfl) (by first | omega | (simp only [zl_5]; first | done | omega) | decide | assumption | rfl) (by first | omega | (simp only [zl_5]; first | done | omega) | decide | assumption | rfl)) (cwV 3 hT (gV_in mw_713 mw_981 mw_711 mw_712 mw_4) rfl rfl rfl (by decide +kernel) ⟨Nat.le_of_ble_eq_true rfl, Nat.le_of_ble_eq_true rfl⟩) (kRecvX (q0 := 1) (ci := 3) hK hP hD hN hXS hS hA rfl rfl [1, 2] rfl (by decide +kernel)) rfl rfl hl.1 rfl (lv_room (Nat.le_of_ble_eq_true rfl)) dX9_eatOf_64 ⟨Nat.le_of_ble_eq_true rfl, Nat.le_of_ble_eq_true rfl⟩) hP hD hS hA [1, 2] [0, 3, 4, 5, 6, 7, 8] rfl rfl (by decide +kernel) (by decide +kernel) ?_
  clear hP hD hS
  intro sc0_39 H locs w_38 hP hD hS
  replace hP : va_P D vwCl [(k, .inr (9, [.ref k0, .ref k1, .ref k2, .ref k3, .ref k4, .ref k5, .int c6, .int c7, .int c8])), (k4, .inr (8, [.ref k40, .ref k41, .ref k42, .ref k43, .ref k44, .ref k45, .ref k46, .ref k47, .ref k48, .int c49])), (k40, .inl (cI, 60, .inl c40)), (k41, .inl (cI, 60, .inl c41)), (k44, .inl (cI, 60, .inl sc4_28)), (k45, .inl (cI, 60, .inl c45)), (k48, .inl (cI, 40, .inl c48)), (k5, .inr (3, [.ref k50, .int c51])), (k50, .inl (cI, 36, .inl sc0_39))] H := hP
  replace hD : va_D A [(k, .inr (9, [.ref k0, .ref k1, .ref k2, .ref k3, .ref k4, .ref k5, .int c6, .int c7, .int c8])), (k4, .inr (8, [.ref k40, .ref k41, .ref k42, .ref k43, .ref k44, .ref k45, .ref k46, .ref k47, .ref k48, .int c49])), (k40, .inl (cI, 60, .inl c40)), (k41, .inl (cI, 60, .inl c41)), (k44, .inl (cI, 60, .inl sc4_28)), (k45, .inl (cI, 60, .inl c45)), (k48, .inl (cI, 40, .inl c48)), (k5, .inr (3, [.ref k50, .int c51])), (k50, .inl (cI, 36, .inl sc0_39))] := hD
  have h_40 := w_38
  try simp only [zl_5] at h_40
  have h_40 : PTR sc0_39 c51 (upd gg_31 (459 + 9 * a0.toInt.toNat + 5) v_36) := h_40
  have h_40 : PTR sc0_39 c51 (upd gg_31 (459 + 9 * a0.toInt.toNat + 5) v_36) := h_40
  obtain ⟨gg_41, egg_41⟩ : ∃ g_ : Nat → Int32, g_ = (upd gg_31 (459 + 9 * a0.toInt.toNat + 5) v_36) := ⟨_, rfl⟩
  rw [← egg_41] at h_40
  have hW_42 : WR c0 c1 c2 c3 c40 c41 c42 c43 sc4_28 c45 c46 c47 c48 c49 sc0_39 c51 c6 c7 c8 gg_41 := WR.ofP hW_32 h_40 (by rw [egg_41]; exact OFP.up (by omega))
  refine lv_iload hx hb dX9_eatOf_67 (lv_at hl 0 rfl) ?_
  refine b_if_ge hx hb rfl (tgt := 82) dX9_eatOf_69 (by decide +kernel) (fun c_43 => ?_) (fun c_43 => ?_)
  · refine lv_aload_n hx hb dX9_eatOf_82 rfl (lv_at hl 4 rfl) ?_
    refine va_get (D := D) (ci := 9) (v := .ref k5) (C := RX9) (T := TX9) (N := 9) hx hb hT giX9 hown hK hP 0 rfl rfl 5 (by decide +kernel) (hT (Cond.fieldLink RX9 34 "DesertWire$World" "parties" "LDesertWire$Parties;") mw_100) (fun _ h9 => h9) rfl dX9_eatOf_83 ?_
    refine lv_iload_n hx hb dX9_eatOf_86 rfl (lv_at hl 5 rfl) ?_
    refine lv_iconst (v := 2) hx hb dX9_eatOf_87 (by decide +kernel) ?_
    refine kJi (wr := [(k, .inr (9, [.ref k0, .ref k1, .ref k2, .ref k3, .ref k4, .ref k5, .int c6, .int c7, .int c8])), (k4, .inr (8, [.ref k40, .ref k41, .ref k42, .ref k43, .ref k44, .ref k45, .ref k46, .ref k47, .ref k48, .int c49])), (k40, .inl (cI, 60, .inl c40)), (k41, .inl (cI, 60, .inl c41)), (k44, .inl (cI, 60, .inl sc4_28)), (k45, .inl (cI, 60, .inl c45)), (k48, .inl (cI, 40, .inl c48))]) (va_runV (As := [.int a0, .int 2]) (rest := []) ⟨hx, hb, hml, hown, hT⟩ (c_X3_getD2 l D cI aK aV k5 k50 H.size c51 sc0_39 gg_41 a0 2 (WR.kp hW_42) (by first | omega | (simp only [zl_2]; first | done | omega) | decide | assumption | rfl) (by first | omega | (simp only [zl_2]; first | done | omega) | decide | assumption | rfl) (by first | omega | (simp only [zl_2]; first | done | omega) | decide | assumption | rfl)) (cwV 2 hT (gV_in mw_726 mw_978 mw_724 mw_725 mw_4) rfl rfl rfl (by decide +kernel) ⟨Nat.le_of_ble_eq_true rfl, Nat.le_of_ble_eq_true rfl⟩) (kRecvX (q0 := 7) (ci := 3) hK hP hD hN hXS hS hA rfl rfl [7, 8] rfl (by decide +kernel)) rfl rfl hl.1 rfl (lv_room (Nat.le_of_ble_eq_true rfl)) dX9_eatOf_88 ⟨Nat.le_of_ble_eq_true rfl, Nat.le_of_ble_eq_true rfl⟩) hP hD hS hA [7, 8] [0, 1, 2, 3, 4, 5, 6] rfl rfl (by decide +kernel) (by decide +kernel) ?_
    clear hP hD hS
    intro r_44 u_46 H locs w_45 hP hD hS
    replace hP : va_P D vwCl [(k, .inr (9, [.ref k0, .ref k1, .ref k2, .ref k3, .ref k4, .ref k5, .int c6, .int c7, .int c8])), (k4, .inr (8, [.ref k40, .ref k41, .ref k42, .ref k43, .ref k44, .ref k45, .ref k46, .ref k47, .ref k48, .int c49])), (k40, .inl (cI, 60, .inl c40)), (k41, .inl (cI, 60, .inl c41)), (k44, .inl (cI, 60, .inl sc4_28)), (k45, .inl (cI, 60, .inl c45)), (k48, .inl (cI, 40, .inl c48)), (k5, .inr (3, [.ref k50, .int c51])), (k50, .inl (cI, 36, .inl sc0_39))] H := hP
    replace hD : va_D A [(k, .inr (9, [.ref k0, .ref k1, .ref k2, .ref k3, .ref k4, .ref k5, .int c6, .int c7, .int c8])), (k4, .inr (8, [.ref k40, .ref k41, .ref k42, .ref k43, .ref k44, .ref k45, .ref k46, .ref k47, .ref k48, .int c49])), (k40, .inl (cI, 60, .inl c40)), (k41, .inl (cI, 60, .inl c41)), (k44, .inl (cI, 60, .inl sc4_28)), (k45, .inl (cI, 60, .inl c45)), (k48, .inl (cI, 40, .inl c48)), (k5, .inr (3, [.ref k50, .int c51])), (k50, .inl (cI, 36, .inl sc0_39))] := hD
    have h_47 := w_45
    have h_47 : r_44 = pW gg_41 a0 2 := h_47
    have t_48 : r_44.toInt = (pW gg_41 a0 2).toInt := by rw [h_47]
    have lo_r_44 := k_lo r_44
    have hi_r_44 := k_hi r_44
    refine b_if_gt hx hb rfl (tgt := 105) dX9_eatOf_91 (by decide +kernel) (fun c_49 => ?_) (fun c_49 => ?_)
    · exact hRet (sc4_28, sc0_39) [0, 1, 7, 2, 3, 4, 5, 6, 8] (WR.gt hW_42 (stt_n (eat_c0 (l := v_35) (v := v_36) (by omega) (by omega) (eat_L (f := gx) (p := a0) h_9 h_15 (by rw [h_29, (eat_w (f := gx) (p := a0) h_21 h_9 h_15 ev_24 ev_25)]) ev_34 ev_35) (by omega) (by omega) (by rw [egg_31, (eat_w (f := gx) (p := a0) h_21 h_9 h_15 ev_24 ev_25)]) egg_41) h_47 (by omega))) hP hD (by decide +kernel) rfl hS dX9_eatOf_105
    · refine lv_aload_n hx hb dX9_eatOf_94 rfl (lv_at hl 4 rfl) ?_
      refine va_get (D := D) (ci := 9) (v := .ref k5) (C := RX9) (T := TX9) (N := 9) hx hb hT giX9 hown hK hP 0 rfl rfl 5 (by decide +kernel) (hT (Cond.fieldLink RX9 34 "DesertWire$World" "parties" "LDesertWire$Parties;") mw_100) (fun _ h9 => h9) rfl dX9_eatOf_95 ?_
      refine lv_iload_n hx hb dX9_eatOf_98 rfl (lv_at hl 5 rfl) ?_
      refine lv_bipush (v := 8) hx hb dX9_eatOf_99 (by decide +kernel) ?_
      refine lv_iconst (v := 2) hx hb dX9_eatOf_101 (by decide +kernel) ?_
      refine kJv (wr := [(k, .inr (9, [.ref k0, .ref k1, .ref k2, .ref k3, .ref k4, .ref k5, .int c6, .int c7, .int c8])), (k4, .inr (8, [.ref k40, .ref k41, .ref k42, .ref k43, .ref k44, .ref k45, .ref k46, .ref k47, .ref k48, .int c49])), (k40, .inl (cI, 60, .inl c40)), (k41, .inl (cI, 60, .inl c41)), (k44, .inl (cI, 60, .inl sc4_28)), (k45, .inl (cI, 60, .inl c45)), (k48, .inl (cI, 40, .inl c48))]) (va_runV (As := [.int a0, .int 8, .int 2]) (rest := []) ⟨hx, hb, hml, hown, hT⟩ (c_X3_setD8 l D cI aK aV k5 k50 H.size c51 sc0_39 gg_41 a0 8 2 (WR.kp hW_42) (by first | omega | (simp only [zl_2, zl_8]; first | done | omega) | decide | assumption | rfl) (by first | omega | (simp only [zl_2, zl_8]; first | done | omega) | decide | assumption | rfl) (by first | omega | (simp only [zl_2, zl_8]; first | done | omega) | decide | assumption | rfl)) (cwV 3 hT (gV_in mw_713 mw_981 mw_711 mw_712 mw_4) rfl rfl rfl (by decide +kernel) ⟨Nat.le_of_ble_eq_true rfl, Nat.le_of_ble_eq_true rfl⟩) (kRecvX (q0 := 7) (ci := 3) hK hP hD hN hXS hS hA rfl rfl [7, 8] rfl (by decide +kernel)) rfl rfl hl.1 rfl (lv_room (Nat.le_of_ble_eq_true rfl)) dX9_eatOf_102 ⟨Nat.le_of_ble_eq_true rfl, Nat.le_of_ble_eq_true rfl⟩) hP hD hS hA [7, 8] [0, 1, 2, 3, 4, 5, 6] rfl rfl (by decide +kernel) (by decide +kernel) ?_
      clear hP hD hS
      intro sc0_52 H locs w_51 hP hD hS
      replace hP : va_P D vwCl [(k, .inr (9, [.ref k0, .ref k1, .ref k2, .ref k3, .ref k4, .ref k5, .int c6, .int c7, .int c8])), (k4, .inr (8, [.ref k40, .ref k41, .ref k42, .ref k43, .ref k44, .ref k45, .ref k46, .ref k47, .ref k48, .int c49])), (k40, .inl (cI, 60, .inl c40)), (k41, .inl (cI, 60, .inl c41)), (k44, .inl (cI, 60, .inl sc4_28)), (k45, .inl (cI, 60, .inl c45)), (k48, .inl (cI, 40, .inl c48)), (k5, .inr (3, [.ref k50, .int c51])), (k50, .inl (cI, 36, .inl sc0_52))] H := hP
      replace hD : va_D A [(k, .inr (9, [.ref k0, .ref k1, .ref k2, .ref k3, .ref k4, .ref k5, .int c6, .int c7, .int c8])), (k4, .inr (8, [.ref k40, .ref k41, .ref k42, .ref k43, .ref k44, .ref k45, .ref k46, .ref k47, .ref k48, .int c49])), (k40, .inl (cI, 60, .inl c40)), (k41, .inl (cI, 60, .inl c41)), (k44, .inl (cI, 60, .inl sc4_28)), (k45, .inl (cI, 60, .inl c45)), (k48, .inl (cI, 40, .inl c48)), (k5, .inr (3, [.ref k50, .int c51])), (k50, .inl (cI, 36, .inl sc0_52))] := hD
      have h_53 := w_51
      try simp only [zl_2, zl_8] at h_53
      have h_53 : PTR sc0_52 c51 (upd gg_41 (459 + 9 * a0.toInt.toNat + 8) 2) := h_53
      have h_53 : PTR sc0_52 c51 (upd gg_41 (459 + 9 * a0.toInt.toNat + 8) 2) := h_53
      obtain ⟨gg_54, egg_54⟩ : ∃ g_ : Nat → Int32, g_ = (upd gg_41 (459 + 9 * a0.toInt.toNat + 8) 2) := ⟨_, rfl⟩
      rw [← egg_54] at h_53
      have hW_55 : WR c0 c1 c2 c3 c40 c41 c42 c43 sc4_28 c45 c46 c47 c48 c49 sc0_52 c51 c6 c7 c8 gg_54 := WR.ofP hW_42 h_53 (by rw [egg_54]; exact OFP.up (by omega))
      exact hRet (sc4_28, sc0_52) [0, 1, 7, 2, 3, 4, 5, 6, 8] (WR.gt hW_55 (stt_y (eat_c0 (l := v_35) (v := v_36) (by omega) (by omega) (eat_L (f := gx) (p := a0) h_9 h_15 (by rw [h_29, (eat_w (f := gx) (p := a0) h_21 h_9 h_15 ev_24 ev_25)]) ev_34 ev_35) (by omega) (by omega) (by rw [egg_31, (eat_w (f := gx) (p := a0) h_21 h_9 h_15 ev_24 ev_25)]) egg_41) h_47 (by omega) (eat_pos pre1 (by omega) (by omega)) egg_54)) hP hD (by decide +kernel) rfl hS dX9_eatOf_105
  · refine lv_aload_n hx hb dX9_eatOf_72 rfl (lv_at hl 4 rfl) ?_
    refine va_get (D := D) (ci := 9) (v := .ref k5) (C := RX9) (T := TX9) (N := 9) hx hb hT giX9 hown hK hP 0 rfl rfl 5 (by decide +kernel) (hT (Cond.fieldLink RX9 34 "DesertWire$World" "parties" "LDesertWire$Parties;") mw_100) (fun _ h9 => h9) rfl dX9_eatOf_73 ?_
    refine lv_iload_n hx hb dX9_eatOf_76 rfl (lv_at hl 5 rfl) ?_
    refine lv_iconst (v := 2) hx hb dX9_eatOf_77 (by decide +kernel) ?_
    refine lv_iconst (v := (-1)) hx hb dX9_eatOf_78 (by decide +kernel) ?_
    refine kJv (wr := [(k, .inr (9, [.ref k0, .ref k1, .ref k2, .ref k3, .ref k4, .ref k5, .int c6, .int c7, .int c8])), (k4, .inr (8, [.ref k40, .ref k41, .ref k42, .ref k43, .ref k44, .ref k45, .ref k46, .ref k47, .ref k48, .int c49])), (k40, .inl (cI, 60, .inl c40)), (k41, .inl (cI, 60, .inl c41)), (k44, .inl (cI, 60, .inl sc4_28)), (k45, .inl (cI, 60, .inl c45)), (k48, .inl (cI, 40, .inl c48))]) (va_runV (As := [.int a0, .int 2, .int (-1)]) (rest := []) ⟨hx, hb, hml, hown, hT⟩ (c_X3_moreD2 l D cI aK aV k5 k50 H.size c51 sc0_39 gg_41 a0 2 (-1) (WR.kp hW_42) (by first | omega | (simp only [zl_m1, zl_2]; first | done | omega) | decide | assumption | rfl) (by first | omega | (simp only [zl_m1, zl_2]; first | done | omega) | decide | assumption | rfl) (by first | omega | (simp only [zl_m1, zl_2]; first | done | omega) | decide | assumption | rfl)) (cwV 3 hT (gV_in mw_751 mw_982 mw_749 mw_750 mw_4) rfl rfl rfl (by decide +kernel) ⟨Nat.le_of_ble_eq_true rfl, Nat.le_of_ble_eq_true rfl⟩) (kRecvX (q0 := 7) (ci := 3) hK hP hD hN hXS hS hA rfl rfl [7, 8] rfl (by decide +kernel)) rfl rfl hl.1 rfl (lv_room (Nat.le_of_ble_eq_true rfl)) dX9_eatOf_79 ⟨Nat.le_of_ble_eq_true rfl, Nat.le_of_ble_eq_true rfl⟩) hP hD hS hA [7, 8] [0, 1, 2, 3, 4, 5, 6] rfl rfl (by decide +kernel) (by decide +kernel) ?_
    clear hP hD hS
    intro sc0_58 H locs w_57 hP hD hS
    replace hP : va_P D vwCl [(k, .inr (9, [.ref k0, .ref k1, .ref k2, .ref k3, .ref k4, .ref k5, .int c6, .int c7, .int c8])), (k4, .inr (8, [.ref k40, .ref k41, .ref k42, .ref k43, .ref k44, .ref k45, .ref k46, .ref k47, .ref k48, .int c49])), (k40, .inl (cI, 60, .inl c40)), (k41, .inl (cI, 60, .inl c41)), (k44, .inl (cI, 60, .inl sc4_28)), (k45, .inl (cI, 60, .inl c45)), (k48, .inl (cI, 40, .inl c48)), (k5, .inr (3, [.ref k50, .int c51])), (k50, .inl (cI, 36, .inl sc0_58))] H := hP
    replace hD : va_D A [(k, .inr (9, [.ref k0, .ref k1, .ref k2, .ref k3, .ref k4, .ref k5, .int c6, .int c7, .int c8])), (k4, .inr (8, [.ref k40, .ref k41, .ref k42, .ref k43, .ref k44, .ref k45, .ref k46, .ref k47, .ref k48, .int c49])), (k40, .inl (cI, 60, .inl c40)), (k41, .inl (cI, 60, .inl c41)), (k44, .inl (cI, 60, .inl sc4_28)), (k45, .inl (cI, 60, .inl c45)), (k48, .inl (cI, 40, .inl c48)), (k5, .inr (3, [.ref k50, .int c51])), (k50, .inl (cI, 36, .inl sc0_58))] := hD
    have h_59 := w_57
    try simp only [zl_m1, zl_2] at h_59
    have h_59 : PTR sc0_58 c51 (upd gg_41 (459 + 9 * a0.toInt.toNat + 2) (pW gg_41 a0 2 + (-1))) := h_59
    have h_59 : PTR sc0_58 c51 (upd gg_41 (459 + 9 * a0.toInt.toNat + 2) (pW gg_41 a0 2 + (-1))) := h_59
    obtain ⟨gg_60, egg_60⟩ : ∃ g_ : Nat → Int32, g_ = (upd gg_41 (459 + 9 * a0.toInt.toNat + 2) (pW gg_41 a0 2 + (-1))) := ⟨_, rfl⟩
    rw [← egg_60] at h_59
    have hW_61 : WR c0 c1 c2 c3 c40 c41 c42 c43 sc4_28 c45 c46 c47 c48 c49 sc0_58 c51 c6 c7 c8 gg_60 := WR.ofP hW_42 h_59 (by rw [egg_60]; exact OFP.up (by omega))
    refine lv_aload_n hx hb dX9_eatOf_82 rfl (lv_at hl 4 rfl) ?_
    refine va_get (D := D) (ci := 9) (v := .ref k5) (C := RX9) (T := TX9) (N := 9) hx hb hT giX9 hown hK hP 0 rfl rfl 5 (by decide +kernel) (hT (Cond.fieldLink RX9 34 "DesertWire$World" "parties" "LDesertWire$Parties;") mw_100) (fun _ h9 => h9) rfl dX9_eatOf_83 ?_
    refine lv_iload_n hx hb dX9_eatOf_86 rfl (lv_at hl 5 rfl) ?_
    refine lv_iconst (v := 2) hx hb dX9_eatOf_87 (by decide +kernel) ?_
    refine kJi (wr := [(k, .inr (9, [.ref k0, .ref k1, .ref k2, .ref k3, .ref k4, .ref k5, .int c6, .int c7, .int c8])), (k4, .inr (8, [.ref k40, .ref k41, .ref k42, .ref k43, .ref k44, .ref k45, .ref k46, .ref k47, .ref k48, .int c49])), (k40, .inl (cI, 60, .inl c40)), (k41, .inl (cI, 60, .inl c41)), (k44, .inl (cI, 60, .inl sc4_28)), (k45, .inl (cI, 60, .inl c45)), (k48, .inl (cI, 40, .inl c48))]) (va_runV (As := [.int a0, .int 2]) (rest := []) ⟨hx, hb, hml, hown, hT⟩ (c_X3_getD2 l D cI aK aV k5 k50 H.size c51 sc0_58 gg_60 a0 2 (WR.kp hW_61) (by first | omega | (simp only [zl_2]; first | done | omega) | decide | assumption | rfl) (by first | omega | (simp only [zl_2]; first | done | omega) | decide | assumption | rfl) (by first | omega | (simp only [zl_2]; first | done | omega) | decide | assumption | rfl)) (cwV 2 hT (gV_in mw_726 mw_978 mw_724 mw_725 mw_4) rfl rfl rfl (by decide +kernel) ⟨Nat.le_of_ble_eq_true rfl, Nat.le_of_ble_eq_true rfl⟩) (kRecvX (q0 := 7) (ci := 3) hK hP hD hN hXS hS hA rfl rfl [7, 8] rfl (by decide +kernel)) rfl rfl hl.1 rfl (lv_room (Nat.le_of_ble_eq_true rfl)) dX9_eatOf_88 ⟨Nat.le_of_ble_eq_true rfl, Nat.le_of_ble_eq_true rfl⟩) hP hD hS hA [7, 8] [0, 1, 2, 3, 4, 5, 6] rfl rfl (by decide +kernel) (by decide +kernel) ?_
    clear hP hD hS
    intro r_62 u_64 H locs w_63 hP hD hS
    replace hP : va_P D vwCl [(k, .inr (9, [.ref k0, .ref k1, .ref k2, .ref k3, .ref k4, .ref k5, .int c6, .int c7, .int c8])), (k4, .inr (8, [.ref k40, .ref k41, .ref k42, .ref k43, .ref k44, .ref k45, .ref k46, .ref k47, .ref k48, .int c49])), (k40, .inl (cI, 60, .inl c40)), (k41, .inl (cI, 60, .inl c41)), (k44, .inl (cI, 60, .inl sc4_28)), (k45, .inl (cI, 60, .inl c45)), (k48, .inl (cI, 40, .inl c48)), (k5, .inr (3, [.ref k50, .int c51])), (k50, .inl (cI, 36, .inl sc0_58))] H := hP
    replace hD : va_D A [(k, .inr (9, [.ref k0, .ref k1, .ref k2, .ref k3, .ref k4, .ref k5, .int c6, .int c7, .int c8])), (k4, .inr (8, [.ref k40, .ref k41, .ref k42, .ref k43, .ref k44, .ref k45, .ref k46, .ref k47, .ref k48, .int c49])), (k40, .inl (cI, 60, .inl c40)), (k41, .inl (cI, 60, .inl c41)), (k44, .inl (cI, 60, .inl sc4_28)), (k45, .inl (cI, 60, .inl c45)), (k48, .inl (cI, 40, .inl c48)), (k5, .inr (3, [.ref k50, .int c51])), (k50, .inl (cI, 36, .inl sc0_58))] := hD
    have h_65 := w_63
    have h_65 : r_62 = pW gg_60 a0 2 := h_65
    have t_66 : r_62.toInt = (pW gg_60 a0 2).toInt := by rw [h_65]
    have lo_r_62 := k_lo r_62
    have hi_r_62 := k_hi r_62
    refine b_if_gt hx hb rfl (tgt := 105) dX9_eatOf_91 (by decide +kernel) (fun c_67 => ?_) (fun c_67 => ?_)
    · exact hRet (sc4_28, sc0_58) [0, 1, 7, 2, 3, 4, 5, 6, 8] (WR.gt hW_61 (stt_n (eat_c1 (l := v_35) (v := v_36) (by omega) (by omega) (eat_L (f := gx) (p := a0) h_9 h_15 (by rw [h_29, (eat_w (f := gx) (p := a0) h_21 h_9 h_15 ev_24 ev_25)]) ev_34 ev_35) (by omega) (by omega) (by rw [egg_31, (eat_w (f := gx) (p := a0) h_21 h_9 h_15 ev_24 ev_25)]) egg_41 egg_60) h_65 (by omega))) hP hD (by decide +kernel) rfl hS dX9_eatOf_105
    · refine lv_aload_n hx hb dX9_eatOf_94 rfl (lv_at hl 4 rfl) ?_
      refine va_get (D := D) (ci := 9) (v := .ref k5) (C := RX9) (T := TX9) (N := 9) hx hb hT giX9 hown hK hP 0 rfl rfl 5 (by decide +kernel) (hT (Cond.fieldLink RX9 34 "DesertWire$World" "parties" "LDesertWire$Parties;") mw_100) (fun _ h9 => h9) rfl dX9_eatOf_95 ?_
      refine lv_iload_n hx hb dX9_eatOf_98 rfl (lv_at hl 5 rfl) ?_
      refine lv_bipush (v := 8) hx hb dX9_eatOf_99 (by decide +kernel) ?_
      refine lv_iconst (v := 2) hx hb dX9_eatOf_101 (by decide +kernel) ?_
      refine kJv (wr := [(k, .inr (9, [.ref k0, .ref k1, .ref k2, .ref k3, .ref k4, .ref k5, .int c6, .int c7, .int c8])), (k4, .inr (8, [.ref k40, .ref k41, .ref k42, .ref k43, .ref k44, .ref k45, .ref k46, .ref k47, .ref k48, .int c49])), (k40, .inl (cI, 60, .inl c40)), (k41, .inl (cI, 60, .inl c41)), (k44, .inl (cI, 60, .inl sc4_28)), (k45, .inl (cI, 60, .inl c45)), (k48, .inl (cI, 40, .inl c48))]) (va_runV (As := [.int a0, .int 8, .int 2]) (rest := []) ⟨hx, hb, hml, hown, hT⟩ (c_X3_setD8 l D cI aK aV k5 k50 H.size c51 sc0_58 gg_60 a0 8 2 (WR.kp hW_61) (by first | omega | (simp only [zl_2, zl_8]; first | done | omega) | decide | assumption | rfl) (by first | omega | (simp only [zl_2, zl_8]; first | done | omega) | decide | assumption | rfl) (by first | omega | (simp only [zl_2, zl_8]; first | done | omega) | decide | assumption | rfl)) (cwV 3 hT (gV_in mw_713 mw_981 mw_711 mw_712 mw_4) rfl rfl rfl (by decide +kernel) ⟨Nat.le_of_ble_eq_true rfl, Nat.le_of_ble_eq_true rfl⟩) (kRecvX (q0 := 7) (ci := 3) hK hP hD hN hXS hS hA rfl rfl [7, 8] rfl (by decide +kernel)) rfl rfl hl.1 rfl (lv_room (Nat.le_of_ble_eq_true rfl)) dX9_eatOf_102 ⟨Nat.le_of_ble_eq_true rfl, Nat.le_of_ble_eq_true rfl⟩) hP hD hS hA [7, 8] [0, 1, 2, 3, 4, 5, 6] rfl rfl (by decide +kernel) (by decide +kernel) ?_
      clear hP hD hS
      intro sc0_70 H locs w_69 hP hD hS
      replace hP : va_P D vwCl [(k, .inr (9, [.ref k0, .ref k1, .ref k2, .ref k3, .ref k4, .ref k5, .int c6, .int c7, .int c8])), (k4, .inr (8, [.ref k40, .ref k41, .ref k42, .ref k43, .ref k44, .ref k45, .ref k46, .ref k47, .ref k48, .int c49])), (k40, .inl (cI, 60, .inl c40)), (k41, .inl (cI, 60, .inl c41)), (k44, .inl (cI, 60, .inl sc4_28)), (k45, .inl (cI, 60, .inl c45)), (k48, .inl (cI, 40, .inl c48)), (k5, .inr (3, [.ref k50, .int c51])), (k50, .inl (cI, 36, .inl sc0_70))] H := hP
      replace hD : va_D A [(k, .inr (9, [.ref k0, .ref k1, .ref k2, .ref k3, .ref k4, .ref k5, .int c6, .int c7, .int c8])), (k4, .inr (8, [.ref k40, .ref k41, .ref k42, .ref k43, .ref k44, .ref k45, .ref k46, .ref k47, .ref k48, .int c49])), (k40, .inl (cI, 60, .inl c40)), (k41, .inl (cI, 60, .inl c41)), (k44, .inl (cI, 60, .inl sc4_28)), (k45, .inl (cI, 60, .inl c45)), (k48, .inl (cI, 40, .inl c48)), (k5, .inr (3, [.ref k50, .int c51])), (k50, .inl (cI, 36, .inl sc0_70))] := hD
      have h_71 := w_69
      try simp only [zl_2, zl_8] at h_71
      have h_71 : PTR sc0_70 c51 (upd gg_60 (459 + 9 * a0.toInt.toNat + 8) 2) := h_71
      have h_71 : PTR sc0_70 c51 (upd gg_60 (459 + 9 * a0.toInt.toNat + 8) 2) := h_71
      obtain ⟨gg_72, egg_72⟩ : ∃ g_ : Nat → Int32, g_ = (upd gg_60 (459 + 9 * a0.toInt.toNat + 8) 2) := ⟨_, rfl⟩
      rw [← egg_72] at h_71
      have hW_73 : WR c0 c1 c2 c3 c40 c41 c42 c43 sc4_28 c45 c46 c47 c48 c49 sc0_70 c51 c6 c7 c8 gg_72 := WR.ofP hW_61 h_71 (by rw [egg_72]; exact OFP.up (by omega))
      exact hRet (sc4_28, sc0_70) [0, 1, 7, 2, 3, 4, 5, 6, 8] (WR.gt hW_73 (stt_y (eat_c1 (l := v_35) (v := v_36) (by omega) (by omega) (eat_L (f := gx) (p := a0) h_9 h_15 (by rw [h_29, (eat_w (f := gx) (p := a0) h_21 h_9 h_15 ev_24 ev_25)]) ev_34 ev_35) (by omega) (by omega) (by rw [egg_31, (eat_w (f := gx) (p := a0) h_21 h_9 h_15 ev_24 ev_25)]) egg_41 egg_60) h_65 (by omega) (eat_pos pre1 (by omega) (by omega)) egg_72)) hP hD (by decide +kernel) rfl hS dX9_eatOf_105

set_option maxHeartbeats 4000000 in
set_option maxRecDepth 100000 in
theorem c_X9_goOnD (l : Launch) (D : va_G) (cI : ClassId) (aK aV : Nat → Nat) (k k0 k1 k2 k3 k4 k5 k50 : Nat) (sz : Nat) (c6 : Int32) (c7 : Int32) (c8 : Int32) (c51 : Int32) (c50 : Nat → Int32) (c0 : Nat → Int32) (c1 : Nat → Int32) (c2 : Nat → Int32) (c3 : Nat → Int32) (c40 : Nat → Int32) (c41 : Nat → Int32) (c42 : Nat → Int32) (c43 : Nat → Int32) (c44 : Nat → Int32) (c45 : Nat → Int32) (c46 : Nat → Int32) (c47 : Nat → Int32) (c48 : Nat → Int32) (c49 : Int32) (gx : Nat → Int32) (a0 : Int32) (a1 : Int32) (pre0 : WR c0 c1 c2 c3 c40 c41 c42 c43 c44 c45 c46 c47 c48 c49 c50 c51 c6 c7 c8 gx) (pre1 : 0 ≤ a0.toInt) (pre2 : a0.toInt < c51.toInt) : Met l yX9_goOn (gW yX9_goOn cX9_goOn 3 none) ({ frames := 2, cells := 0, slots := 0, locals := 44 } : Room) (kPreX D cI aK aV [.ref k, .int a0, .int a1] [(k, .inr (9, [.ref k0, .ref k1, .ref k2, .ref k3, .ref k4, .ref k5, .int c6, .int c7, .int c8])), (k5, .inr (3, [.ref k50, .int c51])), (k50, .inl (cI, 36, .inl c50))] sz) (va_Qv (fun (u : (Nat → Int32)) => WR c0 c1 c2 c3 c40 c41 c42 c43 c44 c45 c46 c47 c48 c49 u c51 c6 c7 c8 (goF gx a0.toInt.toNat a1)) (fun u t => kWd D cI (va_A [(k, .inr (9, [.ref k0, .ref k1, .ref k2, .ref k3, .ref k4, .ref k5, .int c6, .int c7, .int c8])), (k5, .inr (3, [.ref k50, .int c51])), (k50, .inl (cI, 36, .inl c50))] sz) [(k, .inr (9, [.ref k0, .ref k1, .ref k2, .ref k3, .ref k4, .ref k5, .int c6, .int c7, .int c8])), (k5, .inr (3, [.ref k50, .int c51])), (k50, .inl (cI, 36, .inl u))] t) (va_A [(k, .inr (9, [.ref k0, .ref k1, .ref k2, .ref k3, .ref k4, .ref k5, .int c6, .int c7, .int c8])), (k5, .inr (3, [.ref k50, .int c51])), (k50, .inl (cI, 36, .inl c50))] sz)) 0 0 (va_A [(k, .inr (9, [.ref k0, .ref k1, .ref k2, .ref k3, .ref k4, .ref k5, .int c6, .int c7, .int c8])), (k5, .inr (3, [.ref k50, .int c51])), (k50, .inl (cI, 36, .inl c50))] sz) := by
  refine kMetVX (own := RX9) (by decide +kernel) rfl (Nat.le_of_ble_eq_true rfl) ?_
  intro p e s m args below meth c hx hb hT hown hname hml A Q hK hP hD hS hA hN hXS hRet ls hl
  have hl : lv_has ls 3 [(0, .ref k), (1, .int a0), (2, .int a1)] := hl
  have lo_a0 := k_lo a0
  have hi_a0 := k_hi a0
  have lo_a1 := k_lo a1
  have hi_a1 := k_hi a1
  have lo_c6 := k_lo c6
  have hi_c6 := k_hi c6
  have lo_c7 := k_lo c7
  have hi_c7 := k_hi c7
  have lo_c8 := k_lo c8
  have hi_c8 := k_hi c8
  have lo_c51 := k_lo c51
  have hi_c51 := k_hi c51
  have lo_c49 := k_lo c49
  have hi_c49 := k_hi c49
  have pre0 : WR c0 c1 c2 c3 c40 c41 c42 c43 c44 c45 c46 c47 c48 c49 c50 c51 c6 c7 c8 gx := pre0
  have b_1 : 0 ≤ c49.toInt ∧ c49.toInt ≤ 60 := WKR.n0 (WR.kw pre0)
  have t_2 : c49.toInt = (gx 1).toInt := WKR.nt (WR.kw pre0)
  have b_3 : 0 ≤ c51.toInt ∧ c51.toInt ≤ 4 := ((WR.kp pre0)).2.1
  have t_4 : c51.toInt = (gx 2).toInt := PTR.nt (WR.kp pre0)
  have t_5 : c8.toInt = (gx 0).toInt := by rw [WR.dd pre0]
  refine lv_aload_n hx hb dX9_goOn_0 rfl (lv_at hl 0 rfl) ?_
  refine va_get (D := D) (ci := 9) (v := .ref k5) (C := RX9) (T := TX9) (N := 9) hx hb hT giX9 hown hK hP 0 rfl rfl 5 (by decide +kernel) (hT (Cond.fieldLink RX9 34 "DesertWire$World" "parties" "LDesertWire$Parties;") mw_100) (fun _ h9 => h9) rfl dX9_goOn_1 ?_
  refine lv_iload_n hx hb dX9_goOn_4 rfl (lv_at hl 1 rfl) ?_
  refine lv_bipush (v := 7) hx hb dX9_goOn_5 (by decide +kernel) ?_
  refine lv_iconst (v := 0) hx hb dX9_goOn_7 (by decide +kernel) ?_
  refine kJv (wr := [(k, .inr (9, [.ref k0, .ref k1, .ref k2, .ref k3, .ref k4, .ref k5, .int c6, .int c7, .int c8]))]) (va_runV (As := [.int a0, .int 7, .int 0]) (rest := []) ⟨hx, hb, hml, hown, hT⟩ (c_X3_setD7 l D cI aK aV k5 k50 s.heap.size c51 c50 gx a0 7 0 (WR.kp pre0) (by first | omega | (simp only [zl_0, zl_7]; first | done | omega) | decide | assumption | rfl) (by first | omega | (simp only [zl_0, zl_7]; first | done | omega) | decide | assumption | rfl) (by first | omega | (simp only [zl_0, zl_7]; first | done | omega) | decide | assumption | rfl)) (cwV 3 hT (gV_in mw_713 mw_981 mw_711 mw_712 mw_4) rfl rfl rfl (by decide +kernel) ⟨Nat.le_of_ble_eq_true rfl, Nat.le_of_ble_eq_true rfl⟩) (kRecvX (q0 := 1) (ci := 3) hK hP hD hN hXS hS hA rfl rfl [1, 2] rfl (by decide +kernel)) rfl rfl hl.1 rfl (lv_room (Nat.le_of_ble_eq_true rfl)) dX9_goOn_8 ⟨Nat.le_of_ble_eq_true rfl, Nat.le_of_ble_eq_true rfl⟩) hP hD hS hA [1, 2] [0] rfl rfl (by decide +kernel) (by decide +kernel) ?_
  clear hP hD hS
  intro sc0_8 H locs w_7 hP hD hS
  replace hP : va_P D vwCl [(k, .inr (9, [.ref k0, .ref k1, .ref k2, .ref k3, .ref k4, .ref k5, .int c6, .int c7, .int c8])), (k5, .inr (3, [.ref k50, .int c51])), (k50, .inl (cI, 36, .inl sc0_8))] H := hP
  replace hD : va_D A [(k, .inr (9, [.ref k0, .ref k1, .ref k2, .ref k3, .ref k4, .ref k5, .int c6, .int c7, .int c8])), (k5, .inr (3, [.ref k50, .int c51])), (k50, .inl (cI, 36, .inl sc0_8))] := hD
  have h_9 := w_7
  try simp only [zl_0, zl_7] at h_9
  have h_9 : PTR sc0_8 c51 (upd gx (459 + 9 * a0.toInt.toNat + 7) 0) := h_9
  have h_9 : PTR sc0_8 c51 (upd gx (459 + 9 * a0.toInt.toNat + 7) 0) := h_9
  obtain ⟨gg_10, egg_10⟩ : ∃ g_ : Nat → Int32, g_ = (upd gx (459 + 9 * a0.toInt.toNat + 7) 0) := ⟨_, rfl⟩
  rw [← egg_10] at h_9
  have hW_11 : WR c0 c1 c2 c3 c40 c41 c42 c43 c44 c45 c46 c47 c48 c49 sc0_8 c51 c6 c7 c8 gg_10 := WR.ofP pre0 h_9 (by rw [egg_10]; exact OFP.up (by omega))
  refine lv_iload_n hx hb dX9_goOn_11 rfl (lv_at hl 2 rfl) ?_
  refine kJi (wr := [(k, .inr (9, [.ref k0, .ref k1, .ref k2, .ref k3, .ref k4, .ref k5, .int c6, .int c7, .int c8])), (k5, .inr (3, [.ref k50, .int c51])), (k50, .inl (cI, 36, .inl sc0_8))]) (va_runSN (As := [.int a1]) (rest := []) ⟨hx, hb, hml, hown, hT⟩ (c_X10_isMileG l D cI aK aV H.size a1) ⟨va_cnB 1 hT (gW_in mw_346) rfl rfl rfl (hN _ mw_424) (hT _ mw_1) (by decide +kernel) ⟨Nat.le_of_ble_eq_true rfl, Nat.le_of_ble_eq_true rfl⟩, hT _ mw_345, trivial⟩ (kStatX hK hP hD hN hXS hS hA [] rfl (by decide +kernel)) rfl rfl hl.1 rfl (lv_room (Nat.le_of_ble_eq_true rfl)) dX9_goOn_12 ⟨Nat.le_of_ble_eq_true rfl, Nat.le_of_ble_eq_true rfl⟩) hP hD hS hA [] [0, 1, 2] rfl rfl (by decide +kernel) (by decide +kernel) ?_
  clear hP hD hS
  intro r_12 u_14 H locs w_13 hP hD hS
  replace hP : va_P D vwCl [(k, .inr (9, [.ref k0, .ref k1, .ref k2, .ref k3, .ref k4, .ref k5, .int c6, .int c7, .int c8])), (k5, .inr (3, [.ref k50, .int c51])), (k50, .inl (cI, 36, .inl sc0_8))] H := hP
  replace hD : va_D A [(k, .inr (9, [.ref k0, .ref k1, .ref k2, .ref k3, .ref k4, .ref k5, .int c6, .int c7, .int c8])), (k5, .inr (3, [.ref k50, .int c51])), (k50, .inl (cI, 36, .inl sc0_8))] := hD
  rcases w_13 with ⟨hr_12, h_15, h_16⟩ | ⟨hr_12, h_17⟩
  · have h_15 : 0 ≤ a1.toInt := h_15
    have h_16 : a1.toInt ≤ 39 := h_16
    obtain rfl : r_12 = 1 := hr_12.trans (by decide +kernel)
    refine b_if_eq hx hb zl_1 (tgt := 31) dX9_goOn_15 (by decide +kernel) (fun c_18 => by exfalso; omega) (fun c_18 => ?_)
    refine lv_aload_n hx hb dX9_goOn_18 rfl (lv_at hl 0 rfl) ?_
    refine va_get (D := D) (ci := 9) (v := .ref k5) (C := RX9) (T := TX9) (N := 9) hx hb hT giX9 hown hK hP 0 rfl rfl 5 (by decide +kernel) (hT (Cond.fieldLink RX9 34 "DesertWire$World" "parties" "LDesertWire$Parties;") mw_100) (fun _ h9 => h9) rfl dX9_goOn_19 ?_
    refine lv_iload_n hx hb dX9_goOn_22 rfl (lv_at hl 1 rfl) ?_
    refine lv_iconst (v := 0) hx hb dX9_goOn_23 (by decide +kernel) ?_
    refine lv_iload_n hx hb dX9_goOn_24 rfl (lv_at hl 2 rfl) ?_
    refine kJv (wr := [(k, .inr (9, [.ref k0, .ref k1, .ref k2, .ref k3, .ref k4, .ref k5, .int c6, .int c7, .int c8]))]) (va_runV (As := [.int a0, .int 0, .int a1]) (rest := []) ⟨hx, hb, hml, hown, hT⟩ (c_X3_setD0 l D cI aK aV k5 k50 H.size c51 sc0_8 gg_10 a0 0 a1 (WR.kp hW_11) (by first | omega | (simp only [zl_0]; first | done | omega) | decide | assumption | rfl) (by first | omega | (simp only [zl_0]; first | done | omega) | decide | assumption | rfl) (by first | omega | (simp only [zl_0]; first | done | omega) | decide | assumption | rfl)) (cwV 3 hT (gV_in mw_713 mw_981 mw_711 mw_712 mw_4) rfl rfl rfl (by decide +kernel) ⟨Nat.le_of_ble_eq_true rfl, Nat.le_of_ble_eq_true rfl⟩) (kRecvX (q0 := 1) (ci := 3) hK hP hD hN hXS hS hA rfl rfl [1, 2] rfl (by decide +kernel)) rfl rfl hl.1 rfl (lv_room (Nat.le_of_ble_eq_true rfl)) dX9_goOn_25 ⟨Nat.le_of_ble_eq_true rfl, Nat.le_of_ble_eq_true rfl⟩) hP hD hS hA [1, 2] [0] rfl rfl (by decide +kernel) (by decide +kernel) ?_
    clear hP hD hS
    intro sc0_21 H locs w_20 hP hD hS
    replace hP : va_P D vwCl [(k, .inr (9, [.ref k0, .ref k1, .ref k2, .ref k3, .ref k4, .ref k5, .int c6, .int c7, .int c8])), (k5, .inr (3, [.ref k50, .int c51])), (k50, .inl (cI, 36, .inl sc0_21))] H := hP
    replace hD : va_D A [(k, .inr (9, [.ref k0, .ref k1, .ref k2, .ref k3, .ref k4, .ref k5, .int c6, .int c7, .int c8])), (k5, .inr (3, [.ref k50, .int c51])), (k50, .inl (cI, 36, .inl sc0_21))] := hD
    have h_22 := w_20
    try simp only [zl_0] at h_22
    have h_22 : PTR sc0_21 c51 (upd gg_10 (459 + 9 * a0.toInt.toNat + 0) a1) := h_22
    have h_22 : PTR sc0_21 c51 (upd gg_10 (459 + 9 * a0.toInt.toNat + 0) a1) := h_22
    obtain ⟨gg_23, egg_23⟩ : ∃ g_ : Nat → Int32, g_ = (upd gg_10 (459 + 9 * a0.toInt.toNat + 0) a1) := ⟨_, rfl⟩
    rw [← egg_23] at h_22
    have hW_24 : WR c0 c1 c2 c3 c40 c41 c42 c43 c44 c45 c46 c47 c48 c49 sc0_21 c51 c6 c7 c8 gg_23 := WR.ofP hW_11 h_22 (by rw [egg_23]; exact OFP.up (by omega))
    refine lv_goto (tgt := 42) hx hb dX9_goOn_28 (by decide +kernel) ?_
    exact hRet sc0_21 [0, 1, 2] (WR.gt hW_24 (goF_y egg_10 egg_23 (by omega) (by omega))) hP hD (by decide +kernel) rfl hS dX9_goOn_42
  · have h_17 : a1.toInt < 0 ∨ 39 < a1.toInt := h_17
    obtain rfl : r_12 = 0 := hr_12.trans (by decide +kernel)
    refine b_if_eq hx hb zl_0 (tgt := 31) dX9_goOn_15 (by decide +kernel) (fun c_25 => ?_) (fun c_25 => by exfalso; omega)
    refine lv_aload_n hx hb dX9_goOn_31 rfl (lv_at hl 0 rfl) ?_
    refine va_get (D := D) (ci := 9) (v := .ref k5) (C := RX9) (T := TX9) (N := 9) hx hb hT giX9 hown hK hP 0 rfl rfl 5 (by decide +kernel) (hT (Cond.fieldLink RX9 34 "DesertWire$World" "parties" "LDesertWire$Parties;") mw_100) (fun _ h9 => h9) rfl dX9_goOn_32 ?_
    refine lv_iload_n hx hb dX9_goOn_35 rfl (lv_at hl 1 rfl) ?_
    refine lv_bipush (v := 8) hx hb dX9_goOn_36 (by decide +kernel) ?_
    refine lv_iconst (v := 1) hx hb dX9_goOn_38 (by decide +kernel) ?_
    refine kJv (wr := [(k, .inr (9, [.ref k0, .ref k1, .ref k2, .ref k3, .ref k4, .ref k5, .int c6, .int c7, .int c8]))]) (va_runV (As := [.int a0, .int 8, .int 1]) (rest := []) ⟨hx, hb, hml, hown, hT⟩ (c_X3_setD8 l D cI aK aV k5 k50 H.size c51 sc0_8 gg_10 a0 8 1 (WR.kp hW_11) (by first | omega | (simp only [zl_1, zl_8]; first | done | omega) | decide | assumption | rfl) (by first | omega | (simp only [zl_1, zl_8]; first | done | omega) | decide | assumption | rfl) (by first | omega | (simp only [zl_1, zl_8]; first | done | omega) | decide | assumption | rfl)) (cwV 3 hT (gV_in mw_713 mw_981 mw_711 mw_712 mw_4) rfl rfl rfl (by decide +kernel) ⟨Nat.le_of_ble_eq_true rfl, Nat.le_of_ble_eq_true rfl⟩) (kRecvX (q0 := 1) (ci := 3) hK hP hD hN hXS hS hA rfl rfl [1, 2] rfl (by decide +kernel)) rfl rfl hl.1 rfl (lv_room (Nat.le_of_ble_eq_true rfl)) dX9_goOn_39 ⟨Nat.le_of_ble_eq_true rfl, Nat.le_of_ble_eq_true rfl⟩) hP hD hS hA [1, 2] [0] rfl rfl (by decide +kernel) (by decide +kernel) ?_
    clear hP hD hS
    intro sc0_28 H locs w_27 hP hD hS
    replace hP : va_P D vwCl [(k, .inr (9, [.ref k0, .ref k1, .ref k2, .ref k3, .ref k4, .ref k5, .int c6, .int c7, .int c8])), (k5, .inr (3, [.ref k50, .int c51])), (k50, .inl (cI, 36, .inl sc0_28))] H := hP
    replace hD : va_D A [(k, .inr (9, [.ref k0, .ref k1, .ref k2, .ref k3, .ref k4, .ref k5, .int c6, .int c7, .int c8])), (k5, .inr (3, [.ref k50, .int c51])), (k50, .inl (cI, 36, .inl sc0_28))] := hD
    have h_29 := w_27
    try simp only [zl_1, zl_8] at h_29
    have h_29 : PTR sc0_28 c51 (upd gg_10 (459 + 9 * a0.toInt.toNat + 8) 1) := h_29
    have h_29 : PTR sc0_28 c51 (upd gg_10 (459 + 9 * a0.toInt.toNat + 8) 1) := h_29
    obtain ⟨gg_30, egg_30⟩ : ∃ g_ : Nat → Int32, g_ = (upd gg_10 (459 + 9 * a0.toInt.toNat + 8) 1) := ⟨_, rfl⟩
    rw [← egg_30] at h_29
    have hW_31 : WR c0 c1 c2 c3 c40 c41 c42 c43 c44 c45 c46 c47 c48 c49 sc0_28 c51 c6 c7 c8 gg_30 := WR.ofP hW_11 h_29 (by rw [egg_30]; exact OFP.up (by omega))
    exact hRet sc0_28 [0, 1, 2] (WR.gt hW_31 (goF_n egg_10 egg_30 (by omega))) hP hD (by decide +kernel) rfl hS dX9_goOn_42

set_option maxHeartbeats 4000000 in
set_option maxRecDepth 100000 in
theorem c_X9_digD (l : Launch) (D : va_G) (cI : ClassId) (aK aV : Nat → Nat) (k k0 k1 k2 k3 k4 k5 k40 k41 k42 k43 k44 k45 k46 k47 k48 k50 : Nat) (sz : Nat) (c6 : Int32) (c7 : Int32) (c8 : Int32) (c0 : Nat → Int32) (c1 : Nat → Int32) (c49 : Int32) (c51 : Int32) (c40 : Nat → Int32) (c41 : Nat → Int32) (c42 : Nat → Int32) (c43 : Nat → Int32) (c44 : Nat → Int32) (c45 : Nat → Int32) (c46 : Nat → Int32) (c47 : Nat → Int32) (c48 : Nat → Int32) (c50 : Nat → Int32) (c2 : Nat → Int32) (c3 : Nat → Int32) (gx : Nat → Int32) (a0 : Int32) (a1 : Int32) (pre0 : WR c0 c1 c2 c3 c40 c41 c42 c43 c44 c45 c46 c47 c48 c49 c50 c51 c6 c7 c8 gx) (pre1 : SB gx) (pre2 : a1 = pW gx a0 0) (pre3 : 0 ≤ c8.toInt) (pre4 : c8.toInt ≤ 2000) (pre5 : 0 ≤ a0.toInt) (pre6 : a0.toInt < c51.toInt) : Met l yX9_dig (gW yX9_dig cX9_dig 4 none) ({ frames := 4, cells := 0, slots := 0, locals := 90 } : Room) (kPreX D cI aK aV [.ref k, .int a0, .int a1] [(k, .inr (9, [.ref k0, .ref k1, .ref k2, .ref k3, .ref k4, .ref k5, .int c6, .int c7, .int c8])), (k0, .inl (cI, 12, .inl c0)), (k1, .inl (cI, 40, .inl c1)), (k4, .inr (8, [.ref k40, .ref k41, .ref k42, .ref k43, .ref k44, .ref k45, .ref k46, .ref k47, .ref k48, .int c49])), (k5, .inr (3, [.ref k50, .int c51])), (k40, .inl (cI, 60, .inl c40)), (k41, .inl (cI, 60, .inl c41)), (k42, .inl (cI, 60, .inl c42)), (k43, .inl (cI, 60, .inl c43)), (k44, .inl (cI, 60, .inl c44)), (k45, .inl (cI, 60, .inl c45)), (k46, .inl (cI, 40, .inl c46)), (k47, .inl (cI, 40, .inl c47)), (k48, .inl (cI, 40, .inl c48)), (k50, .inl (cI, 36, .inl c50))] sz) (va_Qv (fun (u : Int32 × (Nat → Int32) × (Nat → Int32) × (Nat → Int32) × (Nat → Int32) × (Nat → Int32) × (Nat → Int32) × (Nat → Int32) × (Nat → Int32) × (Nat → Int32) × (Nat → Int32)) => WR c0 c1 c2 c3 u.2.1 u.2.2.1 u.2.2.2.1 u.2.2.2.2.1 u.2.2.2.2.2.1 u.2.2.2.2.2.2.1 u.2.2.2.2.2.2.2.1 u.2.2.2.2.2.2.2.2.1 u.2.2.2.2.2.2.2.2.2.1 u.1 u.2.2.2.2.2.2.2.2.2.2 c51 c6 c7 c8 (digF gx a0.toInt.toNat)) (fun u t => kWd D cI (va_A [(k, .inr (9, [.ref k0, .ref k1, .ref k2, .ref k3, .ref k4, .ref k5, .int c6, .int c7, .int c8])), (k0, .inl (cI, 12, .inl c0)), (k1, .inl (cI, 40, .inl c1)), (k4, .inr (8, [.ref k40, .ref k41, .ref k42, .ref k43, .ref k44, .ref k45, .ref k46, .ref k47, .ref k48, .int c49])), (k5, .inr (3, [.ref k50, .int c51])), (k40, .inl (cI, 60, .inl c40)), (k41, .inl (cI, 60, .inl c41)), (k42, .inl (cI, 60, .inl c42)), (k43, .inl (cI, 60, .inl c43)), (k44, .inl (cI, 60, .inl c44)), (k45, .inl (cI, 60, .inl c45)), (k46, .inl (cI, 40, .inl c46)), (k47, .inl (cI, 40, .inl c47)), (k48, .inl (cI, 40, .inl c48)), (k50, .inl (cI, 36, .inl c50))] sz) [(k, .inr (9, [.ref k0, .ref k1, .ref k2, .ref k3, .ref k4, .ref k5, .int c6, .int c7, .int c8])), (k0, .inl (cI, 12, .inl c0)), (k1, .inl (cI, 40, .inl c1)), (k4, .inr (8, [.ref k40, .ref k41, .ref k42, .ref k43, .ref k44, .ref k45, .ref k46, .ref k47, .ref k48, .int u.1])), (k5, .inr (3, [.ref k50, .int c51])), (k40, .inl (cI, 60, .inl u.2.1)), (k41, .inl (cI, 60, .inl u.2.2.1)), (k42, .inl (cI, 60, .inl u.2.2.2.1)), (k43, .inl (cI, 60, .inl u.2.2.2.2.1)), (k44, .inl (cI, 60, .inl u.2.2.2.2.2.1)), (k45, .inl (cI, 60, .inl u.2.2.2.2.2.2.1)), (k46, .inl (cI, 40, .inl u.2.2.2.2.2.2.2.1)), (k47, .inl (cI, 40, .inl u.2.2.2.2.2.2.2.2.1)), (k48, .inl (cI, 40, .inl u.2.2.2.2.2.2.2.2.2.1)), (k50, .inl (cI, 36, .inl u.2.2.2.2.2.2.2.2.2.2))] t) (va_A [(k, .inr (9, [.ref k0, .ref k1, .ref k2, .ref k3, .ref k4, .ref k5, .int c6, .int c7, .int c8])), (k0, .inl (cI, 12, .inl c0)), (k1, .inl (cI, 40, .inl c1)), (k4, .inr (8, [.ref k40, .ref k41, .ref k42, .ref k43, .ref k44, .ref k45, .ref k46, .ref k47, .ref k48, .int c49])), (k5, .inr (3, [.ref k50, .int c51])), (k40, .inl (cI, 60, .inl c40)), (k41, .inl (cI, 60, .inl c41)), (k42, .inl (cI, 60, .inl c42)), (k43, .inl (cI, 60, .inl c43)), (k44, .inl (cI, 60, .inl c44)), (k45, .inl (cI, 60, .inl c45)), (k46, .inl (cI, 40, .inl c46)), (k47, .inl (cI, 40, .inl c47)), (k48, .inl (cI, 40, .inl c48)), (k50, .inl (cI, 36, .inl c50))] sz)) 0 0 (va_A [(k, .inr (9, [.ref k0, .ref k1, .ref k2, .ref k3, .ref k4, .ref k5, .int c6, .int c7, .int c8])), (k0, .inl (cI, 12, .inl c0)), (k1, .inl (cI, 40, .inl c1)), (k4, .inr (8, [.ref k40, .ref k41, .ref k42, .ref k43, .ref k44, .ref k45, .ref k46, .ref k47, .ref k48, .int c49])), (k5, .inr (3, [.ref k50, .int c51])), (k40, .inl (cI, 60, .inl c40)), (k41, .inl (cI, 60, .inl c41)), (k42, .inl (cI, 60, .inl c42)), (k43, .inl (cI, 60, .inl c43)), (k44, .inl (cI, 60, .inl c44)), (k45, .inl (cI, 60, .inl c45)), (k46, .inl (cI, 40, .inl c46)), (k47, .inl (cI, 40, .inl c47)), (k48, .inl (cI, 40, .inl c48)), (k50, .inl (cI, 36, .inl c50))] sz) := by
  refine kMetVX (own := RX9) (by decide +kernel) rfl (Nat.le_of_ble_eq_true rfl) ?_
  intro p e s m args below meth c hx hb hT hown hname hml A Q hK hP hD hS hA hN hXS hRet ls hl
  have hl : lv_has ls 4 [(0, .ref k), (1, .int a0), (2, .int a1)] := hl
  have lo_a0 := k_lo a0
  have hi_a0 := k_hi a0
  have lo_a1 := k_lo a1
  have hi_a1 := k_hi a1
  have lo_c6 := k_lo c6
  have hi_c6 := k_hi c6
  have lo_c7 := k_lo c7
  have hi_c7 := k_hi c7
  have lo_c8 := k_lo c8
  have hi_c8 := k_hi c8
  have lo_c49 := k_lo c49
  have hi_c49 := k_hi c49
  have lo_c51 := k_lo c51
  have hi_c51 := k_hi c51
  have pre0 : WR c0 c1 c2 c3 c40 c41 c42 c43 c44 c45 c46 c47 c48 c49 c50 c51 c6 c7 c8 gx := pre0
  have b_1 : 0 ≤ c49.toInt ∧ c49.toInt ≤ 60 := WKR.n0 (WR.kw pre0)
  have t_2 : c49.toInt = (gx 1).toInt := WKR.nt (WR.kw pre0)
  have b_3 : 0 ≤ c51.toInt ∧ c51.toInt ≤ 4 := ((WR.kp pre0)).2.1
  have t_4 : c51.toInt = (gx 2).toInt := PTR.nt (WR.kp pre0)
  have t_5 : c8.toInt = (gx 0).toInt := by rw [WR.dd pre0]
  have pre1 : SB gx := pre1
  have pre2 : a1 = pW gx a0 0 := pre2
  have t_6 : a1.toInt = (pW gx a0 0).toInt := by rw [pre2]
  have b_7 : 0 ≤ a1.toInt ∧ a1.toInt ≤ 39 := by rw [pre2]; exact SB.p0 pre1 (by omega) (by omega)
  refine lv_aload_n hx hb dX9_dig_0 rfl (lv_at hl 0 rfl) ?_
  refine va_get (D := D) (ci := 9) (v := .ref k5) (C := RX9) (T := TX9) (N := 9) hx hb hT giX9 hown hK hP 0 rfl rfl 5 (by decide +kernel) (hT (Cond.fieldLink RX9 34 "DesertWire$World" "parties" "LDesertWire$Parties;") mw_100) (fun _ h9 => h9) rfl dX9_dig_1 ?_
  refine lv_iload_n hx hb dX9_dig_4 rfl (lv_at hl 1 rfl) ?_
  refine lv_bipush (v := 7) hx hb dX9_dig_5 (by decide +kernel) ?_
  refine lv_aload_n hx hb dX9_dig_7 rfl (lv_at hl 0 rfl) ?_
  refine va_get (D := D) (ci := 9) (v := .ref k5) (C := RX9) (T := TX9) (N := 9) hx hb hT giX9 hown hK hP 0 rfl rfl 5 (by decide +kernel) (hT (Cond.fieldLink RX9 34 "DesertWire$World" "parties" "LDesertWire$Parties;") mw_100) (fun _ h9 => h9) rfl dX9_dig_8 ?_
  refine lv_iload_n hx hb dX9_dig_11 rfl (lv_at hl 1 rfl) ?_
  refine lv_iconst (v := 2) hx hb dX9_dig_12 (by decide +kernel) ?_
  refine kJi (wr := [(k, .inr (9, [.ref k0, .ref k1, .ref k2, .ref k3, .ref k4, .ref k5, .int c6, .int c7, .int c8])), (k0, .inl (cI, 12, .inl c0)), (k1, .inl (cI, 40, .inl c1)), (k4, .inr (8, [.ref k40, .ref k41, .ref k42, .ref k43, .ref k44, .ref k45, .ref k46, .ref k47, .ref k48, .int c49])), (k40, .inl (cI, 60, .inl c40)), (k41, .inl (cI, 60, .inl c41)), (k42, .inl (cI, 60, .inl c42)), (k43, .inl (cI, 60, .inl c43)), (k44, .inl (cI, 60, .inl c44)), (k45, .inl (cI, 60, .inl c45)), (k46, .inl (cI, 40, .inl c46)), (k47, .inl (cI, 40, .inl c47)), (k48, .inl (cI, 40, .inl c48))]) (va_runV (As := [.int a0, .int 2]) (rest := [.int 7, .int a0, .ref k5]) ⟨hx, hb, hml, hown, hT⟩ (c_X3_getD2 l D cI aK aV k5 k50 s.heap.size c51 c50 gx a0 2 (WR.kp pre0) (by first | omega | (simp only [zl_2]; first | done | omega) | decide | assumption | rfl) (by first | omega | (simp only [zl_2]; first | done | omega) | decide | assumption | rfl) (by first | omega | (simp only [zl_2]; first | done | omega) | decide | assumption | rfl)) (cwV 2 hT (gV_in mw_726 mw_978 mw_724 mw_725 mw_4) rfl rfl rfl (by decide +kernel) ⟨Nat.le_of_ble_eq_true rfl, Nat.le_of_ble_eq_true rfl⟩) (kRecvX (q0 := 4) (ci := 3) hK hP hD hN hXS hS hA rfl rfl [4, 14] rfl (by decide +kernel)) rfl rfl hl.1 rfl (lv_room (Nat.le_of_ble_eq_true rfl)) dX9_dig_13 ⟨Nat.le_of_ble_eq_true rfl, Nat.le_of_ble_eq_true rfl⟩) hP hD hS hA [4, 14] [0, 1, 2, 3, 5, 6, 7, 8, 9, 10, 11, 12, 13] rfl rfl (by decide +kernel) (by decide +kernel) ?_
  clear hP hD hS
  intro r_8 u_10 H locs w_9 hP hD hS
  replace hP : va_P D vwCl [(k, .inr (9, [.ref k0, .ref k1, .ref k2, .ref k3, .ref k4, .ref k5, .int c6, .int c7, .int c8])), (k0, .inl (cI, 12, .inl c0)), (k1, .inl (cI, 40, .inl c1)), (k4, .inr (8, [.ref k40, .ref k41, .ref k42, .ref k43, .ref k44, .ref k45, .ref k46, .ref k47, .ref k48, .int c49])), (k40, .inl (cI, 60, .inl c40)), (k41, .inl (cI, 60, .inl c41)), (k42, .inl (cI, 60, .inl c42)), (k43, .inl (cI, 60, .inl c43)), (k44, .inl (cI, 60, .inl c44)), (k45, .inl (cI, 60, .inl c45)), (k46, .inl (cI, 40, .inl c46)), (k47, .inl (cI, 40, .inl c47)), (k48, .inl (cI, 40, .inl c48)), (k5, .inr (3, [.ref k50, .int c51])), (k50, .inl (cI, 36, .inl c50))] H := hP
  replace hD : va_D A [(k, .inr (9, [.ref k0, .ref k1, .ref k2, .ref k3, .ref k4, .ref k5, .int c6, .int c7, .int c8])), (k0, .inl (cI, 12, .inl c0)), (k1, .inl (cI, 40, .inl c1)), (k4, .inr (8, [.ref k40, .ref k41, .ref k42, .ref k43, .ref k44, .ref k45, .ref k46, .ref k47, .ref k48, .int c49])), (k40, .inl (cI, 60, .inl c40)), (k41, .inl (cI, 60, .inl c41)), (k42, .inl (cI, 60, .inl c42)), (k43, .inl (cI, 60, .inl c43)), (k44, .inl (cI, 60, .inl c44)), (k45, .inl (cI, 60, .inl c45)), (k46, .inl (cI, 40, .inl c46)), (k47, .inl (cI, 40, .inl c47)), (k48, .inl (cI, 40, .inl c48)), (k5, .inr (3, [.ref k50, .int c51])), (k50, .inl (cI, 36, .inl c50))] := hD
  have h_11 := w_9
  have h_11 : r_8 = pW gx a0 2 := h_11
  have t_12 : r_8.toInt = (pW gx a0 2).toInt := by rw [h_11]
  have b_13 : 0 ≤ r_8.toInt ∧ r_8.toInt ≤ 50 := by rw [h_11]; exact SB.p2 pre1 (by omega) (by omega)
  have lo_r_8 := k_lo r_8
  have hi_r_8 := k_hi r_8
  refine kJv (wr := [(k, .inr (9, [.ref k0, .ref k1, .ref k2, .ref k3, .ref k4, .ref k5, .int c6, .int c7, .int c8])), (k0, .inl (cI, 12, .inl c0)), (k1, .inl (cI, 40, .inl c1)), (k4, .inr (8, [.ref k40, .ref k41, .ref k42, .ref k43, .ref k44, .ref k45, .ref k46, .ref k47, .ref k48, .int c49])), (k40, .inl (cI, 60, .inl c40)), (k41, .inl (cI, 60, .inl c41)), (k42, .inl (cI, 60, .inl c42)), (k43, .inl (cI, 60, .inl c43)), (k44, .inl (cI, 60, .inl c44)), (k45, .inl (cI, 60, .inl c45)), (k46, .inl (cI, 40, .inl c46)), (k47, .inl (cI, 40, .inl c47)), (k48, .inl (cI, 40, .inl c48))]) (va_runV (As := [.int a0, .int 7, .int r_8]) (rest := []) ⟨hx, hb, hml, hown, hT⟩ (c_X3_moreD7 l D cI aK aV k5 k50 H.size c51 c50 gx a0 7 r_8 (WR.kp pre0) (by first | omega | (simp only [zl_7]; first | done | omega) | decide | assumption | rfl) (by first | omega | (simp only [zl_7]; first | done | omega) | decide | assumption | rfl) (by first | omega | (simp only [zl_7]; first | done | omega) | decide | assumption | rfl)) (cwV 3 hT (gV_in mw_751 mw_982 mw_749 mw_750 mw_4) rfl rfl rfl (by decide +kernel) ⟨Nat.le_of_ble_eq_true rfl, Nat.le_of_ble_eq_true rfl⟩) (kRecvX (q0 := 13) (ci := 3) hK hP hD hN hXS hS hA rfl rfl [13, 14] rfl (by decide +kernel)) rfl rfl hl.1 rfl (lv_room (Nat.le_of_ble_eq_true rfl)) dX9_dig_16 ⟨Nat.le_of_ble_eq_true rfl, Nat.le_of_ble_eq_true rfl⟩) hP hD hS hA [13, 14] [0, 1, 2, 3, 4, 5, 6, 7, 8, 9, 10, 11, 12] rfl rfl (by decide +kernel) (by decide +kernel) ?_
  clear hP hD hS
  intro sc0_16 H locs w_15 hP hD hS
  replace hP : va_P D vwCl [(k, .inr (9, [.ref k0, .ref k1, .ref k2, .ref k3, .ref k4, .ref k5, .int c6, .int c7, .int c8])), (k0, .inl (cI, 12, .inl c0)), (k1, .inl (cI, 40, .inl c1)), (k4, .inr (8, [.ref k40, .ref k41, .ref k42, .ref k43, .ref k44, .ref k45, .ref k46, .ref k47, .ref k48, .int c49])), (k40, .inl (cI, 60, .inl c40)), (k41, .inl (cI, 60, .inl c41)), (k42, .inl (cI, 60, .inl c42)), (k43, .inl (cI, 60, .inl c43)), (k44, .inl (cI, 60, .inl c44)), (k45, .inl (cI, 60, .inl c45)), (k46, .inl (cI, 40, .inl c46)), (k47, .inl (cI, 40, .inl c47)), (k48, .inl (cI, 40, .inl c48)), (k5, .inr (3, [.ref k50, .int c51])), (k50, .inl (cI, 36, .inl sc0_16))] H := hP
  replace hD : va_D A [(k, .inr (9, [.ref k0, .ref k1, .ref k2, .ref k3, .ref k4, .ref k5, .int c6, .int c7, .int c8])), (k0, .inl (cI, 12, .inl c0)), (k1, .inl (cI, 40, .inl c1)), (k4, .inr (8, [.ref k40, .ref k41, .ref k42, .ref k43, .ref k44, .ref k45, .ref k46, .ref k47, .ref k48, .int c49])), (k40, .inl (cI, 60, .inl c40)), (k41, .inl (cI, 60, .inl c41)), (k42, .inl (cI, 60, .inl c42)), (k43, .inl (cI, 60, .inl c43)), (k44, .inl (cI, 60, .inl c44)), (k45, .inl (cI, 60, .inl c45)), (k46, .inl (cI, 40, .inl c46)), (k47, .inl (cI, 40, .inl c47)), (k48, .inl (cI, 40, .inl c48)), (k5, .inr (3, [.ref k50, .int c51])), (k50, .inl (cI, 36, .inl sc0_16))] := hD
  have h_17 := w_15
  try simp only [zl_7] at h_17
  have h_17 : PTR sc0_16 c51 (upd gx (459 + 9 * a0.toInt.toNat + 7) (pW gx a0 7 + r_8)) := h_17
  have h_17 : PTR sc0_16 c51 (upd gx (459 + 9 * a0.toInt.toNat + 7) (pW gx a0 7 + r_8)) := h_17
  obtain ⟨gg_18, egg_18⟩ : ∃ g_ : Nat → Int32, g_ = (upd gx (459 + 9 * a0.toInt.toNat + 7) (pW gx a0 7 + r_8)) := ⟨_, rfl⟩
  rw [← egg_18] at h_17
  have hW_19 : WR c0 c1 c2 c3 c40 c41 c42 c43 c44 c45 c46 c47 c48 c49 sc0_16 c51 c6 c7 c8 gg_18 := WR.ofP pre0 h_17 (by rw [egg_18]; exact OFP.up (by omega))
  have hs_20 : SB gg_18 := by rw [egg_18]; exact SB.fr pre1 (by omega) (by omega)
  refine lv_aload_n hx hb dX9_dig_19 rfl (lv_at hl 0 rfl) ?_
  refine va_get (D := D) (ci := 9) (v := .ref k5) (C := RX9) (T := TX9) (N := 9) hx hb hT giX9 hown hK hP 0 rfl rfl 5 (by decide +kernel) (hT (Cond.fieldLink RX9 34 "DesertWire$World" "parties" "LDesertWire$Parties;") mw_100) (fun _ h9 => h9) rfl dX9_dig_20 ?_
  refine lv_iload_n hx hb dX9_dig_23 rfl (lv_at hl 1 rfl) ?_
  refine lv_bipush (v := 7) hx hb dX9_dig_24 (by decide +kernel) ?_
  refine kJi (wr := [(k, .inr (9, [.ref k0, .ref k1, .ref k2, .ref k3, .ref k4, .ref k5, .int c6, .int c7, .int c8])), (k0, .inl (cI, 12, .inl c0)), (k1, .inl (cI, 40, .inl c1)), (k4, .inr (8, [.ref k40, .ref k41, .ref k42, .ref k43, .ref k44, .ref k45, .ref k46, .ref k47, .ref k48, .int c49])), (k40, .inl (cI, 60, .inl c40)), (k41, .inl (cI, 60, .inl c41)), (k42, .inl (cI, 60, .inl c42)), (k43, .inl (cI, 60, .inl c43)), (k44, .inl (cI, 60, .inl c44)), (k45, .inl (cI, 60, .inl c45)), (k46, .inl (cI, 40, .inl c46)), (k47, .inl (cI, 40, .inl c47)), (k48, .inl (cI, 40, .inl c48))]) (va_runV (As := [.int a0, .int 7]) (rest := []) ⟨hx, hb, hml, hown, hT⟩ (c_X3_getD7 l D cI aK aV k5 k50 H.size c51 sc0_16 gg_18 a0 7 (WR.kp hW_19) (by first | omega | (simp only [zl_7]; first | done | omega) | decide | assumption | rfl) (by first | omega | (simp only [zl_7]; first | done | omega) | decide | assumption | rfl) (by first | omega | (simp only [zl_7]; first | done | omega) | decide | assumption | rfl)) (cwV 2 hT (gV_in mw_726 mw_978 mw_724 mw_725 mw_4) rfl rfl rfl (by decide +kernel) ⟨Nat.le_of_ble_eq_true rfl, Nat.le_of_ble_eq_true rfl⟩) (kRecvX (q0 := 13) (ci := 3) hK hP hD hN hXS hS hA rfl rfl [13, 14] rfl (by decide +kernel)) rfl rfl hl.1 rfl (lv_room (Nat.le_of_ble_eq_true rfl)) dX9_dig_26 ⟨Nat.le_of_ble_eq_true rfl, Nat.le_of_ble_eq_true rfl⟩) hP hD hS hA [13, 14] [0, 1, 2, 3, 4, 5, 6, 7, 8, 9, 10, 11, 12] rfl rfl (by decide +kernel) (by decide +kernel) ?_
  clear hP hD hS
  intro r_21 u_23 H locs w_22 hP hD hS
  replace hP : va_P D vwCl [(k, .inr (9, [.ref k0, .ref k1, .ref k2, .ref k3, .ref k4, .ref k5, .int c6, .int c7, .int c8])), (k0, .inl (cI, 12, .inl c0)), (k1, .inl (cI, 40, .inl c1)), (k4, .inr (8, [.ref k40, .ref k41, .ref k42, .ref k43, .ref k44, .ref k45, .ref k46, .ref k47, .ref k48, .int c49])), (k40, .inl (cI, 60, .inl c40)), (k41, .inl (cI, 60, .inl c41)), (k42, .inl (cI, 60, .inl c42)), (k43, .inl (cI, 60, .inl c43)), (k44, .inl (cI, 60, .inl c44)), (k45, .inl (cI, 60, .inl c45)), (k46, .inl (cI, 40, .inl c46)), (k47, .inl (cI, 40, .inl c47)), (k48, .inl (cI, 40, .inl c48)), (k5, .inr (3, [.ref k50, .int c51])), (k50, .inl (cI, 36, .inl sc0_16))] H := hP
  replace hD : va_D A [(k, .inr (9, [.ref k0, .ref k1, .ref k2, .ref k3, .ref k4, .ref k5, .int c6, .int c7, .int c8])), (k0, .inl (cI, 12, .inl c0)), (k1, .inl (cI, 40, .inl c1)), (k4, .inr (8, [.ref k40, .ref k41, .ref k42, .ref k43, .ref k44, .ref k45, .ref k46, .ref k47, .ref k48, .int c49])), (k40, .inl (cI, 60, .inl c40)), (k41, .inl (cI, 60, .inl c41)), (k42, .inl (cI, 60, .inl c42)), (k43, .inl (cI, 60, .inl c43)), (k44, .inl (cI, 60, .inl c44)), (k45, .inl (cI, 60, .inl c45)), (k46, .inl (cI, 40, .inl c46)), (k47, .inl (cI, 40, .inl c47)), (k48, .inl (cI, 40, .inl c48)), (k5, .inr (3, [.ref k50, .int c51])), (k50, .inl (cI, 36, .inl sc0_16))] := hD
  have h_24 := w_22
  have h_24 : r_21 = pW gg_18 a0 7 := h_24
  have t_25 : r_21.toInt = (pW gg_18 a0 7).toInt := by rw [h_24]
  have lo_r_21 := k_lo r_21
  have hi_r_21 := k_hi r_21
  refine lv_aload_n hx hb dX9_dig_29 rfl (lv_at hl 0 rfl) ?_
  refine lv_iload_n hx hb dX9_dig_30 rfl (lv_at hl 2 rfl) ?_
  refine kJi (wr := [(k4, .inr (8, [.ref k40, .ref k41, .ref k42, .ref k43, .ref k44, .ref k45, .ref k46, .ref k47, .ref k48, .int c49])), (k40, .inl (cI, 60, .inl c40)), (k41, .inl (cI, 60, .inl c41)), (k42, .inl (cI, 60, .inl c42)), (k43, .inl (cI, 60, .inl c43)), (k44, .inl (cI, 60, .inl c44)), (k45, .inl (cI, 60, .inl c45)), (k46, .inl (cI, 40, .inl c46)), (k47, .inl (cI, 40, .inl c47)), (k48, .inl (cI, 40, .inl c48)), (k5, .inr (3, [.ref k50, .int c51])), (k50, .inl (cI, 36, .inl sc0_16))]) (va_runV (As := [.int a1]) (rest := [.int r_21]) ⟨hx, hb, hml, hown, hT⟩ (c_X9_effortOfD l D cI aK aV k k0 k1 k2 k3 k4 k5 H.size c6 c7 c8 c0 c1 c2 c3 c40 c41 c42 c43 c44 c45 c46 c47 c48 c49 sc0_16 c51 gg_18 a1 hW_19 hs_20 (by first | omega | decide | assumption | rfl) (by first | omega | decide | assumption | rfl) (by first | omega | decide | assumption | rfl)) (cwV 1 hT (gV_in mw_648 mw_1004 mw_646 mw_647 mw_2) rfl rfl rfl (by decide +kernel) ⟨Nat.le_of_ble_eq_true rfl, Nat.le_of_ble_eq_true rfl⟩) (kRecvX (q0 := 0) (ci := 9) hK hP hD hN hXS hS hA rfl rfl [0, 1, 2] rfl (by decide +kernel)) rfl rfl hl.1 rfl (lv_room (Nat.le_of_ble_eq_true rfl)) dX9_dig_31 ⟨Nat.le_of_ble_eq_true rfl, Nat.le_of_ble_eq_true rfl⟩) hP hD hS hA [0, 1, 2] [3, 4, 5, 6, 7, 8, 9, 10, 11, 12, 13, 14] rfl rfl (by decide +kernel) (by decide +kernel) ?_
  clear hP hD hS
  intro r_26 u_28 H locs w_27 hP hD hS
  replace hP : va_P D vwCl [(k4, .inr (8, [.ref k40, .ref k41, .ref k42, .ref k43, .ref k44, .ref k45, .ref k46, .ref k47, .ref k48, .int c49])), (k40, .inl (cI, 60, .inl c40)), (k41, .inl (cI, 60, .inl c41)), (k42, .inl (cI, 60, .inl c42)), (k43, .inl (cI, 60, .inl c43)), (k44, .inl (cI, 60, .inl c44)), (k45, .inl (cI, 60, .inl c45)), (k46, .inl (cI, 40, .inl c46)), (k47, .inl (cI, 40, .inl c47)), (k48, .inl (cI, 40, .inl c48)), (k5, .inr (3, [.ref k50, .int c51])), (k50, .inl (cI, 36, .inl sc0_16)), (k, .inr (9, [.ref k0, .ref k1, .ref k2, .ref k3, .ref k4, .ref k5, .int c6, .int c7, .int c8])), (k0, .inl (cI, 12, .inl c0)), (k1, .inl (cI, 40, .inl c1))] H := hP
  replace hD : va_D A [(k4, .inr (8, [.ref k40, .ref k41, .ref k42, .ref k43, .ref k44, .ref k45, .ref k46, .ref k47, .ref k48, .int c49])), (k40, .inl (cI, 60, .inl c40)), (k41, .inl (cI, 60, .inl c41)), (k42, .inl (cI, 60, .inl c42)), (k43, .inl (cI, 60, .inl c43)), (k44, .inl (cI, 60, .inl c44)), (k45, .inl (cI, 60, .inl c45)), (k46, .inl (cI, 40, .inl c46)), (k47, .inl (cI, 40, .inl c47)), (k48, .inl (cI, 40, .inl c48)), (k5, .inr (3, [.ref k50, .int c51])), (k50, .inl (cI, 36, .inl sc0_16)), (k, .inr (9, [.ref k0, .ref k1, .ref k2, .ref k3, .ref k4, .ref k5, .int c6, .int c7, .int c8])), (k0, .inl (cI, 12, .inl c0)), (k1, .inl (cI, 40, .inl c1))] := hD
  have h_29 := w_27
  have h_29 : r_26 = efN gg_18 a1.toInt (rnF gg_18) := h_29
  have h_29 : r_26 = efN gg_18 a1.toInt (rnF gg_18) := h_29
  have lo_r_26 := k_lo r_26
  have hi_r_26 := k_hi r_26
  refine b_icmp_lt hx hb rfl rfl (tgt := 41) dX9_dig_34 (by decide +kernel) (fun c_30 => ?_) (fun c_30 => ?_)
  · refine lv_iconst (v := 0) hx hb dX9_dig_41 (by decide +kernel) ?_
    refine lv_istore_n (lv' := [(3, .int 0), (0, .ref k), (1, .int a0), (2, .int a1)]) hx hb dX9_dig_42 rfl hl (by decide +kernel) rfl ?_
    clear hl
    intro ls hl
    refine lv_iload_n hx hb dX9_dig_43 rfl (lv_at hl 0 rfl) ?_
    refine b_if_eq hx hb zl_0 (tgt := 107) dX9_dig_44 (by decide +kernel) (fun c_31 => ?_) (fun c_31 => by exfalso; omega)
    exact hRet (c49, c40, c41, c42, c43, c44, c45, c46, c47, c48, sc0_16) [12, 13, 14, 0, 10, 1, 2, 3, 4, 5, 6, 7, 8, 9, 11] (WR.gt hW_19 (dig_n (du := r_21) (ef := r_26)  (n := c49) pre2 (wrkD_in h_11 egg_18) h_24 h_29 rfl (WKR.qn (WR.kw hW_19)) (by omega))) hP hD (by decide +kernel) rfl hS dX9_dig_107
  · refine lv_iconst (v := 1) hx hb dX9_dig_37 (by decide +kernel) ?_
    refine lv_goto (tgt := 42) hx hb dX9_dig_38 (by decide +kernel) ?_
    refine lv_istore_n (lv' := [(3, .int 1), (0, .ref k), (1, .int a0), (2, .int a1)]) hx hb dX9_dig_42 rfl hl (by decide +kernel) rfl ?_
    clear hl
    intro ls hl
    refine lv_iload_n hx hb dX9_dig_43 rfl (lv_at hl 0 rfl) ?_
    refine b_if_eq hx hb zl_1 (tgt := 107) dX9_dig_44 (by decide +kernel) (fun c_32 => by exfalso; omega) (fun c_32 => ?_)
    refine lv_aload_n hx hb dX9_dig_47 rfl (lv_at hl 1 rfl) ?_
    refine va_get (D := D) (ci := 9) (v := .ref k5) (C := RX9) (T := TX9) (N := 9) hx hb hT giX9 hown hK hP 12 rfl rfl 5 (by decide +kernel) (hT (Cond.fieldLink RX9 34 "DesertWire$World" "parties" "LDesertWire$Parties;") mw_100) (fun _ h9 => h9) rfl dX9_dig_48 ?_
    refine lv_iload_n hx hb dX9_dig_51 rfl (lv_at hl 2 rfl) ?_
    refine lv_iconst (v := 4) hx hb dX9_dig_52 (by decide +kernel) ?_
    refine kJi (wr := [(k4, .inr (8, [.ref k40, .ref k41, .ref k42, .ref k43, .ref k44, .ref k45, .ref k46, .ref k47, .ref k48, .int c49])), (k40, .inl (cI, 60, .inl c40)), (k41, .inl (cI, 60, .inl c41)), (k42, .inl (cI, 60, .inl c42)), (k43, .inl (cI, 60, .inl c43)), (k44, .inl (cI, 60, .inl c44)), (k45, .inl (cI, 60, .inl c45)), (k46, .inl (cI, 40, .inl c46)), (k47, .inl (cI, 40, .inl c47)), (k48, .inl (cI, 40, .inl c48)), (k, .inr (9, [.ref k0, .ref k1, .ref k2, .ref k3, .ref k4, .ref k5, .int c6, .int c7, .int c8])), (k0, .inl (cI, 12, .inl c0)), (k1, .inl (cI, 40, .inl c1))]) (va_runV (As := [.int a0, .int 4]) (rest := []) ⟨hx, hb, hml, hown, hT⟩ (c_X3_getD4 l D cI aK aV k5 k50 H.size c51 sc0_16 gg_18 a0 4 (WR.kp hW_19) (by first | omega | (simp only [zl_4]; first | done | omega) | decide | assumption | rfl) (by first | omega | (simp only [zl_4]; first | done | omega) | decide | assumption | rfl) (by first | omega | (simp only [zl_4]; first | done | omega) | decide | assumption | rfl)) (cwV 2 hT (gV_in mw_726 mw_978 mw_724 mw_725 mw_4) rfl rfl rfl (by decide +kernel) ⟨Nat.le_of_ble_eq_true rfl, Nat.le_of_ble_eq_true rfl⟩) (kRecvX (q0 := 10) (ci := 3) hK hP hD hN hXS hS hA rfl rfl [10, 11] rfl (by decide +kernel)) rfl rfl hl.1 rfl (lv_room (Nat.le_of_ble_eq_true rfl)) dX9_dig_53 ⟨Nat.le_of_ble_eq_true rfl, Nat.le_of_ble_eq_true rfl⟩) hP hD hS hA [10, 11] [0, 1, 2, 3, 4, 5, 6, 7, 8, 9, 12, 13, 14] rfl rfl (by decide +kernel) (by decide +kernel) ?_
    clear hP hD hS
    intro r_33 u_35 H locs w_34 hP hD hS
    replace hP : va_P D vwCl [(k4, .inr (8, [.ref k40, .ref k41, .ref k42, .ref k43, .ref k44, .ref k45, .ref k46, .ref k47, .ref k48, .int c49])), (k40, .inl (cI, 60, .inl c40)), (k41, .inl (cI, 60, .inl c41)), (k42, .inl (cI, 60, .inl c42)), (k43, .inl (cI, 60, .inl c43)), (k44, .inl (cI, 60, .inl c44)), (k45, .inl (cI, 60, .inl c45)), (k46, .inl (cI, 40, .inl c46)), (k47, .inl (cI, 40, .inl c47)), (k48, .inl (cI, 40, .inl c48)), (k, .inr (9, [.ref k0, .ref k1, .ref k2, .ref k3, .ref k4, .ref k5, .int c6, .int c7, .int c8])), (k0, .inl (cI, 12, .inl c0)), (k1, .inl (cI, 40, .inl c1)), (k5, .inr (3, [.ref k50, .int c51])), (k50, .inl (cI, 36, .inl sc0_16))] H := hP
    replace hD : va_D A [(k4, .inr (8, [.ref k40, .ref k41, .ref k42, .ref k43, .ref k44, .ref k45, .ref k46, .ref k47, .ref k48, .int c49])), (k40, .inl (cI, 60, .inl c40)), (k41, .inl (cI, 60, .inl c41)), (k42, .inl (cI, 60, .inl c42)), (k43, .inl (cI, 60, .inl c43)), (k44, .inl (cI, 60, .inl c44)), (k45, .inl (cI, 60, .inl c45)), (k46, .inl (cI, 40, .inl c46)), (k47, .inl (cI, 40, .inl c47)), (k48, .inl (cI, 40, .inl c48)), (k, .inr (9, [.ref k0, .ref k1, .ref k2, .ref k3, .ref k4, .ref k5, .int c6, .int c7, .int c8])), (k0, .inl (cI, 12, .inl c0)), (k1, .inl (cI, 40, .inl c1)), (k5, .inr (3, [.ref k50, .int c51])), (k50, .inl (cI, 36, .inl sc0_16))] := hD
    have h_36 := w_34
    have h_36 : r_33 = pW gg_18 a0 4 := h_36
    have t_37 : r_33.toInt = (pW gg_18 a0 4).toInt := by rw [h_36]
    have lo_r_33 := k_lo r_33
    have hi_r_33 := k_hi r_33
    refine b_if_le hx hb rfl (tgt := 107) dX9_dig_56 (by decide +kernel) (fun c_38 => ?_) (fun c_38 => ?_)
    · exact hRet (c49, c40, c41, c42, c43, c44, c45, c46, c47, c48, sc0_16) [10, 11, 12, 0, 13, 1, 2, 3, 4, 5, 6, 7, 8, 9, 14] (WR.gt hW_19 (dig_n (du := r_21) (ef := r_26) (po := r_33) (n := c49) pre2 (wrkD_in h_11 egg_18) h_24 h_29 h_36 (WKR.qn (WR.kw hW_19)) (by omega))) hP hD (by decide +kernel) rfl hS dX9_dig_107
    · refine lv_aload_n hx hb dX9_dig_59 rfl (lv_at hl 1 rfl) ?_
      refine va_get (D := D) (ci := 9) (v := .ref k4) (C := RX9) (T := TX9) (N := 9) hx hb hT giX9 hown hK hP 10 rfl rfl 4 (by decide +kernel) (hT (Cond.fieldLink RX9 27 "DesertWire$World" "works" "LDesertWire$Works;") mw_97) (fun _ h9 => h9) rfl dX9_dig_60 ?_
      refine kJi (wr := [(k40, .inl (cI, 60, .inl c40)), (k41, .inl (cI, 60, .inl c41)), (k42, .inl (cI, 60, .inl c42)), (k43, .inl (cI, 60, .inl c43)), (k44, .inl (cI, 60, .inl c44)), (k45, .inl (cI, 60, .inl c45)), (k46, .inl (cI, 40, .inl c46)), (k47, .inl (cI, 40, .inl c47)), (k48, .inl (cI, 40, .inl c48)), (k, .inr (9, [.ref k0, .ref k1, .ref k2, .ref k3, .ref k4, .ref k5, .int c6, .int c7, .int c8])), (k0, .inl (cI, 12, .inl c0)), (k1, .inl (cI, 40, .inl c1)), (k5, .inr (3, [.ref k50, .int c51])), (k50, .inl (cI, 36, .inl sc0_16))]) (va_runV (As := []) (rest := []) ⟨hx, hb, hml, hown, hT⟩ (c_X8_hasRoomG l D cI aK aV k4 k40 k41 k42 k43 k44 k45 k46 k47 k48 H.size c49) (cwV 0 hT (gV_in mw_354 mw_1005 mw_352 mw_353 mw_3) rfl rfl rfl (by decide +kernel) ⟨Nat.le_of_ble_eq_true rfl, Nat.le_of_ble_eq_true rfl⟩) (kRecvX (q0 := 0) (ci := 8) hK hP hD hN hXS hS hA rfl rfl [0] rfl (by decide +kernel)) rfl rfl hl.1 rfl (lv_room (Nat.le_of_ble_eq_true rfl)) dX9_dig_63 ⟨Nat.le_of_ble_eq_true rfl, Nat.le_of_ble_eq_true rfl⟩) hP hD hS hA [0] [1, 2, 3, 4, 5, 6, 7, 8, 9, 10, 11, 12, 13, 14] rfl rfl (by decide +kernel) (by decide +kernel) ?_
      clear hP hD hS
      intro r_39 u_41 H locs w_40 hP hD hS
      replace hP : va_P D vwCl [(k40, .inl (cI, 60, .inl c40)), (k41, .inl (cI, 60, .inl c41)), (k42, .inl (cI, 60, .inl c42)), (k43, .inl (cI, 60, .inl c43)), (k44, .inl (cI, 60, .inl c44)), (k45, .inl (cI, 60, .inl c45)), (k46, .inl (cI, 40, .inl c46)), (k47, .inl (cI, 40, .inl c47)), (k48, .inl (cI, 40, .inl c48)), (k, .inr (9, [.ref k0, .ref k1, .ref k2, .ref k3, .ref k4, .ref k5, .int c6, .int c7, .int c8])), (k0, .inl (cI, 12, .inl c0)), (k1, .inl (cI, 40, .inl c1)), (k5, .inr (3, [.ref k50, .int c51])), (k50, .inl (cI, 36, .inl sc0_16)), (k4, .inr (8, [.ref k40, .ref k41, .ref k42, .ref k43, .ref k44, .ref k45, .ref k46, .ref k47, .ref k48, .int c49]))] H := hP
      replace hD : va_D A [(k40, .inl (cI, 60, .inl c40)), (k41, .inl (cI, 60, .inl c41)), (k42, .inl (cI, 60, .inl c42)), (k43, .inl (cI, 60, .inl c43)), (k44, .inl (cI, 60, .inl c44)), (k45, .inl (cI, 60, .inl c45)), (k46, .inl (cI, 40, .inl c46)), (k47, .inl (cI, 40, .inl c47)), (k48, .inl (cI, 40, .inl c48)), (k, .inr (9, [.ref k0, .ref k1, .ref k2, .ref k3, .ref k4, .ref k5, .int c6, .int c7, .int c8])), (k0, .inl (cI, 12, .inl c0)), (k1, .inl (cI, 40, .inl c1)), (k5, .inr (3, [.ref k50, .int c51])), (k50, .inl (cI, 36, .inl sc0_16)), (k4, .inr (8, [.ref k40, .ref k41, .ref k42, .ref k43, .ref k44, .ref k45, .ref k46, .ref k47, .ref k48, .int c49]))] := hD
      rcases w_40 with ⟨hr_39, h_42, h_43⟩ | ⟨hr_39, h_44⟩
      · have h_42 : 0 ≤ c49.toInt := h_42
        have h_43 : c49.toInt < 60 := h_43
        obtain rfl : r_39 = 1 := hr_39.trans (by decide +kernel)
        refine b_if_eq hx hb zl_1 (tgt := 107) dX9_dig_66 (by decide +kernel) (fun c_45 => by exfalso; omega) (fun c_45 => ?_)
        refine lv_aload_n hx hb dX9_dig_69 rfl (lv_at hl 1 rfl) ?_
        refine va_get (D := D) (ci := 9) (v := .ref k4) (C := RX9) (T := TX9) (N := 9) hx hb hT giX9 hown hK hP 9 rfl rfl 4 (by decide +kernel) (hT (Cond.fieldLink RX9 27 "DesertWire$World" "works" "LDesertWire$Works;") mw_97) (fun _ h9 => h9) rfl dX9_dig_70 ?_
        refine lv_iconst (v := 1) hx hb dX9_dig_73 (by decide +kernel) ?_
        refine lv_iload_n hx hb dX9_dig_74 rfl (lv_at hl 3 rfl) ?_
        refine lv_iconst (v := 1) hx hb dX9_dig_75 (by decide +kernel) ?_
        refine lv_aload_n hx hb dX9_dig_76 rfl (lv_at hl 1 rfl) ?_
        refine va_get (D := D) (ci := 9) (v := .int c8) (C := RX9) (T := TX9) (N := 9) hx hb hT giX9 hown hK hP 9 rfl rfl 8 (by decide +kernel) (hT (Cond.fieldLink RX9 45 "DesertWire$World" "day" "I") mw_108) (fun _ h9 => h9) rfl dX9_dig_77 ?_
        refine lv_iconst (v := 1) hx hb dX9_dig_80 (by decide +kernel) ?_
        refine lv_iadd hx hb dX9_dig_81 ?_
        refine lv_topi (fun v_46 ev_46 => ?_)
        have tv_46 : v_46.toInt = c8.toInt + 1 := by rw [ev_46]; exact k_addv rfl zl_1 (by omega) (by omega)
        refine kJi (wr := [(k, .inr (9, [.ref k0, .ref k1, .ref k2, .ref k3, .ref k4, .ref k5, .int c6, .int c7, .int c8])), (k0, .inl (cI, 12, .inl c0)), (k1, .inl (cI, 40, .inl c1)), (k5, .inr (3, [.ref k50, .int c51])), (k50, .inl (cI, 36, .inl sc0_16))]) (va_runV (As := [.int 1, .int a1, .int 1, .int v_46]) (rest := []) ⟨hx, hb, hml, hown, hT⟩ (c_X8_addD l D cI aK aV k4 k40 k41 k42 k43 k44 k45 k46 k47 k48 H.size c49 c40 c41 c42 c43 c44 c45 c46 c47 c48 gg_18 1 a1 1 v_46 (WR.kw hW_19) (by first | omega | (simp only [zl_1]; first | done | omega) | decide | assumption | rfl) (by first | omega | (simp only [zl_1]; first | done | omega) | decide | assumption | rfl) (by first | omega | (simp only [zl_1]; first | done | omega) | decide | assumption | rfl) (by first | omega | (simp only [zl_1]; first | done | omega) | decide | assumption | rfl) (by first | omega | (simp only [zl_1]; first | done | omega) | decide | assumption | rfl)) (cwV 4 hT (gV_in mw_358 mw_1006 mw_356 mw_357 mw_3) rfl rfl rfl (by decide +kernel) ⟨Nat.le_of_ble_eq_true rfl, Nat.le_of_ble_eq_true rfl⟩) (kRecvX (q0 := 14) (ci := 8) hK hP hD hN hXS hS hA rfl rfl [14, 0, 1, 2, 3, 4, 5, 6, 7, 8] rfl (by decide +kernel)) rfl rfl hl.1 rfl (lv_room (Nat.le_of_ble_eq_true rfl)) dX9_dig_82 ⟨Nat.le_of_ble_eq_true rfl, Nat.le_of_ble_eq_true rfl⟩) hP hD hS hA [14, 0, 1, 2, 3, 4, 5, 6, 7, 8] [9, 10, 11, 12, 13] rfl rfl (by decide +kernel) (by decide +kernel) ?_
        clear hP hD hS
        intro r_47 u_59 H locs w_48 hP hD hS
        obtain ⟨sc9_49, sc0_50, sc1_51, sc2_52, sc3_53, sc4_54, sc5_55, sc6_56, sc7_57, sc8_58⟩ := u_59
        replace hP : va_P D vwCl [(k, .inr (9, [.ref k0, .ref k1, .ref k2, .ref k3, .ref k4, .ref k5, .int c6, .int c7, .int c8])), (k0, .inl (cI, 12, .inl c0)), (k1, .inl (cI, 40, .inl c1)), (k5, .inr (3, [.ref k50, .int c51])), (k50, .inl (cI, 36, .inl sc0_16)), (k4, .inr (8, [.ref k40, .ref k41, .ref k42, .ref k43, .ref k44, .ref k45, .ref k46, .ref k47, .ref k48, .int sc9_49])), (k40, .inl (cI, 60, .inl sc0_50)), (k41, .inl (cI, 60, .inl sc1_51)), (k42, .inl (cI, 60, .inl sc2_52)), (k43, .inl (cI, 60, .inl sc3_53)), (k44, .inl (cI, 60, .inl sc4_54)), (k45, .inl (cI, 60, .inl sc5_55)), (k46, .inl (cI, 40, .inl sc6_56)), (k47, .inl (cI, 40, .inl sc7_57)), (k48, .inl (cI, 40, .inl sc8_58))] H := hP
        replace hD : va_D A [(k, .inr (9, [.ref k0, .ref k1, .ref k2, .ref k3, .ref k4, .ref k5, .int c6, .int c7, .int c8])), (k0, .inl (cI, 12, .inl c0)), (k1, .inl (cI, 40, .inl c1)), (k5, .inr (3, [.ref k50, .int c51])), (k50, .inl (cI, 36, .inl sc0_16)), (k4, .inr (8, [.ref k40, .ref k41, .ref k42, .ref k43, .ref k44, .ref k45, .ref k46, .ref k47, .ref k48, .int sc9_49])), (k40, .inl (cI, 60, .inl sc0_50)), (k41, .inl (cI, 60, .inl sc1_51)), (k42, .inl (cI, 60, .inl sc2_52)), (k43, .inl (cI, 60, .inl sc3_53)), (k44, .inl (cI, 60, .inl sc4_54)), (k45, .inl (cI, 60, .inl sc5_55)), (k46, .inl (cI, 40, .inl sc6_56)), (k47, .inl (cI, 40, .inl sc7_57)), (k48, .inl (cI, 40, .inl sc8_58))] := hD
        have lo_sc9_49 := k_lo sc9_49
        have hi_sc9_49 := k_hi sc9_49
        obtain ⟨h_60, h_61, h_62, h_63⟩ := w_48
        try simp only [zl_1] at h_60
        have h_60 : r_47 = c49 := h_60
        try simp only [zl_1] at h_61
        have h_61 : r_47.toInt = c49.toInt := h_61
        try simp only [zl_1] at h_62
        have h_62 : sc9_49.toInt = c49.toInt + 1 := h_62
        try simp only [zl_1] at h_63
        have h_63 : WKR sc0_50 sc1_51 sc2_52 sc3_53 sc4_54 sc5_55 sc6_56 sc7_57 sc8_58 sc9_49 (comS gg_18 1 a1 1 v_46) := h_63
        obtain ⟨gg_64, egg_64⟩ : ∃ g_ : Nat → Int32, g_ = (comS gg_18 1 a1 1 v_46) := ⟨_, rfl⟩
        rw [← egg_64] at h_63
        have t_66 : c49.toInt = (gg_18 1).toInt := WKR.nt (WR.kw hW_19)
        have hW_65 : WR c0 c1 c2 c3 sc0_50 sc1_51 sc2_52 sc3_53 sc4_54 sc5_55 sc6_56 sc7_57 sc8_58 sc9_49 sc0_16 c51 c6 c7 c8 gg_64 := WR.ofW hW_19 h_63 (by rw [egg_64]; exact OFW.com (by omega))
        have b_67 : 0 ≤ sc9_49.toInt ∧ sc9_49.toInt ≤ 60 := WKR.n0 (WR.kw hW_65)
        have t_68 : sc9_49.toInt = (gg_64 1).toInt := WKR.nt (WR.kw hW_65)
        have lo_r_47 := k_lo r_47
        have hi_r_47 := k_hi r_47
        refine lv_pop hx hb dX9_dig_85 rfl ?_
        refine lv_aload_n hx hb dX9_dig_86 rfl (lv_at hl 1 rfl) ?_
        refine va_get (D := D) (ci := 9) (v := .ref k5) (C := RX9) (T := TX9) (N := 9) hx hb hT giX9 hown hK hP 0 rfl rfl 5 (by decide +kernel) (hT (Cond.fieldLink RX9 34 "DesertWire$World" "parties" "LDesertWire$Parties;") mw_100) (fun _ h9 => h9) rfl dX9_dig_87 ?_
        refine lv_iload_n hx hb dX9_dig_90 rfl (lv_at hl 2 rfl) ?_
        refine lv_iconst (v := 4) hx hb dX9_dig_91 (by decide +kernel) ?_
        refine lv_iconst (v := (-1)) hx hb dX9_dig_92 (by decide +kernel) ?_
        refine kJv (wr := [(k, .inr (9, [.ref k0, .ref k1, .ref k2, .ref k3, .ref k4, .ref k5, .int c6, .int c7, .int c8])), (k0, .inl (cI, 12, .inl c0)), (k1, .inl (cI, 40, .inl c1)), (k4, .inr (8, [.ref k40, .ref k41, .ref k42, .ref k43, .ref k44, .ref k45, .ref k46, .ref k47, .ref k48, .int sc9_49])), (k40, .inl (cI, 60, .inl sc0_50)), (k41, .inl (cI, 60, .inl sc1_51)), (k42, .inl (cI, 60, .inl sc2_52)), (k43, .inl (cI, 60, .inl sc3_53)), (k44, .inl (cI, 60, .inl sc4_54)), (k45, .inl (cI, 60, .inl sc5_55)), (k46, .inl (cI, 40, .inl sc6_56)), (k47, .inl (cI, 40, .inl sc7_57)), (k48, .inl (cI, 40, .inl sc8_58))]) (va_runV (As := [.int a0, .int 4, .int (-1)]) (rest := []) ⟨hx, hb, hml, hown, hT⟩ (c_X3_moreD4 l D cI aK aV k5 k50 H.size c51 sc0_16 gg_64 a0 4 (-1) (WR.kp hW_65) (by first | omega | (simp only [zl_m1, zl_4]; first | done | omega) | decide | assumption | rfl) (by first | omega | (simp only [zl_m1, zl_4]; first | done | omega) | decide | assumption | rfl) (by first | omega | (simp only [zl_m1, zl_4]; first | done | omega) | decide | assumption | rfl)) (cwV 3 hT (gV_in mw_751 mw_982 mw_749 mw_750 mw_4) rfl rfl rfl (by decide +kernel) ⟨Nat.le_of_ble_eq_true rfl, Nat.le_of_ble_eq_true rfl⟩) (kRecvX (q0 := 3) (ci := 3) hK hP hD hN hXS hS hA rfl rfl [3, 4] rfl (by decide +kernel)) rfl rfl hl.1 rfl (lv_room (Nat.le_of_ble_eq_true rfl)) dX9_dig_93 ⟨Nat.le_of_ble_eq_true rfl, Nat.le_of_ble_eq_true rfl⟩) hP hD hS hA [3, 4] [0, 1, 2, 5, 6, 7, 8, 9, 10, 11, 12, 13, 14] rfl rfl (by decide +kernel) (by decide +kernel) ?_
        clear hP hD hS
        intro sc0_71 H locs w_70 hP hD hS
        replace hP : va_P D vwCl [(k, .inr (9, [.ref k0, .ref k1, .ref k2, .ref k3, .ref k4, .ref k5, .int c6, .int c7, .int c8])), (k0, .inl (cI, 12, .inl c0)), (k1, .inl (cI, 40, .inl c1)), (k4, .inr (8, [.ref k40, .ref k41, .ref k42, .ref k43, .ref k44, .ref k45, .ref k46, .ref k47, .ref k48, .int sc9_49])), (k40, .inl (cI, 60, .inl sc0_50)), (k41, .inl (cI, 60, .inl sc1_51)), (k42, .inl (cI, 60, .inl sc2_52)), (k43, .inl (cI, 60, .inl sc3_53)), (k44, .inl (cI, 60, .inl sc4_54)), (k45, .inl (cI, 60, .inl sc5_55)), (k46, .inl (cI, 40, .inl sc6_56)), (k47, .inl (cI, 40, .inl sc7_57)), (k48, .inl (cI, 40, .inl sc8_58)), (k5, .inr (3, [.ref k50, .int c51])), (k50, .inl (cI, 36, .inl sc0_71))] H := hP
        replace hD : va_D A [(k, .inr (9, [.ref k0, .ref k1, .ref k2, .ref k3, .ref k4, .ref k5, .int c6, .int c7, .int c8])), (k0, .inl (cI, 12, .inl c0)), (k1, .inl (cI, 40, .inl c1)), (k4, .inr (8, [.ref k40, .ref k41, .ref k42, .ref k43, .ref k44, .ref k45, .ref k46, .ref k47, .ref k48, .int sc9_49])), (k40, .inl (cI, 60, .inl sc0_50)), (k41, .inl (cI, 60, .inl sc1_51)), (k42, .inl (cI, 60, .inl sc2_52)), (k43, .inl (cI, 60, .inl sc3_53)), (k44, .inl (cI, 60, .inl sc4_54)), (k45, .inl (cI, 60, .inl sc5_55)), (k46, .inl (cI, 40, .inl sc6_56)), (k47, .inl (cI, 40, .inl sc7_57)), (k48, .inl (cI, 40, .inl sc8_58)), (k5, .inr (3, [.ref k50, .int c51])), (k50, .inl (cI, 36, .inl sc0_71))] := hD
        have h_72 := w_70
        try simp only [zl_m1, zl_4] at h_72
        have h_72 : PTR sc0_71 c51 (upd gg_64 (459 + 9 * a0.toInt.toNat + 4) (pW gg_64 a0 4 + (-1))) := h_72
        have h_72 : PTR sc0_71 c51 (upd gg_64 (459 + 9 * a0.toInt.toNat + 4) (pW gg_64 a0 4 + (-1))) := h_72
        obtain ⟨gg_73, egg_73⟩ : ∃ g_ : Nat → Int32, g_ = (upd gg_64 (459 + 9 * a0.toInt.toNat + 4) (pW gg_64 a0 4 + (-1))) := ⟨_, rfl⟩
        rw [← egg_73] at h_72
        have hW_74 : WR c0 c1 c2 c3 sc0_50 sc1_51 sc2_52 sc3_53 sc4_54 sc5_55 sc6_56 sc7_57 sc8_58 sc9_49 sc0_71 c51 c6 c7 c8 gg_73 := WR.ofP hW_65 h_72 (by rw [egg_73]; exact OFP.up (by omega))
        refine lv_aload_n hx hb dX9_dig_96 rfl (lv_at hl 1 rfl) ?_
        refine va_get (D := D) (ci := 9) (v := .ref k5) (C := RX9) (T := TX9) (N := 9) hx hb hT giX9 hown hK hP 0 rfl rfl 5 (by decide +kernel) (hT (Cond.fieldLink RX9 34 "DesertWire$World" "parties" "LDesertWire$Parties;") mw_100) (fun _ h9 => h9) rfl dX9_dig_97 ?_
        refine lv_iload_n hx hb dX9_dig_100 rfl (lv_at hl 2 rfl) ?_
        refine lv_bipush (v := 7) hx hb dX9_dig_101 (by decide +kernel) ?_
        refine lv_iconst (v := 0) hx hb dX9_dig_103 (by decide +kernel) ?_
        refine kJv (wr := [(k, .inr (9, [.ref k0, .ref k1, .ref k2, .ref k3, .ref k4, .ref k5, .int c6, .int c7, .int c8])), (k0, .inl (cI, 12, .inl c0)), (k1, .inl (cI, 40, .inl c1)), (k4, .inr (8, [.ref k40, .ref k41, .ref k42, .ref k43, .ref k44, .ref k45, .ref k46, .ref k47, .ref k48, .int sc9_49])), (k40, .inl (cI, 60, .inl sc0_50)), (k41, .inl (cI, 60, .inl sc1_51)), (k42, .inl (cI, 60, .inl sc2_52)), (k43, .inl (cI, 60, .inl sc3_53)), (k44, .inl (cI, 60, .inl sc4_54)), (k45, .inl (cI, 60, .inl sc5_55)), (k46, .inl (cI, 40, .inl sc6_56)), (k47, .inl (cI, 40, .inl sc7_57)), (k48, .inl (cI, 40, .inl sc8_58))]) (va_runV (As := [.int a0, .int 7, .int 0]) (rest := []) ⟨hx, hb, hml, hown, hT⟩ (c_X3_setD7 l D cI aK aV k5 k50 H.size c51 sc0_71 gg_73 a0 7 0 (WR.kp hW_74) (by first | omega | (simp only [zl_0, zl_7]; first | done | omega) | decide | assumption | rfl) (by first | omega | (simp only [zl_0, zl_7]; first | done | omega) | decide | assumption | rfl) (by first | omega | (simp only [zl_0, zl_7]; first | done | omega) | decide | assumption | rfl)) (cwV 3 hT (gV_in mw_713 mw_981 mw_711 mw_712 mw_4) rfl rfl rfl (by decide +kernel) ⟨Nat.le_of_ble_eq_true rfl, Nat.le_of_ble_eq_true rfl⟩) (kRecvX (q0 := 13) (ci := 3) hK hP hD hN hXS hS hA rfl rfl [13, 14] rfl (by decide +kernel)) rfl rfl hl.1 rfl (lv_room (Nat.le_of_ble_eq_true rfl)) dX9_dig_104 ⟨Nat.le_of_ble_eq_true rfl, Nat.le_of_ble_eq_true rfl⟩) hP hD hS hA [13, 14] [0, 1, 2, 3, 4, 5, 6, 7, 8, 9, 10, 11, 12] rfl rfl (by decide +kernel) (by decide +kernel) ?_
        clear hP hD hS
        intro sc0_77 H locs w_76 hP hD hS
        replace hP : va_P D vwCl [(k, .inr (9, [.ref k0, .ref k1, .ref k2, .ref k3, .ref k4, .ref k5, .int c6, .int c7, .int c8])), (k0, .inl (cI, 12, .inl c0)), (k1, .inl (cI, 40, .inl c1)), (k4, .inr (8, [.ref k40, .ref k41, .ref k42, .ref k43, .ref k44, .ref k45, .ref k46, .ref k47, .ref k48, .int sc9_49])), (k40, .inl (cI, 60, .inl sc0_50)), (k41, .inl (cI, 60, .inl sc1_51)), (k42, .inl (cI, 60, .inl sc2_52)), (k43, .inl (cI, 60, .inl sc3_53)), (k44, .inl (cI, 60, .inl sc4_54)), (k45, .inl (cI, 60, .inl sc5_55)), (k46, .inl (cI, 40, .inl sc6_56)), (k47, .inl (cI, 40, .inl sc7_57)), (k48, .inl (cI, 40, .inl sc8_58)), (k5, .inr (3, [.ref k50, .int c51])), (k50, .inl (cI, 36, .inl sc0_77))] H := hP
        replace hD : va_D A [(k, .inr (9, [.ref k0, .ref k1, .ref k2, .ref k3, .ref k4, .ref k5, .int c6, .int c7, .int c8])), (k0, .inl (cI, 12, .inl c0)), (k1, .inl (cI, 40, .inl c1)), (k4, .inr (8, [.ref k40, .ref k41, .ref k42, .ref k43, .ref k44, .ref k45, .ref k46, .ref k47, .ref k48, .int sc9_49])), (k40, .inl (cI, 60, .inl sc0_50)), (k41, .inl (cI, 60, .inl sc1_51)), (k42, .inl (cI, 60, .inl sc2_52)), (k43, .inl (cI, 60, .inl sc3_53)), (k44, .inl (cI, 60, .inl sc4_54)), (k45, .inl (cI, 60, .inl sc5_55)), (k46, .inl (cI, 40, .inl sc6_56)), (k47, .inl (cI, 40, .inl sc7_57)), (k48, .inl (cI, 40, .inl sc8_58)), (k5, .inr (3, [.ref k50, .int c51])), (k50, .inl (cI, 36, .inl sc0_77))] := hD
        have h_78 := w_76
        try simp only [zl_0, zl_7] at h_78
        have h_78 : PTR sc0_77 c51 (upd gg_73 (459 + 9 * a0.toInt.toNat + 7) 0) := h_78
        have h_78 : PTR sc0_77 c51 (upd gg_73 (459 + 9 * a0.toInt.toNat + 7) 0) := h_78
        obtain ⟨gg_79, egg_79⟩ : ∃ g_ : Nat → Int32, g_ = (upd gg_73 (459 + 9 * a0.toInt.toNat + 7) 0) := ⟨_, rfl⟩
        rw [← egg_79] at h_78
        have hW_80 : WR c0 c1 c2 c3 sc0_50 sc1_51 sc2_52 sc3_53 sc4_54 sc5_55 sc6_56 sc7_57 sc8_58 sc9_49 sc0_77 c51 c6 c7 c8 gg_79 := WR.ofP hW_74 h_78 (by rw [egg_79]; exact OFP.up (by omega))
        exact hRet (sc9_49, sc0_50, sc1_51, sc2_52, sc3_53, sc4_54, sc5_55, sc6_56, sc7_57, sc8_58, sc0_77) [0, 1, 2, 3, 13, 4, 5, 6, 7, 8, 9, 10, 11, 12, 14] (WR.gt hW_80 (dig_y (du := r_21) (ef := r_26) (po := r_33) (n := c49) (t := v_46) pre2 (wrkD_in h_11 egg_18) h_24 h_29 h_36 (WKR.qn (WR.kw hW_19)) ⟨by omega, by omega, by omega⟩ (by rw [ev_46, WR.dd hW_19]) egg_64 egg_73 egg_79)) hP hD (by decide +kernel) rfl hS dX9_dig_107
      · have h_44 : c49.toInt < 0 ∨ 60 ≤ c49.toInt := h_44
        obtain rfl : r_39 = 0 := hr_39.trans (by decide +kernel)
        refine b_if_eq hx hb zl_0 (tgt := 107) dX9_dig_66 (by decide +kernel) (fun c_81 => ?_) (fun c_81 => by exfalso; omega)
        exact hRet (c49, c40, c41, c42, c43, c44, c45, c46, c47, c48, sc0_16) [9, 10, 11, 14, 12, 0, 1, 2, 3, 4, 5, 6, 7, 8, 13] (WR.gt hW_19 (dig_n (du := r_21) (ef := r_26) (po := r_33) (n := c49) pre2 (wrkD_in h_11 egg_18) h_24 h_29 h_36 (WKR.qn (WR.kw hW_19)) (by omega))) hP hD (by decide +kernel) rfl hS dX9_dig_107

set_option maxHeartbeats 4000000 in
set_option maxRecDepth 100000 in
theorem c_X9_labourD (l : Launch) (D : va_G) (cI : ClassId) (aK aV : Nat → Nat) (k k0 k1 k2 k3 k4 k5 k40 k41 k42 k43 k44 k45 k46 k47 k48 k50 : Nat) (sz : Nat) (c6 : Int32) (c7 : Int32) (c8 : Int32) (c0 : Nat → Int32) (c1 : Nat → Int32) (c49 : Int32) (c51 : Int32) (c40 : Nat → Int32) (c41 : Nat → Int32) (c42 : Nat → Int32) (c43 : Nat → Int32) (c44 : Nat → Int32) (c45 : Nat → Int32) (c46 : Nat → Int32) (c47 : Nat → Int32) (c48 : Nat → Int32) (c50 : Nat → Int32) (c2 : Nat → Int32) (c3 : Nat → Int32) (gx : Nat → Int32) (a0 : Int32) (pre0 : WR c0 c1 c2 c3 c40 c41 c42 c43 c44 c45 c46 c47 c48 c49 c50 c51 c6 c7 c8 gx) (pre1 : SIX gx (-1)) (pre2 : (pW gx a0 8).toInt = 0) (pre3 : 0 ≤ a0.toInt) (pre4 : a0.toInt < c51.toInt) : Met l yX9_labour (gW yX9_labour cX9_labour 3 none) ({ frames := 5, cells := 0, slots := 0, locals := 113 } : Room) (kPreX D cI aK aV [.ref k, .int a0] [(k, .inr (9, [.ref k0, .ref k1, .ref k2, .ref k3, .ref k4, .ref k5, .int c6, .int c7, .int c8])), (k0, .inl (cI, 12, .inl c0)), (k1, .inl (cI, 40, .inl c1)), (k4, .inr (8, [.ref k40, .ref k41, .ref k42, .ref k43, .ref k44, .ref k45, .ref k46, .ref k47, .ref k48, .int c49])), (k5, .inr (3, [.ref k50, .int c51])), (k40, .inl (cI, 60, .inl c40)), (k41, .inl (cI, 60, .inl c41)), (k42, .inl (cI, 60, .inl c42)), (k43, .inl (cI, 60, .inl c43)), (k44, .inl (cI, 60, .inl c44)), (k45, .inl (cI, 60, .inl c45)), (k46, .inl (cI, 40, .inl c46)), (k47, .inl (cI, 40, .inl c47)), (k48, .inl (cI, 40, .inl c48)), (k50, .inl (cI, 36, .inl c50))] sz) (va_Qv (fun (u : Int32 × (Nat → Int32) × (Nat → Int32) × (Nat → Int32) × (Nat → Int32) × (Nat → Int32) × (Nat → Int32) × (Nat → Int32) × (Nat → Int32) × (Nat → Int32) × (Nat → Int32)) => WR c0 c1 c2 c3 u.2.1 u.2.2.1 u.2.2.2.1 u.2.2.2.2.1 u.2.2.2.2.2.1 u.2.2.2.2.2.2.1 u.2.2.2.2.2.2.2.1 u.2.2.2.2.2.2.2.2.1 u.2.2.2.2.2.2.2.2.2.1 u.1 u.2.2.2.2.2.2.2.2.2.2 c51 c6 c7 c8 (wrkS gx a0.toInt.toNat)) (fun u t => kWd D cI (va_A [(k, .inr (9, [.ref k0, .ref k1, .ref k2, .ref k3, .ref k4, .ref k5, .int c6, .int c7, .int c8])), (k0, .inl (cI, 12, .inl c0)), (k1, .inl (cI, 40, .inl c1)), (k4, .inr (8, [.ref k40, .ref k41, .ref k42, .ref k43, .ref k44, .ref k45, .ref k46, .ref k47, .ref k48, .int c49])), (k5, .inr (3, [.ref k50, .int c51])), (k40, .inl (cI, 60, .inl c40)), (k41, .inl (cI, 60, .inl c41)), (k42, .inl (cI, 60, .inl c42)), (k43, .inl (cI, 60, .inl c43)), (k44, .inl (cI, 60, .inl c44)), (k45, .inl (cI, 60, .inl c45)), (k46, .inl (cI, 40, .inl c46)), (k47, .inl (cI, 40, .inl c47)), (k48, .inl (cI, 40, .inl c48)), (k50, .inl (cI, 36, .inl c50))] sz) [(k, .inr (9, [.ref k0, .ref k1, .ref k2, .ref k3, .ref k4, .ref k5, .int c6, .int c7, .int c8])), (k0, .inl (cI, 12, .inl c0)), (k1, .inl (cI, 40, .inl c1)), (k4, .inr (8, [.ref k40, .ref k41, .ref k42, .ref k43, .ref k44, .ref k45, .ref k46, .ref k47, .ref k48, .int u.1])), (k5, .inr (3, [.ref k50, .int c51])), (k40, .inl (cI, 60, .inl u.2.1)), (k41, .inl (cI, 60, .inl u.2.2.1)), (k42, .inl (cI, 60, .inl u.2.2.2.1)), (k43, .inl (cI, 60, .inl u.2.2.2.2.1)), (k44, .inl (cI, 60, .inl u.2.2.2.2.2.1)), (k45, .inl (cI, 60, .inl u.2.2.2.2.2.2.1)), (k46, .inl (cI, 40, .inl u.2.2.2.2.2.2.2.1)), (k47, .inl (cI, 40, .inl u.2.2.2.2.2.2.2.2.1)), (k48, .inl (cI, 40, .inl u.2.2.2.2.2.2.2.2.2.1)), (k50, .inl (cI, 36, .inl u.2.2.2.2.2.2.2.2.2.2))] t) (va_A [(k, .inr (9, [.ref k0, .ref k1, .ref k2, .ref k3, .ref k4, .ref k5, .int c6, .int c7, .int c8])), (k0, .inl (cI, 12, .inl c0)), (k1, .inl (cI, 40, .inl c1)), (k4, .inr (8, [.ref k40, .ref k41, .ref k42, .ref k43, .ref k44, .ref k45, .ref k46, .ref k47, .ref k48, .int c49])), (k5, .inr (3, [.ref k50, .int c51])), (k40, .inl (cI, 60, .inl c40)), (k41, .inl (cI, 60, .inl c41)), (k42, .inl (cI, 60, .inl c42)), (k43, .inl (cI, 60, .inl c43)), (k44, .inl (cI, 60, .inl c44)), (k45, .inl (cI, 60, .inl c45)), (k46, .inl (cI, 40, .inl c46)), (k47, .inl (cI, 40, .inl c47)), (k48, .inl (cI, 40, .inl c48)), (k50, .inl (cI, 36, .inl c50))] sz)) 0 0 (va_A [(k, .inr (9, [.ref k0, .ref k1, .ref k2, .ref k3, .ref k4, .ref k5, .int c6, .int c7, .int c8])), (k0, .inl (cI, 12, .inl c0)), (k1, .inl (cI, 40, .inl c1)), (k4, .inr (8, [.ref k40, .ref k41, .ref k42, .ref k43, .ref k44, .ref k45, .ref k46, .ref k47, .ref k48, .int c49])), (k5, .inr (3, [.ref k50, .int c51])), (k40, .inl (cI, 60, .inl c40)), (k41, .inl (cI, 60, .inl c41)), (k42, .inl (cI, 60, .inl c42)), (k43, .inl (cI, 60, .inl c43)), (k44, .inl (cI, 60, .inl c44)), (k45, .inl (cI, 60, .inl c45)), (k46, .inl (cI, 40, .inl c46)), (k47, .inl (cI, 40, .inl c47)), (k48, .inl (cI, 40, .inl c48)), (k50, .inl (cI, 36, .inl c50))] sz) := by
  refine kMetVX (own := RX9) (by decide +kernel) rfl (Nat.le_of_ble_eq_true rfl) ?_
  intro p e s m args below meth c hx hb hT hown hname hml A Q hK hP hD hS hA hN hXS hRet ls hl
  have hl : lv_has ls 3 [(0, .ref k), (1, .int a0)] := hl
  have lo_a0 := k_lo a0
  have hi_a0 := k_hi a0
  have lo_c6 := k_lo c6
  have hi_c6 := k_hi c6
  have lo_c7 := k_lo c7
  have hi_c7 := k_hi c7
  have lo_c8 := k_lo c8
  have hi_c8 := k_hi c8
  have lo_c49 := k_lo c49
  have hi_c49 := k_hi c49
  have lo_c51 := k_lo c51
  have hi_c51 := k_hi c51
  have hd0 := SB.n0 (And.left pre1)
  have pre0 : WR c0 c1 c2 c3 c40 c41 c42 c43 c44 c45 c46 c47 c48 c49 c50 c51 c6 c7 c8 gx := pre0
  have b_1 : 0 ≤ c49.toInt ∧ c49.toInt ≤ 60 := WKR.n0 (WR.kw pre0)
  have t_2 : c49.toInt = (gx 1).toInt := WKR.nt (WR.kw pre0)
  have b_3 : 0 ≤ c51.toInt ∧ c51.toInt ≤ 4 := ((WR.kp pre0)).2.1
  have t_4 : c51.toInt = (gx 2).toInt := PTR.nt (WR.kp pre0)
  have t_5 : c8.toInt = (gx 0).toInt := by rw [WR.dd pre0]
  have pre1 : SIX gx (-1) := pre1
  refine lv_aload_n hx hb dX9_labour_0 rfl (lv_at hl 0 rfl) ?_
  refine va_get (D := D) (ci := 9) (v := .ref k5) (C := RX9) (T := TX9) (N := 9) hx hb hT giX9 hown hK hP 0 rfl rfl 5 (by decide +kernel) (hT (Cond.fieldLink RX9 34 "DesertWire$World" "parties" "LDesertWire$Parties;") mw_100) (fun _ h9 => h9) rfl dX9_labour_1 ?_
  refine lv_iload_n hx hb dX9_labour_4 rfl (lv_at hl 1 rfl) ?_
  refine lv_iconst (v := 0) hx hb dX9_labour_5 (by decide +kernel) ?_
  refine kJi (wr := [(k, .inr (9, [.ref k0, .ref k1, .ref k2, .ref k3, .ref k4, .ref k5, .int c6, .int c7, .int c8])), (k0, .inl (cI, 12, .inl c0)), (k1, .inl (cI, 40, .inl c1)), (k4, .inr (8, [.ref k40, .ref k41, .ref k42, .ref k43, .ref k44, .ref k45, .ref k46, .ref k47, .ref k48, .int c49])), (k40, .inl (cI, 60, .inl c40)), (k41, .inl (cI, 60, .inl c41)), (k42, .inl (cI, 60, .inl c42)), (k43, .inl (cI, 60, .inl c43)), (k44, .inl (cI, 60, .inl c44)), (k45, .inl (cI, 60, .inl c45)), (k46, .inl (cI, 40, .inl c46)), (k47, .inl (cI, 40, .inl c47)), (k48, .inl (cI, 40, .inl c48))]) (va_runV (As := [.int a0, .int 0]) (rest := []) ⟨hx, hb, hml, hown, hT⟩ (c_X3_getD0 l D cI aK aV k5 k50 s.heap.size c51 c50 gx a0 0 (WR.kp pre0) (by first | omega | (simp only [zl_0]; first | done | omega) | decide | assumption | rfl) (by first | omega | (simp only [zl_0]; first | done | omega) | decide | assumption | rfl) (by first | omega | (simp only [zl_0]; first | done | omega) | decide | assumption | rfl)) (cwV 2 hT (gV_in mw_726 mw_978 mw_724 mw_725 mw_4) rfl rfl rfl (by decide +kernel) ⟨Nat.le_of_ble_eq_true rfl, Nat.le_of_ble_eq_true rfl⟩) (kRecvX (q0 := 4) (ci := 3) hK hP hD hN hXS hS hA rfl rfl [4, 14] rfl (by decide +kernel)) rfl rfl hl.1 rfl (lv_room (Nat.le_of_ble_eq_true rfl)) dX9_labour_6 ⟨Nat.le_of_ble_eq_true rfl, Nat.le_of_ble_eq_true rfl⟩) hP hD hS hA [4, 14] [0, 1, 2, 3, 5, 6, 7, 8, 9, 10, 11, 12, 13] rfl rfl (by decide +kernel) (by decide +kernel) ?_
  clear hP hD hS
  intro r_6 u_8 H locs w_7 hP hD hS
  replace hP : va_P D vwCl [(k, .inr (9, [.ref k0, .ref k1, .ref k2, .ref k3, .ref k4, .ref k5, .int c6, .int c7, .int c8])), (k0, .inl (cI, 12, .inl c0)), (k1, .inl (cI, 40, .inl c1)), (k4, .inr (8, [.ref k40, .ref k41, .ref k42, .ref k43, .ref k44, .ref k45, .ref k46, .ref k47, .ref k48, .int c49])), (k40, .inl (cI, 60, .inl c40)), (k41, .inl (cI, 60, .inl c41)), (k42, .inl (cI, 60, .inl c42)), (k43, .inl (cI, 60, .inl c43)), (k44, .inl (cI, 60, .inl c44)), (k45, .inl (cI, 60, .inl c45)), (k46, .inl (cI, 40, .inl c46)), (k47, .inl (cI, 40, .inl c47)), (k48, .inl (cI, 40, .inl c48)), (k5, .inr (3, [.ref k50, .int c51])), (k50, .inl (cI, 36, .inl c50))] H := hP
  replace hD : va_D A [(k, .inr (9, [.ref k0, .ref k1, .ref k2, .ref k3, .ref k4, .ref k5, .int c6, .int c7, .int c8])), (k0, .inl (cI, 12, .inl c0)), (k1, .inl (cI, 40, .inl c1)), (k4, .inr (8, [.ref k40, .ref k41, .ref k42, .ref k43, .ref k44, .ref k45, .ref k46, .ref k47, .ref k48, .int c49])), (k40, .inl (cI, 60, .inl c40)), (k41, .inl (cI, 60, .inl c41)), (k42, .inl (cI, 60, .inl c42)), (k43, .inl (cI, 60, .inl c43)), (k44, .inl (cI, 60, .inl c44)), (k45, .inl (cI, 60, .inl c45)), (k46, .inl (cI, 40, .inl c46)), (k47, .inl (cI, 40, .inl c47)), (k48, .inl (cI, 40, .inl c48)), (k5, .inr (3, [.ref k50, .int c51])), (k50, .inl (cI, 36, .inl c50))] := hD
  have h_9 := w_7
  have h_9 : r_6 = pW gx a0 0 := h_9
  have t_10 : r_6.toInt = (pW gx a0 0).toInt := by rw [h_9]
  have b_11 : 0 ≤ r_6.toInt ∧ r_6.toInt ≤ 39 := by rw [h_9]; exact SB.p0 (And.left pre1) (by omega) (by omega)
  have lo_r_6 := k_lo r_6
  have hi_r_6 := k_hi r_6
  refine lv_istore_n (lv' := [(2, .int r_6), (0, .ref k), (1, .int a0)]) hx hb dX9_labour_9 rfl hl (by decide +kernel) rfl ?_
  clear hl
  intro ls hl
  refine lv_aload_n hx hb dX9_labour_10 rfl (lv_at hl 1 rfl) ?_
  refine va_get (D := D) (ci := 9) (v := .ref k4) (C := RX9) (T := TX9) (N := 9) hx hb hT giX9 hown hK hP 0 rfl rfl 4 (by decide +kernel) (hT (Cond.fieldLink RX9 27 "DesertWire$World" "works" "LDesertWire$Works;") mw_97) (fun _ h9 => h9) rfl dX9_labour_11 ?_
  refine lv_iload_n hx hb dX9_labour_14 rfl (lv_at hl 0 rfl) ?_
  refine kJi (wr := [(k, .inr (9, [.ref k0, .ref k1, .ref k2, .ref k3, .ref k4, .ref k5, .int c6, .int c7, .int c8])), (k0, .inl (cI, 12, .inl c0)), (k1, .inl (cI, 40, .inl c1)), (k40, .inl (cI, 60, .inl c40)), (k41, .inl (cI, 60, .inl c41)), (k42, .inl (cI, 60, .inl c42)), (k43, .inl (cI, 60, .inl c43)), (k44, .inl (cI, 60, .inl c44)), (k45, .inl (cI, 60, .inl c45)), (k47, .inl (cI, 40, .inl c47)), (k48, .inl (cI, 40, .inl c48)), (k5, .inr (3, [.ref k50, .int c51])), (k50, .inl (cI, 36, .inl c50))]) (va_runV (As := [.int r_6]) (rest := []) ⟨hx, hb, hml, hown, hT⟩ (c_X8_isWiredD l D cI aK aV k4 k40 k41 k42 k43 k44 k45 k46 k47 k48 H.size c49 c46 c40 c41 c42 c43 c44 c45 c47 c48 gx r_6 (WR.kw pre0)) (cwV 1 hT (gV_in mw_624 mw_629 mw_622 mw_623 mw_3) rfl rfl rfl (by decide +kernel) ⟨Nat.le_of_ble_eq_true rfl, Nat.le_of_ble_eq_true rfl⟩) (kRecvX (q0 := 3) (ci := 8) hK hP hD hN hXS hS hA rfl rfl [3, 10] rfl (by decide +kernel)) rfl rfl hl.1 rfl (lv_room (Nat.le_of_ble_eq_true rfl)) dX9_labour_15 ⟨Nat.le_of_ble_eq_true rfl, Nat.le_of_ble_eq_true rfl⟩) hP hD hS hA [3, 10] [0, 1, 2, 4, 5, 6, 7, 8, 9, 11, 12, 13, 14] rfl rfl (by decide +kernel) (by decide +kernel) ?_
  clear hP hD hS
  intro r_12 u_14 H locs w_13 hP hD hS
  replace hP : va_P D vwCl [(k, .inr (9, [.ref k0, .ref k1, .ref k2, .ref k3, .ref k4, .ref k5, .int c6, .int c7, .int c8])), (k0, .inl (cI, 12, .inl c0)), (k1, .inl (cI, 40, .inl c1)), (k40, .inl (cI, 60, .inl c40)), (k41, .inl (cI, 60, .inl c41)), (k42, .inl (cI, 60, .inl c42)), (k43, .inl (cI, 60, .inl c43)), (k44, .inl (cI, 60, .inl c44)), (k45, .inl (cI, 60, .inl c45)), (k47, .inl (cI, 40, .inl c47)), (k48, .inl (cI, 40, .inl c48)), (k5, .inr (3, [.ref k50, .int c51])), (k50, .inl (cI, 36, .inl c50)), (k4, .inr (8, [.ref k40, .ref k41, .ref k42, .ref k43, .ref k44, .ref k45, .ref k46, .ref k47, .ref k48, .int c49])), (k46, .inl (cI, 40, .inl c46))] H := hP
  replace hD : va_D A [(k, .inr (9, [.ref k0, .ref k1, .ref k2, .ref k3, .ref k4, .ref k5, .int c6, .int c7, .int c8])), (k0, .inl (cI, 12, .inl c0)), (k1, .inl (cI, 40, .inl c1)), (k40, .inl (cI, 60, .inl c40)), (k41, .inl (cI, 60, .inl c41)), (k42, .inl (cI, 60, .inl c42)), (k43, .inl (cI, 60, .inl c43)), (k44, .inl (cI, 60, .inl c44)), (k45, .inl (cI, 60, .inl c45)), (k47, .inl (cI, 40, .inl c47)), (k48, .inl (cI, 40, .inl c48)), (k5, .inr (3, [.ref k50, .int c51])), (k50, .inl (cI, 36, .inl c50)), (k4, .inr (8, [.ref k40, .ref k41, .ref k42, .ref k43, .ref k44, .ref k45, .ref k46, .ref k47, .ref k48, .int c49])), (k46, .inl (cI, 40, .inl c46))] := hD
  rcases w_13 with ⟨hr_12, h_15, h_16, h_17⟩ | ⟨hr_12, h_18, h_19, h_20⟩ | ⟨hr_12, h_21⟩
  · have h_15 : 0 ≤ r_6.toInt := h_15
    have h_16 : r_6.toInt ≤ 39 := h_16
    have h_17 : wdF gx r_6.toInt = 1 := h_17
    have h_17 : wdF gx r_6.toInt = 1 := h_17
    obtain rfl : r_12 = 1 := hr_12.trans (by decide +kernel)
    refine b_if_eq hx hb zl_1 (tgt := 40) dX9_labour_18 (by decide +kernel) (fun c_22 => by exfalso; omega) (fun c_22 => ?_)
    refine lv_aload_n hx hb dX9_labour_21 rfl (lv_at hl 1 rfl) ?_
    refine lv_iload_n hx hb dX9_labour_22 rfl (lv_at hl 2 rfl) ?_
    refine lv_iload_n hx hb dX9_labour_23 rfl (lv_at hl 0 rfl) ?_
    refine lv_aload_n hx hb dX9_labour_24 rfl (lv_at hl 1 rfl) ?_
    refine va_get (D := D) (ci := 9) (v := .ref k5) (C := RX9) (T := TX9) (N := 9) hx hb hT giX9 hown hK hP 0 rfl rfl 5 (by decide +kernel) (hT (Cond.fieldLink RX9 34 "DesertWire$World" "parties" "LDesertWire$Parties;") mw_100) (fun _ h9 => h9) rfl dX9_labour_25 ?_
    refine lv_iload_n hx hb dX9_labour_28 rfl (lv_at hl 2 rfl) ?_
    refine lv_iconst (v := 1) hx hb dX9_labour_29 (by decide +kernel) ?_
    refine kJi (wr := [(k, .inr (9, [.ref k0, .ref k1, .ref k2, .ref k3, .ref k4, .ref k5, .int c6, .int c7, .int c8])), (k0, .inl (cI, 12, .inl c0)), (k1, .inl (cI, 40, .inl c1)), (k40, .inl (cI, 60, .inl c40)), (k41, .inl (cI, 60, .inl c41)), (k42, .inl (cI, 60, .inl c42)), (k43, .inl (cI, 60, .inl c43)), (k44, .inl (cI, 60, .inl c44)), (k45, .inl (cI, 60, .inl c45)), (k47, .inl (cI, 40, .inl c47)), (k48, .inl (cI, 40, .inl c48)), (k4, .inr (8, [.ref k40, .ref k41, .ref k42, .ref k43, .ref k44, .ref k45, .ref k46, .ref k47, .ref k48, .int c49])), (k46, .inl (cI, 40, .inl c46))]) (va_runV (As := [.int a0, .int 1]) (rest := [.int r_6, .int a0, .ref k]) ⟨hx, hb, hml, hown, hT⟩ (c_X3_getD1 l D cI aK aV k5 k50 H.size c51 c50 gx a0 1 (WR.kp pre0) (by first | omega | (simp only [zl_1]; first | done | omega) | decide | assumption | rfl) (by first | omega | (simp only [zl_1]; first | done | omega) | decide | assumption | rfl) (by first | omega | (simp only [zl_1]; first | done | omega) | decide | assumption | rfl)) (cwV 2 hT (gV_in mw_726 mw_978 mw_724 mw_725 mw_4) rfl rfl rfl (by decide +kernel) ⟨Nat.le_of_ble_eq_true rfl, Nat.le_of_ble_eq_true rfl⟩) (kRecvX (q0 := 11) (ci := 3) hK hP hD hN hXS hS hA rfl rfl [11, 12] rfl (by decide +kernel)) rfl rfl hl.1 rfl (lv_room (Nat.le_of_ble_eq_true rfl)) dX9_labour_30 ⟨Nat.le_of_ble_eq_true rfl, Nat.le_of_ble_eq_true rfl⟩) hP hD hS hA [11, 12] [0, 1, 2, 3, 4, 5, 6, 7, 8, 9, 10, 13, 14] rfl rfl (by decide +kernel) (by decide +kernel) ?_
    clear hP hD hS
    intro r_23 u_25 H locs w_24 hP hD hS
    replace hP : va_P D vwCl [(k, .inr (9, [.ref k0, .ref k1, .ref k2, .ref k3, .ref k4, .ref k5, .int c6, .int c7, .int c8])), (k0, .inl (cI, 12, .inl c0)), (k1, .inl (cI, 40, .inl c1)), (k40, .inl (cI, 60, .inl c40)), (k41, .inl (cI, 60, .inl c41)), (k42, .inl (cI, 60, .inl c42)), (k43, .inl (cI, 60, .inl c43)), (k44, .inl (cI, 60, .inl c44)), (k45, .inl (cI, 60, .inl c45)), (k47, .inl (cI, 40, .inl c47)), (k48, .inl (cI, 40, .inl c48)), (k4, .inr (8, [.ref k40, .ref k41, .ref k42, .ref k43, .ref k44, .ref k45, .ref k46, .ref k47, .ref k48, .int c49])), (k46, .inl (cI, 40, .inl c46)), (k5, .inr (3, [.ref k50, .int c51])), (k50, .inl (cI, 36, .inl c50))] H := hP
    replace hD : va_D A [(k, .inr (9, [.ref k0, .ref k1, .ref k2, .ref k3, .ref k4, .ref k5, .int c6, .int c7, .int c8])), (k0, .inl (cI, 12, .inl c0)), (k1, .inl (cI, 40, .inl c1)), (k40, .inl (cI, 60, .inl c40)), (k41, .inl (cI, 60, .inl c41)), (k42, .inl (cI, 60, .inl c42)), (k43, .inl (cI, 60, .inl c43)), (k44, .inl (cI, 60, .inl c44)), (k45, .inl (cI, 60, .inl c45)), (k47, .inl (cI, 40, .inl c47)), (k48, .inl (cI, 40, .inl c48)), (k4, .inr (8, [.ref k40, .ref k41, .ref k42, .ref k43, .ref k44, .ref k45, .ref k46, .ref k47, .ref k48, .int c49])), (k46, .inl (cI, 40, .inl c46)), (k5, .inr (3, [.ref k50, .int c51])), (k50, .inl (cI, 36, .inl c50))] := hD
    have h_26 := w_24
    have h_26 : r_23 = pW gx a0 1 := h_26
    have t_27 : r_23.toInt = (pW gx a0 1).toInt := by rw [h_26]
    have lo_r_23 := k_lo r_23
    have hi_r_23 := k_hi r_23
    refine lv_iadd hx hb dX9_labour_33 ?_
    refine lv_topi (fun v_28 ev_28 => ?_)
    have lo_v_28 := k_lo v_28
    have hi_v_28 := k_hi v_28
    refine kJv (wr := [(k0, .inl (cI, 12, .inl c0)), (k1, .inl (cI, 40, .inl c1)), (k40, .inl (cI, 60, .inl c40)), (k41, .inl (cI, 60, .inl c41)), (k42, .inl (cI, 60, .inl c42)), (k43, .inl (cI, 60, .inl c43)), (k44, .inl (cI, 60, .inl c44)), (k45, .inl (cI, 60, .inl c45)), (k47, .inl (cI, 40, .inl c47)), (k48, .inl (cI, 40, .inl c48)), (k4, .inr (8, [.ref k40, .ref k41, .ref k42, .ref k43, .ref k44, .ref k45, .ref k46, .ref k47, .ref k48, .int c49])), (k46, .inl (cI, 40, .inl c46))]) (va_runV (As := [.int a0, .int v_28]) (rest := []) ⟨hx, hb, hml, hown, hT⟩ (c_X9_goOnD l D cI aK aV k k0 k1 k2 k3 k4 k5 k50 H.size c6 c7 c8 c51 c50 c0 c1 c2 c3 c40 c41 c42 c43 c44 c45 c46 c47 c48 c49 gx a0 v_28 pre0 (by first | omega | decide | assumption | rfl) (by first | omega | decide | assumption | rfl)) (cwV 2 hT (gV_in mw_999 mw_996 mw_998 mw_p3_4 mw_2) rfl rfl rfl (by decide +kernel) ⟨Nat.le_of_ble_eq_true rfl, Nat.le_of_ble_eq_true rfl⟩) (kRecvX (q0 := 0) (ci := 9) hK hP hD hN hXS hS hA rfl rfl [0, 13, 14] rfl (by decide +kernel)) rfl rfl hl.1 rfl (lv_room (Nat.le_of_ble_eq_true rfl)) dX9_labour_34 ⟨Nat.le_of_ble_eq_true rfl, Nat.le_of_ble_eq_true rfl⟩) hP hD hS hA [0, 13, 14] [1, 2, 3, 4, 5, 6, 7, 8, 9, 10, 11, 12] rfl rfl (by decide +kernel) (by decide +kernel) ?_
    clear hP hD hS
    intro sc50_31 H locs w_30 hP hD hS
    replace hP : va_P D vwCl [(k0, .inl (cI, 12, .inl c0)), (k1, .inl (cI, 40, .inl c1)), (k40, .inl (cI, 60, .inl c40)), (k41, .inl (cI, 60, .inl c41)), (k42, .inl (cI, 60, .inl c42)), (k43, .inl (cI, 60, .inl c43)), (k44, .inl (cI, 60, .inl c44)), (k45, .inl (cI, 60, .inl c45)), (k47, .inl (cI, 40, .inl c47)), (k48, .inl (cI, 40, .inl c48)), (k4, .inr (8, [.ref k40, .ref k41, .ref k42, .ref k43, .ref k44, .ref k45, .ref k46, .ref k47, .ref k48, .int c49])), (k46, .inl (cI, 40, .inl c46)), (k, .inr (9, [.ref k0, .ref k1, .ref k2, .ref k3, .ref k4, .ref k5, .int c6, .int c7, .int c8])), (k5, .inr (3, [.ref k50, .int c51])), (k50, .inl (cI, 36, .inl sc50_31))] H := hP
    replace hD : va_D A [(k0, .inl (cI, 12, .inl c0)), (k1, .inl (cI, 40, .inl c1)), (k40, .inl (cI, 60, .inl c40)), (k41, .inl (cI, 60, .inl c41)), (k42, .inl (cI, 60, .inl c42)), (k43, .inl (cI, 60, .inl c43)), (k44, .inl (cI, 60, .inl c44)), (k45, .inl (cI, 60, .inl c45)), (k47, .inl (cI, 40, .inl c47)), (k48, .inl (cI, 40, .inl c48)), (k4, .inr (8, [.ref k40, .ref k41, .ref k42, .ref k43, .ref k44, .ref k45, .ref k46, .ref k47, .ref k48, .int c49])), (k46, .inl (cI, 40, .inl c46)), (k, .inr (9, [.ref k0, .ref k1, .ref k2, .ref k3, .ref k4, .ref k5, .int c6, .int c7, .int c8])), (k5, .inr (3, [.ref k50, .int c51])), (k50, .inl (cI, 36, .inl sc50_31))] := hD
    have h_32 := w_30
    have h_32 : WR c0 c1 c2 c3 c40 c41 c42 c43 c44 c45 c46 c47 c48 c49 sc50_31 c51 c6 c7 c8 (goF gx a0.toInt.toNat v_28) := h_32
    have h_32 : WR c0 c1 c2 c3 c40 c41 c42 c43 c44 c45 c46 c47 c48 c49 sc50_31 c51 c6 c7 c8 (goF gx a0.toInt.toNat v_28) := h_32
    obtain ⟨gg_33, egg_33⟩ : ∃ g_ : Nat → Int32, g_ = (goF gx a0.toInt.toNat v_28) := ⟨_, rfl⟩
    rw [← egg_33] at h_32
    have t_34 : c49.toInt = (gg_33 1).toInt := WKR.nt (WR.kw h_32)
    have t_35 : c51.toInt = (gg_33 2).toInt := PTR.nt (WR.kp h_32)
    have t_36 : c8.toInt = (gg_33 0).toInt := by rw [WR.dd h_32]
    refine lv_goto (tgt := 46) hx hb dX9_labour_37 (by decide +kernel) ?_
    exact hRet (c49, c40, c41, c42, c43, c44, c45, c46, c47, c48, sc50_31) [12, 0, 1, 10, 13, 2, 3, 4, 5, 6, 7, 11, 8, 9, 14] (WR.gt h_32 ((wrk_go (t := v_28) h_9 h_17 h_26 ev_28 pre2).trans egg_33.symm)) hP hD (by decide +kernel) rfl hS dX9_labour_46
  · have h_18 : 0 ≤ r_6.toInt := h_18
    have h_19 : r_6.toInt ≤ 39 := h_19
    have h_20 : wdF gx r_6.toInt = 0 := h_20
    have h_20 : wdF gx r_6.toInt = 0 := h_20
    obtain rfl : r_12 = 0 := hr_12.trans (by decide +kernel)
    refine b_if_eq hx hb zl_0 (tgt := 40) dX9_labour_18 (by decide +kernel) (fun c_37 => ?_) (fun c_37 => by exfalso; omega)
    refine lv_aload_n hx hb dX9_labour_40 rfl (lv_at hl 1 rfl) ?_
    refine lv_iload_n hx hb dX9_labour_41 rfl (lv_at hl 2 rfl) ?_
    refine lv_iload_n hx hb dX9_labour_42 rfl (lv_at hl 0 rfl) ?_
    refine kJv (wr := []) (va_runV (As := [.int a0, .int r_6]) (rest := []) ⟨hx, hb, hml, hown, hT⟩ (c_X9_digD l D cI aK aV k k0 k1 k2 k3 k4 k5 k40 k41 k42 k43 k44 k45 k46 k47 k48 k50 H.size c6 c7 c8 c0 c1 c49 c51 c40 c41 c42 c43 c44 c45 c46 c47 c48 c50 c2 c3 gx a0 r_6 pre0 (And.left pre1) (by first | omega | decide | assumption | rfl) (by first | omega | decide | assumption | rfl) (by first | omega | decide | assumption | rfl) (by first | omega | decide | assumption | rfl) (by first | omega | decide | assumption | rfl)) (cwV 2 hT (gV_in mw_1003 mw_1000 mw_1002 mw_p3_5 mw_2) rfl rfl rfl (by decide +kernel) ⟨Nat.le_of_ble_eq_true rfl, Nat.le_of_ble_eq_true rfl⟩) (kRecvX (q0 := 0) (ci := 9) hK hP hD hN hXS hS hA rfl rfl [0, 1, 2, 13, 11, 3, 4, 5, 6, 7, 8, 14, 9, 10, 12] rfl (by decide +kernel)) rfl rfl hl.1 rfl (lv_room (Nat.le_of_ble_eq_true rfl)) dX9_labour_43 ⟨Nat.le_of_ble_eq_true rfl, Nat.le_of_ble_eq_true rfl⟩) hP hD hS hA [0, 1, 2, 13, 11, 3, 4, 5, 6, 7, 8, 14, 9, 10, 12] [] rfl rfl (by decide +kernel) (by decide +kernel) ?_
    clear hP hD hS
    intro u_51 H locs w_39 hP hD hS
    obtain ⟨sc49_40, sc40_41, sc41_42, sc42_43, sc43_44, sc44_45, sc45_46, sc46_47, sc47_48, sc48_49, sc50_50⟩ := u_51
    replace hP : va_P D vwCl [(k, .inr (9, [.ref k0, .ref k1, .ref k2, .ref k3, .ref k4, .ref k5, .int c6, .int c7, .int c8])), (k0, .inl (cI, 12, .inl c0)), (k1, .inl (cI, 40, .inl c1)), (k4, .inr (8, [.ref k40, .ref k41, .ref k42, .ref k43, .ref k44, .ref k45, .ref k46, .ref k47, .ref k48, .int sc49_40])), (k5, .inr (3, [.ref k50, .int c51])), (k40, .inl (cI, 60, .inl sc40_41)), (k41, .inl (cI, 60, .inl sc41_42)), (k42, .inl (cI, 60, .inl sc42_43)), (k43, .inl (cI, 60, .inl sc43_44)), (k44, .inl (cI, 60, .inl sc44_45)), (k45, .inl (cI, 60, .inl sc45_46)), (k46, .inl (cI, 40, .inl sc46_47)), (k47, .inl (cI, 40, .inl sc47_48)), (k48, .inl (cI, 40, .inl sc48_49)), (k50, .inl (cI, 36, .inl sc50_50))] H := hP
    replace hD : va_D A [(k, .inr (9, [.ref k0, .ref k1, .ref k2, .ref k3, .ref k4, .ref k5, .int c6, .int c7, .int c8])), (k0, .inl (cI, 12, .inl c0)), (k1, .inl (cI, 40, .inl c1)), (k4, .inr (8, [.ref k40, .ref k41, .ref k42, .ref k43, .ref k44, .ref k45, .ref k46, .ref k47, .ref k48, .int sc49_40])), (k5, .inr (3, [.ref k50, .int c51])), (k40, .inl (cI, 60, .inl sc40_41)), (k41, .inl (cI, 60, .inl sc41_42)), (k42, .inl (cI, 60, .inl sc42_43)), (k43, .inl (cI, 60, .inl sc43_44)), (k44, .inl (cI, 60, .inl sc44_45)), (k45, .inl (cI, 60, .inl sc45_46)), (k46, .inl (cI, 40, .inl sc46_47)), (k47, .inl (cI, 40, .inl sc47_48)), (k48, .inl (cI, 40, .inl sc48_49)), (k50, .inl (cI, 36, .inl sc50_50))] := hD
    have lo_sc49_40 := k_lo sc49_40
    have hi_sc49_40 := k_hi sc49_40
    have h_52 := w_39
    have h_52 : WR c0 c1 c2 c3 sc40_41 sc41_42 sc42_43 sc43_44 sc44_45 sc45_46 sc46_47 sc47_48 sc48_49 sc49_40 sc50_50 c51 c6 c7 c8 (digF gx a0.toInt.toNat) := h_52
    have h_52 : WR c0 c1 c2 c3 sc40_41 sc41_42 sc42_43 sc43_44 sc44_45 sc45_46 sc46_47 sc47_48 sc48_49 sc49_40 sc50_50 c51 c6 c7 c8 (digF gx a0.toInt.toNat) := h_52
    obtain ⟨gg_53, egg_53⟩ : ∃ g_ : Nat → Int32, g_ = (digF gx a0.toInt.toNat) := ⟨_, rfl⟩
    rw [← egg_53] at h_52
    have b_54 : 0 ≤ sc49_40.toInt ∧ sc49_40.toInt ≤ 60 := WKR.n0 (WR.kw h_52)
    have t_55 : sc49_40.toInt = (gg_53 1).toInt := WKR.nt (WR.kw h_52)
    have t_56 : c51.toInt = (gg_53 2).toInt := PTR.nt (WR.kp h_52)
    have t_57 : c8.toInt = (gg_53 0).toInt := by rw [WR.dd h_52]
    exact hRet (sc49_40, sc40_41, sc41_42, sc42_43, sc43_44, sc44_45, sc45_46, sc46_47, sc47_48, sc48_49, sc50_50) [0, 1, 2, 3, 4, 5, 6, 7, 8, 9, 10, 11, 12, 13, 14] (WR.gt h_52 ((wrk_dig h_9 h_20).trans egg_53.symm)) hP hD (by decide +kernel) rfl hS dX9_labour_46
  · exfalso; omega
